/-! X10_choosePairs -/
abbrev wX10_choosePairs (cI : ClassId) (q q_sayableByPair q_chosenPairs q_now q_draft q_images q_kinds q_text q_duel q_cover q_clashes q_tally : Nat) (m_imagesKept : Int32) (m_bads : Int32) (m_nos : Int32) (m_fulls : Int32) (m_above : Int64) (m_below : Int64) (m_sayableByPair : Nat → Int32) (m_chosenPairs : Nat → Int32) : va_W := [(q, .inr (10, [.ref q_now, .ref q_draft, .ref q_images, .int m_imagesKept, .ref q_kinds, .ref q_text, .ref q_duel, .ref q_cover, .int m_bads, .int m_nos, .int m_fulls, .long m_above, .long m_below, .ref q_clashes, .ref q_tally, .ref q_sayableByPair, .ref q_chosenPairs])), (q_sayableByPair, .inl (cI, 28, .inl m_sayableByPair)), (q_chosenPairs, .inl (cI, 2, .inl m_chosenPairs))]
abbrev rX10_choosePairs : Room := { frames := 0, cells := 0, slots := 0, locals := 0 }
def fX10_choosePairs_b128 (N : Nat) (r54 : Int32 → Option (Int32 × (Nat → Int32))) (m_sayableByPair : Nat → Int32) (m_chosenPairs : Nat → Int32) (x2 : Int32) (x3 : Int32) : Option (Int32 × (Nat → Int32)) := (r54 ((x3 + 1)))
def fX10_choosePairs_b97 (N : Nat)  (m_chosenPairs : Nat → Int32) (x3 : Int32) (x4 : Int32) : Option (Int32 × (Nat → Int32)) := gm_chk x3 28 (gm_chk 0 2 (gm_chk x4 28 (gm_chk 1 2 (some (2, upd (upd m_chosenPairs (Int32.toNatClampNeg 0) ((gm_pairs (Int32.toNatClampNeg x3)))) (Int32.toNatClampNeg 1) ((gm_pairs (Int32.toNatClampNeg x4))))))))
def fX10_choosePairs_b67_body (N : Nat) (r54 : Int32 → Option (Int32 × (Nat → Int32))) (m_sayableByPair : Nat → Int32) (m_chosenPairs : Nat → Int32) (x2 : Int32) (x3 : Int32) (r67 : Int32 → Option (Int32 × (Nat → Int32))) (x4 : Int32) : Option (Int32 × (Nat → Int32)) := (if 28 ≤ x4 then (fX10_choosePairs_b128 N r54 m_sayableByPair m_chosenPairs x2 x3) else gm_chk x3 28 (gm_chk x4 28 ((if (x2 &&& (((m_sayableByPair (Int32.toNatClampNeg x3)) ||| (m_sayableByPair (Int32.toNatClampNeg x4))) ^^^ (-1))) = 0 then (fX10_choosePairs_b97 N  m_chosenPairs x3 x4) else (r67 ((x4 + 1)))))))
def fX10_choosePairs_b67 (N : Nat) (r54 : Int32 → Option (Int32 × (Nat → Int32))) (m_sayableByPair : Nat → Int32) (m_chosenPairs : Nat → Int32) (x2 : Int32) (x3 : Int32) (x4 : Int32) : Option (Int32 × (Nat → Int32)) := gm_fix (fX10_choosePairs_b67_body N r54 m_sayableByPair m_chosenPairs x2 x3) (fun _ => none) N x4
def fX10_choosePairs_b54_body (N : Nat)  (m_sayableByPair : Nat → Int32) (m_chosenPairs : Nat → Int32) (x2 : Int32) (r54 : Int32 → Option (Int32 × (Nat → Int32))) (x3 : Int32) : Option (Int32 × (Nat → Int32)) := (if 28 ≤ x3 then some ((-1), m_chosenPairs) else gm_let ((x3 + 1) : Int32) (fun (v4 : Int32) => (fX10_choosePairs_b67 N r54 m_sayableByPair m_chosenPairs x2 x3 v4)))
def fX10_choosePairs_b54 (N : Nat)  (m_sayableByPair : Nat → Int32) (m_chosenPairs : Nat → Int32) (x2 : Int32) (x3 : Int32) : Option (Int32 × (Nat → Int32)) := gm_fix (fX10_choosePairs_b54_body N  m_sayableByPair m_chosenPairs x2) (fun _ => none) N x3
def fX10_choosePairs_b52 (N : Nat)  (m_sayableByPair : Nat → Int32) (m_chosenPairs : Nat → Int32) (x2 : Int32) : Option (Int32 × (Nat → Int32)) := (fX10_choosePairs_b54 N  m_sayableByPair m_chosenPairs x2 0)
def fX10_choosePairs_b33 (N : Nat)  (m_chosenPairs : Nat → Int32) (x3 : Int32) : Option (Int32 × (Nat → Int32)) := gm_chk x3 28 (gm_chk 0 2 (some (1, upd m_chosenPairs (Int32.toNatClampNeg 0) ((gm_pairs (Int32.toNatClampNeg x3))))))
def fX10_choosePairs_b12_body (N : Nat)  (m_sayableByPair : Nat → Int32) (m_chosenPairs : Nat → Int32) (x2 : Int32) (r12 : Int32 → Option (Int32 × (Nat → Int32))) (x3 : Int32) : Option (Int32 × (Nat → Int32)) := (if 28 ≤ x3 then (fX10_choosePairs_b52 N  m_sayableByPair m_chosenPairs x2) else gm_chk x3 28 ((if (x2 &&& ((m_sayableByPair (Int32.toNatClampNeg x3)) ^^^ (-1))) = 0 then (fX10_choosePairs_b33 N  m_chosenPairs x3) else (r12 ((x3 + 1))))))
def fX10_choosePairs_b12 (N : Nat)  (m_sayableByPair : Nat → Int32) (m_chosenPairs : Nat → Int32) (x2 : Int32) (x3 : Int32) : Option (Int32 × (Nat → Int32)) := gm_fix (fX10_choosePairs_b12_body N  m_sayableByPair m_chosenPairs x2) (fun _ => none) N x3
def fX10_choosePairs (N : Nat) (m_sayableByPair : Nat → Int32) (m_chosenPairs : Nat → Int32) (x1 : Int32) (x2 : Int32) : Option (Int32 × (Nat → Int32)) := (if (x2 &&& (x1 ^^^ (-1))) = 0 then some (0, m_chosenPairs) else (fX10_choosePairs_b12 N  m_sayableByPair m_chosenPairs x2 0))
set_option maxRecDepth 20000 in
theorem inX10_choosePairs_X10 : ∀ w ∈ u_ws RX10 TX10 17, w ∈ wsX10_choosePairs := fun w h => by
  obtain ⟨k, hk, rfl⟩ := List.mem_map.mp h
  have hk2 := List.mem_range.mp hk
  exact List.mem_of_getElem? (i := 4 + k) (by rcases (show k = 0 ∨ k = 1 ∨ k = 2 ∨ k = 3 ∨ k = 4 ∨ k = 5 ∨ k = 6 ∨ k = 7 ∨ k = 8 ∨ k = 9 ∨ k = 10 ∨ k = 11 ∨ k = 12 ∨ k = 13 ∨ k = 14 ∨ k = 15 ∨ k = 16 by omega) with rfl | rfl | rfl | rfl | rfl | rfl | rfl | rfl | rfl | rfl | rfl | rfl | rfl | rfl | rfl | rfl | rfl <;> rfl)
set_option maxRecDepth 100000 in
set_option maxHeartbeats 4000000 in
theorem tX10_choosePairs_b128 {p : Program} {l : Launch} {e : Env} {s : State} {m : MethodId} {args : Array Value} {below : List Frame} {meth : Method} {c : Code} {A : Nat → Prop} {dC : Nat → ClassId} {dI : Nat → Nat → Nat} {cI : ClassId} {q q_sayableByPair q_chosenPairs q_now q_draft q_images q_kinds q_text q_duel q_cover q_clashes q_tally : Nat} {tP : Nat} {m_imagesKept : Int32} {m_bads : Int32} {m_nos : Int32} {m_fulls : Int32} {m_above : Int64} {m_below : Int64} {m_sayableByPair : Nat → Int32} {m_chosenPairs : Nat → Int32} {x2 : Int32} {x3 : Int32} (C0 : gm_C p s m args meth c (dC, dI) [(cI, .int)] A (gm_XP tP) RX10 cX10_choosePairs 5 (some .int) wsX10_choosePairs) {N : Nat} {out : Int32 × (Nat → Int32)} {r54 : Int32 → Option (Int32 × (Nat → Int32))} (hr54 : ∀ (x3 : Int32) (H : Heap) (locs : List Loc) (ls : Array Slot), r54 x3 = some out → gm_H (dC, dI) A s (wX10_choosePairs cI q q_sayableByPair q_chosenPairs q_now q_draft q_images q_kinds q_text q_duel q_cover q_clashes q_tally m_imagesKept m_bads m_nos m_fulls m_above m_below m_sayableByPair m_chosenPairs) H locs → lv_has ls 5 [(0, .ref q), (2, .int x2), (3, .int x3)] → W p l e rX10_choosePairs s m args below meth c H locs 0 0 (MQ below (gm_Q (dC, dI) [(cI, .int)] A (some (.int out.1)) (wX10_choosePairs cI q q_sayableByPair q_chosenPairs q_now q_draft q_images q_kinds q_text q_duel q_cover q_clashes q_tally m_imagesKept m_bads m_nos m_fulls m_above m_below m_sayableByPair out.2)) args s 0 0 A) (F0 m 54 ls []))   {H : Heap} {locs : List Loc} {ls : Array Slot} (h : fX10_choosePairs_b128 N r54 m_sayableByPair m_chosenPairs x2 x3 = some out) (hH : gm_H (dC, dI) A s (wX10_choosePairs cI q q_sayableByPair q_chosenPairs q_now q_draft q_images q_kinds q_text q_duel q_cover q_clashes q_tally m_imagesKept m_bads m_nos m_fulls m_above m_below m_sayableByPair m_chosenPairs) H locs) (hl : lv_has ls 5 [(0, .ref q), (2, .int x2), (3, .int x3)]) : W p l e rX10_choosePairs s m args below meth c H locs 0 0 (MQ below (gm_Q (dC, dI) [(cI, .int)] A (some (.int out.1)) (wX10_choosePairs cI q q_sayableByPair q_chosenPairs q_now q_draft q_images q_kinds q_text q_duel q_cover q_clashes q_tally m_imagesKept m_bads m_nos m_fulls m_above m_below m_sayableByPair out.2)) args s 0 0 A) (F0 m 128 ls []) := by
  obtain ⟨hx, hb, hml, hr, hown, hts, hA, hK, hX, hlocks⟩ := id C0
  unfold fX10_choosePairs_b128 at h
  refine lv_iinc (v := (x3 + 1)) (lv' := [(3, .int (x3 + 1)), (0, .ref q), (2, .int x2)]) hx hb dX10_choosePairs_128 hl (k := 2) rfl rfl (by decide) rfl (fun ls hl => ?_)
  refine lv_goto (tgt := 54) hx hb dX10_choosePairs_131 (by decide) ?_
  exact hr54 _ _ _ _ h hH (lv_sub hl [1, 2, 0] rfl)
set_option maxRecDepth 100000 in
set_option maxHeartbeats 4000000 in
theorem tX10_choosePairs_b97 {p : Program} {l : Launch} {e : Env} {s : State} {m : MethodId} {args : Array Value} {below : List Frame} {meth : Method} {c : Code} {A : Nat → Prop} {dC : Nat → ClassId} {dI : Nat → Nat → Nat} {cI : ClassId} {q q_sayableByPair q_chosenPairs q_now q_draft q_images q_kinds q_text q_duel q_cover q_clashes q_tally : Nat} {tP : Nat} {m_imagesKept : Int32} {m_bads : Int32} {m_nos : Int32} {m_fulls : Int32} {m_above : Int64} {m_below : Int64} {m_sayableByPair : Nat → Int32} {m_chosenPairs : Nat → Int32} {x3 : Int32} {x4 : Int32} (C0 : gm_C p s m args meth c (dC, dI) [(cI, .int)] A (gm_XP tP) RX10 cX10_choosePairs 5 (some .int) wsX10_choosePairs) {N : Nat} {out : Int32 × (Nat → Int32)}    {H : Heap} {locs : List Loc} {ls : Array Slot} (h : fX10_choosePairs_b97 N  m_chosenPairs x3 x4 = some out) (hH : gm_H (dC, dI) A s (wX10_choosePairs cI q q_sayableByPair q_chosenPairs q_now q_draft q_images q_kinds q_text q_duel q_cover q_clashes q_tally m_imagesKept m_bads m_nos m_fulls m_above m_below m_sayableByPair m_chosenPairs) H locs) (hl : lv_has ls 5 [(0, .ref q), (3, .int x3), (4, .int x4)]) : W p l e rX10_choosePairs s m args below meth c H locs 0 0 (MQ below (gm_Q (dC, dI) [(cI, .int)] A (some (.int out.1)) (wX10_choosePairs cI q q_sayableByPair q_chosenPairs q_now q_draft q_images q_kinds q_text q_duel q_cover q_clashes q_tally m_imagesKept m_bads m_nos m_fulls m_above m_below m_sayableByPair out.2)) args s 0 0 A) (F0 m 97 ls []) := by
  obtain ⟨hx, hb, hml, hr, hown, hts, hA, hK, hX, hlocks⟩ := id C0
  unfold fX10_choosePairs_b97 at h
  refine lv_aload_n hx hb dX10_choosePairs_97 rfl (lv_at hl 0 rfl) ?_
  refine gm_get (ci := 10) C0 hH inX10_choosePairs_X10 0 16 3 rfl rfl (by decide) rfl rfl dX10_choosePairs_98 ?_
  refine lv_iconst (v := 0) hx hb dX10_choosePairs_101 (by decide) ?_
  refine va_gets hx hb hX.1 hH.2.2 hown (gm_at C0 1 rfl) (fun _ h => h) dX10_choosePairs_102 ?_
  refine lv_iload_n hx hb dX10_choosePairs_105 rfl (lv_at hl 1 rfl) ?_
  obtain ⟨hi9, h⟩ := gm_chk_e h
  refine va_ti hx hb hX.2.1 hH.2.2 hi9 rfl dX10_choosePairs_106 ?_
  obtain ⟨hi10, h⟩ := gm_chk_e h
  refine gm_iast C0 hH hi10 2 0 rfl rfl dX10_choosePairs_107 (fun H locs hH => ?_)
  have hH : gm_H (dC, dI) A s (wX10_choosePairs cI q q_sayableByPair q_chosenPairs q_now q_draft q_images q_kinds q_text q_duel q_cover q_clashes q_tally m_imagesKept m_bads m_nos m_fulls m_above m_below m_sayableByPair (upd m_chosenPairs (Int32.toNatClampNeg 0) ((gm_pairs (Int32.toNatClampNeg x3))))) H locs := hH
  refine lv_aload_n hx hb dX10_choosePairs_108 rfl (lv_at hl 0 rfl) ?_
  refine gm_get (ci := 10) C0 hH inX10_choosePairs_X10 0 16 3 rfl rfl (by decide) rfl rfl dX10_choosePairs_109 ?_
  refine lv_iconst (v := 1) hx hb dX10_choosePairs_112 (by decide) ?_
  refine va_gets hx hb hX.1 hH.2.2 hown (gm_at C0 1 rfl) (fun _ h => h) dX10_choosePairs_113 ?_
  refine lv_iload hx hb dX10_choosePairs_116 (lv_at hl 2 rfl) ?_
  obtain ⟨hi11, h⟩ := gm_chk_e h
  refine va_ti hx hb hX.2.1 hH.2.2 hi11 rfl dX10_choosePairs_118 ?_
  obtain ⟨hi12, h⟩ := gm_chk_e h
  refine gm_iast C0 hH hi12 2 0 rfl rfl dX10_choosePairs_119 (fun H locs hH => ?_)
  have hH : gm_H (dC, dI) A s (wX10_choosePairs cI q q_sayableByPair q_chosenPairs q_now q_draft q_images q_kinds q_text q_duel q_cover q_clashes q_tally m_imagesKept m_bads m_nos m_fulls m_above m_below m_sayableByPair (upd (upd m_chosenPairs (Int32.toNatClampNeg 0) ((gm_pairs (Int32.toNatClampNeg x3)))) (Int32.toNatClampNeg 1) ((gm_pairs (Int32.toNatClampNeg x4))))) H locs := hH
  refine lv_iconst (v := 2) hx hb dX10_choosePairs_120 (by decide) ?_
  obtain rfl := Option.some.inj h
  exact gm_iret C0 hH dX10_choosePairs_121
set_option maxRecDepth 100000 in
set_option maxHeartbeats 4000000 in
theorem tX10_choosePairs_b67 {p : Program} {l : Launch} {e : Env} {s : State} {m : MethodId} {args : Array Value} {below : List Frame} {meth : Method} {c : Code} {A : Nat → Prop} {dC : Nat → ClassId} {dI : Nat → Nat → Nat} {cI : ClassId} {q q_sayableByPair q_chosenPairs q_now q_draft q_images q_kinds q_text q_duel q_cover q_clashes q_tally : Nat} {tP : Nat} {m_imagesKept : Int32} {m_bads : Int32} {m_nos : Int32} {m_fulls : Int32} {m_above : Int64} {m_below : Int64} {m_sayableByPair : Nat → Int32} {m_chosenPairs : Nat → Int32} {x2 : Int32} {x3 : Int32} (C0 : gm_C p s m args meth c (dC, dI) [(cI, .int)] A (gm_XP tP) RX10 cX10_choosePairs 5 (some .int) wsX10_choosePairs) {N : Nat} {out : Int32 × (Nat → Int32)} {r54 : Int32 → Option (Int32 × (Nat → Int32))} (hr54 : ∀ (x3 : Int32) (H : Heap) (locs : List Loc) (ls : Array Slot), r54 x3 = some out → gm_H (dC, dI) A s (wX10_choosePairs cI q q_sayableByPair q_chosenPairs q_now q_draft q_images q_kinds q_text q_duel q_cover q_clashes q_tally m_imagesKept m_bads m_nos m_fulls m_above m_below m_sayableByPair m_chosenPairs) H locs → lv_has ls 5 [(0, .ref q), (2, .int x2), (3, .int x3)] → W p l e rX10_choosePairs s m args below meth c H locs 0 0 (MQ below (gm_Q (dC, dI) [(cI, .int)] A (some (.int out.1)) (wX10_choosePairs cI q q_sayableByPair q_chosenPairs q_now q_draft q_images q_kinds q_text q_duel q_cover q_clashes q_tally m_imagesKept m_bads m_nos m_fulls m_above m_below m_sayableByPair out.2)) args s 0 0 A) (F0 m 54 ls []))  : ∀ (n : Nat), ∀ (x4 : Int32) (H : Heap) (locs : List Loc) (ls : Array Slot), (gm_fix (fX10_choosePairs_b67_body N r54 m_sayableByPair m_chosenPairs x2 x3) (fun _ => none) n) x4 = some out → gm_H (dC, dI) A s (wX10_choosePairs cI q q_sayableByPair q_chosenPairs q_now q_draft q_images q_kinds q_text q_duel q_cover q_clashes q_tally m_imagesKept m_bads m_nos m_fulls m_above m_below m_sayableByPair m_chosenPairs) H locs → lv_has ls 5 [(0, .ref q), (2, .int x2), (3, .int x3), (4, .int x4)] → W p l e rX10_choosePairs s m args below meth c H locs 0 0 (MQ below (gm_Q (dC, dI) [(cI, .int)] A (some (.int out.1)) (wX10_choosePairs cI q q_sayableByPair q_chosenPairs q_now q_draft q_images q_kinds q_text q_duel q_cover q_clashes q_tally m_imagesKept m_bads m_nos m_fulls m_above m_below m_sayableByPair out.2)) args s 0 0 A) (F0 m 67 ls []) := by
  obtain ⟨hx, hb, hml, hr, hown, hts, hA, hK, hX, hlocks⟩ := id C0
  intro n
  induction n with
  | zero =>
    intro x4 H locs ls h hH hl
    cases h
  | succ n hr67 =>
    intro x4 H locs ls h hH hl
    rw [gm_fix_s] at h
    unfold fX10_choosePairs_b67_body at h
    refine lv_iload hx hb dX10_choosePairs_67 (lv_at hl 3 rfl) ?_
    refine va_gets hx hb hX.1 hH.2.2 hown (gm_at C0 1 rfl) (fun _ h => h) dX10_choosePairs_69 ?_
    refine va_tlen (v := 28) hx hb hX.2.1 hH.2.2 rfl dX10_choosePairs_72 ?_
    refine lv_icmp_ge (tgt := 128) hx hb dX10_choosePairs_73 (by decide) (fun hc5 => ?_) (fun hc5 => ?_)
    · replace h := gm_pos hc5 h
      exact tX10_choosePairs_b128 C0 hr54 h hH (lv_sub hl [0, 1, 2] rfl)
    · replace h := gm_neg hc5 h
      refine lv_iload_n hx hb dX10_choosePairs_76 rfl (lv_at hl 1 rfl) ?_
      refine lv_aload_n hx hb dX10_choosePairs_77 rfl (lv_at hl 0 rfl) ?_
      refine gm_get (ci := 10) C0 hH inX10_choosePairs_X10 0 15 2 rfl rfl (by decide) rfl rfl dX10_choosePairs_78 ?_
      refine lv_iload_n hx hb dX10_choosePairs_81 rfl (lv_at hl 2 rfl) ?_
      obtain ⟨hi6, h⟩ := gm_chk_e h
      refine gm_iald C0 hH hi6 1 0 rfl rfl dX10_choosePairs_82 ?_
      refine lv_aload_n hx hb dX10_choosePairs_83 rfl (lv_at hl 0 rfl) ?_
      refine gm_get (ci := 10) C0 hH inX10_choosePairs_X10 0 15 2 rfl rfl (by decide) rfl rfl dX10_choosePairs_84 ?_
      refine lv_iload hx hb dX10_choosePairs_87 (lv_at hl 3 rfl) ?_
      obtain ⟨hi7, h⟩ := gm_chk_e h
      refine gm_iald C0 hH hi7 1 0 rfl rfl dX10_choosePairs_89 ?_
      refine lv_ior hx hb dX10_choosePairs_90 ?_
      refine lv_iconst (v := (-1)) hx hb dX10_choosePairs_91 (by decide) ?_
      refine lv_ixor hx hb dX10_choosePairs_92 ?_
      refine lv_iand hx hb dX10_choosePairs_93 ?_
      refine lv_if_ne (tgt := 122) hx hb dX10_choosePairs_94 (by decide) (fun hc8 => ?_) (fun hc8 => ?_)
      · replace h := gm_neg hc8 h
        refine lv_iinc (v := (x4 + 1)) (lv' := [(4, .int (x4 + 1)), (0, .ref q), (2, .int x2), (3, .int x3)]) hx hb dX10_choosePairs_122 hl (k := 3) rfl rfl (by decide) rfl (fun ls hl => ?_)
        refine lv_goto (tgt := 67) hx hb dX10_choosePairs_125 (by decide) ?_
        exact hr67 _ _ _ _ h hH (lv_sub hl [1, 2, 3, 0] rfl)
      · replace h := gm_pos hc8 h
        exact tX10_choosePairs_b97 C0  h hH (lv_sub hl [0, 2, 3] rfl)
set_option maxRecDepth 100000 in
set_option maxHeartbeats 4000000 in
theorem tX10_choosePairs_b54 {p : Program} {l : Launch} {e : Env} {s : State} {m : MethodId} {args : Array Value} {below : List Frame} {meth : Method} {c : Code} {A : Nat → Prop} {dC : Nat → ClassId} {dI : Nat → Nat → Nat} {cI : ClassId} {q q_sayableByPair q_chosenPairs q_now q_draft q_images q_kinds q_text q_duel q_cover q_clashes q_tally : Nat} {tP : Nat} {m_imagesKept : Int32} {m_bads : Int32} {m_nos : Int32} {m_fulls : Int32} {m_above : Int64} {m_below : Int64} {m_sayableByPair : Nat → Int32} {m_chosenPairs : Nat → Int32} {x2 : Int32} (C0 : gm_C p s m args meth c (dC, dI) [(cI, .int)] A (gm_XP tP) RX10 cX10_choosePairs 5 (some .int) wsX10_choosePairs) {N : Nat} {out : Int32 × (Nat → Int32)}   : ∀ (n : Nat), ∀ (x3 : Int32) (H : Heap) (locs : List Loc) (ls : Array Slot), (gm_fix (fX10_choosePairs_b54_body N  m_sayableByPair m_chosenPairs x2) (fun _ => none) n) x3 = some out → gm_H (dC, dI) A s (wX10_choosePairs cI q q_sayableByPair q_chosenPairs q_now q_draft q_images q_kinds q_text q_duel q_cover q_clashes q_tally m_imagesKept m_bads m_nos m_fulls m_above m_below m_sayableByPair m_chosenPairs) H locs → lv_has ls 5 [(0, .ref q), (2, .int x2), (3, .int x3)] → W p l e rX10_choosePairs s m args below meth c H locs 0 0 (MQ below (gm_Q (dC, dI) [(cI, .int)] A (some (.int out.1)) (wX10_choosePairs cI q q_sayableByPair q_chosenPairs q_now q_draft q_images q_kinds q_text q_duel q_cover q_clashes q_tally m_imagesKept m_bads m_nos m_fulls m_above m_below m_sayableByPair out.2)) args s 0 0 A) (F0 m 54 ls []) := by
  obtain ⟨hx, hb, hml, hr, hown, hts, hA, hK, hX, hlocks⟩ := id C0
  intro n
  induction n with
  | zero =>
    intro x3 H locs ls h hH hl
    cases h
  | succ n hr54 =>
    intro x3 H locs ls h hH hl
    rw [gm_fix_s] at h
    unfold fX10_choosePairs_b54_body at h
    refine lv_iload_n hx hb dX10_choosePairs_54 rfl (lv_at hl 2 rfl) ?_
    refine va_gets hx hb hX.1 hH.2.2 hown (gm_at C0 1 rfl) (fun _ h => h) dX10_choosePairs_55 ?_
    refine va_tlen (v := 28) hx hb hX.2.1 hH.2.2 rfl dX10_choosePairs_58 ?_
    refine lv_icmp_ge (tgt := 134) hx hb dX10_choosePairs_59 (by decide) (fun hc3 => ?_) (fun hc3 => ?_)
    · replace h := gm_pos hc3 h
      refine lv_iconst (v := (-1)) hx hb dX10_choosePairs_134 (by decide) ?_
      obtain rfl := Option.some.inj h
      exact gm_iret C0 hH dX10_choosePairs_135
    · replace h := gm_neg hc3 h
      refine lv_iload_n hx hb dX10_choosePairs_62 rfl (lv_at hl 2 rfl) ?_
      refine lv_iconst (v := 1) hx hb dX10_choosePairs_63 (by decide) ?_
      refine lv_iadd hx hb dX10_choosePairs_64 ?_
      refine lv_topi (fun v4 ev4 => ?_)
      replace h := gm_let_e ev4 h
      refine lv_istore (lv' := [(4, .int v4), (0, .ref q), (2, .int x2), (3, .int x3)]) hx hb dX10_choosePairs_65 hl (by decide) rfl (fun ls hl => ?_)
      unfold fX10_choosePairs_b67 at h
      exact tX10_choosePairs_b67 C0 hr54 _ _ _ _ _ h hH (lv_sub hl [1, 2, 3, 0] rfl)
set_option maxRecDepth 100000 in
set_option maxHeartbeats 4000000 in
theorem tX10_choosePairs_b52 {p : Program} {l : Launch} {e : Env} {s : State} {m : MethodId} {args : Array Value} {below : List Frame} {meth : Method} {c : Code} {A : Nat → Prop} {dC : Nat → ClassId} {dI : Nat → Nat → Nat} {cI : ClassId} {q q_sayableByPair q_chosenPairs q_now q_draft q_images q_kinds q_text q_duel q_cover q_clashes q_tally : Nat} {tP : Nat} {m_imagesKept : Int32} {m_bads : Int32} {m_nos : Int32} {m_fulls : Int32} {m_above : Int64} {m_below : Int64} {m_sayableByPair : Nat → Int32} {m_chosenPairs : Nat → Int32} {x2 : Int32} (C0 : gm_C p s m args meth c (dC, dI) [(cI, .int)] A (gm_XP tP) RX10 cX10_choosePairs 5 (some .int) wsX10_choosePairs) {N : Nat} {out : Int32 × (Nat → Int32)}    {H : Heap} {locs : List Loc} {ls : Array Slot} (h : fX10_choosePairs_b52 N  m_sayableByPair m_chosenPairs x2 = some out) (hH : gm_H (dC, dI) A s (wX10_choosePairs cI q q_sayableByPair q_chosenPairs q_now q_draft q_images q_kinds q_text q_duel q_cover q_clashes q_tally m_imagesKept m_bads m_nos m_fulls m_above m_below m_sayableByPair m_chosenPairs) H locs) (hl : lv_has ls 5 [(0, .ref q), (2, .int x2)]) : W p l e rX10_choosePairs s m args below meth c H locs 0 0 (MQ below (gm_Q (dC, dI) [(cI, .int)] A (some (.int out.1)) (wX10_choosePairs cI q q_sayableByPair q_chosenPairs q_now q_draft q_images q_kinds q_text q_duel q_cover q_clashes q_tally m_imagesKept m_bads m_nos m_fulls m_above m_below m_sayableByPair out.2)) args s 0 0 A) (F0 m 52 ls []) := by
  obtain ⟨hx, hb, hml, hr, hown, hts, hA, hK, hX, hlocks⟩ := id C0
  unfold fX10_choosePairs_b52 at h
  refine lv_iconst (v := 0) hx hb dX10_choosePairs_52 (by decide) ?_
  refine lv_istore_n (lv' := [(3, .int 0), (0, .ref q), (2, .int x2)]) hx hb dX10_choosePairs_53 rfl hl (by decide) rfl (fun ls hl => ?_)
  unfold fX10_choosePairs_b54 at h
  exact tX10_choosePairs_b54 C0  _ _ _ _ _ h hH (lv_sub hl [1, 2, 0] rfl)
set_option maxRecDepth 100000 in
set_option maxHeartbeats 4000000 in
theorem tX10_choosePairs_b33 {p : Program} {l : Launch} {e : Env} {s : State} {m : MethodId} {args : Array Value} {below : List Frame} {meth : Method} {c : Code} {A : Nat → Prop} {dC : Nat → ClassId} {dI : Nat → Nat → Nat} {cI : ClassId} {q q_sayableByPair q_chosenPairs q_now q_draft q_images q_kinds q_text q_duel q_cover q_clashes q_tally : Nat} {tP : Nat} {m_imagesKept : Int32} {m_bads : Int32} {m_nos : Int32} {m_fulls : Int32} {m_above : Int64} {m_below : Int64} {m_sayableByPair : Nat → Int32} {m_chosenPairs : Nat → Int32} {x3 : Int32} (C0 : gm_C p s m args meth c (dC, dI) [(cI, .int)] A (gm_XP tP) RX10 cX10_choosePairs 5 (some .int) wsX10_choosePairs) {N : Nat} {out : Int32 × (Nat → Int32)}    {H : Heap} {locs : List Loc} {ls : Array Slot} (h : fX10_choosePairs_b33 N  m_chosenPairs x3 = some out) (hH : gm_H (dC, dI) A s (wX10_choosePairs cI q q_sayableByPair q_chosenPairs q_now q_draft q_images q_kinds q_text q_duel q_cover q_clashes q_tally m_imagesKept m_bads m_nos m_fulls m_above m_below m_sayableByPair m_chosenPairs) H locs) (hl : lv_has ls 5 [(0, .ref q), (3, .int x3)]) : W p l e rX10_choosePairs s m args below meth c H locs 0 0 (MQ below (gm_Q (dC, dI) [(cI, .int)] A (some (.int out.1)) (wX10_choosePairs cI q q_sayableByPair q_chosenPairs q_now q_draft q_images q_kinds q_text q_duel q_cover q_clashes q_tally m_imagesKept m_bads m_nos m_fulls m_above m_below m_sayableByPair out.2)) args s 0 0 A) (F0 m 33 ls []) := by
  obtain ⟨hx, hb, hml, hr, hown, hts, hA, hK, hX, hlocks⟩ := id C0
  unfold fX10_choosePairs_b33 at h
  refine lv_aload_n hx hb dX10_choosePairs_33 rfl (lv_at hl 0 rfl) ?_
  refine gm_get (ci := 10) C0 hH inX10_choosePairs_X10 0 16 3 rfl rfl (by decide) rfl rfl dX10_choosePairs_34 ?_
  refine lv_iconst (v := 0) hx hb dX10_choosePairs_37 (by decide) ?_
  refine va_gets hx hb hX.1 hH.2.2 hown (gm_at C0 1 rfl) (fun _ h => h) dX10_choosePairs_38 ?_
  refine lv_iload_n hx hb dX10_choosePairs_41 rfl (lv_at hl 1 rfl) ?_
  obtain ⟨hi15, h⟩ := gm_chk_e h
  refine va_ti hx hb hX.2.1 hH.2.2 hi15 rfl dX10_choosePairs_42 ?_
  obtain ⟨hi16, h⟩ := gm_chk_e h
  refine gm_iast C0 hH hi16 2 0 rfl rfl dX10_choosePairs_43 (fun H locs hH => ?_)
  have hH : gm_H (dC, dI) A s (wX10_choosePairs cI q q_sayableByPair q_chosenPairs q_now q_draft q_images q_kinds q_text q_duel q_cover q_clashes q_tally m_imagesKept m_bads m_nos m_fulls m_above m_below m_sayableByPair (upd m_chosenPairs (Int32.toNatClampNeg 0) ((gm_pairs (Int32.toNatClampNeg x3))))) H locs := hH
  refine lv_iconst (v := 1) hx hb dX10_choosePairs_44 (by decide) ?_
  obtain rfl := Option.some.inj h
  exact gm_iret C0 hH dX10_choosePairs_45
set_option maxRecDepth 100000 in
set_option maxHeartbeats 4000000 in
theorem tX10_choosePairs_b12 {p : Program} {l : Launch} {e : Env} {s : State} {m : MethodId} {args : Array Value} {below : List Frame} {meth : Method} {c : Code} {A : Nat → Prop} {dC : Nat → ClassId} {dI : Nat → Nat → Nat} {cI : ClassId} {q q_sayableByPair q_chosenPairs q_now q_draft q_images q_kinds q_text q_duel q_cover q_clashes q_tally : Nat} {tP : Nat} {m_imagesKept : Int32} {m_bads : Int32} {m_nos : Int32} {m_fulls : Int32} {m_above : Int64} {m_below : Int64} {m_sayableByPair : Nat → Int32} {m_chosenPairs : Nat → Int32} {x2 : Int32} (C0 : gm_C p s m args meth c (dC, dI) [(cI, .int)] A (gm_XP tP) RX10 cX10_choosePairs 5 (some .int) wsX10_choosePairs) {N : Nat} {out : Int32 × (Nat → Int32)}   : ∀ (n : Nat), ∀ (x3 : Int32) (H : Heap) (locs : List Loc) (ls : Array Slot), (gm_fix (fX10_choosePairs_b12_body N  m_sayableByPair m_chosenPairs x2) (fun _ => none) n) x3 = some out → gm_H (dC, dI) A s (wX10_choosePairs cI q q_sayableByPair q_chosenPairs q_now q_draft q_images q_kinds q_text q_duel q_cover q_clashes q_tally m_imagesKept m_bads m_nos m_fulls m_above m_below m_sayableByPair m_chosenPairs) H locs → lv_has ls 5 [(0, .ref q), (2, .int x2), (3, .int x3)] → W p l e rX10_choosePairs s m args below meth c H locs 0 0 (MQ below (gm_Q (dC, dI) [(cI, .int)] A (some (.int out.1)) (wX10_choosePairs cI q q_sayableByPair q_chosenPairs q_now q_draft q_images q_kinds q_text q_duel q_cover q_clashes q_tally m_imagesKept m_bads m_nos m_fulls m_above m_below m_sayableByPair out.2)) args s 0 0 A) (F0 m 12 ls []) := by
  obtain ⟨hx, hb, hml, hr, hown, hts, hA, hK, hX, hlocks⟩ := id C0
  intro n
  induction n with
  | zero =>
    intro x3 H locs ls h hH hl
    cases h
  | succ n hr12 =>
    intro x3 H locs ls h hH hl
    rw [gm_fix_s] at h
    unfold fX10_choosePairs_b12_body at h
    refine lv_iload_n hx hb dX10_choosePairs_12 rfl (lv_at hl 2 rfl) ?_
    refine va_gets hx hb hX.1 hH.2.2 hown (gm_at C0 1 rfl) (fun _ h => h) dX10_choosePairs_13 ?_
    refine va_tlen (v := 28) hx hb hX.2.1 hH.2.2 rfl dX10_choosePairs_16 ?_
    refine lv_icmp_ge (tgt := 52) hx hb dX10_choosePairs_17 (by decide) (fun hc2 => ?_) (fun hc2 => ?_)
    · replace h := gm_pos hc2 h
      exact tX10_choosePairs_b52 C0  h hH (lv_sub hl [0, 1] rfl)
    · replace h := gm_neg hc2 h
      refine lv_iload_n hx hb dX10_choosePairs_20 rfl (lv_at hl 1 rfl) ?_
      refine lv_aload_n hx hb dX10_choosePairs_21 rfl (lv_at hl 0 rfl) ?_
      refine gm_get (ci := 10) C0 hH inX10_choosePairs_X10 0 15 2 rfl rfl (by decide) rfl rfl dX10_choosePairs_22 ?_
      refine lv_iload_n hx hb dX10_choosePairs_25 rfl (lv_at hl 2 rfl) ?_
      obtain ⟨hi13, h⟩ := gm_chk_e h
      refine gm_iald C0 hH hi13 1 0 rfl rfl dX10_choosePairs_26 ?_
      refine lv_iconst (v := (-1)) hx hb dX10_choosePairs_27 (by decide) ?_
      refine lv_ixor hx hb dX10_choosePairs_28 ?_
      refine lv_iand hx hb dX10_choosePairs_29 ?_
      refine lv_if_ne (tgt := 46) hx hb dX10_choosePairs_30 (by decide) (fun hc14 => ?_) (fun hc14 => ?_)
      · replace h := gm_neg hc14 h
        refine lv_iinc (v := (x3 + 1)) (lv' := [(3, .int (x3 + 1)), (0, .ref q), (2, .int x2)]) hx hb dX10_choosePairs_46 hl (k := 2) rfl rfl (by decide) rfl (fun ls hl => ?_)
        refine lv_goto (tgt := 12) hx hb dX10_choosePairs_49 (by decide) ?_
        exact hr12 _ _ _ _ h hH (lv_sub hl [1, 2, 0] rfl)
      · replace h := gm_pos hc14 h
        exact tX10_choosePairs_b33 C0  h hH (lv_sub hl [0, 2] rfl)
set_option maxRecDepth 100000 in
set_option maxHeartbeats 4000000 in
theorem mX10_choosePairs (l : Launch) (dC : Nat → ClassId) (dI : Nat → Nat → Nat) (cI : ClassId) (q q_sayableByPair q_chosenPairs q_now q_draft q_images q_kinds q_text q_duel q_cover q_clashes q_tally : Nat) (m_imagesKept : Int32) (m_bads : Int32) (m_nos : Int32) (m_fulls : Int32) (m_above : Int64) (m_below : Int64) (m_sayableByPair : Nat → Int32) (m_chosenPairs : Nat → Int32) (x1 : Int32) (x2 : Int32) (tP : Nat)  {N : Nat} {out : Int32 × (Nat → Int32)} (h : fX10_choosePairs N m_sayableByPair m_chosenPairs x1 x2 = some out) : gm_Met l yX10_choosePairs wsX10_choosePairs rX10_choosePairs (dC, dI) [(cI, .int)] (gm_XP tP) [.ref q, .int x1, .int x2] (wX10_choosePairs cI q q_sayableByPair q_chosenPairs q_now q_draft q_images q_kinds q_text q_duel q_cover q_clashes q_tally m_imagesKept m_bads m_nos m_fulls m_above m_below m_sayableByPair m_chosenPairs) (some (.int out.1)) (wX10_choosePairs cI q q_sayableByPair q_chosenPairs q_now q_draft q_images q_kinds q_text q_duel q_cover q_clashes q_tally m_imagesKept m_bads m_nos m_fulls m_above m_below m_sayableByPair out.2) := by
  refine gm_ofW (cc := cX10_choosePairs) (maxL := 5) (ret := (some .int)) (by decide +kernel) rfl (Nat.le_of_ble_eq_true rfl) ?_
  intro p e s m below meth c A C0 hH ls hl
  generalize ([.ref q, .int x1, .int x2] : List Value).toArray = args at C0 ⊢
  have hl : lv_has ls 5 [(0, .ref q), (1, .int x1), (2, .int x2)] := hl
  generalize s.heap = H at hH ⊢
  generalize ([] : List Loc) = locs at hH ⊢
  obtain ⟨hx, hb, hml, hr, hown, hts, hA, hK, hX, hlocks⟩ := id C0
  unfold fX10_choosePairs at h
  refine lv_iload_n hx hb dX10_choosePairs_0 rfl (lv_at hl 2 rfl) ?_
  refine lv_iload_n hx hb dX10_choosePairs_1 rfl (lv_at hl 1 rfl) ?_
  refine lv_iconst (v := (-1)) hx hb dX10_choosePairs_2 (by decide) ?_
  refine lv_ixor hx hb dX10_choosePairs_3 ?_
  refine lv_iand hx hb dX10_choosePairs_4 ?_
  refine lv_if_ne (tgt := 10) hx hb dX10_choosePairs_5 (by decide) (fun hc1 => ?_) (fun hc1 => ?_)
  · replace h := gm_neg hc1 h
    refine lv_iconst (v := 0) hx hb dX10_choosePairs_10 (by decide) ?_
    refine lv_istore_n (lv' := [(3, .int 0), (0, .ref q), (1, .int x1), (2, .int x2)]) hx hb dX10_choosePairs_11 rfl hl (by decide) rfl (fun ls hl => ?_)
    unfold fX10_choosePairs_b12 at h
    exact tX10_choosePairs_b12 C0  _ _ _ _ _ h hH (lv_sub hl [1, 3, 0] rfl)
  · replace h := gm_pos hc1 h
    refine lv_iconst (v := 0) hx hb dX10_choosePairs_8 (by decide) ?_
    obtain rfl := Option.some.inj h
    exact gm_iret C0 hH dX10_choosePairs_9

/-! X10_allow -/
abbrev wX10_allow (cI cR : ClassId) (q q_now q_now_ending q_now_meaning q_now_cost q_now_alikeTo q_now_kind q_now_want q_now_saidAhead q_now_heardWord q_now_heardAnswer q_draft q_draft_ending q_draft_meaning q_draft_cost q_draft_alikeTo q_draft_kind q_draft_want q_draft_saidAhead q_draft_heardWord q_draft_heardAnswer q_kinds q_kinds_0 q_kinds_1 q_kinds_2 q_kinds_3 q_kinds_4 q_kinds_5 q_sayableByPair q_chosenPairs q_images q_text q_duel q_cover q_clashes q_tally : Nat) (m_imagesKept : Int32) (m_bads : Int32) (m_nos : Int32) (m_fulls : Int32) (m_above : Int64) (m_below : Int64) (m_now_words : Int32) (m_now_people : Int32) (m_now_said : Int32) (m_now_undos : Int32) (m_now_heard : Int32) (m_now_ending : Nat → Int32) (m_now_meaning : Nat → Int32) (m_now_cost : Nat → Int32) (m_now_alikeTo : Nat → Int32) (m_now_kind : Nat → Int32) (m_now_want : Nat → Int32) (m_now_saidAhead : Nat → Int32) (m_now_heardWord : Nat → Int32) (m_now_heardAnswer : Nat → Int32) (m_draft_words : Int32) (m_draft_people : Int32) (m_draft_said : Int32) (m_draft_undos : Int32) (m_draft_heard : Int32) (m_draft_ending : Nat → Int32) (m_draft_meaning : Nat → Int32) (m_draft_cost : Nat → Int32) (m_draft_alikeTo : Nat → Int32) (m_draft_kind : Nat → Int32) (m_draft_want : Nat → Int32) (m_draft_saidAhead : Nat → Int32) (m_draft_heardWord : Nat → Int32) (m_draft_heardAnswer : Nat → Int32) (m_sayableByPair : Nat → Int32) (m_chosenPairs : Nat → Int32) : va_W := [(q, .inr (10, [.ref q_now, .ref q_draft, .ref q_images, .int m_imagesKept, .ref q_kinds, .ref q_text, .ref q_duel, .ref q_cover, .int m_bads, .int m_nos, .int m_fulls, .long m_above, .long m_below, .ref q_clashes, .ref q_tally, .ref q_sayableByPair, .ref q_chosenPairs])), (q_now, .inr (9, [.ref q_now_ending, .ref q_now_meaning, .ref q_now_cost, .int m_now_words, .ref q_now_alikeTo, .ref q_now_kind, .ref q_now_want, .int m_now_people, .int m_now_said, .ref q_now_saidAhead, .int m_now_undos, .ref q_now_heardWord, .ref q_now_heardAnswer, .int m_now_heard])), (q_now_ending, .inl (cI, 10, .inl m_now_ending)), (q_now_meaning, .inl (cI, 10, .inl m_now_meaning)), (q_now_cost, .inl (cI, 10, .inl m_now_cost)), (q_now_alikeTo, .inl (cI, 8, .inl m_now_alikeTo)), (q_now_kind, .inl (cI, 5, .inl m_now_kind)), (q_now_want, .inl (cI, 5, .inl m_now_want)), (q_now_saidAhead, .inl (cI, 8, .inl m_now_saidAhead)), (q_now_heardWord, .inl (cI, 6, .inl m_now_heardWord)), (q_now_heardAnswer, .inl (cI, 6, .inl m_now_heardAnswer)), (q_draft, .inr (9, [.ref q_draft_ending, .ref q_draft_meaning, .ref q_draft_cost, .int m_draft_words, .ref q_draft_alikeTo, .ref q_draft_kind, .ref q_draft_want, .int m_draft_people, .int m_draft_said, .ref q_draft_saidAhead, .int m_draft_undos, .ref q_draft_heardWord, .ref q_draft_heardAnswer, .int m_draft_heard])), (q_draft_ending, .inl (cI, 10, .inl m_draft_ending)), (q_draft_meaning, .inl (cI, 10, .inl m_draft_meaning)), (q_draft_cost, .inl (cI, 10, .inl m_draft_cost)), (q_draft_alikeTo, .inl (cI, 8, .inl m_draft_alikeTo)), (q_draft_kind, .inl (cI, 5, .inl m_draft_kind)), (q_draft_want, .inl (cI, 5, .inl m_draft_want)), (q_draft_saidAhead, .inl (cI, 8, .inl m_draft_saidAhead)), (q_draft_heardWord, .inl (cI, 6, .inl m_draft_heardWord)), (q_draft_heardAnswer, .inl (cI, 6, .inl m_draft_heardAnswer)), (q_kinds, .inl (cR, 6, .inr (.inr (.inr (.inr (gm_kd q_kinds_0 q_kinds_1 q_kinds_2 q_kinds_3 q_kinds_4 q_kinds_5)))))), (q_kinds_0, .inr (7, [])), (q_kinds_1, .inr (4, [])), (q_kinds_2, .inr (3, [])), (q_kinds_3, .inr (8, [])), (q_kinds_4, .inr (5, [])), (q_kinds_5, .inr (0, [])), (q_sayableByPair, .inl (cI, 28, .inl m_sayableByPair)), (q_chosenPairs, .inl (cI, 2, .inl m_chosenPairs))]
abbrev rX10_allow : Room := { frames := 6, cells := 0, slots := 0, locals := 143 }
def fX10_allow_b23 (N : Nat)  (m_bads : Int32) (m_nos : Int32) (m_fulls : Int32) (m_draft_words : Int32) (m_draft_people : Int32) (m_draft_said : Int32) (m_draft_undos : Int32) (m_draft_heard : Int32) (m_draft_ending : Nat → Int32) (m_draft_meaning : Nat → Int32) (m_draft_cost : Nat → Int32) (m_draft_alikeTo : Nat → Int32) (m_draft_kind : Nat → Int32) (m_draft_want : Nat → Int32) (m_draft_saidAhead : Nat → Int32) (m_draft_heardWord : Nat → Int32) (m_draft_heardAnswer : Nat → Int32) (m_sayableByPair : Nat → Int32) (m_chosenPairs : Nat → Int32) : Option (Int32 × Int32 × Int32 × Int32 × Int32 × Int32 × Int32 × Int32 × Int32 × (Nat → Int32) × (Nat → Int32) × (Nat → Int32) × (Nat → Int32) × (Nat → Int32) × (Nat → Int32) × (Nat → Int32) × (Nat → Int32) × (Nat → Int32) × (Nat → Int32) × (Nat → Int32)) := gm_bind (fX10_refuse N m_bads m_nos m_fulls ((-2))) (fun o3 => some ((-10), o3.2.1, o3.2.2.1, o3.2.2.2, m_draft_words, m_draft_people, m_draft_said, m_draft_undos, m_draft_heard, m_draft_ending, m_draft_meaning, m_draft_cost, m_draft_alikeTo, m_draft_kind, m_draft_want, m_draft_saidAhead, m_draft_heardWord, m_draft_heardAnswer, m_sayableByPair, m_chosenPairs))
def fX10_allow (N : Nat) (m_bads : Int32) (m_nos : Int32) (m_fulls : Int32) (m_now_words : Int32) (m_now_people : Int32) (m_now_said : Int32) (m_now_undos : Int32) (m_now_heard : Int32) (m_now_ending : Nat → Int32) (m_now_meaning : Nat → Int32) (m_now_cost : Nat → Int32) (m_now_alikeTo : Nat → Int32) (m_now_kind : Nat → Int32) (m_now_want : Nat → Int32) (m_now_saidAhead : Nat → Int32) (m_now_heardWord : Nat → Int32) (m_now_heardAnswer : Nat → Int32) (m_draft_words : Int32) (m_draft_people : Int32) (m_draft_said : Int32) (m_draft_undos : Int32) (m_draft_heard : Int32) (m_draft_ending : Nat → Int32) (m_draft_meaning : Nat → Int32) (m_draft_cost : Nat → Int32) (m_draft_alikeTo : Nat → Int32) (m_draft_kind : Nat → Int32) (m_draft_want : Nat → Int32) (m_draft_saidAhead : Nat → Int32) (m_draft_heardWord : Nat → Int32) (m_draft_heardAnswer : Nat → Int32) (m_sayableByPair : Nat → Int32) (m_chosenPairs : Nat → Int32) (x1 : Int32) (x2 : Int32) (x3 : Int32) : Option (Int32 × Int32 × Int32 × Int32 × Int32 × Int32 × Int32 × Int32 × Int32 × (Nat → Int32) × (Nat → Int32) × (Nat → Int32) × (Nat → Int32) × (Nat → Int32) × (Nat → Int32) × (Nat → Int32) × (Nat → Int32) × (Nat → Int32) × (Nat → Int32) × (Nat → Int32)) := gm_bind (fX10_isPerson N m_now_people x1) (fun o1 => (if o1 = 0 then (fX10_allow_b23 N  m_bads m_nos m_fulls m_draft_words m_draft_people m_draft_said m_draft_undos m_draft_heard m_draft_ending m_draft_meaning m_draft_cost m_draft_alikeTo m_draft_kind m_draft_want m_draft_saidAhead m_draft_heardWord m_draft_heardAnswer m_sayableByPair m_chosenPairs) else gm_bind (fX10_fits N x2 256) (fun o4 => (if o4 = 0 then (fX10_allow_b23 N  m_bads m_nos m_fulls m_draft_words m_draft_people m_draft_said m_draft_undos m_draft_heard m_draft_ending m_draft_meaning m_draft_cost m_draft_alikeTo m_draft_kind m_draft_want m_draft_saidAhead m_draft_heardWord m_draft_heardAnswer m_sayableByPair m_chosenPairs) else (if (-1) ≤ x3 then gm_bind (fX10_fillSayableByPair N m_now_words m_now_people m_now_said m_now_undos m_now_heard m_now_ending m_now_meaning m_now_cost m_now_alikeTo m_now_kind m_now_want m_now_saidAhead m_now_heardWord m_now_heardAnswer m_draft_words m_draft_people m_draft_said m_draft_undos m_draft_heard m_draft_ending m_draft_meaning m_draft_cost m_draft_alikeTo m_draft_kind m_draft_want m_draft_saidAhead m_draft_heardWord m_draft_heardAnswer m_sayableByPair x1) (fun o7 => gm_bind (fX10_sayableByAnyWord N m_now_words m_now_said m_now_ending m_now_meaning m_now_alikeTo m_now_kind m_now_want x1) (fun o8 => gm_bind (fX10_choosePairs N o7.2.2.2.2.2.2.2.2.2.2.2.2.2.2 m_chosenPairs o8 x2) (fun o9 => (if o9.1 = (-1) then some (o9.1, m_bads, m_nos, m_fulls, o7.1, o7.2.1, o7.2.2.1, o7.2.2.2.1, o7.2.2.2.2.1, o7.2.2.2.2.2.1, o7.2.2.2.2.2.2.1, o7.2.2.2.2.2.2.2.1, o7.2.2.2.2.2.2.2.2.1, o7.2.2.2.2.2.2.2.2.2.1, o7.2.2.2.2.2.2.2.2.2.2.1, o7.2.2.2.2.2.2.2.2.2.2.2.1, o7.2.2.2.2.2.2.2.2.2.2.2.2.1, o7.2.2.2.2.2.2.2.2.2.2.2.2.2.1, o7.2.2.2.2.2.2.2.2.2.2.2.2.2.2, o9.2) else (if x3 = (-1) then some (o9.1, m_bads, m_nos, m_fulls, o7.1, o7.2.1, o7.2.2.1, o7.2.2.2.1, o7.2.2.2.2.1, o7.2.2.2.2.2.1, o7.2.2.2.2.2.2.1, o7.2.2.2.2.2.2.2.1, o7.2.2.2.2.2.2.2.2.1, o7.2.2.2.2.2.2.2.2.2.1, o7.2.2.2.2.2.2.2.2.2.2.1, o7.2.2.2.2.2.2.2.2.2.2.2.1, o7.2.2.2.2.2.2.2.2.2.2.2.2.1, o7.2.2.2.2.2.2.2.2.2.2.2.2.2.1, o7.2.2.2.2.2.2.2.2.2.2.2.2.2.2, o9.2) else (if o9.1 ≤ x3 then some ((-5), m_bads, m_nos, m_fulls, o7.1, o7.2.1, o7.2.2.1, o7.2.2.2.1, o7.2.2.2.2.1, o7.2.2.2.2.2.1, o7.2.2.2.2.2.2.1, o7.2.2.2.2.2.2.2.1, o7.2.2.2.2.2.2.2.2.1, o7.2.2.2.2.2.2.2.2.2.1, o7.2.2.2.2.2.2.2.2.2.2.1, o7.2.2.2.2.2.2.2.2.2.2.2.1, o7.2.2.2.2.2.2.2.2.2.2.2.2.1, o7.2.2.2.2.2.2.2.2.2.2.2.2.2.1, o7.2.2.2.2.2.2.2.2.2.2.2.2.2.2, o9.2) else gm_chk x3 2 (some ((o9.2 (Int32.toNatClampNeg x3)), m_bads, m_nos, m_fulls, o7.1, o7.2.1, o7.2.2.1, o7.2.2.2.1, o7.2.2.2.2.1, o7.2.2.2.2.2.1, o7.2.2.2.2.2.2.1, o7.2.2.2.2.2.2.2.1, o7.2.2.2.2.2.2.2.2.1, o7.2.2.2.2.2.2.2.2.2.1, o7.2.2.2.2.2.2.2.2.2.2.1, o7.2.2.2.2.2.2.2.2.2.2.2.1, o7.2.2.2.2.2.2.2.2.2.2.2.2.1, o7.2.2.2.2.2.2.2.2.2.2.2.2.2.1, o7.2.2.2.2.2.2.2.2.2.2.2.2.2.2, o9.2)))))))) else (fX10_allow_b23 N  m_bads m_nos m_fulls m_draft_words m_draft_people m_draft_said m_draft_undos m_draft_heard m_draft_ending m_draft_meaning m_draft_cost m_draft_alikeTo m_draft_kind m_draft_want m_draft_saidAhead m_draft_heardWord m_draft_heardAnswer m_sayableByPair m_chosenPairs))))))
set_option maxRecDepth 20000 in
theorem inX10_allow_X10 : ∀ w ∈ u_ws RX10 TX10 17, w ∈ wsX10_allow := fun w h => by
  obtain ⟨k, hk, rfl⟩ := List.mem_map.mp h
  have hk2 := List.mem_range.mp hk
  exact List.mem_of_getElem? (i := 128 + k) (by rcases (show k = 0 ∨ k = 1 ∨ k = 2 ∨ k = 3 ∨ k = 4 ∨ k = 5 ∨ k = 6 ∨ k = 7 ∨ k = 8 ∨ k = 9 ∨ k = 10 ∨ k = 11 ∨ k = 12 ∨ k = 13 ∨ k = 14 ∨ k = 15 ∨ k = 16 by omega) with rfl | rfl | rfl | rfl | rfl | rfl | rfl | rfl | rfl | rfl | rfl | rfl | rfl | rfl | rfl | rfl | rfl <;> rfl)
set_option maxRecDepth 20000 in
theorem inX10_allow_X9 : ∀ w ∈ u_ws RX9 TX9 14, w ∈ wsX10_allow := fun w h => by
  obtain ⟨k, hk, rfl⟩ := List.mem_map.mp h
  have hk2 := List.mem_range.mp hk
  exact List.mem_of_getElem? (i := 145 + k) (by rcases (show k = 0 ∨ k = 1 ∨ k = 2 ∨ k = 3 ∨ k = 4 ∨ k = 5 ∨ k = 6 ∨ k = 7 ∨ k = 8 ∨ k = 9 ∨ k = 10 ∨ k = 11 ∨ k = 12 ∨ k = 13 by omega) with rfl | rfl | rfl | rfl | rfl | rfl | rfl | rfl | rfl | rfl | rfl | rfl | rfl | rfl <;> rfl)
set_option maxRecDepth 100000 in
set_option maxHeartbeats 4000000 in
theorem tX10_allow_b23 {p : Program} {l : Launch} {e : Env} {s : State} {m : MethodId} {args : Array Value} {below : List Frame} {meth : Method} {c : Code} {A : Nat → Prop} {dC : Nat → ClassId} {dI : Nat → Nat → Nat} {cI cR : ClassId} {q q_now q_now_ending q_now_meaning q_now_cost q_now_alikeTo q_now_kind q_now_want q_now_saidAhead q_now_heardWord q_now_heardAnswer q_draft q_draft_ending q_draft_meaning q_draft_cost q_draft_alikeTo q_draft_kind q_draft_want q_draft_saidAhead q_draft_heardWord q_draft_heardAnswer q_kinds q_kinds_0 q_kinds_1 q_kinds_2 q_kinds_3 q_kinds_4 q_kinds_5 q_sayableByPair q_chosenPairs q_images q_text q_duel q_cover q_clashes q_tally : Nat} {tP : Nat} {m_imagesKept : Int32} {m_bads : Int32} {m_nos : Int32} {m_fulls : Int32} {m_above : Int64} {m_below : Int64} {m_now_words : Int32} {m_now_people : Int32} {m_now_said : Int32} {m_now_undos : Int32} {m_now_heard : Int32} {m_now_ending : Nat → Int32} {m_now_meaning : Nat → Int32} {m_now_cost : Nat → Int32} {m_now_alikeTo : Nat → Int32} {m_now_kind : Nat → Int32} {m_now_want : Nat → Int32} {m_now_saidAhead : Nat → Int32} {m_now_heardWord : Nat → Int32} {m_now_heardAnswer : Nat → Int32} {m_draft_words : Int32} {m_draft_people : Int32} {m_draft_said : Int32} {m_draft_undos : Int32} {m_draft_heard : Int32} {m_draft_ending : Nat → Int32} {m_draft_meaning : Nat → Int32} {m_draft_cost : Nat → Int32} {m_draft_alikeTo : Nat → Int32} {m_draft_kind : Nat → Int32} {m_draft_want : Nat → Int32} {m_draft_saidAhead : Nat → Int32} {m_draft_heardWord : Nat → Int32} {m_draft_heardAnswer : Nat → Int32} {m_sayableByPair : Nat → Int32} {m_chosenPairs : Nat → Int32} (C0 : gm_C p s m args meth c (dC, dI) [(cI, .int), (cR, .object "OnlyRhymes$Rhymer")] A (gm_XP tP) RX10 cX10_allow 5 (some .int) wsX10_allow) {N : Nat} {out : Int32 × Int32 × Int32 × Int32 × Int32 × Int32 × Int32 × Int32 × Int32 × (Nat → Int32) × (Nat → Int32) × (Nat → Int32) × (Nat → Int32) × (Nat → Int32) × (Nat → Int32) × (Nat → Int32) × (Nat → Int32) × (Nat → Int32) × (Nat → Int32) × (Nat → Int32)}    {H : Heap} {locs : List Loc} {ls : Array Slot} (h : fX10_allow_b23 N  m_bads m_nos m_fulls m_draft_words m_draft_people m_draft_said m_draft_undos m_draft_heard m_draft_ending m_draft_meaning m_draft_cost m_draft_alikeTo m_draft_kind m_draft_want m_draft_saidAhead m_draft_heardWord m_draft_heardAnswer m_sayableByPair m_chosenPairs = some out) (hH : gm_H (dC, dI) A s (wX10_allow cI cR q q_now q_now_ending q_now_meaning q_now_cost q_now_alikeTo q_now_kind q_now_want q_now_saidAhead q_now_heardWord q_now_heardAnswer q_draft q_draft_ending q_draft_meaning q_draft_cost q_draft_alikeTo q_draft_kind q_draft_want q_draft_saidAhead q_draft_heardWord q_draft_heardAnswer q_kinds q_kinds_0 q_kinds_1 q_kinds_2 q_kinds_3 q_kinds_4 q_kinds_5 q_sayableByPair q_chosenPairs q_images q_text q_duel q_cover q_clashes q_tally m_imagesKept m_bads m_nos m_fulls m_above m_below m_now_words m_now_people m_now_said m_now_undos m_now_heard m_now_ending m_now_meaning m_now_cost m_now_alikeTo m_now_kind m_now_want m_now_saidAhead m_now_heardWord m_now_heardAnswer m_draft_words m_draft_people m_draft_said m_draft_undos m_draft_heard m_draft_ending m_draft_meaning m_draft_cost m_draft_alikeTo m_draft_kind m_draft_want m_draft_saidAhead m_draft_heardWord m_draft_heardAnswer m_sayableByPair m_chosenPairs) H locs) (hl : lv_has ls 5 [(0, .ref q)]) : W p l e rX10_allow s m args below meth c H locs 0 0 (MQ below (gm_Q (dC, dI) [(cI, .int), (cR, .object "OnlyRhymes$Rhymer")] A (some (.int out.1)) (wX10_allow cI cR q q_now q_now_ending q_now_meaning q_now_cost q_now_alikeTo q_now_kind q_now_want q_now_saidAhead q_now_heardWord q_now_heardAnswer q_draft q_draft_ending q_draft_meaning q_draft_cost q_draft_alikeTo q_draft_kind q_draft_want q_draft_saidAhead q_draft_heardWord q_draft_heardAnswer q_kinds q_kinds_0 q_kinds_1 q_kinds_2 q_kinds_3 q_kinds_4 q_kinds_5 q_sayableByPair q_chosenPairs q_images q_text q_duel q_cover q_clashes q_tally m_imagesKept out.2.1 out.2.2.1 out.2.2.2.1 m_above m_below m_now_words m_now_people m_now_said m_now_undos m_now_heard m_now_ending m_now_meaning m_now_cost m_now_alikeTo m_now_kind m_now_want m_now_saidAhead m_now_heardWord m_now_heardAnswer out.2.2.2.2.1 out.2.2.2.2.2.1 out.2.2.2.2.2.2.1 out.2.2.2.2.2.2.2.1 out.2.2.2.2.2.2.2.2.1 out.2.2.2.2.2.2.2.2.2.1 out.2.2.2.2.2.2.2.2.2.2.1 out.2.2.2.2.2.2.2.2.2.2.2.1 out.2.2.2.2.2.2.2.2.2.2.2.2.1 out.2.2.2.2.2.2.2.2.2.2.2.2.2.1 out.2.2.2.2.2.2.2.2.2.2.2.2.2.2.1 out.2.2.2.2.2.2.2.2.2.2.2.2.2.2.2.1 out.2.2.2.2.2.2.2.2.2.2.2.2.2.2.2.2.1 out.2.2.2.2.2.2.2.2.2.2.2.2.2.2.2.2.2.1 out.2.2.2.2.2.2.2.2.2.2.2.2.2.2.2.2.2.2.1 out.2.2.2.2.2.2.2.2.2.2.2.2.2.2.2.2.2.2.2)) args s 0 0 A) (F0 m 23 ls []) := by
  obtain ⟨hx, hb, hml, hr, hown, hts, hA, hK, hX, hlocks⟩ := id C0
  unfold fX10_allow_b23 at h
  refine lv_aload_n hx hb dX10_allow_23 rfl (lv_at hl 0 rfl) ?_
  refine lv_bipush (v := (-2)) hx hb dX10_allow_24 (by decide) ?_
  obtain ⟨o3, ho3, h⟩ := gm_bind_e h
  refine gm_callV (As := [.int (-2)]) (rest := []) (n := 1) (ci := 10) (q0 := 0) C0 hH (mX10_refuse l dC dI  q q_now q_draft q_images q_kinds q_text q_duel q_cover q_clashes q_tally q_sayableByPair q_chosenPairs m_imagesKept m_bads m_nos m_fulls m_above m_below ((-2))   ho3) gX10_allow_X10_refuse rfl (by decide +kernel) ⟨rfl, rfl, Nat.le_of_ble_eq_true rfl, Nat.le_of_ble_eq_true rfl⟩ gm_T_ok (fun _ => trivial) [0] rfl rfl rfl [] rfl rfl rfl rfl hl.1 rfl (Nat.le_of_ble_eq_true rfl) dX10_allow_26 ⟨Nat.zero_le _, Nat.zero_le _⟩ (fun H locs hH => ?_)
  have hH : gm_H (dC, dI) A s (wX10_allow cI cR q q_now q_now_ending q_now_meaning q_now_cost q_now_alikeTo q_now_kind q_now_want q_now_saidAhead q_now_heardWord q_now_heardAnswer q_draft q_draft_ending q_draft_meaning q_draft_cost q_draft_alikeTo q_draft_kind q_draft_want q_draft_saidAhead q_draft_heardWord q_draft_heardAnswer q_kinds q_kinds_0 q_kinds_1 q_kinds_2 q_kinds_3 q_kinds_4 q_kinds_5 q_sayableByPair q_chosenPairs q_images q_text q_duel q_cover q_clashes q_tally m_imagesKept o3.2.1 o3.2.2.1 o3.2.2.2 m_above m_below m_now_words m_now_people m_now_said m_now_undos m_now_heard m_now_ending m_now_meaning m_now_cost m_now_alikeTo m_now_kind m_now_want m_now_saidAhead m_now_heardWord m_now_heardAnswer m_draft_words m_draft_people m_draft_said m_draft_undos m_draft_heard m_draft_ending m_draft_meaning m_draft_cost m_draft_alikeTo m_draft_kind m_draft_want m_draft_saidAhead m_draft_heardWord m_draft_heardAnswer m_sayableByPair m_chosenPairs) H locs := hH
  refine lv_pop hx hb dX10_allow_29 rfl ?_
  refine lv_bipush (v := (-10)) hx hb dX10_allow_30 (by decide) ?_
  obtain rfl := Option.some.inj h
  exact gm_iret C0 hH dX10_allow_32
set_option maxRecDepth 100000 in
set_option maxHeartbeats 4000000 in
theorem mX10_allow (l : Launch) (dC : Nat → ClassId) (dI : Nat → Nat → Nat) (cI cR : ClassId) (q q_now q_now_ending q_now_meaning q_now_cost q_now_alikeTo q_now_kind q_now_want q_now_saidAhead q_now_heardWord q_now_heardAnswer q_draft q_draft_ending q_draft_meaning q_draft_cost q_draft_alikeTo q_draft_kind q_draft_want q_draft_saidAhead q_draft_heardWord q_draft_heardAnswer q_kinds q_kinds_0 q_kinds_1 q_kinds_2 q_kinds_3 q_kinds_4 q_kinds_5 q_sayableByPair q_chosenPairs q_images q_text q_duel q_cover q_clashes q_tally : Nat) (m_imagesKept : Int32) (m_bads : Int32) (m_nos : Int32) (m_fulls : Int32) (m_above : Int64) (m_below : Int64) (m_now_words : Int32) (m_now_people : Int32) (m_now_said : Int32) (m_now_undos : Int32) (m_now_heard : Int32) (m_now_ending : Nat → Int32) (m_now_meaning : Nat → Int32) (m_now_cost : Nat → Int32) (m_now_alikeTo : Nat → Int32) (m_now_kind : Nat → Int32) (m_now_want : Nat → Int32) (m_now_saidAhead : Nat → Int32) (m_now_heardWord : Nat → Int32) (m_now_heardAnswer : Nat → Int32) (m_draft_words : Int32) (m_draft_people : Int32) (m_draft_said : Int32) (m_draft_undos : Int32) (m_draft_heard : Int32) (m_draft_ending : Nat → Int32) (m_draft_meaning : Nat → Int32) (m_draft_cost : Nat → Int32) (m_draft_alikeTo : Nat → Int32) (m_draft_kind : Nat → Int32) (m_draft_want : Nat → Int32) (m_draft_saidAhead : Nat → Int32) (m_draft_heardWord : Nat → Int32) (m_draft_heardAnswer : Nat → Int32) (m_sayableByPair : Nat → Int32) (m_chosenPairs : Nat → Int32) (x1 : Int32) (x2 : Int32) (x3 : Int32) (tP : Nat)  {N : Nat} {out : Int32 × Int32 × Int32 × Int32 × Int32 × Int32 × Int32 × Int32 × Int32 × (Nat → Int32) × (Nat → Int32) × (Nat → Int32) × (Nat → Int32) × (Nat → Int32) × (Nat → Int32) × (Nat → Int32) × (Nat → Int32) × (Nat → Int32) × (Nat → Int32) × (Nat → Int32)} (h : fX10_allow N m_bads m_nos m_fulls m_now_words m_now_people m_now_said m_now_undos m_now_heard m_now_ending m_now_meaning m_now_cost m_now_alikeTo m_now_kind m_now_want m_now_saidAhead m_now_heardWord m_now_heardAnswer m_draft_words m_draft_people m_draft_said m_draft_undos m_draft_heard m_draft_ending m_draft_meaning m_draft_cost m_draft_alikeTo m_draft_kind m_draft_want m_draft_saidAhead m_draft_heardWord m_draft_heardAnswer m_sayableByPair m_chosenPairs x1 x2 x3 = some out) : gm_Met l yX10_allow wsX10_allow rX10_allow (dC, dI) [(cI, .int), (cR, .object "OnlyRhymes$Rhymer")] (gm_XP tP) [.ref q, .int x1, .int x2, .int x3] (wX10_allow cI cR q q_now q_now_ending q_now_meaning q_now_cost q_now_alikeTo q_now_kind q_now_want q_now_saidAhead q_now_heardWord q_now_heardAnswer q_draft q_draft_ending q_draft_meaning q_draft_cost q_draft_alikeTo q_draft_kind q_draft_want q_draft_saidAhead q_draft_heardWord q_draft_heardAnswer q_kinds q_kinds_0 q_kinds_1 q_kinds_2 q_kinds_3 q_kinds_4 q_kinds_5 q_sayableByPair q_chosenPairs q_images q_text q_duel q_cover q_clashes q_tally m_imagesKept m_bads m_nos m_fulls m_above m_below m_now_words m_now_people m_now_said m_now_undos m_now_heard m_now_ending m_now_meaning m_now_cost m_now_alikeTo m_now_kind m_now_want m_now_saidAhead m_now_heardWord m_now_heardAnswer m_draft_words m_draft_people m_draft_said m_draft_undos m_draft_heard m_draft_ending m_draft_meaning m_draft_cost m_draft_alikeTo m_draft_kind m_draft_want m_draft_saidAhead m_draft_heardWord m_draft_heardAnswer m_sayableByPair m_chosenPairs) (some (.int out.1)) (wX10_allow cI cR q q_now q_now_ending q_now_meaning q_now_cost q_now_alikeTo q_now_kind q_now_want q_now_saidAhead q_now_heardWord q_now_heardAnswer q_draft q_draft_ending q_draft_meaning q_draft_cost q_draft_alikeTo q_draft_kind q_draft_want q_draft_saidAhead q_draft_heardWord q_draft_heardAnswer q_kinds q_kinds_0 q_kinds_1 q_kinds_2 q_kinds_3 q_kinds_4 q_kinds_5 q_sayableByPair q_chosenPairs q_images q_text q_duel q_cover q_clashes q_tally m_imagesKept out.2.1 out.2.2.1 out.2.2.2.1 m_above m_below m_now_words m_now_people m_now_said m_now_undos m_now_heard m_now_ending m_now_meaning m_now_cost m_now_alikeTo m_now_kind m_now_want m_now_saidAhead m_now_heardWord m_now_heardAnswer out.2.2.2.2.1 out.2.2.2.2.2.1 out.2.2.2.2.2.2.1 out.2.2.2.2.2.2.2.1 out.2.2.2.2.2.2.2.2.1 out.2.2.2.2.2.2.2.2.2.1 out.2.2.2.2.2.2.2.2.2.2.1 out.2.2.2.2.2.2.2.2.2.2.2.1 out.2.2.2.2.2.2.2.2.2.2.2.2.1 out.2.2.2.2.2.2.2.2.2.2.2.2.2.1 out.2.2.2.2.2.2.2.2.2.2.2.2.2.2.1 out.2.2.2.2.2.2.2.2.2.2.2.2.2.2.2.1 out.2.2.2.2.2.2.2.2.2.2.2.2.2.2.2.2.1 out.2.2.2.2.2.2.2.2.2.2.2.2.2.2.2.2.2.1 out.2.2.2.2.2.2.2.2.2.2.2.2.2.2.2.2.2.2.1 out.2.2.2.2.2.2.2.2.2.2.2.2.2.2.2.2.2.2.2) := by
  refine gm_ofW (cc := cX10_allow) (maxL := 5) (ret := (some .int)) (by decide +kernel) rfl (Nat.le_of_ble_eq_true rfl) ?_
  intro p e s m below meth c A C0 hH ls hl
  generalize ([.ref q, .int x1, .int x2, .int x3] : List Value).toArray = args at C0 ⊢
  have hl : lv_has ls 5 [(0, .ref q), (1, .int x1), (2, .int x2), (3, .int x3)] := hl
  generalize s.heap = H at hH ⊢
  generalize ([] : List Loc) = locs at hH ⊢
  obtain ⟨hx, hb, hml, hr, hown, hts, hA, hK, hX, hlocks⟩ := id C0
  unfold fX10_allow at h
  refine lv_aload_n hx hb dX10_allow_0 rfl (lv_at hl 0 rfl) ?_
  refine lv_iload_n hx hb dX10_allow_1 rfl (lv_at hl 1 rfl) ?_
  obtain ⟨o1, ho1, h⟩ := gm_bind_e h
  refine gm_callV (As := [.int x1]) (rest := []) (n := 1) (ci := 10) (q0 := 0) C0 hH (mX10_isPerson l dC dI  q q_now q_draft q_images q_kinds q_text q_duel q_cover q_clashes q_tally q_sayableByPair q_chosenPairs q_now_ending q_now_meaning q_now_cost q_now_alikeTo q_now_kind q_now_want q_now_saidAhead q_now_heardWord q_now_heardAnswer m_imagesKept m_bads m_nos m_fulls m_above m_below m_now_words m_now_people m_now_said m_now_undos m_now_heard x1   ho1) gX10_allow_X10_isPerson rfl (by decide +kernel) ⟨rfl, rfl, Nat.le_of_ble_eq_true rfl, Nat.le_of_ble_eq_true rfl⟩ gm_T_ok (fun _ => trivial) [0, 1] rfl rfl rfl [] rfl rfl rfl rfl hl.1 rfl (Nat.le_of_ble_eq_true rfl) dX10_allow_2 ⟨Nat.zero_le _, Nat.zero_le _⟩ (fun H locs hH => ?_)
  have hH : gm_H (dC, dI) A s (wX10_allow cI cR q q_now q_now_ending q_now_meaning q_now_cost q_now_alikeTo q_now_kind q_now_want q_now_saidAhead q_now_heardWord q_now_heardAnswer q_draft q_draft_ending q_draft_meaning q_draft_cost q_draft_alikeTo q_draft_kind q_draft_want q_draft_saidAhead q_draft_heardWord q_draft_heardAnswer q_kinds q_kinds_0 q_kinds_1 q_kinds_2 q_kinds_3 q_kinds_4 q_kinds_5 q_sayableByPair q_chosenPairs q_images q_text q_duel q_cover q_clashes q_tally m_imagesKept m_bads m_nos m_fulls m_above m_below m_now_words m_now_people m_now_said m_now_undos m_now_heard m_now_ending m_now_meaning m_now_cost m_now_alikeTo m_now_kind m_now_want m_now_saidAhead m_now_heardWord m_now_heardAnswer m_draft_words m_draft_people m_draft_said m_draft_undos m_draft_heard m_draft_ending m_draft_meaning m_draft_cost m_draft_alikeTo m_draft_kind m_draft_want m_draft_saidAhead m_draft_heardWord m_draft_heardAnswer m_sayableByPair m_chosenPairs) H locs := hH
  refine lv_if_eq (tgt := 23) hx hb dX10_allow_5 (by decide) (fun hc2 => ?_) (fun hc2 => ?_)
  · replace h := gm_pos hc2 h
    exact tX10_allow_b23 C0  h hH (lv_sub hl [0] rfl)
  · replace h := gm_neg hc2 h
    refine lv_iload_n hx hb dX10_allow_8 rfl (lv_at hl 2 rfl) ?_
    refine lv_sipush (v := 256) hx hb dX10_allow_9 (by decide) ?_
    obtain ⟨o4, ho4, h⟩ := gm_bind_e h
    refine gm_callS (As := [.int x2, .int 256]) (rest := []) (n := 2) C0 hH (mX10_fits l dC dI    x2 256   ho4) gX10_allow_X10_fits rfl (by decide +kernel) ⟨rfl, rfl, Nat.le_of_ble_eq_true rfl, Nat.le_of_ble_eq_true rfl⟩ gm_T_ok (fun _ => trivial) [] rfl rfl rfl [] rfl rfl hl.1 rfl (Nat.le_of_ble_eq_true rfl) dX10_allow_12 ⟨Nat.zero_le _, Nat.zero_le _⟩ (fun H locs hH => ?_)
    have hH : gm_H (dC, dI) A s (wX10_allow cI cR q q_now q_now_ending q_now_meaning q_now_cost q_now_alikeTo q_now_kind q_now_want q_now_saidAhead q_now_heardWord q_now_heardAnswer q_draft q_draft_ending q_draft_meaning q_draft_cost q_draft_alikeTo q_draft_kind q_draft_want q_draft_saidAhead q_draft_heardWord q_draft_heardAnswer q_kinds q_kinds_0 q_kinds_1 q_kinds_2 q_kinds_3 q_kinds_4 q_kinds_5 q_sayableByPair q_chosenPairs q_images q_text q_duel q_cover q_clashes q_tally m_imagesKept m_bads m_nos m_fulls m_above m_below m_now_words m_now_people m_now_said m_now_undos m_now_heard m_now_ending m_now_meaning m_now_cost m_now_alikeTo m_now_kind m_now_want m_now_saidAhead m_now_heardWord m_now_heardAnswer m_draft_words m_draft_people m_draft_said m_draft_undos m_draft_heard m_draft_ending m_draft_meaning m_draft_cost m_draft_alikeTo m_draft_kind m_draft_want m_draft_saidAhead m_draft_heardWord m_draft_heardAnswer m_sayableByPair m_chosenPairs) H locs := hH
    refine lv_if_eq (tgt := 23) hx hb dX10_allow_15 (by decide) (fun hc5 => ?_) (fun hc5 => ?_)
    · replace h := gm_pos hc5 h
      exact tX10_allow_b23 C0  h hH (lv_sub hl [0] rfl)
    · replace h := gm_neg hc5 h
      refine lv_iload_n hx hb dX10_allow_18 rfl (lv_at hl 3 rfl) ?_
      refine lv_iconst (v := (-1)) hx hb dX10_allow_19 (by decide) ?_
      refine lv_icmp_ge (tgt := 33) hx hb dX10_allow_20 (by decide) (fun hc6 => ?_) (fun hc6 => ?_)
      · replace h := gm_pos hc6 h
        refine lv_aload_n hx hb dX10_allow_33 rfl (lv_at hl 0 rfl) ?_
        refine lv_iload_n hx hb dX10_allow_34 rfl (lv_at hl 1 rfl) ?_
        obtain ⟨o7, ho7, h⟩ := gm_bind_e h
        refine gm_callV (As := [.int x1]) (rest := []) (n := 1) (ci := 10) (q0 := 0) C0 hH (mX10_fillSayableByPair l dC dI cI cR q q_now q_now_ending q_now_meaning q_now_cost q_now_alikeTo q_now_kind q_now_want q_now_saidAhead q_now_heardWord q_now_heardAnswer q_draft q_draft_ending q_draft_meaning q_draft_cost q_draft_alikeTo q_draft_kind q_draft_want q_draft_saidAhead q_draft_heardWord q_draft_heardAnswer q_kinds q_kinds_0 q_kinds_1 q_kinds_2 q_kinds_3 q_kinds_4 q_kinds_5 q_sayableByPair q_images q_text q_duel q_cover q_clashes q_tally q_chosenPairs m_imagesKept m_bads m_nos m_fulls m_above m_below m_now_words m_now_people m_now_said m_now_undos m_now_heard m_now_ending m_now_meaning m_now_cost m_now_alikeTo m_now_kind m_now_want m_now_saidAhead m_now_heardWord m_now_heardAnswer m_draft_words m_draft_people m_draft_said m_draft_undos m_draft_heard m_draft_ending m_draft_meaning m_draft_cost m_draft_alikeTo m_draft_kind m_draft_want m_draft_saidAhead m_draft_heardWord m_draft_heardAnswer m_sayableByPair x1 tP  ho7) gX10_allow_X10_fillSayableByPair rfl (by decide +kernel) ⟨rfl, rfl, Nat.le_of_ble_eq_true rfl, Nat.le_of_ble_eq_true rfl⟩ (gm_XP_ok tP) (fun h => h) [0, 1, 2, 3, 4, 5, 6, 7, 8, 9, 10, 11, 12, 13, 14, 15, 16, 17, 18, 19, 20, 21, 22, 23, 24, 25, 26, 27, 28] rfl rfl rfl [0, 1] rfl rfl rfl rfl hl.1 rfl (Nat.le_of_ble_eq_true rfl) dX10_allow_35 ⟨Nat.zero_le _, Nat.zero_le _⟩ (fun H locs hH => ?_)
        simp only [wX10_allow, wX10_fillSayableByPair, gm_sets, List.set_cons_succ, List.set_cons_zero] at hH
        have hH : gm_H (dC, dI) A s (wX10_allow cI cR q q_now q_now_ending q_now_meaning q_now_cost q_now_alikeTo q_now_kind q_now_want q_now_saidAhead q_now_heardWord q_now_heardAnswer q_draft q_draft_ending q_draft_meaning q_draft_cost q_draft_alikeTo q_draft_kind q_draft_want q_draft_saidAhead q_draft_heardWord q_draft_heardAnswer q_kinds q_kinds_0 q_kinds_1 q_kinds_2 q_kinds_3 q_kinds_4 q_kinds_5 q_sayableByPair q_chosenPairs q_images q_text q_duel q_cover q_clashes q_tally m_imagesKept m_bads m_nos m_fulls m_above m_below m_now_words m_now_people m_now_said m_now_undos m_now_heard m_now_ending m_now_meaning m_now_cost m_now_alikeTo m_now_kind m_now_want m_now_saidAhead m_now_heardWord m_now_heardAnswer o7.1 o7.2.1 o7.2.2.1 o7.2.2.2.1 o7.2.2.2.2.1 o7.2.2.2.2.2.1 o7.2.2.2.2.2.2.1 o7.2.2.2.2.2.2.2.1 o7.2.2.2.2.2.2.2.2.1 o7.2.2.2.2.2.2.2.2.2.1 o7.2.2.2.2.2.2.2.2.2.2.1 o7.2.2.2.2.2.2.2.2.2.2.2.1 o7.2.2.2.2.2.2.2.2.2.2.2.2.1 o7.2.2.2.2.2.2.2.2.2.2.2.2.2.1 o7.2.2.2.2.2.2.2.2.2.2.2.2.2.2 m_chosenPairs) H locs := hH
        refine lv_aload_n hx hb dX10_allow_38 rfl (lv_at hl 0 rfl) ?_
        refine lv_aload_n hx hb dX10_allow_39 rfl (lv_at hl 0 rfl) ?_
        refine lv_aload_n hx hb dX10_allow_40 rfl (lv_at hl 0 rfl) ?_
        refine gm_get (ci := 10) C0 hH inX10_allow_X10 0 0 1 rfl rfl (by decide) rfl rfl dX10_allow_41 ?_
        refine lv_iload_n hx hb dX10_allow_44 rfl (lv_at hl 1 rfl) ?_
        obtain ⟨o8, ho8, h⟩ := gm_bind_e h
        refine gm_callV (As := [.ref q_now, .int x1]) (rest := [.ref q]) (n := 2) (ci := 10) (q0 := 0) C0 hH (mX10_sayableByAnyWord l dC dI cI cR q q_kinds q_kinds_0 q_kinds_1 q_kinds_2 q_kinds_3 q_kinds_4 q_kinds_5 q_now q_now_ending q_now_meaning q_now_alikeTo q_now_kind q_now_want q_now q_draft q_images q_text q_duel q_cover q_clashes q_tally q_sayableByPair q_chosenPairs q_now_cost q_now_saidAhead q_now_heardWord q_now_heardAnswer m_imagesKept m_bads m_nos m_fulls m_above m_below m_now_words m_now_people m_now_said m_now_undos m_now_heard m_now_ending m_now_meaning m_now_alikeTo m_now_kind m_now_want x1   ho8) gX10_allow_X10_sayableByAnyWord rfl (by decide +kernel) ⟨rfl, rfl, Nat.le_of_ble_eq_true rfl, Nat.le_of_ble_eq_true rfl⟩ gm_T_ok (fun _ => trivial) [0, 21, 22, 23, 24, 25, 26, 27, 1, 2, 3, 5, 6, 7] rfl rfl rfl [0, 1] rfl rfl rfl rfl hl.1 rfl (Nat.le_of_ble_eq_true rfl) dX10_allow_45 ⟨Nat.zero_le _, Nat.zero_le _⟩ (fun H locs hH => ?_)
        simp only [wX10_allow, wX10_sayableByAnyWord, gm_sets, List.set_cons_succ, List.set_cons_zero] at hH
        have hH : gm_H (dC, dI) A s (wX10_allow cI cR q q_now q_now_ending q_now_meaning q_now_cost q_now_alikeTo q_now_kind q_now_want q_now_saidAhead q_now_heardWord q_now_heardAnswer q_draft q_draft_ending q_draft_meaning q_draft_cost q_draft_alikeTo q_draft_kind q_draft_want q_draft_saidAhead q_draft_heardWord q_draft_heardAnswer q_kinds q_kinds_0 q_kinds_1 q_kinds_2 q_kinds_3 q_kinds_4 q_kinds_5 q_sayableByPair q_chosenPairs q_images q_text q_duel q_cover q_clashes q_tally m_imagesKept m_bads m_nos m_fulls m_above m_below m_now_words m_now_people m_now_said m_now_undos m_now_heard m_now_ending m_now_meaning m_now_cost m_now_alikeTo m_now_kind m_now_want m_now_saidAhead m_now_heardWord m_now_heardAnswer o7.1 o7.2.1 o7.2.2.1 o7.2.2.2.1 o7.2.2.2.2.1 o7.2.2.2.2.2.1 o7.2.2.2.2.2.2.1 o7.2.2.2.2.2.2.2.1 o7.2.2.2.2.2.2.2.2.1 o7.2.2.2.2.2.2.2.2.2.1 o7.2.2.2.2.2.2.2.2.2.2.1 o7.2.2.2.2.2.2.2.2.2.2.2.1 o7.2.2.2.2.2.2.2.2.2.2.2.2.1 o7.2.2.2.2.2.2.2.2.2.2.2.2.2.1 o7.2.2.2.2.2.2.2.2.2.2.2.2.2.2 m_chosenPairs) H locs := hH
        refine lv_iload_n hx hb dX10_allow_48 rfl (lv_at hl 2 rfl) ?_
        obtain ⟨o9, ho9, h⟩ := gm_bind_e h
        refine gm_callV (As := [.int o8, .int x2]) (rest := []) (n := 2) (ci := 10) (q0 := 0) C0 hH (mX10_choosePairs l dC dI cI q q_sayableByPair q_chosenPairs q_now q_draft q_images q_kinds q_text q_duel q_cover q_clashes q_tally m_imagesKept m_bads m_nos m_fulls m_above m_below o7.2.2.2.2.2.2.2.2.2.2.2.2.2.2 m_chosenPairs o8 x2 tP  ho9) gX10_allow_X10_choosePairs rfl (by decide +kernel) ⟨rfl, rfl, Nat.le_of_ble_eq_true rfl, Nat.le_of_ble_eq_true rfl⟩ (gm_XP_ok tP) (fun h => h) [0, 28, 29] rfl rfl rfl [0] rfl rfl rfl rfl hl.1 rfl (Nat.le_of_ble_eq_true rfl) dX10_allow_49 ⟨Nat.zero_le _, Nat.zero_le _⟩ (fun H locs hH => ?_)
        have hH : gm_H (dC, dI) A s (wX10_allow cI cR q q_now q_now_ending q_now_meaning q_now_cost q_now_alikeTo q_now_kind q_now_want q_now_saidAhead q_now_heardWord q_now_heardAnswer q_draft q_draft_ending q_draft_meaning q_draft_cost q_draft_alikeTo q_draft_kind q_draft_want q_draft_saidAhead q_draft_heardWord q_draft_heardAnswer q_kinds q_kinds_0 q_kinds_1 q_kinds_2 q_kinds_3 q_kinds_4 q_kinds_5 q_sayableByPair q_chosenPairs q_images q_text q_duel q_cover q_clashes q_tally m_imagesKept m_bads m_nos m_fulls m_above m_below m_now_words m_now_people m_now_said m_now_undos m_now_heard m_now_ending m_now_meaning m_now_cost m_now_alikeTo m_now_kind m_now_want m_now_saidAhead m_now_heardWord m_now_heardAnswer o7.1 o7.2.1 o7.2.2.1 o7.2.2.2.1 o7.2.2.2.2.1 o7.2.2.2.2.2.1 o7.2.2.2.2.2.2.1 o7.2.2.2.2.2.2.2.1 o7.2.2.2.2.2.2.2.2.1 o7.2.2.2.2.2.2.2.2.2.1 o7.2.2.2.2.2.2.2.2.2.2.1 o7.2.2.2.2.2.2.2.2.2.2.2.1 o7.2.2.2.2.2.2.2.2.2.2.2.2.1 o7.2.2.2.2.2.2.2.2.2.2.2.2.2.1 o7.2.2.2.2.2.2.2.2.2.2.2.2.2.2 o9.2) H locs := hH
        refine lv_istore (lv' := [(4, .int o9.1), (0, .ref q), (1, .int x1), (2, .int x2), (3, .int x3)]) hx hb dX10_allow_52 hl (by decide) rfl (fun ls hl => ?_)
        refine lv_iload hx hb dX10_allow_54 (lv_at hl 0 rfl) ?_
        refine lv_iconst (v := (-1)) hx hb dX10_allow_56 (by decide) ?_
        refine lv_icmp_eq (tgt := 65) hx hb dX10_allow_57 (by decide) (fun hc10 => ?_) (fun hc10 => ?_)
        · replace h := gm_pos hc10 h
          refine lv_iload hx hb dX10_allow_65 (lv_at hl 0 rfl) ?_
          obtain rfl := Option.some.inj h
          exact gm_iret C0 hH dX10_allow_67
        · replace h := gm_neg hc10 h
          refine lv_iload_n hx hb dX10_allow_60 rfl (lv_at hl 4 rfl) ?_
          refine lv_iconst (v := (-1)) hx hb dX10_allow_61 (by decide) ?_
          refine lv_icmp_ne (tgt := 68) hx hb dX10_allow_62 (by decide) (fun hc11 => ?_) (fun hc11 => ?_)
          · replace h := gm_neg hc11 h
            refine lv_iload_n hx hb dX10_allow_68 rfl (lv_at hl 4 rfl) ?_
            refine lv_iload hx hb dX10_allow_69 (lv_at hl 0 rfl) ?_
            refine lv_icmp_ge (tgt := 83) hx hb dX10_allow_71 (by decide) (fun hc12 => ?_) (fun hc12 => ?_)
            · replace h := gm_pos hc12 h
              refine lv_bipush (v := (-5)) hx hb dX10_allow_83 (by decide) ?_
              obtain rfl := Option.some.inj h
              exact gm_iret C0 hH dX10_allow_85
            · replace h := gm_neg hc12 h
              refine lv_aload_n hx hb dX10_allow_74 rfl (lv_at hl 1 rfl) ?_
              refine gm_get (ci := 10) C0 hH inX10_allow_X10 0 16 2 rfl rfl (by decide) rfl rfl dX10_allow_75 ?_
              refine lv_iload_n hx hb dX10_allow_78 rfl (lv_at hl 4 rfl) ?_
              obtain ⟨hi13, h⟩ := gm_chk_e h
              refine gm_iald C0 hH hi13 29 0 rfl rfl dX10_allow_79 ?_
              refine lv_goto (tgt := 85) hx hb dX10_allow_80 (by decide) ?_
              obtain rfl := Option.some.inj h
              exact gm_iret C0 hH dX10_allow_85
          · replace h := gm_pos hc11 h
            refine lv_iload hx hb dX10_allow_65 (lv_at hl 0 rfl) ?_
            obtain rfl := Option.some.inj h
            exact gm_iret C0 hH dX10_allow_67
      · replace h := gm_neg hc6 h
        exact tX10_allow_b23 C0  h hH (lv_sub hl [0] rfl)

/-! X10_setFraction -/
abbrev wX10_setFraction (q q_now q_draft q_images q_kinds q_text q_duel q_cover q_clashes q_tally q_sayableByPair q_chosenPairs : Nat) (m_imagesKept : Int32) (m_bads : Int32) (m_nos : Int32) (m_fulls : Int32) (m_above : Int64) (m_below : Int64) : va_W := [(q, .inr (10, [.ref q_now, .ref q_draft, .ref q_images, .int m_imagesKept, .ref q_kinds, .ref q_text, .ref q_duel, .ref q_cover, .int m_bads, .int m_nos, .int m_fulls, .long m_above, .long m_below, .ref q_clashes, .ref q_tally, .ref q_sayableByPair, .ref q_chosenPairs]))]
abbrev rX10_setFraction : Room := { frames := 0, cells := 0, slots := 0, locals := 0 }
def fX10_setFraction_b67 (N : Nat) (r16 : Int64 → Int64 → Int32 → Option (Int64 × Int64)) (m_above : Int64) (m_below : Int64) (x2 : Int32) : Option (Int64 × Int64) := (r16 m_above m_below ((x2 + (-1))))
def fX10_setFraction_b16_body (N : Nat)   (r16 : Int64 → Int64 → Int32 → Option (Int64 × Int64)) (m_above : Int64) (m_below : Int64) (x2 : Int32) : Option (Int64 × Int64) := (if x2 ≤ 1 then some (m_above, m_below) else gm_nzL (Int32.toInt64 x2) ((if (lg_cmp (m_above - m_above / (Int32.toInt64 x2) * (Int32.toInt64 x2)) 0) = 0 then gm_nzL (Int32.toInt64 x2) ((if (lg_cmp (m_below - m_below / (Int32.toInt64 x2) * (Int32.toInt64 x2)) 0) = 0 then gm_nzL (Int32.toInt64 x2) (gm_let ((m_above / (Int32.toInt64 x2)) : Int64) (fun (v8 : Int64) => gm_nzL (Int32.toInt64 x2) (gm_let ((m_below / (Int32.toInt64 x2)) : Int64) (fun (v10 : Int64) => (fX10_setFraction_b67 N r16 v8 v10 x2))))) else (fX10_setFraction_b67 N r16 m_above m_below x2))) else (fX10_setFraction_b67 N r16 m_above m_below x2))))
def fX10_setFraction_b16 (N : Nat)   (m_above : Int64) (m_below : Int64) (x2 : Int32) : Option (Int64 × Int64) := gm_fix (fX10_setFraction_b16_body N  ) (fun _ _ _ => none) N m_above m_below x2
def fX10_setFraction (N : Nat) (m_above : Int64) (m_below : Int64) (x1 : Int32) : Option (Int64 × Int64) := gm_let ((Int32.toInt64 x1) : Int64) (fun (v1 : Int64) => (fX10_setFraction_b16 N   v1 10 10))
set_option maxRecDepth 20000 in
theorem inX10_setFraction_X10 : ∀ w ∈ u_ws RX10 TX10 17, w ∈ wsX10_setFraction := fun w h => by
  obtain ⟨k, hk, rfl⟩ := List.mem_map.mp h
  have hk2 := List.mem_range.mp hk
  exact List.mem_of_getElem? (i := 4 + k) (by rcases (show k = 0 ∨ k = 1 ∨ k = 2 ∨ k = 3 ∨ k = 4 ∨ k = 5 ∨ k = 6 ∨ k = 7 ∨ k = 8 ∨ k = 9 ∨ k = 10 ∨ k = 11 ∨ k = 12 ∨ k = 13 ∨ k = 14 ∨ k = 15 ∨ k = 16 by omega) with rfl | rfl | rfl | rfl | rfl | rfl | rfl | rfl | rfl | rfl | rfl | rfl | rfl | rfl | rfl | rfl | rfl <;> rfl)
set_option maxRecDepth 100000 in
set_option maxHeartbeats 4000000 in
theorem tX10_setFraction_b67 {p : Program} {l : Launch} {e : Env} {s : State} {m : MethodId} {args : Array Value} {below : List Frame} {meth : Method} {c : Code} {A : Nat → Prop} {dC : Nat → ClassId} {dI : Nat → Nat → Nat} {q q_now q_draft q_images q_kinds q_text q_duel q_cover q_clashes q_tally q_sayableByPair q_chosenPairs : Nat} {m_imagesKept : Int32} {m_bads : Int32} {m_nos : Int32} {m_fulls : Int32} {m_above : Int64} {m_below : Int64} {x2 : Int32} (C0 : gm_C p s m args meth c (dC, dI) [] A gm_T RX10 cX10_setFraction 3 none wsX10_setFraction) {N : Nat} {out : Int64 × Int64} {r16 : Int64 → Int64 → Int32 → Option (Int64 × Int64)} (hr16 : ∀ (m_above : Int64) (m_below : Int64) (x2 : Int32) (H : Heap) (locs : List Loc) (ls : Array Slot), r16 m_above m_below x2 = some out → gm_H (dC, dI) A s (wX10_setFraction  q q_now q_draft q_images q_kinds q_text q_duel q_cover q_clashes q_tally q_sayableByPair q_chosenPairs m_imagesKept m_bads m_nos m_fulls m_above m_below) H locs → lv_has ls 3 [(0, .ref q), (2, .int x2)] → W p l e rX10_setFraction s m args below meth c H locs 0 0 (MQ below (gm_Q (dC, dI) [] A none (wX10_setFraction  q q_now q_draft q_images q_kinds q_text q_duel q_cover q_clashes q_tally q_sayableByPair q_chosenPairs m_imagesKept m_bads m_nos m_fulls out.1 out.2)) args s 0 0 A) (F0 m 16 ls []))   {H : Heap} {locs : List Loc} {ls : Array Slot} (h : fX10_setFraction_b67 N r16 m_above m_below x2 = some out) (hH : gm_H (dC, dI) A s (wX10_setFraction  q q_now q_draft q_images q_kinds q_text q_duel q_cover q_clashes q_tally q_sayableByPair q_chosenPairs m_imagesKept m_bads m_nos m_fulls m_above m_below) H locs) (hl : lv_has ls 3 [(0, .ref q), (2, .int x2)]) : W p l e rX10_setFraction s m args below meth c H locs 0 0 (MQ below (gm_Q (dC, dI) [] A none (wX10_setFraction  q q_now q_draft q_images q_kinds q_text q_duel q_cover q_clashes q_tally q_sayableByPair q_chosenPairs m_imagesKept m_bads m_nos m_fulls out.1 out.2)) args s 0 0 A) (F0 m 67 ls []) := by
  obtain ⟨hx, hb, hml, hr, hown, hts, hA, hK, hX, hlocks⟩ := id C0
  unfold fX10_setFraction_b67 at h
  refine lv_iinc (v := (x2 + (-1))) (lv' := [(2, .int (x2 + (-1))), (0, .ref q)]) hx hb dX10_setFraction_67 hl (k := 1) rfl rfl (by decide) rfl (fun ls hl => ?_)
  refine lv_goto (tgt := 16) hx hb dX10_setFraction_70 (by decide) ?_
  exact hr16 _ _ _ _ _ _ h hH (lv_sub hl [1, 0] rfl)
set_option maxRecDepth 100000 in
set_option maxHeartbeats 4000000 in
theorem tX10_setFraction_b16 {p : Program} {l : Launch} {e : Env} {s : State} {m : MethodId} {args : Array Value} {below : List Frame} {meth : Method} {c : Code} {A : Nat → Prop} {dC : Nat → ClassId} {dI : Nat → Nat → Nat} {q q_now q_draft q_images q_kinds q_text q_duel q_cover q_clashes q_tally q_sayableByPair q_chosenPairs : Nat} {m_imagesKept : Int32} {m_bads : Int32} {m_nos : Int32} {m_fulls : Int32} (C0 : gm_C p s m args meth c (dC, dI) [] A gm_T RX10 cX10_setFraction 3 none wsX10_setFraction) {N : Nat} {out : Int64 × Int64}   : ∀ (n : Nat), ∀ (m_above : Int64) (m_below : Int64) (x2 : Int32) (H : Heap) (locs : List Loc) (ls : Array Slot), (gm_fix (fX10_setFraction_b16_body N  ) (fun _ _ _ => none) n) m_above m_below x2 = some out → gm_H (dC, dI) A s (wX10_setFraction  q q_now q_draft q_images q_kinds q_text q_duel q_cover q_clashes q_tally q_sayableByPair q_chosenPairs m_imagesKept m_bads m_nos m_fulls m_above m_below) H locs → lv_has ls 3 [(0, .ref q), (2, .int x2)] → W p l e rX10_setFraction s m args below meth c H locs 0 0 (MQ below (gm_Q (dC, dI) [] A none (wX10_setFraction  q q_now q_draft q_images q_kinds q_text q_duel q_cover q_clashes q_tally q_sayableByPair q_chosenPairs m_imagesKept m_bads m_nos m_fulls out.1 out.2)) args s 0 0 A) (F0 m 16 ls []) := by
  obtain ⟨hx, hb, hml, hr, hown, hts, hA, hK, hX, hlocks⟩ := id C0
  intro n
  induction n with
  | zero =>
    intro m_above m_below x2 H locs ls h hH hl
    cases h
  | succ n hr16 =>
    intro m_above m_below x2 H locs ls h hH hl
    rw [gm_fix_s] at h
    unfold fX10_setFraction_b16_body at h
    refine lv_iload_n hx hb dX10_setFraction_16 rfl (lv_at hl 1 rfl) ?_
    refine lv_iconst (v := 1) hx hb dX10_setFraction_17 (by decide) ?_
    refine lv_icmp_le (tgt := 73) hx hb dX10_setFraction_18 (by decide) (fun hc2 => ?_) (fun hc2 => ?_)
    · replace h := gm_pos hc2 h
      obtain rfl := Option.some.inj h
      exact gm_vret C0 hH dX10_setFraction_73
    · replace h := gm_neg hc2 h
      refine lv_aload_n hx hb dX10_setFraction_21 rfl (lv_at hl 0 rfl) ?_
      refine gm_get (ci := 10) C0 hH inX10_setFraction_X10 0 11 1 rfl rfl (by decide) rfl rfl dX10_setFraction_22 ?_
      refine lv_iload_n hx hb dX10_setFraction_25 rfl (lv_at hl 1 rfl) ?_
      refine lv_i2l hx hb dX10_setFraction_26 rfl ?_
      obtain ⟨hz3, h⟩ := gm_nzL_e h
      refine lv_lrem hx hb dX10_setFraction_27 hz3 ?_
      refine lv_lconst (v := 0) hx hb dX10_setFraction_28 (by decide) ?_
      refine W.lcmp hx hb dX10_setFraction_29 ?_
      refine lv_if_ne (tgt := 67) hx hb dX10_setFraction_30 (by decide) (fun hc4 => ?_) (fun hc4 => ?_)
      · replace h := gm_neg hc4 h
        exact tX10_setFraction_b67 C0 hr16 h hH (lv_sub hl [0, 1] rfl)
      · replace h := gm_pos hc4 h
        refine lv_aload_n hx hb dX10_setFraction_33 rfl (lv_at hl 0 rfl) ?_
        refine gm_get (ci := 10) C0 hH inX10_setFraction_X10 0 12 3 rfl rfl (by decide) rfl rfl dX10_setFraction_34 ?_
        refine lv_iload_n hx hb dX10_setFraction_37 rfl (lv_at hl 1 rfl) ?_
        refine lv_i2l hx hb dX10_setFraction_38 rfl ?_
        obtain ⟨hz5, h⟩ := gm_nzL_e h
        refine lv_lrem hx hb dX10_setFraction_39 hz5 ?_
        refine lv_lconst (v := 0) hx hb dX10_setFraction_40 (by decide) ?_
        refine W.lcmp hx hb dX10_setFraction_41 ?_
        refine lv_if_ne (tgt := 67) hx hb dX10_setFraction_42 (by decide) (fun hc6 => ?_) (fun hc6 => ?_)
        · replace h := gm_neg hc6 h
          exact tX10_setFraction_b67 C0 hr16 h hH (lv_sub hl [0, 1] rfl)
        · replace h := gm_pos hc6 h
          refine lv_aload_n hx hb dX10_setFraction_45 rfl (lv_at hl 0 rfl) ?_
          refine lv_dup hx hb dX10_setFraction_46 rfl ?_
          refine gm_get (ci := 10) C0 hH inX10_setFraction_X10 0 11 1 rfl rfl (by decide) rfl rfl dX10_setFraction_47 ?_
          refine lv_iload_n hx hb dX10_setFraction_50 rfl (lv_at hl 1 rfl) ?_
          refine lv_i2l hx hb dX10_setFraction_51 rfl ?_
          obtain ⟨hz7, h⟩ := gm_nzL_e h
          refine lv_ldiv hx hb dX10_setFraction_52 hz7 ?_
          refine lv_topl (fun v8 ev8 => ?_)
          replace h := gm_let_e ev8 h
          refine gm_putf (ci := 10) C0 hH inX10_setFraction_X10 tyX10_ok nmX10 0 11 1 rfl rfl (by decide) rfl rfl rfl rfl rfl (Nat.le_of_ble_eq_true rfl) dX10_setFraction_53 (fun H locs hH => ?_)
          have hH : gm_H (dC, dI) A s (wX10_setFraction  q q_now q_draft q_images q_kinds q_text q_duel q_cover q_clashes q_tally q_sayableByPair q_chosenPairs m_imagesKept m_bads m_nos m_fulls v8 m_below) H locs := hH
          refine lv_aload_n hx hb dX10_setFraction_56 rfl (lv_at hl 0 rfl) ?_
          refine lv_dup hx hb dX10_setFraction_57 rfl ?_
          refine gm_get (ci := 10) C0 hH inX10_setFraction_X10 0 12 3 rfl rfl (by decide) rfl rfl dX10_setFraction_58 ?_
          refine lv_iload_n hx hb dX10_setFraction_61 rfl (lv_at hl 1 rfl) ?_
          refine lv_i2l hx hb dX10_setFraction_62 rfl ?_
          obtain ⟨hz9, h⟩ := gm_nzL_e h
          refine lv_ldiv hx hb dX10_setFraction_63 hz9 ?_
          refine lv_topl (fun v10 ev10 => ?_)
          replace h := gm_let_e ev10 h
          refine gm_putf (ci := 10) C0 hH inX10_setFraction_X10 tyX10_ok nmX10 0 12 3 rfl rfl (by decide) rfl rfl rfl rfl rfl (Nat.le_of_ble_eq_true rfl) dX10_setFraction_64 (fun H locs hH => ?_)
          have hH : gm_H (dC, dI) A s (wX10_setFraction  q q_now q_draft q_images q_kinds q_text q_duel q_cover q_clashes q_tally q_sayableByPair q_chosenPairs m_imagesKept m_bads m_nos m_fulls v8 v10) H locs := hH
          exact tX10_setFraction_b67 C0 hr16 h hH (lv_sub hl [0, 1] rfl)
set_option maxRecDepth 100000 in
set_option maxHeartbeats 4000000 in
theorem mX10_setFraction (l : Launch) (dC : Nat → ClassId) (dI : Nat → Nat → Nat) (q q_now q_draft q_images q_kinds q_text q_duel q_cover q_clashes q_tally q_sayableByPair q_chosenPairs : Nat) (m_imagesKept : Int32) (m_bads : Int32) (m_nos : Int32) (m_fulls : Int32) (m_above : Int64) (m_below : Int64) (x1 : Int32)  {N : Nat} {out : Int64 × Int64} (h : fX10_setFraction N m_above m_below x1 = some out) : gm_Met l yX10_setFraction wsX10_setFraction rX10_setFraction (dC, dI) [] gm_T [.ref q, .int x1] (wX10_setFraction  q q_now q_draft q_images q_kinds q_text q_duel q_cover q_clashes q_tally q_sayableByPair q_chosenPairs m_imagesKept m_bads m_nos m_fulls m_above m_below) none (wX10_setFraction  q q_now q_draft q_images q_kinds q_text q_duel q_cover q_clashes q_tally q_sayableByPair q_chosenPairs m_imagesKept m_bads m_nos m_fulls out.1 out.2) := by
  refine gm_ofW (cc := cX10_setFraction) (maxL := 3) (ret := none) (by decide +kernel) rfl (Nat.le_of_ble_eq_true rfl) ?_
  intro p e s m below meth c A C0 hH ls hl
  generalize ([.ref q, .int x1] : List Value).toArray = args at C0 ⊢
  have hl : lv_has ls 3 [(0, .ref q), (1, .int x1)] := hl
  generalize s.heap = H at hH ⊢
  generalize ([] : List Loc) = locs at hH ⊢
  obtain ⟨hx, hb, hml, hr, hown, hts, hA, hK, hX, hlocks⟩ := id C0
  unfold fX10_setFraction at h
  refine lv_aload_n hx hb dX10_setFraction_0 rfl (lv_at hl 0 rfl) ?_
  refine lv_iload_n hx hb dX10_setFraction_1 rfl (lv_at hl 1 rfl) ?_
  refine lv_i2l hx hb dX10_setFraction_2 rfl ?_
  refine lv_topl (fun v1 ev1 => ?_)
  replace h := gm_let_e ev1 h
  refine gm_putf (ci := 10) C0 hH inX10_setFraction_X10 tyX10_ok nmX10 0 11 1 rfl rfl (by decide) rfl rfl rfl rfl rfl (Nat.le_of_ble_eq_true rfl) dX10_setFraction_3 (fun H locs hH => ?_)
  have hH : gm_H (dC, dI) A s (wX10_setFraction  q q_now q_draft q_images q_kinds q_text q_duel q_cover q_clashes q_tally q_sayableByPair q_chosenPairs m_imagesKept m_bads m_nos m_fulls v1 m_below) H locs := hH
  refine lv_aload_n hx hb dX10_setFraction_6 rfl (lv_at hl 0 rfl) ?_
  refine lv_ldc2 (own := RX10) (v := 10) hx hb hown (gm_at C0 2 rfl) dX10_setFraction_7 ?_
  refine gm_putf (ci := 10) C0 hH inX10_setFraction_X10 tyX10_ok nmX10 0 12 3 rfl rfl (by decide) rfl rfl rfl rfl rfl (Nat.le_of_ble_eq_true rfl) dX10_setFraction_10 (fun H locs hH => ?_)
  have hH : gm_H (dC, dI) A s (wX10_setFraction  q q_now q_draft q_images q_kinds q_text q_duel q_cover q_clashes q_tally q_sayableByPair q_chosenPairs m_imagesKept m_bads m_nos m_fulls v1 10) H locs := hH
  refine lv_bipush (v := 10) hx hb dX10_setFraction_13 (by decide) ?_
  refine lv_istore_n (lv' := [(2, .int 10), (0, .ref q), (1, .int x1)]) hx hb dX10_setFraction_15 rfl hl (by decide) rfl (fun ls hl => ?_)
  unfold fX10_setFraction_b16 at h
  exact tX10_setFraction_b16 C0  _ _ _ _ _ _ _ h hH (lv_sub hl [1, 0] rfl)

/-! X10_misheard -/
abbrev wX10_misheard (cI cR : ClassId) (q q_now q_now_ending q_now_meaning q_now_alikeTo q_now_kind q_now_want q_kinds q_kinds_0 q_kinds_1 q_kinds_2 q_kinds_3 q_kinds_4 q_kinds_5 q_draft q_images q_text q_duel q_cover q_clashes q_tally q_sayableByPair q_chosenPairs q_now_cost q_now_saidAhead q_now_heardWord q_now_heardAnswer : Nat) (m_imagesKept : Int32) (m_bads : Int32) (m_nos : Int32) (m_fulls : Int32) (m_above : Int64) (m_below : Int64) (m_now_words : Int32) (m_now_people : Int32) (m_now_said : Int32) (m_now_undos : Int32) (m_now_heard : Int32) (m_now_ending : Nat → Int32) (m_now_meaning : Nat → Int32) (m_now_alikeTo : Nat → Int32) (m_now_kind : Nat → Int32) (m_now_want : Nat → Int32) : va_W := [(q, .inr (10, [.ref q_now, .ref q_draft, .ref q_images, .int m_imagesKept, .ref q_kinds, .ref q_text, .ref q_duel, .ref q_cover, .int m_bads, .int m_nos, .int m_fulls, .long m_above, .long m_below, .ref q_clashes, .ref q_tally, .ref q_sayableByPair, .ref q_chosenPairs])), (q_now, .inr (9, [.ref q_now_ending, .ref q_now_meaning, .ref q_now_cost, .int m_now_words, .ref q_now_alikeTo, .ref q_now_kind, .ref q_now_want, .int m_now_people, .int m_now_said, .ref q_now_saidAhead, .int m_now_undos, .ref q_now_heardWord, .ref q_now_heardAnswer, .int m_now_heard])), (q_now_ending, .inl (cI, 10, .inl m_now_ending)), (q_now_meaning, .inl (cI, 10, .inl m_now_meaning)), (q_now_alikeTo, .inl (cI, 8, .inl m_now_alikeTo)), (q_now_kind, .inl (cI, 5, .inl m_now_kind)), (q_now_want, .inl (cI, 5, .inl m_now_want)), (q_kinds, .inl (cR, 6, .inr (.inr (.inr (.inr (gm_kd q_kinds_0 q_kinds_1 q_kinds_2 q_kinds_3 q_kinds_4 q_kinds_5)))))), (q_kinds_0, .inr (7, [])), (q_kinds_1, .inr (4, [])), (q_kinds_2, .inr (3, [])), (q_kinds_3, .inr (8, [])), (q_kinds_4, .inr (5, [])), (q_kinds_5, .inr (0, []))]
abbrev rX10_misheard : Room := { frames := 6, cells := 0, slots := 0, locals := 137 }
def fX10_misheard_b35 (N : Nat)  (m_bads : Int32) (m_nos : Int32) (m_fulls : Int32) (m_above : Int64) (m_below : Int64) : Option (Int32 × Int32 × Int32 × Int32 × Int64 × Int64) := gm_bind (fX10_refuse N m_bads m_nos m_fulls ((-2))) (fun o3 => some (o3.1, o3.2.1, o3.2.2.1, o3.2.2.2, m_above, m_below))
def fX10_misheard_b62 (N : Nat)  (m_bads : Int32) (m_nos : Int32) (m_fulls : Int32) (m_above : Int64) (m_below : Int64) (m_now_words : Int32) (m_now_said : Int32) (m_now_ending : Nat → Int32) (m_now_meaning : Nat → Int32) (m_now_alikeTo : Nat → Int32) (m_now_kind : Nat → Int32) (m_now_want : Nat → Int32) (x1 : Int32) (x2 : Int32) (x3 : Int32) (x4 : Int32) (k0 : Int32) : Option (Int32 × Int32 × Int32 × Int32 × Int64 × Int64) := gm_bind (fX10_sayableBits N m_now_words m_now_said m_now_ending m_now_meaning m_now_alikeTo m_now_kind m_now_want x1 x2) (fun o11 => gm_let (((o11 >>> (x3 &&& 31)) &&& 1) : Int32) (fun (v12 : Int32) => gm_bind (fX10_sayableBits N m_now_words m_now_said m_now_ending m_now_meaning m_now_alikeTo m_now_kind m_now_want x1 k0) (fun o13 => gm_let (((o13 >>> (x3 &&& 31)) &&& 1) : Int32) (fun (v14 : Int32) => gm_bind (fX10_setFraction N m_above m_below ((((10 - x4) * v12) + (x4 * v14)))) (fun o15 => some (1, m_bads, m_nos, m_fulls, o15.1, o15.2))))))
def fX10_misheard (N : Nat) (m_bads : Int32) (m_nos : Int32) (m_fulls : Int32) (m_above : Int64) (m_below : Int64) (m_now_words : Int32) (m_now_people : Int32) (m_now_said : Int32) (m_now_ending : Nat → Int32) (m_now_meaning : Nat → Int32) (m_now_alikeTo : Nat → Int32) (m_now_kind : Nat → Int32) (m_now_want : Nat → Int32) (x1 : Int32) (x2 : Int32) (x3 : Int32) (x4 : Int32) : Option (Int32 × Int32 × Int32 × Int32 × Int64 × Int64) := gm_bind (fX10_isPerson N m_now_people x1) (fun o1 => (if o1 = 0 then (fX10_misheard_b35 N  m_bads m_nos m_fulls m_above m_below) else gm_bind (fX10_isWord N m_now_words x2) (fun o4 => (if o4 = 0 then (fX10_misheard_b35 N  m_bads m_nos m_fulls m_above m_below) else gm_bind (fX10_fits N x3 8) (fun o6 => (if o6 = 0 then (fX10_misheard_b35 N  m_bads m_nos m_fulls m_above m_below) else gm_bind (fX10_fits N x4 11) (fun o8 => (if o8 = 0 then (fX10_misheard_b35 N  m_bads m_nos m_fulls m_above m_below) else (if m_now_words ≤ (x2 + 1) then (fX10_misheard_b62 N  m_bads m_nos m_fulls m_above m_below m_now_words m_now_said m_now_ending m_now_meaning m_now_alikeTo m_now_kind m_now_want x1 x2 x3 x4 0) else (fX10_misheard_b62 N  m_bads m_nos m_fulls m_above m_below m_now_words m_now_said m_now_ending m_now_meaning m_now_alikeTo m_now_kind m_now_want x1 x2 x3 x4 ((x2 + 1))))))))))))
set_option maxRecDepth 20000 in
theorem inX10_misheard_X10 : ∀ w ∈ u_ws RX10 TX10 17, w ∈ wsX10_misheard := fun w h => by
  obtain ⟨k, hk, rfl⟩ := List.mem_map.mp h
  have hk2 := List.mem_range.mp hk
  exact List.mem_of_getElem? (i := 104 + k) (by rcases (show k = 0 ∨ k = 1 ∨ k = 2 ∨ k = 3 ∨ k = 4 ∨ k = 5 ∨ k = 6 ∨ k = 7 ∨ k = 8 ∨ k = 9 ∨ k = 10 ∨ k = 11 ∨ k = 12 ∨ k = 13 ∨ k = 14 ∨ k = 15 ∨ k = 16 by omega) with rfl | rfl | rfl | rfl | rfl | rfl | rfl | rfl | rfl | rfl | rfl | rfl | rfl | rfl | rfl | rfl | rfl <;> rfl)
set_option maxRecDepth 20000 in
theorem inX10_misheard_X9 : ∀ w ∈ u_ws RX9 TX9 14, w ∈ wsX10_misheard := fun w h => by
  obtain ⟨k, hk, rfl⟩ := List.mem_map.mp h
  have hk2 := List.mem_range.mp hk
  exact List.mem_of_getElem? (i := 121 + k) (by rcases (show k = 0 ∨ k = 1 ∨ k = 2 ∨ k = 3 ∨ k = 4 ∨ k = 5 ∨ k = 6 ∨ k = 7 ∨ k = 8 ∨ k = 9 ∨ k = 10 ∨ k = 11 ∨ k = 12 ∨ k = 13 by omega) with rfl | rfl | rfl | rfl | rfl | rfl | rfl | rfl | rfl | rfl | rfl | rfl | rfl | rfl <;> rfl)
set_option maxRecDepth 100000 in
set_option maxHeartbeats 4000000 in
theorem tX10_misheard_b35 {p : Program} {l : Launch} {e : Env} {s : State} {m : MethodId} {args : Array Value} {below : List Frame} {meth : Method} {c : Code} {A : Nat → Prop} {dC : Nat → ClassId} {dI : Nat → Nat → Nat} {cI cR : ClassId} {q q_now q_now_ending q_now_meaning q_now_alikeTo q_now_kind q_now_want q_kinds q_kinds_0 q_kinds_1 q_kinds_2 q_kinds_3 q_kinds_4 q_kinds_5 q_draft q_images q_text q_duel q_cover q_clashes q_tally q_sayableByPair q_chosenPairs q_now_cost q_now_saidAhead q_now_heardWord q_now_heardAnswer : Nat} {m_imagesKept : Int32} {m_bads : Int32} {m_nos : Int32} {m_fulls : Int32} {m_above : Int64} {m_below : Int64} {m_now_words : Int32} {m_now_people : Int32} {m_now_said : Int32} {m_now_undos : Int32} {m_now_heard : Int32} {m_now_ending : Nat → Int32} {m_now_meaning : Nat → Int32} {m_now_alikeTo : Nat → Int32} {m_now_kind : Nat → Int32} {m_now_want : Nat → Int32} (C0 : gm_C p s m args meth c (dC, dI) [(cI, .int), (cR, .object "OnlyRhymes$Rhymer")] A gm_T RX10 cX10_misheard 8 (some .int) wsX10_misheard) {N : Nat} {out : Int32 × Int32 × Int32 × Int32 × Int64 × Int64}    {H : Heap} {locs : List Loc} {ls : Array Slot} (h : fX10_misheard_b35 N  m_bads m_nos m_fulls m_above m_below = some out) (hH : gm_H (dC, dI) A s (wX10_misheard cI cR q q_now q_now_ending q_now_meaning q_now_alikeTo q_now_kind q_now_want q_kinds q_kinds_0 q_kinds_1 q_kinds_2 q_kinds_3 q_kinds_4 q_kinds_5 q_draft q_images q_text q_duel q_cover q_clashes q_tally q_sayableByPair q_chosenPairs q_now_cost q_now_saidAhead q_now_heardWord q_now_heardAnswer m_imagesKept m_bads m_nos m_fulls m_above m_below m_now_words m_now_people m_now_said m_now_undos m_now_heard m_now_ending m_now_meaning m_now_alikeTo m_now_kind m_now_want) H locs) (hl : lv_has ls 8 [(0, .ref q)]) : W p l e rX10_misheard s m args below meth c H locs 0 0 (MQ below (gm_Q (dC, dI) [(cI, .int), (cR, .object "OnlyRhymes$Rhymer")] A (some (.int out.1)) (wX10_misheard cI cR q q_now q_now_ending q_now_meaning q_now_alikeTo q_now_kind q_now_want q_kinds q_kinds_0 q_kinds_1 q_kinds_2 q_kinds_3 q_kinds_4 q_kinds_5 q_draft q_images q_text q_duel q_cover q_clashes q_tally q_sayableByPair q_chosenPairs q_now_cost q_now_saidAhead q_now_heardWord q_now_heardAnswer m_imagesKept out.2.1 out.2.2.1 out.2.2.2.1 out.2.2.2.2.1 out.2.2.2.2.2 m_now_words m_now_people m_now_said m_now_undos m_now_heard m_now_ending m_now_meaning m_now_alikeTo m_now_kind m_now_want)) args s 0 0 A) (F0 m 35 ls []) := by
  obtain ⟨hx, hb, hml, hr, hown, hts, hA, hK, hX, hlocks⟩ := id C0
  unfold fX10_misheard_b35 at h
  refine lv_aload_n hx hb dX10_misheard_35 rfl (lv_at hl 0 rfl) ?_
  refine lv_bipush (v := (-2)) hx hb dX10_misheard_36 (by decide) ?_
  obtain ⟨o3, ho3, h⟩ := gm_bind_e h
  refine gm_callV (As := [.int (-2)]) (rest := []) (n := 1) (ci := 10) (q0 := 0) C0 hH (mX10_refuse l dC dI  q q_now q_draft q_images q_kinds q_text q_duel q_cover q_clashes q_tally q_sayableByPair q_chosenPairs m_imagesKept m_bads m_nos m_fulls m_above m_below ((-2))   ho3) gX10_misheard_X10_refuse rfl (by decide +kernel) ⟨rfl, rfl, Nat.le_of_ble_eq_true rfl, Nat.le_of_ble_eq_true rfl⟩ gm_T_ok (fun _ => trivial) [0] rfl rfl rfl [] rfl rfl rfl rfl hl.1 rfl (Nat.le_of_ble_eq_true rfl) dX10_misheard_38 ⟨Nat.zero_le _, Nat.zero_le _⟩ (fun H locs hH => ?_)
  have hH : gm_H (dC, dI) A s (wX10_misheard cI cR q q_now q_now_ending q_now_meaning q_now_alikeTo q_now_kind q_now_want q_kinds q_kinds_0 q_kinds_1 q_kinds_2 q_kinds_3 q_kinds_4 q_kinds_5 q_draft q_images q_text q_duel q_cover q_clashes q_tally q_sayableByPair q_chosenPairs q_now_cost q_now_saidAhead q_now_heardWord q_now_heardAnswer m_imagesKept o3.2.1 o3.2.2.1 o3.2.2.2 m_above m_below m_now_words m_now_people m_now_said m_now_undos m_now_heard m_now_ending m_now_meaning m_now_alikeTo m_now_kind m_now_want) H locs := hH
  obtain rfl := Option.some.inj h
  exact gm_iret C0 hH dX10_misheard_41
set_option maxRecDepth 100000 in
set_option maxHeartbeats 4000000 in
theorem tX10_misheard_b62 {p : Program} {l : Launch} {e : Env} {s : State} {m : MethodId} {args : Array Value} {below : List Frame} {meth : Method} {c : Code} {A : Nat → Prop} {dC : Nat → ClassId} {dI : Nat → Nat → Nat} {cI cR : ClassId} {q q_now q_now_ending q_now_meaning q_now_alikeTo q_now_kind q_now_want q_kinds q_kinds_0 q_kinds_1 q_kinds_2 q_kinds_3 q_kinds_4 q_kinds_5 q_draft q_images q_text q_duel q_cover q_clashes q_tally q_sayableByPair q_chosenPairs q_now_cost q_now_saidAhead q_now_heardWord q_now_heardAnswer : Nat} {m_imagesKept : Int32} {m_bads : Int32} {m_nos : Int32} {m_fulls : Int32} {m_above : Int64} {m_below : Int64} {m_now_words : Int32} {m_now_people : Int32} {m_now_said : Int32} {m_now_undos : Int32} {m_now_heard : Int32} {m_now_ending : Nat → Int32} {m_now_meaning : Nat → Int32} {m_now_alikeTo : Nat → Int32} {m_now_kind : Nat → Int32} {m_now_want : Nat → Int32} {x1 : Int32} {x2 : Int32} {x3 : Int32} {x4 : Int32} {k0 : Int32} (C0 : gm_C p s m args meth c (dC, dI) [(cI, .int), (cR, .object "OnlyRhymes$Rhymer")] A gm_T RX10 cX10_misheard 8 (some .int) wsX10_misheard) {N : Nat} {out : Int32 × Int32 × Int32 × Int32 × Int64 × Int64}    {H : Heap} {locs : List Loc} {ls : Array Slot} (h : fX10_misheard_b62 N  m_bads m_nos m_fulls m_above m_below m_now_words m_now_said m_now_ending m_now_meaning m_now_alikeTo m_now_kind m_now_want x1 x2 x3 x4 k0 = some out) (hH : gm_H (dC, dI) A s (wX10_misheard cI cR q q_now q_now_ending q_now_meaning q_now_alikeTo q_now_kind q_now_want q_kinds q_kinds_0 q_kinds_1 q_kinds_2 q_kinds_3 q_kinds_4 q_kinds_5 q_draft q_images q_text q_duel q_cover q_clashes q_tally q_sayableByPair q_chosenPairs q_now_cost q_now_saidAhead q_now_heardWord q_now_heardAnswer m_imagesKept m_bads m_nos m_fulls m_above m_below m_now_words m_now_people m_now_said m_now_undos m_now_heard m_now_ending m_now_meaning m_now_alikeTo m_now_kind m_now_want) H locs) (hl : lv_has ls 8 [(0, .ref q), (1, .int x1), (2, .int x2), (3, .int x3), (4, .int x4)]) : W p l e rX10_misheard s m args below meth c H locs 0 0 (MQ below (gm_Q (dC, dI) [(cI, .int), (cR, .object "OnlyRhymes$Rhymer")] A (some (.int out.1)) (wX10_misheard cI cR q q_now q_now_ending q_now_meaning q_now_alikeTo q_now_kind q_now_want q_kinds q_kinds_0 q_kinds_1 q_kinds_2 q_kinds_3 q_kinds_4 q_kinds_5 q_draft q_images q_text q_duel q_cover q_clashes q_tally q_sayableByPair q_chosenPairs q_now_cost q_now_saidAhead q_now_heardWord q_now_heardAnswer m_imagesKept out.2.1 out.2.2.1 out.2.2.2.1 out.2.2.2.2.1 out.2.2.2.2.2 m_now_words m_now_people m_now_said m_now_undos m_now_heard m_now_ending m_now_meaning m_now_alikeTo m_now_kind m_now_want)) args s 0 0 A) (F0 m 62 ls [.int k0]) := by
  obtain ⟨hx, hb, hml, hr, hown, hts, hA, hK, hX, hlocks⟩ := id C0
  unfold fX10_misheard_b62 at h
  refine lv_istore (lv' := [(5, .int k0), (0, .ref q), (1, .int x1), (2, .int x2), (3, .int x3), (4, .int x4)]) hx hb dX10_misheard_62 hl (by decide) rfl (fun ls hl => ?_)
  refine lv_aload_n hx hb dX10_misheard_64 rfl (lv_at hl 1 rfl) ?_
  refine lv_iload_n hx hb dX10_misheard_65 rfl (lv_at hl 2 rfl) ?_
  refine lv_iload_n hx hb dX10_misheard_66 rfl (lv_at hl 3 rfl) ?_
  obtain ⟨o11, ho11, h⟩ := gm_bind_e h
  refine gm_callV (As := [.int x1, .int x2]) (rest := []) (n := 2) (ci := 10) (q0 := 0) C0 hH (mX10_sayableBits l dC dI cI cR q q_now q_now_ending q_now_meaning q_now_alikeTo q_now_kind q_now_want q_kinds q_kinds_0 q_kinds_1 q_kinds_2 q_kinds_3 q_kinds_4 q_kinds_5 q_draft q_images q_text q_duel q_cover q_clashes q_tally q_sayableByPair q_chosenPairs q_now_cost q_now_saidAhead q_now_heardWord q_now_heardAnswer m_imagesKept m_bads m_nos m_fulls m_above m_below m_now_words m_now_people m_now_said m_now_undos m_now_heard m_now_ending m_now_meaning m_now_alikeTo m_now_kind m_now_want x1 x2   ho11) gX10_misheard_X10_sayableBits rfl (by decide +kernel) ⟨rfl, rfl, Nat.le_of_ble_eq_true rfl, Nat.le_of_ble_eq_true rfl⟩ gm_T_ok (fun _ => trivial) [0, 1, 2, 3, 4, 5, 6, 7, 8, 9, 10, 11, 12, 13] rfl rfl rfl [0, 1] rfl rfl rfl rfl hl.1 rfl (Nat.le_of_ble_eq_true rfl) dX10_misheard_67 ⟨Nat.zero_le _, Nat.zero_le _⟩ (fun H locs hH => ?_)
  simp only [wX10_misheard, wX10_sayableBits, gm_sets, List.set_cons_succ, List.set_cons_zero] at hH
  have hH : gm_H (dC, dI) A s (wX10_misheard cI cR q q_now q_now_ending q_now_meaning q_now_alikeTo q_now_kind q_now_want q_kinds q_kinds_0 q_kinds_1 q_kinds_2 q_kinds_3 q_kinds_4 q_kinds_5 q_draft q_images q_text q_duel q_cover q_clashes q_tally q_sayableByPair q_chosenPairs q_now_cost q_now_saidAhead q_now_heardWord q_now_heardAnswer m_imagesKept m_bads m_nos m_fulls m_above m_below m_now_words m_now_people m_now_said m_now_undos m_now_heard m_now_ending m_now_meaning m_now_alikeTo m_now_kind m_now_want) H locs := hH
  refine lv_iload_n hx hb dX10_misheard_70 rfl (lv_at hl 4 rfl) ?_
  refine lv_ishr hx hb dX10_misheard_71 ?_
  refine lv_iconst (v := 1) hx hb dX10_misheard_72 (by decide) ?_
  refine lv_iand hx hb dX10_misheard_73 ?_
  refine lv_topi (fun v12 ev12 => ?_)
  replace h := gm_let_e ev12 h
  refine lv_istore (lv' := [(6, .int v12), (5, .int k0), (0, .ref q), (1, .int x1), (2, .int x2), (3, .int x3), (4, .int x4)]) hx hb dX10_misheard_74 hl (by decide) rfl (fun ls hl => ?_)
  refine lv_aload_n hx hb dX10_misheard_76 rfl (lv_at hl 2 rfl) ?_
  refine lv_iload_n hx hb dX10_misheard_77 rfl (lv_at hl 3 rfl) ?_
  refine lv_iload hx hb dX10_misheard_78 (lv_at hl 1 rfl) ?_
  obtain ⟨o13, ho13, h⟩ := gm_bind_e h
  refine gm_callV (As := [.int x1, .int k0]) (rest := []) (n := 2) (ci := 10) (q0 := 0) C0 hH (mX10_sayableBits l dC dI cI cR q q_now q_now_ending q_now_meaning q_now_alikeTo q_now_kind q_now_want q_kinds q_kinds_0 q_kinds_1 q_kinds_2 q_kinds_3 q_kinds_4 q_kinds_5 q_draft q_images q_text q_duel q_cover q_clashes q_tally q_sayableByPair q_chosenPairs q_now_cost q_now_saidAhead q_now_heardWord q_now_heardAnswer m_imagesKept m_bads m_nos m_fulls m_above m_below m_now_words m_now_people m_now_said m_now_undos m_now_heard m_now_ending m_now_meaning m_now_alikeTo m_now_kind m_now_want x1 k0   ho13) gX10_misheard_X10_sayableBits rfl (by decide +kernel) ⟨rfl, rfl, Nat.le_of_ble_eq_true rfl, Nat.le_of_ble_eq_true rfl⟩ gm_T_ok (fun _ => trivial) [0, 1, 2, 3, 4, 5, 6, 7, 8, 9, 10, 11, 12, 13] rfl rfl rfl [0, 1] rfl rfl rfl rfl hl.1 rfl (Nat.le_of_ble_eq_true rfl) dX10_misheard_80 ⟨Nat.zero_le _, Nat.zero_le _⟩ (fun H locs hH => ?_)
  simp only [wX10_misheard, wX10_sayableBits, gm_sets, List.set_cons_succ, List.set_cons_zero] at hH
  have hH : gm_H (dC, dI) A s (wX10_misheard cI cR q q_now q_now_ending q_now_meaning q_now_alikeTo q_now_kind q_now_want q_kinds q_kinds_0 q_kinds_1 q_kinds_2 q_kinds_3 q_kinds_4 q_kinds_5 q_draft q_images q_text q_duel q_cover q_clashes q_tally q_sayableByPair q_chosenPairs q_now_cost q_now_saidAhead q_now_heardWord q_now_heardAnswer m_imagesKept m_bads m_nos m_fulls m_above m_below m_now_words m_now_people m_now_said m_now_undos m_now_heard m_now_ending m_now_meaning m_now_alikeTo m_now_kind m_now_want) H locs := hH
  refine lv_iload_n hx hb dX10_misheard_83 rfl (lv_at hl 5 rfl) ?_
  refine lv_ishr hx hb dX10_misheard_84 ?_
  refine lv_iconst (v := 1) hx hb dX10_misheard_85 (by decide) ?_
  refine lv_iand hx hb dX10_misheard_86 ?_
  refine lv_topi (fun v14 ev14 => ?_)
  replace h := gm_let_e ev14 h
  refine lv_istore (lv' := [(7, .int v14), (6, .int v12), (5, .int k0), (0, .ref q), (1, .int x1), (2, .int x2), (3, .int x3), (4, .int x4)]) hx hb dX10_misheard_87 hl (by decide) rfl (fun ls hl => ?_)
  refine lv_aload_n hx hb dX10_misheard_89 rfl (lv_at hl 3 rfl) ?_
  refine lv_bipush (v := 10) hx hb dX10_misheard_90 (by decide) ?_
  refine lv_iload hx hb dX10_misheard_92 (lv_at hl 7 rfl) ?_
  refine lv_isub hx hb dX10_misheard_94 ?_
  refine lv_iload hx hb dX10_misheard_95 (lv_at hl 1 rfl) ?_
  refine lv_imul hx hb dX10_misheard_97 ?_
  refine lv_iload hx hb dX10_misheard_98 (lv_at hl 7 rfl) ?_
  refine lv_iload hx hb dX10_misheard_100 (lv_at hl 0 rfl) ?_
  refine lv_imul hx hb dX10_misheard_102 ?_
  refine lv_iadd hx hb dX10_misheard_103 ?_
  obtain ⟨o15, ho15, h⟩ := gm_bind_e h
  refine gm_callV (As := [.int (((10 - x4) * v12) + (x4 * v14))]) (rest := []) (n := 1) (ci := 10) (q0 := 0) C0 hH (mX10_setFraction l dC dI  q q_now q_draft q_images q_kinds q_text q_duel q_cover q_clashes q_tally q_sayableByPair q_chosenPairs m_imagesKept m_bads m_nos m_fulls m_above m_below ((((10 - x4) * v12) + (x4 * v14)))   ho15) gX10_misheard_X10_setFraction rfl (by decide +kernel) ⟨rfl, rfl, Nat.le_of_ble_eq_true rfl, Nat.le_of_ble_eq_true rfl⟩ gm_T_ok (fun _ => trivial) [0] rfl rfl rfl [] rfl rfl rfl rfl hl.1 rfl (Nat.le_of_ble_eq_true rfl) dX10_misheard_104 ⟨Nat.zero_le _, Nat.zero_le _⟩ (fun H locs hH => ?_)
  have hH : gm_H (dC, dI) A s (wX10_misheard cI cR q q_now q_now_ending q_now_meaning q_now_alikeTo q_now_kind q_now_want q_kinds q_kinds_0 q_kinds_1 q_kinds_2 q_kinds_3 q_kinds_4 q_kinds_5 q_draft q_images q_text q_duel q_cover q_clashes q_tally q_sayableByPair q_chosenPairs q_now_cost q_now_saidAhead q_now_heardWord q_now_heardAnswer m_imagesKept m_bads m_nos m_fulls o15.1 o15.2 m_now_words m_now_people m_now_said m_now_undos m_now_heard m_now_ending m_now_meaning m_now_alikeTo m_now_kind m_now_want) H locs := hH
  refine lv_iconst (v := 1) hx hb dX10_misheard_107 (by decide) ?_
  obtain rfl := Option.some.inj h
  exact gm_iret C0 hH dX10_misheard_108
set_option maxRecDepth 100000 in
set_option maxHeartbeats 4000000 in
theorem mX10_misheard (l : Launch) (dC : Nat → ClassId) (dI : Nat → Nat → Nat) (cI cR : ClassId) (q q_now q_now_ending q_now_meaning q_now_alikeTo q_now_kind q_now_want q_kinds q_kinds_0 q_kinds_1 q_kinds_2 q_kinds_3 q_kinds_4 q_kinds_5 q_draft q_images q_text q_duel q_cover q_clashes q_tally q_sayableByPair q_chosenPairs q_now_cost q_now_saidAhead q_now_heardWord q_now_heardAnswer : Nat) (m_imagesKept : Int32) (m_bads : Int32) (m_nos : Int32) (m_fulls : Int32) (m_above : Int64) (m_below : Int64) (m_now_words : Int32) (m_now_people : Int32) (m_now_said : Int32) (m_now_undos : Int32) (m_now_heard : Int32) (m_now_ending : Nat → Int32) (m_now_meaning : Nat → Int32) (m_now_alikeTo : Nat → Int32) (m_now_kind : Nat → Int32) (m_now_want : Nat → Int32) (x1 : Int32) (x2 : Int32) (x3 : Int32) (x4 : Int32)  {N : Nat} {out : Int32 × Int32 × Int32 × Int32 × Int64 × Int64} (h : fX10_misheard N m_bads m_nos m_fulls m_above m_below m_now_words m_now_people m_now_said m_now_ending m_now_meaning m_now_alikeTo m_now_kind m_now_want x1 x2 x3 x4 = some out) : gm_Met l yX10_misheard wsX10_misheard rX10_misheard (dC, dI) [(cI, .int), (cR, .object "OnlyRhymes$Rhymer")] gm_T [.ref q, .int x1, .int x2, .int x3, .int x4] (wX10_misheard cI cR q q_now q_now_ending q_now_meaning q_now_alikeTo q_now_kind q_now_want q_kinds q_kinds_0 q_kinds_1 q_kinds_2 q_kinds_3 q_kinds_4 q_kinds_5 q_draft q_images q_text q_duel q_cover q_clashes q_tally q_sayableByPair q_chosenPairs q_now_cost q_now_saidAhead q_now_heardWord q_now_heardAnswer m_imagesKept m_bads m_nos m_fulls m_above m_below m_now_words m_now_people m_now_said m_now_undos m_now_heard m_now_ending m_now_meaning m_now_alikeTo m_now_kind m_now_want) (some (.int out.1)) (wX10_misheard cI cR q q_now q_now_ending q_now_meaning q_now_alikeTo q_now_kind q_now_want q_kinds q_kinds_0 q_kinds_1 q_kinds_2 q_kinds_3 q_kinds_4 q_kinds_5 q_draft q_images q_text q_duel q_cover q_clashes q_tally q_sayableByPair q_chosenPairs q_now_cost q_now_saidAhead q_now_heardWord q_now_heardAnswer m_imagesKept out.2.1 out.2.2.1 out.2.2.2.1 out.2.2.2.2.1 out.2.2.2.2.2 m_now_words m_now_people m_now_said m_now_undos m_now_heard m_now_ending m_now_meaning m_now_alikeTo m_now_kind m_now_want) := by
  refine gm_ofW (cc := cX10_misheard) (maxL := 8) (ret := (some .int)) (by decide +kernel) rfl (Nat.le_of_ble_eq_true rfl) ?_
  intro p e s m below meth c A C0 hH ls hl
  generalize ([.ref q, .int x1, .int x2, .int x3, .int x4] : List Value).toArray = args at C0 ⊢
  have hl : lv_has ls 8 [(0, .ref q), (1, .int x1), (2, .int x2), (3, .int x3), (4, .int x4)] := hl
  generalize s.heap = H at hH ⊢
  generalize ([] : List Loc) = locs at hH ⊢
  obtain ⟨hx, hb, hml, hr, hown, hts, hA, hK, hX, hlocks⟩ := id C0
  unfold fX10_misheard at h
  refine lv_aload_n hx hb dX10_misheard_0 rfl (lv_at hl 0 rfl) ?_
  refine lv_iload_n hx hb dX10_misheard_1 rfl (lv_at hl 1 rfl) ?_
  obtain ⟨o1, ho1, h⟩ := gm_bind_e h
  refine gm_callV (As := [.int x1]) (rest := []) (n := 1) (ci := 10) (q0 := 0) C0 hH (mX10_isPerson l dC dI  q q_now q_draft q_images q_kinds q_text q_duel q_cover q_clashes q_tally q_sayableByPair q_chosenPairs q_now_ending q_now_meaning q_now_cost q_now_alikeTo q_now_kind q_now_want q_now_saidAhead q_now_heardWord q_now_heardAnswer m_imagesKept m_bads m_nos m_fulls m_above m_below m_now_words m_now_people m_now_said m_now_undos m_now_heard x1   ho1) gX10_misheard_X10_isPerson rfl (by decide +kernel) ⟨rfl, rfl, Nat.le_of_ble_eq_true rfl, Nat.le_of_ble_eq_true rfl⟩ gm_T_ok (fun _ => trivial) [0, 1] rfl rfl rfl [] rfl rfl rfl rfl hl.1 rfl (Nat.le_of_ble_eq_true rfl) dX10_misheard_2 ⟨Nat.zero_le _, Nat.zero_le _⟩ (fun H locs hH => ?_)
  have hH : gm_H (dC, dI) A s (wX10_misheard cI cR q q_now q_now_ending q_now_meaning q_now_alikeTo q_now_kind q_now_want q_kinds q_kinds_0 q_kinds_1 q_kinds_2 q_kinds_3 q_kinds_4 q_kinds_5 q_draft q_images q_text q_duel q_cover q_clashes q_tally q_sayableByPair q_chosenPairs q_now_cost q_now_saidAhead q_now_heardWord q_now_heardAnswer m_imagesKept m_bads m_nos m_fulls m_above m_below m_now_words m_now_people m_now_said m_now_undos m_now_heard m_now_ending m_now_meaning m_now_alikeTo m_now_kind m_now_want) H locs := hH
  refine lv_if_eq (tgt := 35) hx hb dX10_misheard_5 (by decide) (fun hc2 => ?_) (fun hc2 => ?_)
  · replace h := gm_pos hc2 h
    exact tX10_misheard_b35 C0  h hH (lv_sub hl [0] rfl)
  · replace h := gm_neg hc2 h
    refine lv_aload_n hx hb dX10_misheard_8 rfl (lv_at hl 0 rfl) ?_
    refine lv_iload_n hx hb dX10_misheard_9 rfl (lv_at hl 2 rfl) ?_
    obtain ⟨o4, ho4, h⟩ := gm_bind_e h
    refine gm_callV (As := [.int x2]) (rest := []) (n := 1) (ci := 10) (q0 := 0) C0 hH (mX10_isWord l dC dI  q q_now q_draft q_images q_kinds q_text q_duel q_cover q_clashes q_tally q_sayableByPair q_chosenPairs q_now_ending q_now_meaning q_now_cost q_now_alikeTo q_now_kind q_now_want q_now_saidAhead q_now_heardWord q_now_heardAnswer m_imagesKept m_bads m_nos m_fulls m_above m_below m_now_words m_now_people m_now_said m_now_undos m_now_heard x2   ho4) gX10_misheard_X10_isWord rfl (by decide +kernel) ⟨rfl, rfl, Nat.le_of_ble_eq_true rfl, Nat.le_of_ble_eq_true rfl⟩ gm_T_ok (fun _ => trivial) [0, 1] rfl rfl rfl [] rfl rfl rfl rfl hl.1 rfl (Nat.le_of_ble_eq_true rfl) dX10_misheard_10 ⟨Nat.zero_le _, Nat.zero_le _⟩ (fun H locs hH => ?_)
    have hH : gm_H (dC, dI) A s (wX10_misheard cI cR q q_now q_now_ending q_now_meaning q_now_alikeTo q_now_kind q_now_want q_kinds q_kinds_0 q_kinds_1 q_kinds_2 q_kinds_3 q_kinds_4 q_kinds_5 q_draft q_images q_text q_duel q_cover q_clashes q_tally q_sayableByPair q_chosenPairs q_now_cost q_now_saidAhead q_now_heardWord q_now_heardAnswer m_imagesKept m_bads m_nos m_fulls m_above m_below m_now_words m_now_people m_now_said m_now_undos m_now_heard m_now_ending m_now_meaning m_now_alikeTo m_now_kind m_now_want) H locs := hH
    refine lv_if_eq (tgt := 35) hx hb dX10_misheard_13 (by decide) (fun hc5 => ?_) (fun hc5 => ?_)
    · replace h := gm_pos hc5 h
      exact tX10_misheard_b35 C0  h hH (lv_sub hl [0] rfl)
    · replace h := gm_neg hc5 h
      refine lv_iload_n hx hb dX10_misheard_16 rfl (lv_at hl 3 rfl) ?_
      refine lv_bipush (v := 8) hx hb dX10_misheard_17 (by decide) ?_
      obtain ⟨o6, ho6, h⟩ := gm_bind_e h
      refine gm_callS (As := [.int x3, .int 8]) (rest := []) (n := 2) C0 hH (mX10_fits l dC dI    x3 8   ho6) gX10_misheard_X10_fits rfl (by decide +kernel) ⟨rfl, rfl, Nat.le_of_ble_eq_true rfl, Nat.le_of_ble_eq_true rfl⟩ gm_T_ok (fun _ => trivial) [] rfl rfl rfl [] rfl rfl hl.1 rfl (Nat.le_of_ble_eq_true rfl) dX10_misheard_19 ⟨Nat.zero_le _, Nat.zero_le _⟩ (fun H locs hH => ?_)
      have hH : gm_H (dC, dI) A s (wX10_misheard cI cR q q_now q_now_ending q_now_meaning q_now_alikeTo q_now_kind q_now_want q_kinds q_kinds_0 q_kinds_1 q_kinds_2 q_kinds_3 q_kinds_4 q_kinds_5 q_draft q_images q_text q_duel q_cover q_clashes q_tally q_sayableByPair q_chosenPairs q_now_cost q_now_saidAhead q_now_heardWord q_now_heardAnswer m_imagesKept m_bads m_nos m_fulls m_above m_below m_now_words m_now_people m_now_said m_now_undos m_now_heard m_now_ending m_now_meaning m_now_alikeTo m_now_kind m_now_want) H locs := hH
      refine lv_if_eq (tgt := 35) hx hb dX10_misheard_22 (by decide) (fun hc7 => ?_) (fun hc7 => ?_)
      · replace h := gm_pos hc7 h
        exact tX10_misheard_b35 C0  h hH (lv_sub hl [0] rfl)
      · replace h := gm_neg hc7 h
        refine lv_iload hx hb dX10_misheard_25 (lv_at hl 4 rfl) ?_
        refine lv_bipush (v := 11) hx hb dX10_misheard_27 (by decide) ?_
        obtain ⟨o8, ho8, h⟩ := gm_bind_e h
        refine gm_callS (As := [.int x4, .int 11]) (rest := []) (n := 2) C0 hH (mX10_fits l dC dI    x4 11   ho8) gX10_misheard_X10_fits rfl (by decide +kernel) ⟨rfl, rfl, Nat.le_of_ble_eq_true rfl, Nat.le_of_ble_eq_true rfl⟩ gm_T_ok (fun _ => trivial) [] rfl rfl rfl [] rfl rfl hl.1 rfl (Nat.le_of_ble_eq_true rfl) dX10_misheard_29 ⟨Nat.zero_le _, Nat.zero_le _⟩ (fun H locs hH => ?_)
        have hH : gm_H (dC, dI) A s (wX10_misheard cI cR q q_now q_now_ending q_now_meaning q_now_alikeTo q_now_kind q_now_want q_kinds q_kinds_0 q_kinds_1 q_kinds_2 q_kinds_3 q_kinds_4 q_kinds_5 q_draft q_images q_text q_duel q_cover q_clashes q_tally q_sayableByPair q_chosenPairs q_now_cost q_now_saidAhead q_now_heardWord q_now_heardAnswer m_imagesKept m_bads m_nos m_fulls m_above m_below m_now_words m_now_people m_now_said m_now_undos m_now_heard m_now_ending m_now_meaning m_now_alikeTo m_now_kind m_now_want) H locs := hH
        refine lv_if_ne (tgt := 42) hx hb dX10_misheard_32 (by decide) (fun hc9 => ?_) (fun hc9 => ?_)
        · replace h := gm_neg hc9 h
          refine lv_iload_n hx hb dX10_misheard_42 rfl (lv_at hl 2 rfl) ?_
          refine lv_iconst (v := 1) hx hb dX10_misheard_43 (by decide) ?_
          refine lv_iadd hx hb dX10_misheard_44 ?_
          refine lv_aload_n hx hb dX10_misheard_45 rfl (lv_at hl 0 rfl) ?_
          refine gm_get (ci := 10) C0 hH inX10_misheard_X10 0 0 1 rfl rfl (by decide) rfl rfl dX10_misheard_46 ?_
          refine gm_get (ci := 9) C0 hH inX10_misheard_X9 1 3 2 rfl rfl (by decide) rfl rfl dX10_misheard_49 ?_
          refine lv_icmp_ge (tgt := 61) hx hb dX10_misheard_52 (by decide) (fun hc10 => ?_) (fun hc10 => ?_)
          · replace h := gm_pos hc10 h
            refine lv_iconst (v := 0) hx hb dX10_misheard_61 (by decide) ?_
            exact tX10_misheard_b62 C0  h hH (lv_sub hl [0, 1, 2, 3, 4] rfl)
          · replace h := gm_neg hc10 h
            refine lv_iload_n hx hb dX10_misheard_55 rfl (lv_at hl 2 rfl) ?_
            refine lv_iconst (v := 1) hx hb dX10_misheard_56 (by decide) ?_
            refine lv_iadd hx hb dX10_misheard_57 ?_
            refine lv_goto (tgt := 62) hx hb dX10_misheard_58 (by decide) ?_
            exact tX10_misheard_b62 C0  h hH (lv_sub hl [0, 1, 2, 3, 4] rfl)
        · replace h := gm_pos hc9 h
          exact tX10_misheard_b35 C0  h hH (lv_sub hl [0] rfl)

/-! X10_talks -/
abbrev wX10_talks (cI cR : ClassId) (q q_now q_now_ending q_now_meaning q_now_alikeTo q_now_kind q_now_want q_kinds q_kinds_0 q_kinds_1 q_kinds_2 q_kinds_3 q_kinds_4 q_kinds_5 q_draft q_images q_text q_duel q_cover q_clashes q_tally q_sayableByPair q_chosenPairs q_now_cost q_now_saidAhead q_now_heardWord q_now_heardAnswer : Nat) (m_imagesKept : Int32) (m_bads : Int32) (m_nos : Int32) (m_fulls : Int32) (m_above : Int64) (m_below : Int64) (m_now_words : Int32) (m_now_people : Int32) (m_now_said : Int32) (m_now_undos : Int32) (m_now_heard : Int32) (m_now_ending : Nat → Int32) (m_now_meaning : Nat → Int32) (m_now_alikeTo : Nat → Int32) (m_now_kind : Nat → Int32) (m_now_want : Nat → Int32) : va_W := [(q, .inr (10, [.ref q_now, .ref q_draft, .ref q_images, .int m_imagesKept, .ref q_kinds, .ref q_text, .ref q_duel, .ref q_cover, .int m_bads, .int m_nos, .int m_fulls, .long m_above, .long m_below, .ref q_clashes, .ref q_tally, .ref q_sayableByPair, .ref q_chosenPairs])), (q_now, .inr (9, [.ref q_now_ending, .ref q_now_meaning, .ref q_now_cost, .int m_now_words, .ref q_now_alikeTo, .ref q_now_kind, .ref q_now_want, .int m_now_people, .int m_now_said, .ref q_now_saidAhead, .int m_now_undos, .ref q_now_heardWord, .ref q_now_heardAnswer, .int m_now_heard])), (q_now_ending, .inl (cI, 10, .inl m_now_ending)), (q_now_meaning, .inl (cI, 10, .inl m_now_meaning)), (q_now_alikeTo, .inl (cI, 8, .inl m_now_alikeTo)), (q_now_kind, .inl (cI, 5, .inl m_now_kind)), (q_now_want, .inl (cI, 5, .inl m_now_want)), (q_kinds, .inl (cR, 6, .inr (.inr (.inr (.inr (gm_kd q_kinds_0 q_kinds_1 q_kinds_2 q_kinds_3 q_kinds_4 q_kinds_5)))))), (q_kinds_0, .inr (7, [])), (q_kinds_1, .inr (4, [])), (q_kinds_2, .inr (3, [])), (q_kinds_3, .inr (8, [])), (q_kinds_4, .inr (5, [])), (q_kinds_5, .inr (0, []))]
abbrev rX10_talks : Room := { frames := 4, cells := 0, slots := 0, locals := 93 }
def fX10_talks_b18 (N : Nat)  (m_bads : Int32) (m_nos : Int32) (m_fulls : Int32) : Option (Int32 × Int32 × Int32 × Int32) := gm_bind (fX10_refuse N m_bads m_nos m_fulls ((-2))) (fun o3 => some (o3.1, o3.2.1, o3.2.2.1, o3.2.2.2))
def fX10_talks_b200 (N : Nat) (r65 : Int64 → Int32 → Int32 → Int32 → Option (Int32 × Int32 × Int32 × Int32)) (m_bads : Int32) (m_nos : Int32) (m_fulls : Int32) (m_now_words : Int32) (m_now_people : Int32) (m_now_ending : Nat → Int32) (m_now_meaning : Nat → Int32) (m_now_alikeTo : Nat → Int32) (m_now_kind : Nat → Int32) (m_now_want : Nat → Int32) (x2 : Int32) (x3 : Int64) (x5 : Int32) (x6 : Int32) (x7 : Int32) : Option (Int32 × Int32 × Int32 × Int32) := (r65 x3 x5 x6 ((x7 + 1)))
def fX10_talks_b65_body (N : Nat)  (m_bads : Int32) (m_nos : Int32) (m_fulls : Int32) (m_now_words : Int32) (m_now_people : Int32) (m_now_ending : Nat → Int32) (m_now_meaning : Nat → Int32) (m_now_alikeTo : Nat → Int32) (m_now_kind : Nat → Int32) (m_now_want : Nat → Int32) (x2 : Int32) (r65 : Int64 → Int32 → Int32 → Int32 → Option (Int32 × Int32 × Int32 × Int32)) (x3 : Int64) (x5 : Int32) (x6 : Int32) (x7 : Int32) : Option (Int32 × Int32 × Int32 × Int32) := (if x2 ≤ x7 then some (x6, m_bads, m_nos, m_fulls) else gm_nzL 2147483648 (gm_let ((((x3 * 1103515245) + 12345) - ((x3 * 1103515245) + 12345) / 2147483648 * 2147483648) : Int64) (fun (v11 : Int64) => gm_nzL 65536 (gm_nzL (Int32.toInt64 m_now_words) (gm_let ((Int64.toInt32 ((v11 / 65536) - (v11 / 65536) / (Int32.toInt64 m_now_words) * (Int32.toInt64 m_now_words))) : Int32) (fun (v14 : Int32) => gm_nz m_now_people (gm_let ((x7 - x7 / m_now_people * m_now_people) : Int32) (fun (v16 : Int32) => gm_chk v16 5 (gm_chk ((m_now_kind (Int32.toNatClampNeg v16))) 6 (gm_chk v16 5 (gm_bind (fKD N ((m_now_kind (Int32.toNatClampNeg v16))) m_now_words m_now_ending m_now_meaning m_now_alikeTo ((m_now_want (Int32.toNatClampNeg v16))) v14) (fun o20 => gm_chk v16 5 (gm_bind (fX9_firstOf N m_now_words m_now_meaning ((o20 &&& (x5 ^^^ (-1)))) ((m_now_want (Int32.toNatClampNeg v16)))) (fun o22 => (if o22 = (-1) then (fX10_talks_b200 N r65 m_bads m_nos m_fulls m_now_words m_now_people m_now_ending m_now_meaning m_now_alikeTo m_now_kind m_now_want x2 v11 0 x6 x7) else gm_let ((x5 ||| ((1 : Int32) <<< (o22 &&& 31))) : Int32) (fun (v24 : Int32) => (fX10_talks_b200 N r65 m_bads m_nos m_fulls m_now_words m_now_people m_now_ending m_now_meaning m_now_alikeTo m_now_kind m_now_want x2 v11 v24 ((x6 + 1)) x7)))))))))))))))))
def fX10_talks_b65 (N : Nat)  (m_bads : Int32) (m_nos : Int32) (m_fulls : Int32) (m_now_words : Int32) (m_now_people : Int32) (m_now_ending : Nat → Int32) (m_now_meaning : Nat → Int32) (m_now_alikeTo : Nat → Int32) (m_now_kind : Nat → Int32) (m_now_want : Nat → Int32) (x2 : Int32) (x3 : Int64) (x5 : Int32) (x6 : Int32) (x7 : Int32) : Option (Int32 × Int32 × Int32 × Int32) := gm_fix (fX10_talks_b65_body N  m_bads m_nos m_fulls m_now_words m_now_people m_now_ending m_now_meaning m_now_alikeTo m_now_kind m_now_want x2) (fun _ _ _ _ => none) N x3 x5 x6 x7
def fX10_talks (N : Nat) (m_bads : Int32) (m_nos : Int32) (m_fulls : Int32) (m_now_words : Int32) (m_now_people : Int32) (m_now_said : Int32) (m_now_ending : Nat → Int32) (m_now_meaning : Nat → Int32) (m_now_alikeTo : Nat → Int32) (m_now_kind : Nat → Int32) (m_now_want : Nat → Int32) (x1 : Int32) (x2 : Int32) : Option (Int32 × Int32 × Int32 × Int32) := gm_bind (fX10_fits N x1 1000000) (fun o1 => (if o1 = 0 then (fX10_talks_b18 N  m_bads m_nos m_fulls) else gm_bind (fX10_fits N x2 61) (fun o4 => (if o4 = 0 then (fX10_talks_b18 N  m_bads m_nos m_fulls) else (if m_now_words = 0 then some ((-1), m_bads, m_nos, m_fulls) else (if m_now_people = 0 then some ((-1), m_bads, m_nos, m_fulls) else gm_let ((Int32.toInt64 x1) : Int64) (fun (v8 : Int64) => (fX10_talks_b65 N  m_bads m_nos m_fulls m_now_words m_now_people m_now_ending m_now_meaning m_now_alikeTo m_now_kind m_now_want x2 v8 m_now_said 0 0))))))))
set_option maxRecDepth 20000 in
theorem inX10_talks_X10 : ∀ w ∈ u_ws RX10 TX10 17, w ∈ wsX10_talks := fun w h => by
  obtain ⟨k, hk, rfl⟩ := List.mem_map.mp h
  have hk2 := List.mem_range.mp hk
  exact List.mem_of_getElem? (i := 86 + k) (by rcases (show k = 0 ∨ k = 1 ∨ k = 2 ∨ k = 3 ∨ k = 4 ∨ k = 5 ∨ k = 6 ∨ k = 7 ∨ k = 8 ∨ k = 9 ∨ k = 10 ∨ k = 11 ∨ k = 12 ∨ k = 13 ∨ k = 14 ∨ k = 15 ∨ k = 16 by omega) with rfl | rfl | rfl | rfl | rfl | rfl | rfl | rfl | rfl | rfl | rfl | rfl | rfl | rfl | rfl | rfl | rfl <;> rfl)
set_option maxRecDepth 20000 in
theorem inX10_talks_X9 : ∀ w ∈ u_ws RX9 TX9 14, w ∈ wsX10_talks := fun w h => by
  obtain ⟨k, hk, rfl⟩ := List.mem_map.mp h
  have hk2 := List.mem_range.mp hk
  exact List.mem_of_getElem? (i := 103 + k) (by rcases (show k = 0 ∨ k = 1 ∨ k = 2 ∨ k = 3 ∨ k = 4 ∨ k = 5 ∨ k = 6 ∨ k = 7 ∨ k = 8 ∨ k = 9 ∨ k = 10 ∨ k = 11 ∨ k = 12 ∨ k = 13 by omega) with rfl | rfl | rfl | rfl | rfl | rfl | rfl | rfl | rfl | rfl | rfl | rfl | rfl | rfl <;> rfl)
set_option maxRecDepth 100000 in
set_option maxHeartbeats 4000000 in
theorem tX10_talks_b18 {p : Program} {l : Launch} {e : Env} {s : State} {m : MethodId} {args : Array Value} {below : List Frame} {meth : Method} {c : Code} {A : Nat → Prop} {dC : Nat → ClassId} {dI : Nat → Nat → Nat} {cI cR : ClassId} {q q_now q_now_ending q_now_meaning q_now_alikeTo q_now_kind q_now_want q_kinds q_kinds_0 q_kinds_1 q_kinds_2 q_kinds_3 q_kinds_4 q_kinds_5 q_draft q_images q_text q_duel q_cover q_clashes q_tally q_sayableByPair q_chosenPairs q_now_cost q_now_saidAhead q_now_heardWord q_now_heardAnswer : Nat} {m_imagesKept : Int32} {m_bads : Int32} {m_nos : Int32} {m_fulls : Int32} {m_above : Int64} {m_below : Int64} {m_now_words : Int32} {m_now_people : Int32} {m_now_said : Int32} {m_now_undos : Int32} {m_now_heard : Int32} {m_now_ending : Nat → Int32} {m_now_meaning : Nat → Int32} {m_now_alikeTo : Nat → Int32} {m_now_kind : Nat → Int32} {m_now_want : Nat → Int32} (C0 : gm_C p s m args meth c (dC, dI) [(cI, .int), (cR, .object "OnlyRhymes$Rhymer")] A gm_T RX10 cX10_talks 12 (some .int) wsX10_talks) {N : Nat} {out : Int32 × Int32 × Int32 × Int32}    {H : Heap} {locs : List Loc} {ls : Array Slot} (h : fX10_talks_b18 N  m_bads m_nos m_fulls = some out) (hH : gm_H (dC, dI) A s (wX10_talks cI cR q q_now q_now_ending q_now_meaning q_now_alikeTo q_now_kind q_now_want q_kinds q_kinds_0 q_kinds_1 q_kinds_2 q_kinds_3 q_kinds_4 q_kinds_5 q_draft q_images q_text q_duel q_cover q_clashes q_tally q_sayableByPair q_chosenPairs q_now_cost q_now_saidAhead q_now_heardWord q_now_heardAnswer m_imagesKept m_bads m_nos m_fulls m_above m_below m_now_words m_now_people m_now_said m_now_undos m_now_heard m_now_ending m_now_meaning m_now_alikeTo m_now_kind m_now_want) H locs) (hl : lv_has ls 12 [(0, .ref q)]) : W p l e rX10_talks s m args below meth c H locs 0 0 (MQ below (gm_Q (dC, dI) [(cI, .int), (cR, .object "OnlyRhymes$Rhymer")] A (some (.int out.1)) (wX10_talks cI cR q q_now q_now_ending q_now_meaning q_now_alikeTo q_now_kind q_now_want q_kinds q_kinds_0 q_kinds_1 q_kinds_2 q_kinds_3 q_kinds_4 q_kinds_5 q_draft q_images q_text q_duel q_cover q_clashes q_tally q_sayableByPair q_chosenPairs q_now_cost q_now_saidAhead q_now_heardWord q_now_heardAnswer m_imagesKept out.2.1 out.2.2.1 out.2.2.2 m_above m_below m_now_words m_now_people m_now_said m_now_undos m_now_heard m_now_ending m_now_meaning m_now_alikeTo m_now_kind m_now_want)) args s 0 0 A) (F0 m 18 ls []) := by
  obtain ⟨hx, hb, hml, hr, hown, hts, hA, hK, hX, hlocks⟩ := id C0
  unfold fX10_talks_b18 at h
  refine lv_aload_n hx hb dX10_talks_18 rfl (lv_at hl 0 rfl) ?_
  refine lv_bipush (v := (-2)) hx hb dX10_talks_19 (by decide) ?_
  obtain ⟨o3, ho3, h⟩ := gm_bind_e h
  refine gm_callV (As := [.int (-2)]) (rest := []) (n := 1) (ci := 10) (q0 := 0) C0 hH (mX10_refuse l dC dI  q q_now q_draft q_images q_kinds q_text q_duel q_cover q_clashes q_tally q_sayableByPair q_chosenPairs m_imagesKept m_bads m_nos m_fulls m_above m_below ((-2))   ho3) gX10_talks_X10_refuse rfl (by decide +kernel) ⟨rfl, rfl, Nat.le_of_ble_eq_true rfl, Nat.le_of_ble_eq_true rfl⟩ gm_T_ok (fun _ => trivial) [0] rfl rfl rfl [] rfl rfl rfl rfl hl.1 rfl (Nat.le_of_ble_eq_true rfl) dX10_talks_21 ⟨Nat.zero_le _, Nat.zero_le _⟩ (fun H locs hH => ?_)
  have hH : gm_H (dC, dI) A s (wX10_talks cI cR q q_now q_now_ending q_now_meaning q_now_alikeTo q_now_kind q_now_want q_kinds q_kinds_0 q_kinds_1 q_kinds_2 q_kinds_3 q_kinds_4 q_kinds_5 q_draft q_images q_text q_duel q_cover q_clashes q_tally q_sayableByPair q_chosenPairs q_now_cost q_now_saidAhead q_now_heardWord q_now_heardAnswer m_imagesKept o3.2.1 o3.2.2.1 o3.2.2.2 m_above m_below m_now_words m_now_people m_now_said m_now_undos m_now_heard m_now_ending m_now_meaning m_now_alikeTo m_now_kind m_now_want) H locs := hH
  obtain rfl := Option.some.inj h
  exact gm_iret C0 hH dX10_talks_24
set_option maxRecDepth 100000 in
set_option maxHeartbeats 4000000 in
theorem tX10_talks_b200 {p : Program} {l : Launch} {e : Env} {s : State} {m : MethodId} {args : Array Value} {below : List Frame} {meth : Method} {c : Code} {A : Nat → Prop} {dC : Nat → ClassId} {dI : Nat → Nat → Nat} {cI cR : ClassId} {q q_now q_now_ending q_now_meaning q_now_alikeTo q_now_kind q_now_want q_kinds q_kinds_0 q_kinds_1 q_kinds_2 q_kinds_3 q_kinds_4 q_kinds_5 q_draft q_images q_text q_duel q_cover q_clashes q_tally q_sayableByPair q_chosenPairs q_now_cost q_now_saidAhead q_now_heardWord q_now_heardAnswer : Nat} {m_imagesKept : Int32} {m_bads : Int32} {m_nos : Int32} {m_fulls : Int32} {m_above : Int64} {m_below : Int64} {m_now_words : Int32} {m_now_people : Int32} {m_now_said : Int32} {m_now_undos : Int32} {m_now_heard : Int32} {m_now_ending : Nat → Int32} {m_now_meaning : Nat → Int32} {m_now_alikeTo : Nat → Int32} {m_now_kind : Nat → Int32} {m_now_want : Nat → Int32} {x2 : Int32} {x3 : Int64} {x5 : Int32} {x6 : Int32} {x7 : Int32} (C0 : gm_C p s m args meth c (dC, dI) [(cI, .int), (cR, .object "OnlyRhymes$Rhymer")] A gm_T RX10 cX10_talks 12 (some .int) wsX10_talks) {N : Nat} {out : Int32 × Int32 × Int32 × Int32} {r65 : Int64 → Int32 → Int32 → Int32 → Option (Int32 × Int32 × Int32 × Int32)} (hr65 : ∀ (x3 : Int64) (x5 : Int32) (x6 : Int32) (x7 : Int32) (H : Heap) (locs : List Loc) (ls : Array Slot), r65 x3 x5 x6 x7 = some out → gm_H (dC, dI) A s (wX10_talks cI cR q q_now q_now_ending q_now_meaning q_now_alikeTo q_now_kind q_now_want q_kinds q_kinds_0 q_kinds_1 q_kinds_2 q_kinds_3 q_kinds_4 q_kinds_5 q_draft q_images q_text q_duel q_cover q_clashes q_tally q_sayableByPair q_chosenPairs q_now_cost q_now_saidAhead q_now_heardWord q_now_heardAnswer m_imagesKept m_bads m_nos m_fulls m_above m_below m_now_words m_now_people m_now_said m_now_undos m_now_heard m_now_ending m_now_meaning m_now_alikeTo m_now_kind m_now_want) H locs → lv_has ls 12 [(0, .ref q), (2, .int x2), (3, .long x3), (5, .int x5), (6, .int x6), (7, .int x7)] → W p l e rX10_talks s m args below meth c H locs 0 0 (MQ below (gm_Q (dC, dI) [(cI, .int), (cR, .object "OnlyRhymes$Rhymer")] A (some (.int out.1)) (wX10_talks cI cR q q_now q_now_ending q_now_meaning q_now_alikeTo q_now_kind q_now_want q_kinds q_kinds_0 q_kinds_1 q_kinds_2 q_kinds_3 q_kinds_4 q_kinds_5 q_draft q_images q_text q_duel q_cover q_clashes q_tally q_sayableByPair q_chosenPairs q_now_cost q_now_saidAhead q_now_heardWord q_now_heardAnswer m_imagesKept out.2.1 out.2.2.1 out.2.2.2 m_above m_below m_now_words m_now_people m_now_said m_now_undos m_now_heard m_now_ending m_now_meaning m_now_alikeTo m_now_kind m_now_want)) args s 0 0 A) (F0 m 65 ls []))   {H : Heap} {locs : List Loc} {ls : Array Slot} (h : fX10_talks_b200 N r65 m_bads m_nos m_fulls m_now_words m_now_people m_now_ending m_now_meaning m_now_alikeTo m_now_kind m_now_want x2 x3 x5 x6 x7 = some out) (hH : gm_H (dC, dI) A s (wX10_talks cI cR q q_now q_now_ending q_now_meaning q_now_alikeTo q_now_kind q_now_want q_kinds q_kinds_0 q_kinds_1 q_kinds_2 q_kinds_3 q_kinds_4 q_kinds_5 q_draft q_images q_text q_duel q_cover q_clashes q_tally q_sayableByPair q_chosenPairs q_now_cost q_now_saidAhead q_now_heardWord q_now_heardAnswer m_imagesKept m_bads m_nos m_fulls m_above m_below m_now_words m_now_people m_now_said m_now_undos m_now_heard m_now_ending m_now_meaning m_now_alikeTo m_now_kind m_now_want) H locs) (hl : lv_has ls 12 [(0, .ref q), (2, .int x2), (3, .long x3), (5, .int x5), (6, .int x6), (7, .int x7)]) : W p l e rX10_talks s m args below meth c H locs 0 0 (MQ below (gm_Q (dC, dI) [(cI, .int), (cR, .object "OnlyRhymes$Rhymer")] A (some (.int out.1)) (wX10_talks cI cR q q_now q_now_ending q_now_meaning q_now_alikeTo q_now_kind q_now_want q_kinds q_kinds_0 q_kinds_1 q_kinds_2 q_kinds_3 q_kinds_4 q_kinds_5 q_draft q_images q_text q_duel q_cover q_clashes q_tally q_sayableByPair q_chosenPairs q_now_cost q_now_saidAhead q_now_heardWord q_now_heardAnswer m_imagesKept out.2.1 out.2.2.1 out.2.2.2 m_above m_below m_now_words m_now_people m_now_said m_now_undos m_now_heard m_now_ending m_now_meaning m_now_alikeTo m_now_kind m_now_want)) args s 0 0 A) (F0 m 200 ls []) := by
  obtain ⟨hx, hb, hml, hr, hown, hts, hA, hK, hX, hlocks⟩ := id C0
  unfold fX10_talks_b200 at h
  refine lv_iinc (v := (x7 + 1)) (lv' := [(7, .int (x7 + 1)), (0, .ref q), (2, .int x2), (3, .long x3), (5, .int x5), (6, .int x6)]) hx hb dX10_talks_200 hl (k := 5) rfl rfl (by decide) rfl (fun ls hl => ?_)
  refine lv_goto (tgt := 65) hx hb dX10_talks_203 (by decide) ?_
  exact hr65 _ _ _ _ _ _ _ h hH (lv_sub hl [1, 2, 3, 4, 5, 0] rfl)
set_option maxRecDepth 100000 in
set_option maxHeartbeats 4000000 in
theorem tX10_talks_b65 {p : Program} {l : Launch} {e : Env} {s : State} {m : MethodId} {args : Array Value} {below : List Frame} {meth : Method} {c : Code} {A : Nat → Prop} {dC : Nat → ClassId} {dI : Nat → Nat → Nat} {cI cR : ClassId} {q q_now q_now_ending q_now_meaning q_now_alikeTo q_now_kind q_now_want q_kinds q_kinds_0 q_kinds_1 q_kinds_2 q_kinds_3 q_kinds_4 q_kinds_5 q_draft q_images q_text q_duel q_cover q_clashes q_tally q_sayableByPair q_chosenPairs q_now_cost q_now_saidAhead q_now_heardWord q_now_heardAnswer : Nat} {m_imagesKept : Int32} {m_bads : Int32} {m_nos : Int32} {m_fulls : Int32} {m_above : Int64} {m_below : Int64} {m_now_words : Int32} {m_now_people : Int32} {m_now_said : Int32} {m_now_undos : Int32} {m_now_heard : Int32} {m_now_ending : Nat → Int32} {m_now_meaning : Nat → Int32} {m_now_alikeTo : Nat → Int32} {m_now_kind : Nat → Int32} {m_now_want : Nat → Int32} {x2 : Int32} (C0 : gm_C p s m args meth c (dC, dI) [(cI, .int), (cR, .object "OnlyRhymes$Rhymer")] A gm_T RX10 cX10_talks 12 (some .int) wsX10_talks) {N : Nat} {out : Int32 × Int32 × Int32 × Int32}   : ∀ (n : Nat), ∀ (x3 : Int64) (x5 : Int32) (x6 : Int32) (x7 : Int32) (H : Heap) (locs : List Loc) (ls : Array Slot), (gm_fix (fX10_talks_b65_body N  m_bads m_nos m_fulls m_now_words m_now_people m_now_ending m_now_meaning m_now_alikeTo m_now_kind m_now_want x2) (fun _ _ _ _ => none) n) x3 x5 x6 x7 = some out → gm_H (dC, dI) A s (wX10_talks cI cR q q_now q_now_ending q_now_meaning q_now_alikeTo q_now_kind q_now_want q_kinds q_kinds_0 q_kinds_1 q_kinds_2 q_kinds_3 q_kinds_4 q_kinds_5 q_draft q_images q_text q_duel q_cover q_clashes q_tally q_sayableByPair q_chosenPairs q_now_cost q_now_saidAhead q_now_heardWord q_now_heardAnswer m_imagesKept m_bads m_nos m_fulls m_above m_below m_now_words m_now_people m_now_said m_now_undos m_now_heard m_now_ending m_now_meaning m_now_alikeTo m_now_kind m_now_want) H locs → lv_has ls 12 [(0, .ref q), (2, .int x2), (3, .long x3), (5, .int x5), (6, .int x6), (7, .int x7)] → W p l e rX10_talks s m args below meth c H locs 0 0 (MQ below (gm_Q (dC, dI) [(cI, .int), (cR, .object "OnlyRhymes$Rhymer")] A (some (.int out.1)) (wX10_talks cI cR q q_now q_now_ending q_now_meaning q_now_alikeTo q_now_kind q_now_want q_kinds q_kinds_0 q_kinds_1 q_kinds_2 q_kinds_3 q_kinds_4 q_kinds_5 q_draft q_images q_text q_duel q_cover q_clashes q_tally q_sayableByPair q_chosenPairs q_now_cost q_now_saidAhead q_now_heardWord q_now_heardAnswer m_imagesKept out.2.1 out.2.2.1 out.2.2.2 m_above m_below m_now_words m_now_people m_now_said m_now_undos m_now_heard m_now_ending m_now_meaning m_now_alikeTo m_now_kind m_now_want)) args s 0 0 A) (F0 m 65 ls []) := by
  obtain ⟨hx, hb, hml, hr, hown, hts, hA, hK, hX, hlocks⟩ := id C0
  intro n
  induction n with
  | zero =>
    intro x3 x5 x6 x7 H locs ls h hH hl
    cases h
  | succ n hr65 =>
    intro x3 x5 x6 x7 H locs ls h hH hl
    rw [gm_fix_s] at h
    unfold fX10_talks_b65_body at h
    refine lv_iload hx hb dX10_talks_65 (lv_at hl 5 rfl) ?_
    refine lv_iload_n hx hb dX10_talks_67 rfl (lv_at hl 1 rfl) ?_
    refine lv_icmp_ge (tgt := 206) hx hb dX10_talks_68 (by decide) (fun hc9 => ?_) (fun hc9 => ?_)
    · replace h := gm_pos hc9 h
      refine lv_iload hx hb dX10_talks_206 (lv_at hl 4 rfl) ?_
      obtain rfl := Option.some.inj h
      exact gm_iret C0 hH dX10_talks_208
    · replace h := gm_neg hc9 h
      refine lv_lload_n hx hb dX10_talks_71 rfl (lv_at hl 2 rfl) ?_
      refine lv_ldc2 (own := RX10) (v := 1103515245) hx hb hown (gm_at C0 6 rfl) dX10_talks_72 ?_
      refine lv_lmul hx hb dX10_talks_75 ?_
      refine lv_ldc2 (own := RX10) (v := 12345) hx hb hown (gm_at C0 7 rfl) dX10_talks_76 ?_
      refine lv_ladd hx hb dX10_talks_79 ?_
      refine lv_ldc2 (own := RX10) (v := 2147483648) hx hb hown (gm_at C0 8 rfl) dX10_talks_80 ?_
      obtain ⟨hz10, h⟩ := gm_nzL_e h
      refine lv_lrem hx hb dX10_talks_83 hz10 ?_
      refine lv_topl (fun v11 ev11 => ?_)
      replace h := gm_let_e ev11 h
      refine lv_lstore_n (lv' := [(3, .long v11), (0, .ref q), (2, .int x2), (5, .int x5), (6, .int x6), (7, .int x7)]) hx hb dX10_talks_84 rfl hl (by decide) rfl (fun ls hl => ?_)
      refine lv_lload_n hx hb dX10_talks_85 rfl (lv_at hl 0 rfl) ?_
      refine lv_ldc2 (own := RX10) (v := 65536) hx hb hown (gm_at C0 9 rfl) dX10_talks_86 ?_
      obtain ⟨hz12, h⟩ := gm_nzL_e h
      refine lv_ldiv hx hb dX10_talks_89 hz12 ?_
      refine lv_aload_n hx hb dX10_talks_90 rfl (lv_at hl 1 rfl) ?_
      refine gm_get (ci := 10) C0 hH inX10_talks_X10 0 0 2 rfl rfl (by decide) rfl rfl dX10_talks_91 ?_
      refine gm_get (ci := 9) C0 hH inX10_talks_X9 1 3 3 rfl rfl (by decide) rfl rfl dX10_talks_94 ?_
      refine lv_i2l hx hb dX10_talks_97 rfl ?_
      obtain ⟨hz13, h⟩ := gm_nzL_e h
      refine lv_lrem hx hb dX10_talks_98 hz13 ?_
      refine lv_l2i hx hb dX10_talks_99 rfl ?_
      refine lv_topi (fun v14 ev14 => ?_)
      replace h := gm_let_e ev14 h
      refine lv_istore (lv' := [(8, .int v14), (3, .long v11), (0, .ref q), (2, .int x2), (5, .int x5), (6, .int x6), (7, .int x7)]) hx hb dX10_talks_100 hl (by decide) rfl (fun ls hl => ?_)
      refine lv_iload hx hb dX10_talks_102 (lv_at hl 6 rfl) ?_
      refine lv_aload_n hx hb dX10_talks_104 rfl (lv_at hl 2 rfl) ?_
      refine gm_get (ci := 10) C0 hH inX10_talks_X10 0 0 2 rfl rfl (by decide) rfl rfl dX10_talks_105 ?_
      refine gm_get (ci := 9) C0 hH inX10_talks_X9 1 7 4 rfl rfl (by decide) rfl rfl dX10_talks_108 ?_
      obtain ⟨hz15, h⟩ := gm_nz_e h
      refine lv_irem hx hb dX10_talks_111 hz15 ?_
      refine lv_topi (fun v16 ev16 => ?_)
      replace h := gm_let_e ev16 h
      refine lv_istore (lv' := [(9, .int v16), (8, .int v14), (3, .long v11), (0, .ref q), (2, .int x2), (5, .int x5), (6, .int x6), (7, .int x7)]) hx hb dX10_talks_112 hl (by decide) rfl (fun ls hl => ?_)
      refine lv_aload_n hx hb dX10_talks_114 rfl (lv_at hl 3 rfl) ?_
      refine gm_get (ci := 10) C0 hH inX10_talks_X10 0 4 10 rfl rfl (by decide) rfl rfl dX10_talks_115 ?_
      refine lv_aload_n hx hb dX10_talks_118 rfl (lv_at hl 3 rfl) ?_
      refine gm_get (ci := 10) C0 hH inX10_talks_X10 0 0 2 rfl rfl (by decide) rfl rfl dX10_talks_119 ?_
      refine gm_get (ci := 9) C0 hH inX10_talks_X9 1 5 11 rfl rfl (by decide) rfl rfl dX10_talks_122 ?_
      refine lv_iload hx hb dX10_talks_125 (lv_at hl 0 rfl) ?_
      obtain ⟨hi17, h⟩ := gm_chk_e h
      refine gm_iald C0 hH hi17 5 0 rfl rfl dX10_talks_127 ?_
      obtain ⟨hi18, h⟩ := gm_chk_e h
      refine gm_aldq C0 hH hi18 7 1 rfl rfl dX10_talks_128 ?_
      refine W.eq (g2 := F0 m 129 ls [.ref (gm_kf q_kinds_0 q_kinds_1 q_kinds_2 q_kinds_3 q_kinds_4 q_kinds_5 (Int32.toNatClampNeg ((m_now_kind (Int32.toNatClampNeg v16)))))]) (congrArg (fun v => F0 m 129 ls (v :: [])) (gm_kf_eq hi18)) ?_
      refine lv_aload_n hx hb dX10_talks_129 rfl (lv_at hl 3 rfl) ?_
      refine gm_get (ci := 10) C0 hH inX10_talks_X10 0 0 2 rfl rfl (by decide) rfl rfl dX10_talks_130 ?_
      refine lv_aload_n hx hb dX10_talks_133 rfl (lv_at hl 3 rfl) ?_
      refine gm_get (ci := 10) C0 hH inX10_talks_X10 0 0 2 rfl rfl (by decide) rfl rfl dX10_talks_134 ?_
      refine gm_get (ci := 9) C0 hH inX10_talks_X9 1 6 12 rfl rfl (by decide) rfl rfl dX10_talks_137 ?_
      refine lv_iload hx hb dX10_talks_140 (lv_at hl 0 rfl) ?_
      obtain ⟨hi19, h⟩ := gm_chk_e h
      refine gm_iald C0 hH hi19 6 0 rfl rfl dX10_talks_142 ?_
      refine lv_iload hx hb dX10_talks_143 (lv_at hl 1 rfl) ?_
      obtain ⟨o20, ho20, h⟩ := gm_bind_e h
      have kk : ∀ (H : Heap) (locs : List Loc), gm_H (dC, dI) A s (wX10_talks cI cR q q_now q_now_ending q_now_meaning q_now_alikeTo q_now_kind q_now_want q_kinds q_kinds_0 q_kinds_1 q_kinds_2 q_kinds_3 q_kinds_4 q_kinds_5 q_draft q_images q_text q_duel q_cover q_clashes q_tally q_sayableByPair q_chosenPairs q_now_cost q_now_saidAhead q_now_heardWord q_now_heardAnswer m_imagesKept m_bads m_nos m_fulls m_above m_below m_now_words m_now_people m_now_said m_now_undos m_now_heard m_now_ending m_now_meaning m_now_alikeTo m_now_kind m_now_want) H locs → W p l e rX10_talks s m args below meth c H locs 0 0 (MQ below (gm_Q (dC, dI) [(cI, .int), (cR, .object "OnlyRhymes$Rhymer")] A (some (.int out.1)) (wX10_talks cI cR q q_now q_now_ending q_now_meaning q_now_alikeTo q_now_kind q_now_want q_kinds q_kinds_0 q_kinds_1 q_kinds_2 q_kinds_3 q_kinds_4 q_kinds_5 q_draft q_images q_text q_duel q_cover q_clashes q_tally q_sayableByPair q_chosenPairs q_now_cost q_now_saidAhead q_now_heardWord q_now_heardAnswer m_imagesKept out.2.1 out.2.2.1 out.2.2.2 m_above m_below m_now_words m_now_people m_now_said m_now_undos m_now_heard m_now_ending m_now_meaning m_now_alikeTo m_now_kind m_now_want)) args s 0 0 A) (F0 m 148 ls [.int o20]) := by
        intro H locs hH
        refine lv_istore (lv' := [(10, .int o20), (9, .int v16), (8, .int v14), (3, .long v11), (0, .ref q), (2, .int x2), (5, .int x5), (6, .int x6), (7, .int x7)]) hx hb dX10_talks_148 hl (by decide) rfl (fun ls hl => ?_)
        refine lv_aload_n hx hb dX10_talks_150 rfl (lv_at hl 4 rfl) ?_
        refine gm_get (ci := 10) C0 hH inX10_talks_X10 0 0 2 rfl rfl (by decide) rfl rfl dX10_talks_151 ?_
        refine lv_iload hx hb dX10_talks_154 (lv_at hl 0 rfl) ?_
        refine lv_iload hx hb dX10_talks_156 (lv_at hl 6 rfl) ?_
        refine lv_iconst (v := (-1)) hx hb dX10_talks_158 (by decide) ?_
        refine lv_ixor hx hb dX10_talks_159 ?_
        refine lv_iand hx hb dX10_talks_160 ?_
        refine lv_aload_n hx hb dX10_talks_161 rfl (lv_at hl 4 rfl) ?_
        refine gm_get (ci := 10) C0 hH inX10_talks_X10 0 0 2 rfl rfl (by decide) rfl rfl dX10_talks_162 ?_
        refine gm_get (ci := 9) C0 hH inX10_talks_X9 1 6 12 rfl rfl (by decide) rfl rfl dX10_talks_165 ?_
        refine lv_iload hx hb dX10_talks_168 (lv_at hl 1 rfl) ?_
        obtain ⟨hi21, h⟩ := gm_chk_e h
        refine gm_iald C0 hH hi21 6 0 rfl rfl dX10_talks_170 ?_
        obtain ⟨o22, ho22, h⟩ := gm_bind_e h
        refine gm_callV (As := [.int (o20 &&& (x5 ^^^ (-1))), .int (m_now_want (Int32.toNatClampNeg v16))]) (rest := []) (n := 2) (ci := 9) (q0 := 1) C0 hH (mX9_firstOf l dC dI cI q_now q_now_meaning q_now_ending q_now_cost q_now_alikeTo q_now_kind q_now_want q_now_saidAhead q_now_heardWord q_now_heardAnswer m_now_words m_now_people m_now_said m_now_undos m_now_heard m_now_meaning ((o20 &&& (x5 ^^^ (-1)))) ((m_now_want (Int32.toNatClampNeg v16)))   ho22) gX10_talks_X9_firstOf rfl (by decide +kernel) ⟨rfl, rfl, Nat.le_of_ble_eq_true rfl, Nat.le_of_ble_eq_true rfl⟩ gm_T_ok (fun _ => trivial) [1, 3] rfl rfl rfl [0] rfl rfl rfl rfl hl.1 rfl (Nat.le_of_ble_eq_true rfl) dX10_talks_171 ⟨Nat.zero_le _, Nat.zero_le _⟩ (fun H locs hH => ?_)
        have hH : gm_H (dC, dI) A s (wX10_talks cI cR q q_now q_now_ending q_now_meaning q_now_alikeTo q_now_kind q_now_want q_kinds q_kinds_0 q_kinds_1 q_kinds_2 q_kinds_3 q_kinds_4 q_kinds_5 q_draft q_images q_text q_duel q_cover q_clashes q_tally q_sayableByPair q_chosenPairs q_now_cost q_now_saidAhead q_now_heardWord q_now_heardAnswer m_imagesKept m_bads m_nos m_fulls m_above m_below m_now_words m_now_people m_now_said m_now_undos m_now_heard m_now_ending m_now_meaning m_now_alikeTo m_now_kind m_now_want) H locs := hH
        refine lv_istore (lv' := [(11, .int o22), (10, .int o20), (9, .int v16), (8, .int v14), (3, .long v11), (0, .ref q), (2, .int x2), (5, .int x5), (6, .int x6), (7, .int x7)]) hx hb dX10_talks_174 hl (by decide) rfl (fun ls hl => ?_)
        refine lv_iload hx hb dX10_talks_176 (lv_at hl 0 rfl) ?_
        refine lv_iconst (v := (-1)) hx hb dX10_talks_178 (by decide) ?_
        refine lv_icmp_ne (tgt := 188) hx hb dX10_talks_179 (by decide) (fun hc23 => ?_) (fun hc23 => ?_)
        · replace h := gm_neg hc23 h
          refine lv_iload hx hb dX10_talks_188 (lv_at hl 7 rfl) ?_
          refine lv_iconst (v := 1) hx hb dX10_talks_190 (by decide) ?_
          refine lv_iload hx hb dX10_talks_191 (lv_at hl 0 rfl) ?_
          refine lv_ishl hx hb dX10_talks_193 ?_
          refine lv_ior hx hb dX10_talks_194 ?_
          refine lv_topi (fun v24 ev24 => ?_)
          replace h := gm_let_e ev24 h
          refine lv_istore (lv' := [(5, .int v24), (11, .int o22), (10, .int o20), (9, .int v16), (8, .int v14), (3, .long v11), (0, .ref q), (2, .int x2), (6, .int x6), (7, .int x7)]) hx hb dX10_talks_195 hl (by decide) rfl (fun ls hl => ?_)
          refine lv_iinc (v := (x6 + 1)) (lv' := [(6, .int (x6 + 1)), (5, .int v24), (11, .int o22), (10, .int o20), (9, .int v16), (8, .int v14), (3, .long v11), (0, .ref q), (2, .int x2), (7, .int x7)]) hx hb dX10_talks_197 hl (k := 8) rfl rfl (by decide) rfl (fun ls hl => ?_)
          exact tX10_talks_b200 C0 hr65 h hH (lv_sub hl [7, 8, 6, 1, 0, 9] rfl)
        · replace h := gm_pos hc23 h
          refine lv_iconst (v := 0) hx hb dX10_talks_182 (by decide) ?_
          refine lv_istore (lv' := [(5, .int 0), (11, .int o22), (10, .int o20), (9, .int v16), (8, .int v14), (3, .long v11), (0, .ref q), (2, .int x2), (6, .int x6), (7, .int x7)]) hx hb dX10_talks_183 hl (by decide) rfl (fun ls hl => ?_)
          refine lv_goto (tgt := 200) hx hb dX10_talks_185 (by decide) ?_
          exact tX10_talks_b200 C0 hr65 h hH (lv_sub hl [6, 7, 5, 0, 8, 9] rfl)
      unfold fKD at ho20
      rcases gm_six hi18 with hk | hk | hk | hk | hk | hk
      · rw [if_pos hk] at ho20
        refine W.eq (g2 := F0 m 145 ls [.int v14, .int (m_now_want (Int32.toNatClampNeg v16)), .ref q_now, .ref q_kinds_0]) (by rw [hk]; rfl) ?_
        exact gm_callV (As := [.ref q_now, .int (m_now_want (Int32.toNatClampNeg v16)), .int v14]) (rest := []) (n := 3) (ci := 7) (q0 := 8) C0 hH (mX7_chimes l dC dI cI q_now q_now_ending q_now_meaning q_now_cost q_now_alikeTo q_now_kind q_now_want q_now_saidAhead q_now_heardWord q_now_heardAnswer q_kinds_0 m_now_words m_now_people m_now_said m_now_undos m_now_heard m_now_ending ((m_now_want (Int32.toNatClampNeg v16))) v14  ho20) gX10_talks_X7_chimes rfl (by decide +kernel) ⟨rfl, rfl, Nat.le_of_ble_eq_true rfl, Nat.le_of_ble_eq_true rfl⟩ gm_T_ok (fun _ => trivial) [1, 2] rfl rfl rfl [0] rfl rfl rfl rfl hl.1 rfl (Nat.le_of_ble_eq_true rfl) dX10_talks_145 ⟨Nat.zero_le _, Nat.zero_le _⟩ kk
      · rw [if_neg (show ¬ (m_now_kind (Int32.toNatClampNeg v16)) = 0 by rw [hk]; decide), if_pos hk] at ho20
        refine W.eq (g2 := F0 m 145 ls [.int v14, .int (m_now_want (Int32.toNatClampNeg v16)), .ref q_now, .ref q_kinds_1]) (by rw [hk]; rfl) ?_
        exact gm_callO (As := [.ref q_now, .int (m_now_want (Int32.toNatClampNeg v16)), .int v14]) (rest := []) (n := 3) (ci := 4) (q0 := 9) C0 hH (mX4_chimes l dC dI cI q_kinds_1 q_now q_now_ending q_now_alikeTo q_now_meaning q_now_cost q_now_kind q_now_want q_now_saidAhead q_now_heardWord q_now_heardAnswer m_now_words m_now_people m_now_said m_now_undos m_now_heard m_now_ending m_now_alikeTo ((m_now_want (Int32.toNatClampNeg v16))) v14 4 rfl ho20) gX10_talks_X4_chimes_u179X4 rfl (List.mem_of_getElem? (i := 43) rfl) (by decide +kernel) ⟨rfl, rfl, Nat.le_of_ble_eq_true rfl, Nat.le_of_ble_eq_true rfl⟩ gm_T_ok (fun _ => trivial) [9, 1, 2, 4] rfl rfl rfl [0] rfl rfl rfl rfl hl.1 rfl (Nat.le_of_ble_eq_true rfl) dX10_talks_145 ⟨Nat.zero_le _, Nat.zero_le _⟩ kk
      · rw [if_neg (show ¬ (m_now_kind (Int32.toNatClampNeg v16)) = 0 by rw [hk]; decide), if_neg (show ¬ (m_now_kind (Int32.toNatClampNeg v16)) = 1 by rw [hk]; decide), if_pos hk] at ho20
        refine W.eq (g2 := F0 m 145 ls [.int v14, .int (m_now_want (Int32.toNatClampNeg v16)), .ref q_now, .ref q_kinds_2]) (by rw [hk]; rfl) ?_
        exact gm_callO (As := [.ref q_now, .int (m_now_want (Int32.toNatClampNeg v16)), .int v14]) (rest := []) (n := 3) (ci := 3) (q0 := 10) C0 hH (mX3_chimes l dC dI cI q_kinds_2 q_now q_now_ending q_now_meaning q_now_cost q_now_alikeTo q_now_kind q_now_want q_now_saidAhead q_now_heardWord q_now_heardAnswer m_now_words m_now_people m_now_said m_now_undos m_now_heard m_now_ending ((m_now_want (Int32.toNatClampNeg v16))) v14 3 rfl ho20) gX10_talks_X3_chimes_u179X3 rfl (List.mem_of_getElem? (i := 43) rfl) (by decide +kernel) ⟨rfl, rfl, Nat.le_of_ble_eq_true rfl, Nat.le_of_ble_eq_true rfl⟩ gm_T_ok (fun _ => trivial) [10, 1, 2] rfl rfl rfl [0] rfl rfl rfl rfl hl.1 rfl (Nat.le_of_ble_eq_true rfl) dX10_talks_145 ⟨Nat.zero_le _, Nat.zero_le _⟩ kk
      · rw [if_neg (show ¬ (m_now_kind (Int32.toNatClampNeg v16)) = 0 by rw [hk]; decide), if_neg (show ¬ (m_now_kind (Int32.toNatClampNeg v16)) = 1 by rw [hk]; decide), if_neg (show ¬ (m_now_kind (Int32.toNatClampNeg v16)) = 2 by rw [hk]; decide), if_pos hk] at ho20
        refine W.eq (g2 := F0 m 145 ls [.int v14, .int (m_now_want (Int32.toNatClampNeg v16)), .ref q_now, .ref q_kinds_3]) (by rw [hk]; rfl) ?_
        exact gm_callO (As := [.ref q_now, .int (m_now_want (Int32.toNatClampNeg v16)), .int v14]) (rest := []) (n := 3) (ci := 8) (q0 := 11) C0 hH (mX8_chimes l dC dI cI q_kinds_3 q_now q_now_ending q_now_meaning q_now_cost q_now_alikeTo q_now_kind q_now_want q_now_saidAhead q_now_heardWord q_now_heardAnswer m_now_words m_now_people m_now_said m_now_undos m_now_heard m_now_ending ((m_now_want (Int32.toNatClampNeg v16))) v14 8 rfl ho20) gX10_talks_X8_chimes_u179X8 rfl (List.mem_of_getElem? (i := 43) rfl) (by decide +kernel) ⟨rfl, rfl, Nat.le_of_ble_eq_true rfl, Nat.le_of_ble_eq_true rfl⟩ gm_T_ok (fun _ => trivial) [11, 1, 2] rfl rfl rfl [0] rfl rfl rfl rfl hl.1 rfl (Nat.le_of_ble_eq_true rfl) dX10_talks_145 ⟨Nat.zero_le _, Nat.zero_le _⟩ kk
      · rw [if_neg (show ¬ (m_now_kind (Int32.toNatClampNeg v16)) = 0 by rw [hk]; decide), if_neg (show ¬ (m_now_kind (Int32.toNatClampNeg v16)) = 1 by rw [hk]; decide), if_neg (show ¬ (m_now_kind (Int32.toNatClampNeg v16)) = 2 by rw [hk]; decide), if_neg (show ¬ (m_now_kind (Int32.toNatClampNeg v16)) = 3 by rw [hk]; decide), if_pos hk] at ho20
        refine W.eq (g2 := F0 m 145 ls [.int v14, .int (m_now_want (Int32.toNatClampNeg v16)), .ref q_now, .ref q_kinds_4]) (by rw [hk]; rfl) ?_
        exact gm_callO (As := [.ref q_now, .int (m_now_want (Int32.toNatClampNeg v16)), .int v14]) (rest := []) (n := 3) (ci := 5) (q0 := 12) C0 hH (mX5_chimes l dC dI cI q_kinds_4 q_now q_now_ending q_now_meaning q_now_alikeTo q_now_cost q_now_kind q_now_want q_now_saidAhead q_now_heardWord q_now_heardAnswer m_now_words m_now_people m_now_said m_now_undos m_now_heard m_now_ending m_now_meaning m_now_alikeTo ((m_now_want (Int32.toNatClampNeg v16))) v14 5 rfl ho20) gX10_talks_X5_chimes_u179X5 rfl (List.mem_of_getElem? (i := 43) rfl) (by decide +kernel) ⟨rfl, rfl, Nat.le_of_ble_eq_true rfl, Nat.le_of_ble_eq_true rfl⟩ gm_T_ok (fun _ => trivial) [12, 1, 2, 3, 4] rfl rfl rfl [0] rfl rfl rfl rfl hl.1 rfl (Nat.le_of_ble_eq_true rfl) dX10_talks_145 ⟨Nat.zero_le _, Nat.zero_le _⟩ kk
      · rw [if_neg (show ¬ (m_now_kind (Int32.toNatClampNeg v16)) = 0 by rw [hk]; decide), if_neg (show ¬ (m_now_kind (Int32.toNatClampNeg v16)) = 1 by rw [hk]; decide), if_neg (show ¬ (m_now_kind (Int32.toNatClampNeg v16)) = 2 by rw [hk]; decide), if_neg (show ¬ (m_now_kind (Int32.toNatClampNeg v16)) = 3 by rw [hk]; decide), if_neg (show ¬ (m_now_kind (Int32.toNatClampNeg v16)) = 4 by rw [hk]; decide)] at ho20
        refine W.eq (g2 := F0 m 145 ls [.int v14, .int (m_now_want (Int32.toNatClampNeg v16)), .ref q_now, .ref q_kinds_5]) (by rw [hk]; rfl) ?_
        exact gm_callO (As := [.ref q_now, .int (m_now_want (Int32.toNatClampNeg v16)), .int v14]) (rest := []) (n := 3) (ci := 0) (q0 := 13) C0 hH (mX0_chimes l dC dI cI q_kinds_5 q_now q_now_ending q_now_meaning q_now_alikeTo q_now_cost q_now_kind q_now_want q_now_saidAhead q_now_heardWord q_now_heardAnswer m_now_words m_now_people m_now_said m_now_undos m_now_heard m_now_ending m_now_meaning m_now_alikeTo ((m_now_want (Int32.toNatClampNeg v16))) v14 0 rfl ho20) gX10_talks_X0_chimes_u179X0 rfl (List.mem_of_getElem? (i := 43) rfl) (by decide +kernel) ⟨rfl, rfl, Nat.le_of_ble_eq_true rfl, Nat.le_of_ble_eq_true rfl⟩ gm_T_ok (fun _ => trivial) [13, 1, 2, 3, 4] rfl rfl rfl [0] rfl rfl rfl rfl hl.1 rfl (Nat.le_of_ble_eq_true rfl) dX10_talks_145 ⟨Nat.zero_le _, Nat.zero_le _⟩ kk
set_option maxRecDepth 100000 in
set_option maxHeartbeats 4000000 in
theorem mX10_talks (l : Launch) (dC : Nat → ClassId) (dI : Nat → Nat → Nat) (cI cR : ClassId) (q q_now q_now_ending q_now_meaning q_now_alikeTo q_now_kind q_now_want q_kinds q_kinds_0 q_kinds_1 q_kinds_2 q_kinds_3 q_kinds_4 q_kinds_5 q_draft q_images q_text q_duel q_cover q_clashes q_tally q_sayableByPair q_chosenPairs q_now_cost q_now_saidAhead q_now_heardWord q_now_heardAnswer : Nat) (m_imagesKept : Int32) (m_bads : Int32) (m_nos : Int32) (m_fulls : Int32) (m_above : Int64) (m_below : Int64) (m_now_words : Int32) (m_now_people : Int32) (m_now_said : Int32) (m_now_undos : Int32) (m_now_heard : Int32) (m_now_ending : Nat → Int32) (m_now_meaning : Nat → Int32) (m_now_alikeTo : Nat → Int32) (m_now_kind : Nat → Int32) (m_now_want : Nat → Int32) (x1 : Int32) (x2 : Int32)  {N : Nat} {out : Int32 × Int32 × Int32 × Int32} (h : fX10_talks N m_bads m_nos m_fulls m_now_words m_now_people m_now_said m_now_ending m_now_meaning m_now_alikeTo m_now_kind m_now_want x1 x2 = some out) : gm_Met l yX10_talks wsX10_talks rX10_talks (dC, dI) [(cI, .int), (cR, .object "OnlyRhymes$Rhymer")] gm_T [.ref q, .int x1, .int x2] (wX10_talks cI cR q q_now q_now_ending q_now_meaning q_now_alikeTo q_now_kind q_now_want q_kinds q_kinds_0 q_kinds_1 q_kinds_2 q_kinds_3 q_kinds_4 q_kinds_5 q_draft q_images q_text q_duel q_cover q_clashes q_tally q_sayableByPair q_chosenPairs q_now_cost q_now_saidAhead q_now_heardWord q_now_heardAnswer m_imagesKept m_bads m_nos m_fulls m_above m_below m_now_words m_now_people m_now_said m_now_undos m_now_heard m_now_ending m_now_meaning m_now_alikeTo m_now_kind m_now_want) (some (.int out.1)) (wX10_talks cI cR q q_now q_now_ending q_now_meaning q_now_alikeTo q_now_kind q_now_want q_kinds q_kinds_0 q_kinds_1 q_kinds_2 q_kinds_3 q_kinds_4 q_kinds_5 q_draft q_images q_text q_duel q_cover q_clashes q_tally q_sayableByPair q_chosenPairs q_now_cost q_now_saidAhead q_now_heardWord q_now_heardAnswer m_imagesKept out.2.1 out.2.2.1 out.2.2.2 m_above m_below m_now_words m_now_people m_now_said m_now_undos m_now_heard m_now_ending m_now_meaning m_now_alikeTo m_now_kind m_now_want) := by
  refine gm_ofW (cc := cX10_talks) (maxL := 12) (ret := (some .int)) (by decide +kernel) rfl (Nat.le_of_ble_eq_true rfl) ?_
  intro p e s m below meth c A C0 hH ls hl
  generalize ([.ref q, .int x1, .int x2] : List Value).toArray = args at C0 ⊢
  have hl : lv_has ls 12 [(0, .ref q), (1, .int x1), (2, .int x2)] := hl
  generalize s.heap = H at hH ⊢
  generalize ([] : List Loc) = locs at hH ⊢
  obtain ⟨hx, hb, hml, hr, hown, hts, hA, hK, hX, hlocks⟩ := id C0
  unfold fX10_talks at h
  refine lv_iload_n hx hb dX10_talks_0 rfl (lv_at hl 1 rfl) ?_
  refine lv_ldc (own := RX10) (v := 1000000) hx hb hown (gm_at C0 1 rfl) dX10_talks_1 ?_
  obtain ⟨o1, ho1, h⟩ := gm_bind_e h
  refine gm_callS (As := [.int x1, .int 1000000]) (rest := []) (n := 2) C0 hH (mX10_fits l dC dI    x1 1000000   ho1) gX10_talks_X10_fits rfl (by decide +kernel) ⟨rfl, rfl, Nat.le_of_ble_eq_true rfl, Nat.le_of_ble_eq_true rfl⟩ gm_T_ok (fun _ => trivial) [] rfl rfl rfl [] rfl rfl hl.1 rfl (Nat.le_of_ble_eq_true rfl) dX10_talks_3 ⟨Nat.zero_le _, Nat.zero_le _⟩ (fun H locs hH => ?_)
  have hH : gm_H (dC, dI) A s (wX10_talks cI cR q q_now q_now_ending q_now_meaning q_now_alikeTo q_now_kind q_now_want q_kinds q_kinds_0 q_kinds_1 q_kinds_2 q_kinds_3 q_kinds_4 q_kinds_5 q_draft q_images q_text q_duel q_cover q_clashes q_tally q_sayableByPair q_chosenPairs q_now_cost q_now_saidAhead q_now_heardWord q_now_heardAnswer m_imagesKept m_bads m_nos m_fulls m_above m_below m_now_words m_now_people m_now_said m_now_undos m_now_heard m_now_ending m_now_meaning m_now_alikeTo m_now_kind m_now_want) H locs := hH
  refine lv_if_eq (tgt := 18) hx hb dX10_talks_6 (by decide) (fun hc2 => ?_) (fun hc2 => ?_)
  · replace h := gm_pos hc2 h
    exact tX10_talks_b18 C0  h hH (lv_sub hl [0] rfl)
  · replace h := gm_neg hc2 h
    refine lv_iload_n hx hb dX10_talks_9 rfl (lv_at hl 2 rfl) ?_
    refine lv_bipush (v := 61) hx hb dX10_talks_10 (by decide) ?_
    obtain ⟨o4, ho4, h⟩ := gm_bind_e h
    refine gm_callS (As := [.int x2, .int 61]) (rest := []) (n := 2) C0 hH (mX10_fits l dC dI    x2 61   ho4) gX10_talks_X10_fits rfl (by decide +kernel) ⟨rfl, rfl, Nat.le_of_ble_eq_true rfl, Nat.le_of_ble_eq_true rfl⟩ gm_T_ok (fun _ => trivial) [] rfl rfl rfl [] rfl rfl hl.1 rfl (Nat.le_of_ble_eq_true rfl) dX10_talks_12 ⟨Nat.zero_le _, Nat.zero_le _⟩ (fun H locs hH => ?_)
    have hH : gm_H (dC, dI) A s (wX10_talks cI cR q q_now q_now_ending q_now_meaning q_now_alikeTo q_now_kind q_now_want q_kinds q_kinds_0 q_kinds_1 q_kinds_2 q_kinds_3 q_kinds_4 q_kinds_5 q_draft q_images q_text q_duel q_cover q_clashes q_tally q_sayableByPair q_chosenPairs q_now_cost q_now_saidAhead q_now_heardWord q_now_heardAnswer m_imagesKept m_bads m_nos m_fulls m_above m_below m_now_words m_now_people m_now_said m_now_undos m_now_heard m_now_ending m_now_meaning m_now_alikeTo m_now_kind m_now_want) H locs := hH
    refine lv_if_ne (tgt := 25) hx hb dX10_talks_15 (by decide) (fun hc5 => ?_) (fun hc5 => ?_)
    · replace h := gm_neg hc5 h
      refine lv_aload_n hx hb dX10_talks_25 rfl (lv_at hl 0 rfl) ?_
      refine gm_get (ci := 10) C0 hH inX10_talks_X10 0 0 2 rfl rfl (by decide) rfl rfl dX10_talks_26 ?_
      refine gm_get (ci := 9) C0 hH inX10_talks_X9 1 3 3 rfl rfl (by decide) rfl rfl dX10_talks_29 ?_
      refine lv_if_eq (tgt := 45) hx hb dX10_talks_32 (by decide) (fun hc6 => ?_) (fun hc6 => ?_)
      · replace h := gm_pos hc6 h
        refine lv_iconst (v := (-1)) hx hb dX10_talks_45 (by decide) ?_
        obtain rfl := Option.some.inj h
        exact gm_iret C0 hH dX10_talks_46
      · replace h := gm_neg hc6 h
        refine lv_aload_n hx hb dX10_talks_35 rfl (lv_at hl 0 rfl) ?_
        refine gm_get (ci := 10) C0 hH inX10_talks_X10 0 0 2 rfl rfl (by decide) rfl rfl dX10_talks_36 ?_
        refine gm_get (ci := 9) C0 hH inX10_talks_X9 1 7 4 rfl rfl (by decide) rfl rfl dX10_talks_39 ?_
        refine lv_if_ne (tgt := 47) hx hb dX10_talks_42 (by decide) (fun hc7 => ?_) (fun hc7 => ?_)
        · replace h := gm_neg hc7 h
          refine lv_iload_n hx hb dX10_talks_47 rfl (lv_at hl 1 rfl) ?_
          refine lv_i2l hx hb dX10_talks_48 rfl ?_
          refine lv_topl (fun v8 ev8 => ?_)
          replace h := gm_let_e ev8 h
          refine lv_lstore_n (lv' := [(3, .long v8), (0, .ref q), (1, .int x1), (2, .int x2)]) hx hb dX10_talks_49 rfl hl (by decide) rfl (fun ls hl => ?_)
          refine lv_aload_n hx hb dX10_talks_50 rfl (lv_at hl 1 rfl) ?_
          refine gm_get (ci := 10) C0 hH inX10_talks_X10 0 0 2 rfl rfl (by decide) rfl rfl dX10_talks_51 ?_
          refine gm_get (ci := 9) C0 hH inX10_talks_X9 1 8 5 rfl rfl (by decide) rfl rfl dX10_talks_54 ?_
          refine lv_istore (lv' := [(5, .int m_now_said), (3, .long v8), (0, .ref q), (1, .int x1), (2, .int x2)]) hx hb dX10_talks_57 hl (by decide) rfl (fun ls hl => ?_)
          refine lv_iconst (v := 0) hx hb dX10_talks_59 (by decide) ?_
          refine lv_istore (lv' := [(6, .int 0), (5, .int m_now_said), (3, .long v8), (0, .ref q), (1, .int x1), (2, .int x2)]) hx hb dX10_talks_60 hl (by decide) rfl (fun ls hl => ?_)
          refine lv_iconst (v := 0) hx hb dX10_talks_62 (by decide) ?_
          refine lv_istore (lv' := [(7, .int 0), (6, .int 0), (5, .int m_now_said), (3, .long v8), (0, .ref q), (1, .int x1), (2, .int x2)]) hx hb dX10_talks_63 hl (by decide) rfl (fun ls hl => ?_)
          unfold fX10_talks_b65 at h
          exact tX10_talks_b65 C0  _ _ _ _ _ _ _ _ h hH (lv_sub hl [4, 6, 3, 2, 1, 0] rfl)
        · replace h := gm_pos hc7 h
          refine lv_iconst (v := (-1)) hx hb dX10_talks_45 (by decide) ?_
          obtain rfl := Option.some.inj h
          exact gm_iret C0 hH dX10_talks_46
    · replace h := gm_pos hc5 h
      exact tX10_talks_b18 C0  h hH (lv_sub hl [0] rfl)

/-! X10_part -/
abbrev wX10_part (q q_now q_draft q_images q_kinds q_text q_duel q_cover q_clashes q_tally q_sayableByPair q_chosenPairs : Nat) (m_imagesKept : Int32) (m_bads : Int32) (m_nos : Int32) (m_fulls : Int32) (m_above : Int64) (m_below : Int64) : va_W := [(q, .inr (10, [.ref q_now, .ref q_draft, .ref q_images, .int m_imagesKept, .ref q_kinds, .ref q_text, .ref q_duel, .ref q_cover, .int m_bads, .int m_nos, .int m_fulls, .long m_above, .long m_below, .ref q_clashes, .ref q_tally, .ref q_sayableByPair, .ref q_chosenPairs]))]
abbrev rX10_part : Room := { frames := 1, cells := 0, slots := 0, locals := 21 }
def fX10_part (N : Nat) (m_bads : Int32) (m_nos : Int32) (m_fulls : Int32) (m_above : Int64) (m_below : Int64) (x1 : Int32) : Option (Int64 × Int32 × Int32 × Int32) := gm_bind (fX10_fits N x1 2) (fun o1 => (if o1 = 0 then gm_bind (fX10_refuse N m_bads m_nos m_fulls ((-2))) (fun o4 => some ((Int32.toInt64 o4.1), o4.2.1, o4.2.2.1, o4.2.2.2)) else (if x1 = 0 then some (m_above, m_bads, m_nos, m_fulls) else some (m_below, m_bads, m_nos, m_fulls))))
set_option maxRecDepth 20000 in
theorem inX10_part_X10 : ∀ w ∈ u_ws RX10 TX10 17, w ∈ wsX10_part := fun w h => by
  obtain ⟨k, hk, rfl⟩ := List.mem_map.mp h
  have hk2 := List.mem_range.mp hk
  exact List.mem_of_getElem? (i := 14 + k) (by rcases (show k = 0 ∨ k = 1 ∨ k = 2 ∨ k = 3 ∨ k = 4 ∨ k = 5 ∨ k = 6 ∨ k = 7 ∨ k = 8 ∨ k = 9 ∨ k = 10 ∨ k = 11 ∨ k = 12 ∨ k = 13 ∨ k = 14 ∨ k = 15 ∨ k = 16 by omega) with rfl | rfl | rfl | rfl | rfl | rfl | rfl | rfl | rfl | rfl | rfl | rfl | rfl | rfl | rfl | rfl | rfl <;> rfl)
set_option maxRecDepth 100000 in
set_option maxHeartbeats 4000000 in
theorem mX10_part (l : Launch) (dC : Nat → ClassId) (dI : Nat → Nat → Nat) (q q_now q_draft q_images q_kinds q_text q_duel q_cover q_clashes q_tally q_sayableByPair q_chosenPairs : Nat) (m_imagesKept : Int32) (m_bads : Int32) (m_nos : Int32) (m_fulls : Int32) (m_above : Int64) (m_below : Int64) (x1 : Int32)  {N : Nat} {out : Int64 × Int32 × Int32 × Int32} (h : fX10_part N m_bads m_nos m_fulls m_above m_below x1 = some out) : gm_Met l yX10_part wsX10_part rX10_part (dC, dI) [] gm_T [.ref q, .int x1] (wX10_part  q q_now q_draft q_images q_kinds q_text q_duel q_cover q_clashes q_tally q_sayableByPair q_chosenPairs m_imagesKept m_bads m_nos m_fulls m_above m_below) (some (.long out.1)) (wX10_part  q q_now q_draft q_images q_kinds q_text q_duel q_cover q_clashes q_tally q_sayableByPair q_chosenPairs m_imagesKept out.2.1 out.2.2.1 out.2.2.2 m_above m_below) := by
  refine gm_ofW (cc := cX10_part) (maxL := 2) (ret := (some .long)) (by decide +kernel) rfl (Nat.le_of_ble_eq_true rfl) ?_
  intro p e s m below meth c A C0 hH ls hl
  generalize ([.ref q, .int x1] : List Value).toArray = args at C0 ⊢
  have hl : lv_has ls 2 [(0, .ref q), (1, .int x1)] := hl
  generalize s.heap = H at hH ⊢
  generalize ([] : List Loc) = locs at hH ⊢
  obtain ⟨hx, hb, hml, hr, hown, hts, hA, hK, hX, hlocks⟩ := id C0
  unfold fX10_part at h
  refine lv_iload_n hx hb dX10_part_0 rfl (lv_at hl 1 rfl) ?_
  refine lv_iconst (v := 2) hx hb dX10_part_1 (by decide) ?_
  obtain ⟨o1, ho1, h⟩ := gm_bind_e h
  refine gm_callS (As := [.int x1, .int 2]) (rest := []) (n := 2) C0 hH (mX10_fits l dC dI    x1 2   ho1) gX10_part_X10_fits rfl (by decide +kernel) ⟨rfl, rfl, Nat.le_of_ble_eq_true rfl, Nat.le_of_ble_eq_true rfl⟩ gm_T_ok (fun _ => trivial) [] rfl rfl rfl [] rfl rfl hl.1 rfl (Nat.le_of_ble_eq_true rfl) dX10_part_2 ⟨Nat.zero_le _, Nat.zero_le _⟩ (fun H locs hH => ?_)
  have hH : gm_H (dC, dI) A s (wX10_part  q q_now q_draft q_images q_kinds q_text q_duel q_cover q_clashes q_tally q_sayableByPair q_chosenPairs m_imagesKept m_bads m_nos m_fulls m_above m_below) H locs := hH
  refine lv_if_ne (tgt := 16) hx hb dX10_part_5 (by decide) (fun hc2 => ?_) (fun hc2 => ?_)
  · replace h := gm_neg hc2 h
    refine lv_iload_n hx hb dX10_part_16 rfl (lv_at hl 1 rfl) ?_
    refine lv_if_ne (tgt := 27) hx hb dX10_part_17 (by decide) (fun hc3 => ?_) (fun hc3 => ?_)
    · replace h := gm_neg hc3 h
      refine lv_aload_n hx hb dX10_part_27 rfl (lv_at hl 0 rfl) ?_
      refine gm_get (ci := 10) C0 hH inX10_part_X10 0 12 2 rfl rfl (by decide) rfl rfl dX10_part_28 ?_
      obtain rfl := Option.some.inj h
      exact gm_lret C0 hH dX10_part_31
    · replace h := gm_pos hc3 h
      refine lv_aload_n hx hb dX10_part_20 rfl (lv_at hl 0 rfl) ?_
      refine gm_get (ci := 10) C0 hH inX10_part_X10 0 11 1 rfl rfl (by decide) rfl rfl dX10_part_21 ?_
      refine lv_goto (tgt := 31) hx hb dX10_part_24 (by decide) ?_
      obtain rfl := Option.some.inj h
      exact gm_lret C0 hH dX10_part_31
  · replace h := gm_pos hc2 h
    refine lv_aload_n hx hb dX10_part_8 rfl (lv_at hl 0 rfl) ?_
    refine lv_bipush (v := (-2)) hx hb dX10_part_9 (by decide) ?_
    obtain ⟨o4, ho4, h⟩ := gm_bind_e h
    refine gm_callV (As := [.int (-2)]) (rest := []) (n := 1) (ci := 10) (q0 := 0) C0 hH (mX10_refuse l dC dI  q q_now q_draft q_images q_kinds q_text q_duel q_cover q_clashes q_tally q_sayableByPair q_chosenPairs m_imagesKept m_bads m_nos m_fulls m_above m_below ((-2))   ho4) gX10_part_X10_refuse rfl (by decide +kernel) ⟨rfl, rfl, Nat.le_of_ble_eq_true rfl, Nat.le_of_ble_eq_true rfl⟩ gm_T_ok (fun _ => trivial) [0] rfl rfl rfl [] rfl rfl rfl rfl hl.1 rfl (Nat.le_of_ble_eq_true rfl) dX10_part_11 ⟨Nat.zero_le _, Nat.zero_le _⟩ (fun H locs hH => ?_)
    have hH : gm_H (dC, dI) A s (wX10_part  q q_now q_draft q_images q_kinds q_text q_duel q_cover q_clashes q_tally q_sayableByPair q_chosenPairs m_imagesKept o4.2.1 o4.2.2.1 o4.2.2.2 m_above m_below) H locs := hH
    refine lv_i2l hx hb dX10_part_14 rfl ?_
    obtain rfl := Option.some.inj h
    exact gm_lret C0 hH dX10_part_15
