/-! X10_setFraction -/
abbrev wX10_setFraction (q q_now q_draft q_images q_kinds q_text q_duel q_cover q_clashes q_tally q_sayableByPair q_chosenPairs : Nat) (m_imagesKept : Int32) (m_bads : Int32) (m_nos : Int32) (m_fulls : Int32) (m_above : Int64) (m_below : Int64) : va_W := [(q, .inr (10, [.ref q_now, .ref q_draft, .ref q_images, .int m_imagesKept, .ref q_kinds, .ref q_text, .ref q_duel, .ref q_cover, .int m_bads, .int m_nos, .int m_fulls, .long m_above, .long m_below, .ref q_clashes, .ref q_tally, .ref q_sayableByPair, .ref q_chosenPairs]))]
abbrev rX10_setFraction : Room := { frames := 0, cells := 0, slots := 0, locals := 0 }
def fX10_setFraction_b67 (N : Nat) (r16 : Int64 → Int64 → Int32 → Option (Int64 × Int64)) (m_above : Int64) (m_below : Int64) (x2 : Int32) : Option (Int64 × Int64) := (r16 m_above m_below ((x2 + (-1))))
def fX10_setFraction_b16_body (N : Nat)   (r16 : Int64 → Int64 → Int32 → Option (Int64 × Int64)) (m_above : Int64) (m_below : Int64) (x2 : Int32) : Option (Int64 × Int64) := (if x2 ≤ 1 then some (m_above, m_below) else gm_nzL (Int32.toInt64 x2) ((if (lg_cmp (m_above - m_above / (Int32.toInt64 x2) * (Int32.toInt64 x2)) 0) = 0 then gm_nzL (Int32.toInt64 x2) ((if (lg_cmp (m_below - m_below / (Int32.toInt64 x2) * (Int32.toInt64 x2)) 0) = 0 then gm_nzL (Int32.toInt64 x2) (gm_let ((m_above / (Int32.toInt64 x2)) : Int64) (fun (v8 : Int64) => gm_nzL (Int32.toInt64 x2) (gm_let ((m_below / (Int32.toInt64 x2)) : Int64) (fun (v10 : Int64) => (fX10_setFraction_b67 N r16 v8 v10 x2))))) else (fX10_setFraction_b67 N r16 m_above m_below x2))) else (fX10_setFraction_b67 N r16 m_above m_below x2))))
def fX10_setFraction_b16 (N : Nat)   (m_above : Int64) (m_below : Int64) (x2 : Int32) : Option (Int64 × Int64) := gm_fix (fX10_setFraction_b16_body N  ) (fun _ _ _ => none) N m_above m_below x2
def fX10_setFraction (N : Nat) (m_above : Int64) (m_below : Int64) (x1 : Int32) : Option (Int64 × Int64) := gm_let ((Int32.toInt64 x1) : Int64) (fun (v1 : Int64) => (fX10_setFraction_b16 N   v1 10 10))
set_option maxRecDepth 20000 in
theorem inX10_setFraction_X10 : ∀ w ∈ u_ws RX10 TX10 17, w ∈ wsX10_setFraction := fun w h => by
  obtain ⟨k, hk, rfl⟩ := List.mem_map.mp h
  have hk2 := List.mem_range.mp hk
  exact List.mem_of_getElem? (i := 4 + k) (by rcases (show k = 0 ∨ k = 1 ∨ k = 2 ∨ k = 3 ∨ k = 4 ∨ k = 5 ∨ k = 6 ∨ k = 7 ∨ k = 8 ∨ k = 9 ∨ k = 10 ∨ k = 11 ∨ k = 12 ∨ k = 13 ∨ k = 14 ∨ k = 15 ∨ k = 16 by omega) with rfl | rfl | rfl | rfl | rfl | rfl | rfl | rfl | rfl | rfl | rfl | rfl | rfl | rfl | rfl | rfl | rfl <;> rfl)
set_option maxRecDepth 100000 in
set_option maxHeartbeats 4000000 in
theorem tX10_setFraction_b67 {p : Program} {l : Launch} {e : Env} {s : State} {m : MethodId} {args : Array Value} {below : List Frame} {meth : Method} {c : Code} {A : Nat → Prop} {dC : Nat → ClassId} {dI : Nat → Nat → Nat} {q q_now q_draft q_images q_kinds q_text q_duel q_cover q_clashes q_tally q_sayableByPair q_chosenPairs : Nat} {m_imagesKept : Int32} {m_bads : Int32} {m_nos : Int32} {m_fulls : Int32} {m_above : Int64} {m_below : Int64} {x2 : Int32} (C0 : gm_C p s m args meth c (dC, dI) [] A gm_T RX10 cX10_setFraction 3 none wsX10_setFraction) {N : Nat} {out : Int64 × Int64} {r16 : Int64 → Int64 → Int32 → Option (Int64 × Int64)} (hr16 : ∀ (m_above : Int64) (m_below : Int64) (x2 : Int32) (H : Heap) (locs : List Loc) (ls : Array Slot), r16 m_above m_below x2 = some out → gm_H (dC, dI) A s (wX10_setFraction  q q_now q_draft q_images q_kinds q_text q_duel q_cover q_clashes q_tally q_sayableByPair q_chosenPairs m_imagesKept m_bads m_nos m_fulls m_above m_below) H locs → lv_has ls 3 [(0, .ref q), (2, .int x2)] → W p l e rX10_setFraction s m args below meth c H locs 0 0 (MQ below (gm_Q (dC, dI) [] A none (wX10_setFraction  q q_now q_draft q_images q_kinds q_text q_duel q_cover q_clashes q_tally q_sayableByPair q_chosenPairs m_imagesKept m_bads m_nos m_fulls out.1 out.2)) args s 0 0 A) (F0 m 16 ls []))   {H : Heap} {locs : List Loc} {ls : Array Slot} (h : fX10_setFraction_b67 N r16 m_above m_below x2 = some out) (hH : gm_H (dC, dI) A s (wX10_setFraction  q q_now q_draft q_images q_kinds q_text q_duel q_cover q_clashes q_tally q_sayableByPair q_chosenPairs m_imagesKept m_bads m_nos m_fulls m_above m_below) H locs) (hl : lv_has ls 3 [(0, .ref q), (2, .int x2)]) : W p l e rX10_setFraction s m args below meth c H locs 0 0 (MQ below (gm_Q (dC, dI) [] A none (wX10_setFraction  q q_now q_draft q_images q_kinds q_text q_duel q_cover q_clashes q_tally q_sayableByPair q_chosenPairs m_imagesKept m_bads m_nos m_fulls out.1 out.2)) args s 0 0 A) (F0 m 67 ls []) := by
  obtain ⟨hx, hb, hml, hr, hown, hts, hA, hK, hX, hlocks⟩ := id C0
  unfold fX10_setFraction_b67 at h
  refine lv_iinc (v := (x2 + (-1))) (lv' := [(2, .int (x2 + (-1))), (0, .ref q)]) hx hb dX10_setFraction_67 hl (k := 1) rfl rfl (by decide) rfl (fun ls hl => ?_)
  refine lv_goto (tgt := 16) hx hb dX10_setFraction_70 (by decide) ?_
  exact hr16 _ _ _ _ _ _ h hH (lv_sub hl [1, 0] rfl)
set_option maxRecDepth 100000 in
set_option maxHeartbeats 4000000 in
theorem tX10_setFraction_b16 {p : Program} {l : Launch} {e : Env} {s : State} {m : MethodId} {args : Array Value} {below : List Frame} {meth : Method} {c : Code} {A : Nat → Prop} {dC : Nat → ClassId} {dI : Nat → Nat → Nat} {q q_now q_draft q_images q_kinds q_text q_duel q_cover q_clashes q_tally q_sayableByPair q_chosenPairs : Nat} {m_imagesKept : Int32} {m_bads : Int32} {m_nos : Int32} {m_fulls : Int32} (C0 : gm_C p s m args meth c (dC, dI) [] A gm_T RX10 cX10_setFraction 3 none wsX10_setFraction) {N : Nat} {out : Int64 × Int64}   : ∀ (n : Nat), ∀ (m_above : Int64) (m_below : Int64) (x2 : Int32) (H : Heap) (locs : List Loc) (ls : Array Slot), (gm_fix (fX10_setFraction_b16_body N  ) (fun _ _ _ => none) n) m_above m_below x2 = some out → gm_H (dC, dI) A s (wX10_setFraction  q q_now q_draft q_images q_kinds q_text q_duel q_cover q_clashes q_tally q_sayableByPair q_chosenPairs m_imagesKept m_bads m_nos m_fulls m_above m_below) H locs → lv_has ls 3 [(0, .ref q), (2, .int x2)] → W p l e rX10_setFraction s m args below meth c H locs 0 0 (MQ below (gm_Q (dC, dI) [] A none (wX10_setFraction  q q_now q_draft q_images q_kinds q_text q_duel q_cover q_clashes q_tally q_sayableByPair q_chosenPairs m_imagesKept m_bads m_nos m_fulls out.1 out.2)) args s 0 0 A) (F0 m 16 ls []) := by
  obtain ⟨hx, hb, hml, hr, hown, hts, hA, hK, hX, hlocks⟩ := id C0
  intro n
  induction n with
  | zero =>
    intro m_above m_below x2 H locs ls h hH hl
    cases h
  | succ n hr16 =>
    intro m_above m_below x2 H locs ls h hH hl
    rw [gm_fix_s] at h
    unfold fX10_setFraction_b16_body at h
    refine lv_iload_n hx hb dX10_setFraction_16 rfl (lv_at hl 1 rfl) ?_
    refine lv_iconst (v := 1) hx hb dX10_setFraction_17 (by decide) ?_
    refine lv_icmp_le (tgt := 73) hx hb dX10_setFraction_18 (by decide) (fun hc2 => ?_) (fun hc2 => ?_)
    · replace h := gm_pos hc2 h
      obtain rfl := Option.some.inj h
      exact gm_vret C0 hH dX10_setFraction_73
    · replace h := gm_neg hc2 h
      refine lv_aload_n hx hb dX10_setFraction_21 rfl (lv_at hl 0 rfl) ?_
      refine gm_get (ci := 10) C0 hH inX10_setFraction_X10 0 11 1 rfl rfl (by decide) rfl rfl dX10_setFraction_22 ?_
      refine lv_iload_n hx hb dX10_setFraction_25 rfl (lv_at hl 1 rfl) ?_
      refine lv_i2l hx hb dX10_setFraction_26 rfl ?_
      obtain ⟨hz3, h⟩ := gm_nzL_e h
      refine lv_lrem hx hb dX10_setFraction_27 hz3 ?_
      refine lv_lconst (v := 0) hx hb dX10_setFraction_28 (by decide) ?_
      refine W.lcmp hx hb dX10_setFraction_29 ?_
      refine lv_if_ne (tgt := 67) hx hb dX10_setFraction_30 (by decide) (fun hc4 => ?_) (fun hc4 => ?_)
      · replace h := gm_neg hc4 h
        exact tX10_setFraction_b67 C0 hr16 h hH (lv_sub hl [0, 1] rfl)
      · replace h := gm_pos hc4 h
        refine lv_aload_n hx hb dX10_setFraction_33 rfl (lv_at hl 0 rfl) ?_
        refine gm_get (ci := 10) C0 hH inX10_setFraction_X10 0 12 3 rfl rfl (by decide) rfl rfl dX10_setFraction_34 ?_
        refine lv_iload_n hx hb dX10_setFraction_37 rfl (lv_at hl 1 rfl) ?_
        refine lv_i2l hx hb dX10_setFraction_38 rfl ?_
        obtain ⟨hz5, h⟩ := gm_nzL_e h
        refine lv_lrem hx hb dX10_setFraction_39 hz5 ?_
        refine lv_lconst (v := 0) hx hb dX10_setFraction_40 (by decide) ?_
        refine W.lcmp hx hb dX10_setFraction_41 ?_
        refine lv_if_ne (tgt := 67) hx hb dX10_setFraction_42 (by decide) (fun hc6 => ?_) (fun hc6 => ?_)
        · replace h := gm_neg hc6 h
          exact tX10_setFraction_b67 C0 hr16 h hH (lv_sub hl [0, 1] rfl)
        · replace h := gm_pos hc6 h
          refine lv_aload_n hx hb dX10_setFraction_45 rfl (lv_at hl 0 rfl) ?_
          refine lv_dup hx hb dX10_setFraction_46 rfl ?_
          refine gm_get (ci := 10) C0 hH inX10_setFraction_X10 0 11 1 rfl rfl (by decide) rfl rfl dX10_setFraction_47 ?_
          refine lv_iload_n hx hb dX10_setFraction_50 rfl (lv_at hl 1 rfl) ?_
          refine lv_i2l hx hb dX10_setFraction_51 rfl ?_
          obtain ⟨hz7, h⟩ := gm_nzL_e h
          refine lv_ldiv hx hb dX10_setFraction_52 hz7 ?_
          refine lv_topl (fun v8 ev8 => ?_)
          replace h := gm_let_e ev8 h
          refine gm_putf (ci := 10) C0 hH inX10_setFraction_X10 tyX10_ok nmX10 0 11 1 rfl rfl (by decide) rfl rfl rfl rfl rfl (Nat.le_of_ble_eq_true rfl) dX10_setFraction_53 (fun H locs hH => ?_)
          have hH : gm_H (dC, dI) A s (wX10_setFraction  q q_now q_draft q_images q_kinds q_text q_duel q_cover q_clashes q_tally q_sayableByPair q_chosenPairs m_imagesKept m_bads m_nos m_fulls v8 m_below) H locs := hH
          refine lv_aload_n hx hb dX10_setFraction_56 rfl (lv_at hl 0 rfl) ?_
          refine lv_dup hx hb dX10_setFraction_57 rfl ?_
          refine gm_get (ci := 10) C0 hH inX10_setFraction_X10 0 12 3 rfl rfl (by decide) rfl rfl dX10_setFraction_58 ?_
          refine lv_iload_n hx hb dX10_setFraction_61 rfl (lv_at hl 1 rfl) ?_
          refine lv_i2l hx hb dX10_setFraction_62 rfl ?_
          obtain ⟨hz9, h⟩ := gm_nzL_e h
          refine lv_ldiv hx hb dX10_setFraction_63 hz9 ?_
          refine lv_topl (fun v10 ev10 => ?_)
          replace h := gm_let_e ev10 h
          refine gm_putf (ci := 10) C0 hH inX10_setFraction_X10 tyX10_ok nmX10 0 12 3 rfl rfl (by decide) rfl rfl rfl rfl rfl (Nat.le_of_ble_eq_true rfl) dX10_setFraction_64 (fun H locs hH => ?_)
          have hH : gm_H (dC, dI) A s (wX10_setFraction  q q_now q_draft q_images q_kinds q_text q_duel q_cover q_clashes q_tally q_sayableByPair q_chosenPairs m_imagesKept m_bads m_nos m_fulls v8 v10) H locs := hH
          exact tX10_setFraction_b67 C0 hr16 h hH (lv_sub hl [0, 1] rfl)
set_option maxRecDepth 100000 in
set_option maxHeartbeats 4000000 in
theorem mX10_setFraction (l : Launch) (dC : Nat → ClassId) (dI : Nat → Nat → Nat) (q q_now q_draft q_images q_kinds q_text q_duel q_cover q_clashes q_tally q_sayableByPair q_chosenPairs : Nat) (m_imagesKept : Int32) (m_bads : Int32) (m_nos : Int32) (m_fulls : Int32) (m_above : Int64) (m_below : Int64) (x1 : Int32)  {N : Nat} {out : Int64 × Int64} (h : fX10_setFraction N m_above m_below x1 = some out) : gm_Met l yX10_setFraction wsX10_setFraction rX10_setFraction (dC, dI) [] gm_T [.ref q, .int x1] (wX10_setFraction  q q_now q_draft q_images q_kinds q_text q_duel q_cover q_clashes q_tally q_sayableByPair q_chosenPairs m_imagesKept m_bads m_nos m_fulls m_above m_below) none (wX10_setFraction  q q_now q_draft q_images q_kinds q_text q_duel q_cover q_clashes q_tally q_sayableByPair q_chosenPairs m_imagesKept m_bads m_nos m_fulls out.1 out.2) := by
  refine gm_ofW (cc := cX10_setFraction) (maxL := 3) (ret := none) (by decide +kernel) rfl (Nat.le_of_ble_eq_true rfl) ?_
  intro p e s m below meth c A C0 hH ls hl
  generalize ([.ref q, .int x1] : List Value).toArray = args at C0 ⊢
  have hl : lv_has ls 3 [(0, .ref q), (1, .int x1)] := hl
  generalize s.heap = H at hH ⊢
  generalize ([] : List Loc) = locs at hH ⊢
  obtain ⟨hx, hb, hml, hr, hown, hts, hA, hK, hX, hlocks⟩ := id C0
  unfold fX10_setFraction at h
  refine lv_aload_n hx hb dX10_setFraction_0 rfl (lv_at hl 0 rfl) ?_
  refine lv_iload_n hx hb dX10_setFraction_1 rfl (lv_at hl 1 rfl) ?_
  refine lv_i2l hx hb dX10_setFraction_2 rfl ?_
  refine lv_topl (fun v1 ev1 => ?_)
  replace h := gm_let_e ev1 h
  refine gm_putf (ci := 10) C0 hH inX10_setFraction_X10 tyX10_ok nmX10 0 11 1 rfl rfl (by decide) rfl rfl rfl rfl rfl (Nat.le_of_ble_eq_true rfl) dX10_setFraction_3 (fun H locs hH => ?_)
  have hH : gm_H (dC, dI) A s (wX10_setFraction  q q_now q_draft q_images q_kinds q_text q_duel q_cover q_clashes q_tally q_sayableByPair q_chosenPairs m_imagesKept m_bads m_nos m_fulls v1 m_below) H locs := hH
  refine lv_aload_n hx hb dX10_setFraction_6 rfl (lv_at hl 0 rfl) ?_
  refine lv_ldc2 (own := RX10) (v := 10) hx hb hown (gm_at C0 2 rfl) dX10_setFraction_7 ?_
  refine gm_putf (ci := 10) C0 hH inX10_setFraction_X10 tyX10_ok nmX10 0 12 3 rfl rfl (by decide) rfl rfl rfl rfl rfl (Nat.le_of_ble_eq_true rfl) dX10_setFraction_10 (fun H locs hH => ?_)
  have hH : gm_H (dC, dI) A s (wX10_setFraction  q q_now q_draft q_images q_kinds q_text q_duel q_cover q_clashes q_tally q_sayableByPair q_chosenPairs m_imagesKept m_bads m_nos m_fulls v1 10) H locs := hH
  refine lv_bipush (v := 10) hx hb dX10_setFraction_13 (by decide) ?_
  refine lv_istore_n (lv' := [(2, .int 10), (0, .ref q), (1, .int x1)]) hx hb dX10_setFraction_15 rfl hl (by decide) rfl (fun ls hl => ?_)
  unfold fX10_setFraction_b16 at h
  exact tX10_setFraction_b16 C0  _ _ _ _ _ _ _ h hH (lv_sub hl [1, 0] rfl)
