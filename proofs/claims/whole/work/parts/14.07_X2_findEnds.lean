/-! X2_findEnds -/
abbrev wX2_findEnds (cI : ClassId) (q q_chimesOfFirst q_chimesOfSecond q_lasts : Nat) (m_words : Int32) (m_saidAtFirst : Int32) (m_asked : Int32) (m_longest : Int32) (m_shortest : Int32) (m_chimesOfFirst : Nat → Int32) (m_chimesOfSecond : Nat → Int32) (m_lasts : Nat → Int32) : va_W := [(q, .inr (2, [.ref q_chimesOfFirst, .ref q_chimesOfSecond, .ref q_lasts, .int m_words, .int m_saidAtFirst, .int m_asked, .int m_longest, .int m_shortest])), (q_chimesOfFirst, .inl (cI, 10, .inl m_chimesOfFirst)), (q_chimesOfSecond, .inl (cI, 10, .inl m_chimesOfSecond)), (q_lasts, .inl (cI, 1024, .inl m_lasts))]
abbrev rX2_findEnds : Room := { frames := 4, cells := 0, slots := 0, locals := 88 }
def fX2_findEnds_b80 (N : Nat) (r56 : Int32 → Int32 → (Nat → Int32) → Int32 → Option (Int32 × Int32 × (Nat → Int32))) (m_words : Int32) (m_saidAtFirst : Int32) (m_longest : Int32) (m_shortest : Int32) (m_chimesOfFirst : Nat → Int32) (m_chimesOfSecond : Nat → Int32) (m_lasts : Nat → Int32) (x1 : Int32) : Option (Int32 × Int32 × (Nat → Int32)) := (r56 m_longest m_shortest m_lasts ((x1 + 1)))
def fX2_findEnds_b56_body (N : Nat)  (m_words : Int32) (m_saidAtFirst : Int32) (m_chimesOfFirst : Nat → Int32) (m_chimesOfSecond : Nat → Int32) (r56 : Int32 → Int32 → (Nat → Int32) → Int32 → Option (Int32 × Int32 × (Nat → Int32))) (m_longest : Int32) (m_shortest : Int32) (m_lasts : Nat → Int32) (x1 : Int32) : Option (Int32 × Int32 × (Nat → Int32)) := (if ((1 : Int32) <<< (m_words &&& 31)) ≤ x1 then some (m_longest, m_shortest, m_lasts) else gm_chk x1 1024 ((if (m_lasts (Int32.toNatClampNeg x1)) = 0 then (fX2_findEnds_b80 N r56 m_words m_saidAtFirst m_longest m_shortest m_chimesOfFirst m_chimesOfSecond m_lasts x1) else gm_bind (fX2_goOn N m_words m_saidAtFirst m_longest m_shortest m_chimesOfFirst m_chimesOfSecond m_lasts x1) (fun o6 => (fX2_findEnds_b80 N r56 m_words m_saidAtFirst o6.1 o6.2.1 m_chimesOfFirst m_chimesOfSecond o6.2.2 x1)))))
def fX2_findEnds_b56 (N : Nat)  (m_words : Int32) (m_saidAtFirst : Int32) (m_chimesOfFirst : Nat → Int32) (m_chimesOfSecond : Nat → Int32) (m_longest : Int32) (m_shortest : Int32) (m_lasts : Nat → Int32) (x1 : Int32) : Option (Int32 × Int32 × (Nat → Int32)) := gm_fix (fX2_findEnds_b56_body N  m_words m_saidAtFirst m_chimesOfFirst m_chimesOfSecond) (fun _ _ _ _ => none) N m_longest m_shortest m_lasts x1
def fX2_findEnds_b25 (N : Nat)  (m_words : Int32) (m_saidAtFirst : Int32) (m_asked : Int32) (m_longest : Int32) (m_shortest : Int32) (m_chimesOfFirst : Nat → Int32) (m_chimesOfSecond : Nat → Int32) (m_lasts : Nat → Int32) : Option (Int32 × Int32 × (Nat → Int32)) := gm_chk m_saidAtFirst 1024 ((fX2_findEnds_b56 N  m_words m_saidAtFirst m_chimesOfFirst m_chimesOfSecond 0 10 (upd m_lasts (Int32.toNatClampNeg m_saidAtFirst) (((1 : Int32) <<< (m_asked &&& 31)))) m_saidAtFirst))
def fX2_findEnds_b2_body (N : Nat)  (m_words : Int32) (m_saidAtFirst : Int32) (m_asked : Int32) (m_longest : Int32) (m_shortest : Int32) (m_chimesOfFirst : Nat → Int32) (m_chimesOfSecond : Nat → Int32) (r2 : (Nat → Int32) → Int32 → Option (Int32 × Int32 × (Nat → Int32))) (m_lasts : Nat → Int32) (x1 : Int32) : Option (Int32 × Int32 × (Nat → Int32)) := (if ((1 : Int32) <<< (m_words &&& 31)) ≤ x1 then (fX2_findEnds_b25 N  m_words m_saidAtFirst m_asked m_longest m_shortest m_chimesOfFirst m_chimesOfSecond m_lasts) else gm_chk x1 1024 ((r2 (upd m_lasts (Int32.toNatClampNeg x1) 0) ((x1 + 1)))))
def fX2_findEnds_b2 (N : Nat)  (m_words : Int32) (m_saidAtFirst : Int32) (m_asked : Int32) (m_longest : Int32) (m_shortest : Int32) (m_chimesOfFirst : Nat → Int32) (m_chimesOfSecond : Nat → Int32) (m_lasts : Nat → Int32) (x1 : Int32) : Option (Int32 × Int32 × (Nat → Int32)) := gm_fix (fX2_findEnds_b2_body N  m_words m_saidAtFirst m_asked m_longest m_shortest m_chimesOfFirst m_chimesOfSecond) (fun _ _ => none) N m_lasts x1
def fX2_findEnds (N : Nat) (m_words : Int32) (m_saidAtFirst : Int32) (m_asked : Int32) (m_longest : Int32) (m_shortest : Int32) (m_chimesOfFirst : Nat → Int32) (m_chimesOfSecond : Nat → Int32) (m_lasts : Nat → Int32)  : Option (Int32 × Int32 × (Nat → Int32)) := (fX2_findEnds_b2 N  m_words m_saidAtFirst m_asked m_longest m_shortest m_chimesOfFirst m_chimesOfSecond m_lasts 0)
set_option maxRecDepth 20000 in
theorem inX2_findEnds_X2 : ∀ w ∈ u_ws RX2 TX2 8, w ∈ wsX2_findEnds := fun w h => by
  obtain ⟨k, hk, rfl⟩ := List.mem_map.mp h
  have hk2 := List.mem_range.mp hk
  exact List.mem_of_getElem? (i := 36 + k) (by rcases (show k = 0 ∨ k = 1 ∨ k = 2 ∨ k = 3 ∨ k = 4 ∨ k = 5 ∨ k = 6 ∨ k = 7 by omega) with rfl | rfl | rfl | rfl | rfl | rfl | rfl | rfl <;> rfl)
set_option maxRecDepth 100000 in
set_option maxHeartbeats 4000000 in
theorem tX2_findEnds_b80 {p : Program} {l : Launch} {e : Env} {s : State} {m : MethodId} {args : Array Value} {below : List Frame} {meth : Method} {c : Code} {A : Nat → Prop} {dC : Nat → ClassId} {dI : Nat → Nat → Nat} {cI : ClassId} {q q_chimesOfFirst q_chimesOfSecond q_lasts : Nat} {m_words : Int32} {m_saidAtFirst : Int32} {m_asked : Int32} {m_longest : Int32} {m_shortest : Int32} {m_chimesOfFirst : Nat → Int32} {m_chimesOfSecond : Nat → Int32} {m_lasts : Nat → Int32} {x1 : Int32} (C0 : gm_C p s m args meth c (dC, dI) [(cI, .int)] A gm_T RX2 cX2_findEnds 2 none wsX2_findEnds) {N : Nat} {out : Int32 × Int32 × (Nat → Int32)} {r56 : Int32 → Int32 → (Nat → Int32) → Int32 → Option (Int32 × Int32 × (Nat → Int32))} (hr56 : ∀ (m_longest : Int32) (m_shortest : Int32) (m_lasts : Nat → Int32) (x1 : Int32) (H : Heap) (locs : List Loc) (ls : Array Slot), r56 m_longest m_shortest m_lasts x1 = some out → gm_H (dC, dI) A s (wX2_findEnds cI q q_chimesOfFirst q_chimesOfSecond q_lasts m_words m_saidAtFirst m_asked m_longest m_shortest m_chimesOfFirst m_chimesOfSecond m_lasts) H locs → lv_has ls 2 [(0, .ref q), (1, .int x1)] → W p l e rX2_findEnds s m args below meth c H locs 0 0 (MQ below (gm_Q (dC, dI) [(cI, .int)] A none (wX2_findEnds cI q q_chimesOfFirst q_chimesOfSecond q_lasts m_words m_saidAtFirst m_asked out.1 out.2.1 m_chimesOfFirst m_chimesOfSecond out.2.2)) args s 0 0 A) (F0 m 56 ls []))   {H : Heap} {locs : List Loc} {ls : Array Slot} (h : fX2_findEnds_b80 N r56 m_words m_saidAtFirst m_longest m_shortest m_chimesOfFirst m_chimesOfSecond m_lasts x1 = some out) (hH : gm_H (dC, dI) A s (wX2_findEnds cI q q_chimesOfFirst q_chimesOfSecond q_lasts m_words m_saidAtFirst m_asked m_longest m_shortest m_chimesOfFirst m_chimesOfSecond m_lasts) H locs) (hl : lv_has ls 2 [(0, .ref q), (1, .int x1)]) : W p l e rX2_findEnds s m args below meth c H locs 0 0 (MQ below (gm_Q (dC, dI) [(cI, .int)] A none (wX2_findEnds cI q q_chimesOfFirst q_chimesOfSecond q_lasts m_words m_saidAtFirst m_asked out.1 out.2.1 m_chimesOfFirst m_chimesOfSecond out.2.2)) args s 0 0 A) (F0 m 80 ls []) := by
  obtain ⟨hx, hb, hml, hr, hown, hts, hA, hK, hX, hlocks⟩ := id C0
  unfold fX2_findEnds_b80 at h
  refine lv_iinc (v := (x1 + 1)) (lv' := [(1, .int (x1 + 1)), (0, .ref q)]) hx hb dX2_findEnds_80 hl (k := 1) rfl rfl (by decide) rfl (fun ls hl => ?_)
  refine lv_goto (tgt := 56) hx hb dX2_findEnds_83 (by decide) ?_
  exact hr56 _ _ _ _ _ _ _ h hH (lv_sub hl [1, 0] rfl)
set_option maxRecDepth 100000 in
set_option maxHeartbeats 4000000 in
theorem tX2_findEnds_b56 {p : Program} {l : Launch} {e : Env} {s : State} {m : MethodId} {args : Array Value} {below : List Frame} {meth : Method} {c : Code} {A : Nat → Prop} {dC : Nat → ClassId} {dI : Nat → Nat → Nat} {cI : ClassId} {q q_chimesOfFirst q_chimesOfSecond q_lasts : Nat} {m_words : Int32} {m_saidAtFirst : Int32} {m_asked : Int32} {m_chimesOfFirst : Nat → Int32} {m_chimesOfSecond : Nat → Int32} (C0 : gm_C p s m args meth c (dC, dI) [(cI, .int)] A gm_T RX2 cX2_findEnds 2 none wsX2_findEnds) {N : Nat} {out : Int32 × Int32 × (Nat → Int32)}   : ∀ (n : Nat), ∀ (m_longest : Int32) (m_shortest : Int32) (m_lasts : Nat → Int32) (x1 : Int32) (H : Heap) (locs : List Loc) (ls : Array Slot), (gm_fix (fX2_findEnds_b56_body N  m_words m_saidAtFirst m_chimesOfFirst m_chimesOfSecond) (fun _ _ _ _ => none) n) m_longest m_shortest m_lasts x1 = some out → gm_H (dC, dI) A s (wX2_findEnds cI q q_chimesOfFirst q_chimesOfSecond q_lasts m_words m_saidAtFirst m_asked m_longest m_shortest m_chimesOfFirst m_chimesOfSecond m_lasts) H locs → lv_has ls 2 [(0, .ref q), (1, .int x1)] → W p l e rX2_findEnds s m args below meth c H locs 0 0 (MQ below (gm_Q (dC, dI) [(cI, .int)] A none (wX2_findEnds cI q q_chimesOfFirst q_chimesOfSecond q_lasts m_words m_saidAtFirst m_asked out.1 out.2.1 m_chimesOfFirst m_chimesOfSecond out.2.2)) args s 0 0 A) (F0 m 56 ls []) := by
  obtain ⟨hx, hb, hml, hr, hown, hts, hA, hK, hX, hlocks⟩ := id C0
  intro n
  induction n with
  | zero =>
    intro m_longest m_shortest m_lasts x1 H locs ls h hH hl
    cases h
  | succ n hr56 =>
    intro m_longest m_shortest m_lasts x1 H locs ls h hH hl
    rw [gm_fix_s] at h
    unfold fX2_findEnds_b56_body at h
    refine lv_iload_n hx hb dX2_findEnds_56 rfl (lv_at hl 1 rfl) ?_
    refine lv_iconst (v := 1) hx hb dX2_findEnds_57 (by decide) ?_
    refine lv_aload_n hx hb dX2_findEnds_58 rfl (lv_at hl 0 rfl) ?_
    refine gm_get (ci := 2) C0 hH inX2_findEnds_X2 0 3 1 rfl rfl (by decide) rfl rfl dX2_findEnds_59 ?_
    refine lv_ishl hx hb dX2_findEnds_62 ?_
    refine lv_icmp_ge (tgt := 86) hx hb dX2_findEnds_63 (by decide) (fun hc3 => ?_) (fun hc3 => ?_)
    · replace h := gm_pos hc3 h
      obtain rfl := Option.some.inj h
      exact gm_vret C0 hH dX2_findEnds_86
    · replace h := gm_neg hc3 h
      refine lv_aload_n hx hb dX2_findEnds_66 rfl (lv_at hl 0 rfl) ?_
      refine gm_get (ci := 2) C0 hH inX2_findEnds_X2 0 2 2 rfl rfl (by decide) rfl rfl dX2_findEnds_67 ?_
      refine lv_iload_n hx hb dX2_findEnds_70 rfl (lv_at hl 1 rfl) ?_
      obtain ⟨hi4, h⟩ := gm_chk_e h
      refine gm_iald C0 hH hi4 3 0 rfl rfl dX2_findEnds_71 ?_
      refine lv_if_eq (tgt := 80) hx hb dX2_findEnds_72 (by decide) (fun hc5 => ?_) (fun hc5 => ?_)
      · replace h := gm_pos hc5 h
        exact tX2_findEnds_b80 C0 hr56 h hH (lv_sub hl [0, 1] rfl)
      · replace h := gm_neg hc5 h
        refine lv_aload_n hx hb dX2_findEnds_75 rfl (lv_at hl 0 rfl) ?_
        refine lv_iload_n hx hb dX2_findEnds_76 rfl (lv_at hl 1 rfl) ?_
        obtain ⟨o6, ho6, h⟩ := gm_bind_e h
        refine gm_callV (As := [.int x1]) (rest := []) (n := 1) (ci := 2) (q0 := 0) C0 hH (mX2_goOn l dC dI cI q q_chimesOfFirst q_chimesOfSecond q_lasts m_words m_saidAtFirst m_asked m_longest m_shortest m_chimesOfFirst m_chimesOfSecond m_lasts x1   ho6) gX2_findEnds_X2_goOn rfl (by decide +kernel) ⟨rfl, rfl, Nat.le_of_ble_eq_true rfl, Nat.le_of_ble_eq_true rfl⟩ gm_T_ok (fun _ => trivial) [0, 1, 2, 3] rfl rfl rfl [0] rfl rfl rfl rfl hl.1 rfl (Nat.le_of_ble_eq_true rfl) dX2_findEnds_77 ⟨Nat.zero_le _, Nat.zero_le _⟩ (fun H locs hH => ?_)
        simp only [wX2_findEnds, wX2_goOn, gm_sets, List.set_cons_succ, List.set_cons_zero] at hH
        have hH : gm_H (dC, dI) A s (wX2_findEnds cI q q_chimesOfFirst q_chimesOfSecond q_lasts m_words m_saidAtFirst m_asked o6.1 o6.2.1 m_chimesOfFirst m_chimesOfSecond o6.2.2) H locs := hH
        exact tX2_findEnds_b80 C0 hr56 h hH (lv_sub hl [0, 1] rfl)
set_option maxRecDepth 100000 in
set_option maxHeartbeats 4000000 in
theorem tX2_findEnds_b25 {p : Program} {l : Launch} {e : Env} {s : State} {m : MethodId} {args : Array Value} {below : List Frame} {meth : Method} {c : Code} {A : Nat → Prop} {dC : Nat → ClassId} {dI : Nat → Nat → Nat} {cI : ClassId} {q q_chimesOfFirst q_chimesOfSecond q_lasts : Nat} {m_words : Int32} {m_saidAtFirst : Int32} {m_asked : Int32} {m_longest : Int32} {m_shortest : Int32} {m_chimesOfFirst : Nat → Int32} {m_chimesOfSecond : Nat → Int32} {m_lasts : Nat → Int32} (C0 : gm_C p s m args meth c (dC, dI) [(cI, .int)] A gm_T RX2 cX2_findEnds 2 none wsX2_findEnds) {N : Nat} {out : Int32 × Int32 × (Nat → Int32)}    {H : Heap} {locs : List Loc} {ls : Array Slot} (h : fX2_findEnds_b25 N  m_words m_saidAtFirst m_asked m_longest m_shortest m_chimesOfFirst m_chimesOfSecond m_lasts = some out) (hH : gm_H (dC, dI) A s (wX2_findEnds cI q q_chimesOfFirst q_chimesOfSecond q_lasts m_words m_saidAtFirst m_asked m_longest m_shortest m_chimesOfFirst m_chimesOfSecond m_lasts) H locs) (hl : lv_has ls 2 [(0, .ref q)]) : W p l e rX2_findEnds s m args below meth c H locs 0 0 (MQ below (gm_Q (dC, dI) [(cI, .int)] A none (wX2_findEnds cI q q_chimesOfFirst q_chimesOfSecond q_lasts m_words m_saidAtFirst m_asked out.1 out.2.1 m_chimesOfFirst m_chimesOfSecond out.2.2)) args s 0 0 A) (F0 m 25 ls []) := by
  obtain ⟨hx, hb, hml, hr, hown, hts, hA, hK, hX, hlocks⟩ := id C0
  unfold fX2_findEnds_b25 at h
  refine lv_aload_n hx hb dX2_findEnds_25 rfl (lv_at hl 0 rfl) ?_
  refine gm_get (ci := 2) C0 hH inX2_findEnds_X2 0 2 2 rfl rfl (by decide) rfl rfl dX2_findEnds_26 ?_
  refine lv_aload_n hx hb dX2_findEnds_29 rfl (lv_at hl 0 rfl) ?_
  refine gm_get (ci := 2) C0 hH inX2_findEnds_X2 0 4 3 rfl rfl (by decide) rfl rfl dX2_findEnds_30 ?_
  refine lv_iconst (v := 1) hx hb dX2_findEnds_33 (by decide) ?_
  refine lv_aload_n hx hb dX2_findEnds_34 rfl (lv_at hl 0 rfl) ?_
  refine gm_get (ci := 2) C0 hH inX2_findEnds_X2 0 5 4 rfl rfl (by decide) rfl rfl dX2_findEnds_35 ?_
  refine lv_ishl hx hb dX2_findEnds_38 ?_
  obtain ⟨hi2, h⟩ := gm_chk_e h
  refine gm_iast C0 hH hi2 3 0 rfl rfl dX2_findEnds_39 (fun H locs hH => ?_)
  have hH : gm_H (dC, dI) A s (wX2_findEnds cI q q_chimesOfFirst q_chimesOfSecond q_lasts m_words m_saidAtFirst m_asked m_longest m_shortest m_chimesOfFirst m_chimesOfSecond (upd m_lasts (Int32.toNatClampNeg m_saidAtFirst) (((1 : Int32) <<< (m_asked &&& 31))))) H locs := hH
  refine lv_aload_n hx hb dX2_findEnds_40 rfl (lv_at hl 0 rfl) ?_
  refine lv_iconst (v := 0) hx hb dX2_findEnds_41 (by decide) ?_
  refine gm_putf (ci := 2) C0 hH inX2_findEnds_X2 tyX2_ok nmX2 0 6 5 rfl rfl (by decide) rfl rfl rfl rfl rfl (Nat.le_of_ble_eq_true rfl) dX2_findEnds_42 (fun H locs hH => ?_)
  have hH : gm_H (dC, dI) A s (wX2_findEnds cI q q_chimesOfFirst q_chimesOfSecond q_lasts m_words m_saidAtFirst m_asked 0 m_shortest m_chimesOfFirst m_chimesOfSecond (upd m_lasts (Int32.toNatClampNeg m_saidAtFirst) (((1 : Int32) <<< (m_asked &&& 31))))) H locs := hH
  refine lv_aload_n hx hb dX2_findEnds_45 rfl (lv_at hl 0 rfl) ?_
  refine lv_bipush (v := 10) hx hb dX2_findEnds_46 (by decide) ?_
  refine gm_putf (ci := 2) C0 hH inX2_findEnds_X2 tyX2_ok nmX2 0 7 6 rfl rfl (by decide) rfl rfl rfl rfl rfl (Nat.le_of_ble_eq_true rfl) dX2_findEnds_48 (fun H locs hH => ?_)
  have hH : gm_H (dC, dI) A s (wX2_findEnds cI q q_chimesOfFirst q_chimesOfSecond q_lasts m_words m_saidAtFirst m_asked 0 10 m_chimesOfFirst m_chimesOfSecond (upd m_lasts (Int32.toNatClampNeg m_saidAtFirst) (((1 : Int32) <<< (m_asked &&& 31))))) H locs := hH
  refine lv_aload_n hx hb dX2_findEnds_51 rfl (lv_at hl 0 rfl) ?_
  refine gm_get (ci := 2) C0 hH inX2_findEnds_X2 0 4 3 rfl rfl (by decide) rfl rfl dX2_findEnds_52 ?_
  refine lv_istore_n (lv' := [(1, .int m_saidAtFirst), (0, .ref q)]) hx hb dX2_findEnds_55 rfl hl (by decide) rfl (fun ls hl => ?_)
  unfold fX2_findEnds_b56 at h
  exact tX2_findEnds_b56 C0  _ _ _ _ _ _ _ _ h hH (lv_sub hl [1, 0] rfl)
set_option maxRecDepth 100000 in
set_option maxHeartbeats 4000000 in
theorem tX2_findEnds_b2 {p : Program} {l : Launch} {e : Env} {s : State} {m : MethodId} {args : Array Value} {below : List Frame} {meth : Method} {c : Code} {A : Nat → Prop} {dC : Nat → ClassId} {dI : Nat → Nat → Nat} {cI : ClassId} {q q_chimesOfFirst q_chimesOfSecond q_lasts : Nat} {m_words : Int32} {m_saidAtFirst : Int32} {m_asked : Int32} {m_longest : Int32} {m_shortest : Int32} {m_chimesOfFirst : Nat → Int32} {m_chimesOfSecond : Nat → Int32} (C0 : gm_C p s m args meth c (dC, dI) [(cI, .int)] A gm_T RX2 cX2_findEnds 2 none wsX2_findEnds) {N : Nat} {out : Int32 × Int32 × (Nat → Int32)}   : ∀ (n : Nat), ∀ (m_lasts : Nat → Int32) (x1 : Int32) (H : Heap) (locs : List Loc) (ls : Array Slot), (gm_fix (fX2_findEnds_b2_body N  m_words m_saidAtFirst m_asked m_longest m_shortest m_chimesOfFirst m_chimesOfSecond) (fun _ _ => none) n) m_lasts x1 = some out → gm_H (dC, dI) A s (wX2_findEnds cI q q_chimesOfFirst q_chimesOfSecond q_lasts m_words m_saidAtFirst m_asked m_longest m_shortest m_chimesOfFirst m_chimesOfSecond m_lasts) H locs → lv_has ls 2 [(0, .ref q), (1, .int x1)] → W p l e rX2_findEnds s m args below meth c H locs 0 0 (MQ below (gm_Q (dC, dI) [(cI, .int)] A none (wX2_findEnds cI q q_chimesOfFirst q_chimesOfSecond q_lasts m_words m_saidAtFirst m_asked out.1 out.2.1 m_chimesOfFirst m_chimesOfSecond out.2.2)) args s 0 0 A) (F0 m 2 ls []) := by
  obtain ⟨hx, hb, hml, hr, hown, hts, hA, hK, hX, hlocks⟩ := id C0
  intro n
  induction n with
  | zero =>
    intro m_lasts x1 H locs ls h hH hl
    cases h
  | succ n hr2 =>
    intro m_lasts x1 H locs ls h hH hl
    rw [gm_fix_s] at h
    unfold fX2_findEnds_b2_body at h
    refine lv_iload_n hx hb dX2_findEnds_2 rfl (lv_at hl 1 rfl) ?_
    refine lv_iconst (v := 1) hx hb dX2_findEnds_3 (by decide) ?_
    refine lv_aload_n hx hb dX2_findEnds_4 rfl (lv_at hl 0 rfl) ?_
    refine gm_get (ci := 2) C0 hH inX2_findEnds_X2 0 3 1 rfl rfl (by decide) rfl rfl dX2_findEnds_5 ?_
    refine lv_ishl hx hb dX2_findEnds_8 ?_
    refine lv_icmp_ge (tgt := 25) hx hb dX2_findEnds_9 (by decide) (fun hc1 => ?_) (fun hc1 => ?_)
    · replace h := gm_pos hc1 h
      exact tX2_findEnds_b25 C0  h hH (lv_sub hl [0] rfl)
    · replace h := gm_neg hc1 h
      refine lv_aload_n hx hb dX2_findEnds_12 rfl (lv_at hl 0 rfl) ?_
      refine gm_get (ci := 2) C0 hH inX2_findEnds_X2 0 2 2 rfl rfl (by decide) rfl rfl dX2_findEnds_13 ?_
      refine lv_iload_n hx hb dX2_findEnds_16 rfl (lv_at hl 1 rfl) ?_
      refine lv_iconst (v := 0) hx hb dX2_findEnds_17 (by decide) ?_
      obtain ⟨hi7, h⟩ := gm_chk_e h
      refine gm_iast C0 hH hi7 3 0 rfl rfl dX2_findEnds_18 (fun H locs hH => ?_)
      have hH : gm_H (dC, dI) A s (wX2_findEnds cI q q_chimesOfFirst q_chimesOfSecond q_lasts m_words m_saidAtFirst m_asked m_longest m_shortest m_chimesOfFirst m_chimesOfSecond (upd m_lasts (Int32.toNatClampNeg x1) 0)) H locs := hH
      refine lv_iinc (v := (x1 + 1)) (lv' := [(1, .int (x1 + 1)), (0, .ref q)]) hx hb dX2_findEnds_19 hl (k := 1) rfl rfl (by decide) rfl (fun ls hl => ?_)
      refine lv_goto (tgt := 2) hx hb dX2_findEnds_22 (by decide) ?_
      exact hr2 _ _ _ _ _ h hH (lv_sub hl [1, 0] rfl)
set_option maxRecDepth 100000 in
set_option maxHeartbeats 4000000 in
theorem mX2_findEnds (l : Launch) (dC : Nat → ClassId) (dI : Nat → Nat → Nat) (cI : ClassId) (q q_chimesOfFirst q_chimesOfSecond q_lasts : Nat) (m_words : Int32) (m_saidAtFirst : Int32) (m_asked : Int32) (m_longest : Int32) (m_shortest : Int32) (m_chimesOfFirst : Nat → Int32) (m_chimesOfSecond : Nat → Int32) (m_lasts : Nat → Int32)   {N : Nat} {out : Int32 × Int32 × (Nat → Int32)} (h : fX2_findEnds N m_words m_saidAtFirst m_asked m_longest m_shortest m_chimesOfFirst m_chimesOfSecond m_lasts = some out) : gm_Met l yX2_findEnds wsX2_findEnds rX2_findEnds (dC, dI) [(cI, .int)] gm_T [.ref q] (wX2_findEnds cI q q_chimesOfFirst q_chimesOfSecond q_lasts m_words m_saidAtFirst m_asked m_longest m_shortest m_chimesOfFirst m_chimesOfSecond m_lasts) none (wX2_findEnds cI q q_chimesOfFirst q_chimesOfSecond q_lasts m_words m_saidAtFirst m_asked out.1 out.2.1 m_chimesOfFirst m_chimesOfSecond out.2.2) := by
  refine gm_ofW (cc := cX2_findEnds) (maxL := 2) (ret := none) (by decide +kernel) rfl (Nat.le_of_ble_eq_true rfl) ?_
  intro p e s m below meth c A C0 hH ls hl
  generalize ([.ref q] : List Value).toArray = args at C0 ⊢
  have hl : lv_has ls 2 [(0, .ref q)] := hl
  generalize s.heap = H at hH ⊢
  generalize ([] : List Loc) = locs at hH ⊢
  obtain ⟨hx, hb, hml, hr, hown, hts, hA, hK, hX, hlocks⟩ := id C0
  unfold fX2_findEnds at h
  refine lv_iconst (v := 0) hx hb dX2_findEnds_0 (by decide) ?_
  refine lv_istore_n (lv' := [(1, .int 0), (0, .ref q)]) hx hb dX2_findEnds_1 rfl hl (by decide) rfl (fun ls hl => ?_)
  unfold fX2_findEnds_b2 at h
  exact tX2_findEnds_b2 C0  _ _ _ _ _ _ h hH (lv_sub hl [1, 0] rfl)
