/-! X2_traps -/
abbrev wX2_traps (cI : ClassId) (q q_lasts q_chimesOfFirst q_chimesOfSecond : Nat) (m_words : Int32) (m_saidAtFirst : Int32) (m_asked : Int32) (m_longest : Int32) (m_shortest : Int32) (m_lasts : Nat → Int32) : va_W := [(q, .inr (2, [.ref q_chimesOfFirst, .ref q_chimesOfSecond, .ref q_lasts, .int m_words, .int m_saidAtFirst, .int m_asked, .int m_longest, .int m_shortest])), (q_lasts, .inl (cI, 1024, .inl m_lasts))]
abbrev rX2_traps : Room := { frames := 0, cells := 0, slots := 0, locals := 0 }
def fX2_traps_b44 (N : Nat) (r4 : Int32 → Int32 → Option (Int32)) (m_words : Int32) (m_lasts : Nat → Int32) (x1 : Int32) (x2 : Int32) (x3 : Int32) : Option (Int32) := (r4 x2 ((x3 + 1)))
def fX2_traps_b4_body (N : Nat)  (m_words : Int32) (m_lasts : Nat → Int32) (x1 : Int32) (r4 : Int32 → Int32 → Option (Int32)) (x2 : Int32) (x3 : Int32) : Option (Int32) := (if m_words ≤ x3 then some (x2) else gm_let (((1 : Int32) <<< (x3 &&& 31)) : Int32) (fun (v2 : Int32) => (if (x1 &&& v2) = 0 then gm_chk ((x1 ||| v2)) 1024 ((if ((m_lasts (Int32.toNatClampNeg ((x1 ||| v2)))) &&& v2) = 0 then gm_let ((x2 ||| v2) : Int32) (fun (v6 : Int32) => (fX2_traps_b44 N r4 m_words m_lasts x1 v6 x3)) else (fX2_traps_b44 N r4 m_words m_lasts x1 x2 x3))) else (fX2_traps_b44 N r4 m_words m_lasts x1 x2 x3))))
def fX2_traps_b4 (N : Nat)  (m_words : Int32) (m_lasts : Nat → Int32) (x1 : Int32) (x2 : Int32) (x3 : Int32) : Option (Int32) := gm_fix (fX2_traps_b4_body N  m_words m_lasts x1) (fun _ _ => none) N x2 x3
def fX2_traps (N : Nat) (m_words : Int32) (m_lasts : Nat → Int32) (x1 : Int32) : Option (Int32) := (fX2_traps_b4 N  m_words m_lasts x1 0 0)
set_option maxRecDepth 20000 in
theorem inX2_traps_X2 : ∀ w ∈ u_ws RX2 TX2 8, w ∈ wsX2_traps := fun w h => by
  obtain ⟨k, hk, rfl⟩ := List.mem_map.mp h
  have hk2 := List.mem_range.mp hk
  exact List.mem_of_getElem? (i := 3 + k) (by rcases (show k = 0 ∨ k = 1 ∨ k = 2 ∨ k = 3 ∨ k = 4 ∨ k = 5 ∨ k = 6 ∨ k = 7 by omega) with rfl | rfl | rfl | rfl | rfl | rfl | rfl | rfl <;> rfl)
set_option maxRecDepth 100000 in
set_option maxHeartbeats 4000000 in
theorem tX2_traps_b44 {p : Program} {l : Launch} {e : Env} {s : State} {m : MethodId} {args : Array Value} {below : List Frame} {meth : Method} {c : Code} {A : Nat → Prop} {dC : Nat → ClassId} {dI : Nat → Nat → Nat} {cI : ClassId} {q q_lasts q_chimesOfFirst q_chimesOfSecond : Nat} {m_words : Int32} {m_saidAtFirst : Int32} {m_asked : Int32} {m_longest : Int32} {m_shortest : Int32} {m_lasts : Nat → Int32} {x1 : Int32} {x2 : Int32} {x3 : Int32} (C0 : gm_C p s m args meth c (dC, dI) [(cI, .int)] A gm_T RX2 cX2_traps 5 (some .int) wsX2_traps) {N : Nat} {out : Int32} {r4 : Int32 → Int32 → Option (Int32)} (hr4 : ∀ (x2 : Int32) (x3 : Int32) (H : Heap) (locs : List Loc) (ls : Array Slot), r4 x2 x3 = some out → gm_H (dC, dI) A s (wX2_traps cI q q_lasts q_chimesOfFirst q_chimesOfSecond m_words m_saidAtFirst m_asked m_longest m_shortest m_lasts) H locs → lv_has ls 5 [(0, .ref q), (1, .int x1), (2, .int x2), (3, .int x3)] → W p l e rX2_traps s m args below meth c H locs 0 0 (MQ below (gm_Q (dC, dI) [(cI, .int)] A (some (.int out)) (wX2_traps cI q q_lasts q_chimesOfFirst q_chimesOfSecond m_words m_saidAtFirst m_asked m_longest m_shortest m_lasts)) args s 0 0 A) (F0 m 4 ls []))   {H : Heap} {locs : List Loc} {ls : Array Slot} (h : fX2_traps_b44 N r4 m_words m_lasts x1 x2 x3 = some out) (hH : gm_H (dC, dI) A s (wX2_traps cI q q_lasts q_chimesOfFirst q_chimesOfSecond m_words m_saidAtFirst m_asked m_longest m_shortest m_lasts) H locs) (hl : lv_has ls 5 [(0, .ref q), (1, .int x1), (2, .int x2), (3, .int x3)]) : W p l e rX2_traps s m args below meth c H locs 0 0 (MQ below (gm_Q (dC, dI) [(cI, .int)] A (some (.int out)) (wX2_traps cI q q_lasts q_chimesOfFirst q_chimesOfSecond m_words m_saidAtFirst m_asked m_longest m_shortest m_lasts)) args s 0 0 A) (F0 m 44 ls []) := by
  obtain ⟨hx, hb, hml, hr, hown, hts, hA, hK, hX, hlocks⟩ := id C0
  unfold fX2_traps_b44 at h
  refine lv_iinc (v := (x3 + 1)) (lv' := [(3, .int (x3 + 1)), (0, .ref q), (1, .int x1), (2, .int x2)]) hx hb dX2_traps_44 hl (k := 3) rfl rfl (by decide) rfl (fun ls hl => ?_)
  refine lv_goto (tgt := 4) hx hb dX2_traps_47 (by decide) ?_
  exact hr4 _ _ _ _ _ h hH (lv_sub hl [1, 2, 3, 0] rfl)
set_option maxRecDepth 100000 in
set_option maxHeartbeats 4000000 in
theorem tX2_traps_b4 {p : Program} {l : Launch} {e : Env} {s : State} {m : MethodId} {args : Array Value} {below : List Frame} {meth : Method} {c : Code} {A : Nat → Prop} {dC : Nat → ClassId} {dI : Nat → Nat → Nat} {cI : ClassId} {q q_lasts q_chimesOfFirst q_chimesOfSecond : Nat} {m_words : Int32} {m_saidAtFirst : Int32} {m_asked : Int32} {m_longest : Int32} {m_shortest : Int32} {m_lasts : Nat → Int32} {x1 : Int32} (C0 : gm_C p s m args meth c (dC, dI) [(cI, .int)] A gm_T RX2 cX2_traps 5 (some .int) wsX2_traps) {N : Nat} {out : Int32}   : ∀ (n : Nat), ∀ (x2 : Int32) (x3 : Int32) (H : Heap) (locs : List Loc) (ls : Array Slot), (gm_fix (fX2_traps_b4_body N  m_words m_lasts x1) (fun _ _ => none) n) x2 x3 = some out → gm_H (dC, dI) A s (wX2_traps cI q q_lasts q_chimesOfFirst q_chimesOfSecond m_words m_saidAtFirst m_asked m_longest m_shortest m_lasts) H locs → lv_has ls 5 [(0, .ref q), (1, .int x1), (2, .int x2), (3, .int x3)] → W p l e rX2_traps s m args below meth c H locs 0 0 (MQ below (gm_Q (dC, dI) [(cI, .int)] A (some (.int out)) (wX2_traps cI q q_lasts q_chimesOfFirst q_chimesOfSecond m_words m_saidAtFirst m_asked m_longest m_shortest m_lasts)) args s 0 0 A) (F0 m 4 ls []) := by
  obtain ⟨hx, hb, hml, hr, hown, hts, hA, hK, hX, hlocks⟩ := id C0
  intro n
  induction n with
  | zero =>
    intro x2 x3 H locs ls h hH hl
    cases h
  | succ n hr4 =>
    intro x2 x3 H locs ls h hH hl
    rw [gm_fix_s] at h
    unfold fX2_traps_b4_body at h
    refine lv_iload_n hx hb dX2_traps_4 rfl (lv_at hl 3 rfl) ?_
    refine lv_aload_n hx hb dX2_traps_5 rfl (lv_at hl 0 rfl) ?_
    refine gm_get (ci := 2) C0 hH inX2_traps_X2 0 3 1 rfl rfl (by decide) rfl rfl dX2_traps_6 ?_
    refine lv_icmp_ge (tgt := 50) hx hb dX2_traps_9 (by decide) (fun hc1 => ?_) (fun hc1 => ?_)
    · replace h := gm_pos hc1 h
      refine lv_iload_n hx hb dX2_traps_50 rfl (lv_at hl 2 rfl) ?_
      obtain rfl := Option.some.inj h
      exact gm_iret C0 hH dX2_traps_51
    · replace h := gm_neg hc1 h
      refine lv_iconst (v := 1) hx hb dX2_traps_12 (by decide) ?_
      refine lv_iload_n hx hb dX2_traps_13 rfl (lv_at hl 3 rfl) ?_
      refine lv_ishl hx hb dX2_traps_14 ?_
      refine lv_topi (fun v2 ev2 => ?_)
      replace h := gm_let_e ev2 h
      refine lv_istore (lv' := [(4, .int v2), (0, .ref q), (1, .int x1), (2, .int x2), (3, .int x3)]) hx hb dX2_traps_15 hl (by decide) rfl (fun ls hl => ?_)
      refine lv_iload_n hx hb dX2_traps_17 rfl (lv_at hl 2 rfl) ?_
      refine lv_iload hx hb dX2_traps_18 (lv_at hl 0 rfl) ?_
      refine lv_iand hx hb dX2_traps_20 ?_
      refine lv_if_ne (tgt := 44) hx hb dX2_traps_21 (by decide) (fun hc3 => ?_) (fun hc3 => ?_)
      · replace h := gm_neg hc3 h
        exact tX2_traps_b44 C0 hr4 h hH (lv_sub hl [1, 2, 3, 4] rfl)
      · replace h := gm_pos hc3 h
        refine lv_aload_n hx hb dX2_traps_24 rfl (lv_at hl 1 rfl) ?_
        refine gm_get (ci := 2) C0 hH inX2_traps_X2 0 2 2 rfl rfl (by decide) rfl rfl dX2_traps_25 ?_
        refine lv_iload_n hx hb dX2_traps_28 rfl (lv_at hl 2 rfl) ?_
        refine lv_iload hx hb dX2_traps_29 (lv_at hl 0 rfl) ?_
        refine lv_ior hx hb dX2_traps_31 ?_
        obtain ⟨hi4, h⟩ := gm_chk_e h
        refine gm_iald C0 hH hi4 1 0 rfl rfl dX2_traps_32 ?_
        refine lv_iload hx hb dX2_traps_33 (lv_at hl 0 rfl) ?_
        refine lv_iand hx hb dX2_traps_35 ?_
        refine lv_if_ne (tgt := 44) hx hb dX2_traps_36 (by decide) (fun hc5 => ?_) (fun hc5 => ?_)
        · replace h := gm_neg hc5 h
          exact tX2_traps_b44 C0 hr4 h hH (lv_sub hl [1, 2, 3, 4] rfl)
        · replace h := gm_pos hc5 h
          refine lv_iload_n hx hb dX2_traps_39 rfl (lv_at hl 3 rfl) ?_
          refine lv_iload hx hb dX2_traps_40 (lv_at hl 0 rfl) ?_
          refine lv_ior hx hb dX2_traps_42 ?_
          refine lv_topi (fun v6 ev6 => ?_)
          replace h := gm_let_e ev6 h
          refine lv_istore_n (lv' := [(2, .int v6), (4, .int v2), (0, .ref q), (1, .int x1), (3, .int x3)]) hx hb dX2_traps_43 rfl hl (by decide) rfl (fun ls hl => ?_)
          exact tX2_traps_b44 C0 hr4 h hH (lv_sub hl [2, 3, 0, 4] rfl)
set_option maxRecDepth 100000 in
set_option maxHeartbeats 4000000 in
theorem mX2_traps (l : Launch) (dC : Nat → ClassId) (dI : Nat → Nat → Nat) (cI : ClassId) (q q_lasts q_chimesOfFirst q_chimesOfSecond : Nat) (m_words : Int32) (m_saidAtFirst : Int32) (m_asked : Int32) (m_longest : Int32) (m_shortest : Int32) (m_lasts : Nat → Int32) (x1 : Int32)  {N : Nat} {out : Int32} (h : fX2_traps N m_words m_lasts x1 = some out) : gm_Met l yX2_traps wsX2_traps rX2_traps (dC, dI) [(cI, .int)] gm_T [.ref q, .int x1] (wX2_traps cI q q_lasts q_chimesOfFirst q_chimesOfSecond m_words m_saidAtFirst m_asked m_longest m_shortest m_lasts) (some (.int out)) (wX2_traps cI q q_lasts q_chimesOfFirst q_chimesOfSecond m_words m_saidAtFirst m_asked m_longest m_shortest m_lasts) := by
  refine gm_ofW (cc := cX2_traps) (maxL := 5) (ret := (some .int)) (by decide +kernel) rfl (Nat.le_of_ble_eq_true rfl) ?_
  intro p e s m below meth c A C0 hH ls hl
  generalize ([.ref q, .int x1] : List Value).toArray = args at C0 ⊢
  have hl : lv_has ls 5 [(0, .ref q), (1, .int x1)] := hl
  generalize s.heap = H at hH ⊢
  generalize ([] : List Loc) = locs at hH ⊢
  obtain ⟨hx, hb, hml, hr, hown, hts, hA, hK, hX, hlocks⟩ := id C0
  unfold fX2_traps at h
  refine lv_iconst (v := 0) hx hb dX2_traps_0 (by decide) ?_
  refine lv_istore_n (lv' := [(2, .int 0), (0, .ref q), (1, .int x1)]) hx hb dX2_traps_1 rfl hl (by decide) rfl (fun ls hl => ?_)
  refine lv_iconst (v := 0) hx hb dX2_traps_2 (by decide) ?_
  refine lv_istore_n (lv' := [(3, .int 0), (2, .int 0), (0, .ref q), (1, .int x1)]) hx hb dX2_traps_3 rfl hl (by decide) rfl (fun ls hl => ?_)
  unfold fX2_traps_b4 at h
  exact tX2_traps_b4 C0  _ _ _ _ _ _ h hH (lv_sub hl [2, 3, 1, 0] rfl)
