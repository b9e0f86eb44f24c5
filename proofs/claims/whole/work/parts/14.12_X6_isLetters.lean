/-! X6_isLetters -/
abbrev wX6_isLetters (cI : ClassId) (q q_bytes : Nat) (m_length : Int32) (m_items : Int32) (m_place : Int32) (m_start : Int32) (m_token : Int32) (m_number : Int32) (m_bytes : Nat → Int32) : va_W := [(q, .inr (6, [.ref q_bytes, .int m_length, .int m_items, .int m_place, .int m_start, .int m_token, .int m_number])), (q_bytes, .inl (cI, 150, .inl m_bytes))]
abbrev rX6_isLetters : Room := { frames := 4, cells := 0, slots := 0, locals := 85 }
def fX6_isLetters_b28_body (N : Nat)  (m_start : Int32) (m_bytes : Nat → Int32) (x1 : Nat) (r28 : Int32 → Option (Int32)) (x2 : Int32) : Option (Int32) := (if (gm_len x1) ≤ x2 then some (1) else gm_chk ((m_start + x2)) 150 (gm_chk x2 (gm_sl.getD x1 0) ((if (m_bytes (Int32.toNatClampNeg ((m_start + x2)))) = (gm_chr x1 (Int32.toNatClampNeg x2)) then (r28 ((x2 + 1))) else some (0)))))
def fX6_isLetters_b28 (N : Nat)  (m_start : Int32) (m_bytes : Nat → Int32) (x1 : Nat) (x2 : Int32) : Option (Int32) := gm_fix (fX6_isLetters_b28_body N  m_start m_bytes x1) (fun _ => none) N x2
def fX6_isLetters (N : Nat) (m_place : Int32) (m_start : Int32) (m_token : Int32) (m_bytes : Nat → Int32) (x1 : Nat) : Option (Int32) := (if m_token = 1 then (if (m_place - m_start) = (gm_len x1) then (fX6_isLetters_b28 N  m_start m_bytes x1 0) else some (0)) else some (0))
set_option maxRecDepth 20000 in
theorem inX6_isLetters_X6 : ∀ w ∈ u_ws RX6 TX6 7, w ∈ wsX6_isLetters := fun w h => by
  obtain ⟨k, hk, rfl⟩ := List.mem_map.mp h
  have hk2 := List.mem_range.mp hk
  exact List.mem_of_getElem? (i := 54 + k) (by rcases (show k = 0 ∨ k = 1 ∨ k = 2 ∨ k = 3 ∨ k = 4 ∨ k = 5 ∨ k = 6 by omega) with rfl | rfl | rfl | rfl | rfl | rfl | rfl <;> rfl)
set_option maxRecDepth 100000 in
set_option maxHeartbeats 4000000 in
theorem tX6_isLetters_b28 {p : Program} {l : Launch} {e : Env} {s : State} {m : MethodId} {args : Array Value} {below : List Frame} {meth : Method} {c : Code} {A : Nat → Prop} {dC : Nat → ClassId} {dI : Nat → Nat → Nat} {cI : ClassId} {q q_bytes : Nat} {adK adV : Nat → Nat} {m_length : Int32} {m_items : Int32} {m_place : Int32} {m_start : Int32} {m_token : Int32} {m_number : Int32} {m_bytes : Nat → Int32} {x1 : Nat} (C0 : gm_C p s m args meth c (dC, dI) [(cI, .int)] A (gm_XR adK adV) RX6 cX6_isLetters 3 (some .boolean) wsX6_isLetters) {N : Nat} {out : Int32}  (hs1 : x1 < 4) : ∀ (n : Nat), ∀ (x2 : Int32) (H : Heap) (locs : List Loc) (ls : Array Slot), (gm_fix (fX6_isLetters_b28_body N  m_start m_bytes x1) (fun _ => none) n) x2 = some out → gm_H (dC, dI) A s (wX6_isLetters cI q q_bytes m_length m_items m_place m_start m_token m_number m_bytes) H locs → lv_has ls 3 [(0, .ref q), (1, .ref (adK x1)), (2, .int x2)] → W p l e rX6_isLetters s m args below meth c H locs 0 0 (MQ below (gm_Q (dC, dI) [(cI, .int)] A (some (.int out)) (wX6_isLetters cI q q_bytes m_length m_items m_place m_start m_token m_number m_bytes)) args s 0 0 A) (F0 m 28 ls []) := by
  obtain ⟨hx, hb, hml, hr, hown, hts, hA, hK, hX, hlocks⟩ := id C0
  intro n
  induction n with
  | zero =>
    intro x2 H locs ls h hH hl
    cases h
  | succ n hr28 =>
    intro x2 H locs ls h hH hl
    rw [gm_fix_s] at h
    unfold fX6_isLetters_b28_body at h
    refine lv_iload_n hx hb dX6_isLetters_28 rfl (lv_at hl 2 rfl) ?_
    refine lv_aload_n hx hb dX6_isLetters_29 rfl (lv_at hl 1 rfl) ?_
    refine gm_callVr (As := []) (rest := [.int x2]) (n := 0) C0 hH (mJ0_length l dC dI adK adV x1 hs1) gX6_isLetters_J0_length_8abf5 rfl (by decide +kernel) ⟨rfl, rfl, Nat.le_of_ble_eq_true rfl, Nat.le_of_ble_eq_true rfl⟩ (gm_XR_ok adK adV) (fun h => h) [] rfl rfl rfl [] rfl (vk_recv hX.1 hs1 hH.2.2) rfl hl.1 rfl (Nat.le_of_ble_eq_true rfl) dX6_isLetters_30 ⟨Nat.zero_le _, Nat.zero_le _⟩ (fun H locs hH => ?_)
    have hH : gm_H (dC, dI) A s (wX6_isLetters cI q q_bytes m_length m_items m_place m_start m_token m_number m_bytes) H locs := hH
    refine lv_icmp_ge (tgt := 63) hx hb dX6_isLetters_33 (by decide) (fun hc5 => ?_) (fun hc5 => ?_)
    · replace h := gm_pos hc5 h
      refine lv_iconst (v := 1) hx hb dX6_isLetters_63 (by decide) ?_
      obtain rfl := Option.some.inj h
      exact gm_zret C0 hH (show narrow .boolean (.int 1) = .int 1 by decide) dX6_isLetters_64
    · replace h := gm_neg hc5 h
      refine lv_aload_n hx hb dX6_isLetters_36 rfl (lv_at hl 0 rfl) ?_
      refine gm_get (ci := 6) C0 hH inX6_isLetters_X6 0 0 4 rfl rfl (by decide) rfl rfl dX6_isLetters_37 ?_
      refine lv_aload_n hx hb dX6_isLetters_40 rfl (lv_at hl 0 rfl) ?_
      refine gm_get (ci := 6) C0 hH inX6_isLetters_X6 0 4 3 rfl rfl (by decide) rfl rfl dX6_isLetters_41 ?_
      refine lv_iload_n hx hb dX6_isLetters_44 rfl (lv_at hl 2 rfl) ?_
      refine lv_iadd hx hb dX6_isLetters_45 ?_
      obtain ⟨hi6, h⟩ := gm_chk_e h
      refine gm_iald C0 hH hi6 1 0 rfl rfl dX6_isLetters_46 ?_
      refine lv_aload_n hx hb dX6_isLetters_47 rfl (lv_at hl 1 rfl) ?_
      refine lv_iload_n hx hb dX6_isLetters_48 rfl (lv_at hl 2 rfl) ?_
      obtain ⟨hi7, h⟩ := gm_chk_e h
      refine gm_callVr (As := [.int x2]) (rest := [.int (m_bytes (Int32.toNatClampNeg ((m_start + x2))))]) (n := 1) C0 hH (mJ0_charAt l dC dI adK adV x1 hs1 x2 hi7) gX6_isLetters_J0_charAt_5068e rfl (by decide +kernel) ⟨rfl, rfl, Nat.le_of_ble_eq_true rfl, Nat.le_of_ble_eq_true rfl⟩ (gm_XR_ok adK adV) (fun h => h) [] rfl rfl rfl [] rfl (vk_recv hX.1 hs1 hH.2.2) rfl hl.1 rfl (Nat.le_of_ble_eq_true rfl) dX6_isLetters_49 ⟨Nat.zero_le _, Nat.zero_le _⟩ (fun H locs hH => ?_)
      have hH : gm_H (dC, dI) A s (wX6_isLetters cI q q_bytes m_length m_items m_place m_start m_token m_number m_bytes) H locs := hH
      refine lv_icmp_eq (tgt := 57) hx hb dX6_isLetters_52 (by decide) (fun hc8 => ?_) (fun hc8 => ?_)
      · replace h := gm_pos hc8 h
        refine lv_iinc (v := (x2 + 1)) (lv' := [(2, .int (x2 + 1)), (0, .ref q), (1, .ref (adK x1))]) hx hb dX6_isLetters_57 hl (k := 2) rfl rfl (by decide) rfl (fun ls hl => ?_)
        refine lv_goto (tgt := 28) hx hb dX6_isLetters_60 (by decide) ?_
        exact hr28 _ _ _ _ h hH (lv_sub hl [1, 2, 0] rfl)
      · replace h := gm_neg hc8 h
        refine lv_iconst (v := 0) hx hb dX6_isLetters_55 (by decide) ?_
        obtain rfl := Option.some.inj h
        exact gm_zret C0 hH (show narrow .boolean (.int 0) = .int 0 by decide) dX6_isLetters_56
set_option maxRecDepth 100000 in
set_option maxHeartbeats 4000000 in
theorem mX6_isLetters (l : Launch) (dC : Nat → ClassId) (dI : Nat → Nat → Nat) (cI : ClassId) (q q_bytes : Nat) (m_length : Int32) (m_items : Int32) (m_place : Int32) (m_start : Int32) (m_token : Int32) (m_number : Int32) (m_bytes : Nat → Int32) (x1 : Nat) (adK adV : Nat → Nat) (hs1 : x1 < 4) {N : Nat} {out : Int32} (h : fX6_isLetters N m_place m_start m_token m_bytes x1 = some out) : gm_Met l yX6_isLetters wsX6_isLetters rX6_isLetters (dC, dI) [(cI, .int)] (gm_XR adK adV) [.ref q, .ref (adK x1)] (wX6_isLetters cI q q_bytes m_length m_items m_place m_start m_token m_number m_bytes) (some (.int out)) (wX6_isLetters cI q q_bytes m_length m_items m_place m_start m_token m_number m_bytes) := by
  refine gm_ofW (cc := cX6_isLetters) (maxL := 3) (ret := (some .boolean)) (by decide +kernel) rfl (Nat.le_of_ble_eq_true rfl) ?_
  intro p e s m below meth c A C0 hH ls hl
  generalize ([.ref q, .ref (adK x1)] : List Value).toArray = args at C0 ⊢
  have hl : lv_has ls 3 [(0, .ref q), (1, .ref (adK x1))] := hl
  generalize s.heap = H at hH ⊢
  generalize ([] : List Loc) = locs at hH ⊢
  obtain ⟨hx, hb, hml, hr, hown, hts, hA, hK, hX, hlocks⟩ := id C0
  unfold fX6_isLetters at h
  refine lv_aload_n hx hb dX6_isLetters_0 rfl (lv_at hl 0 rfl) ?_
  refine gm_get (ci := 6) C0 hH inX6_isLetters_X6 0 5 1 rfl rfl (by decide) rfl rfl dX6_isLetters_1 ?_
  refine lv_iconst (v := 1) hx hb dX6_isLetters_4 (by decide) ?_
  refine lv_icmp_ne (tgt := 24) hx hb dX6_isLetters_5 (by decide) (fun hc1 => ?_) (fun hc1 => ?_)
  · replace h := gm_neg hc1 h
    refine lv_iconst (v := 0) hx hb dX6_isLetters_24 (by decide) ?_
    obtain rfl := Option.some.inj h
    exact gm_zret C0 hH (show narrow .boolean (.int 0) = .int 0 by decide) dX6_isLetters_25
  · replace h := gm_pos hc1 h
    refine lv_aload_n hx hb dX6_isLetters_8 rfl (lv_at hl 0 rfl) ?_
    refine gm_get (ci := 6) C0 hH inX6_isLetters_X6 0 3 2 rfl rfl (by decide) rfl rfl dX6_isLetters_9 ?_
    refine lv_aload_n hx hb dX6_isLetters_12 rfl (lv_at hl 0 rfl) ?_
    refine gm_get (ci := 6) C0 hH inX6_isLetters_X6 0 4 3 rfl rfl (by decide) rfl rfl dX6_isLetters_13 ?_
    refine lv_isub hx hb dX6_isLetters_16 ?_
    refine lv_aload_n hx hb dX6_isLetters_17 rfl (lv_at hl 1 rfl) ?_
    refine gm_callVr (As := []) (rest := [.int (m_place - m_start)]) (n := 0) C0 hH (mJ0_length l dC dI adK adV x1 hs1) gX6_isLetters_J0_length_8abf5 rfl (by decide +kernel) ⟨rfl, rfl, Nat.le_of_ble_eq_true rfl, Nat.le_of_ble_eq_true rfl⟩ (gm_XR_ok adK adV) (fun h => h) [] rfl rfl rfl [] rfl (vk_recv hX.1 hs1 hH.2.2) rfl hl.1 rfl (Nat.le_of_ble_eq_true rfl) dX6_isLetters_18 ⟨Nat.zero_le _, Nat.zero_le _⟩ (fun H locs hH => ?_)
    have hH : gm_H (dC, dI) A s (wX6_isLetters cI q q_bytes m_length m_items m_place m_start m_token m_number m_bytes) H locs := hH
    refine lv_icmp_eq (tgt := 26) hx hb dX6_isLetters_21 (by decide) (fun hc3 => ?_) (fun hc3 => ?_)
    · replace h := gm_pos hc3 h
      refine lv_iconst (v := 0) hx hb dX6_isLetters_26 (by decide) ?_
      refine lv_istore_n (lv' := [(2, .int 0), (0, .ref q), (1, .ref (adK x1))]) hx hb dX6_isLetters_27 rfl hl (by decide) rfl (fun ls hl => ?_)
      unfold fX6_isLetters_b28 at h
      exact tX6_isLetters_b28 C0 hs1 _ _ _ _ _ h hH (lv_sub hl [1, 2, 0] rfl)
    · replace h := gm_neg hc3 h
      refine lv_iconst (v := 0) hx hb dX6_isLetters_24 (by decide) ?_
      obtain rfl := Option.some.inj h
      exact gm_zret C0 hH (show narrow .boolean (.int 0) = .int 0 by decide) dX6_isLetters_25
