/-! X6_takesItem -/
abbrev wX6_takesItem (cI : ClassId) (q q_bytes q_a1 q_a1_ending q_a1_meaning q_a1_cost q_a1_alikeTo q_a1_kind q_a1_want q_a1_saidAhead q_a1_heardWord q_a1_heardAnswer : Nat) (m_length : Int32) (m_items : Int32) (m_place : Int32) (m_start : Int32) (m_token : Int32) (m_number : Int32) (m_bytes : Nat → Int32) (m_a1_words : Int32) (m_a1_people : Int32) (m_a1_said : Int32) (m_a1_undos : Int32) (m_a1_heard : Int32) (m_a1_ending : Nat → Int32) (m_a1_meaning : Nat → Int32) (m_a1_cost : Nat → Int32) (m_a1_alikeTo : Nat → Int32) (m_a1_kind : Nat → Int32) (m_a1_want : Nat → Int32) : va_W := [(q, .inr (6, [.ref q_bytes, .int m_length, .int m_items, .int m_place, .int m_start, .int m_token, .int m_number])), (q_bytes, .inl (cI, 150, .inl m_bytes)), (q_a1, .inr (9, [.ref q_a1_ending, .ref q_a1_meaning, .ref q_a1_cost, .int m_a1_words, .ref q_a1_alikeTo, .ref q_a1_kind, .ref q_a1_want, .int m_a1_people, .int m_a1_said, .ref q_a1_saidAhead, .int m_a1_undos, .ref q_a1_heardWord, .ref q_a1_heardAnswer, .int m_a1_heard])), (q_a1_ending, .inl (cI, 10, .inl m_a1_ending)), (q_a1_meaning, .inl (cI, 10, .inl m_a1_meaning)), (q_a1_cost, .inl (cI, 10, .inl m_a1_cost)), (q_a1_alikeTo, .inl (cI, 8, .inl m_a1_alikeTo)), (q_a1_kind, .inl (cI, 5, .inl m_a1_kind)), (q_a1_want, .inl (cI, 5, .inl m_a1_want))]
abbrev rX6_takesItem : Room := { frames := 5, cells := 0, slots := 0, locals := 107 }
def fX6_takesItem (N : Nat) (m_length : Int32) (m_place : Int32) (m_start : Int32) (m_token : Int32) (m_number : Int32) (m_bytes : Nat → Int32) (m_a1_words : Int32) (m_a1_people : Int32) (m_a1_undos : Int32) (m_a1_ending : Nat → Int32) (m_a1_meaning : Nat → Int32) (m_a1_cost : Nat → Int32) (m_a1_alikeTo : Nat → Int32) (m_a1_kind : Nat → Int32) (m_a1_want : Nat → Int32)  : Option (Int32 × Int32 × Int32 × Int32 × Int32 × Int32 × Int32 × Int32 × (Nat → Int32) × (Nat → Int32) × (Nat → Int32) × (Nat → Int32) × (Nat → Int32) × (Nat → Int32)) := gm_bind (fX6_isLetters N m_place m_start m_token m_bytes 1) (fun o1 => (if o1 = 0 then gm_bind (fX6_isLetters N m_place m_start m_token m_bytes 2) (fun o3 => (if o3 = 0 then gm_bind (fX6_isLetters N m_place m_start m_token m_bytes 3) (fun o5 => (if o5 = 0 then some (0, m_place, m_start, m_token, m_number, m_a1_words, m_a1_people, m_a1_undos, m_a1_ending, m_a1_meaning, m_a1_cost, m_a1_alikeTo, m_a1_kind, m_a1_want) else (if 5 ≤ m_a1_people then some (0, m_place, m_start, m_token, m_number, m_a1_words, m_a1_people, m_a1_undos, m_a1_ending, m_a1_meaning, m_a1_cost, m_a1_alikeTo, m_a1_kind, m_a1_want) else gm_bind (fX6_takesPerson N m_length m_place m_start m_token m_number m_bytes m_a1_people m_a1_kind m_a1_want) (fun o8 => (if o8.1 = 0 then some (0, o8.2.1, o8.2.2.1, o8.2.2.2.1, o8.2.2.2.2.1, m_a1_words, o8.2.2.2.2.2.1, m_a1_undos, m_a1_ending, m_a1_meaning, m_a1_cost, m_a1_alikeTo, o8.2.2.2.2.2.2.1, o8.2.2.2.2.2.2.2) else some (1, o8.2.1, o8.2.2.1, o8.2.2.2.1, o8.2.2.2.2.1, m_a1_words, o8.2.2.2.2.2.1, m_a1_undos, m_a1_ending, m_a1_meaning, m_a1_cost, m_a1_alikeTo, o8.2.2.2.2.2.2.1, o8.2.2.2.2.2.2.2)))))) else gm_bind (fX6_takesAlike N m_length m_place m_start m_token m_number m_bytes m_a1_alikeTo) (fun o10 => gm_bl o10.1 (some (o10.1, o10.2.1, o10.2.2.1, o10.2.2.2.1, o10.2.2.2.2.1, m_a1_words, m_a1_people, m_a1_undos, m_a1_ending, m_a1_meaning, m_a1_cost, o10.2.2.2.2.2, m_a1_kind, m_a1_want))))) else (if 10 ≤ m_a1_words then some (0, m_place, m_start, m_token, m_number, m_a1_words, m_a1_people, m_a1_undos, m_a1_ending, m_a1_meaning, m_a1_cost, m_a1_alikeTo, m_a1_kind, m_a1_want) else gm_bind (fX6_takesWord N m_length m_place m_start m_token m_number m_bytes m_a1_words m_a1_undos m_a1_ending m_a1_meaning m_a1_cost) (fun o13 => (if o13.1 = 0 then some (0, o13.2.1, o13.2.2.1, o13.2.2.2.1, o13.2.2.2.2.1, o13.2.2.2.2.2.1, m_a1_people, o13.2.2.2.2.2.2.1, o13.2.2.2.2.2.2.2.1, o13.2.2.2.2.2.2.2.2.1, o13.2.2.2.2.2.2.2.2.2, m_a1_alikeTo, m_a1_kind, m_a1_want) else some (1, o13.2.1, o13.2.2.1, o13.2.2.2.1, o13.2.2.2.2.1, o13.2.2.2.2.2.1, m_a1_people, o13.2.2.2.2.2.2.1, o13.2.2.2.2.2.2.2.1, o13.2.2.2.2.2.2.2.2.1, o13.2.2.2.2.2.2.2.2.2, m_a1_alikeTo, m_a1_kind, m_a1_want))))))
set_option maxRecDepth 20000 in
theorem inX6_takesItem_X6 : ∀ w ∈ u_ws RX6 TX6 7, w ∈ wsX6_takesItem := fun w h => by
  obtain ⟨k, hk, rfl⟩ := List.mem_map.mp h
  have hk2 := List.mem_range.mp hk
  exact List.mem_of_getElem? (i := 130 + k) (by rcases (show k = 0 ∨ k = 1 ∨ k = 2 ∨ k = 3 ∨ k = 4 ∨ k = 5 ∨ k = 6 by omega) with rfl | rfl | rfl | rfl | rfl | rfl | rfl <;> rfl)
set_option maxRecDepth 20000 in
theorem inX6_takesItem_X9 : ∀ w ∈ u_ws RX9 TX9 14, w ∈ wsX6_takesItem := fun w h => by
  obtain ⟨k, hk, rfl⟩ := List.mem_map.mp h
  have hk2 := List.mem_range.mp hk
  exact List.mem_of_getElem? (i := 116 + k) (by rcases (show k = 0 ∨ k = 1 ∨ k = 2 ∨ k = 3 ∨ k = 4 ∨ k = 5 ∨ k = 6 ∨ k = 7 ∨ k = 8 ∨ k = 9 ∨ k = 10 ∨ k = 11 ∨ k = 12 ∨ k = 13 by omega) with rfl | rfl | rfl | rfl | rfl | rfl | rfl | rfl | rfl | rfl | rfl | rfl | rfl | rfl <;> rfl)
set_option maxRecDepth 100000 in
set_option maxHeartbeats 4000000 in
theorem mX6_takesItem (l : Launch) (dC : Nat → ClassId) (dI : Nat → Nat → Nat) (cI : ClassId) (q q_bytes q_a1 q_a1_ending q_a1_meaning q_a1_cost q_a1_alikeTo q_a1_kind q_a1_want q_a1_saidAhead q_a1_heardWord q_a1_heardAnswer : Nat) (m_length : Int32) (m_items : Int32) (m_place : Int32) (m_start : Int32) (m_token : Int32) (m_number : Int32) (m_bytes : Nat → Int32) (m_a1_words : Int32) (m_a1_people : Int32) (m_a1_said : Int32) (m_a1_undos : Int32) (m_a1_heard : Int32) (m_a1_ending : Nat → Int32) (m_a1_meaning : Nat → Int32) (m_a1_cost : Nat → Int32) (m_a1_alikeTo : Nat → Int32) (m_a1_kind : Nat → Int32) (m_a1_want : Nat → Int32)  (adK adV : Nat → Nat)  {N : Nat} {out : Int32 × Int32 × Int32 × Int32 × Int32 × Int32 × Int32 × Int32 × (Nat → Int32) × (Nat → Int32) × (Nat → Int32) × (Nat → Int32) × (Nat → Int32) × (Nat → Int32)} (h : fX6_takesItem N m_length m_place m_start m_token m_number m_bytes m_a1_words m_a1_people m_a1_undos m_a1_ending m_a1_meaning m_a1_cost m_a1_alikeTo m_a1_kind m_a1_want = some out) : gm_Met l yX6_takesItem wsX6_takesItem rX6_takesItem (dC, dI) [(cI, .int)] (gm_XR adK adV) [.ref q, .ref q_a1] (wX6_takesItem cI q q_bytes q_a1 q_a1_ending q_a1_meaning q_a1_cost q_a1_alikeTo q_a1_kind q_a1_want q_a1_saidAhead q_a1_heardWord q_a1_heardAnswer m_length m_items m_place m_start m_token m_number m_bytes m_a1_words m_a1_people m_a1_said m_a1_undos m_a1_heard m_a1_ending m_a1_meaning m_a1_cost m_a1_alikeTo m_a1_kind m_a1_want) (some (.int out.1)) (wX6_takesItem cI q q_bytes q_a1 q_a1_ending q_a1_meaning q_a1_cost q_a1_alikeTo q_a1_kind q_a1_want q_a1_saidAhead q_a1_heardWord q_a1_heardAnswer m_length m_items out.2.1 out.2.2.1 out.2.2.2.1 out.2.2.2.2.1 m_bytes out.2.2.2.2.2.1 out.2.2.2.2.2.2.1 m_a1_said out.2.2.2.2.2.2.2.1 m_a1_heard out.2.2.2.2.2.2.2.2.1 out.2.2.2.2.2.2.2.2.2.1 out.2.2.2.2.2.2.2.2.2.2.1 out.2.2.2.2.2.2.2.2.2.2.2.1 out.2.2.2.2.2.2.2.2.2.2.2.2.1 out.2.2.2.2.2.2.2.2.2.2.2.2.2) := by
  refine gm_ofW (cc := cX6_takesItem) (maxL := 2) (ret := (some .boolean)) (by decide +kernel) rfl (Nat.le_of_ble_eq_true rfl) ?_
  intro p e s m below meth c A C0 hH ls hl
  generalize ([.ref q, .ref q_a1] : List Value).toArray = args at C0 ⊢
  have hl : lv_has ls 2 [(0, .ref q), (1, .ref q_a1)] := hl
  generalize s.heap = H at hH ⊢
  generalize ([] : List Loc) = locs at hH ⊢
  obtain ⟨hx, hb, hml, hr, hown, hts, hA, hK, hX, hlocks⟩ := id C0
  unfold fX6_takesItem at h
  refine lv_aload_n hx hb dX6_takesItem_0 rfl (lv_at hl 0 rfl) ?_
  refine va_ldcS hx hb hown hX.2.1.2.1 dX6_takesItem_1 ?_
  obtain ⟨o1, ho1, h⟩ := gm_bind_e h
  refine gm_callV (As := [.ref (adK 1)]) (rest := []) (n := 1) (ci := 6) (q0 := 0) C0 hH (mX6_isLetters l dC dI cI q q_bytes m_length m_items m_place m_start m_token m_number m_bytes 1 adK adV (by decide) ho1) gX6_takesItem_X6_isLetters rfl (by decide +kernel) ⟨rfl, rfl, Nat.le_of_ble_eq_true rfl, Nat.le_of_ble_eq_true rfl⟩ (gm_XR_ok adK adV) (fun h => h) [0, 1] rfl rfl rfl [0] rfl rfl rfl rfl hl.1 rfl (Nat.le_of_ble_eq_true rfl) dX6_takesItem_3 ⟨Nat.zero_le _, Nat.zero_le _⟩ (fun H locs hH => ?_)
  have hH : gm_H (dC, dI) A s (wX6_takesItem cI q q_bytes q_a1 q_a1_ending q_a1_meaning q_a1_cost q_a1_alikeTo q_a1_kind q_a1_want q_a1_saidAhead q_a1_heardWord q_a1_heardAnswer m_length m_items m_place m_start m_token m_number m_bytes m_a1_words m_a1_people m_a1_said m_a1_undos m_a1_heard m_a1_ending m_a1_meaning m_a1_cost m_a1_alikeTo m_a1_kind m_a1_want) H locs := hH
  refine lv_if_eq (tgt := 32) hx hb dX6_takesItem_6 (by decide) (fun hc2 => ?_) (fun hc2 => ?_)
  · replace h := gm_pos hc2 h
    refine lv_aload_n hx hb dX6_takesItem_32 rfl (lv_at hl 0 rfl) ?_
    refine va_ldcS hx hb hown hX.2.1.2.2.1 dX6_takesItem_33 ?_
    obtain ⟨o3, ho3, h⟩ := gm_bind_e h
    refine gm_callV (As := [.ref (adK 2)]) (rest := []) (n := 1) (ci := 6) (q0 := 0) C0 hH (mX6_isLetters l dC dI cI q q_bytes m_length m_items m_place m_start m_token m_number m_bytes 2 adK adV (by decide) ho3) gX6_takesItem_X6_isLetters rfl (by decide +kernel) ⟨rfl, rfl, Nat.le_of_ble_eq_true rfl, Nat.le_of_ble_eq_true rfl⟩ (gm_XR_ok adK adV) (fun h => h) [0, 1] rfl rfl rfl [0] rfl rfl rfl rfl hl.1 rfl (Nat.le_of_ble_eq_true rfl) dX6_takesItem_35 ⟨Nat.zero_le _, Nat.zero_le _⟩ (fun H locs hH => ?_)
    have hH : gm_H (dC, dI) A s (wX6_takesItem cI q q_bytes q_a1 q_a1_ending q_a1_meaning q_a1_cost q_a1_alikeTo q_a1_kind q_a1_want q_a1_saidAhead q_a1_heardWord q_a1_heardAnswer m_length m_items m_place m_start m_token m_number m_bytes m_a1_words m_a1_people m_a1_said m_a1_undos m_a1_heard m_a1_ending m_a1_meaning m_a1_cost m_a1_alikeTo m_a1_kind m_a1_want) H locs := hH
    refine lv_if_eq (tgt := 47) hx hb dX6_takesItem_38 (by decide) (fun hc4 => ?_) (fun hc4 => ?_)
    · replace h := gm_pos hc4 h
      refine lv_aload_n hx hb dX6_takesItem_47 rfl (lv_at hl 0 rfl) ?_
      refine va_ldcS hx hb hown hX.2.1.2.2.2 dX6_takesItem_48 ?_
      obtain ⟨o5, ho5, h⟩ := gm_bind_e h
      refine gm_callV (As := [.ref (adK 3)]) (rest := []) (n := 1) (ci := 6) (q0 := 0) C0 hH (mX6_isLetters l dC dI cI q q_bytes m_length m_items m_place m_start m_token m_number m_bytes 3 adK adV (by decide) ho5) gX6_takesItem_X6_isLetters rfl (by decide +kernel) ⟨rfl, rfl, Nat.le_of_ble_eq_true rfl, Nat.le_of_ble_eq_true rfl⟩ (gm_XR_ok adK adV) (fun h => h) [0, 1] rfl rfl rfl [0] rfl rfl rfl rfl hl.1 rfl (Nat.le_of_ble_eq_true rfl) dX6_takesItem_50 ⟨Nat.zero_le _, Nat.zero_le _⟩ (fun H locs hH => ?_)
      have hH : gm_H (dC, dI) A s (wX6_takesItem cI q q_bytes q_a1 q_a1_ending q_a1_meaning q_a1_cost q_a1_alikeTo q_a1_kind q_a1_want q_a1_saidAhead q_a1_heardWord q_a1_heardAnswer m_length m_items m_place m_start m_token m_number m_bytes m_a1_words m_a1_people m_a1_said m_a1_undos m_a1_heard m_a1_ending m_a1_meaning m_a1_cost m_a1_alikeTo m_a1_kind m_a1_want) H locs := hH
      refine lv_if_eq (tgt := 78) hx hb dX6_takesItem_53 (by decide) (fun hc6 => ?_) (fun hc6 => ?_)
      · replace h := gm_pos hc6 h
        refine lv_iconst (v := 0) hx hb dX6_takesItem_78 (by decide) ?_
        obtain rfl := Option.some.inj h
        exact gm_zret C0 hH (show narrow .boolean (.int 0) = .int 0 by decide) dX6_takesItem_79
      · replace h := gm_neg hc6 h
        refine lv_aload_n hx hb dX6_takesItem_56 rfl (lv_at hl 1 rfl) ?_
        refine gm_get (ci := 9) C0 hH inX6_takesItem_X9 2 7 2 rfl rfl (by decide) rfl rfl dX6_takesItem_57 ?_
        refine lv_iconst (v := 5) hx hb dX6_takesItem_60 (by decide) ?_
        refine lv_icmp_ge (tgt := 76) hx hb dX6_takesItem_61 (by decide) (fun hc7 => ?_) (fun hc7 => ?_)
        · replace h := gm_pos hc7 h
          refine lv_iconst (v := 0) hx hb dX6_takesItem_76 (by decide) ?_
          obtain rfl := Option.some.inj h
          exact gm_zret C0 hH (show narrow .boolean (.int 0) = .int 0 by decide) dX6_takesItem_77
        · replace h := gm_neg hc7 h
          refine lv_aload_n hx hb dX6_takesItem_64 rfl (lv_at hl 0 rfl) ?_
          refine lv_aload_n hx hb dX6_takesItem_65 rfl (lv_at hl 1 rfl) ?_
          obtain ⟨o8, ho8, h⟩ := gm_bind_e h
          refine gm_callV (As := [.ref q_a1]) (rest := []) (n := 1) (ci := 6) (q0 := 0) C0 hH (mX6_takesPerson l dC dI cI q q_bytes q_a1 q_a1_kind q_a1_want q_a1_ending q_a1_meaning q_a1_cost q_a1_alikeTo q_a1_saidAhead q_a1_heardWord q_a1_heardAnswer m_length m_items m_place m_start m_token m_number m_bytes m_a1_words m_a1_people m_a1_said m_a1_undos m_a1_heard m_a1_kind m_a1_want    ho8) gX6_takesItem_X6_takesPerson rfl (by decide +kernel) ⟨rfl, rfl, Nat.le_of_ble_eq_true rfl, Nat.le_of_ble_eq_true rfl⟩ gm_T_ok (fun _ => trivial) [0, 1, 2, 7, 8] rfl rfl rfl [0] rfl rfl rfl rfl hl.1 rfl (Nat.le_of_ble_eq_true rfl) dX6_takesItem_66 ⟨Nat.zero_le _, Nat.zero_le _⟩ (fun H locs hH => ?_)
          simp only [wX6_takesItem, wX6_takesPerson, gm_sets, List.set_cons_succ, List.set_cons_zero] at hH
          have hH : gm_H (dC, dI) A s (wX6_takesItem cI q q_bytes q_a1 q_a1_ending q_a1_meaning q_a1_cost q_a1_alikeTo q_a1_kind q_a1_want q_a1_saidAhead q_a1_heardWord q_a1_heardAnswer m_length m_items o8.2.1 o8.2.2.1 o8.2.2.2.1 o8.2.2.2.2.1 m_bytes m_a1_words o8.2.2.2.2.2.1 m_a1_said m_a1_undos m_a1_heard m_a1_ending m_a1_meaning m_a1_cost m_a1_alikeTo o8.2.2.2.2.2.2.1 o8.2.2.2.2.2.2.2) H locs := hH
          refine lv_if_eq (tgt := 76) hx hb dX6_takesItem_69 (by decide) (fun hc9 => ?_) (fun hc9 => ?_)
          · replace h := gm_pos hc9 h
            refine lv_iconst (v := 0) hx hb dX6_takesItem_76 (by decide) ?_
            obtain rfl := Option.some.inj h
            exact gm_zret C0 hH (show narrow .boolean (.int 0) = .int 0 by decide) dX6_takesItem_77
          · replace h := gm_neg hc9 h
            refine lv_iconst (v := 1) hx hb dX6_takesItem_72 (by decide) ?_
            refine lv_goto (tgt := 77) hx hb dX6_takesItem_73 (by decide) ?_
            obtain rfl := Option.some.inj h
            exact gm_zret C0 hH (show narrow .boolean (.int 1) = .int 1 by decide) dX6_takesItem_77
    · replace h := gm_neg hc4 h
      refine lv_aload_n hx hb dX6_takesItem_41 rfl (lv_at hl 0 rfl) ?_
      refine lv_aload_n hx hb dX6_takesItem_42 rfl (lv_at hl 1 rfl) ?_
      obtain ⟨o10, ho10, h⟩ := gm_bind_e h
      refine gm_callV (As := [.ref q_a1]) (rest := []) (n := 1) (ci := 6) (q0 := 0) C0 hH (mX6_takesAlike l dC dI cI q q_bytes q_a1 q_a1_alikeTo q_a1_ending q_a1_meaning q_a1_cost q_a1_kind q_a1_want q_a1_saidAhead q_a1_heardWord q_a1_heardAnswer m_length m_items m_place m_start m_token m_number m_bytes m_a1_words m_a1_people m_a1_said m_a1_undos m_a1_heard m_a1_alikeTo    ho10) gX6_takesItem_X6_takesAlike rfl (by decide +kernel) ⟨rfl, rfl, Nat.le_of_ble_eq_true rfl, Nat.le_of_ble_eq_true rfl⟩ gm_T_ok (fun _ => trivial) [0, 1, 2, 6] rfl rfl rfl [0] rfl rfl rfl rfl hl.1 rfl (Nat.le_of_ble_eq_true rfl) dX6_takesItem_43 ⟨Nat.zero_le _, Nat.zero_le _⟩ (fun H locs hH => ?_)
      simp only [wX6_takesItem, wX6_takesAlike, gm_sets, List.set_cons_succ, List.set_cons_zero] at hH
      have hH : gm_H (dC, dI) A s (wX6_takesItem cI q q_bytes q_a1 q_a1_ending q_a1_meaning q_a1_cost q_a1_alikeTo q_a1_kind q_a1_want q_a1_saidAhead q_a1_heardWord q_a1_heardAnswer m_length m_items o10.2.1 o10.2.2.1 o10.2.2.2.1 o10.2.2.2.2.1 m_bytes m_a1_words m_a1_people m_a1_said m_a1_undos m_a1_heard m_a1_ending m_a1_meaning m_a1_cost o10.2.2.2.2.2 m_a1_kind m_a1_want) H locs := hH
      obtain ⟨hn11, h⟩ := gm_bl_e h
      obtain rfl := Option.some.inj h
      exact gm_zret C0 hH hn11 dX6_takesItem_46
  · replace h := gm_neg hc2 h
    refine lv_aload_n hx hb dX6_takesItem_9 rfl (lv_at hl 1 rfl) ?_
    refine gm_get (ci := 9) C0 hH inX6_takesItem_X9 2 3 1 rfl rfl (by decide) rfl rfl dX6_takesItem_10 ?_
    refine lv_bipush (v := 10) hx hb dX6_takesItem_13 (by decide) ?_
    refine lv_icmp_ge (tgt := 30) hx hb dX6_takesItem_15 (by decide) (fun hc12 => ?_) (fun hc12 => ?_)
    · replace h := gm_pos hc12 h
      refine lv_iconst (v := 0) hx hb dX6_takesItem_30 (by decide) ?_
      obtain rfl := Option.some.inj h
      exact gm_zret C0 hH (show narrow .boolean (.int 0) = .int 0 by decide) dX6_takesItem_31
    · replace h := gm_neg hc12 h
      refine lv_aload_n hx hb dX6_takesItem_18 rfl (lv_at hl 0 rfl) ?_
      refine lv_aload_n hx hb dX6_takesItem_19 rfl (lv_at hl 1 rfl) ?_
      obtain ⟨o13, ho13, h⟩ := gm_bind_e h
      refine gm_callV (As := [.ref q_a1]) (rest := []) (n := 1) (ci := 6) (q0 := 0) C0 hH (mX6_takesWord l dC dI cI q q_bytes q_a1 q_a1_ending q_a1_meaning q_a1_cost q_a1_alikeTo q_a1_kind q_a1_want q_a1_saidAhead q_a1_heardWord q_a1_heardAnswer m_length m_items m_place m_start m_token m_number m_bytes m_a1_words m_a1_people m_a1_said m_a1_undos m_a1_heard m_a1_ending m_a1_meaning m_a1_cost    ho13) gX6_takesItem_X6_takesWord rfl (by decide +kernel) ⟨rfl, rfl, Nat.le_of_ble_eq_true rfl, Nat.le_of_ble_eq_true rfl⟩ gm_T_ok (fun _ => trivial) [0, 1, 2, 3, 4, 5] rfl rfl rfl [0] rfl rfl rfl rfl hl.1 rfl (Nat.le_of_ble_eq_true rfl) dX6_takesItem_20 ⟨Nat.zero_le _, Nat.zero_le _⟩ (fun H locs hH => ?_)
      simp only [wX6_takesItem, wX6_takesWord, gm_sets, List.set_cons_succ, List.set_cons_zero] at hH
      have hH : gm_H (dC, dI) A s (wX6_takesItem cI q q_bytes q_a1 q_a1_ending q_a1_meaning q_a1_cost q_a1_alikeTo q_a1_kind q_a1_want q_a1_saidAhead q_a1_heardWord q_a1_heardAnswer m_length m_items o13.2.1 o13.2.2.1 o13.2.2.2.1 o13.2.2.2.2.1 m_bytes o13.2.2.2.2.2.1 m_a1_people m_a1_said o13.2.2.2.2.2.2.1 m_a1_heard o13.2.2.2.2.2.2.2.1 o13.2.2.2.2.2.2.2.2.1 o13.2.2.2.2.2.2.2.2.2 m_a1_alikeTo m_a1_kind m_a1_want) H locs := hH
      refine lv_if_eq (tgt := 30) hx hb dX6_takesItem_23 (by decide) (fun hc14 => ?_) (fun hc14 => ?_)
      · replace h := gm_pos hc14 h
        refine lv_iconst (v := 0) hx hb dX6_takesItem_30 (by decide) ?_
        obtain rfl := Option.some.inj h
        exact gm_zret C0 hH (show narrow .boolean (.int 0) = .int 0 by decide) dX6_takesItem_31
      · replace h := gm_neg hc14 h
        refine lv_iconst (v := 1) hx hb dX6_takesItem_26 (by decide) ?_
        refine lv_goto (tgt := 31) hx hb dX6_takesItem_27 (by decide) ?_
        obtain rfl := Option.some.inj h
        exact gm_zret C0 hH (show narrow .boolean (.int 1) = .int 1 by decide) dX6_takesItem_31
