/-! X11_hear -/
abbrev wX11_hear (cI : ClassId) (q q_refused q_tongue q_fresh q_kept q_isKept q_text q_said q_talk : Nat) (m_thrown : Int32) (m_size : Int32) (m_at : Int32) (m_start : Int32) (m_token : Int32) (m_value : Int64) (m_faultAt : Int32) (m_allowed : Int32) (m_firstPair : Int32) (m_secondPair : Int32) (m_above : Int64) (m_below : Int64) (m_refused : Nat → Int32) (m_tongue : Nat → Int32) : va_W := [(q, .inr (11, [.int m_thrown, .ref q_refused, .ref q_tongue, .ref q_fresh, .ref q_kept, .ref q_isKept, .ref q_text, .int m_size, .int m_at, .int m_start, .int m_token, .long m_value, .int m_faultAt, .ref q_said, .ref q_talk, .int m_allowed, .int m_firstPair, .int m_secondPair, .long m_above, .long m_below])), (q_refused, .inl (cI, 3, .inl m_refused)), (q_tongue, .inl (cI, 73, .inl m_tongue))]
abbrev rX11_hear : Room := { frames := 2, cells := 0, slots := 0, locals := 46 }
def fX11_hear_b26 (N : Nat)  (m_thrown : Int32) (m_refused : Nat → Int32) (m_tongue : Nat → Int32) : Option (Int32 × Int32 × (Nat → Int32) × (Nat → Int32)) := gm_bind (fX11_bad N m_refused) (fun o3 => some (o3.1, m_thrown, o3.2, m_tongue))
def fX11_hear_b31 (N : Nat)  (m_thrown : Int32) (m_refused : Nat → Int32) (m_tongue : Nat → Int32) (x1 : Int32) (x2 : Int32) : Option (Int32 × Int32 × (Nat → Int32) × (Nat → Int32)) := gm_chk 3 73 ((if (m_tongue (Int32.toNatClampNeg 3)) = 6 then gm_bind (fX11_full N m_refused) (fun o14 => some (o14.1, m_thrown, o14.2, m_tongue)) else gm_chk 3 73 (gm_chk ((53 + (2 * (m_tongue (Int32.toNatClampNeg 3))))) 73 (gm_chk 3 73 (gm_chk (((53 + (2 * ((upd m_tongue (Int32.toNatClampNeg ((53 + (2 * (m_tongue (Int32.toNatClampNeg 3)))))) x1) (Int32.toNatClampNeg 3)))) + 1)) 73 (gm_chk 3 73 (gm_chk 3 73 (gm_chk 3 73 (some (((upd (upd (upd m_tongue (Int32.toNatClampNeg ((53 + (2 * (m_tongue (Int32.toNatClampNeg 3)))))) x1) (Int32.toNatClampNeg (((53 + (2 * ((upd m_tongue (Int32.toNatClampNeg ((53 + (2 * (m_tongue (Int32.toNatClampNeg 3)))))) x1) (Int32.toNatClampNeg 3)))) + 1))) x2) (Int32.toNatClampNeg 3) ((((upd (upd m_tongue (Int32.toNatClampNeg ((53 + (2 * (m_tongue (Int32.toNatClampNeg 3)))))) x1) (Int32.toNatClampNeg (((53 + (2 * ((upd m_tongue (Int32.toNatClampNeg ((53 + (2 * (m_tongue (Int32.toNatClampNeg 3)))))) x1) (Int32.toNatClampNeg 3)))) + 1))) x2) (Int32.toNatClampNeg 3)) + 1))) (Int32.toNatClampNeg 3)), m_thrown, m_refused, upd (upd (upd m_tongue (Int32.toNatClampNeg ((53 + (2 * (m_tongue (Int32.toNatClampNeg 3)))))) x1) (Int32.toNatClampNeg (((53 + (2 * ((upd m_tongue (Int32.toNatClampNeg ((53 + (2 * (m_tongue (Int32.toNatClampNeg 3)))))) x1) (Int32.toNatClampNeg 3)))) + 1))) x2) (Int32.toNatClampNeg 3) ((((upd (upd m_tongue (Int32.toNatClampNeg ((53 + (2 * (m_tongue (Int32.toNatClampNeg 3)))))) x1) (Int32.toNatClampNeg (((53 + (2 * ((upd m_tongue (Int32.toNatClampNeg ((53 + (2 * (m_tongue (Int32.toNatClampNeg 3)))))) x1) (Int32.toNatClampNeg 3)))) + 1))) x2) (Int32.toNatClampNeg 3)) + 1))))))))))))
def fX11_hear (N : Nat) (m_thrown : Int32) (m_refused : Nat → Int32) (m_tongue : Nat → Int32) (x1 : Int32) (x2 : Int32) : Option (Int32 × Int32 × (Nat → Int32) × (Nat → Int32)) := gm_bind (fX11_noWord N m_tongue x1) (fun o1 => (if o1 = 0 then (if x2 = (-1) then (fX11_hear_b31 N  0 m_refused m_tongue x1 x2) else gm_bind (fX11_noWord N m_tongue x2) (fun o15 => (if o15 = 0 then (fX11_hear_b31 N  0 m_refused m_tongue x1 x2) else (fX11_hear_b26 N  0 m_refused m_tongue)))) else (fX11_hear_b26 N  0 m_refused m_tongue)))
set_option maxRecDepth 20000 in
theorem inX11_hear_X11 : ∀ w ∈ u_ws RX11 TX11 20, w ∈ wsX11_hear := fun w h => by
  obtain ⟨k, hk, rfl⟩ := List.mem_map.mp h
  have hk2 := List.mem_range.mp hk
  exact List.mem_of_getElem? (i := 24 + k) (by rcases (show k = 0 ∨ k = 1 ∨ k = 2 ∨ k = 3 ∨ k = 4 ∨ k = 5 ∨ k = 6 ∨ k = 7 ∨ k = 8 ∨ k = 9 ∨ k = 10 ∨ k = 11 ∨ k = 12 ∨ k = 13 ∨ k = 14 ∨ k = 15 ∨ k = 16 ∨ k = 17 ∨ k = 18 ∨ k = 19 by omega) with rfl | rfl | rfl | rfl | rfl | rfl | rfl | rfl | rfl | rfl | rfl | rfl | rfl | rfl | rfl | rfl | rfl | rfl | rfl | rfl <;> rfl)
set_option maxRecDepth 100000 in
set_option maxHeartbeats 4000000 in
theorem tX11_hear_b26 {p : Program} {l : Launch} {e : Env} {s : State} {m : MethodId} {args : Array Value} {below : List Frame} {meth : Method} {c : Code} {A : Nat → Prop} {dC : Nat → ClassId} {dI : Nat → Nat → Nat} {cI : ClassId} {q q_refused q_tongue q_fresh q_kept q_isKept q_text q_said q_talk : Nat} {m_thrown : Int32} {m_size : Int32} {m_at : Int32} {m_start : Int32} {m_token : Int32} {m_value : Int64} {m_faultAt : Int32} {m_allowed : Int32} {m_firstPair : Int32} {m_secondPair : Int32} {m_above : Int64} {m_below : Int64} {m_refused : Nat → Int32} {m_tongue : Nat → Int32} (C0 : gm_C p s m args meth c (dC, dI) [(cI, .int)] A gm_T RX11 cX11_hear 3 (some .int) wsX11_hear) {N : Nat} {out : Int32 × Int32 × (Nat → Int32) × (Nat → Int32)}    {H : Heap} {locs : List Loc} {ls : Array Slot} (h : fX11_hear_b26 N  m_thrown m_refused m_tongue = some out) (hH : gm_H (dC, dI) A s (wX11_hear cI q q_refused q_tongue q_fresh q_kept q_isKept q_text q_said q_talk m_thrown m_size m_at m_start m_token m_value m_faultAt m_allowed m_firstPair m_secondPair m_above m_below m_refused m_tongue) H locs) (hl : lv_has ls 3 [(0, .ref q)]) : W p l e rX11_hear s m args below meth c H locs 0 0 (MQ below (gm_Q (dC, dI) [(cI, .int)] A (some (.int out.1)) (wX11_hear cI q q_refused q_tongue q_fresh q_kept q_isKept q_text q_said q_talk out.2.1 m_size m_at m_start m_token m_value m_faultAt m_allowed m_firstPair m_secondPair m_above m_below out.2.2.1 out.2.2.2)) args s 0 0 A) (F0 m 26 ls []) := by
  obtain ⟨hx, hb, hml, hr, hown, hts, hA, hK, hX, hlocks⟩ := id C0
  unfold fX11_hear_b26 at h
  refine lv_aload_n hx hb dX11_hear_26 rfl (lv_at hl 0 rfl) ?_
  obtain ⟨o3, ho3, h⟩ := gm_bind_e h
  refine gm_callV (As := []) (rest := []) (n := 0) (ci := 11) (q0 := 0) C0 hH (mX11_bad l dC dI cI q q_refused q_tongue q_fresh q_kept q_isKept q_text q_said q_talk m_thrown m_size m_at m_start m_token m_value m_faultAt m_allowed m_firstPair m_secondPair m_above m_below m_refused    ho3) gX11_hear_X11_bad rfl (by decide +kernel) ⟨rfl, rfl, Nat.le_of_ble_eq_true rfl, Nat.le_of_ble_eq_true rfl⟩ gm_T_ok (fun _ => trivial) [0, 1] rfl rfl rfl [0] rfl rfl rfl rfl hl.1 rfl (Nat.le_of_ble_eq_true rfl) dX11_hear_27 ⟨Nat.zero_le _, Nat.zero_le _⟩ (fun H locs hH => ?_)
  have hH : gm_H (dC, dI) A s (wX11_hear cI q q_refused q_tongue q_fresh q_kept q_isKept q_text q_said q_talk m_thrown m_size m_at m_start m_token m_value m_faultAt m_allowed m_firstPair m_secondPair m_above m_below o3.2 m_tongue) H locs := hH
  obtain rfl := Option.some.inj h
  exact gm_iret C0 hH dX11_hear_30
set_option maxRecDepth 100000 in
set_option maxHeartbeats 4000000 in
theorem tX11_hear_b31 {p : Program} {l : Launch} {e : Env} {s : State} {m : MethodId} {args : Array Value} {below : List Frame} {meth : Method} {c : Code} {A : Nat → Prop} {dC : Nat → ClassId} {dI : Nat → Nat → Nat} {cI : ClassId} {q q_refused q_tongue q_fresh q_kept q_isKept q_text q_said q_talk : Nat} {m_thrown : Int32} {m_size : Int32} {m_at : Int32} {m_start : Int32} {m_token : Int32} {m_value : Int64} {m_faultAt : Int32} {m_allowed : Int32} {m_firstPair : Int32} {m_secondPair : Int32} {m_above : Int64} {m_below : Int64} {m_refused : Nat → Int32} {m_tongue : Nat → Int32} {x1 : Int32} {x2 : Int32} (C0 : gm_C p s m args meth c (dC, dI) [(cI, .int)] A gm_T RX11 cX11_hear 3 (some .int) wsX11_hear) {N : Nat} {out : Int32 × Int32 × (Nat → Int32) × (Nat → Int32)}    {H : Heap} {locs : List Loc} {ls : Array Slot} (h : fX11_hear_b31 N  m_thrown m_refused m_tongue x1 x2 = some out) (hH : gm_H (dC, dI) A s (wX11_hear cI q q_refused q_tongue q_fresh q_kept q_isKept q_text q_said q_talk m_thrown m_size m_at m_start m_token m_value m_faultAt m_allowed m_firstPair m_secondPair m_above m_below m_refused m_tongue) H locs) (hl : lv_has ls 3 [(0, .ref q), (1, .int x1), (2, .int x2)]) : W p l e rX11_hear s m args below meth c H locs 0 0 (MQ below (gm_Q (dC, dI) [(cI, .int)] A (some (.int out.1)) (wX11_hear cI q q_refused q_tongue q_fresh q_kept q_isKept q_text q_said q_talk out.2.1 m_size m_at m_start m_token m_value m_faultAt m_allowed m_firstPair m_secondPair m_above m_below out.2.2.1 out.2.2.2)) args s 0 0 A) (F0 m 31 ls []) := by
  obtain ⟨hx, hb, hml, hr, hown, hts, hA, hK, hX, hlocks⟩ := id C0
  unfold fX11_hear_b31 at h
  refine lv_aload_n hx hb dX11_hear_31 rfl (lv_at hl 0 rfl) ?_
  refine gm_get (ci := 11) C0 hH inX11_hear_X11 0 2 2 rfl rfl (by decide) rfl rfl dX11_hear_32 ?_
  refine lv_iconst (v := 3) hx hb dX11_hear_35 (by decide) ?_
  obtain ⟨hi5, h⟩ := gm_chk_e h
  refine gm_iald C0 hH hi5 2 0 rfl rfl dX11_hear_36 ?_
  refine lv_bipush (v := 6) hx hb dX11_hear_37 (by decide) ?_
  refine lv_icmp_ne (tgt := 47) hx hb dX11_hear_39 (by decide) (fun hc6 => ?_) (fun hc6 => ?_)
  · replace h := gm_neg hc6 h
    refine lv_aload_n hx hb dX11_hear_47 rfl (lv_at hl 0 rfl) ?_
    refine gm_get (ci := 11) C0 hH inX11_hear_X11 0 2 2 rfl rfl (by decide) rfl rfl dX11_hear_48 ?_
    refine lv_bipush (v := 53) hx hb dX11_hear_51 (by decide) ?_
    refine lv_iconst (v := 2) hx hb dX11_hear_53 (by decide) ?_
    refine lv_aload_n hx hb dX11_hear_54 rfl (lv_at hl 0 rfl) ?_
    refine gm_get (ci := 11) C0 hH inX11_hear_X11 0 2 2 rfl rfl (by decide) rfl rfl dX11_hear_55 ?_
    refine lv_iconst (v := 3) hx hb dX11_hear_58 (by decide) ?_
    obtain ⟨hi7, h⟩ := gm_chk_e h
    refine gm_iald C0 hH hi7 2 0 rfl rfl dX11_hear_59 ?_
    refine lv_imul hx hb dX11_hear_60 ?_
    refine lv_iadd hx hb dX11_hear_61 ?_
    refine lv_iload_n hx hb dX11_hear_62 rfl (lv_at hl 1 rfl) ?_
    obtain ⟨hi8, h⟩ := gm_chk_e h
    refine gm_iast C0 hH hi8 2 0 rfl rfl dX11_hear_63 (fun H locs hH => ?_)
    have hH : gm_H (dC, dI) A s (wX11_hear cI q q_refused q_tongue q_fresh q_kept q_isKept q_text q_said q_talk m_thrown m_size m_at m_start m_token m_value m_faultAt m_allowed m_firstPair m_secondPair m_above m_below m_refused (upd m_tongue (Int32.toNatClampNeg ((53 + (2 * (m_tongue (Int32.toNatClampNeg 3)))))) x1)) H locs := hH
    refine lv_aload_n hx hb dX11_hear_64 rfl (lv_at hl 0 rfl) ?_
    refine gm_get (ci := 11) C0 hH inX11_hear_X11 0 2 2 rfl rfl (by decide) rfl rfl dX11_hear_65 ?_
    refine lv_bipush (v := 53) hx hb dX11_hear_68 (by decide) ?_
    refine lv_iconst (v := 2) hx hb dX11_hear_70 (by decide) ?_
    refine lv_aload_n hx hb dX11_hear_71 rfl (lv_at hl 0 rfl) ?_
    refine gm_get (ci := 11) C0 hH inX11_hear_X11 0 2 2 rfl rfl (by decide) rfl rfl dX11_hear_72 ?_
    refine lv_iconst (v := 3) hx hb dX11_hear_75 (by decide) ?_
    obtain ⟨hi9, h⟩ := gm_chk_e h
    refine gm_iald C0 hH hi9 2 0 rfl rfl dX11_hear_76 ?_
    refine lv_imul hx hb dX11_hear_77 ?_
    refine lv_iadd hx hb dX11_hear_78 ?_
    refine lv_iconst (v := 1) hx hb dX11_hear_79 (by decide) ?_
    refine lv_iadd hx hb dX11_hear_80 ?_
    refine lv_iload_n hx hb dX11_hear_81 rfl (lv_at hl 2 rfl) ?_
    obtain ⟨hi10, h⟩ := gm_chk_e h
    refine gm_iast C0 hH hi10 2 0 rfl rfl dX11_hear_82 (fun H locs hH => ?_)
    have hH : gm_H (dC, dI) A s (wX11_hear cI q q_refused q_tongue q_fresh q_kept q_isKept q_text q_said q_talk m_thrown m_size m_at m_start m_token m_value m_faultAt m_allowed m_firstPair m_secondPair m_above m_below m_refused (upd (upd m_tongue (Int32.toNatClampNeg ((53 + (2 * (m_tongue (Int32.toNatClampNeg 3)))))) x1) (Int32.toNatClampNeg (((53 + (2 * ((upd m_tongue (Int32.toNatClampNeg ((53 + (2 * (m_tongue (Int32.toNatClampNeg 3)))))) x1) (Int32.toNatClampNeg 3)))) + 1))) x2)) H locs := hH
    refine lv_aload_n hx hb dX11_hear_83 rfl (lv_at hl 0 rfl) ?_
    refine gm_get (ci := 11) C0 hH inX11_hear_X11 0 2 2 rfl rfl (by decide) rfl rfl dX11_hear_84 ?_
    refine lv_iconst (v := 3) hx hb dX11_hear_87 (by decide) ?_
    refine lv_dup2_11 hx hb dX11_hear_88 rfl rfl ?_
    obtain ⟨hi11, h⟩ := gm_chk_e h
    refine gm_iald C0 hH hi11 2 0 rfl rfl dX11_hear_89 ?_
    refine lv_iconst (v := 1) hx hb dX11_hear_90 (by decide) ?_
    refine lv_iadd hx hb dX11_hear_91 ?_
    obtain ⟨hi12, h⟩ := gm_chk_e h
    refine gm_iast C0 hH hi12 2 0 rfl rfl dX11_hear_92 (fun H locs hH => ?_)
    have hH : gm_H (dC, dI) A s (wX11_hear cI q q_refused q_tongue q_fresh q_kept q_isKept q_text q_said q_talk m_thrown m_size m_at m_start m_token m_value m_faultAt m_allowed m_firstPair m_secondPair m_above m_below m_refused (upd (upd (upd m_tongue (Int32.toNatClampNeg ((53 + (2 * (m_tongue (Int32.toNatClampNeg 3)))))) x1) (Int32.toNatClampNeg (((53 + (2 * ((upd m_tongue (Int32.toNatClampNeg ((53 + (2 * (m_tongue (Int32.toNatClampNeg 3)))))) x1) (Int32.toNatClampNeg 3)))) + 1))) x2) (Int32.toNatClampNeg 3) ((((upd (upd m_tongue (Int32.toNatClampNeg ((53 + (2 * (m_tongue (Int32.toNatClampNeg 3)))))) x1) (Int32.toNatClampNeg (((53 + (2 * ((upd m_tongue (Int32.toNatClampNeg ((53 + (2 * (m_tongue (Int32.toNatClampNeg 3)))))) x1) (Int32.toNatClampNeg 3)))) + 1))) x2) (Int32.toNatClampNeg 3)) + 1)))) H locs := hH
    refine lv_aload_n hx hb dX11_hear_93 rfl (lv_at hl 0 rfl) ?_
    refine gm_get (ci := 11) C0 hH inX11_hear_X11 0 2 2 rfl rfl (by decide) rfl rfl dX11_hear_94 ?_
    refine lv_iconst (v := 3) hx hb dX11_hear_97 (by decide) ?_
    obtain ⟨hi13, h⟩ := gm_chk_e h
    refine gm_iald C0 hH hi13 2 0 rfl rfl dX11_hear_98 ?_
    obtain rfl := Option.some.inj h
    exact gm_iret C0 hH dX11_hear_99
  · replace h := gm_pos hc6 h
    refine lv_aload_n hx hb dX11_hear_42 rfl (lv_at hl 0 rfl) ?_
    obtain ⟨o14, ho14, h⟩ := gm_bind_e h
    refine gm_callV (As := []) (rest := []) (n := 0) (ci := 11) (q0 := 0) C0 hH (mX11_full l dC dI cI q q_refused q_tongue q_fresh q_kept q_isKept q_text q_said q_talk m_thrown m_size m_at m_start m_token m_value m_faultAt m_allowed m_firstPair m_secondPair m_above m_below m_refused    ho14) gX11_hear_X11_full rfl (by decide +kernel) ⟨rfl, rfl, Nat.le_of_ble_eq_true rfl, Nat.le_of_ble_eq_true rfl⟩ gm_T_ok (fun _ => trivial) [0, 1] rfl rfl rfl [0] rfl rfl rfl rfl hl.1 rfl (Nat.le_of_ble_eq_true rfl) dX11_hear_43 ⟨Nat.zero_le _, Nat.zero_le _⟩ (fun H locs hH => ?_)
    have hH : gm_H (dC, dI) A s (wX11_hear cI q q_refused q_tongue q_fresh q_kept q_isKept q_text q_said q_talk m_thrown m_size m_at m_start m_token m_value m_faultAt m_allowed m_firstPair m_secondPair m_above m_below o14.2 m_tongue) H locs := hH
    obtain rfl := Option.some.inj h
    exact gm_iret C0 hH dX11_hear_46
set_option maxRecDepth 100000 in
set_option maxHeartbeats 4000000 in
theorem mX11_hear (l : Launch) (dC : Nat → ClassId) (dI : Nat → Nat → Nat) (cI : ClassId) (q q_refused q_tongue q_fresh q_kept q_isKept q_text q_said q_talk : Nat) (m_thrown : Int32) (m_size : Int32) (m_at : Int32) (m_start : Int32) (m_token : Int32) (m_value : Int64) (m_faultAt : Int32) (m_allowed : Int32) (m_firstPair : Int32) (m_secondPair : Int32) (m_above : Int64) (m_below : Int64) (m_refused : Nat → Int32) (m_tongue : Nat → Int32) (x1 : Int32) (x2 : Int32)  {N : Nat} {out : Int32 × Int32 × (Nat → Int32) × (Nat → Int32)} (h : fX11_hear N m_thrown m_refused m_tongue x1 x2 = some out) : gm_Met l yX11_hear wsX11_hear rX11_hear (dC, dI) [(cI, .int)] gm_T [.ref q, .int x1, .int x2] (wX11_hear cI q q_refused q_tongue q_fresh q_kept q_isKept q_text q_said q_talk m_thrown m_size m_at m_start m_token m_value m_faultAt m_allowed m_firstPair m_secondPair m_above m_below m_refused m_tongue) (some (.int out.1)) (wX11_hear cI q q_refused q_tongue q_fresh q_kept q_isKept q_text q_said q_talk out.2.1 m_size m_at m_start m_token m_value m_faultAt m_allowed m_firstPair m_secondPair m_above m_below out.2.2.1 out.2.2.2) := by
  refine gm_ofW (cc := cX11_hear) (maxL := 3) (ret := (some .int)) (by decide +kernel) rfl (Nat.le_of_ble_eq_true rfl) ?_
  intro p e s m below meth c A C0 hH ls hl
  generalize ([.ref q, .int x1, .int x2] : List Value).toArray = args at C0 ⊢
  have hl : lv_has ls 3 [(0, .ref q), (1, .int x1), (2, .int x2)] := hl
  generalize s.heap = H at hH ⊢
  generalize ([] : List Loc) = locs at hH ⊢
  obtain ⟨hx, hb, hml, hr, hown, hts, hA, hK, hX, hlocks⟩ := id C0
  unfold fX11_hear at h
  refine lv_aload_n hx hb dX11_hear_0 rfl (lv_at hl 0 rfl) ?_
  refine lv_iconst (v := 0) hx hb dX11_hear_1 (by decide) ?_
  refine gm_putf (ci := 11) C0 hH inX11_hear_X11 tyX11_ok nmX11 0 0 1 rfl rfl (by decide) rfl rfl rfl rfl rfl (Nat.le_of_ble_eq_true rfl) dX11_hear_2 (fun H locs hH => ?_)
  have hH : gm_H (dC, dI) A s (wX11_hear cI q q_refused q_tongue q_fresh q_kept q_isKept q_text q_said q_talk 0 m_size m_at m_start m_token m_value m_faultAt m_allowed m_firstPair m_secondPair m_above m_below m_refused m_tongue) H locs := hH
  refine lv_aload_n hx hb dX11_hear_5 rfl (lv_at hl 0 rfl) ?_
  refine lv_iload_n hx hb dX11_hear_6 rfl (lv_at hl 1 rfl) ?_
  obtain ⟨o1, ho1, h⟩ := gm_bind_e h
  refine gm_callV (As := [.int x1]) (rest := []) (n := 1) (ci := 11) (q0 := 0) C0 hH (mX11_noWord l dC dI cI q q_tongue q_refused q_fresh q_kept q_isKept q_text q_said q_talk 0 m_size m_at m_start m_token m_value m_faultAt m_allowed m_firstPair m_secondPair m_above m_below m_tongue x1   ho1) gX11_hear_X11_noWord rfl (by decide +kernel) ⟨rfl, rfl, Nat.le_of_ble_eq_true rfl, Nat.le_of_ble_eq_true rfl⟩ gm_T_ok (fun _ => trivial) [0, 2] rfl rfl rfl [0] rfl rfl rfl rfl hl.1 rfl (Nat.le_of_ble_eq_true rfl) dX11_hear_7 ⟨Nat.zero_le _, Nat.zero_le _⟩ (fun H locs hH => ?_)
  have hH : gm_H (dC, dI) A s (wX11_hear cI q q_refused q_tongue q_fresh q_kept q_isKept q_text q_said q_talk 0 m_size m_at m_start m_token m_value m_faultAt m_allowed m_firstPair m_secondPair m_above m_below m_refused m_tongue) H locs := hH
  refine lv_if_ne (tgt := 26) hx hb dX11_hear_10 (by decide) (fun hc2 => ?_) (fun hc2 => ?_)
  · replace h := gm_neg hc2 h
    exact tX11_hear_b26 C0  h hH (lv_sub hl [0] rfl)
  · replace h := gm_pos hc2 h
    refine lv_iload_n hx hb dX11_hear_13 rfl (lv_at hl 2 rfl) ?_
    refine lv_iconst (v := (-1)) hx hb dX11_hear_14 (by decide) ?_
    refine lv_icmp_eq (tgt := 31) hx hb dX11_hear_15 (by decide) (fun hc4 => ?_) (fun hc4 => ?_)
    · replace h := gm_pos hc4 h
      exact tX11_hear_b31 C0  h hH (lv_sub hl [0, 1, 2] rfl)
    · replace h := gm_neg hc4 h
      refine lv_aload_n hx hb dX11_hear_18 rfl (lv_at hl 0 rfl) ?_
      refine lv_iload_n hx hb dX11_hear_19 rfl (lv_at hl 2 rfl) ?_
      obtain ⟨o15, ho15, h⟩ := gm_bind_e h
      refine gm_callV (As := [.int x2]) (rest := []) (n := 1) (ci := 11) (q0 := 0) C0 hH (mX11_noWord l dC dI cI q q_tongue q_refused q_fresh q_kept q_isKept q_text q_said q_talk 0 m_size m_at m_start m_token m_value m_faultAt m_allowed m_firstPair m_secondPair m_above m_below m_tongue x2   ho15) gX11_hear_X11_noWord rfl (by decide +kernel) ⟨rfl, rfl, Nat.le_of_ble_eq_true rfl, Nat.le_of_ble_eq_true rfl⟩ gm_T_ok (fun _ => trivial) [0, 2] rfl rfl rfl [0] rfl rfl rfl rfl hl.1 rfl (Nat.le_of_ble_eq_true rfl) dX11_hear_20 ⟨Nat.zero_le _, Nat.zero_le _⟩ (fun H locs hH => ?_)
      have hH : gm_H (dC, dI) A s (wX11_hear cI q q_refused q_tongue q_fresh q_kept q_isKept q_text q_said q_talk 0 m_size m_at m_start m_token m_value m_faultAt m_allowed m_firstPair m_secondPair m_above m_below m_refused m_tongue) H locs := hH
      refine lv_if_eq (tgt := 31) hx hb dX11_hear_23 (by decide) (fun hc16 => ?_) (fun hc16 => ?_)
      · replace h := gm_pos hc16 h
        exact tX11_hear_b31 C0  h hH (lv_sub hl [0, 1, 2] rfl)
      · replace h := gm_neg hc16 h
        exact tX11_hear_b26 C0  h hH (lv_sub hl [0] rfl)

/-! X11_forget -/
abbrev wX11_forget (cI : ClassId) (q q_tongue q_refused q_fresh q_kept q_isKept q_text q_said q_talk : Nat) (m_thrown : Int32) (m_size : Int32) (m_at : Int32) (m_start : Int32) (m_token : Int32) (m_value : Int64) (m_faultAt : Int32) (m_allowed : Int32) (m_firstPair : Int32) (m_secondPair : Int32) (m_above : Int64) (m_below : Int64) (m_tongue : Nat → Int32) : va_W := [(q, .inr (11, [.int m_thrown, .ref q_refused, .ref q_tongue, .ref q_fresh, .ref q_kept, .ref q_isKept, .ref q_text, .int m_size, .int m_at, .int m_start, .int m_token, .long m_value, .int m_faultAt, .ref q_said, .ref q_talk, .int m_allowed, .int m_firstPair, .int m_secondPair, .long m_above, .long m_below])), (q_tongue, .inl (cI, 73, .inl m_tongue))]
abbrev rX11_forget : Room := { frames := 0, cells := 0, slots := 0, locals := 0 }
def fX11_forget (N : Nat) (m_thrown : Int32) (m_tongue : Nat → Int32)  : Option (Int32 × Int32 × (Nat → Int32)) := gm_chk 3 73 (gm_let ((m_tongue (Int32.toNatClampNeg 3)) : Int32) (fun (v2 : Int32) => gm_chk 3 73 (some (v2, 0, upd m_tongue (Int32.toNatClampNeg 3) 0))))
set_option maxRecDepth 20000 in
theorem inX11_forget_X11 : ∀ w ∈ u_ws RX11 TX11 20, w ∈ wsX11_forget := fun w h => by
  obtain ⟨k, hk, rfl⟩ := List.mem_map.mp h
  have hk2 := List.mem_range.mp hk
  exact List.mem_of_getElem? (i := 3 + k) (by rcases (show k = 0 ∨ k = 1 ∨ k = 2 ∨ k = 3 ∨ k = 4 ∨ k = 5 ∨ k = 6 ∨ k = 7 ∨ k = 8 ∨ k = 9 ∨ k = 10 ∨ k = 11 ∨ k = 12 ∨ k = 13 ∨ k = 14 ∨ k = 15 ∨ k = 16 ∨ k = 17 ∨ k = 18 ∨ k = 19 by omega) with rfl | rfl | rfl | rfl | rfl | rfl | rfl | rfl | rfl | rfl | rfl | rfl | rfl | rfl | rfl | rfl | rfl | rfl | rfl | rfl <;> rfl)
set_option maxRecDepth 100000 in
set_option maxHeartbeats 4000000 in
theorem mX11_forget (l : Launch) (dC : Nat → ClassId) (dI : Nat → Nat → Nat) (cI : ClassId) (q q_tongue q_refused q_fresh q_kept q_isKept q_text q_said q_talk : Nat) (m_thrown : Int32) (m_size : Int32) (m_at : Int32) (m_start : Int32) (m_token : Int32) (m_value : Int64) (m_faultAt : Int32) (m_allowed : Int32) (m_firstPair : Int32) (m_secondPair : Int32) (m_above : Int64) (m_below : Int64) (m_tongue : Nat → Int32)   {N : Nat} {out : Int32 × Int32 × (Nat → Int32)} (h : fX11_forget N m_thrown m_tongue = some out) : gm_Met l yX11_forget wsX11_forget rX11_forget (dC, dI) [(cI, .int)] gm_T [.ref q] (wX11_forget cI q q_tongue q_refused q_fresh q_kept q_isKept q_text q_said q_talk m_thrown m_size m_at m_start m_token m_value m_faultAt m_allowed m_firstPair m_secondPair m_above m_below m_tongue) (some (.int out.1)) (wX11_forget cI q q_tongue q_refused q_fresh q_kept q_isKept q_text q_said q_talk out.2.1 m_size m_at m_start m_token m_value m_faultAt m_allowed m_firstPair m_secondPair m_above m_below out.2.2) := by
  refine gm_ofW (cc := cX11_forget) (maxL := 2) (ret := (some .int)) (by decide +kernel) rfl (Nat.le_of_ble_eq_true rfl) ?_
  intro p e s m below meth c A C0 hH ls hl
  generalize ([.ref q] : List Value).toArray = args at C0 ⊢
  have hl : lv_has ls 2 [(0, .ref q)] := hl
  generalize s.heap = H at hH ⊢
  generalize ([] : List Loc) = locs at hH ⊢
  obtain ⟨hx, hb, hml, hr, hown, hts, hA, hK, hX, hlocks⟩ := id C0
  unfold fX11_forget at h
  refine lv_aload_n hx hb dX11_forget_0 rfl (lv_at hl 0 rfl) ?_
  refine lv_iconst (v := 0) hx hb dX11_forget_1 (by decide) ?_
  refine gm_putf (ci := 11) C0 hH inX11_forget_X11 tyX11_ok nmX11 0 0 1 rfl rfl (by decide) rfl rfl rfl rfl rfl (Nat.le_of_ble_eq_true rfl) dX11_forget_2 (fun H locs hH => ?_)
  have hH : gm_H (dC, dI) A s (wX11_forget cI q q_tongue q_refused q_fresh q_kept q_isKept q_text q_said q_talk 0 m_size m_at m_start m_token m_value m_faultAt m_allowed m_firstPair m_secondPair m_above m_below m_tongue) H locs := hH
  refine lv_aload_n hx hb dX11_forget_5 rfl (lv_at hl 0 rfl) ?_
  refine gm_get (ci := 11) C0 hH inX11_forget_X11 0 2 2 rfl rfl (by decide) rfl rfl dX11_forget_6 ?_
  refine lv_iconst (v := 3) hx hb dX11_forget_9 (by decide) ?_
  obtain ⟨hi1, h⟩ := gm_chk_e h
  refine gm_iald C0 hH hi1 1 0 rfl rfl dX11_forget_10 ?_
  refine lv_topi (fun v2 ev2 => ?_)
  replace h := gm_let_e ev2 h
  refine lv_istore_n (lv' := [(1, .int v2), (0, .ref q)]) hx hb dX11_forget_11 rfl hl (by decide) rfl (fun ls hl => ?_)
  refine lv_aload_n hx hb dX11_forget_12 rfl (lv_at hl 1 rfl) ?_
  refine gm_get (ci := 11) C0 hH inX11_forget_X11 0 2 2 rfl rfl (by decide) rfl rfl dX11_forget_13 ?_
  refine lv_iconst (v := 3) hx hb dX11_forget_16 (by decide) ?_
  refine lv_iconst (v := 0) hx hb dX11_forget_17 (by decide) ?_
  obtain ⟨hi3, h⟩ := gm_chk_e h
  refine gm_iast C0 hH hi3 1 0 rfl rfl dX11_forget_18 (fun H locs hH => ?_)
  have hH : gm_H (dC, dI) A s (wX11_forget cI q q_tongue q_refused q_fresh q_kept q_isKept q_text q_said q_talk 0 m_size m_at m_start m_token m_value m_faultAt m_allowed m_firstPair m_secondPair m_above m_below (upd m_tongue (Int32.toNatClampNeg 3) 0)) H locs := hH
  refine lv_iload_n hx hb dX11_forget_19 rfl (lv_at hl 0 rfl) ?_
  obtain rfl := Option.some.inj h
  exact gm_iret C0 hH dX11_forget_20

/-! X11_answerOf -/
abbrev wX11_answerOf (cI : ClassId) (q q_tongue q_refused q_fresh q_kept q_isKept q_text q_said q_talk : Nat) (m_thrown : Int32) (m_size : Int32) (m_at : Int32) (m_start : Int32) (m_token : Int32) (m_value : Int64) (m_faultAt : Int32) (m_allowed : Int32) (m_firstPair : Int32) (m_secondPair : Int32) (m_above : Int64) (m_below : Int64) (m_tongue : Nat → Int32) : va_W := [(q, .inr (11, [.int m_thrown, .ref q_refused, .ref q_tongue, .ref q_fresh, .ref q_kept, .ref q_isKept, .ref q_text, .int m_size, .int m_at, .int m_start, .int m_token, .long m_value, .int m_faultAt, .ref q_said, .ref q_talk, .int m_allowed, .int m_firstPair, .int m_secondPair, .long m_above, .long m_below])), (q_tongue, .inl (cI, 73, .inl m_tongue))]
abbrev rX11_answerOf : Room := { frames := 4, cells := 0, slots := 0, locals := 89 }
def fX11_answerOf_b57 (N : Nat) (r6 : Int32 → Int32 → Option (Int32)) (m_tongue : Nat → Int32) (x1 : Int32) (x2 : Int32) (x3 : Int32) (x4 : Int32) (x5 : Int32) : Option (Int32) := (r6 x4 ((x5 + 1)))
def fX11_answerOf_b55 (N : Nat) (r6 : Int32 → Int32 → Option (Int32)) (m_tongue : Nat → Int32) (x1 : Int32) (x2 : Int32) (x3 : Int32) (x5 : Int32) (k0 : Int32) : Option (Int32) := (fX11_answerOf_b57 N r6 m_tongue x1 x2 x3 k0 x5)
def fX11_answerOf_b6_body (N : Nat)  (m_tongue : Nat → Int32) (x1 : Int32) (x2 : Int32) (x3 : Int32) (r6 : Int32 → Int32 → Option (Int32)) (x4 : Int32) (x5 : Int32) : Option (Int32) := gm_chk 0 73 ((if (m_tongue (Int32.toNatClampNeg 0)) ≤ x5 then some (x4) else gm_bind (fX11_chimes N m_tongue x1 x2 x5 x3) (fun o3 => (if o3 = 0 then (fX11_answerOf_b57 N r6 m_tongue x1 x2 x3 x4 x5) else gm_bind (fX11_meaning N m_tongue x5) (fun o5 => (if o5 = x2 then some (x5) else (if x4 = (-1) then (fX11_answerOf_b55 N r6 m_tongue x1 x2 x3 x5 x5) else (fX11_answerOf_b55 N r6 m_tongue x1 x2 x3 x5 x4))))))))
def fX11_answerOf_b6 (N : Nat)  (m_tongue : Nat → Int32) (x1 : Int32) (x2 : Int32) (x3 : Int32) (x4 : Int32) (x5 : Int32) : Option (Int32) := gm_fix (fX11_answerOf_b6_body N  m_tongue x1 x2 x3) (fun _ _ => none) N x4 x5
def fX11_answerOf (N : Nat) (m_tongue : Nat → Int32) (x1 : Int32) (x2 : Int32) (x3 : Int32) : Option (Int32) := (fX11_answerOf_b6 N  m_tongue x1 x2 x3 ((-1)) 0)
set_option maxRecDepth 20000 in
theorem inX11_answerOf_X11 : ∀ w ∈ u_ws RX11 TX11 20, w ∈ wsX11_answerOf := fun w h => by
  obtain ⟨k, hk, rfl⟩ := List.mem_map.mp h
  have hk2 := List.mem_range.mp hk
  exact List.mem_of_getElem? (i := 30 + k) (by rcases (show k = 0 ∨ k = 1 ∨ k = 2 ∨ k = 3 ∨ k = 4 ∨ k = 5 ∨ k = 6 ∨ k = 7 ∨ k = 8 ∨ k = 9 ∨ k = 10 ∨ k = 11 ∨ k = 12 ∨ k = 13 ∨ k = 14 ∨ k = 15 ∨ k = 16 ∨ k = 17 ∨ k = 18 ∨ k = 19 by omega) with rfl | rfl | rfl | rfl | rfl | rfl | rfl | rfl | rfl | rfl | rfl | rfl | rfl | rfl | rfl | rfl | rfl | rfl | rfl | rfl <;> rfl)
set_option maxRecDepth 100000 in
set_option maxHeartbeats 4000000 in
theorem tX11_answerOf_b57 {p : Program} {l : Launch} {e : Env} {s : State} {m : MethodId} {args : Array Value} {below : List Frame} {meth : Method} {c : Code} {A : Nat → Prop} {dC : Nat → ClassId} {dI : Nat → Nat → Nat} {cI : ClassId} {q q_tongue q_refused q_fresh q_kept q_isKept q_text q_said q_talk : Nat} {m_thrown : Int32} {m_size : Int32} {m_at : Int32} {m_start : Int32} {m_token : Int32} {m_value : Int64} {m_faultAt : Int32} {m_allowed : Int32} {m_firstPair : Int32} {m_secondPair : Int32} {m_above : Int64} {m_below : Int64} {m_tongue : Nat → Int32} {x1 : Int32} {x2 : Int32} {x3 : Int32} {x4 : Int32} {x5 : Int32} (C0 : gm_C p s m args meth c (dC, dI) [(cI, .int)] A gm_T RX11 cX11_answerOf 6 (some .int) wsX11_answerOf) {N : Nat} {out : Int32} {r6 : Int32 → Int32 → Option (Int32)} (hr6 : ∀ (x4 : Int32) (x5 : Int32) (H : Heap) (locs : List Loc) (ls : Array Slot), r6 x4 x5 = some out → gm_H (dC, dI) A s (wX11_answerOf cI q q_tongue q_refused q_fresh q_kept q_isKept q_text q_said q_talk m_thrown m_size m_at m_start m_token m_value m_faultAt m_allowed m_firstPair m_secondPair m_above m_below m_tongue) H locs → lv_has ls 6 [(0, .ref q), (1, .int x1), (2, .int x2), (3, .int x3), (4, .int x4), (5, .int x5)] → W p l e rX11_answerOf s m args below meth c H locs 0 0 (MQ below (gm_Q (dC, dI) [(cI, .int)] A (some (.int out)) (wX11_answerOf cI q q_tongue q_refused q_fresh q_kept q_isKept q_text q_said q_talk m_thrown m_size m_at m_start m_token m_value m_faultAt m_allowed m_firstPair m_secondPair m_above m_below m_tongue)) args s 0 0 A) (F0 m 6 ls []))   {H : Heap} {locs : List Loc} {ls : Array Slot} (h : fX11_answerOf_b57 N r6 m_tongue x1 x2 x3 x4 x5 = some out) (hH : gm_H (dC, dI) A s (wX11_answerOf cI q q_tongue q_refused q_fresh q_kept q_isKept q_text q_said q_talk m_thrown m_size m_at m_start m_token m_value m_faultAt m_allowed m_firstPair m_secondPair m_above m_below m_tongue) H locs) (hl : lv_has ls 6 [(0, .ref q), (1, .int x1), (2, .int x2), (3, .int x3), (4, .int x4), (5, .int x5)]) : W p l e rX11_answerOf s m args below meth c H locs 0 0 (MQ below (gm_Q (dC, dI) [(cI, .int)] A (some (.int out)) (wX11_answerOf cI q q_tongue q_refused q_fresh q_kept q_isKept q_text q_said q_talk m_thrown m_size m_at m_start m_token m_value m_faultAt m_allowed m_firstPair m_secondPair m_above m_below m_tongue)) args s 0 0 A) (F0 m 57 ls []) := by
  obtain ⟨hx, hb, hml, hr, hown, hts, hA, hK, hX, hlocks⟩ := id C0
  unfold fX11_answerOf_b57 at h
  refine lv_iinc (v := (x5 + 1)) (lv' := [(5, .int (x5 + 1)), (0, .ref q), (1, .int x1), (2, .int x2), (3, .int x3), (4, .int x4)]) hx hb dX11_answerOf_57 hl (k := 5) rfl rfl (by decide) rfl (fun ls hl => ?_)
  refine lv_goto (tgt := 6) hx hb dX11_answerOf_60 (by decide) ?_
  exact hr6 _ _ _ _ _ h hH (lv_sub hl [1, 2, 3, 4, 5, 0] rfl)
set_option maxRecDepth 100000 in
set_option maxHeartbeats 4000000 in
theorem tX11_answerOf_b55 {p : Program} {l : Launch} {e : Env} {s : State} {m : MethodId} {args : Array Value} {below : List Frame} {meth : Method} {c : Code} {A : Nat → Prop} {dC : Nat → ClassId} {dI : Nat → Nat → Nat} {cI : ClassId} {q q_tongue q_refused q_fresh q_kept q_isKept q_text q_said q_talk : Nat} {m_thrown : Int32} {m_size : Int32} {m_at : Int32} {m_start : Int32} {m_token : Int32} {m_value : Int64} {m_faultAt : Int32} {m_allowed : Int32} {m_firstPair : Int32} {m_secondPair : Int32} {m_above : Int64} {m_below : Int64} {m_tongue : Nat → Int32} {x1 : Int32} {x2 : Int32} {x3 : Int32} {x5 : Int32} {k0 : Int32} (C0 : gm_C p s m args meth c (dC, dI) [(cI, .int)] A gm_T RX11 cX11_answerOf 6 (some .int) wsX11_answerOf) {N : Nat} {out : Int32} {r6 : Int32 → Int32 → Option (Int32)} (hr6 : ∀ (x4 : Int32) (x5 : Int32) (H : Heap) (locs : List Loc) (ls : Array Slot), r6 x4 x5 = some out → gm_H (dC, dI) A s (wX11_answerOf cI q q_tongue q_refused q_fresh q_kept q_isKept q_text q_said q_talk m_thrown m_size m_at m_start m_token m_value m_faultAt m_allowed m_firstPair m_secondPair m_above m_below m_tongue) H locs → lv_has ls 6 [(0, .ref q), (1, .int x1), (2, .int x2), (3, .int x3), (4, .int x4), (5, .int x5)] → W p l e rX11_answerOf s m args below meth c H locs 0 0 (MQ below (gm_Q (dC, dI) [(cI, .int)] A (some (.int out)) (wX11_answerOf cI q q_tongue q_refused q_fresh q_kept q_isKept q_text q_said q_talk m_thrown m_size m_at m_start m_token m_value m_faultAt m_allowed m_firstPair m_secondPair m_above m_below m_tongue)) args s 0 0 A) (F0 m 6 ls []))   {H : Heap} {locs : List Loc} {ls : Array Slot} (h : fX11_answerOf_b55 N r6 m_tongue x1 x2 x3 x5 k0 = some out) (hH : gm_H (dC, dI) A s (wX11_answerOf cI q q_tongue q_refused q_fresh q_kept q_isKept q_text q_said q_talk m_thrown m_size m_at m_start m_token m_value m_faultAt m_allowed m_firstPair m_secondPair m_above m_below m_tongue) H locs) (hl : lv_has ls 6 [(0, .ref q), (1, .int x1), (2, .int x2), (3, .int x3), (5, .int x5)]) : W p l e rX11_answerOf s m args below meth c H locs 0 0 (MQ below (gm_Q (dC, dI) [(cI, .int)] A (some (.int out)) (wX11_answerOf cI q q_tongue q_refused q_fresh q_kept q_isKept q_text q_said q_talk m_thrown m_size m_at m_start m_token m_value m_faultAt m_allowed m_firstPair m_secondPair m_above m_below m_tongue)) args s 0 0 A) (F0 m 55 ls [.int k0]) := by
  obtain ⟨hx, hb, hml, hr, hown, hts, hA, hK, hX, hlocks⟩ := id C0
  unfold fX11_answerOf_b55 at h
  refine lv_istore (lv' := [(4, .int k0), (0, .ref q), (1, .int x1), (2, .int x2), (3, .int x3), (5, .int x5)]) hx hb dX11_answerOf_55 hl (by decide) rfl (fun ls hl => ?_)
  exact tX11_answerOf_b57 C0 hr6 h hH (lv_sub hl [1, 2, 3, 4, 0, 5] rfl)
set_option maxRecDepth 100000 in
set_option maxHeartbeats 4000000 in
theorem tX11_answerOf_b6 {p : Program} {l : Launch} {e : Env} {s : State} {m : MethodId} {args : Array Value} {below : List Frame} {meth : Method} {c : Code} {A : Nat → Prop} {dC : Nat → ClassId} {dI : Nat → Nat → Nat} {cI : ClassId} {q q_tongue q_refused q_fresh q_kept q_isKept q_text q_said q_talk : Nat} {m_thrown : Int32} {m_size : Int32} {m_at : Int32} {m_start : Int32} {m_token : Int32} {m_value : Int64} {m_faultAt : Int32} {m_allowed : Int32} {m_firstPair : Int32} {m_secondPair : Int32} {m_above : Int64} {m_below : Int64} {m_tongue : Nat → Int32} {x1 : Int32} {x2 : Int32} {x3 : Int32} (C0 : gm_C p s m args meth c (dC, dI) [(cI, .int)] A gm_T RX11 cX11_answerOf 6 (some .int) wsX11_answerOf) {N : Nat} {out : Int32}   : ∀ (n : Nat), ∀ (x4 : Int32) (x5 : Int32) (H : Heap) (locs : List Loc) (ls : Array Slot), (gm_fix (fX11_answerOf_b6_body N  m_tongue x1 x2 x3) (fun _ _ => none) n) x4 x5 = some out → gm_H (dC, dI) A s (wX11_answerOf cI q q_tongue q_refused q_fresh q_kept q_isKept q_text q_said q_talk m_thrown m_size m_at m_start m_token m_value m_faultAt m_allowed m_firstPair m_secondPair m_above m_below m_tongue) H locs → lv_has ls 6 [(0, .ref q), (1, .int x1), (2, .int x2), (3, .int x3), (4, .int x4), (5, .int x5)] → W p l e rX11_answerOf s m args below meth c H locs 0 0 (MQ below (gm_Q (dC, dI) [(cI, .int)] A (some (.int out)) (wX11_answerOf cI q q_tongue q_refused q_fresh q_kept q_isKept q_text q_said q_talk m_thrown m_size m_at m_start m_token m_value m_faultAt m_allowed m_firstPair m_secondPair m_above m_below m_tongue)) args s 0 0 A) (F0 m 6 ls []) := by
  obtain ⟨hx, hb, hml, hr, hown, hts, hA, hK, hX, hlocks⟩ := id C0
  intro n
  induction n with
  | zero =>
    intro x4 x5 H locs ls h hH hl
    cases h
  | succ n hr6 =>
    intro x4 x5 H locs ls h hH hl
    rw [gm_fix_s] at h
    unfold fX11_answerOf_b6_body at h
    refine lv_iload hx hb dX11_answerOf_6 (lv_at hl 5 rfl) ?_
    refine lv_aload_n hx hb dX11_answerOf_8 rfl (lv_at hl 0 rfl) ?_
    refine gm_get (ci := 11) C0 hH inX11_answerOf_X11 0 2 1 rfl rfl (by decide) rfl rfl dX11_answerOf_9 ?_
    refine lv_iconst (v := 0) hx hb dX11_answerOf_12 (by decide) ?_
    obtain ⟨hi1, h⟩ := gm_chk_e h
    refine gm_iald C0 hH hi1 1 0 rfl rfl dX11_answerOf_13 ?_
    refine lv_icmp_ge (tgt := 63) hx hb dX11_answerOf_14 (by decide) (fun hc2 => ?_) (fun hc2 => ?_)
    · replace h := gm_pos hc2 h
      refine lv_iload hx hb dX11_answerOf_63 (lv_at hl 4 rfl) ?_
      obtain rfl := Option.some.inj h
      exact gm_iret C0 hH dX11_answerOf_65
    · replace h := gm_neg hc2 h
      refine lv_aload_n hx hb dX11_answerOf_17 rfl (lv_at hl 0 rfl) ?_
      refine lv_iload_n hx hb dX11_answerOf_18 rfl (lv_at hl 1 rfl) ?_
      refine lv_iload_n hx hb dX11_answerOf_19 rfl (lv_at hl 2 rfl) ?_
      refine lv_iload hx hb dX11_answerOf_20 (lv_at hl 5 rfl) ?_
      refine lv_iload_n hx hb dX11_answerOf_22 rfl (lv_at hl 3 rfl) ?_
      obtain ⟨o3, ho3, h⟩ := gm_bind_e h
      refine gm_callV (As := [.int x1, .int x2, .int x5, .int x3]) (rest := []) (n := 4) (ci := 11) (q0 := 0) C0 hH (mX11_chimes l dC dI cI q q_tongue q_refused q_fresh q_kept q_isKept q_text q_said q_talk m_thrown m_size m_at m_start m_token m_value m_faultAt m_allowed m_firstPair m_secondPair m_above m_below m_tongue x1 x2 x5 x3   ho3) gX11_answerOf_X11_chimes rfl (by decide +kernel) ⟨rfl, rfl, Nat.le_of_ble_eq_true rfl, Nat.le_of_ble_eq_true rfl⟩ gm_T_ok (fun _ => trivial) [0, 1] rfl rfl rfl [0] rfl rfl rfl rfl hl.1 rfl (Nat.le_of_ble_eq_true rfl) dX11_answerOf_23 ⟨Nat.zero_le _, Nat.zero_le _⟩ (fun H locs hH => ?_)
      have hH : gm_H (dC, dI) A s (wX11_answerOf cI q q_tongue q_refused q_fresh q_kept q_isKept q_text q_said q_talk m_thrown m_size m_at m_start m_token m_value m_faultAt m_allowed m_firstPair m_secondPair m_above m_below m_tongue) H locs := hH
      refine lv_if_eq (tgt := 57) hx hb dX11_answerOf_26 (by decide) (fun hc4 => ?_) (fun hc4 => ?_)
      · replace h := gm_pos hc4 h
        exact tX11_answerOf_b57 C0 hr6 h hH (lv_sub hl [0, 1, 2, 3, 4, 5] rfl)
      · replace h := gm_neg hc4 h
        refine lv_aload_n hx hb dX11_answerOf_29 rfl (lv_at hl 0 rfl) ?_
        refine lv_iload hx hb dX11_answerOf_30 (lv_at hl 5 rfl) ?_
        obtain ⟨o5, ho5, h⟩ := gm_bind_e h
        refine gm_callV (As := [.int x5]) (rest := []) (n := 1) (ci := 11) (q0 := 0) C0 hH (mX11_meaning l dC dI cI q q_tongue q_refused q_fresh q_kept q_isKept q_text q_said q_talk m_thrown m_size m_at m_start m_token m_value m_faultAt m_allowed m_firstPair m_secondPair m_above m_below m_tongue x5   ho5) gX11_answerOf_X11_meaning rfl (by decide +kernel) ⟨rfl, rfl, Nat.le_of_ble_eq_true rfl, Nat.le_of_ble_eq_true rfl⟩ gm_T_ok (fun _ => trivial) [0, 1] rfl rfl rfl [0] rfl rfl rfl rfl hl.1 rfl (Nat.le_of_ble_eq_true rfl) dX11_answerOf_32 ⟨Nat.zero_le _, Nat.zero_le _⟩ (fun H locs hH => ?_)
        have hH : gm_H (dC, dI) A s (wX11_answerOf cI q q_tongue q_refused q_fresh q_kept q_isKept q_text q_said q_talk m_thrown m_size m_at m_start m_token m_value m_faultAt m_allowed m_firstPair m_secondPair m_above m_below m_tongue) H locs := hH
        refine lv_iload_n hx hb dX11_answerOf_35 rfl (lv_at hl 2 rfl) ?_
        refine lv_icmp_ne (tgt := 42) hx hb dX11_answerOf_36 (by decide) (fun hc6 => ?_) (fun hc6 => ?_)
        · replace h := gm_neg hc6 h
          refine lv_iload hx hb dX11_answerOf_42 (lv_at hl 4 rfl) ?_
          refine lv_iconst (v := (-1)) hx hb dX11_answerOf_44 (by decide) ?_
          refine lv_icmp_ne (tgt := 53) hx hb dX11_answerOf_45 (by decide) (fun hc7 => ?_) (fun hc7 => ?_)
          · replace h := gm_neg hc7 h
            refine lv_iload hx hb dX11_answerOf_53 (lv_at hl 4 rfl) ?_
            exact tX11_answerOf_b55 C0 hr6 h hH (lv_sub hl [0, 1, 2, 3, 5] rfl)
          · replace h := gm_pos hc7 h
            refine lv_iload hx hb dX11_answerOf_48 (lv_at hl 5 rfl) ?_
            refine lv_goto (tgt := 55) hx hb dX11_answerOf_50 (by decide) ?_
            exact tX11_answerOf_b55 C0 hr6 h hH (lv_sub hl [0, 1, 2, 3, 5] rfl)
        · replace h := gm_pos hc6 h
          refine lv_iload hx hb dX11_answerOf_39 (lv_at hl 5 rfl) ?_
          obtain rfl := Option.some.inj h
          exact gm_iret C0 hH dX11_answerOf_41
set_option maxRecDepth 100000 in
set_option maxHeartbeats 4000000 in
theorem mX11_answerOf (l : Launch) (dC : Nat → ClassId) (dI : Nat → Nat → Nat) (cI : ClassId) (q q_tongue q_refused q_fresh q_kept q_isKept q_text q_said q_talk : Nat) (m_thrown : Int32) (m_size : Int32) (m_at : Int32) (m_start : Int32) (m_token : Int32) (m_value : Int64) (m_faultAt : Int32) (m_allowed : Int32) (m_firstPair : Int32) (m_secondPair : Int32) (m_above : Int64) (m_below : Int64) (m_tongue : Nat → Int32) (x1 : Int32) (x2 : Int32) (x3 : Int32)  {N : Nat} {out : Int32} (h : fX11_answerOf N m_tongue x1 x2 x3 = some out) : gm_Met l yX11_answerOf wsX11_answerOf rX11_answerOf (dC, dI) [(cI, .int)] gm_T [.ref q, .int x1, .int x2, .int x3] (wX11_answerOf cI q q_tongue q_refused q_fresh q_kept q_isKept q_text q_said q_talk m_thrown m_size m_at m_start m_token m_value m_faultAt m_allowed m_firstPair m_secondPair m_above m_below m_tongue) (some (.int out)) (wX11_answerOf cI q q_tongue q_refused q_fresh q_kept q_isKept q_text q_said q_talk m_thrown m_size m_at m_start m_token m_value m_faultAt m_allowed m_firstPair m_secondPair m_above m_below m_tongue) := by
  refine gm_ofW (cc := cX11_answerOf) (maxL := 6) (ret := (some .int)) (by decide +kernel) rfl (Nat.le_of_ble_eq_true rfl) ?_
  intro p e s m below meth c A C0 hH ls hl
  generalize ([.ref q, .int x1, .int x2, .int x3] : List Value).toArray = args at C0 ⊢
  have hl : lv_has ls 6 [(0, .ref q), (1, .int x1), (2, .int x2), (3, .int x3)] := hl
  generalize s.heap = H at hH ⊢
  generalize ([] : List Loc) = locs at hH ⊢
  obtain ⟨hx, hb, hml, hr, hown, hts, hA, hK, hX, hlocks⟩ := id C0
  unfold fX11_answerOf at h
  refine lv_iconst (v := (-1)) hx hb dX11_answerOf_0 (by decide) ?_
  refine lv_istore (lv' := [(4, .int (-1)), (0, .ref q), (1, .int x1), (2, .int x2), (3, .int x3)]) hx hb dX11_answerOf_1 hl (by decide) rfl (fun ls hl => ?_)
  refine lv_iconst (v := 0) hx hb dX11_answerOf_3 (by decide) ?_
  refine lv_istore (lv' := [(5, .int 0), (4, .int (-1)), (0, .ref q), (1, .int x1), (2, .int x2), (3, .int x3)]) hx hb dX11_answerOf_4 hl (by decide) rfl (fun ls hl => ?_)
  unfold fX11_answerOf_b6 at h
  exact tX11_answerOf_b6 C0  _ _ _ _ _ _ h hH (lv_sub hl [2, 3, 4, 5, 1, 0] rfl)

/-! X11_wantsOf -/
abbrev wX11_wantsOf (cI : ClassId) (q q_tongue q_refused q_fresh q_kept q_isKept q_text q_said q_talk : Nat) (m_thrown : Int32) (m_size : Int32) (m_at : Int32) (m_start : Int32) (m_token : Int32) (m_value : Int64) (m_faultAt : Int32) (m_allowed : Int32) (m_firstPair : Int32) (m_secondPair : Int32) (m_above : Int64) (m_below : Int64) (m_tongue : Nat → Int32) : va_W := [(q, .inr (11, [.int m_thrown, .ref q_refused, .ref q_tongue, .ref q_fresh, .ref q_kept, .ref q_isKept, .ref q_text, .int m_size, .int m_at, .int m_start, .int m_token, .long m_value, .int m_faultAt, .ref q_said, .ref q_talk, .int m_allowed, .int m_firstPair, .int m_secondPair, .long m_above, .long m_below])), (q_tongue, .inl (cI, 73, .inl m_tongue))]
abbrev rX11_wantsOf : Room := { frames := 5, cells := 0, slots := 0, locals := 114 }
def fX11_wantsOf_b93 (N : Nat) (r4 : Int32 → Int32 → Option (Int32)) (m_tongue : Nat → Int32) (x1 : Int32) (x3 : Int32) (k0 : Int32) (k1 : Int32) : Option (Int32) := gm_let ((k0 ||| k1) : Int32) (fun (v5 : Int32) => (r4 v5 ((x3 + 1))))
def fX11_wantsOf_b80 (N : Nat) (r4 : Int32 → Int32 → Option (Int32)) (m_tongue : Nat → Int32) (x1 : Int32) (x2 : Int32) (x3 : Int32) (x4 : Int32) : Option (Int32) := (if x4 = 0 then (fX11_wantsOf_b93 N r4 m_tongue x1 x3 x2 0) else (fX11_wantsOf_b93 N r4 m_tongue x1 x3 x2 (((1 : Int32) <<< (x3 &&& 31)))))
def fX11_wantsOf_b72 (N : Nat) (r4 : Int32 → Int32 → Option (Int32)) (r16 : Int32 → Int32 → Option (Int32)) (m_tongue : Nat → Int32) (x1 : Int32) (x2 : Int32) (x3 : Int32) (x5 : Int32) (k0 : Int32) : Option (Int32) := (r16 k0 ((x5 + 1)))
def fX11_wantsOf_b71 (N : Nat) (r4 : Int32 → Int32 → Option (Int32)) (r16 : Int32 → Int32 → Option (Int32)) (m_tongue : Nat → Int32) (x1 : Int32) (x2 : Int32) (x3 : Int32) (x5 : Int32) : Option (Int32) := (fX11_wantsOf_b72 N r4 r16 m_tongue x1 x2 x3 x5 0)
def fX11_wantsOf_b16_body (N : Nat) (r4 : Int32 → Int32 → Option (Int32)) (m_tongue : Nat → Int32) (x1 : Int32) (x2 : Int32) (x3 : Int32) (r16 : Int32 → Int32 → Option (Int32)) (x4 : Int32) (x5 : Int32) : Option (Int32) := gm_chk 3 73 ((if (m_tongue (Int32.toNatClampNeg 3)) ≤ x5 then (fX11_wantsOf_b80 N r4 m_tongue x1 x2 x3 x4) else (if x4 = 0 then (fX11_wantsOf_b71 N r4 r16 m_tongue x1 x2 x3 x5) else gm_chk ((53 + (2 * x5))) 73 (gm_bind (fX11_answerOf N m_tongue x1 x3 ((m_tongue (Int32.toNatClampNeg ((53 + (2 * x5))))))) (fun o8 => gm_chk (((53 + (2 * x5)) + 1)) 73 ((if o8 = (m_tongue (Int32.toNatClampNeg (((53 + (2 * x5)) + 1)))) then (fX11_wantsOf_b72 N r4 r16 m_tongue x1 x2 x3 x5 1) else (fX11_wantsOf_b71 N r4 r16 m_tongue x1 x2 x3 x5))))))))
def fX11_wantsOf_b16 (N : Nat) (r4 : Int32 → Int32 → Option (Int32)) (m_tongue : Nat → Int32) (x1 : Int32) (x2 : Int32) (x3 : Int32) (x4 : Int32) (x5 : Int32) : Option (Int32) := gm_fix (fX11_wantsOf_b16_body N r4 m_tongue x1 x2 x3) (fun _ _ => none) N x4 x5
def fX11_wantsOf_b4_body (N : Nat)  (m_tongue : Nat → Int32) (x1 : Int32) (r4 : Int32 → Int32 → Option (Int32)) (x2 : Int32) (x3 : Int32) : Option (Int32) := (if 8 ≤ x3 then some (x2) else (fX11_wantsOf_b16 N r4 m_tongue x1 x2 x3 1 0))
def fX11_wantsOf_b4 (N : Nat)  (m_tongue : Nat → Int32) (x1 : Int32) (x2 : Int32) (x3 : Int32) : Option (Int32) := gm_fix (fX11_wantsOf_b4_body N  m_tongue x1) (fun _ _ => none) N x2 x3
def fX11_wantsOf (N : Nat) (m_tongue : Nat → Int32) (x1 : Int32) : Option (Int32) := (fX11_wantsOf_b4 N  m_tongue x1 0 0)
set_option maxRecDepth 20000 in
theorem inX11_wantsOf_X11 : ∀ w ∈ u_ws RX11 TX11 20, w ∈ wsX11_wantsOf := fun w h => by
  obtain ⟨k, hk, rfl⟩ := List.mem_map.mp h
  have hk2 := List.mem_range.mp hk
  exact List.mem_of_getElem? (i := 34 + k) (by rcases (show k = 0 ∨ k = 1 ∨ k = 2 ∨ k = 3 ∨ k = 4 ∨ k = 5 ∨ k = 6 ∨ k = 7 ∨ k = 8 ∨ k = 9 ∨ k = 10 ∨ k = 11 ∨ k = 12 ∨ k = 13 ∨ k = 14 ∨ k = 15 ∨ k = 16 ∨ k = 17 ∨ k = 18 ∨ k = 19 by omega) with rfl | rfl | rfl | rfl | rfl | rfl | rfl | rfl | rfl | rfl | rfl | rfl | rfl | rfl | rfl | rfl | rfl | rfl | rfl | rfl <;> rfl)
set_option maxRecDepth 100000 in
set_option maxHeartbeats 4000000 in
theorem tX11_wantsOf_b93 {p : Program} {l : Launch} {e : Env} {s : State} {m : MethodId} {args : Array Value} {below : List Frame} {meth : Method} {c : Code} {A : Nat → Prop} {dC : Nat → ClassId} {dI : Nat → Nat → Nat} {cI : ClassId} {q q_tongue q_refused q_fresh q_kept q_isKept q_text q_said q_talk : Nat} {m_thrown : Int32} {m_size : Int32} {m_at : Int32} {m_start : Int32} {m_token : Int32} {m_value : Int64} {m_faultAt : Int32} {m_allowed : Int32} {m_firstPair : Int32} {m_secondPair : Int32} {m_above : Int64} {m_below : Int64} {m_tongue : Nat → Int32} {x1 : Int32} {x3 : Int32} {k0 : Int32} {k1 : Int32} (C0 : gm_C p s m args meth c (dC, dI) [(cI, .int)] A gm_T RX11 cX11_wantsOf 6 (some .int) wsX11_wantsOf) {N : Nat} {out : Int32} {r4 : Int32 → Int32 → Option (Int32)} (hr4 : ∀ (x2 : Int32) (x3 : Int32) (H : Heap) (locs : List Loc) (ls : Array Slot), r4 x2 x3 = some out → gm_H (dC, dI) A s (wX11_wantsOf cI q q_tongue q_refused q_fresh q_kept q_isKept q_text q_said q_talk m_thrown m_size m_at m_start m_token m_value m_faultAt m_allowed m_firstPair m_secondPair m_above m_below m_tongue) H locs → lv_has ls 6 [(0, .ref q), (1, .int x1), (2, .int x2), (3, .int x3)] → W p l e rX11_wantsOf s m args below meth c H locs 0 0 (MQ below (gm_Q (dC, dI) [(cI, .int)] A (some (.int out)) (wX11_wantsOf cI q q_tongue q_refused q_fresh q_kept q_isKept q_text q_said q_talk m_thrown m_size m_at m_start m_token m_value m_faultAt m_allowed m_firstPair m_secondPair m_above m_below m_tongue)) args s 0 0 A) (F0 m 4 ls []))   {H : Heap} {locs : List Loc} {ls : Array Slot} (h : fX11_wantsOf_b93 N r4 m_tongue x1 x3 k0 k1 = some out) (hH : gm_H (dC, dI) A s (wX11_wantsOf cI q q_tongue q_refused q_fresh q_kept q_isKept q_text q_said q_talk m_thrown m_size m_at m_start m_token m_value m_faultAt m_allowed m_firstPair m_secondPair m_above m_below m_tongue) H locs) (hl : lv_has ls 6 [(0, .ref q), (1, .int x1), (3, .int x3)]) : W p l e rX11_wantsOf s m args below meth c H locs 0 0 (MQ below (gm_Q (dC, dI) [(cI, .int)] A (some (.int out)) (wX11_wantsOf cI q q_tongue q_refused q_fresh q_kept q_isKept q_text q_said q_talk m_thrown m_size m_at m_start m_token m_value m_faultAt m_allowed m_firstPair m_secondPair m_above m_below m_tongue)) args s 0 0 A) (F0 m 93 ls [.int k1, .int k0]) := by
  obtain ⟨hx, hb, hml, hr, hown, hts, hA, hK, hX, hlocks⟩ := id C0
  unfold fX11_wantsOf_b93 at h
  refine lv_ior hx hb dX11_wantsOf_93 ?_
  refine lv_topi (fun v5 ev5 => ?_)
  replace h := gm_let_e ev5 h
  refine lv_istore_n (lv' := [(2, .int v5), (0, .ref q), (1, .int x1), (3, .int x3)]) hx hb dX11_wantsOf_94 rfl hl (by decide) rfl (fun ls hl => ?_)
  refine lv_iinc (v := (x3 + 1)) (lv' := [(3, .int (x3 + 1)), (2, .int v5), (0, .ref q), (1, .int x1)]) hx hb dX11_wantsOf_95 hl (k := 3) rfl rfl (by decide) rfl (fun ls hl => ?_)
  refine lv_goto (tgt := 4) hx hb dX11_wantsOf_98 (by decide) ?_
  exact hr4 _ _ _ _ _ h hH (lv_sub hl [2, 3, 1, 0] rfl)
set_option maxRecDepth 100000 in
set_option maxHeartbeats 4000000 in
theorem tX11_wantsOf_b80 {p : Program} {l : Launch} {e : Env} {s : State} {m : MethodId} {args : Array Value} {below : List Frame} {meth : Method} {c : Code} {A : Nat → Prop} {dC : Nat → ClassId} {dI : Nat → Nat → Nat} {cI : ClassId} {q q_tongue q_refused q_fresh q_kept q_isKept q_text q_said q_talk : Nat} {m_thrown : Int32} {m_size : Int32} {m_at : Int32} {m_start : Int32} {m_token : Int32} {m_value : Int64} {m_faultAt : Int32} {m_allowed : Int32} {m_firstPair : Int32} {m_secondPair : Int32} {m_above : Int64} {m_below : Int64} {m_tongue : Nat → Int32} {x1 : Int32} {x2 : Int32} {x3 : Int32} {x4 : Int32} (C0 : gm_C p s m args meth c (dC, dI) [(cI, .int)] A gm_T RX11 cX11_wantsOf 6 (some .int) wsX11_wantsOf) {N : Nat} {out : Int32} {r4 : Int32 → Int32 → Option (Int32)} (hr4 : ∀ (x2 : Int32) (x3 : Int32) (H : Heap) (locs : List Loc) (ls : Array Slot), r4 x2 x3 = some out → gm_H (dC, dI) A s (wX11_wantsOf cI q q_tongue q_refused q_fresh q_kept q_isKept q_text q_said q_talk m_thrown m_size m_at m_start m_token m_value m_faultAt m_allowed m_firstPair m_secondPair m_above m_below m_tongue) H locs → lv_has ls 6 [(0, .ref q), (1, .int x1), (2, .int x2), (3, .int x3)] → W p l e rX11_wantsOf s m args below meth c H locs 0 0 (MQ below (gm_Q (dC, dI) [(cI, .int)] A (some (.int out)) (wX11_wantsOf cI q q_tongue q_refused q_fresh q_kept q_isKept q_text q_said q_talk m_thrown m_size m_at m_start m_token m_value m_faultAt m_allowed m_firstPair m_secondPair m_above m_below m_tongue)) args s 0 0 A) (F0 m 4 ls []))   {H : Heap} {locs : List Loc} {ls : Array Slot} (h : fX11_wantsOf_b80 N r4 m_tongue x1 x2 x3 x4 = some out) (hH : gm_H (dC, dI) A s (wX11_wantsOf cI q q_tongue q_refused q_fresh q_kept q_isKept q_text q_said q_talk m_thrown m_size m_at m_start m_token m_value m_faultAt m_allowed m_firstPair m_secondPair m_above m_below m_tongue) H locs) (hl : lv_has ls 6 [(0, .ref q), (1, .int x1), (2, .int x2), (3, .int x3), (4, .int x4)]) : W p l e rX11_wantsOf s m args below meth c H locs 0 0 (MQ below (gm_Q (dC, dI) [(cI, .int)] A (some (.int out)) (wX11_wantsOf cI q q_tongue q_refused q_fresh q_kept q_isKept q_text q_said q_talk m_thrown m_size m_at m_start m_token m_value m_faultAt m_allowed m_firstPair m_secondPair m_above m_below m_tongue)) args s 0 0 A) (F0 m 80 ls []) := by
  obtain ⟨hx, hb, hml, hr, hown, hts, hA, hK, hX, hlocks⟩ := id C0
  unfold fX11_wantsOf_b80 at h
  refine lv_iload_n hx hb dX11_wantsOf_80 rfl (lv_at hl 2 rfl) ?_
  refine lv_iload hx hb dX11_wantsOf_81 (lv_at hl 4 rfl) ?_
  refine lv_if_eq (tgt := 92) hx hb dX11_wantsOf_83 (by decide) (fun hc4 => ?_) (fun hc4 => ?_)
  · replace h := gm_pos hc4 h
    refine lv_iconst (v := 0) hx hb dX11_wantsOf_92 (by decide) ?_
    exact tX11_wantsOf_b93 C0 hr4 h hH (lv_sub hl [0, 1, 3] rfl)
  · replace h := gm_neg hc4 h
    refine lv_iconst (v := 1) hx hb dX11_wantsOf_86 (by decide) ?_
    refine lv_iload_n hx hb dX11_wantsOf_87 rfl (lv_at hl 3 rfl) ?_
    refine lv_ishl hx hb dX11_wantsOf_88 ?_
    refine lv_goto (tgt := 93) hx hb dX11_wantsOf_89 (by decide) ?_
    exact tX11_wantsOf_b93 C0 hr4 h hH (lv_sub hl [0, 1, 3] rfl)
set_option maxRecDepth 100000 in
set_option maxHeartbeats 4000000 in
theorem tX11_wantsOf_b72 {p : Program} {l : Launch} {e : Env} {s : State} {m : MethodId} {args : Array Value} {below : List Frame} {meth : Method} {c : Code} {A : Nat → Prop} {dC : Nat → ClassId} {dI : Nat → Nat → Nat} {cI : ClassId} {q q_tongue q_refused q_fresh q_kept q_isKept q_text q_said q_talk : Nat} {m_thrown : Int32} {m_size : Int32} {m_at : Int32} {m_start : Int32} {m_token : Int32} {m_value : Int64} {m_faultAt : Int32} {m_allowed : Int32} {m_firstPair : Int32} {m_secondPair : Int32} {m_above : Int64} {m_below : Int64} {m_tongue : Nat → Int32} {x1 : Int32} {x2 : Int32} {x3 : Int32} {x5 : Int32} {k0 : Int32} (C0 : gm_C p s m args meth c (dC, dI) [(cI, .int)] A gm_T RX11 cX11_wantsOf 6 (some .int) wsX11_wantsOf) {N : Nat} {out : Int32} {r4 : Int32 → Int32 → Option (Int32)} (hr4 : ∀ (x2 : Int32) (x3 : Int32) (H : Heap) (locs : List Loc) (ls : Array Slot), r4 x2 x3 = some out → gm_H (dC, dI) A s (wX11_wantsOf cI q q_tongue q_refused q_fresh q_kept q_isKept q_text q_said q_talk m_thrown m_size m_at m_start m_token m_value m_faultAt m_allowed m_firstPair m_secondPair m_above m_below m_tongue) H locs → lv_has ls 6 [(0, .ref q), (1, .int x1), (2, .int x2), (3, .int x3)] → W p l e rX11_wantsOf s m args below meth c H locs 0 0 (MQ below (gm_Q (dC, dI) [(cI, .int)] A (some (.int out)) (wX11_wantsOf cI q q_tongue q_refused q_fresh q_kept q_isKept q_text q_said q_talk m_thrown m_size m_at m_start m_token m_value m_faultAt m_allowed m_firstPair m_secondPair m_above m_below m_tongue)) args s 0 0 A) (F0 m 4 ls [])) {r16 : Int32 → Int32 → Option (Int32)} (hr16 : ∀ (x4 : Int32) (x5 : Int32) (H : Heap) (locs : List Loc) (ls : Array Slot), r16 x4 x5 = some out → gm_H (dC, dI) A s (wX11_wantsOf cI q q_tongue q_refused q_fresh q_kept q_isKept q_text q_said q_talk m_thrown m_size m_at m_start m_token m_value m_faultAt m_allowed m_firstPair m_secondPair m_above m_below m_tongue) H locs → lv_has ls 6 [(0, .ref q), (1, .int x1), (2, .int x2), (3, .int x3), (4, .int x4), (5, .int x5)] → W p l e rX11_wantsOf s m args below meth c H locs 0 0 (MQ below (gm_Q (dC, dI) [(cI, .int)] A (some (.int out)) (wX11_wantsOf cI q q_tongue q_refused q_fresh q_kept q_isKept q_text q_said q_talk m_thrown m_size m_at m_start m_token m_value m_faultAt m_allowed m_firstPair m_secondPair m_above m_below m_tongue)) args s 0 0 A) (F0 m 16 ls []))   {H : Heap} {locs : List Loc} {ls : Array Slot} (h : fX11_wantsOf_b72 N r4 r16 m_tongue x1 x2 x3 x5 k0 = some out) (hH : gm_H (dC, dI) A s (wX11_wantsOf cI q q_tongue q_refused q_fresh q_kept q_isKept q_text q_said q_talk m_thrown m_size m_at m_start m_token m_value m_faultAt m_allowed m_firstPair m_secondPair m_above m_below m_tongue) H locs) (hl : lv_has ls 6 [(0, .ref q), (1, .int x1), (2, .int x2), (3, .int x3), (5, .int x5)]) : W p l e rX11_wantsOf s m args below meth c H locs 0 0 (MQ below (gm_Q (dC, dI) [(cI, .int)] A (some (.int out)) (wX11_wantsOf cI q q_tongue q_refused q_fresh q_kept q_isKept q_text q_said q_talk m_thrown m_size m_at m_start m_token m_value m_faultAt m_allowed m_firstPair m_secondPair m_above m_below m_tongue)) args s 0 0 A) (F0 m 72 ls [.int k0]) := by
  obtain ⟨hx, hb, hml, hr, hown, hts, hA, hK, hX, hlocks⟩ := id C0
  unfold fX11_wantsOf_b72 at h
  refine lv_istore (lv' := [(4, .int k0), (0, .ref q), (1, .int x1), (2, .int x2), (3, .int x3), (5, .int x5)]) hx hb dX11_wantsOf_72 hl (by decide) rfl (fun ls hl => ?_)
  refine lv_iinc (v := (x5 + 1)) (lv' := [(5, .int (x5 + 1)), (4, .int k0), (0, .ref q), (1, .int x1), (2, .int x2), (3, .int x3)]) hx hb dX11_wantsOf_74 hl (k := 5) rfl rfl (by decide) rfl (fun ls hl => ?_)
  refine lv_goto (tgt := 16) hx hb dX11_wantsOf_77 (by decide) ?_
  exact hr16 _ _ _ _ _ h hH (lv_sub hl [2, 3, 4, 5, 1, 0] rfl)
set_option maxRecDepth 100000 in
set_option maxHeartbeats 4000000 in
theorem tX11_wantsOf_b71 {p : Program} {l : Launch} {e : Env} {s : State} {m : MethodId} {args : Array Value} {below : List Frame} {meth : Method} {c : Code} {A : Nat → Prop} {dC : Nat → ClassId} {dI : Nat → Nat → Nat} {cI : ClassId} {q q_tongue q_refused q_fresh q_kept q_isKept q_text q_said q_talk : Nat} {m_thrown : Int32} {m_size : Int32} {m_at : Int32} {m_start : Int32} {m_token : Int32} {m_value : Int64} {m_faultAt : Int32} {m_allowed : Int32} {m_firstPair : Int32} {m_secondPair : Int32} {m_above : Int64} {m_below : Int64} {m_tongue : Nat → Int32} {x1 : Int32} {x2 : Int32} {x3 : Int32} {x5 : Int32} (C0 : gm_C p s m args meth c (dC, dI) [(cI, .int)] A gm_T RX11 cX11_wantsOf 6 (some .int) wsX11_wantsOf) {N : Nat} {out : Int32} {r4 : Int32 → Int32 → Option (Int32)} (hr4 : ∀ (x2 : Int32) (x3 : Int32) (H : Heap) (locs : List Loc) (ls : Array Slot), r4 x2 x3 = some out → gm_H (dC, dI) A s (wX11_wantsOf cI q q_tongue q_refused q_fresh q_kept q_isKept q_text q_said q_talk m_thrown m_size m_at m_start m_token m_value m_faultAt m_allowed m_firstPair m_secondPair m_above m_below m_tongue) H locs → lv_has ls 6 [(0, .ref q), (1, .int x1), (2, .int x2), (3, .int x3)] → W p l e rX11_wantsOf s m args below meth c H locs 0 0 (MQ below (gm_Q (dC, dI) [(cI, .int)] A (some (.int out)) (wX11_wantsOf cI q q_tongue q_refused q_fresh q_kept q_isKept q_text q_said q_talk m_thrown m_size m_at m_start m_token m_value m_faultAt m_allowed m_firstPair m_secondPair m_above m_below m_tongue)) args s 0 0 A) (F0 m 4 ls [])) {r16 : Int32 → Int32 → Option (Int32)} (hr16 : ∀ (x4 : Int32) (x5 : Int32) (H : Heap) (locs : List Loc) (ls : Array Slot), r16 x4 x5 = some out → gm_H (dC, dI) A s (wX11_wantsOf cI q q_tongue q_refused q_fresh q_kept q_isKept q_text q_said q_talk m_thrown m_size m_at m_start m_token m_value m_faultAt m_allowed m_firstPair m_secondPair m_above m_below m_tongue) H locs → lv_has ls 6 [(0, .ref q), (1, .int x1), (2, .int x2), (3, .int x3), (4, .int x4), (5, .int x5)] → W p l e rX11_wantsOf s m args below meth c H locs 0 0 (MQ below (gm_Q (dC, dI) [(cI, .int)] A (some (.int out)) (wX11_wantsOf cI q q_tongue q_refused q_fresh q_kept q_isKept q_text q_said q_talk m_thrown m_size m_at m_start m_token m_value m_faultAt m_allowed m_firstPair m_secondPair m_above m_below m_tongue)) args s 0 0 A) (F0 m 16 ls []))   {H : Heap} {locs : List Loc} {ls : Array Slot} (h : fX11_wantsOf_b71 N r4 r16 m_tongue x1 x2 x3 x5 = some out) (hH : gm_H (dC, dI) A s (wX11_wantsOf cI q q_tongue q_refused q_fresh q_kept q_isKept q_text q_said q_talk m_thrown m_size m_at m_start m_token m_value m_faultAt m_allowed m_firstPair m_secondPair m_above m_below m_tongue) H locs) (hl : lv_has ls 6 [(0, .ref q), (1, .int x1), (2, .int x2), (3, .int x3), (5, .int x5)]) : W p l e rX11_wantsOf s m args below meth c H locs 0 0 (MQ below (gm_Q (dC, dI) [(cI, .int)] A (some (.int out)) (wX11_wantsOf cI q q_tongue q_refused q_fresh q_kept q_isKept q_text q_said q_talk m_thrown m_size m_at m_start m_token m_value m_faultAt m_allowed m_firstPair m_secondPair m_above m_below m_tongue)) args s 0 0 A) (F0 m 71 ls []) := by
  obtain ⟨hx, hb, hml, hr, hown, hts, hA, hK, hX, hlocks⟩ := id C0
  unfold fX11_wantsOf_b71 at h
  refine lv_iconst (v := 0) hx hb dX11_wantsOf_71 (by decide) ?_
  exact tX11_wantsOf_b72 C0 hr4 hr16 h hH (lv_sub hl [0, 1, 2, 3, 4] rfl)
set_option maxRecDepth 100000 in
set_option maxHeartbeats 4000000 in
theorem tX11_wantsOf_b16 {p : Program} {l : Launch} {e : Env} {s : State} {m : MethodId} {args : Array Value} {below : List Frame} {meth : Method} {c : Code} {A : Nat → Prop} {dC : Nat → ClassId} {dI : Nat → Nat → Nat} {cI : ClassId} {q q_tongue q_refused q_fresh q_kept q_isKept q_text q_said q_talk : Nat} {m_thrown : Int32} {m_size : Int32} {m_at : Int32} {m_start : Int32} {m_token : Int32} {m_value : Int64} {m_faultAt : Int32} {m_allowed : Int32} {m_firstPair : Int32} {m_secondPair : Int32} {m_above : Int64} {m_below : Int64} {m_tongue : Nat → Int32} {x1 : Int32} {x2 : Int32} {x3 : Int32} (C0 : gm_C p s m args meth c (dC, dI) [(cI, .int)] A gm_T RX11 cX11_wantsOf 6 (some .int) wsX11_wantsOf) {N : Nat} {out : Int32} {r4 : Int32 → Int32 → Option (Int32)} (hr4 : ∀ (x2 : Int32) (x3 : Int32) (H : Heap) (locs : List Loc) (ls : Array Slot), r4 x2 x3 = some out → gm_H (dC, dI) A s (wX11_wantsOf cI q q_tongue q_refused q_fresh q_kept q_isKept q_text q_said q_talk m_thrown m_size m_at m_start m_token m_value m_faultAt m_allowed m_firstPair m_secondPair m_above m_below m_tongue) H locs → lv_has ls 6 [(0, .ref q), (1, .int x1), (2, .int x2), (3, .int x3)] → W p l e rX11_wantsOf s m args below meth c H locs 0 0 (MQ below (gm_Q (dC, dI) [(cI, .int)] A (some (.int out)) (wX11_wantsOf cI q q_tongue q_refused q_fresh q_kept q_isKept q_text q_said q_talk m_thrown m_size m_at m_start m_token m_value m_faultAt m_allowed m_firstPair m_secondPair m_above m_below m_tongue)) args s 0 0 A) (F0 m 4 ls []))  : ∀ (n : Nat), ∀ (x4 : Int32) (x5 : Int32) (H : Heap) (locs : List Loc) (ls : Array Slot), (gm_fix (fX11_wantsOf_b16_body N r4 m_tongue x1 x2 x3) (fun _ _ => none) n) x4 x5 = some out → gm_H (dC, dI) A s (wX11_wantsOf cI q q_tongue q_refused q_fresh q_kept q_isKept q_text q_said q_talk m_thrown m_size m_at m_start m_token m_value m_faultAt m_allowed m_firstPair m_secondPair m_above m_below m_tongue) H locs → lv_has ls 6 [(0, .ref q), (1, .int x1), (2, .int x2), (3, .int x3), (4, .int x4), (5, .int x5)] → W p l e rX11_wantsOf s m args below meth c H locs 0 0 (MQ below (gm_Q (dC, dI) [(cI, .int)] A (some (.int out)) (wX11_wantsOf cI q q_tongue q_refused q_fresh q_kept q_isKept q_text q_said q_talk m_thrown m_size m_at m_start m_token m_value m_faultAt m_allowed m_firstPair m_secondPair m_above m_below m_tongue)) args s 0 0 A) (F0 m 16 ls []) := by
  obtain ⟨hx, hb, hml, hr, hown, hts, hA, hK, hX, hlocks⟩ := id C0
  intro n
  induction n with
  | zero =>
    intro x4 x5 H locs ls h hH hl
    cases h
  | succ n hr16 =>
    intro x4 x5 H locs ls h hH hl
    rw [gm_fix_s] at h
    unfold fX11_wantsOf_b16_body at h
    refine lv_iload hx hb dX11_wantsOf_16 (lv_at hl 5 rfl) ?_
    refine lv_aload_n hx hb dX11_wantsOf_18 rfl (lv_at hl 0 rfl) ?_
    refine gm_get (ci := 11) C0 hH inX11_wantsOf_X11 0 2 1 rfl rfl (by decide) rfl rfl dX11_wantsOf_19 ?_
    refine lv_iconst (v := 3) hx hb dX11_wantsOf_22 (by decide) ?_
    obtain ⟨hi2, h⟩ := gm_chk_e h
    refine gm_iald C0 hH hi2 1 0 rfl rfl dX11_wantsOf_23 ?_
    refine lv_icmp_ge (tgt := 80) hx hb dX11_wantsOf_24 (by decide) (fun hc3 => ?_) (fun hc3 => ?_)
    · replace h := gm_pos hc3 h
      exact tX11_wantsOf_b80 C0 hr4 h hH (lv_sub hl [0, 1, 2, 3, 4] rfl)
    · replace h := gm_neg hc3 h
      refine lv_iload hx hb dX11_wantsOf_27 (lv_at hl 4 rfl) ?_
      refine lv_if_eq (tgt := 71) hx hb dX11_wantsOf_29 (by decide) (fun hc6 => ?_) (fun hc6 => ?_)
      · replace h := gm_pos hc6 h
        exact tX11_wantsOf_b71 C0 hr4 hr16 h hH (lv_sub hl [0, 1, 2, 3, 5] rfl)
      · replace h := gm_neg hc6 h
        refine lv_aload_n hx hb dX11_wantsOf_32 rfl (lv_at hl 0 rfl) ?_
        refine lv_iload_n hx hb dX11_wantsOf_33 rfl (lv_at hl 1 rfl) ?_
        refine lv_iload_n hx hb dX11_wantsOf_34 rfl (lv_at hl 3 rfl) ?_
        refine lv_aload_n hx hb dX11_wantsOf_35 rfl (lv_at hl 0 rfl) ?_
        refine gm_get (ci := 11) C0 hH inX11_wantsOf_X11 0 2 1 rfl rfl (by decide) rfl rfl dX11_wantsOf_36 ?_
        refine lv_bipush (v := 53) hx hb dX11_wantsOf_39 (by decide) ?_
        refine lv_iconst (v := 2) hx hb dX11_wantsOf_41 (by decide) ?_
        refine lv_iload hx hb dX11_wantsOf_42 (lv_at hl 5 rfl) ?_
        refine lv_imul hx hb dX11_wantsOf_44 ?_
        refine lv_iadd hx hb dX11_wantsOf_45 ?_
        obtain ⟨hi7, h⟩ := gm_chk_e h
        refine gm_iald C0 hH hi7 1 0 rfl rfl dX11_wantsOf_46 ?_
        obtain ⟨o8, ho8, h⟩ := gm_bind_e h
        refine gm_callV (As := [.int x1, .int x3, .int (m_tongue (Int32.toNatClampNeg ((53 + (2 * x5)))))]) (rest := []) (n := 3) (ci := 11) (q0 := 0) C0 hH (mX11_answerOf l dC dI cI q q_tongue q_refused q_fresh q_kept q_isKept q_text q_said q_talk m_thrown m_size m_at m_start m_token m_value m_faultAt m_allowed m_firstPair m_secondPair m_above m_below m_tongue x1 x3 ((m_tongue (Int32.toNatClampNeg ((53 + (2 * x5))))))   ho8) gX11_wantsOf_X11_answerOf rfl (by decide +kernel) ⟨rfl, rfl, Nat.le_of_ble_eq_true rfl, Nat.le_of_ble_eq_true rfl⟩ gm_T_ok (fun _ => trivial) [0, 1] rfl rfl rfl [0] rfl rfl rfl rfl hl.1 rfl (Nat.le_of_ble_eq_true rfl) dX11_wantsOf_47 ⟨Nat.zero_le _, Nat.zero_le _⟩ (fun H locs hH => ?_)
        have hH : gm_H (dC, dI) A s (wX11_wantsOf cI q q_tongue q_refused q_fresh q_kept q_isKept q_text q_said q_talk m_thrown m_size m_at m_start m_token m_value m_faultAt m_allowed m_firstPair m_secondPair m_above m_below m_tongue) H locs := hH
        refine lv_aload_n hx hb dX11_wantsOf_50 rfl (lv_at hl 0 rfl) ?_
        refine gm_get (ci := 11) C0 hH inX11_wantsOf_X11 0 2 1 rfl rfl (by decide) rfl rfl dX11_wantsOf_51 ?_
        refine lv_bipush (v := 53) hx hb dX11_wantsOf_54 (by decide) ?_
        refine lv_iconst (v := 2) hx hb dX11_wantsOf_56 (by decide) ?_
        refine lv_iload hx hb dX11_wantsOf_57 (lv_at hl 5 rfl) ?_
        refine lv_imul hx hb dX11_wantsOf_59 ?_
        refine lv_iadd hx hb dX11_wantsOf_60 ?_
        refine lv_iconst (v := 1) hx hb dX11_wantsOf_61 (by decide) ?_
        refine lv_iadd hx hb dX11_wantsOf_62 ?_
        obtain ⟨hi9, h⟩ := gm_chk_e h
        refine gm_iald C0 hH hi9 1 0 rfl rfl dX11_wantsOf_63 ?_
        refine lv_icmp_ne (tgt := 71) hx hb dX11_wantsOf_64 (by decide) (fun hc10 => ?_) (fun hc10 => ?_)
        · replace h := gm_neg hc10 h
          exact tX11_wantsOf_b71 C0 hr4 hr16 h hH (lv_sub hl [0, 1, 2, 3, 5] rfl)
        · replace h := gm_pos hc10 h
          refine lv_iconst (v := 1) hx hb dX11_wantsOf_67 (by decide) ?_
          refine lv_goto (tgt := 72) hx hb dX11_wantsOf_68 (by decide) ?_
          exact tX11_wantsOf_b72 C0 hr4 hr16 h hH (lv_sub hl [0, 1, 2, 3, 5] rfl)
set_option maxRecDepth 100000 in
set_option maxHeartbeats 4000000 in
theorem tX11_wantsOf_b4 {p : Program} {l : Launch} {e : Env} {s : State} {m : MethodId} {args : Array Value} {below : List Frame} {meth : Method} {c : Code} {A : Nat → Prop} {dC : Nat → ClassId} {dI : Nat → Nat → Nat} {cI : ClassId} {q q_tongue q_refused q_fresh q_kept q_isKept q_text q_said q_talk : Nat} {m_thrown : Int32} {m_size : Int32} {m_at : Int32} {m_start : Int32} {m_token : Int32} {m_value : Int64} {m_faultAt : Int32} {m_allowed : Int32} {m_firstPair : Int32} {m_secondPair : Int32} {m_above : Int64} {m_below : Int64} {m_tongue : Nat → Int32} {x1 : Int32} (C0 : gm_C p s m args meth c (dC, dI) [(cI, .int)] A gm_T RX11 cX11_wantsOf 6 (some .int) wsX11_wantsOf) {N : Nat} {out : Int32}   : ∀ (n : Nat), ∀ (x2 : Int32) (x3 : Int32) (H : Heap) (locs : List Loc) (ls : Array Slot), (gm_fix (fX11_wantsOf_b4_body N  m_tongue x1) (fun _ _ => none) n) x2 x3 = some out → gm_H (dC, dI) A s (wX11_wantsOf cI q q_tongue q_refused q_fresh q_kept q_isKept q_text q_said q_talk m_thrown m_size m_at m_start m_token m_value m_faultAt m_allowed m_firstPair m_secondPair m_above m_below m_tongue) H locs → lv_has ls 6 [(0, .ref q), (1, .int x1), (2, .int x2), (3, .int x3)] → W p l e rX11_wantsOf s m args below meth c H locs 0 0 (MQ below (gm_Q (dC, dI) [(cI, .int)] A (some (.int out)) (wX11_wantsOf cI q q_tongue q_refused q_fresh q_kept q_isKept q_text q_said q_talk m_thrown m_size m_at m_start m_token m_value m_faultAt m_allowed m_firstPair m_secondPair m_above m_below m_tongue)) args s 0 0 A) (F0 m 4 ls []) := by
  obtain ⟨hx, hb, hml, hr, hown, hts, hA, hK, hX, hlocks⟩ := id C0
  intro n
  induction n with
  | zero =>
    intro x2 x3 H locs ls h hH hl
    cases h
  | succ n hr4 =>
    intro x2 x3 H locs ls h hH hl
    rw [gm_fix_s] at h
    unfold fX11_wantsOf_b4_body at h
    refine lv_iload_n hx hb dX11_wantsOf_4 rfl (lv_at hl 3 rfl) ?_
    refine lv_bipush (v := 8) hx hb dX11_wantsOf_5 (by decide) ?_
    refine lv_icmp_ge (tgt := 101) hx hb dX11_wantsOf_7 (by decide) (fun hc1 => ?_) (fun hc1 => ?_)
    · replace h := gm_pos hc1 h
      refine lv_iload_n hx hb dX11_wantsOf_101 rfl (lv_at hl 2 rfl) ?_
      obtain rfl := Option.some.inj h
      exact gm_iret C0 hH dX11_wantsOf_102
    · replace h := gm_neg hc1 h
      refine lv_iconst (v := 1) hx hb dX11_wantsOf_10 (by decide) ?_
      refine lv_istore (lv' := [(4, .int 1), (0, .ref q), (1, .int x1), (2, .int x2), (3, .int x3)]) hx hb dX11_wantsOf_11 hl (by decide) rfl (fun ls hl => ?_)
      refine lv_iconst (v := 0) hx hb dX11_wantsOf_13 (by decide) ?_
      refine lv_istore (lv' := [(5, .int 0), (4, .int 1), (0, .ref q), (1, .int x1), (2, .int x2), (3, .int x3)]) hx hb dX11_wantsOf_14 hl (by decide) rfl (fun ls hl => ?_)
      unfold fX11_wantsOf_b16 at h
      exact tX11_wantsOf_b16 C0 hr4 _ _ _ _ _ _ h hH (lv_sub hl [2, 3, 4, 5, 1, 0] rfl)
set_option maxRecDepth 100000 in
set_option maxHeartbeats 4000000 in
theorem mX11_wantsOf (l : Launch) (dC : Nat → ClassId) (dI : Nat → Nat → Nat) (cI : ClassId) (q q_tongue q_refused q_fresh q_kept q_isKept q_text q_said q_talk : Nat) (m_thrown : Int32) (m_size : Int32) (m_at : Int32) (m_start : Int32) (m_token : Int32) (m_value : Int64) (m_faultAt : Int32) (m_allowed : Int32) (m_firstPair : Int32) (m_secondPair : Int32) (m_above : Int64) (m_below : Int64) (m_tongue : Nat → Int32) (x1 : Int32)  {N : Nat} {out : Int32} (h : fX11_wantsOf N m_tongue x1 = some out) : gm_Met l yX11_wantsOf wsX11_wantsOf rX11_wantsOf (dC, dI) [(cI, .int)] gm_T [.ref q, .int x1] (wX11_wantsOf cI q q_tongue q_refused q_fresh q_kept q_isKept q_text q_said q_talk m_thrown m_size m_at m_start m_token m_value m_faultAt m_allowed m_firstPair m_secondPair m_above m_below m_tongue) (some (.int out)) (wX11_wantsOf cI q q_tongue q_refused q_fresh q_kept q_isKept q_text q_said q_talk m_thrown m_size m_at m_start m_token m_value m_faultAt m_allowed m_firstPair m_secondPair m_above m_below m_tongue) := by
  refine gm_ofW (cc := cX11_wantsOf) (maxL := 6) (ret := (some .int)) (by decide +kernel) rfl (Nat.le_of_ble_eq_true rfl) ?_
  intro p e s m below meth c A C0 hH ls hl
  generalize ([.ref q, .int x1] : List Value).toArray = args at C0 ⊢
  have hl : lv_has ls 6 [(0, .ref q), (1, .int x1)] := hl
  generalize s.heap = H at hH ⊢
  generalize ([] : List Loc) = locs at hH ⊢
  obtain ⟨hx, hb, hml, hr, hown, hts, hA, hK, hX, hlocks⟩ := id C0
  unfold fX11_wantsOf at h
  refine lv_iconst (v := 0) hx hb dX11_wantsOf_0 (by decide) ?_
  refine lv_istore_n (lv' := [(2, .int 0), (0, .ref q), (1, .int x1)]) hx hb dX11_wantsOf_1 rfl hl (by decide) rfl (fun ls hl => ?_)
  refine lv_iconst (v := 0) hx hb dX11_wantsOf_2 (by decide) ?_
  refine lv_istore_n (lv' := [(3, .int 0), (2, .int 0), (0, .ref q), (1, .int x1)]) hx hb dX11_wantsOf_3 rfl hl (by decide) rfl (fun ls hl => ?_)
  unfold fX11_wantsOf_b4 at h
  exact tX11_wantsOf_b4 C0  _ _ _ _ _ _ h hH (lv_sub hl [2, 3, 1, 0] rfl)

/-! X11_wants -/
abbrev wX11_wants (cI : ClassId) (q q_refused q_tongue q_fresh q_kept q_isKept q_text q_said q_talk : Nat) (m_thrown : Int32) (m_size : Int32) (m_at : Int32) (m_start : Int32) (m_token : Int32) (m_value : Int64) (m_faultAt : Int32) (m_allowed : Int32) (m_firstPair : Int32) (m_secondPair : Int32) (m_above : Int64) (m_below : Int64) (m_refused : Nat → Int32) (m_tongue : Nat → Int32) : va_W := [(q, .inr (11, [.int m_thrown, .ref q_refused, .ref q_tongue, .ref q_fresh, .ref q_kept, .ref q_isKept, .ref q_text, .int m_size, .int m_at, .int m_start, .int m_token, .long m_value, .int m_faultAt, .ref q_said, .ref q_talk, .int m_allowed, .int m_firstPair, .int m_secondPair, .long m_above, .long m_below])), (q_refused, .inl (cI, 3, .inl m_refused)), (q_tongue, .inl (cI, 73, .inl m_tongue))]
abbrev rX11_wants : Room := { frames := 6, cells := 0, slots := 0, locals := 139 }
def fX11_wants (N : Nat) (m_thrown : Int32) (m_refused : Nat → Int32) (m_tongue : Nat → Int32) (x1 : Int32) : Option (Int32 × Int32 × (Nat → Int32)) := gm_bind (fX11_in N ((Int32.toInt64 x1)) 0 5) (fun o1 => (if o1 = 0 then gm_bind (fX11_bad N m_refused) (fun o3 => some (o3.1, 0, o3.2)) else gm_bind (fX11_wantsOf N m_tongue x1) (fun o4 => some (o4, 0, m_refused))))
set_option maxRecDepth 20000 in
theorem inX11_wants_X11 : ∀ w ∈ u_ws RX11 TX11 20, w ∈ wsX11_wants := fun w h => by
  obtain ⟨k, hk, rfl⟩ := List.mem_map.mp h
  have hk2 := List.mem_range.mp hk
  exact List.mem_of_getElem? (i := 52 + k) (by rcases (show k = 0 ∨ k = 1 ∨ k = 2 ∨ k = 3 ∨ k = 4 ∨ k = 5 ∨ k = 6 ∨ k = 7 ∨ k = 8 ∨ k = 9 ∨ k = 10 ∨ k = 11 ∨ k = 12 ∨ k = 13 ∨ k = 14 ∨ k = 15 ∨ k = 16 ∨ k = 17 ∨ k = 18 ∨ k = 19 by omega) with rfl | rfl | rfl | rfl | rfl | rfl | rfl | rfl | rfl | rfl | rfl | rfl | rfl | rfl | rfl | rfl | rfl | rfl | rfl | rfl <;> rfl)
set_option maxRecDepth 100000 in
set_option maxHeartbeats 4000000 in
theorem mX11_wants (l : Launch) (dC : Nat → ClassId) (dI : Nat → Nat → Nat) (cI : ClassId) (q q_refused q_tongue q_fresh q_kept q_isKept q_text q_said q_talk : Nat) (m_thrown : Int32) (m_size : Int32) (m_at : Int32) (m_start : Int32) (m_token : Int32) (m_value : Int64) (m_faultAt : Int32) (m_allowed : Int32) (m_firstPair : Int32) (m_secondPair : Int32) (m_above : Int64) (m_below : Int64) (m_refused : Nat → Int32) (m_tongue : Nat → Int32) (x1 : Int32)  {N : Nat} {out : Int32 × Int32 × (Nat → Int32)} (h : fX11_wants N m_thrown m_refused m_tongue x1 = some out) : gm_Met l yX11_wants wsX11_wants rX11_wants (dC, dI) [(cI, .int)] gm_T [.ref q, .int x1] (wX11_wants cI q q_refused q_tongue q_fresh q_kept q_isKept q_text q_said q_talk m_thrown m_size m_at m_start m_token m_value m_faultAt m_allowed m_firstPair m_secondPair m_above m_below m_refused m_tongue) (some (.int out.1)) (wX11_wants cI q q_refused q_tongue q_fresh q_kept q_isKept q_text q_said q_talk out.2.1 m_size m_at m_start m_token m_value m_faultAt m_allowed m_firstPair m_secondPair m_above m_below out.2.2 m_tongue) := by
  refine gm_ofW (cc := cX11_wants) (maxL := 2) (ret := (some .int)) (by decide +kernel) rfl (Nat.le_of_ble_eq_true rfl) ?_
  intro p e s m below meth c A C0 hH ls hl
  generalize ([.ref q, .int x1] : List Value).toArray = args at C0 ⊢
  have hl : lv_has ls 2 [(0, .ref q), (1, .int x1)] := hl
  generalize s.heap = H at hH ⊢
  generalize ([] : List Loc) = locs at hH ⊢
  obtain ⟨hx, hb, hml, hr, hown, hts, hA, hK, hX, hlocks⟩ := id C0
  unfold fX11_wants at h
  refine lv_aload_n hx hb dX11_wants_0 rfl (lv_at hl 0 rfl) ?_
  refine lv_iconst (v := 0) hx hb dX11_wants_1 (by decide) ?_
  refine gm_putf (ci := 11) C0 hH inX11_wants_X11 tyX11_ok nmX11 0 0 1 rfl rfl (by decide) rfl rfl rfl rfl rfl (Nat.le_of_ble_eq_true rfl) dX11_wants_2 (fun H locs hH => ?_)
  have hH : gm_H (dC, dI) A s (wX11_wants cI q q_refused q_tongue q_fresh q_kept q_isKept q_text q_said q_talk 0 m_size m_at m_start m_token m_value m_faultAt m_allowed m_firstPair m_secondPair m_above m_below m_refused m_tongue) H locs := hH
  refine lv_iload_n hx hb dX11_wants_5 rfl (lv_at hl 1 rfl) ?_
  refine lv_i2l hx hb dX11_wants_6 rfl ?_
  refine lv_lconst (v := 0) hx hb dX11_wants_7 (by decide) ?_
  refine lv_ldc2 (own := RX11) (v := 5) hx hb hown (gm_at C0 2 rfl) dX11_wants_8 ?_
  obtain ⟨o1, ho1, h⟩ := gm_bind_e h
  refine gm_callS (As := [.long (Int32.toInt64 x1), .long 0, .long 5]) (rest := []) (n := 3) C0 hH (mX11_in l dC dI    ((Int32.toInt64 x1)) 0 5   ho1) gX11_wants_X11_in rfl (by decide +kernel) ⟨rfl, rfl, Nat.le_of_ble_eq_true rfl, Nat.le_of_ble_eq_true rfl⟩ gm_T_ok (fun _ => trivial) [] rfl rfl rfl [] rfl rfl hl.1 rfl (Nat.le_of_ble_eq_true rfl) dX11_wants_11 ⟨Nat.zero_le _, Nat.zero_le _⟩ (fun H locs hH => ?_)
  have hH : gm_H (dC, dI) A s (wX11_wants cI q q_refused q_tongue q_fresh q_kept q_isKept q_text q_said q_talk 0 m_size m_at m_start m_token m_value m_faultAt m_allowed m_firstPair m_secondPair m_above m_below m_refused m_tongue) H locs := hH
  refine lv_if_eq (tgt := 25) hx hb dX11_wants_14 (by decide) (fun hc2 => ?_) (fun hc2 => ?_)
  · replace h := gm_pos hc2 h
    refine lv_aload_n hx hb dX11_wants_25 rfl (lv_at hl 0 rfl) ?_
    obtain ⟨o3, ho3, h⟩ := gm_bind_e h
    refine gm_callV (As := []) (rest := []) (n := 0) (ci := 11) (q0 := 0) C0 hH (mX11_bad l dC dI cI q q_refused q_tongue q_fresh q_kept q_isKept q_text q_said q_talk 0 m_size m_at m_start m_token m_value m_faultAt m_allowed m_firstPair m_secondPair m_above m_below m_refused    ho3) gX11_wants_X11_bad rfl (by decide +kernel) ⟨rfl, rfl, Nat.le_of_ble_eq_true rfl, Nat.le_of_ble_eq_true rfl⟩ gm_T_ok (fun _ => trivial) [0, 1] rfl rfl rfl [0] rfl rfl rfl rfl hl.1 rfl (Nat.le_of_ble_eq_true rfl) dX11_wants_26 ⟨Nat.zero_le _, Nat.zero_le _⟩ (fun H locs hH => ?_)
    have hH : gm_H (dC, dI) A s (wX11_wants cI q q_refused q_tongue q_fresh q_kept q_isKept q_text q_said q_talk 0 m_size m_at m_start m_token m_value m_faultAt m_allowed m_firstPair m_secondPair m_above m_below o3.2 m_tongue) H locs := hH
    obtain rfl := Option.some.inj h
    exact gm_iret C0 hH dX11_wants_29
  · replace h := gm_neg hc2 h
    refine lv_aload_n hx hb dX11_wants_17 rfl (lv_at hl 0 rfl) ?_
    refine lv_iload_n hx hb dX11_wants_18 rfl (lv_at hl 1 rfl) ?_
    obtain ⟨o4, ho4, h⟩ := gm_bind_e h
    refine gm_callV (As := [.int x1]) (rest := []) (n := 1) (ci := 11) (q0 := 0) C0 hH (mX11_wantsOf l dC dI cI q q_tongue q_refused q_fresh q_kept q_isKept q_text q_said q_talk 0 m_size m_at m_start m_token m_value m_faultAt m_allowed m_firstPair m_secondPair m_above m_below m_tongue x1   ho4) gX11_wants_X11_wantsOf rfl (by decide +kernel) ⟨rfl, rfl, Nat.le_of_ble_eq_true rfl, Nat.le_of_ble_eq_true rfl⟩ gm_T_ok (fun _ => trivial) [0, 2] rfl rfl rfl [0] rfl rfl rfl rfl hl.1 rfl (Nat.le_of_ble_eq_true rfl) dX11_wants_19 ⟨Nat.zero_le _, Nat.zero_le _⟩ (fun H locs hH => ?_)
    have hH : gm_H (dC, dI) A s (wX11_wants cI q q_refused q_tongue q_fresh q_kept q_isKept q_text q_said q_talk 0 m_size m_at m_start m_token m_value m_faultAt m_allowed m_firstPair m_secondPair m_above m_below m_refused m_tongue) H locs := hH
    refine lv_goto (tgt := 29) hx hb dX11_wants_22 (by decide) ?_
    obtain rfl := Option.some.inj h
    exact gm_iret C0 hH dX11_wants_29

/-! X11_leftBy -/
abbrev wX11_leftBy (cI : ClassId) (q q_tongue q_refused q_fresh q_kept q_isKept q_text q_said q_talk : Nat) (m_thrown : Int32) (m_size : Int32) (m_at : Int32) (m_start : Int32) (m_token : Int32) (m_value : Int64) (m_faultAt : Int32) (m_allowed : Int32) (m_firstPair : Int32) (m_secondPair : Int32) (m_above : Int64) (m_below : Int64) (m_tongue : Nat → Int32) : va_W := [(q, .inr (11, [.int m_thrown, .ref q_refused, .ref q_tongue, .ref q_fresh, .ref q_kept, .ref q_isKept, .ref q_text, .int m_size, .int m_at, .int m_start, .int m_token, .long m_value, .int m_faultAt, .ref q_said, .ref q_talk, .int m_allowed, .int m_firstPair, .int m_secondPair, .long m_above, .long m_below])), (q_tongue, .inl (cI, 73, .inl m_tongue))]
abbrev rX11_leftBy : Room := { frames := 5, cells := 0, slots := 0, locals := 114 }
def fX11_leftBy_b82 (N : Nat) (r6 : Int32 → Int32 → Option (Int32)) (m_tongue : Nat → Int32) (x1 : Int32) (x2 : Int32) (x3 : Int32) (x5 : Int32) (k0 : Int32) : Option (Int32) := (r6 k0 ((x5 + 1)))
def fX11_leftBy_b68 (N : Nat) (r6 : Int32 → Int32 → Option (Int32)) (m_tongue : Nat → Int32) (x1 : Int32) (x2 : Int32) (x3 : Int32) (x4 : Int32) (x5 : Int32) (x6 : Int32) : Option (Int32) := (if x6 ≤ x4 then (fX11_leftBy_b82 N r6 m_tongue x1 x2 x3 x5 x4) else (fX11_leftBy_b82 N r6 m_tongue x1 x2 x3 x5 x6))
def fX11_leftBy_b59 (N : Nat) (r6 : Int32 → Int32 → Option (Int32)) (r23 : Int32 → Int32 → Option (Int32)) (m_tongue : Nat → Int32) (x1 : Int32) (x2 : Int32) (x3 : Int32) (x4 : Int32) (x5 : Int32) (x7 : Int32) (k0 : Int32) (k1 : Int32) : Option (Int32) := gm_let ((k0 + k1) : Int32) (fun (v7 : Int32) => (r23 v7 ((x7 + 1))))
def fX11_leftBy_b58 (N : Nat) (r6 : Int32 → Int32 → Option (Int32)) (r23 : Int32 → Int32 → Option (Int32)) (m_tongue : Nat → Int32) (x1 : Int32) (x2 : Int32) (x3 : Int32) (x4 : Int32) (x5 : Int32) (x7 : Int32) (k0 : Int32) : Option (Int32) := (fX11_leftBy_b59 N r6 r23 m_tongue x1 x2 x3 x4 x5 x7 k0 0)
def fX11_leftBy_b23_body (N : Nat) (r6 : Int32 → Int32 → Option (Int32)) (m_tongue : Nat → Int32) (x1 : Int32) (x2 : Int32) (x3 : Int32) (x4 : Int32) (x5 : Int32) (r23 : Int32 → Int32 → Option (Int32)) (x6 : Int32) (x7 : Int32) : Option (Int32) := (if 8 ≤ x7 then (fX11_leftBy_b68 N r6 m_tongue x1 x2 x3 x4 x5 x6) else gm_bind (fX11_has N x2 x7) (fun o5 => (if o5 = 0 then (fX11_leftBy_b58 N r6 r23 m_tongue x1 x2 x3 x4 x5 x7 x6) else gm_bind (fX11_answerOf N m_tongue x1 x7 x3) (fun o8 => (if o8 = x5 then (fX11_leftBy_b59 N r6 r23 m_tongue x1 x2 x3 x4 x5 x7 x6 1) else (fX11_leftBy_b58 N r6 r23 m_tongue x1 x2 x3 x4 x5 x7 x6))))))
def fX11_leftBy_b23 (N : Nat) (r6 : Int32 → Int32 → Option (Int32)) (m_tongue : Nat → Int32) (x1 : Int32) (x2 : Int32) (x3 : Int32) (x4 : Int32) (x5 : Int32) (x6 : Int32) (x7 : Int32) : Option (Int32) := gm_fix (fX11_leftBy_b23_body N r6 m_tongue x1 x2 x3 x4 x5) (fun _ _ => none) N x6 x7
def fX11_leftBy_b6_body (N : Nat)  (m_tongue : Nat → Int32) (x1 : Int32) (x2 : Int32) (x3 : Int32) (r6 : Int32 → Int32 → Option (Int32)) (x4 : Int32) (x5 : Int32) : Option (Int32) := gm_chk 0 73 ((if (m_tongue (Int32.toNatClampNeg 0)) ≤ x5 then some (x4) else (fX11_leftBy_b23 N r6 m_tongue x1 x2 x3 x4 x5 0 0)))
def fX11_leftBy_b6 (N : Nat)  (m_tongue : Nat → Int32) (x1 : Int32) (x2 : Int32) (x3 : Int32) (x4 : Int32) (x5 : Int32) : Option (Int32) := gm_fix (fX11_leftBy_b6_body N  m_tongue x1 x2 x3) (fun _ _ => none) N x4 x5
def fX11_leftBy (N : Nat) (m_tongue : Nat → Int32) (x1 : Int32) (x2 : Int32) (x3 : Int32) : Option (Int32) := (fX11_leftBy_b6 N  m_tongue x1 x2 x3 0 ((-1)))
set_option maxRecDepth 20000 in
theorem inX11_leftBy_X11 : ∀ w ∈ u_ws RX11 TX11 20, w ∈ wsX11_leftBy := fun w h => by
  obtain ⟨k, hk, rfl⟩ := List.mem_map.mp h
  have hk2 := List.mem_range.mp hk
  exact List.mem_of_getElem? (i := 34 + k) (by rcases (show k = 0 ∨ k = 1 ∨ k = 2 ∨ k = 3 ∨ k = 4 ∨ k = 5 ∨ k = 6 ∨ k = 7 ∨ k = 8 ∨ k = 9 ∨ k = 10 ∨ k = 11 ∨ k = 12 ∨ k = 13 ∨ k = 14 ∨ k = 15 ∨ k = 16 ∨ k = 17 ∨ k = 18 ∨ k = 19 by omega) with rfl | rfl | rfl | rfl | rfl | rfl | rfl | rfl | rfl | rfl | rfl | rfl | rfl | rfl | rfl | rfl | rfl | rfl | rfl | rfl <;> rfl)
set_option maxRecDepth 100000 in
set_option maxHeartbeats 4000000 in
theorem tX11_leftBy_b82 {p : Program} {l : Launch} {e : Env} {s : State} {m : MethodId} {args : Array Value} {below : List Frame} {meth : Method} {c : Code} {A : Nat → Prop} {dC : Nat → ClassId} {dI : Nat → Nat → Nat} {cI : ClassId} {q q_tongue q_refused q_fresh q_kept q_isKept q_text q_said q_talk : Nat} {m_thrown : Int32} {m_size : Int32} {m_at : Int32} {m_start : Int32} {m_token : Int32} {m_value : Int64} {m_faultAt : Int32} {m_allowed : Int32} {m_firstPair : Int32} {m_secondPair : Int32} {m_above : Int64} {m_below : Int64} {m_tongue : Nat → Int32} {x1 : Int32} {x2 : Int32} {x3 : Int32} {x5 : Int32} {k0 : Int32} (C0 : gm_C p s m args meth c (dC, dI) [(cI, .int)] A gm_T RX11 cX11_leftBy 8 (some .int) wsX11_leftBy) {N : Nat} {out : Int32} {r6 : Int32 → Int32 → Option (Int32)} (hr6 : ∀ (x4 : Int32) (x5 : Int32) (H : Heap) (locs : List Loc) (ls : Array Slot), r6 x4 x5 = some out → gm_H (dC, dI) A s (wX11_leftBy cI q q_tongue q_refused q_fresh q_kept q_isKept q_text q_said q_talk m_thrown m_size m_at m_start m_token m_value m_faultAt m_allowed m_firstPair m_secondPair m_above m_below m_tongue) H locs → lv_has ls 8 [(0, .ref q), (1, .int x1), (2, .int x2), (3, .int x3), (4, .int x4), (5, .int x5)] → W p l e rX11_leftBy s m args below meth c H locs 0 0 (MQ below (gm_Q (dC, dI) [(cI, .int)] A (some (.int out)) (wX11_leftBy cI q q_tongue q_refused q_fresh q_kept q_isKept q_text q_said q_talk m_thrown m_size m_at m_start m_token m_value m_faultAt m_allowed m_firstPair m_secondPair m_above m_below m_tongue)) args s 0 0 A) (F0 m 6 ls []))   {H : Heap} {locs : List Loc} {ls : Array Slot} (h : fX11_leftBy_b82 N r6 m_tongue x1 x2 x3 x5 k0 = some out) (hH : gm_H (dC, dI) A s (wX11_leftBy cI q q_tongue q_refused q_fresh q_kept q_isKept q_text q_said q_talk m_thrown m_size m_at m_start m_token m_value m_faultAt m_allowed m_firstPair m_secondPair m_above m_below m_tongue) H locs) (hl : lv_has ls 8 [(0, .ref q), (1, .int x1), (2, .int x2), (3, .int x3), (5, .int x5)]) : W p l e rX11_leftBy s m args below meth c H locs 0 0 (MQ below (gm_Q (dC, dI) [(cI, .int)] A (some (.int out)) (wX11_leftBy cI q q_tongue q_refused q_fresh q_kept q_isKept q_text q_said q_talk m_thrown m_size m_at m_start m_token m_value m_faultAt m_allowed m_firstPair m_secondPair m_above m_below m_tongue)) args s 0 0 A) (F0 m 82 ls [.int k0]) := by
  obtain ⟨hx, hb, hml, hr, hown, hts, hA, hK, hX, hlocks⟩ := id C0
  unfold fX11_leftBy_b82 at h
  refine lv_istore (lv' := [(4, .int k0), (0, .ref q), (1, .int x1), (2, .int x2), (3, .int x3), (5, .int x5)]) hx hb dX11_leftBy_82 hl (by decide) rfl (fun ls hl => ?_)
  refine lv_iinc (v := (x5 + 1)) (lv' := [(5, .int (x5 + 1)), (4, .int k0), (0, .ref q), (1, .int x1), (2, .int x2), (3, .int x3)]) hx hb dX11_leftBy_84 hl (k := 5) rfl rfl (by decide) rfl (fun ls hl => ?_)
  refine lv_goto (tgt := 6) hx hb dX11_leftBy_87 (by decide) ?_
  exact hr6 _ _ _ _ _ h hH (lv_sub hl [2, 3, 4, 5, 1, 0] rfl)
set_option maxRecDepth 100000 in
set_option maxHeartbeats 4000000 in
theorem tX11_leftBy_b68 {p : Program} {l : Launch} {e : Env} {s : State} {m : MethodId} {args : Array Value} {below : List Frame} {meth : Method} {c : Code} {A : Nat → Prop} {dC : Nat → ClassId} {dI : Nat → Nat → Nat} {cI : ClassId} {q q_tongue q_refused q_fresh q_kept q_isKept q_text q_said q_talk : Nat} {m_thrown : Int32} {m_size : Int32} {m_at : Int32} {m_start : Int32} {m_token : Int32} {m_value : Int64} {m_faultAt : Int32} {m_allowed : Int32} {m_firstPair : Int32} {m_secondPair : Int32} {m_above : Int64} {m_below : Int64} {m_tongue : Nat → Int32} {x1 : Int32} {x2 : Int32} {x3 : Int32} {x4 : Int32} {x5 : Int32} {x6 : Int32} (C0 : gm_C p s m args meth c (dC, dI) [(cI, .int)] A gm_T RX11 cX11_leftBy 8 (some .int) wsX11_leftBy) {N : Nat} {out : Int32} {r6 : Int32 → Int32 → Option (Int32)} (hr6 : ∀ (x4 : Int32) (x5 : Int32) (H : Heap) (locs : List Loc) (ls : Array Slot), r6 x4 x5 = some out → gm_H (dC, dI) A s (wX11_leftBy cI q q_tongue q_refused q_fresh q_kept q_isKept q_text q_said q_talk m_thrown m_size m_at m_start m_token m_value m_faultAt m_allowed m_firstPair m_secondPair m_above m_below m_tongue) H locs → lv_has ls 8 [(0, .ref q), (1, .int x1), (2, .int x2), (3, .int x3), (4, .int x4), (5, .int x5)] → W p l e rX11_leftBy s m args below meth c H locs 0 0 (MQ below (gm_Q (dC, dI) [(cI, .int)] A (some (.int out)) (wX11_leftBy cI q q_tongue q_refused q_fresh q_kept q_isKept q_text q_said q_talk m_thrown m_size m_at m_start m_token m_value m_faultAt m_allowed m_firstPair m_secondPair m_above m_below m_tongue)) args s 0 0 A) (F0 m 6 ls []))   {H : Heap} {locs : List Loc} {ls : Array Slot} (h : fX11_leftBy_b68 N r6 m_tongue x1 x2 x3 x4 x5 x6 = some out) (hH : gm_H (dC, dI) A s (wX11_leftBy cI q q_tongue q_refused q_fresh q_kept q_isKept q_text q_said q_talk m_thrown m_size m_at m_start m_token m_value m_faultAt m_allowed m_firstPair m_secondPair m_above m_below m_tongue) H locs) (hl : lv_has ls 8 [(0, .ref q), (1, .int x1), (2, .int x2), (3, .int x3), (4, .int x4), (5, .int x5), (6, .int x6)]) : W p l e rX11_leftBy s m args below meth c H locs 0 0 (MQ below (gm_Q (dC, dI) [(cI, .int)] A (some (.int out)) (wX11_leftBy cI q q_tongue q_refused q_fresh q_kept q_isKept q_text q_said q_talk m_thrown m_size m_at m_start m_token m_value m_faultAt m_allowed m_firstPair m_secondPair m_above m_below m_tongue)) args s 0 0 A) (F0 m 68 ls []) := by
  obtain ⟨hx, hb, hml, hr, hown, hts, hA, hK, hX, hlocks⟩ := id C0
  unfold fX11_leftBy_b68 at h
  refine lv_iload hx hb dX11_leftBy_68 (lv_at hl 6 rfl) ?_
  refine lv_iload hx hb dX11_leftBy_70 (lv_at hl 4 rfl) ?_
  refine lv_icmp_le (tgt := 80) hx hb dX11_leftBy_72 (by decide) (fun hc4 => ?_) (fun hc4 => ?_)
  · replace h := gm_pos hc4 h
    refine lv_iload hx hb dX11_leftBy_80 (lv_at hl 4 rfl) ?_
    exact tX11_leftBy_b82 C0 hr6 h hH (lv_sub hl [0, 1, 2, 3, 5] rfl)
  · replace h := gm_neg hc4 h
    refine lv_iload hx hb dX11_leftBy_75 (lv_at hl 6 rfl) ?_
    refine lv_goto (tgt := 82) hx hb dX11_leftBy_77 (by decide) ?_
    exact tX11_leftBy_b82 C0 hr6 h hH (lv_sub hl [0, 1, 2, 3, 5] rfl)
set_option maxRecDepth 100000 in
set_option maxHeartbeats 4000000 in
theorem tX11_leftBy_b59 {p : Program} {l : Launch} {e : Env} {s : State} {m : MethodId} {args : Array Value} {below : List Frame} {meth : Method} {c : Code} {A : Nat → Prop} {dC : Nat → ClassId} {dI : Nat → Nat → Nat} {cI : ClassId} {q q_tongue q_refused q_fresh q_kept q_isKept q_text q_said q_talk : Nat} {m_thrown : Int32} {m_size : Int32} {m_at : Int32} {m_start : Int32} {m_token : Int32} {m_value : Int64} {m_faultAt : Int32} {m_allowed : Int32} {m_firstPair : Int32} {m_secondPair : Int32} {m_above : Int64} {m_below : Int64} {m_tongue : Nat → Int32} {x1 : Int32} {x2 : Int32} {x3 : Int32} {x4 : Int32} {x5 : Int32} {x7 : Int32} {k0 : Int32} {k1 : Int32} (C0 : gm_C p s m args meth c (dC, dI) [(cI, .int)] A gm_T RX11 cX11_leftBy 8 (some .int) wsX11_leftBy) {N : Nat} {out : Int32} {r6 : Int32 → Int32 → Option (Int32)} (hr6 : ∀ (x4 : Int32) (x5 : Int32) (H : Heap) (locs : List Loc) (ls : Array Slot), r6 x4 x5 = some out → gm_H (dC, dI) A s (wX11_leftBy cI q q_tongue q_refused q_fresh q_kept q_isKept q_text q_said q_talk m_thrown m_size m_at m_start m_token m_value m_faultAt m_allowed m_firstPair m_secondPair m_above m_below m_tongue) H locs → lv_has ls 8 [(0, .ref q), (1, .int x1), (2, .int x2), (3, .int x3), (4, .int x4), (5, .int x5)] → W p l e rX11_leftBy s m args below meth c H locs 0 0 (MQ below (gm_Q (dC, dI) [(cI, .int)] A (some (.int out)) (wX11_leftBy cI q q_tongue q_refused q_fresh q_kept q_isKept q_text q_said q_talk m_thrown m_size m_at m_start m_token m_value m_faultAt m_allowed m_firstPair m_secondPair m_above m_below m_tongue)) args s 0 0 A) (F0 m 6 ls [])) {r23 : Int32 → Int32 → Option (Int32)} (hr23 : ∀ (x6 : Int32) (x7 : Int32) (H : Heap) (locs : List Loc) (ls : Array Slot), r23 x6 x7 = some out → gm_H (dC, dI) A s (wX11_leftBy cI q q_tongue q_refused q_fresh q_kept q_isKept q_text q_said q_talk m_thrown m_size m_at m_start m_token m_value m_faultAt m_allowed m_firstPair m_secondPair m_above m_below m_tongue) H locs → lv_has ls 8 [(0, .ref q), (1, .int x1), (2, .int x2), (3, .int x3), (4, .int x4), (5, .int x5), (6, .int x6), (7, .int x7)] → W p l e rX11_leftBy s m args below meth c H locs 0 0 (MQ below (gm_Q (dC, dI) [(cI, .int)] A (some (.int out)) (wX11_leftBy cI q q_tongue q_refused q_fresh q_kept q_isKept q_text q_said q_talk m_thrown m_size m_at m_start m_token m_value m_faultAt m_allowed m_firstPair m_secondPair m_above m_below m_tongue)) args s 0 0 A) (F0 m 23 ls []))   {H : Heap} {locs : List Loc} {ls : Array Slot} (h : fX11_leftBy_b59 N r6 r23 m_tongue x1 x2 x3 x4 x5 x7 k0 k1 = some out) (hH : gm_H (dC, dI) A s (wX11_leftBy cI q q_tongue q_refused q_fresh q_kept q_isKept q_text q_said q_talk m_thrown m_size m_at m_start m_token m_value m_faultAt m_allowed m_firstPair m_secondPair m_above m_below m_tongue) H locs) (hl : lv_has ls 8 [(0, .ref q), (1, .int x1), (2, .int x2), (3, .int x3), (4, .int x4), (5, .int x5), (7, .int x7)]) : W p l e rX11_leftBy s m args below meth c H locs 0 0 (MQ below (gm_Q (dC, dI) [(cI, .int)] A (some (.int out)) (wX11_leftBy cI q q_tongue q_refused q_fresh q_kept q_isKept q_text q_said q_talk m_thrown m_size m_at m_start m_token m_value m_faultAt m_allowed m_firstPair m_secondPair m_above m_below m_tongue)) args s 0 0 A) (F0 m 59 ls [.int k1, .int k0]) := by
  obtain ⟨hx, hb, hml, hr, hown, hts, hA, hK, hX, hlocks⟩ := id C0
  unfold fX11_leftBy_b59 at h
  refine lv_iadd hx hb dX11_leftBy_59 ?_
  refine lv_topi (fun v7 ev7 => ?_)
  replace h := gm_let_e ev7 h
  refine lv_istore (lv' := [(6, .int v7), (0, .ref q), (1, .int x1), (2, .int x2), (3, .int x3), (4, .int x4), (5, .int x5), (7, .int x7)]) hx hb dX11_leftBy_60 hl (by decide) rfl (fun ls hl => ?_)
  refine lv_iinc (v := (x7 + 1)) (lv' := [(7, .int (x7 + 1)), (6, .int v7), (0, .ref q), (1, .int x1), (2, .int x2), (3, .int x3), (4, .int x4), (5, .int x5)]) hx hb dX11_leftBy_62 hl (k := 7) rfl rfl (by decide) rfl (fun ls hl => ?_)
  refine lv_goto (tgt := 23) hx hb dX11_leftBy_65 (by decide) ?_
  exact hr23 _ _ _ _ _ h hH (lv_sub hl [2, 3, 4, 5, 6, 7, 1, 0] rfl)
set_option maxRecDepth 100000 in
set_option maxHeartbeats 4000000 in
theorem tX11_leftBy_b58 {p : Program} {l : Launch} {e : Env} {s : State} {m : MethodId} {args : Array Value} {below : List Frame} {meth : Method} {c : Code} {A : Nat → Prop} {dC : Nat → ClassId} {dI : Nat → Nat → Nat} {cI : ClassId} {q q_tongue q_refused q_fresh q_kept q_isKept q_text q_said q_talk : Nat} {m_thrown : Int32} {m_size : Int32} {m_at : Int32} {m_start : Int32} {m_token : Int32} {m_value : Int64} {m_faultAt : Int32} {m_allowed : Int32} {m_firstPair : Int32} {m_secondPair : Int32} {m_above : Int64} {m_below : Int64} {m_tongue : Nat → Int32} {x1 : Int32} {x2 : Int32} {x3 : Int32} {x4 : Int32} {x5 : Int32} {x7 : Int32} {k0 : Int32} (C0 : gm_C p s m args meth c (dC, dI) [(cI, .int)] A gm_T RX11 cX11_leftBy 8 (some .int) wsX11_leftBy) {N : Nat} {out : Int32} {r6 : Int32 → Int32 → Option (Int32)} (hr6 : ∀ (x4 : Int32) (x5 : Int32) (H : Heap) (locs : List Loc) (ls : Array Slot), r6 x4 x5 = some out → gm_H (dC, dI) A s (wX11_leftBy cI q q_tongue q_refused q_fresh q_kept q_isKept q_text q_said q_talk m_thrown m_size m_at m_start m_token m_value m_faultAt m_allowed m_firstPair m_secondPair m_above m_below m_tongue) H locs → lv_has ls 8 [(0, .ref q), (1, .int x1), (2, .int x2), (3, .int x3), (4, .int x4), (5, .int x5)] → W p l e rX11_leftBy s m args below meth c H locs 0 0 (MQ below (gm_Q (dC, dI) [(cI, .int)] A (some (.int out)) (wX11_leftBy cI q q_tongue q_refused q_fresh q_kept q_isKept q_text q_said q_talk m_thrown m_size m_at m_start m_token m_value m_faultAt m_allowed m_firstPair m_secondPair m_above m_below m_tongue)) args s 0 0 A) (F0 m 6 ls [])) {r23 : Int32 → Int32 → Option (Int32)} (hr23 : ∀ (x6 : Int32) (x7 : Int32) (H : Heap) (locs : List Loc) (ls : Array Slot), r23 x6 x7 = some out → gm_H (dC, dI) A s (wX11_leftBy cI q q_tongue q_refused q_fresh q_kept q_isKept q_text q_said q_talk m_thrown m_size m_at m_start m_token m_value m_faultAt m_allowed m_firstPair m_secondPair m_above m_below m_tongue) H locs → lv_has ls 8 [(0, .ref q), (1, .int x1), (2, .int x2), (3, .int x3), (4, .int x4), (5, .int x5), (6, .int x6), (7, .int x7)] → W p l e rX11_leftBy s m args below meth c H locs 0 0 (MQ below (gm_Q (dC, dI) [(cI, .int)] A (some (.int out)) (wX11_leftBy cI q q_tongue q_refused q_fresh q_kept q_isKept q_text q_said q_talk m_thrown m_size m_at m_start m_token m_value m_faultAt m_allowed m_firstPair m_secondPair m_above m_below m_tongue)) args s 0 0 A) (F0 m 23 ls []))   {H : Heap} {locs : List Loc} {ls : Array Slot} (h : fX11_leftBy_b58 N r6 r23 m_tongue x1 x2 x3 x4 x5 x7 k0 = some out) (hH : gm_H (dC, dI) A s (wX11_leftBy cI q q_tongue q_refused q_fresh q_kept q_isKept q_text q_said q_talk m_thrown m_size m_at m_start m_token m_value m_faultAt m_allowed m_firstPair m_secondPair m_above m_below m_tongue) H locs) (hl : lv_has ls 8 [(0, .ref q), (1, .int x1), (2, .int x2), (3, .int x3), (4, .int x4), (5, .int x5), (7, .int x7)]) : W p l e rX11_leftBy s m args below meth c H locs 0 0 (MQ below (gm_Q (dC, dI) [(cI, .int)] A (some (.int out)) (wX11_leftBy cI q q_tongue q_refused q_fresh q_kept q_isKept q_text q_said q_talk m_thrown m_size m_at m_start m_token m_value m_faultAt m_allowed m_firstPair m_secondPair m_above m_below m_tongue)) args s 0 0 A) (F0 m 58 ls [.int k0]) := by
  obtain ⟨hx, hb, hml, hr, hown, hts, hA, hK, hX, hlocks⟩ := id C0
  unfold fX11_leftBy_b58 at h
  refine lv_iconst (v := 0) hx hb dX11_leftBy_58 (by decide) ?_
  exact tX11_leftBy_b59 C0 hr6 hr23 h hH (lv_sub hl [0, 1, 2, 3, 4, 5, 6] rfl)
set_option maxRecDepth 100000 in
set_option maxHeartbeats 4000000 in
theorem tX11_leftBy_b23 {p : Program} {l : Launch} {e : Env} {s : State} {m : MethodId} {args : Array Value} {below : List Frame} {meth : Method} {c : Code} {A : Nat → Prop} {dC : Nat → ClassId} {dI : Nat → Nat → Nat} {cI : ClassId} {q q_tongue q_refused q_fresh q_kept q_isKept q_text q_said q_talk : Nat} {m_thrown : Int32} {m_size : Int32} {m_at : Int32} {m_start : Int32} {m_token : Int32} {m_value : Int64} {m_faultAt : Int32} {m_allowed : Int32} {m_firstPair : Int32} {m_secondPair : Int32} {m_above : Int64} {m_below : Int64} {m_tongue : Nat → Int32} {x1 : Int32} {x2 : Int32} {x3 : Int32} {x4 : Int32} {x5 : Int32} (C0 : gm_C p s m args meth c (dC, dI) [(cI, .int)] A gm_T RX11 cX11_leftBy 8 (some .int) wsX11_leftBy) {N : Nat} {out : Int32} {r6 : Int32 → Int32 → Option (Int32)} (hr6 : ∀ (x4 : Int32) (x5 : Int32) (H : Heap) (locs : List Loc) (ls : Array Slot), r6 x4 x5 = some out → gm_H (dC, dI) A s (wX11_leftBy cI q q_tongue q_refused q_fresh q_kept q_isKept q_text q_said q_talk m_thrown m_size m_at m_start m_token m_value m_faultAt m_allowed m_firstPair m_secondPair m_above m_below m_tongue) H locs → lv_has ls 8 [(0, .ref q), (1, .int x1), (2, .int x2), (3, .int x3), (4, .int x4), (5, .int x5)] → W p l e rX11_leftBy s m args below meth c H locs 0 0 (MQ below (gm_Q (dC, dI) [(cI, .int)] A (some (.int out)) (wX11_leftBy cI q q_tongue q_refused q_fresh q_kept q_isKept q_text q_said q_talk m_thrown m_size m_at m_start m_token m_value m_faultAt m_allowed m_firstPair m_secondPair m_above m_below m_tongue)) args s 0 0 A) (F0 m 6 ls []))  : ∀ (n : Nat), ∀ (x6 : Int32) (x7 : Int32) (H : Heap) (locs : List Loc) (ls : Array Slot), (gm_fix (fX11_leftBy_b23_body N r6 m_tongue x1 x2 x3 x4 x5) (fun _ _ => none) n) x6 x7 = some out → gm_H (dC, dI) A s (wX11_leftBy cI q q_tongue q_refused q_fresh q_kept q_isKept q_text q_said q_talk m_thrown m_size m_at m_start m_token m_value m_faultAt m_allowed m_firstPair m_secondPair m_above m_below m_tongue) H locs → lv_has ls 8 [(0, .ref q), (1, .int x1), (2, .int x2), (3, .int x3), (4, .int x4), (5, .int x5), (6, .int x6), (7, .int x7)] → W p l e rX11_leftBy s m args below meth c H locs 0 0 (MQ below (gm_Q (dC, dI) [(cI, .int)] A (some (.int out)) (wX11_leftBy cI q q_tongue q_refused q_fresh q_kept q_isKept q_text q_said q_talk m_thrown m_size m_at m_start m_token m_value m_faultAt m_allowed m_firstPair m_secondPair m_above m_below m_tongue)) args s 0 0 A) (F0 m 23 ls []) := by
  obtain ⟨hx, hb, hml, hr, hown, hts, hA, hK, hX, hlocks⟩ := id C0
  intro n
  induction n with
  | zero =>
    intro x6 x7 H locs ls h hH hl
    cases h
  | succ n hr23 =>
    intro x6 x7 H locs ls h hH hl
    rw [gm_fix_s] at h
    unfold fX11_leftBy_b23_body at h
    refine lv_iload hx hb dX11_leftBy_23 (lv_at hl 7 rfl) ?_
    refine lv_bipush (v := 8) hx hb dX11_leftBy_25 (by decide) ?_
    refine lv_icmp_ge (tgt := 68) hx hb dX11_leftBy_27 (by decide) (fun hc3 => ?_) (fun hc3 => ?_)
    · replace h := gm_pos hc3 h
      exact tX11_leftBy_b68 C0 hr6 h hH (lv_sub hl [0, 1, 2, 3, 4, 5, 6] rfl)
    · replace h := gm_neg hc3 h
      refine lv_iload hx hb dX11_leftBy_30 (lv_at hl 6 rfl) ?_
      refine lv_iload_n hx hb dX11_leftBy_32 rfl (lv_at hl 2 rfl) ?_
      refine lv_iload hx hb dX11_leftBy_33 (lv_at hl 7 rfl) ?_
      obtain ⟨o5, ho5, h⟩ := gm_bind_e h
      refine gm_callS (As := [.int x2, .int x7]) (rest := [.int x6]) (n := 2) C0 hH (mX11_has l dC dI    x2 x7   ho5) gX11_leftBy_X11_has rfl (by decide +kernel) ⟨rfl, rfl, Nat.le_of_ble_eq_true rfl, Nat.le_of_ble_eq_true rfl⟩ gm_T_ok (fun _ => trivial) [] rfl rfl rfl [] rfl rfl hl.1 rfl (Nat.le_of_ble_eq_true rfl) dX11_leftBy_35 ⟨Nat.zero_le _, Nat.zero_le _⟩ (fun H locs hH => ?_)
      have hH : gm_H (dC, dI) A s (wX11_leftBy cI q q_tongue q_refused q_fresh q_kept q_isKept q_text q_said q_talk m_thrown m_size m_at m_start m_token m_value m_faultAt m_allowed m_firstPair m_secondPair m_above m_below m_tongue) H locs := hH
      refine lv_if_eq (tgt := 58) hx hb dX11_leftBy_38 (by decide) (fun hc6 => ?_) (fun hc6 => ?_)
      · replace h := gm_pos hc6 h
        exact tX11_leftBy_b58 C0 hr6 hr23 h hH (lv_sub hl [0, 1, 2, 3, 4, 5, 7] rfl)
      · replace h := gm_neg hc6 h
        refine lv_aload_n hx hb dX11_leftBy_41 rfl (lv_at hl 0 rfl) ?_
        refine lv_iload_n hx hb dX11_leftBy_42 rfl (lv_at hl 1 rfl) ?_
        refine lv_iload hx hb dX11_leftBy_43 (lv_at hl 7 rfl) ?_
        refine lv_iload_n hx hb dX11_leftBy_45 rfl (lv_at hl 3 rfl) ?_
        obtain ⟨o8, ho8, h⟩ := gm_bind_e h
        refine gm_callV (As := [.int x1, .int x7, .int x3]) (rest := [.int x6]) (n := 3) (ci := 11) (q0 := 0) C0 hH (mX11_answerOf l dC dI cI q q_tongue q_refused q_fresh q_kept q_isKept q_text q_said q_talk m_thrown m_size m_at m_start m_token m_value m_faultAt m_allowed m_firstPair m_secondPair m_above m_below m_tongue x1 x7 x3   ho8) gX11_leftBy_X11_answerOf rfl (by decide +kernel) ⟨rfl, rfl, Nat.le_of_ble_eq_true rfl, Nat.le_of_ble_eq_true rfl⟩ gm_T_ok (fun _ => trivial) [0, 1] rfl rfl rfl [0] rfl rfl rfl rfl hl.1 rfl (Nat.le_of_ble_eq_true rfl) dX11_leftBy_46 ⟨Nat.zero_le _, Nat.zero_le _⟩ (fun H locs hH => ?_)
        have hH : gm_H (dC, dI) A s (wX11_leftBy cI q q_tongue q_refused q_fresh q_kept q_isKept q_text q_said q_talk m_thrown m_size m_at m_start m_token m_value m_faultAt m_allowed m_firstPair m_secondPair m_above m_below m_tongue) H locs := hH
        refine lv_iload hx hb dX11_leftBy_49 (lv_at hl 5 rfl) ?_
        refine lv_icmp_ne (tgt := 58) hx hb dX11_leftBy_51 (by decide) (fun hc9 => ?_) (fun hc9 => ?_)
        · replace h := gm_neg hc9 h
          exact tX11_leftBy_b58 C0 hr6 hr23 h hH (lv_sub hl [0, 1, 2, 3, 4, 5, 7] rfl)
        · replace h := gm_pos hc9 h
          refine lv_iconst (v := 1) hx hb dX11_leftBy_54 (by decide) ?_
          refine lv_goto (tgt := 59) hx hb dX11_leftBy_55 (by decide) ?_
          exact tX11_leftBy_b59 C0 hr6 hr23 h hH (lv_sub hl [0, 1, 2, 3, 4, 5, 7] rfl)
set_option maxRecDepth 100000 in
set_option maxHeartbeats 4000000 in
theorem tX11_leftBy_b6 {p : Program} {l : Launch} {e : Env} {s : State} {m : MethodId} {args : Array Value} {below : List Frame} {meth : Method} {c : Code} {A : Nat → Prop} {dC : Nat → ClassId} {dI : Nat → Nat → Nat} {cI : ClassId} {q q_tongue q_refused q_fresh q_kept q_isKept q_text q_said q_talk : Nat} {m_thrown : Int32} {m_size : Int32} {m_at : Int32} {m_start : Int32} {m_token : Int32} {m_value : Int64} {m_faultAt : Int32} {m_allowed : Int32} {m_firstPair : Int32} {m_secondPair : Int32} {m_above : Int64} {m_below : Int64} {m_tongue : Nat → Int32} {x1 : Int32} {x2 : Int32} {x3 : Int32} (C0 : gm_C p s m args meth c (dC, dI) [(cI, .int)] A gm_T RX11 cX11_leftBy 8 (some .int) wsX11_leftBy) {N : Nat} {out : Int32}   : ∀ (n : Nat), ∀ (x4 : Int32) (x5 : Int32) (H : Heap) (locs : List Loc) (ls : Array Slot), (gm_fix (fX11_leftBy_b6_body N  m_tongue x1 x2 x3) (fun _ _ => none) n) x4 x5 = some out → gm_H (dC, dI) A s (wX11_leftBy cI q q_tongue q_refused q_fresh q_kept q_isKept q_text q_said q_talk m_thrown m_size m_at m_start m_token m_value m_faultAt m_allowed m_firstPair m_secondPair m_above m_below m_tongue) H locs → lv_has ls 8 [(0, .ref q), (1, .int x1), (2, .int x2), (3, .int x3), (4, .int x4), (5, .int x5)] → W p l e rX11_leftBy s m args below meth c H locs 0 0 (MQ below (gm_Q (dC, dI) [(cI, .int)] A (some (.int out)) (wX11_leftBy cI q q_tongue q_refused q_fresh q_kept q_isKept q_text q_said q_talk m_thrown m_size m_at m_start m_token m_value m_faultAt m_allowed m_firstPair m_secondPair m_above m_below m_tongue)) args s 0 0 A) (F0 m 6 ls []) := by
  obtain ⟨hx, hb, hml, hr, hown, hts, hA, hK, hX, hlocks⟩ := id C0
  intro n
  induction n with
  | zero =>
    intro x4 x5 H locs ls h hH hl
    cases h
  | succ n hr6 =>
    intro x4 x5 H locs ls h hH hl
    rw [gm_fix_s] at h
    unfold fX11_leftBy_b6_body at h
    refine lv_iload hx hb dX11_leftBy_6 (lv_at hl 5 rfl) ?_
    refine lv_aload_n hx hb dX11_leftBy_8 rfl (lv_at hl 0 rfl) ?_
    refine gm_get (ci := 11) C0 hH inX11_leftBy_X11 0 2 1 rfl rfl (by decide) rfl rfl dX11_leftBy_9 ?_
    refine lv_iconst (v := 0) hx hb dX11_leftBy_12 (by decide) ?_
    obtain ⟨hi1, h⟩ := gm_chk_e h
    refine gm_iald C0 hH hi1 1 0 rfl rfl dX11_leftBy_13 ?_
    refine lv_icmp_ge (tgt := 90) hx hb dX11_leftBy_14 (by decide) (fun hc2 => ?_) (fun hc2 => ?_)
    · replace h := gm_pos hc2 h
      refine lv_iload hx hb dX11_leftBy_90 (lv_at hl 4 rfl) ?_
      obtain rfl := Option.some.inj h
      exact gm_iret C0 hH dX11_leftBy_92
    · replace h := gm_neg hc2 h
      refine lv_iconst (v := 0) hx hb dX11_leftBy_17 (by decide) ?_
      refine lv_istore (lv' := [(6, .int 0), (0, .ref q), (1, .int x1), (2, .int x2), (3, .int x3), (4, .int x4), (5, .int x5)]) hx hb dX11_leftBy_18 hl (by decide) rfl (fun ls hl => ?_)
      refine lv_iconst (v := 0) hx hb dX11_leftBy_20 (by decide) ?_
      refine lv_istore (lv' := [(7, .int 0), (6, .int 0), (0, .ref q), (1, .int x1), (2, .int x2), (3, .int x3), (4, .int x4), (5, .int x5)]) hx hb dX11_leftBy_21 hl (by decide) rfl (fun ls hl => ?_)
      unfold fX11_leftBy_b23 at h
      exact tX11_leftBy_b23 C0 hr6 _ _ _ _ _ _ h hH (lv_sub hl [2, 3, 4, 5, 6, 7, 1, 0] rfl)
set_option maxRecDepth 100000 in
set_option maxHeartbeats 4000000 in
theorem mX11_leftBy (l : Launch) (dC : Nat → ClassId) (dI : Nat → Nat → Nat) (cI : ClassId) (q q_tongue q_refused q_fresh q_kept q_isKept q_text q_said q_talk : Nat) (m_thrown : Int32) (m_size : Int32) (m_at : Int32) (m_start : Int32) (m_token : Int32) (m_value : Int64) (m_faultAt : Int32) (m_allowed : Int32) (m_firstPair : Int32) (m_secondPair : Int32) (m_above : Int64) (m_below : Int64) (m_tongue : Nat → Int32) (x1 : Int32) (x2 : Int32) (x3 : Int32)  {N : Nat} {out : Int32} (h : fX11_leftBy N m_tongue x1 x2 x3 = some out) : gm_Met l yX11_leftBy wsX11_leftBy rX11_leftBy (dC, dI) [(cI, .int)] gm_T [.ref q, .int x1, .int x2, .int x3] (wX11_leftBy cI q q_tongue q_refused q_fresh q_kept q_isKept q_text q_said q_talk m_thrown m_size m_at m_start m_token m_value m_faultAt m_allowed m_firstPair m_secondPair m_above m_below m_tongue) (some (.int out)) (wX11_leftBy cI q q_tongue q_refused q_fresh q_kept q_isKept q_text q_said q_talk m_thrown m_size m_at m_start m_token m_value m_faultAt m_allowed m_firstPair m_secondPair m_above m_below m_tongue) := by
  refine gm_ofW (cc := cX11_leftBy) (maxL := 8) (ret := (some .int)) (by decide +kernel) rfl (Nat.le_of_ble_eq_true rfl) ?_
  intro p e s m below meth c A C0 hH ls hl
  generalize ([.ref q, .int x1, .int x2, .int x3] : List Value).toArray = args at C0 ⊢
  have hl : lv_has ls 8 [(0, .ref q), (1, .int x1), (2, .int x2), (3, .int x3)] := hl
  generalize s.heap = H at hH ⊢
  generalize ([] : List Loc) = locs at hH ⊢
  obtain ⟨hx, hb, hml, hr, hown, hts, hA, hK, hX, hlocks⟩ := id C0
  unfold fX11_leftBy at h
  refine lv_iconst (v := 0) hx hb dX11_leftBy_0 (by decide) ?_
  refine lv_istore (lv' := [(4, .int 0), (0, .ref q), (1, .int x1), (2, .int x2), (3, .int x3)]) hx hb dX11_leftBy_1 hl (by decide) rfl (fun ls hl => ?_)
  refine lv_iconst (v := (-1)) hx hb dX11_leftBy_3 (by decide) ?_
  refine lv_istore (lv' := [(5, .int (-1)), (4, .int 0), (0, .ref q), (1, .int x1), (2, .int x2), (3, .int x3)]) hx hb dX11_leftBy_4 hl (by decide) rfl (fun ls hl => ?_)
  unfold fX11_leftBy_b6 at h
  exact tX11_leftBy_b6 C0  _ _ _ _ _ _ h hH (lv_sub hl [2, 3, 4, 5, 1, 0] rfl)

/-! X11_next_ -/
abbrev wX11_next_ (cI : ClassId) (q q_refused q_tongue q_fresh q_kept q_isKept q_text q_said q_talk : Nat) (m_thrown : Int32) (m_size : Int32) (m_at : Int32) (m_start : Int32) (m_token : Int32) (m_value : Int64) (m_faultAt : Int32) (m_allowed : Int32) (m_firstPair : Int32) (m_secondPair : Int32) (m_above : Int64) (m_below : Int64) (m_refused : Nat → Int32) (m_tongue : Nat → Int32) : va_W := [(q, .inr (11, [.int m_thrown, .ref q_refused, .ref q_tongue, .ref q_fresh, .ref q_kept, .ref q_isKept, .ref q_text, .int m_size, .int m_at, .int m_start, .int m_token, .long m_value, .int m_faultAt, .ref q_said, .ref q_talk, .int m_allowed, .int m_firstPair, .int m_secondPair, .long m_above, .long m_below])), (q_refused, .inl (cI, 3, .inl m_refused)), (q_tongue, .inl (cI, 73, .inl m_tongue))]
abbrev rX11_next_ : Room := { frames := 6, cells := 0, slots := 0, locals := 141 }
def fX11_next__b27 (N : Nat)  (m_thrown : Int32) (m_refused : Nat → Int32) : Option (Int32 × Int32 × (Nat → Int32)) := gm_bind (fX11_bad N m_refused) (fun o3 => some (o3.1, m_thrown, o3.2))
def fX11_next__b126 (N : Nat)  (m_thrown : Int32) (m_refused : Nat → Int32) (x2 : Int32) (x4 : Int32) (x5 : Int32) : Option (Int32 × Int32 × (Nat → Int32)) := (if x2 = 0 then some (x4, m_thrown, m_refused) else some (x5, m_thrown, m_refused))
def fX11_next__b118 (N : Nat) (r47 : Int32 → Int32 → Int32 → Option (Int32 × Int32 × (Nat → Int32))) (m_thrown : Int32) (m_refused : Nat → Int32) (m_tongue : Nat → Int32) (x1 : Int32) (x2 : Int32) (x3 : Int32) (x4 : Int32) (x6 : Int32) (k0 : Int32) : Option (Int32 × Int32 × (Nat → Int32)) := (r47 x4 k0 ((x6 + 1)))
def fX11_next__b104 (N : Nat) (r47 : Int32 → Int32 → Int32 → Option (Int32 × Int32 × (Nat → Int32))) (m_thrown : Int32) (m_refused : Nat → Int32) (m_tongue : Nat → Int32) (x1 : Int32) (x2 : Int32) (x3 : Int32) (x5 : Int32) (x6 : Int32) (x7 : Int32) (x8 : Int32) (k0 : Int32) : Option (Int32 × Int32 × (Nat → Int32)) := (if x8 = 0 then (fX11_next__b118 N r47 m_thrown m_refused m_tongue x1 x2 x3 k0 x6 x5) else (fX11_next__b118 N r47 m_thrown m_refused m_tongue x1 x2 x3 k0 x6 x7))
def fX11_next__b90 (N : Nat) (r47 : Int32 → Int32 → Int32 → Option (Int32 × Int32 × (Nat → Int32))) (m_thrown : Int32) (m_refused : Nat → Int32) (m_tongue : Nat → Int32) (x1 : Int32) (x2 : Int32) (x3 : Int32) (x4 : Int32) (x5 : Int32) (x6 : Int32) (x7 : Int32) (k0 : Int32) : Option (Int32 × Int32 × (Nat → Int32)) := (if k0 = 0 then (fX11_next__b104 N r47 m_thrown m_refused m_tongue x1 x2 x3 x5 x6 x7 k0 x4) else (fX11_next__b104 N r47 m_thrown m_refused m_tongue x1 x2 x3 x5 x6 x7 k0 x6))
def fX11_next__b85 (N : Nat) (r47 : Int32 → Int32 → Int32 → Option (Int32 × Int32 × (Nat → Int32))) (m_thrown : Int32) (m_refused : Nat → Int32) (m_tongue : Nat → Int32) (x1 : Int32) (x2 : Int32) (x3 : Int32) (x4 : Int32) (x5 : Int32) (x6 : Int32) (x7 : Int32) : Option (Int32 × Int32 × (Nat → Int32)) := (fX11_next__b90 N r47 m_thrown m_refused m_tongue x1 x2 x3 x4 x5 x6 x7 1)
def fX11_next__b47_body (N : Nat)  (m_thrown : Int32) (m_refused : Nat → Int32) (m_tongue : Nat → Int32) (x1 : Int32) (x2 : Int32) (x3 : Int32) (r47 : Int32 → Int32 → Int32 → Option (Int32 × Int32 × (Nat → Int32))) (x4 : Int32) (x5 : Int32) (x6 : Int32) : Option (Int32 × Int32 × (Nat → Int32)) := gm_chk 0 73 ((if (m_tongue (Int32.toNatClampNeg 0)) ≤ x6 then (fX11_next__b126 N  m_thrown m_refused x2 x4 x5) else (if x3 = 0 then (fX11_next__b126 N  m_thrown m_refused x2 x4 x5) else gm_bind (fX11_leftBy N m_tongue x1 x3 x6) (fun o11 => (if x4 = (-1) then (fX11_next__b85 N r47 m_thrown m_refused m_tongue x1 x2 x3 x4 x5 x6 o11) else (if x5 ≤ o11 then (fX11_next__b90 N r47 m_thrown m_refused m_tongue x1 x2 x3 x4 x5 x6 o11 0) else (fX11_next__b85 N r47 m_thrown m_refused m_tongue x1 x2 x3 x4 x5 x6 o11)))))))
def fX11_next__b47 (N : Nat)  (m_thrown : Int32) (m_refused : Nat → Int32) (m_tongue : Nat → Int32) (x1 : Int32) (x2 : Int32) (x3 : Int32) (x4 : Int32) (x5 : Int32) (x6 : Int32) : Option (Int32 × Int32 × (Nat → Int32)) := gm_fix (fX11_next__b47_body N  m_thrown m_refused m_tongue x1 x2 x3) (fun _ _ _ => none) N x4 x5 x6
def fX11_next_ (N : Nat) (m_thrown : Int32) (m_refused : Nat → Int32) (m_tongue : Nat → Int32) (x1 : Int32) (x2 : Int32) : Option (Int32 × Int32 × (Nat → Int32)) := gm_bind (fX11_in N ((Int32.toInt64 x1)) 0 5) (fun o1 => (if o1 = 0 then (fX11_next__b27 N  0 m_refused) else gm_bind (fX11_in N ((Int32.toInt64 x2)) 0 1) (fun o4 => (if o4 = 0 then (fX11_next__b27 N  0 m_refused) else gm_bind (fX11_wantsOf N m_tongue x1) (fun o6 => (fX11_next__b47 N  0 m_refused m_tongue x1 x2 o6 ((-1)) 0 0))))))
set_option maxRecDepth 20000 in
theorem inX11_next__X11 : ∀ w ∈ u_ws RX11 TX11 20, w ∈ wsX11_next_ := fun w h => by
  obtain ⟨k, hk, rfl⟩ := List.mem_map.mp h
  have hk2 := List.mem_range.mp hk
  exact List.mem_of_getElem? (i := 56 + k) (by rcases (show k = 0 ∨ k = 1 ∨ k = 2 ∨ k = 3 ∨ k = 4 ∨ k = 5 ∨ k = 6 ∨ k = 7 ∨ k = 8 ∨ k = 9 ∨ k = 10 ∨ k = 11 ∨ k = 12 ∨ k = 13 ∨ k = 14 ∨ k = 15 ∨ k = 16 ∨ k = 17 ∨ k = 18 ∨ k = 19 by omega) with rfl | rfl | rfl | rfl | rfl | rfl | rfl | rfl | rfl | rfl | rfl | rfl | rfl | rfl | rfl | rfl | rfl | rfl | rfl | rfl <;> rfl)
set_option maxRecDepth 100000 in
set_option maxHeartbeats 4000000 in
theorem tX11_next__b27 {p : Program} {l : Launch} {e : Env} {s : State} {m : MethodId} {args : Array Value} {below : List Frame} {meth : Method} {c : Code} {A : Nat → Prop} {dC : Nat → ClassId} {dI : Nat → Nat → Nat} {cI : ClassId} {q q_refused q_tongue q_fresh q_kept q_isKept q_text q_said q_talk : Nat} {m_thrown : Int32} {m_size : Int32} {m_at : Int32} {m_start : Int32} {m_token : Int32} {m_value : Int64} {m_faultAt : Int32} {m_allowed : Int32} {m_firstPair : Int32} {m_secondPair : Int32} {m_above : Int64} {m_below : Int64} {m_refused : Nat → Int32} {m_tongue : Nat → Int32} (C0 : gm_C p s m args meth c (dC, dI) [(cI, .int)] A gm_T RX11 cX11_next_ 9 (some .int) wsX11_next_) {N : Nat} {out : Int32 × Int32 × (Nat → Int32)}    {H : Heap} {locs : List Loc} {ls : Array Slot} (h : fX11_next__b27 N  m_thrown m_refused = some out) (hH : gm_H (dC, dI) A s (wX11_next_ cI q q_refused q_tongue q_fresh q_kept q_isKept q_text q_said q_talk m_thrown m_size m_at m_start m_token m_value m_faultAt m_allowed m_firstPair m_secondPair m_above m_below m_refused m_tongue) H locs) (hl : lv_has ls 9 [(0, .ref q)]) : W p l e rX11_next_ s m args below meth c H locs 0 0 (MQ below (gm_Q (dC, dI) [(cI, .int)] A (some (.int out.1)) (wX11_next_ cI q q_refused q_tongue q_fresh q_kept q_isKept q_text q_said q_talk out.2.1 m_size m_at m_start m_token m_value m_faultAt m_allowed m_firstPair m_secondPair m_above m_below out.2.2 m_tongue)) args s 0 0 A) (F0 m 27 ls []) := by
  obtain ⟨hx, hb, hml, hr, hown, hts, hA, hK, hX, hlocks⟩ := id C0
  unfold fX11_next__b27 at h
  refine lv_aload_n hx hb dX11_next__27 rfl (lv_at hl 0 rfl) ?_
  obtain ⟨o3, ho3, h⟩ := gm_bind_e h
  refine gm_callV (As := []) (rest := []) (n := 0) (ci := 11) (q0 := 0) C0 hH (mX11_bad l dC dI cI q q_refused q_tongue q_fresh q_kept q_isKept q_text q_said q_talk m_thrown m_size m_at m_start m_token m_value m_faultAt m_allowed m_firstPair m_secondPair m_above m_below m_refused    ho3) gX11_next__X11_bad rfl (by decide +kernel) ⟨rfl, rfl, Nat.le_of_ble_eq_true rfl, Nat.le_of_ble_eq_true rfl⟩ gm_T_ok (fun _ => trivial) [0, 1] rfl rfl rfl [0] rfl rfl rfl rfl hl.1 rfl (Nat.le_of_ble_eq_true rfl) dX11_next__28 ⟨Nat.zero_le _, Nat.zero_le _⟩ (fun H locs hH => ?_)
  have hH : gm_H (dC, dI) A s (wX11_next_ cI q q_refused q_tongue q_fresh q_kept q_isKept q_text q_said q_talk m_thrown m_size m_at m_start m_token m_value m_faultAt m_allowed m_firstPair m_secondPair m_above m_below o3.2 m_tongue) H locs := hH
  obtain rfl := Option.some.inj h
  exact gm_iret C0 hH dX11_next__31
set_option maxRecDepth 100000 in
set_option maxHeartbeats 4000000 in
theorem tX11_next__b126 {p : Program} {l : Launch} {e : Env} {s : State} {m : MethodId} {args : Array Value} {below : List Frame} {meth : Method} {c : Code} {A : Nat → Prop} {dC : Nat → ClassId} {dI : Nat → Nat → Nat} {cI : ClassId} {q q_refused q_tongue q_fresh q_kept q_isKept q_text q_said q_talk : Nat} {m_thrown : Int32} {m_size : Int32} {m_at : Int32} {m_start : Int32} {m_token : Int32} {m_value : Int64} {m_faultAt : Int32} {m_allowed : Int32} {m_firstPair : Int32} {m_secondPair : Int32} {m_above : Int64} {m_below : Int64} {m_refused : Nat → Int32} {m_tongue : Nat → Int32} {x2 : Int32} {x4 : Int32} {x5 : Int32} (C0 : gm_C p s m args meth c (dC, dI) [(cI, .int)] A gm_T RX11 cX11_next_ 9 (some .int) wsX11_next_) {N : Nat} {out : Int32 × Int32 × (Nat → Int32)}    {H : Heap} {locs : List Loc} {ls : Array Slot} (h : fX11_next__b126 N  m_thrown m_refused x2 x4 x5 = some out) (hH : gm_H (dC, dI) A s (wX11_next_ cI q q_refused q_tongue q_fresh q_kept q_isKept q_text q_said q_talk m_thrown m_size m_at m_start m_token m_value m_faultAt m_allowed m_firstPair m_secondPair m_above m_below m_refused m_tongue) H locs) (hl : lv_has ls 9 [(2, .int x2), (4, .int x4), (5, .int x5)]) : W p l e rX11_next_ s m args below meth c H locs 0 0 (MQ below (gm_Q (dC, dI) [(cI, .int)] A (some (.int out.1)) (wX11_next_ cI q q_refused q_tongue q_fresh q_kept q_isKept q_text q_said q_talk out.2.1 m_size m_at m_start m_token m_value m_faultAt m_allowed m_firstPair m_secondPair m_above m_below out.2.2 m_tongue)) args s 0 0 A) (F0 m 126 ls []) := by
  obtain ⟨hx, hb, hml, hr, hown, hts, hA, hK, hX, hlocks⟩ := id C0
  unfold fX11_next__b126 at h
  refine lv_iload_n hx hb dX11_next__126 rfl (lv_at hl 0 rfl) ?_
  refine lv_if_ne (tgt := 135) hx hb dX11_next__127 (by decide) (fun hc9 => ?_) (fun hc9 => ?_)
  · replace h := gm_neg hc9 h
    refine lv_iload hx hb dX11_next__135 (lv_at hl 2 rfl) ?_
    obtain rfl := Option.some.inj h
    exact gm_iret C0 hH dX11_next__137
  · replace h := gm_pos hc9 h
    refine lv_iload hx hb dX11_next__130 (lv_at hl 1 rfl) ?_
    refine lv_goto (tgt := 137) hx hb dX11_next__132 (by decide) ?_
    obtain rfl := Option.some.inj h
    exact gm_iret C0 hH dX11_next__137
set_option maxRecDepth 100000 in
set_option maxHeartbeats 4000000 in
theorem tX11_next__b118 {p : Program} {l : Launch} {e : Env} {s : State} {m : MethodId} {args : Array Value} {below : List Frame} {meth : Method} {c : Code} {A : Nat → Prop} {dC : Nat → ClassId} {dI : Nat → Nat → Nat} {cI : ClassId} {q q_refused q_tongue q_fresh q_kept q_isKept q_text q_said q_talk : Nat} {m_thrown : Int32} {m_size : Int32} {m_at : Int32} {m_start : Int32} {m_token : Int32} {m_value : Int64} {m_faultAt : Int32} {m_allowed : Int32} {m_firstPair : Int32} {m_secondPair : Int32} {m_above : Int64} {m_below : Int64} {m_refused : Nat → Int32} {m_tongue : Nat → Int32} {x1 : Int32} {x2 : Int32} {x3 : Int32} {x4 : Int32} {x6 : Int32} {k0 : Int32} (C0 : gm_C p s m args meth c (dC, dI) [(cI, .int)] A gm_T RX11 cX11_next_ 9 (some .int) wsX11_next_) {N : Nat} {out : Int32 × Int32 × (Nat → Int32)} {r47 : Int32 → Int32 → Int32 → Option (Int32 × Int32 × (Nat → Int32))} (hr47 : ∀ (x4 : Int32) (x5 : Int32) (x6 : Int32) (H : Heap) (locs : List Loc) (ls : Array Slot), r47 x4 x5 x6 = some out → gm_H (dC, dI) A s (wX11_next_ cI q q_refused q_tongue q_fresh q_kept q_isKept q_text q_said q_talk m_thrown m_size m_at m_start m_token m_value m_faultAt m_allowed m_firstPair m_secondPair m_above m_below m_refused m_tongue) H locs → lv_has ls 9 [(0, .ref q), (1, .int x1), (2, .int x2), (3, .int x3), (4, .int x4), (5, .int x5), (6, .int x6)] → W p l e rX11_next_ s m args below meth c H locs 0 0 (MQ below (gm_Q (dC, dI) [(cI, .int)] A (some (.int out.1)) (wX11_next_ cI q q_refused q_tongue q_fresh q_kept q_isKept q_text q_said q_talk out.2.1 m_size m_at m_start m_token m_value m_faultAt m_allowed m_firstPair m_secondPair m_above m_below out.2.2 m_tongue)) args s 0 0 A) (F0 m 47 ls []))   {H : Heap} {locs : List Loc} {ls : Array Slot} (h : fX11_next__b118 N r47 m_thrown m_refused m_tongue x1 x2 x3 x4 x6 k0 = some out) (hH : gm_H (dC, dI) A s (wX11_next_ cI q q_refused q_tongue q_fresh q_kept q_isKept q_text q_said q_talk m_thrown m_size m_at m_start m_token m_value m_faultAt m_allowed m_firstPair m_secondPair m_above m_below m_refused m_tongue) H locs) (hl : lv_has ls 9 [(0, .ref q), (1, .int x1), (2, .int x2), (3, .int x3), (4, .int x4), (6, .int x6)]) : W p l e rX11_next_ s m args below meth c H locs 0 0 (MQ below (gm_Q (dC, dI) [(cI, .int)] A (some (.int out.1)) (wX11_next_ cI q q_refused q_tongue q_fresh q_kept q_isKept q_text q_said q_talk out.2.1 m_size m_at m_start m_token m_value m_faultAt m_allowed m_firstPair m_secondPair m_above m_below out.2.2 m_tongue)) args s 0 0 A) (F0 m 118 ls [.int k0]) := by
  obtain ⟨hx, hb, hml, hr, hown, hts, hA, hK, hX, hlocks⟩ := id C0
  unfold fX11_next__b118 at h
  refine lv_istore (lv' := [(5, .int k0), (0, .ref q), (1, .int x1), (2, .int x2), (3, .int x3), (4, .int x4), (6, .int x6)]) hx hb dX11_next__118 hl (by decide) rfl (fun ls hl => ?_)
  refine lv_iinc (v := (x6 + 1)) (lv' := [(6, .int (x6 + 1)), (5, .int k0), (0, .ref q), (1, .int x1), (2, .int x2), (3, .int x3), (4, .int x4)]) hx hb dX11_next__120 hl (k := 6) rfl rfl (by decide) rfl (fun ls hl => ?_)
  refine lv_goto (tgt := 47) hx hb dX11_next__123 (by decide) ?_
  exact hr47 _ _ _ _ _ _ h hH (lv_sub hl [2, 3, 4, 5, 6, 1, 0] rfl)
set_option maxRecDepth 100000 in
set_option maxHeartbeats 4000000 in
theorem tX11_next__b104 {p : Program} {l : Launch} {e : Env} {s : State} {m : MethodId} {args : Array Value} {below : List Frame} {meth : Method} {c : Code} {A : Nat → Prop} {dC : Nat → ClassId} {dI : Nat → Nat → Nat} {cI : ClassId} {q q_refused q_tongue q_fresh q_kept q_isKept q_text q_said q_talk : Nat} {m_thrown : Int32} {m_size : Int32} {m_at : Int32} {m_start : Int32} {m_token : Int32} {m_value : Int64} {m_faultAt : Int32} {m_allowed : Int32} {m_firstPair : Int32} {m_secondPair : Int32} {m_above : Int64} {m_below : Int64} {m_refused : Nat → Int32} {m_tongue : Nat → Int32} {x1 : Int32} {x2 : Int32} {x3 : Int32} {x5 : Int32} {x6 : Int32} {x7 : Int32} {x8 : Int32} {k0 : Int32} (C0 : gm_C p s m args meth c (dC, dI) [(cI, .int)] A gm_T RX11 cX11_next_ 9 (some .int) wsX11_next_) {N : Nat} {out : Int32 × Int32 × (Nat → Int32)} {r47 : Int32 → Int32 → Int32 → Option (Int32 × Int32 × (Nat → Int32))} (hr47 : ∀ (x4 : Int32) (x5 : Int32) (x6 : Int32) (H : Heap) (locs : List Loc) (ls : Array Slot), r47 x4 x5 x6 = some out → gm_H (dC, dI) A s (wX11_next_ cI q q_refused q_tongue q_fresh q_kept q_isKept q_text q_said q_talk m_thrown m_size m_at m_start m_token m_value m_faultAt m_allowed m_firstPair m_secondPair m_above m_below m_refused m_tongue) H locs → lv_has ls 9 [(0, .ref q), (1, .int x1), (2, .int x2), (3, .int x3), (4, .int x4), (5, .int x5), (6, .int x6)] → W p l e rX11_next_ s m args below meth c H locs 0 0 (MQ below (gm_Q (dC, dI) [(cI, .int)] A (some (.int out.1)) (wX11_next_ cI q q_refused q_tongue q_fresh q_kept q_isKept q_text q_said q_talk out.2.1 m_size m_at m_start m_token m_value m_faultAt m_allowed m_firstPair m_secondPair m_above m_below out.2.2 m_tongue)) args s 0 0 A) (F0 m 47 ls []))   {H : Heap} {locs : List Loc} {ls : Array Slot} (h : fX11_next__b104 N r47 m_thrown m_refused m_tongue x1 x2 x3 x5 x6 x7 x8 k0 = some out) (hH : gm_H (dC, dI) A s (wX11_next_ cI q q_refused q_tongue q_fresh q_kept q_isKept q_text q_said q_talk m_thrown m_size m_at m_start m_token m_value m_faultAt m_allowed m_firstPair m_secondPair m_above m_below m_refused m_tongue) H locs) (hl : lv_has ls 9 [(0, .ref q), (1, .int x1), (2, .int x2), (3, .int x3), (5, .int x5), (6, .int x6), (7, .int x7), (8, .int x8)]) : W p l e rX11_next_ s m args below meth c H locs 0 0 (MQ below (gm_Q (dC, dI) [(cI, .int)] A (some (.int out.1)) (wX11_next_ cI q q_refused q_tongue q_fresh q_kept q_isKept q_text q_said q_talk out.2.1 m_size m_at m_start m_token m_value m_faultAt m_allowed m_firstPair m_secondPair m_above m_below out.2.2 m_tongue)) args s 0 0 A) (F0 m 104 ls [.int k0]) := by
  obtain ⟨hx, hb, hml, hr, hown, hts, hA, hK, hX, hlocks⟩ := id C0
  unfold fX11_next__b104 at h
  refine lv_istore (lv' := [(4, .int k0), (0, .ref q), (1, .int x1), (2, .int x2), (3, .int x3), (5, .int x5), (6, .int x6), (7, .int x7), (8, .int x8)]) hx hb dX11_next__104 hl (by decide) rfl (fun ls hl => ?_)
  refine lv_iload hx hb dX11_next__106 (lv_at hl 8 rfl) ?_
  refine lv_if_eq (tgt := 116) hx hb dX11_next__108 (by decide) (fun hc14 => ?_) (fun hc14 => ?_)
  · replace h := gm_pos hc14 h
    refine lv_iload hx hb dX11_next__116 (lv_at hl 5 rfl) ?_
    exact tX11_next__b118 C0 hr47 h hH (lv_sub hl [1, 2, 3, 4, 0, 6] rfl)
  · replace h := gm_neg hc14 h
    refine lv_iload hx hb dX11_next__111 (lv_at hl 7 rfl) ?_
    refine lv_goto (tgt := 118) hx hb dX11_next__113 (by decide) ?_
    exact tX11_next__b118 C0 hr47 h hH (lv_sub hl [1, 2, 3, 4, 0, 6] rfl)
set_option maxRecDepth 100000 in
set_option maxHeartbeats 4000000 in
theorem tX11_next__b90 {p : Program} {l : Launch} {e : Env} {s : State} {m : MethodId} {args : Array Value} {below : List Frame} {meth : Method} {c : Code} {A : Nat → Prop} {dC : Nat → ClassId} {dI : Nat → Nat → Nat} {cI : ClassId} {q q_refused q_tongue q_fresh q_kept q_isKept q_text q_said q_talk : Nat} {m_thrown : Int32} {m_size : Int32} {m_at : Int32} {m_start : Int32} {m_token : Int32} {m_value : Int64} {m_faultAt : Int32} {m_allowed : Int32} {m_firstPair : Int32} {m_secondPair : Int32} {m_above : Int64} {m_below : Int64} {m_refused : Nat → Int32} {m_tongue : Nat → Int32} {x1 : Int32} {x2 : Int32} {x3 : Int32} {x4 : Int32} {x5 : Int32} {x6 : Int32} {x7 : Int32} {k0 : Int32} (C0 : gm_C p s m args meth c (dC, dI) [(cI, .int)] A gm_T RX11 cX11_next_ 9 (some .int) wsX11_next_) {N : Nat} {out : Int32 × Int32 × (Nat → Int32)} {r47 : Int32 → Int32 → Int32 → Option (Int32 × Int32 × (Nat → Int32))} (hr47 : ∀ (x4 : Int32) (x5 : Int32) (x6 : Int32) (H : Heap) (locs : List Loc) (ls : Array Slot), r47 x4 x5 x6 = some out → gm_H (dC, dI) A s (wX11_next_ cI q q_refused q_tongue q_fresh q_kept q_isKept q_text q_said q_talk m_thrown m_size m_at m_start m_token m_value m_faultAt m_allowed m_firstPair m_secondPair m_above m_below m_refused m_tongue) H locs → lv_has ls 9 [(0, .ref q), (1, .int x1), (2, .int x2), (3, .int x3), (4, .int x4), (5, .int x5), (6, .int x6)] → W p l e rX11_next_ s m args below meth c H locs 0 0 (MQ below (gm_Q (dC, dI) [(cI, .int)] A (some (.int out.1)) (wX11_next_ cI q q_refused q_tongue q_fresh q_kept q_isKept q_text q_said q_talk out.2.1 m_size m_at m_start m_token m_value m_faultAt m_allowed m_firstPair m_secondPair m_above m_below out.2.2 m_tongue)) args s 0 0 A) (F0 m 47 ls []))   {H : Heap} {locs : List Loc} {ls : Array Slot} (h : fX11_next__b90 N r47 m_thrown m_refused m_tongue x1 x2 x3 x4 x5 x6 x7 k0 = some out) (hH : gm_H (dC, dI) A s (wX11_next_ cI q q_refused q_tongue q_fresh q_kept q_isKept q_text q_said q_talk m_thrown m_size m_at m_start m_token m_value m_faultAt m_allowed m_firstPair m_secondPair m_above m_below m_refused m_tongue) H locs) (hl : lv_has ls 9 [(0, .ref q), (1, .int x1), (2, .int x2), (3, .int x3), (4, .int x4), (5, .int x5), (6, .int x6), (7, .int x7)]) : W p l e rX11_next_ s m args below meth c H locs 0 0 (MQ below (gm_Q (dC, dI) [(cI, .int)] A (some (.int out.1)) (wX11_next_ cI q q_refused q_tongue q_fresh q_kept q_isKept q_text q_said q_talk out.2.1 m_size m_at m_start m_token m_value m_faultAt m_allowed m_firstPair m_secondPair m_above m_below out.2.2 m_tongue)) args s 0 0 A) (F0 m 90 ls [.int k0]) := by
  obtain ⟨hx, hb, hml, hr, hown, hts, hA, hK, hX, hlocks⟩ := id C0
  unfold fX11_next__b90 at h
  refine lv_istore (lv' := [(8, .int k0), (0, .ref q), (1, .int x1), (2, .int x2), (3, .int x3), (4, .int x4), (5, .int x5), (6, .int x6), (7, .int x7)]) hx hb dX11_next__90 hl (by decide) rfl (fun ls hl => ?_)
  refine lv_iload hx hb dX11_next__92 (lv_at hl 0 rfl) ?_
  refine lv_if_eq (tgt := 102) hx hb dX11_next__94 (by decide) (fun hc13 => ?_) (fun hc13 => ?_)
  · replace h := gm_pos hc13 h
    refine lv_iload hx hb dX11_next__102 (lv_at hl 5 rfl) ?_
    exact tX11_next__b104 C0 hr47 h hH (lv_sub hl [1, 2, 3, 4, 6, 7, 8, 0] rfl)
  · replace h := gm_neg hc13 h
    refine lv_iload hx hb dX11_next__97 (lv_at hl 7 rfl) ?_
    refine lv_goto (tgt := 104) hx hb dX11_next__99 (by decide) ?_
    exact tX11_next__b104 C0 hr47 h hH (lv_sub hl [1, 2, 3, 4, 6, 7, 8, 0] rfl)
set_option maxRecDepth 100000 in
set_option maxHeartbeats 4000000 in
theorem tX11_next__b85 {p : Program} {l : Launch} {e : Env} {s : State} {m : MethodId} {args : Array Value} {below : List Frame} {meth : Method} {c : Code} {A : Nat → Prop} {dC : Nat → ClassId} {dI : Nat → Nat → Nat} {cI : ClassId} {q q_refused q_tongue q_fresh q_kept q_isKept q_text q_said q_talk : Nat} {m_thrown : Int32} {m_size : Int32} {m_at : Int32} {m_start : Int32} {m_token : Int32} {m_value : Int64} {m_faultAt : Int32} {m_allowed : Int32} {m_firstPair : Int32} {m_secondPair : Int32} {m_above : Int64} {m_below : Int64} {m_refused : Nat → Int32} {m_tongue : Nat → Int32} {x1 : Int32} {x2 : Int32} {x3 : Int32} {x4 : Int32} {x5 : Int32} {x6 : Int32} {x7 : Int32} (C0 : gm_C p s m args meth c (dC, dI) [(cI, .int)] A gm_T RX11 cX11_next_ 9 (some .int) wsX11_next_) {N : Nat} {out : Int32 × Int32 × (Nat → Int32)} {r47 : Int32 → Int32 → Int32 → Option (Int32 × Int32 × (Nat → Int32))} (hr47 : ∀ (x4 : Int32) (x5 : Int32) (x6 : Int32) (H : Heap) (locs : List Loc) (ls : Array Slot), r47 x4 x5 x6 = some out → gm_H (dC, dI) A s (wX11_next_ cI q q_refused q_tongue q_fresh q_kept q_isKept q_text q_said q_talk m_thrown m_size m_at m_start m_token m_value m_faultAt m_allowed m_firstPair m_secondPair m_above m_below m_refused m_tongue) H locs → lv_has ls 9 [(0, .ref q), (1, .int x1), (2, .int x2), (3, .int x3), (4, .int x4), (5, .int x5), (6, .int x6)] → W p l e rX11_next_ s m args below meth c H locs 0 0 (MQ below (gm_Q (dC, dI) [(cI, .int)] A (some (.int out.1)) (wX11_next_ cI q q_refused q_tongue q_fresh q_kept q_isKept q_text q_said q_talk out.2.1 m_size m_at m_start m_token m_value m_faultAt m_allowed m_firstPair m_secondPair m_above m_below out.2.2 m_tongue)) args s 0 0 A) (F0 m 47 ls []))   {H : Heap} {locs : List Loc} {ls : Array Slot} (h : fX11_next__b85 N r47 m_thrown m_refused m_tongue x1 x2 x3 x4 x5 x6 x7 = some out) (hH : gm_H (dC, dI) A s (wX11_next_ cI q q_refused q_tongue q_fresh q_kept q_isKept q_text q_said q_talk m_thrown m_size m_at m_start m_token m_value m_faultAt m_allowed m_firstPair m_secondPair m_above m_below m_refused m_tongue) H locs) (hl : lv_has ls 9 [(0, .ref q), (1, .int x1), (2, .int x2), (3, .int x3), (4, .int x4), (5, .int x5), (6, .int x6), (7, .int x7)]) : W p l e rX11_next_ s m args below meth c H locs 0 0 (MQ below (gm_Q (dC, dI) [(cI, .int)] A (some (.int out.1)) (wX11_next_ cI q q_refused q_tongue q_fresh q_kept q_isKept q_text q_said q_talk out.2.1 m_size m_at m_start m_token m_value m_faultAt m_allowed m_firstPair m_secondPair m_above m_below out.2.2 m_tongue)) args s 0 0 A) (F0 m 85 ls []) := by
  obtain ⟨hx, hb, hml, hr, hown, hts, hA, hK, hX, hlocks⟩ := id C0
  unfold fX11_next__b85 at h
  refine lv_iconst (v := 1) hx hb dX11_next__85 (by decide) ?_
  refine lv_goto (tgt := 90) hx hb dX11_next__86 (by decide) ?_
  exact tX11_next__b90 C0 hr47 h hH (lv_sub hl [0, 1, 2, 3, 4, 5, 6, 7] rfl)
set_option maxRecDepth 100000 in
set_option maxHeartbeats 4000000 in
theorem tX11_next__b47 {p : Program} {l : Launch} {e : Env} {s : State} {m : MethodId} {args : Array Value} {below : List Frame} {meth : Method} {c : Code} {A : Nat → Prop} {dC : Nat → ClassId} {dI : Nat → Nat → Nat} {cI : ClassId} {q q_refused q_tongue q_fresh q_kept q_isKept q_text q_said q_talk : Nat} {m_thrown : Int32} {m_size : Int32} {m_at : Int32} {m_start : Int32} {m_token : Int32} {m_value : Int64} {m_faultAt : Int32} {m_allowed : Int32} {m_firstPair : Int32} {m_secondPair : Int32} {m_above : Int64} {m_below : Int64} {m_refused : Nat → Int32} {m_tongue : Nat → Int32} {x1 : Int32} {x2 : Int32} {x3 : Int32} (C0 : gm_C p s m args meth c (dC, dI) [(cI, .int)] A gm_T RX11 cX11_next_ 9 (some .int) wsX11_next_) {N : Nat} {out : Int32 × Int32 × (Nat → Int32)}   : ∀ (n : Nat), ∀ (x4 : Int32) (x5 : Int32) (x6 : Int32) (H : Heap) (locs : List Loc) (ls : Array Slot), (gm_fix (fX11_next__b47_body N  m_thrown m_refused m_tongue x1 x2 x3) (fun _ _ _ => none) n) x4 x5 x6 = some out → gm_H (dC, dI) A s (wX11_next_ cI q q_refused q_tongue q_fresh q_kept q_isKept q_text q_said q_talk m_thrown m_size m_at m_start m_token m_value m_faultAt m_allowed m_firstPair m_secondPair m_above m_below m_refused m_tongue) H locs → lv_has ls 9 [(0, .ref q), (1, .int x1), (2, .int x2), (3, .int x3), (4, .int x4), (5, .int x5), (6, .int x6)] → W p l e rX11_next_ s m args below meth c H locs 0 0 (MQ below (gm_Q (dC, dI) [(cI, .int)] A (some (.int out.1)) (wX11_next_ cI q q_refused q_tongue q_fresh q_kept q_isKept q_text q_said q_talk out.2.1 m_size m_at m_start m_token m_value m_faultAt m_allowed m_firstPair m_secondPair m_above m_below out.2.2 m_tongue)) args s 0 0 A) (F0 m 47 ls []) := by
  obtain ⟨hx, hb, hml, hr, hown, hts, hA, hK, hX, hlocks⟩ := id C0
  intro n
  induction n with
  | zero =>
    intro x4 x5 x6 H locs ls h hH hl
    cases h
  | succ n hr47 =>
    intro x4 x5 x6 H locs ls h hH hl
    rw [gm_fix_s] at h
    unfold fX11_next__b47_body at h
    refine lv_iload hx hb dX11_next__47 (lv_at hl 6 rfl) ?_
    refine lv_aload_n hx hb dX11_next__49 rfl (lv_at hl 0 rfl) ?_
    refine gm_get (ci := 11) C0 hH inX11_next__X11 0 2 3 rfl rfl (by decide) rfl rfl dX11_next__50 ?_
    refine lv_iconst (v := 0) hx hb dX11_next__53 (by decide) ?_
    obtain ⟨hi7, h⟩ := gm_chk_e h
    refine gm_iald C0 hH hi7 2 0 rfl rfl dX11_next__54 ?_
    refine lv_icmp_ge (tgt := 126) hx hb dX11_next__55 (by decide) (fun hc8 => ?_) (fun hc8 => ?_)
    · replace h := gm_pos hc8 h
      exact tX11_next__b126 C0  h hH (lv_sub hl [2, 4, 5] rfl)
    · replace h := gm_neg hc8 h
      refine lv_iload_n hx hb dX11_next__58 rfl (lv_at hl 3 rfl) ?_
      refine lv_if_eq (tgt := 126) hx hb dX11_next__59 (by decide) (fun hc10 => ?_) (fun hc10 => ?_)
      · replace h := gm_pos hc10 h
        exact tX11_next__b126 C0  h hH (lv_sub hl [2, 4, 5] rfl)
      · replace h := gm_neg hc10 h
        refine lv_aload_n hx hb dX11_next__62 rfl (lv_at hl 0 rfl) ?_
        refine lv_iload_n hx hb dX11_next__63 rfl (lv_at hl 1 rfl) ?_
        refine lv_iload_n hx hb dX11_next__64 rfl (lv_at hl 3 rfl) ?_
        refine lv_iload hx hb dX11_next__65 (lv_at hl 6 rfl) ?_
        obtain ⟨o11, ho11, h⟩ := gm_bind_e h
        refine gm_callV (As := [.int x1, .int x3, .int x6]) (rest := []) (n := 3) (ci := 11) (q0 := 0) C0 hH (mX11_leftBy l dC dI cI q q_tongue q_refused q_fresh q_kept q_isKept q_text q_said q_talk m_thrown m_size m_at m_start m_token m_value m_faultAt m_allowed m_firstPair m_secondPair m_above m_below m_tongue x1 x3 x6   ho11) gX11_next__X11_leftBy rfl (by decide +kernel) ⟨rfl, rfl, Nat.le_of_ble_eq_true rfl, Nat.le_of_ble_eq_true rfl⟩ gm_T_ok (fun _ => trivial) [0, 2] rfl rfl rfl [0] rfl rfl rfl rfl hl.1 rfl (Nat.le_of_ble_eq_true rfl) dX11_next__67 ⟨Nat.zero_le _, Nat.zero_le _⟩ (fun H locs hH => ?_)
        have hH : gm_H (dC, dI) A s (wX11_next_ cI q q_refused q_tongue q_fresh q_kept q_isKept q_text q_said q_talk m_thrown m_size m_at m_start m_token m_value m_faultAt m_allowed m_firstPair m_secondPair m_above m_below m_refused m_tongue) H locs := hH
        refine lv_istore (lv' := [(7, .int o11), (0, .ref q), (1, .int x1), (2, .int x2), (3, .int x3), (4, .int x4), (5, .int x5), (6, .int x6)]) hx hb dX11_next__70 hl (by decide) rfl (fun ls hl => ?_)
        refine lv_iload hx hb dX11_next__72 (lv_at hl 5 rfl) ?_
        refine lv_iconst (v := (-1)) hx hb dX11_next__74 (by decide) ?_
        refine lv_icmp_eq (tgt := 85) hx hb dX11_next__75 (by decide) (fun hc12 => ?_) (fun hc12 => ?_)
        · replace h := gm_pos hc12 h
          exact tX11_next__b85 C0 hr47 h hH (lv_sub hl [1, 2, 3, 4, 5, 6, 7, 0] rfl)
        · replace h := gm_neg hc12 h
          refine lv_iload hx hb dX11_next__78 (lv_at hl 0 rfl) ?_
          refine lv_iload hx hb dX11_next__80 (lv_at hl 6 rfl) ?_
          refine lv_icmp_ge (tgt := 89) hx hb dX11_next__82 (by decide) (fun hc15 => ?_) (fun hc15 => ?_)
          · replace h := gm_pos hc15 h
            refine lv_iconst (v := 0) hx hb dX11_next__89 (by decide) ?_
            exact tX11_next__b90 C0 hr47 h hH (lv_sub hl [1, 2, 3, 4, 5, 6, 7, 0] rfl)
          · replace h := gm_neg hc15 h
            exact tX11_next__b85 C0 hr47 h hH (lv_sub hl [1, 2, 3, 4, 5, 6, 7, 0] rfl)
set_option maxRecDepth 100000 in
set_option maxHeartbeats 4000000 in
theorem mX11_next_ (l : Launch) (dC : Nat → ClassId) (dI : Nat → Nat → Nat) (cI : ClassId) (q q_refused q_tongue q_fresh q_kept q_isKept q_text q_said q_talk : Nat) (m_thrown : Int32) (m_size : Int32) (m_at : Int32) (m_start : Int32) (m_token : Int32) (m_value : Int64) (m_faultAt : Int32) (m_allowed : Int32) (m_firstPair : Int32) (m_secondPair : Int32) (m_above : Int64) (m_below : Int64) (m_refused : Nat → Int32) (m_tongue : Nat → Int32) (x1 : Int32) (x2 : Int32)  {N : Nat} {out : Int32 × Int32 × (Nat → Int32)} (h : fX11_next_ N m_thrown m_refused m_tongue x1 x2 = some out) : gm_Met l yX11_next_ wsX11_next_ rX11_next_ (dC, dI) [(cI, .int)] gm_T [.ref q, .int x1, .int x2] (wX11_next_ cI q q_refused q_tongue q_fresh q_kept q_isKept q_text q_said q_talk m_thrown m_size m_at m_start m_token m_value m_faultAt m_allowed m_firstPair m_secondPair m_above m_below m_refused m_tongue) (some (.int out.1)) (wX11_next_ cI q q_refused q_tongue q_fresh q_kept q_isKept q_text q_said q_talk out.2.1 m_size m_at m_start m_token m_value m_faultAt m_allowed m_firstPair m_secondPair m_above m_below out.2.2 m_tongue) := by
  refine gm_ofW (cc := cX11_next_) (maxL := 9) (ret := (some .int)) (by decide +kernel) rfl (Nat.le_of_ble_eq_true rfl) ?_
  intro p e s m below meth c A C0 hH ls hl
  generalize ([.ref q, .int x1, .int x2] : List Value).toArray = args at C0 ⊢
  have hl : lv_has ls 9 [(0, .ref q), (1, .int x1), (2, .int x2)] := hl
  generalize s.heap = H at hH ⊢
  generalize ([] : List Loc) = locs at hH ⊢
  obtain ⟨hx, hb, hml, hr, hown, hts, hA, hK, hX, hlocks⟩ := id C0
  unfold fX11_next_ at h
  refine lv_aload_n hx hb dX11_next__0 rfl (lv_at hl 0 rfl) ?_
  refine lv_iconst (v := 0) hx hb dX11_next__1 (by decide) ?_
  refine gm_putf (ci := 11) C0 hH inX11_next__X11 tyX11_ok nmX11 0 0 1 rfl rfl (by decide) rfl rfl rfl rfl rfl (Nat.le_of_ble_eq_true rfl) dX11_next__2 (fun H locs hH => ?_)
  have hH : gm_H (dC, dI) A s (wX11_next_ cI q q_refused q_tongue q_fresh q_kept q_isKept q_text q_said q_talk 0 m_size m_at m_start m_token m_value m_faultAt m_allowed m_firstPair m_secondPair m_above m_below m_refused m_tongue) H locs := hH
  refine lv_iload_n hx hb dX11_next__5 rfl (lv_at hl 1 rfl) ?_
  refine lv_i2l hx hb dX11_next__6 rfl ?_
  refine lv_lconst (v := 0) hx hb dX11_next__7 (by decide) ?_
  refine lv_ldc2 (own := RX11) (v := 5) hx hb hown (gm_at C0 2 rfl) dX11_next__8 ?_
  obtain ⟨o1, ho1, h⟩ := gm_bind_e h
  refine gm_callS (As := [.long (Int32.toInt64 x1), .long 0, .long 5]) (rest := []) (n := 3) C0 hH (mX11_in l dC dI    ((Int32.toInt64 x1)) 0 5   ho1) gX11_next__X11_in rfl (by decide +kernel) ⟨rfl, rfl, Nat.le_of_ble_eq_true rfl, Nat.le_of_ble_eq_true rfl⟩ gm_T_ok (fun _ => trivial) [] rfl rfl rfl [] rfl rfl hl.1 rfl (Nat.le_of_ble_eq_true rfl) dX11_next__11 ⟨Nat.zero_le _, Nat.zero_le _⟩ (fun H locs hH => ?_)
  have hH : gm_H (dC, dI) A s (wX11_next_ cI q q_refused q_tongue q_fresh q_kept q_isKept q_text q_said q_talk 0 m_size m_at m_start m_token m_value m_faultAt m_allowed m_firstPair m_secondPair m_above m_below m_refused m_tongue) H locs := hH
  refine lv_if_eq (tgt := 27) hx hb dX11_next__14 (by decide) (fun hc2 => ?_) (fun hc2 => ?_)
  · replace h := gm_pos hc2 h
    exact tX11_next__b27 C0  h hH (lv_sub hl [0] rfl)
  · replace h := gm_neg hc2 h
    refine lv_iload_n hx hb dX11_next__17 rfl (lv_at hl 2 rfl) ?_
    refine lv_i2l hx hb dX11_next__18 rfl ?_
    refine lv_lconst (v := 0) hx hb dX11_next__19 (by decide) ?_
    refine lv_lconst (v := 1) hx hb dX11_next__20 (by decide) ?_
    obtain ⟨o4, ho4, h⟩ := gm_bind_e h
    refine gm_callS (As := [.long (Int32.toInt64 x2), .long 0, .long 1]) (rest := []) (n := 3) C0 hH (mX11_in l dC dI    ((Int32.toInt64 x2)) 0 1   ho4) gX11_next__X11_in rfl (by decide +kernel) ⟨rfl, rfl, Nat.le_of_ble_eq_true rfl, Nat.le_of_ble_eq_true rfl⟩ gm_T_ok (fun _ => trivial) [] rfl rfl rfl [] rfl rfl hl.1 rfl (Nat.le_of_ble_eq_true rfl) dX11_next__21 ⟨Nat.zero_le _, Nat.zero_le _⟩ (fun H locs hH => ?_)
    have hH : gm_H (dC, dI) A s (wX11_next_ cI q q_refused q_tongue q_fresh q_kept q_isKept q_text q_said q_talk 0 m_size m_at m_start m_token m_value m_faultAt m_allowed m_firstPair m_secondPair m_above m_below m_refused m_tongue) H locs := hH
    refine lv_if_ne (tgt := 32) hx hb dX11_next__24 (by decide) (fun hc5 => ?_) (fun hc5 => ?_)
    · replace h := gm_neg hc5 h
      refine lv_aload_n hx hb dX11_next__32 rfl (lv_at hl 0 rfl) ?_
      refine lv_iload_n hx hb dX11_next__33 rfl (lv_at hl 1 rfl) ?_
      obtain ⟨o6, ho6, h⟩ := gm_bind_e h
      refine gm_callV (As := [.int x1]) (rest := []) (n := 1) (ci := 11) (q0 := 0) C0 hH (mX11_wantsOf l dC dI cI q q_tongue q_refused q_fresh q_kept q_isKept q_text q_said q_talk 0 m_size m_at m_start m_token m_value m_faultAt m_allowed m_firstPair m_secondPair m_above m_below m_tongue x1   ho6) gX11_next__X11_wantsOf rfl (by decide +kernel) ⟨rfl, rfl, Nat.le_of_ble_eq_true rfl, Nat.le_of_ble_eq_true rfl⟩ gm_T_ok (fun _ => trivial) [0, 2] rfl rfl rfl [0] rfl rfl rfl rfl hl.1 rfl (Nat.le_of_ble_eq_true rfl) dX11_next__34 ⟨Nat.zero_le _, Nat.zero_le _⟩ (fun H locs hH => ?_)
      have hH : gm_H (dC, dI) A s (wX11_next_ cI q q_refused q_tongue q_fresh q_kept q_isKept q_text q_said q_talk 0 m_size m_at m_start m_token m_value m_faultAt m_allowed m_firstPair m_secondPair m_above m_below m_refused m_tongue) H locs := hH
      refine lv_istore_n (lv' := [(3, .int o6), (0, .ref q), (1, .int x1), (2, .int x2)]) hx hb dX11_next__37 rfl hl (by decide) rfl (fun ls hl => ?_)
      refine lv_iconst (v := (-1)) hx hb dX11_next__38 (by decide) ?_
      refine lv_istore (lv' := [(4, .int (-1)), (3, .int o6), (0, .ref q), (1, .int x1), (2, .int x2)]) hx hb dX11_next__39 hl (by decide) rfl (fun ls hl => ?_)
      refine lv_iconst (v := 0) hx hb dX11_next__41 (by decide) ?_
      refine lv_istore (lv' := [(5, .int 0), (4, .int (-1)), (3, .int o6), (0, .ref q), (1, .int x1), (2, .int x2)]) hx hb dX11_next__42 hl (by decide) rfl (fun ls hl => ?_)
      refine lv_iconst (v := 0) hx hb dX11_next__44 (by decide) ?_
      refine lv_istore (lv' := [(6, .int 0), (5, .int 0), (4, .int (-1)), (3, .int o6), (0, .ref q), (1, .int x1), (2, .int x2)]) hx hb dX11_next__45 hl (by decide) rfl (fun ls hl => ?_)
      unfold fX11_next__b47 at h
      exact tX11_next__b47 C0  _ _ _ _ _ _ _ h hH (lv_sub hl [4, 5, 6, 3, 2, 1, 0] rfl)
    · replace h := gm_pos hc5 h
      exact tX11_next__b27 C0  h hH (lv_sub hl [0] rfl)

/-! X11_spot -/
abbrev rX11_spot : Room := { frames := 0, cells := 0, slots := 0, locals := 0 }
def fX11_spot (N : Nat)  (x0 : Int32) (x1 : Int32) (x2 : Int32) : Option (Int32) := some (((((x0 * 10) + x1) * 2) + x2))
set_option maxRecDepth 100000 in
set_option maxHeartbeats 4000000 in
theorem mX11_spot (l : Launch) (dC : Nat → ClassId) (dI : Nat → Nat → Nat)  (x0 : Int32) (x1 : Int32) (x2 : Int32)  {N : Nat} {out : Int32} (h : fX11_spot N x0 x1 x2 = some out) : gm_Met l yX11_spot wsX11_spot rX11_spot (dC, dI) [] gm_T [.int x0, .int x1, .int x2] ([] : va_W) (some (.int out)) ([] : va_W) := by
  refine gm_ofW (cc := cX11_spot) (maxL := 3) (ret := (some .int)) (by decide +kernel) rfl (Nat.le_of_ble_eq_true rfl) ?_
  intro p e s m below meth c A C0 hH ls hl
  generalize ([.int x0, .int x1, .int x2] : List Value).toArray = args at C0 ⊢
  have hl : lv_has ls 3 [(0, .int x0), (1, .int x1), (2, .int x2)] := hl
  generalize s.heap = H at hH ⊢
  generalize ([] : List Loc) = locs at hH ⊢
  obtain ⟨hx, hb, hml, hr, hown, hts, hA, hK, hX, hlocks⟩ := id C0
  unfold fX11_spot at h
  refine lv_iload_n hx hb dX11_spot_0 rfl (lv_at hl 0 rfl) ?_
  refine lv_bipush (v := 10) hx hb dX11_spot_1 (by decide) ?_
  refine lv_imul hx hb dX11_spot_3 ?_
  refine lv_iload_n hx hb dX11_spot_4 rfl (lv_at hl 1 rfl) ?_
  refine lv_iadd hx hb dX11_spot_5 ?_
  refine lv_iconst (v := 2) hx hb dX11_spot_6 (by decide) ?_
  refine lv_imul hx hb dX11_spot_7 ?_
  refine lv_iload_n hx hb dX11_spot_8 rfl (lv_at hl 2 rfl) ?_
  refine lv_iadd hx hb dX11_spot_9 ?_
  obtain rfl := Option.some.inj h
  exact gm_iret C0 hH dX11_spot_10

/-! X11_talkOf -/
abbrev wX11_talkOf (cI : ClassId) (q q_tongue q_talk q_refused q_fresh q_kept q_isKept q_text q_said : Nat) (m_thrown : Int32) (m_size : Int32) (m_at : Int32) (m_start : Int32) (m_token : Int32) (m_value : Int64) (m_faultAt : Int32) (m_allowed : Int32) (m_firstPair : Int32) (m_secondPair : Int32) (m_above : Int64) (m_below : Int64) (m_tongue : Nat → Int32) (m_talk : Nat → Int32) : va_W := [(q, .inr (11, [.int m_thrown, .ref q_refused, .ref q_tongue, .ref q_fresh, .ref q_kept, .ref q_isKept, .ref q_text, .int m_size, .int m_at, .int m_start, .int m_token, .long m_value, .int m_faultAt, .ref q_said, .ref q_talk, .int m_allowed, .int m_firstPair, .int m_secondPair, .long m_above, .long m_below])), (q_tongue, .inl (cI, 73, .inl m_tongue)), (q_talk, .inl (cI, 20480, .inl m_talk))]
abbrev rX11_talkOf : Room := { frames := 5, cells := 0, slots := 0, locals := 113 }
def fX11_talkOf_b146 (N : Nat) (r31 : Int32 → Int32 → Int32 → Option (Int32)) (m_tongue : Nat → Int32) (m_talk : Nat → Int32) (x2 : Int32) (x4 : Int32) (x5 : Int32) (x6 : Int32) (x7 : Int32) (x8 : Int32) (x9 : Int32) : Option (Int32) := (r31 x7 x8 ((x9 + 1)))
def fX11_talkOf_b143 (N : Nat) (r31 : Int32 → Int32 → Int32 → Option (Int32)) (m_tongue : Nat → Int32) (m_talk : Nat → Int32) (x2 : Int32) (x4 : Int32) (x5 : Int32) (x6 : Int32) (x7 : Int32) (x9 : Int32) : Option (Int32) := (fX11_talkOf_b146 N r31 m_tongue m_talk x2 x4 x5 x6 x7 0 x9)
def fX11_talkOf_b141 (N : Nat) (r31 : Int32 → Int32 → Int32 → Option (Int32)) (m_tongue : Nat → Int32) (m_talk : Nat → Int32) (x2 : Int32) (x4 : Int32) (x5 : Int32) (x6 : Int32) (x9 : Int32) (k0 : Int32) : Option (Int32) := (fX11_talkOf_b143 N r31 m_tongue m_talk x2 x4 x5 x6 k0 x9)
def fX11_talkOf_b132 (N : Nat) (r31 : Int32 → Int32 → Int32 → Option (Int32)) (m_tongue : Nat → Int32) (m_talk : Nat → Int32) (x2 : Int32) (x4 : Int32) (x5 : Int32) (x6 : Int32) (x9 : Int32) (x10 : Int32) : Option (Int32) := (fX11_talkOf_b141 N r31 m_tongue m_talk x2 x4 x5 x6 x9 ((x10 + 1)))
def fX11_talkOf_b139 (N : Nat) (r31 : Int32 → Int32 → Int32 → Option (Int32)) (m_tongue : Nat → Int32) (m_talk : Nat → Int32) (x2 : Int32) (x4 : Int32) (x5 : Int32) (x6 : Int32) (x7 : Int32) (x9 : Int32) : Option (Int32) := (fX11_talkOf_b141 N r31 m_tongue m_talk x2 x4 x5 x6 x9 x7)
def fX11_talkOf_b95 (N : Nat) (r31 : Int32 → Int32 → Int32 → Option (Int32)) (m_tongue : Nat → Int32) (m_talk : Nat → Int32) (x2 : Int32) (x4 : Int32) (x5 : Int32) (x6 : Int32) (x9 : Int32) (k0 : Int32) : Option (Int32) := (fX11_talkOf_b143 N r31 m_tongue m_talk x2 x4 x5 x6 k0 x9)
def fX11_talkOf_b31_body (N : Nat)  (m_tongue : Nat → Int32) (m_talk : Nat → Int32) (x2 : Int32) (x4 : Int32) (x5 : Int32) (x6 : Int32) (r31 : Int32 → Int32 → Int32 → Option (Int32)) (x7 : Int32) (x8 : Int32) (x9 : Int32) : Option (Int32) := gm_chk 0 73 ((if (m_tongue (Int32.toNatClampNeg 0)) ≤ x9 then some (x7) else gm_bind (fX11_has N x6 x9) (fun o6 => (if o6 = 0 then (fX11_talkOf_b146 N r31 m_tongue m_talk x2 x4 x5 x6 x7 x8 x9) else gm_bind (fX11_spot N ((x2 ||| ((1 : Int32) <<< (x9 &&& 31)))) x9 ((1 - x4))) (fun o8 => gm_chk o8 20480 (gm_let ((m_talk (Int32.toNatClampNeg o8)) : Int32) (fun (v10 : Int32) => (if x5 = 0 then (if v10 = (1 - x4) then (fX11_talkOf_b95 N r31 m_tongue m_talk x2 x4 x5 x6 x9 v10) else (fX11_talkOf_b95 N r31 m_tongue m_talk x2 x4 x5 x6 x9 x7)) else (if x8 = 0 then (if x5 = 1 then (if (v10 + 1) ≤ x7 then (fX11_talkOf_b139 N r31 m_tongue m_talk x2 x4 x5 x6 x7 x9) else (fX11_talkOf_b132 N r31 m_tongue m_talk x2 x4 x5 x6 x9 v10)) else (if x7 ≤ (v10 + 1) then (fX11_talkOf_b139 N r31 m_tongue m_talk x2 x4 x5 x6 x7 x9) else (fX11_talkOf_b132 N r31 m_tongue m_talk x2 x4 x5 x6 x9 v10))) else (fX11_talkOf_b132 N r31 m_tongue m_talk x2 x4 x5 x6 x9 v10))))))))))
def fX11_talkOf_b31 (N : Nat)  (m_tongue : Nat → Int32) (m_talk : Nat → Int32) (x2 : Int32) (x4 : Int32) (x5 : Int32) (x6 : Int32) (x7 : Int32) (x8 : Int32) (x9 : Int32) : Option (Int32) := gm_fix (fX11_talkOf_b31_body N  m_tongue m_talk x2 x4 x5 x6) (fun _ _ _ => none) N x7 x8 x9
def fX11_talkOf_b23 (N : Nat)  (m_tongue : Nat → Int32) (m_talk : Nat → Int32) (x2 : Int32) (x4 : Int32) (x5 : Int32) (x6 : Int32) (k0 : Int32) : Option (Int32) := (fX11_talkOf_b31 N  m_tongue m_talk x2 x4 x5 x6 k0 1 0)
def fX11_talkOf (N : Nat) (m_tongue : Nat → Int32) (m_talk : Nat → Int32) (x1 : Int32) (x2 : Int32) (x3 : Int32) (x4 : Int32) (x5 : Int32) : Option (Int32) := gm_bind (fX11_chimesWith N m_tongue x1 x3) (fun o1 => gm_let ((o1 &&& (x2 ^^^ (-1))) : Int32) (fun (v2 : Int32) => (if x5 = 0 then (fX11_talkOf_b23 N  m_tongue m_talk x2 x4 x5 v2 x4) else (fX11_talkOf_b23 N  m_tongue m_talk x2 x4 x5 v2 0))))
set_option maxRecDepth 20000 in
theorem inX11_talkOf_X11 : ∀ w ∈ u_ws RX11 TX11 20, w ∈ wsX11_talkOf := fun w h => by
  obtain ⟨k, hk, rfl⟩ := List.mem_map.mp h
  have hk2 := List.mem_range.mp hk
  exact List.mem_of_getElem? (i := 46 + k) (by rcases (show k = 0 ∨ k = 1 ∨ k = 2 ∨ k = 3 ∨ k = 4 ∨ k = 5 ∨ k = 6 ∨ k = 7 ∨ k = 8 ∨ k = 9 ∨ k = 10 ∨ k = 11 ∨ k = 12 ∨ k = 13 ∨ k = 14 ∨ k = 15 ∨ k = 16 ∨ k = 17 ∨ k = 18 ∨ k = 19 by omega) with rfl | rfl | rfl | rfl | rfl | rfl | rfl | rfl | rfl | rfl | rfl | rfl | rfl | rfl | rfl | rfl | rfl | rfl | rfl | rfl <;> rfl)
set_option maxRecDepth 100000 in
set_option maxHeartbeats 4000000 in
theorem tX11_talkOf_b146 {p : Program} {l : Launch} {e : Env} {s : State} {m : MethodId} {args : Array Value} {below : List Frame} {meth : Method} {c : Code} {A : Nat → Prop} {dC : Nat → ClassId} {dI : Nat → Nat → Nat} {cI : ClassId} {q q_tongue q_talk q_refused q_fresh q_kept q_isKept q_text q_said : Nat} {m_thrown : Int32} {m_size : Int32} {m_at : Int32} {m_start : Int32} {m_token : Int32} {m_value : Int64} {m_faultAt : Int32} {m_allowed : Int32} {m_firstPair : Int32} {m_secondPair : Int32} {m_above : Int64} {m_below : Int64} {m_tongue : Nat → Int32} {m_talk : Nat → Int32} {x2 : Int32} {x4 : Int32} {x5 : Int32} {x6 : Int32} {x7 : Int32} {x8 : Int32} {x9 : Int32} (C0 : gm_C p s m args meth c (dC, dI) [(cI, .int)] A gm_T RX11 cX11_talkOf 11 (some .int) wsX11_talkOf) {N : Nat} {out : Int32} {r31 : Int32 → Int32 → Int32 → Option (Int32)} (hr31 : ∀ (x7 : Int32) (x8 : Int32) (x9 : Int32) (H : Heap) (locs : List Loc) (ls : Array Slot), r31 x7 x8 x9 = some out → gm_H (dC, dI) A s (wX11_talkOf cI q q_tongue q_talk q_refused q_fresh q_kept q_isKept q_text q_said m_thrown m_size m_at m_start m_token m_value m_faultAt m_allowed m_firstPair m_secondPair m_above m_below m_tongue m_talk) H locs → lv_has ls 11 [(0, .ref q), (2, .int x2), (4, .int x4), (5, .int x5), (6, .int x6), (7, .int x7), (8, .int x8), (9, .int x9)] → W p l e rX11_talkOf s m args below meth c H locs 0 0 (MQ below (gm_Q (dC, dI) [(cI, .int)] A (some (.int out)) (wX11_talkOf cI q q_tongue q_talk q_refused q_fresh q_kept q_isKept q_text q_said m_thrown m_size m_at m_start m_token m_value m_faultAt m_allowed m_firstPair m_secondPair m_above m_below m_tongue m_talk)) args s 0 0 A) (F0 m 31 ls []))   {H : Heap} {locs : List Loc} {ls : Array Slot} (h : fX11_talkOf_b146 N r31 m_tongue m_talk x2 x4 x5 x6 x7 x8 x9 = some out) (hH : gm_H (dC, dI) A s (wX11_talkOf cI q q_tongue q_talk q_refused q_fresh q_kept q_isKept q_text q_said m_thrown m_size m_at m_start m_token m_value m_faultAt m_allowed m_firstPair m_secondPair m_above m_below m_tongue m_talk) H locs) (hl : lv_has ls 11 [(0, .ref q), (2, .int x2), (4, .int x4), (5, .int x5), (6, .int x6), (7, .int x7), (8, .int x8), (9, .int x9)]) : W p l e rX11_talkOf s m args below meth c H locs 0 0 (MQ below (gm_Q (dC, dI) [(cI, .int)] A (some (.int out)) (wX11_talkOf cI q q_tongue q_talk q_refused q_fresh q_kept q_isKept q_text q_said m_thrown m_size m_at m_start m_token m_value m_faultAt m_allowed m_firstPair m_secondPair m_above m_below m_tongue m_talk)) args s 0 0 A) (F0 m 146 ls []) := by
  obtain ⟨hx, hb, hml, hr, hown, hts, hA, hK, hX, hlocks⟩ := id C0
  unfold fX11_talkOf_b146 at h
  refine lv_iinc (v := (x9 + 1)) (lv' := [(9, .int (x9 + 1)), (0, .ref q), (2, .int x2), (4, .int x4), (5, .int x5), (6, .int x6), (7, .int x7), (8, .int x8)]) hx hb dX11_talkOf_146 hl (k := 7) rfl rfl (by decide) rfl (fun ls hl => ?_)
  refine lv_goto (tgt := 31) hx hb dX11_talkOf_149 (by decide) ?_
  exact hr31 _ _ _ _ _ _ h hH (lv_sub hl [1, 2, 3, 4, 5, 6, 7, 0] rfl)
set_option maxRecDepth 100000 in
set_option maxHeartbeats 4000000 in
theorem tX11_talkOf_b143 {p : Program} {l : Launch} {e : Env} {s : State} {m : MethodId} {args : Array Value} {below : List Frame} {meth : Method} {c : Code} {A : Nat → Prop} {dC : Nat → ClassId} {dI : Nat → Nat → Nat} {cI : ClassId} {q q_tongue q_talk q_refused q_fresh q_kept q_isKept q_text q_said : Nat} {m_thrown : Int32} {m_size : Int32} {m_at : Int32} {m_start : Int32} {m_token : Int32} {m_value : Int64} {m_faultAt : Int32} {m_allowed : Int32} {m_firstPair : Int32} {m_secondPair : Int32} {m_above : Int64} {m_below : Int64} {m_tongue : Nat → Int32} {m_talk : Nat → Int32} {x2 : Int32} {x4 : Int32} {x5 : Int32} {x6 : Int32} {x7 : Int32} {x9 : Int32} (C0 : gm_C p s m args meth c (dC, dI) [(cI, .int)] A gm_T RX11 cX11_talkOf 11 (some .int) wsX11_talkOf) {N : Nat} {out : Int32} {r31 : Int32 → Int32 → Int32 → Option (Int32)} (hr31 : ∀ (x7 : Int32) (x8 : Int32) (x9 : Int32) (H : Heap) (locs : List Loc) (ls : Array Slot), r31 x7 x8 x9 = some out → gm_H (dC, dI) A s (wX11_talkOf cI q q_tongue q_talk q_refused q_fresh q_kept q_isKept q_text q_said m_thrown m_size m_at m_start m_token m_value m_faultAt m_allowed m_firstPair m_secondPair m_above m_below m_tongue m_talk) H locs → lv_has ls 11 [(0, .ref q), (2, .int x2), (4, .int x4), (5, .int x5), (6, .int x6), (7, .int x7), (8, .int x8), (9, .int x9)] → W p l e rX11_talkOf s m args below meth c H locs 0 0 (MQ below (gm_Q (dC, dI) [(cI, .int)] A (some (.int out)) (wX11_talkOf cI q q_tongue q_talk q_refused q_fresh q_kept q_isKept q_text q_said m_thrown m_size m_at m_start m_token m_value m_faultAt m_allowed m_firstPair m_secondPair m_above m_below m_tongue m_talk)) args s 0 0 A) (F0 m 31 ls []))   {H : Heap} {locs : List Loc} {ls : Array Slot} (h : fX11_talkOf_b143 N r31 m_tongue m_talk x2 x4 x5 x6 x7 x9 = some out) (hH : gm_H (dC, dI) A s (wX11_talkOf cI q q_tongue q_talk q_refused q_fresh q_kept q_isKept q_text q_said m_thrown m_size m_at m_start m_token m_value m_faultAt m_allowed m_firstPair m_secondPair m_above m_below m_tongue m_talk) H locs) (hl : lv_has ls 11 [(0, .ref q), (2, .int x2), (4, .int x4), (5, .int x5), (6, .int x6), (7, .int x7), (9, .int x9)]) : W p l e rX11_talkOf s m args below meth c H locs 0 0 (MQ below (gm_Q (dC, dI) [(cI, .int)] A (some (.int out)) (wX11_talkOf cI q q_tongue q_talk q_refused q_fresh q_kept q_isKept q_text q_said m_thrown m_size m_at m_start m_token m_value m_faultAt m_allowed m_firstPair m_secondPair m_above m_below m_tongue m_talk)) args s 0 0 A) (F0 m 143 ls []) := by
  obtain ⟨hx, hb, hml, hr, hown, hts, hA, hK, hX, hlocks⟩ := id C0
  unfold fX11_talkOf_b143 at h
  refine lv_iconst (v := 0) hx hb dX11_talkOf_143 (by decide) ?_
  refine lv_istore (lv' := [(8, .int 0), (0, .ref q), (2, .int x2), (4, .int x4), (5, .int x5), (6, .int x6), (7, .int x7), (9, .int x9)]) hx hb dX11_talkOf_144 hl (by decide) rfl (fun ls hl => ?_)
  exact tX11_talkOf_b146 C0 hr31 h hH (lv_sub hl [1, 2, 3, 4, 5, 6, 0, 7] rfl)
set_option maxRecDepth 100000 in
set_option maxHeartbeats 4000000 in
theorem tX11_talkOf_b141 {p : Program} {l : Launch} {e : Env} {s : State} {m : MethodId} {args : Array Value} {below : List Frame} {meth : Method} {c : Code} {A : Nat → Prop} {dC : Nat → ClassId} {dI : Nat → Nat → Nat} {cI : ClassId} {q q_tongue q_talk q_refused q_fresh q_kept q_isKept q_text q_said : Nat} {m_thrown : Int32} {m_size : Int32} {m_at : Int32} {m_start : Int32} {m_token : Int32} {m_value : Int64} {m_faultAt : Int32} {m_allowed : Int32} {m_firstPair : Int32} {m_secondPair : Int32} {m_above : Int64} {m_below : Int64} {m_tongue : Nat → Int32} {m_talk : Nat → Int32} {x2 : Int32} {x4 : Int32} {x5 : Int32} {x6 : Int32} {x9 : Int32} {k0 : Int32} (C0 : gm_C p s m args meth c (dC, dI) [(cI, .int)] A gm_T RX11 cX11_talkOf 11 (some .int) wsX11_talkOf) {N : Nat} {out : Int32} {r31 : Int32 → Int32 → Int32 → Option (Int32)} (hr31 : ∀ (x7 : Int32) (x8 : Int32) (x9 : Int32) (H : Heap) (locs : List Loc) (ls : Array Slot), r31 x7 x8 x9 = some out → gm_H (dC, dI) A s (wX11_talkOf cI q q_tongue q_talk q_refused q_fresh q_kept q_isKept q_text q_said m_thrown m_size m_at m_start m_token m_value m_faultAt m_allowed m_firstPair m_secondPair m_above m_below m_tongue m_talk) H locs → lv_has ls 11 [(0, .ref q), (2, .int x2), (4, .int x4), (5, .int x5), (6, .int x6), (7, .int x7), (8, .int x8), (9, .int x9)] → W p l e rX11_talkOf s m args below meth c H locs 0 0 (MQ below (gm_Q (dC, dI) [(cI, .int)] A (some (.int out)) (wX11_talkOf cI q q_tongue q_talk q_refused q_fresh q_kept q_isKept q_text q_said m_thrown m_size m_at m_start m_token m_value m_faultAt m_allowed m_firstPair m_secondPair m_above m_below m_tongue m_talk)) args s 0 0 A) (F0 m 31 ls []))   {H : Heap} {locs : List Loc} {ls : Array Slot} (h : fX11_talkOf_b141 N r31 m_tongue m_talk x2 x4 x5 x6 x9 k0 = some out) (hH : gm_H (dC, dI) A s (wX11_talkOf cI q q_tongue q_talk q_refused q_fresh q_kept q_isKept q_text q_said m_thrown m_size m_at m_start m_token m_value m_faultAt m_allowed m_firstPair m_secondPair m_above m_below m_tongue m_talk) H locs) (hl : lv_has ls 11 [(0, .ref q), (2, .int x2), (4, .int x4), (5, .int x5), (6, .int x6), (9, .int x9)]) : W p l e rX11_talkOf s m args below meth c H locs 0 0 (MQ below (gm_Q (dC, dI) [(cI, .int)] A (some (.int out)) (wX11_talkOf cI q q_tongue q_talk q_refused q_fresh q_kept q_isKept q_text q_said m_thrown m_size m_at m_start m_token m_value m_faultAt m_allowed m_firstPair m_secondPair m_above m_below m_tongue m_talk)) args s 0 0 A) (F0 m 141 ls [.int k0]) := by
  obtain ⟨hx, hb, hml, hr, hown, hts, hA, hK, hX, hlocks⟩ := id C0
  unfold fX11_talkOf_b141 at h
  refine lv_istore (lv' := [(7, .int k0), (0, .ref q), (2, .int x2), (4, .int x4), (5, .int x5), (6, .int x6), (9, .int x9)]) hx hb dX11_talkOf_141 hl (by decide) rfl (fun ls hl => ?_)
  exact tX11_talkOf_b143 C0 hr31 h hH (lv_sub hl [1, 2, 3, 4, 5, 0, 6] rfl)
set_option maxRecDepth 100000 in
set_option maxHeartbeats 4000000 in
theorem tX11_talkOf_b132 {p : Program} {l : Launch} {e : Env} {s : State} {m : MethodId} {args : Array Value} {below : List Frame} {meth : Method} {c : Code} {A : Nat → Prop} {dC : Nat → ClassId} {dI : Nat → Nat → Nat} {cI : ClassId} {q q_tongue q_talk q_refused q_fresh q_kept q_isKept q_text q_said : Nat} {m_thrown : Int32} {m_size : Int32} {m_at : Int32} {m_start : Int32} {m_token : Int32} {m_value : Int64} {m_faultAt : Int32} {m_allowed : Int32} {m_firstPair : Int32} {m_secondPair : Int32} {m_above : Int64} {m_below : Int64} {m_tongue : Nat → Int32} {m_talk : Nat → Int32} {x2 : Int32} {x4 : Int32} {x5 : Int32} {x6 : Int32} {x9 : Int32} {x10 : Int32} (C0 : gm_C p s m args meth c (dC, dI) [(cI, .int)] A gm_T RX11 cX11_talkOf 11 (some .int) wsX11_talkOf) {N : Nat} {out : Int32} {r31 : Int32 → Int32 → Int32 → Option (Int32)} (hr31 : ∀ (x7 : Int32) (x8 : Int32) (x9 : Int32) (H : Heap) (locs : List Loc) (ls : Array Slot), r31 x7 x8 x9 = some out → gm_H (dC, dI) A s (wX11_talkOf cI q q_tongue q_talk q_refused q_fresh q_kept q_isKept q_text q_said m_thrown m_size m_at m_start m_token m_value m_faultAt m_allowed m_firstPair m_secondPair m_above m_below m_tongue m_talk) H locs → lv_has ls 11 [(0, .ref q), (2, .int x2), (4, .int x4), (5, .int x5), (6, .int x6), (7, .int x7), (8, .int x8), (9, .int x9)] → W p l e rX11_talkOf s m args below meth c H locs 0 0 (MQ below (gm_Q (dC, dI) [(cI, .int)] A (some (.int out)) (wX11_talkOf cI q q_tongue q_talk q_refused q_fresh q_kept q_isKept q_text q_said m_thrown m_size m_at m_start m_token m_value m_faultAt m_allowed m_firstPair m_secondPair m_above m_below m_tongue m_talk)) args s 0 0 A) (F0 m 31 ls []))   {H : Heap} {locs : List Loc} {ls : Array Slot} (h : fX11_talkOf_b132 N r31 m_tongue m_talk x2 x4 x5 x6 x9 x10 = some out) (hH : gm_H (dC, dI) A s (wX11_talkOf cI q q_tongue q_talk q_refused q_fresh q_kept q_isKept q_text q_said m_thrown m_size m_at m_start m_token m_value m_faultAt m_allowed m_firstPair m_secondPair m_above m_below m_tongue m_talk) H locs) (hl : lv_has ls 11 [(0, .ref q), (2, .int x2), (4, .int x4), (5, .int x5), (6, .int x6), (9, .int x9), (10, .int x10)]) : W p l e rX11_talkOf s m args below meth c H locs 0 0 (MQ below (gm_Q (dC, dI) [(cI, .int)] A (some (.int out)) (wX11_talkOf cI q q_tongue q_talk q_refused q_fresh q_kept q_isKept q_text q_said m_thrown m_size m_at m_start m_token m_value m_faultAt m_allowed m_firstPair m_secondPair m_above m_below m_tongue m_talk)) args s 0 0 A) (F0 m 132 ls []) := by
  obtain ⟨hx, hb, hml, hr, hown, hts, hA, hK, hX, hlocks⟩ := id C0
  unfold fX11_talkOf_b132 at h
  refine lv_iload hx hb dX11_talkOf_132 (lv_at hl 6 rfl) ?_
  refine lv_iconst (v := 1) hx hb dX11_talkOf_134 (by decide) ?_
  refine lv_iadd hx hb dX11_talkOf_135 ?_
  refine lv_goto (tgt := 141) hx hb dX11_talkOf_136 (by decide) ?_
  exact tX11_talkOf_b141 C0 hr31 h hH (lv_sub hl [0, 1, 2, 3, 4, 5] rfl)
set_option maxRecDepth 100000 in
set_option maxHeartbeats 4000000 in
theorem tX11_talkOf_b139 {p : Program} {l : Launch} {e : Env} {s : State} {m : MethodId} {args : Array Value} {below : List Frame} {meth : Method} {c : Code} {A : Nat → Prop} {dC : Nat → ClassId} {dI : Nat → Nat → Nat} {cI : ClassId} {q q_tongue q_talk q_refused q_fresh q_kept q_isKept q_text q_said : Nat} {m_thrown : Int32} {m_size : Int32} {m_at : Int32} {m_start : Int32} {m_token : Int32} {m_value : Int64} {m_faultAt : Int32} {m_allowed : Int32} {m_firstPair : Int32} {m_secondPair : Int32} {m_above : Int64} {m_below : Int64} {m_tongue : Nat → Int32} {m_talk : Nat → Int32} {x2 : Int32} {x4 : Int32} {x5 : Int32} {x6 : Int32} {x7 : Int32} {x9 : Int32} (C0 : gm_C p s m args meth c (dC, dI) [(cI, .int)] A gm_T RX11 cX11_talkOf 11 (some .int) wsX11_talkOf) {N : Nat} {out : Int32} {r31 : Int32 → Int32 → Int32 → Option (Int32)} (hr31 : ∀ (x7 : Int32) (x8 : Int32) (x9 : Int32) (H : Heap) (locs : List Loc) (ls : Array Slot), r31 x7 x8 x9 = some out → gm_H (dC, dI) A s (wX11_talkOf cI q q_tongue q_talk q_refused q_fresh q_kept q_isKept q_text q_said m_thrown m_size m_at m_start m_token m_value m_faultAt m_allowed m_firstPair m_secondPair m_above m_below m_tongue m_talk) H locs → lv_has ls 11 [(0, .ref q), (2, .int x2), (4, .int x4), (5, .int x5), (6, .int x6), (7, .int x7), (8, .int x8), (9, .int x9)] → W p l e rX11_talkOf s m args below meth c H locs 0 0 (MQ below (gm_Q (dC, dI) [(cI, .int)] A (some (.int out)) (wX11_talkOf cI q q_tongue q_talk q_refused q_fresh q_kept q_isKept q_text q_said m_thrown m_size m_at m_start m_token m_value m_faultAt m_allowed m_firstPair m_secondPair m_above m_below m_tongue m_talk)) args s 0 0 A) (F0 m 31 ls []))   {H : Heap} {locs : List Loc} {ls : Array Slot} (h : fX11_talkOf_b139 N r31 m_tongue m_talk x2 x4 x5 x6 x7 x9 = some out) (hH : gm_H (dC, dI) A s (wX11_talkOf cI q q_tongue q_talk q_refused q_fresh q_kept q_isKept q_text q_said m_thrown m_size m_at m_start m_token m_value m_faultAt m_allowed m_firstPair m_secondPair m_above m_below m_tongue m_talk) H locs) (hl : lv_has ls 11 [(0, .ref q), (2, .int x2), (4, .int x4), (5, .int x5), (6, .int x6), (7, .int x7), (9, .int x9)]) : W p l e rX11_talkOf s m args below meth c H locs 0 0 (MQ below (gm_Q (dC, dI) [(cI, .int)] A (some (.int out)) (wX11_talkOf cI q q_tongue q_talk q_refused q_fresh q_kept q_isKept q_text q_said m_thrown m_size m_at m_start m_token m_value m_faultAt m_allowed m_firstPair m_secondPair m_above m_below m_tongue m_talk)) args s 0 0 A) (F0 m 139 ls []) := by
  obtain ⟨hx, hb, hml, hr, hown, hts, hA, hK, hX, hlocks⟩ := id C0
  unfold fX11_talkOf_b139 at h
  refine lv_iload hx hb dX11_talkOf_139 (lv_at hl 5 rfl) ?_
  exact tX11_talkOf_b141 C0 hr31 h hH (lv_sub hl [0, 1, 2, 3, 4, 6] rfl)
set_option maxRecDepth 100000 in
set_option maxHeartbeats 4000000 in
theorem tX11_talkOf_b95 {p : Program} {l : Launch} {e : Env} {s : State} {m : MethodId} {args : Array Value} {below : List Frame} {meth : Method} {c : Code} {A : Nat → Prop} {dC : Nat → ClassId} {dI : Nat → Nat → Nat} {cI : ClassId} {q q_tongue q_talk q_refused q_fresh q_kept q_isKept q_text q_said : Nat} {m_thrown : Int32} {m_size : Int32} {m_at : Int32} {m_start : Int32} {m_token : Int32} {m_value : Int64} {m_faultAt : Int32} {m_allowed : Int32} {m_firstPair : Int32} {m_secondPair : Int32} {m_above : Int64} {m_below : Int64} {m_tongue : Nat → Int32} {m_talk : Nat → Int32} {x2 : Int32} {x4 : Int32} {x5 : Int32} {x6 : Int32} {x9 : Int32} {k0 : Int32} (C0 : gm_C p s m args meth c (dC, dI) [(cI, .int)] A gm_T RX11 cX11_talkOf 11 (some .int) wsX11_talkOf) {N : Nat} {out : Int32} {r31 : Int32 → Int32 → Int32 → Option (Int32)} (hr31 : ∀ (x7 : Int32) (x8 : Int32) (x9 : Int32) (H : Heap) (locs : List Loc) (ls : Array Slot), r31 x7 x8 x9 = some out → gm_H (dC, dI) A s (wX11_talkOf cI q q_tongue q_talk q_refused q_fresh q_kept q_isKept q_text q_said m_thrown m_size m_at m_start m_token m_value m_faultAt m_allowed m_firstPair m_secondPair m_above m_below m_tongue m_talk) H locs → lv_has ls 11 [(0, .ref q), (2, .int x2), (4, .int x4), (5, .int x5), (6, .int x6), (7, .int x7), (8, .int x8), (9, .int x9)] → W p l e rX11_talkOf s m args below meth c H locs 0 0 (MQ below (gm_Q (dC, dI) [(cI, .int)] A (some (.int out)) (wX11_talkOf cI q q_tongue q_talk q_refused q_fresh q_kept q_isKept q_text q_said m_thrown m_size m_at m_start m_token m_value m_faultAt m_allowed m_firstPair m_secondPair m_above m_below m_tongue m_talk)) args s 0 0 A) (F0 m 31 ls []))   {H : Heap} {locs : List Loc} {ls : Array Slot} (h : fX11_talkOf_b95 N r31 m_tongue m_talk x2 x4 x5 x6 x9 k0 = some out) (hH : gm_H (dC, dI) A s (wX11_talkOf cI q q_tongue q_talk q_refused q_fresh q_kept q_isKept q_text q_said m_thrown m_size m_at m_start m_token m_value m_faultAt m_allowed m_firstPair m_secondPair m_above m_below m_tongue m_talk) H locs) (hl : lv_has ls 11 [(0, .ref q), (2, .int x2), (4, .int x4), (5, .int x5), (6, .int x6), (9, .int x9)]) : W p l e rX11_talkOf s m args below meth c H locs 0 0 (MQ below (gm_Q (dC, dI) [(cI, .int)] A (some (.int out)) (wX11_talkOf cI q q_tongue q_talk q_refused q_fresh q_kept q_isKept q_text q_said m_thrown m_size m_at m_start m_token m_value m_faultAt m_allowed m_firstPair m_secondPair m_above m_below m_tongue m_talk)) args s 0 0 A) (F0 m 95 ls [.int k0]) := by
  obtain ⟨hx, hb, hml, hr, hown, hts, hA, hK, hX, hlocks⟩ := id C0
  unfold fX11_talkOf_b95 at h
  refine lv_istore (lv' := [(7, .int k0), (0, .ref q), (2, .int x2), (4, .int x4), (5, .int x5), (6, .int x6), (9, .int x9)]) hx hb dX11_talkOf_95 hl (by decide) rfl (fun ls hl => ?_)
  refine lv_goto (tgt := 143) hx hb dX11_talkOf_97 (by decide) ?_
  exact tX11_talkOf_b143 C0 hr31 h hH (lv_sub hl [1, 2, 3, 4, 5, 0, 6] rfl)
set_option maxRecDepth 100000 in
set_option maxHeartbeats 4000000 in
theorem tX11_talkOf_b31 {p : Program} {l : Launch} {e : Env} {s : State} {m : MethodId} {args : Array Value} {below : List Frame} {meth : Method} {c : Code} {A : Nat → Prop} {dC : Nat → ClassId} {dI : Nat → Nat → Nat} {cI : ClassId} {q q_tongue q_talk q_refused q_fresh q_kept q_isKept q_text q_said : Nat} {m_thrown : Int32} {m_size : Int32} {m_at : Int32} {m_start : Int32} {m_token : Int32} {m_value : Int64} {m_faultAt : Int32} {m_allowed : Int32} {m_firstPair : Int32} {m_secondPair : Int32} {m_above : Int64} {m_below : Int64} {m_tongue : Nat → Int32} {m_talk : Nat → Int32} {x2 : Int32} {x4 : Int32} {x5 : Int32} {x6 : Int32} (C0 : gm_C p s m args meth c (dC, dI) [(cI, .int)] A gm_T RX11 cX11_talkOf 11 (some .int) wsX11_talkOf) {N : Nat} {out : Int32}   : ∀ (n : Nat), ∀ (x7 : Int32) (x8 : Int32) (x9 : Int32) (H : Heap) (locs : List Loc) (ls : Array Slot), (gm_fix (fX11_talkOf_b31_body N  m_tongue m_talk x2 x4 x5 x6) (fun _ _ _ => none) n) x7 x8 x9 = some out → gm_H (dC, dI) A s (wX11_talkOf cI q q_tongue q_talk q_refused q_fresh q_kept q_isKept q_text q_said m_thrown m_size m_at m_start m_token m_value m_faultAt m_allowed m_firstPair m_secondPair m_above m_below m_tongue m_talk) H locs → lv_has ls 11 [(0, .ref q), (2, .int x2), (4, .int x4), (5, .int x5), (6, .int x6), (7, .int x7), (8, .int x8), (9, .int x9)] → W p l e rX11_talkOf s m args below meth c H locs 0 0 (MQ below (gm_Q (dC, dI) [(cI, .int)] A (some (.int out)) (wX11_talkOf cI q q_tongue q_talk q_refused q_fresh q_kept q_isKept q_text q_said m_thrown m_size m_at m_start m_token m_value m_faultAt m_allowed m_firstPair m_secondPair m_above m_below m_tongue m_talk)) args s 0 0 A) (F0 m 31 ls []) := by
  obtain ⟨hx, hb, hml, hr, hown, hts, hA, hK, hX, hlocks⟩ := id C0
  intro n
  induction n with
  | zero =>
    intro x7 x8 x9 H locs ls h hH hl
    cases h
  | succ n hr31 =>
    intro x7 x8 x9 H locs ls h hH hl
    rw [gm_fix_s] at h
    unfold fX11_talkOf_b31_body at h
    refine lv_iload hx hb dX11_talkOf_31 (lv_at hl 7 rfl) ?_
    refine lv_aload_n hx hb dX11_talkOf_33 rfl (lv_at hl 0 rfl) ?_
    refine gm_get (ci := 11) C0 hH inX11_talkOf_X11 0 2 1 rfl rfl (by decide) rfl rfl dX11_talkOf_34 ?_
    refine lv_iconst (v := 0) hx hb dX11_talkOf_37 (by decide) ?_
    obtain ⟨hi4, h⟩ := gm_chk_e h
    refine gm_iald C0 hH hi4 1 0 rfl rfl dX11_talkOf_38 ?_
    refine lv_icmp_ge (tgt := 152) hx hb dX11_talkOf_39 (by decide) (fun hc5 => ?_) (fun hc5 => ?_)
    · replace h := gm_pos hc5 h
      refine lv_iload hx hb dX11_talkOf_152 (lv_at hl 5 rfl) ?_
      obtain rfl := Option.some.inj h
      exact gm_iret C0 hH dX11_talkOf_154
    · replace h := gm_neg hc5 h
      refine lv_iload hx hb dX11_talkOf_42 (lv_at hl 4 rfl) ?_
      refine lv_iload hx hb dX11_talkOf_44 (lv_at hl 7 rfl) ?_
      obtain ⟨o6, ho6, h⟩ := gm_bind_e h
      refine gm_callS (As := [.int x6, .int x9]) (rest := []) (n := 2) C0 hH (mX11_has l dC dI    x6 x9   ho6) gX11_talkOf_X11_has rfl (by decide +kernel) ⟨rfl, rfl, Nat.le_of_ble_eq_true rfl, Nat.le_of_ble_eq_true rfl⟩ gm_T_ok (fun _ => trivial) [] rfl rfl rfl [] rfl rfl hl.1 rfl (Nat.le_of_ble_eq_true rfl) dX11_talkOf_46 ⟨Nat.zero_le _, Nat.zero_le _⟩ (fun H locs hH => ?_)
      have hH : gm_H (dC, dI) A s (wX11_talkOf cI q q_tongue q_talk q_refused q_fresh q_kept q_isKept q_text q_said m_thrown m_size m_at m_start m_token m_value m_faultAt m_allowed m_firstPair m_secondPair m_above m_below m_tongue m_talk) H locs := hH
      refine lv_if_eq (tgt := 146) hx hb dX11_talkOf_49 (by decide) (fun hc7 => ?_) (fun hc7 => ?_)
      · replace h := gm_pos hc7 h
        exact tX11_talkOf_b146 C0 hr31 h hH (lv_sub hl [0, 1, 2, 3, 4, 5, 6, 7] rfl)
      · replace h := gm_neg hc7 h
        refine lv_aload_n hx hb dX11_talkOf_52 rfl (lv_at hl 0 rfl) ?_
        refine gm_get (ci := 11) C0 hH inX11_talkOf_X11 0 14 2 rfl rfl (by decide) rfl rfl dX11_talkOf_53 ?_
        refine lv_iload_n hx hb dX11_talkOf_56 rfl (lv_at hl 1 rfl) ?_
        refine lv_iconst (v := 1) hx hb dX11_talkOf_57 (by decide) ?_
        refine lv_iload hx hb dX11_talkOf_58 (lv_at hl 7 rfl) ?_
        refine lv_ishl hx hb dX11_talkOf_60 ?_
        refine lv_ior hx hb dX11_talkOf_61 ?_
        refine lv_iload hx hb dX11_talkOf_62 (lv_at hl 7 rfl) ?_
        refine lv_iconst (v := 1) hx hb dX11_talkOf_64 (by decide) ?_
        refine lv_iload hx hb dX11_talkOf_65 (lv_at hl 2 rfl) ?_
        refine lv_isub hx hb dX11_talkOf_67 ?_
        obtain ⟨o8, ho8, h⟩ := gm_bind_e h
        refine gm_callS (As := [.int (x2 ||| ((1 : Int32) <<< (x9 &&& 31))), .int x9, .int (1 - x4)]) (rest := [.ref q_talk]) (n := 3) C0 hH (mX11_spot l dC dI    ((x2 ||| ((1 : Int32) <<< (x9 &&& 31)))) x9 ((1 - x4))   ho8) gX11_talkOf_X11_spot rfl (by decide +kernel) ⟨rfl, rfl, Nat.le_of_ble_eq_true rfl, Nat.le_of_ble_eq_true rfl⟩ gm_T_ok (fun _ => trivial) [] rfl rfl rfl [] rfl rfl hl.1 rfl (Nat.le_of_ble_eq_true rfl) dX11_talkOf_68 ⟨Nat.zero_le _, Nat.zero_le _⟩ (fun H locs hH => ?_)
        have hH : gm_H (dC, dI) A s (wX11_talkOf cI q q_tongue q_talk q_refused q_fresh q_kept q_isKept q_text q_said m_thrown m_size m_at m_start m_token m_value m_faultAt m_allowed m_firstPair m_secondPair m_above m_below m_tongue m_talk) H locs := hH
        obtain ⟨hi9, h⟩ := gm_chk_e h
        refine gm_iald C0 hH hi9 2 0 rfl rfl dX11_talkOf_71 ?_
        refine lv_topi (fun v10 ev10 => ?_)
        replace h := gm_let_e ev10 h
        refine lv_istore (lv' := [(10, .int v10), (0, .ref q), (2, .int x2), (4, .int x4), (5, .int x5), (6, .int x6), (7, .int x7), (8, .int x8), (9, .int x9)]) hx hb dX11_talkOf_72 hl (by decide) rfl (fun ls hl => ?_)
        refine lv_iload hx hb dX11_talkOf_74 (lv_at hl 4 rfl) ?_
        refine lv_if_ne (tgt := 100) hx hb dX11_talkOf_76 (by decide) (fun hc11 => ?_) (fun hc11 => ?_)
        · replace h := gm_neg hc11 h
          refine lv_iload hx hb dX11_talkOf_100 (lv_at hl 7 rfl) ?_
          refine lv_if_ne (tgt := 132) hx hb dX11_talkOf_102 (by decide) (fun hc12 => ?_) (fun hc12 => ?_)
          · replace h := gm_neg hc12 h
            exact tX11_talkOf_b132 C0 hr31 h hH (lv_sub hl [1, 2, 3, 4, 5, 8, 0] rfl)
          · replace h := gm_pos hc12 h
            refine lv_iload hx hb dX11_talkOf_105 (lv_at hl 4 rfl) ?_
            refine lv_iconst (v := 1) hx hb dX11_talkOf_107 (by decide) ?_
            refine lv_icmp_ne (tgt := 123) hx hb dX11_talkOf_108 (by decide) (fun hc13 => ?_) (fun hc13 => ?_)
            · replace h := gm_neg hc13 h
              refine lv_iload hx hb dX11_talkOf_123 (lv_at hl 0 rfl) ?_
              refine lv_iconst (v := 1) hx hb dX11_talkOf_125 (by decide) ?_
              refine lv_iadd hx hb dX11_talkOf_126 ?_
              refine lv_iload hx hb dX11_talkOf_127 (lv_at hl 6 rfl) ?_
              refine lv_icmp_ge (tgt := 139) hx hb dX11_talkOf_129 (by decide) (fun hc14 => ?_) (fun hc14 => ?_)
              · replace h := gm_pos hc14 h
                exact tX11_talkOf_b139 C0 hr31 h hH (lv_sub hl [1, 2, 3, 4, 5, 6, 8] rfl)
              · replace h := gm_neg hc14 h
                exact tX11_talkOf_b132 C0 hr31 h hH (lv_sub hl [1, 2, 3, 4, 5, 8, 0] rfl)
            · replace h := gm_pos hc13 h
              refine lv_iload hx hb dX11_talkOf_111 (lv_at hl 0 rfl) ?_
              refine lv_iconst (v := 1) hx hb dX11_talkOf_113 (by decide) ?_
              refine lv_iadd hx hb dX11_talkOf_114 ?_
              refine lv_iload hx hb dX11_talkOf_115 (lv_at hl 6 rfl) ?_
              refine lv_icmp_le (tgt := 139) hx hb dX11_talkOf_117 (by decide) (fun hc15 => ?_) (fun hc15 => ?_)
              · replace h := gm_pos hc15 h
                exact tX11_talkOf_b139 C0 hr31 h hH (lv_sub hl [1, 2, 3, 4, 5, 6, 8] rfl)
              · replace h := gm_neg hc15 h
                refine lv_goto (tgt := 132) hx hb dX11_talkOf_120 (by decide) ?_
                exact tX11_talkOf_b132 C0 hr31 h hH (lv_sub hl [1, 2, 3, 4, 5, 8, 0] rfl)
        · replace h := gm_pos hc11 h
          refine lv_iload hx hb dX11_talkOf_79 (lv_at hl 0 rfl) ?_
          refine lv_iconst (v := 1) hx hb dX11_talkOf_81 (by decide) ?_
          refine lv_iload hx hb dX11_talkOf_82 (lv_at hl 3 rfl) ?_
          refine lv_isub hx hb dX11_talkOf_84 ?_
          refine lv_icmp_ne (tgt := 93) hx hb dX11_talkOf_85 (by decide) (fun hc16 => ?_) (fun hc16 => ?_)
          · replace h := gm_neg hc16 h
            refine lv_iload hx hb dX11_talkOf_93 (lv_at hl 6 rfl) ?_
            exact tX11_talkOf_b95 C0 hr31 h hH (lv_sub hl [1, 2, 3, 4, 5, 8] rfl)
          · replace h := gm_pos hc16 h
            refine lv_iload hx hb dX11_talkOf_88 (lv_at hl 0 rfl) ?_
            refine lv_goto (tgt := 95) hx hb dX11_talkOf_90 (by decide) ?_
            exact tX11_talkOf_b95 C0 hr31 h hH (lv_sub hl [1, 2, 3, 4, 5, 8] rfl)
set_option maxRecDepth 100000 in
set_option maxHeartbeats 4000000 in
theorem tX11_talkOf_b23 {p : Program} {l : Launch} {e : Env} {s : State} {m : MethodId} {args : Array Value} {below : List Frame} {meth : Method} {c : Code} {A : Nat → Prop} {dC : Nat → ClassId} {dI : Nat → Nat → Nat} {cI : ClassId} {q q_tongue q_talk q_refused q_fresh q_kept q_isKept q_text q_said : Nat} {m_thrown : Int32} {m_size : Int32} {m_at : Int32} {m_start : Int32} {m_token : Int32} {m_value : Int64} {m_faultAt : Int32} {m_allowed : Int32} {m_firstPair : Int32} {m_secondPair : Int32} {m_above : Int64} {m_below : Int64} {m_tongue : Nat → Int32} {m_talk : Nat → Int32} {x2 : Int32} {x4 : Int32} {x5 : Int32} {x6 : Int32} {k0 : Int32} (C0 : gm_C p s m args meth c (dC, dI) [(cI, .int)] A gm_T RX11 cX11_talkOf 11 (some .int) wsX11_talkOf) {N : Nat} {out : Int32}    {H : Heap} {locs : List Loc} {ls : Array Slot} (h : fX11_talkOf_b23 N  m_tongue m_talk x2 x4 x5 x6 k0 = some out) (hH : gm_H (dC, dI) A s (wX11_talkOf cI q q_tongue q_talk q_refused q_fresh q_kept q_isKept q_text q_said m_thrown m_size m_at m_start m_token m_value m_faultAt m_allowed m_firstPair m_secondPair m_above m_below m_tongue m_talk) H locs) (hl : lv_has ls 11 [(0, .ref q), (2, .int x2), (4, .int x4), (5, .int x5), (6, .int x6)]) : W p l e rX11_talkOf s m args below meth c H locs 0 0 (MQ below (gm_Q (dC, dI) [(cI, .int)] A (some (.int out)) (wX11_talkOf cI q q_tongue q_talk q_refused q_fresh q_kept q_isKept q_text q_said m_thrown m_size m_at m_start m_token m_value m_faultAt m_allowed m_firstPair m_secondPair m_above m_below m_tongue m_talk)) args s 0 0 A) (F0 m 23 ls [.int k0]) := by
  obtain ⟨hx, hb, hml, hr, hown, hts, hA, hK, hX, hlocks⟩ := id C0
  unfold fX11_talkOf_b23 at h
  refine lv_istore (lv' := [(7, .int k0), (0, .ref q), (2, .int x2), (4, .int x4), (5, .int x5), (6, .int x6)]) hx hb dX11_talkOf_23 hl (by decide) rfl (fun ls hl => ?_)
  refine lv_iconst (v := 1) hx hb dX11_talkOf_25 (by decide) ?_
  refine lv_istore (lv' := [(8, .int 1), (7, .int k0), (0, .ref q), (2, .int x2), (4, .int x4), (5, .int x5), (6, .int x6)]) hx hb dX11_talkOf_26 hl (by decide) rfl (fun ls hl => ?_)
  refine lv_iconst (v := 0) hx hb dX11_talkOf_28 (by decide) ?_
  refine lv_istore (lv' := [(9, .int 0), (8, .int 1), (7, .int k0), (0, .ref q), (2, .int x2), (4, .int x4), (5, .int x5), (6, .int x6)]) hx hb dX11_talkOf_29 hl (by decide) rfl (fun ls hl => ?_)
  unfold fX11_talkOf_b31 at h
  exact tX11_talkOf_b31 C0  _ _ _ _ _ _ _ h hH (lv_sub hl [3, 4, 5, 6, 7, 2, 1, 0] rfl)
set_option maxRecDepth 100000 in
set_option maxHeartbeats 4000000 in
theorem mX11_talkOf (l : Launch) (dC : Nat → ClassId) (dI : Nat → Nat → Nat) (cI : ClassId) (q q_tongue q_talk q_refused q_fresh q_kept q_isKept q_text q_said : Nat) (m_thrown : Int32) (m_size : Int32) (m_at : Int32) (m_start : Int32) (m_token : Int32) (m_value : Int64) (m_faultAt : Int32) (m_allowed : Int32) (m_firstPair : Int32) (m_secondPair : Int32) (m_above : Int64) (m_below : Int64) (m_tongue : Nat → Int32) (m_talk : Nat → Int32) (x1 : Int32) (x2 : Int32) (x3 : Int32) (x4 : Int32) (x5 : Int32)  {N : Nat} {out : Int32} (h : fX11_talkOf N m_tongue m_talk x1 x2 x3 x4 x5 = some out) : gm_Met l yX11_talkOf wsX11_talkOf rX11_talkOf (dC, dI) [(cI, .int)] gm_T [.ref q, .int x1, .int x2, .int x3, .int x4, .int x5] (wX11_talkOf cI q q_tongue q_talk q_refused q_fresh q_kept q_isKept q_text q_said m_thrown m_size m_at m_start m_token m_value m_faultAt m_allowed m_firstPair m_secondPair m_above m_below m_tongue m_talk) (some (.int out)) (wX11_talkOf cI q q_tongue q_talk q_refused q_fresh q_kept q_isKept q_text q_said m_thrown m_size m_at m_start m_token m_value m_faultAt m_allowed m_firstPair m_secondPair m_above m_below m_tongue m_talk) := by
  refine gm_ofW (cc := cX11_talkOf) (maxL := 11) (ret := (some .int)) (by decide +kernel) rfl (Nat.le_of_ble_eq_true rfl) ?_
  intro p e s m below meth c A C0 hH ls hl
  generalize ([.ref q, .int x1, .int x2, .int x3, .int x4, .int x5] : List Value).toArray = args at C0 ⊢
  have hl : lv_has ls 11 [(0, .ref q), (1, .int x1), (2, .int x2), (3, .int x3), (4, .int x4), (5, .int x5)] := hl
  generalize s.heap = H at hH ⊢
  generalize ([] : List Loc) = locs at hH ⊢
  obtain ⟨hx, hb, hml, hr, hown, hts, hA, hK, hX, hlocks⟩ := id C0
  unfold fX11_talkOf at h
  refine lv_aload_n hx hb dX11_talkOf_0 rfl (lv_at hl 0 rfl) ?_
  refine lv_iload_n hx hb dX11_talkOf_1 rfl (lv_at hl 1 rfl) ?_
  refine lv_iload_n hx hb dX11_talkOf_2 rfl (lv_at hl 3 rfl) ?_
  obtain ⟨o1, ho1, h⟩ := gm_bind_e h
  refine gm_callV (As := [.int x1, .int x3]) (rest := []) (n := 2) (ci := 11) (q0 := 0) C0 hH (mX11_chimesWith l dC dI cI q q_tongue q_refused q_fresh q_kept q_isKept q_text q_said q_talk m_thrown m_size m_at m_start m_token m_value m_faultAt m_allowed m_firstPair m_secondPair m_above m_below m_tongue x1 x3   ho1) gX11_talkOf_X11_chimesWith rfl (by decide +kernel) ⟨rfl, rfl, Nat.le_of_ble_eq_true rfl, Nat.le_of_ble_eq_true rfl⟩ gm_T_ok (fun _ => trivial) [0, 1] rfl rfl rfl [0] rfl rfl rfl rfl hl.1 rfl (Nat.le_of_ble_eq_true rfl) dX11_talkOf_3 ⟨Nat.zero_le _, Nat.zero_le _⟩ (fun H locs hH => ?_)
  have hH : gm_H (dC, dI) A s (wX11_talkOf cI q q_tongue q_talk q_refused q_fresh q_kept q_isKept q_text q_said m_thrown m_size m_at m_start m_token m_value m_faultAt m_allowed m_firstPair m_secondPair m_above m_below m_tongue m_talk) H locs := hH
  refine lv_iload_n hx hb dX11_talkOf_6 rfl (lv_at hl 2 rfl) ?_
  refine lv_iconst (v := (-1)) hx hb dX11_talkOf_7 (by decide) ?_
  refine lv_ixor hx hb dX11_talkOf_8 ?_
  refine lv_iand hx hb dX11_talkOf_9 ?_
  refine lv_topi (fun v2 ev2 => ?_)
  replace h := gm_let_e ev2 h
  refine lv_istore (lv' := [(6, .int v2), (0, .ref q), (1, .int x1), (2, .int x2), (3, .int x3), (4, .int x4), (5, .int x5)]) hx hb dX11_talkOf_10 hl (by decide) rfl (fun ls hl => ?_)
  refine lv_iload hx hb dX11_talkOf_12 (lv_at hl 6 rfl) ?_
  refine lv_if_ne (tgt := 22) hx hb dX11_talkOf_14 (by decide) (fun hc3 => ?_) (fun hc3 => ?_)
  · replace h := gm_neg hc3 h
    refine lv_iconst (v := 0) hx hb dX11_talkOf_22 (by decide) ?_
    exact tX11_talkOf_b23 C0  h hH (lv_sub hl [1, 3, 5, 6, 0] rfl)
  · replace h := gm_pos hc3 h
    refine lv_iload hx hb dX11_talkOf_17 (lv_at hl 5 rfl) ?_
    refine lv_goto (tgt := 23) hx hb dX11_talkOf_19 (by decide) ?_
    exact tX11_talkOf_b23 C0  h hH (lv_sub hl [1, 3, 5, 6, 0] rfl)

/-! X11_two -/
abbrev wX11_two (cI : ClassId) (q q_refused q_tongue q_talk q_fresh q_kept q_isKept q_text q_said : Nat) (m_thrown : Int32) (m_size : Int32) (m_at : Int32) (m_start : Int32) (m_token : Int32) (m_value : Int64) (m_faultAt : Int32) (m_allowed : Int32) (m_firstPair : Int32) (m_secondPair : Int32) (m_above : Int64) (m_below : Int64) (m_refused : Nat → Int32) (m_tongue : Nat → Int32) (m_talk : Nat → Int32) : va_W := [(q, .inr (11, [.int m_thrown, .ref q_refused, .ref q_tongue, .ref q_fresh, .ref q_kept, .ref q_isKept, .ref q_text, .int m_size, .int m_at, .int m_start, .int m_token, .long m_value, .int m_faultAt, .ref q_said, .ref q_talk, .int m_allowed, .int m_firstPair, .int m_secondPair, .long m_above, .long m_below])), (q_refused, .inl (cI, 3, .inl m_refused)), (q_tongue, .inl (cI, 73, .inl m_tongue)), (q_talk, .inl (cI, 20480, .inl m_talk))]
abbrev rX11_two : Room := { frames := 6, cells := 0, slots := 0, locals := 143 }
def fX11_two_b47 (N : Nat)  (m_thrown : Int32) (m_refused : Nat → Int32) (m_talk : Nat → Int32) : Option (Int32 × Int32 × (Nat → Int32) × (Nat → Int32)) := gm_bind (fX11_bad N m_refused) (fun o3 => some (o3.1, m_thrown, o3.2, m_talk))
def fX11_two_b145 (N : Nat)  (m_thrown : Int32) (m_refused : Nat → Int32) (m_tongue : Nat → Int32) (m_talk : Nat → Int32) (x3 : Int32) : Option (Int32 × Int32 × (Nat → Int32) × (Nat → Int32)) := gm_chk 2 73 (gm_bind (fX11_spot N ((m_tongue (Int32.toNatClampNeg 2))) x3 0) (fun o15 => gm_chk o15 20480 (some ((m_talk (Int32.toNatClampNeg o15)), m_thrown, m_refused, m_talk))))
def fX11_two_b139 (N : Nat) (r64 : (Nat → Int32) → Int32 → Option (Int32 × Int32 × (Nat → Int32) × (Nat → Int32))) (m_thrown : Int32) (m_refused : Nat → Int32) (m_tongue : Nat → Int32) (m_talk : Nat → Int32) (x1 : Int32) (x2 : Int32) (x3 : Int32) (x4 : Int32) (x5 : Int32) : Option (Int32 × Int32 × (Nat → Int32) × (Nat → Int32)) := (r64 m_talk ((x5 + (-1))))
def fX11_two_b72_body (N : Nat) (r64 : (Nat → Int32) → Int32 → Option (Int32 × Int32 × (Nat → Int32) × (Nat → Int32))) (m_thrown : Int32) (m_refused : Nat → Int32) (m_tongue : Nat → Int32) (x1 : Int32) (x2 : Int32) (x3 : Int32) (x4 : Int32) (x5 : Int32) (r72 : (Nat → Int32) → Int32 → Option (Int32 × Int32 × (Nat → Int32) × (Nat → Int32))) (m_talk : Nat → Int32) (x6 : Int32) : Option (Int32 × Int32 × (Nat → Int32) × (Nat → Int32)) := gm_chk 0 73 ((if (m_tongue (Int32.toNatClampNeg 0)) ≤ x6 then (fX11_two_b139 N r64 m_thrown m_refused m_tongue m_talk x1 x2 x3 x4 x5) else gm_bind (fX11_spot N x5 x6 0) (fun o19 => gm_bind (fX11_talkOf N m_tongue m_talk x1 x5 x6 0 x4) (fun o20 => gm_chk o19 20480 (gm_bind (fX11_spot N x5 x6 1) (fun o22 => gm_bind (fX11_talkOf N m_tongue (upd m_talk (Int32.toNatClampNeg o19) o20) x2 x5 x6 1 x4) (fun o23 => gm_chk o22 20480 ((r72 (upd (upd m_talk (Int32.toNatClampNeg o19) o20) (Int32.toNatClampNeg o22) o23) ((x6 + 1)))))))))))
def fX11_two_b72 (N : Nat) (r64 : (Nat → Int32) → Int32 → Option (Int32 × Int32 × (Nat → Int32) × (Nat → Int32))) (m_thrown : Int32) (m_refused : Nat → Int32) (m_tongue : Nat → Int32) (x1 : Int32) (x2 : Int32) (x3 : Int32) (x4 : Int32) (x5 : Int32) (m_talk : Nat → Int32) (x6 : Int32) : Option (Int32 × Int32 × (Nat → Int32) × (Nat → Int32)) := gm_fix (fX11_two_b72_body N r64 m_thrown m_refused m_tongue x1 x2 x3 x4 x5) (fun _ _ => none) N m_talk x6
def fX11_two_b64_body (N : Nat)  (m_thrown : Int32) (m_refused : Nat → Int32) (m_tongue : Nat → Int32) (x1 : Int32) (x2 : Int32) (x3 : Int32) (x4 : Int32) (r64 : (Nat → Int32) → Int32 → Option (Int32 × Int32 × (Nat → Int32) × (Nat → Int32))) (m_talk : Nat → Int32) (x5 : Int32) : Option (Int32 × Int32 × (Nat → Int32) × (Nat → Int32)) := (if x5 < 0 then (fX11_two_b145 N  m_thrown m_refused m_tongue m_talk x3) else (fX11_two_b72 N r64 m_thrown m_refused m_tongue x1 x2 x3 x4 x5 m_talk 0))
def fX11_two_b64 (N : Nat)  (m_thrown : Int32) (m_refused : Nat → Int32) (m_tongue : Nat → Int32) (x1 : Int32) (x2 : Int32) (x3 : Int32) (x4 : Int32) (m_talk : Nat → Int32) (x5 : Int32) : Option (Int32 × Int32 × (Nat → Int32) × (Nat → Int32)) := gm_fix (fX11_two_b64_body N  m_thrown m_refused m_tongue x1 x2 x3 x4) (fun _ _ => none) N m_talk x5
def fX11_two (N : Nat) (m_thrown : Int32) (m_refused : Nat → Int32) (m_tongue : Nat → Int32) (m_talk : Nat → Int32) (x1 : Int32) (x2 : Int32) (x3 : Int32) (x4 : Int32) : Option (Int32 × Int32 × (Nat → Int32) × (Nat → Int32)) := gm_bind (fX11_noPerson N m_tongue x1) (fun o1 => (if o1 = 0 then gm_bind (fX11_noPerson N m_tongue x2) (fun o4 => (if o4 = 0 then (if x1 = x2 then (fX11_two_b47 N  0 m_refused m_talk) else gm_bind (fX11_noWord N m_tongue x3) (fun o7 => (if o7 = 0 then gm_bind (fX11_in N ((Int32.toInt64 x4)) 0 2) (fun o9 => (if o9 = 0 then (fX11_two_b47 N  0 m_refused m_talk) else gm_chk 0 73 (gm_let ((((1 : Int32) <<< ((m_tongue (Int32.toNatClampNeg 0)) &&& 31)) - 1) : Int32) (fun (v12 : Int32) => (fX11_two_b64 N  0 m_refused m_tongue x1 x2 x3 x4 m_talk v12))))) else (fX11_two_b47 N  0 m_refused m_talk)))) else (fX11_two_b47 N  0 m_refused m_talk))) else (fX11_two_b47 N  0 m_refused m_talk)))
set_option maxRecDepth 20000 in
theorem inX11_two_X11 : ∀ w ∈ u_ws RX11 TX11 20, w ∈ wsX11_two := fun w h => by
  obtain ⟨k, hk, rfl⟩ := List.mem_map.mp h
  have hk2 := List.mem_range.mp hk
  exact List.mem_of_getElem? (i := 72 + k) (by rcases (show k = 0 ∨ k = 1 ∨ k = 2 ∨ k = 3 ∨ k = 4 ∨ k = 5 ∨ k = 6 ∨ k = 7 ∨ k = 8 ∨ k = 9 ∨ k = 10 ∨ k = 11 ∨ k = 12 ∨ k = 13 ∨ k = 14 ∨ k = 15 ∨ k = 16 ∨ k = 17 ∨ k = 18 ∨ k = 19 by omega) with rfl | rfl | rfl | rfl | rfl | rfl | rfl | rfl | rfl | rfl | rfl | rfl | rfl | rfl | rfl | rfl | rfl | rfl | rfl | rfl <;> rfl)
set_option maxRecDepth 100000 in
set_option maxHeartbeats 4000000 in
theorem tX11_two_b47 {p : Program} {l : Launch} {e : Env} {s : State} {m : MethodId} {args : Array Value} {below : List Frame} {meth : Method} {c : Code} {A : Nat → Prop} {dC : Nat → ClassId} {dI : Nat → Nat → Nat} {cI : ClassId} {q q_refused q_tongue q_talk q_fresh q_kept q_isKept q_text q_said : Nat} {m_thrown : Int32} {m_size : Int32} {m_at : Int32} {m_start : Int32} {m_token : Int32} {m_value : Int64} {m_faultAt : Int32} {m_allowed : Int32} {m_firstPair : Int32} {m_secondPair : Int32} {m_above : Int64} {m_below : Int64} {m_refused : Nat → Int32} {m_tongue : Nat → Int32} {m_talk : Nat → Int32} (C0 : gm_C p s m args meth c (dC, dI) [(cI, .int)] A gm_T RX11 cX11_two 7 (some .int) wsX11_two) {N : Nat} {out : Int32 × Int32 × (Nat → Int32) × (Nat → Int32)}    {H : Heap} {locs : List Loc} {ls : Array Slot} (h : fX11_two_b47 N  m_thrown m_refused m_talk = some out) (hH : gm_H (dC, dI) A s (wX11_two cI q q_refused q_tongue q_talk q_fresh q_kept q_isKept q_text q_said m_thrown m_size m_at m_start m_token m_value m_faultAt m_allowed m_firstPair m_secondPair m_above m_below m_refused m_tongue m_talk) H locs) (hl : lv_has ls 7 [(0, .ref q)]) : W p l e rX11_two s m args below meth c H locs 0 0 (MQ below (gm_Q (dC, dI) [(cI, .int)] A (some (.int out.1)) (wX11_two cI q q_refused q_tongue q_talk q_fresh q_kept q_isKept q_text q_said out.2.1 m_size m_at m_start m_token m_value m_faultAt m_allowed m_firstPair m_secondPair m_above m_below out.2.2.1 m_tongue out.2.2.2)) args s 0 0 A) (F0 m 47 ls []) := by
  obtain ⟨hx, hb, hml, hr, hown, hts, hA, hK, hX, hlocks⟩ := id C0
  unfold fX11_two_b47 at h
  refine lv_aload_n hx hb dX11_two_47 rfl (lv_at hl 0 rfl) ?_
  obtain ⟨o3, ho3, h⟩ := gm_bind_e h
  refine gm_callV (As := []) (rest := []) (n := 0) (ci := 11) (q0 := 0) C0 hH (mX11_bad l dC dI cI q q_refused q_tongue q_fresh q_kept q_isKept q_text q_said q_talk m_thrown m_size m_at m_start m_token m_value m_faultAt m_allowed m_firstPair m_secondPair m_above m_below m_refused    ho3) gX11_two_X11_bad rfl (by decide +kernel) ⟨rfl, rfl, Nat.le_of_ble_eq_true rfl, Nat.le_of_ble_eq_true rfl⟩ gm_T_ok (fun _ => trivial) [0, 1] rfl rfl rfl [0] rfl rfl rfl rfl hl.1 rfl (Nat.le_of_ble_eq_true rfl) dX11_two_48 ⟨Nat.zero_le _, Nat.zero_le _⟩ (fun H locs hH => ?_)
  have hH : gm_H (dC, dI) A s (wX11_two cI q q_refused q_tongue q_talk q_fresh q_kept q_isKept q_text q_said m_thrown m_size m_at m_start m_token m_value m_faultAt m_allowed m_firstPair m_secondPair m_above m_below o3.2 m_tongue m_talk) H locs := hH
  obtain rfl := Option.some.inj h
  exact gm_iret C0 hH dX11_two_51
set_option maxRecDepth 100000 in
set_option maxHeartbeats 4000000 in
theorem tX11_two_b145 {p : Program} {l : Launch} {e : Env} {s : State} {m : MethodId} {args : Array Value} {below : List Frame} {meth : Method} {c : Code} {A : Nat → Prop} {dC : Nat → ClassId} {dI : Nat → Nat → Nat} {cI : ClassId} {q q_refused q_tongue q_talk q_fresh q_kept q_isKept q_text q_said : Nat} {m_thrown : Int32} {m_size : Int32} {m_at : Int32} {m_start : Int32} {m_token : Int32} {m_value : Int64} {m_faultAt : Int32} {m_allowed : Int32} {m_firstPair : Int32} {m_secondPair : Int32} {m_above : Int64} {m_below : Int64} {m_refused : Nat → Int32} {m_tongue : Nat → Int32} {m_talk : Nat → Int32} {x3 : Int32} (C0 : gm_C p s m args meth c (dC, dI) [(cI, .int)] A gm_T RX11 cX11_two 7 (some .int) wsX11_two) {N : Nat} {out : Int32 × Int32 × (Nat → Int32) × (Nat → Int32)}    {H : Heap} {locs : List Loc} {ls : Array Slot} (h : fX11_two_b145 N  m_thrown m_refused m_tongue m_talk x3 = some out) (hH : gm_H (dC, dI) A s (wX11_two cI q q_refused q_tongue q_talk q_fresh q_kept q_isKept q_text q_said m_thrown m_size m_at m_start m_token m_value m_faultAt m_allowed m_firstPair m_secondPair m_above m_below m_refused m_tongue m_talk) H locs) (hl : lv_has ls 7 [(0, .ref q), (3, .int x3)]) : W p l e rX11_two s m args below meth c H locs 0 0 (MQ below (gm_Q (dC, dI) [(cI, .int)] A (some (.int out.1)) (wX11_two cI q q_refused q_tongue q_talk q_fresh q_kept q_isKept q_text q_said out.2.1 m_size m_at m_start m_token m_value m_faultAt m_allowed m_firstPair m_secondPair m_above m_below out.2.2.1 m_tongue out.2.2.2)) args s 0 0 A) (F0 m 145 ls []) := by
  obtain ⟨hx, hb, hml, hr, hown, hts, hA, hK, hX, hlocks⟩ := id C0
  unfold fX11_two_b145 at h
  refine lv_aload_n hx hb dX11_two_145 rfl (lv_at hl 0 rfl) ?_
  refine gm_get (ci := 11) C0 hH inX11_two_X11 0 14 4 rfl rfl (by decide) rfl rfl dX11_two_146 ?_
  refine lv_aload_n hx hb dX11_two_149 rfl (lv_at hl 0 rfl) ?_
  refine gm_get (ci := 11) C0 hH inX11_two_X11 0 2 3 rfl rfl (by decide) rfl rfl dX11_two_150 ?_
  refine lv_iconst (v := 2) hx hb dX11_two_153 (by decide) ?_
  obtain ⟨hi14, h⟩ := gm_chk_e h
  refine gm_iald C0 hH hi14 2 0 rfl rfl dX11_two_154 ?_
  refine lv_iload_n hx hb dX11_two_155 rfl (lv_at hl 1 rfl) ?_
  refine lv_iconst (v := 0) hx hb dX11_two_156 (by decide) ?_
  obtain ⟨o15, ho15, h⟩ := gm_bind_e h
  refine gm_callS (As := [.int (m_tongue (Int32.toNatClampNeg 2)), .int x3, .int 0]) (rest := [.ref q_talk]) (n := 3) C0 hH (mX11_spot l dC dI    ((m_tongue (Int32.toNatClampNeg 2))) x3 0   ho15) gX11_two_X11_spot rfl (by decide +kernel) ⟨rfl, rfl, Nat.le_of_ble_eq_true rfl, Nat.le_of_ble_eq_true rfl⟩ gm_T_ok (fun _ => trivial) [] rfl rfl rfl [] rfl rfl hl.1 rfl (Nat.le_of_ble_eq_true rfl) dX11_two_157 ⟨Nat.zero_le _, Nat.zero_le _⟩ (fun H locs hH => ?_)
  have hH : gm_H (dC, dI) A s (wX11_two cI q q_refused q_tongue q_talk q_fresh q_kept q_isKept q_text q_said m_thrown m_size m_at m_start m_token m_value m_faultAt m_allowed m_firstPair m_secondPair m_above m_below m_refused m_tongue m_talk) H locs := hH
  obtain ⟨hi16, h⟩ := gm_chk_e h
  refine gm_iald C0 hH hi16 3 0 rfl rfl dX11_two_160 ?_
  obtain rfl := Option.some.inj h
  exact gm_iret C0 hH dX11_two_161
set_option maxRecDepth 100000 in
set_option maxHeartbeats 4000000 in
theorem tX11_two_b139 {p : Program} {l : Launch} {e : Env} {s : State} {m : MethodId} {args : Array Value} {below : List Frame} {meth : Method} {c : Code} {A : Nat → Prop} {dC : Nat → ClassId} {dI : Nat → Nat → Nat} {cI : ClassId} {q q_refused q_tongue q_talk q_fresh q_kept q_isKept q_text q_said : Nat} {m_thrown : Int32} {m_size : Int32} {m_at : Int32} {m_start : Int32} {m_token : Int32} {m_value : Int64} {m_faultAt : Int32} {m_allowed : Int32} {m_firstPair : Int32} {m_secondPair : Int32} {m_above : Int64} {m_below : Int64} {m_refused : Nat → Int32} {m_tongue : Nat → Int32} {m_talk : Nat → Int32} {x1 : Int32} {x2 : Int32} {x3 : Int32} {x4 : Int32} {x5 : Int32} (C0 : gm_C p s m args meth c (dC, dI) [(cI, .int)] A gm_T RX11 cX11_two 7 (some .int) wsX11_two) {N : Nat} {out : Int32 × Int32 × (Nat → Int32) × (Nat → Int32)} {r64 : (Nat → Int32) → Int32 → Option (Int32 × Int32 × (Nat → Int32) × (Nat → Int32))} (hr64 : ∀ (m_talk : Nat → Int32) (x5 : Int32) (H : Heap) (locs : List Loc) (ls : Array Slot), r64 m_talk x5 = some out → gm_H (dC, dI) A s (wX11_two cI q q_refused q_tongue q_talk q_fresh q_kept q_isKept q_text q_said m_thrown m_size m_at m_start m_token m_value m_faultAt m_allowed m_firstPair m_secondPair m_above m_below m_refused m_tongue m_talk) H locs → lv_has ls 7 [(0, .ref q), (1, .int x1), (2, .int x2), (3, .int x3), (4, .int x4), (5, .int x5)] → W p l e rX11_two s m args below meth c H locs 0 0 (MQ below (gm_Q (dC, dI) [(cI, .int)] A (some (.int out.1)) (wX11_two cI q q_refused q_tongue q_talk q_fresh q_kept q_isKept q_text q_said out.2.1 m_size m_at m_start m_token m_value m_faultAt m_allowed m_firstPair m_secondPair m_above m_below out.2.2.1 m_tongue out.2.2.2)) args s 0 0 A) (F0 m 64 ls []))   {H : Heap} {locs : List Loc} {ls : Array Slot} (h : fX11_two_b139 N r64 m_thrown m_refused m_tongue m_talk x1 x2 x3 x4 x5 = some out) (hH : gm_H (dC, dI) A s (wX11_two cI q q_refused q_tongue q_talk q_fresh q_kept q_isKept q_text q_said m_thrown m_size m_at m_start m_token m_value m_faultAt m_allowed m_firstPair m_secondPair m_above m_below m_refused m_tongue m_talk) H locs) (hl : lv_has ls 7 [(0, .ref q), (1, .int x1), (2, .int x2), (3, .int x3), (4, .int x4), (5, .int x5)]) : W p l e rX11_two s m args below meth c H locs 0 0 (MQ below (gm_Q (dC, dI) [(cI, .int)] A (some (.int out.1)) (wX11_two cI q q_refused q_tongue q_talk q_fresh q_kept q_isKept q_text q_said out.2.1 m_size m_at m_start m_token m_value m_faultAt m_allowed m_firstPair m_secondPair m_above m_below out.2.2.1 m_tongue out.2.2.2)) args s 0 0 A) (F0 m 139 ls []) := by
  obtain ⟨hx, hb, hml, hr, hown, hts, hA, hK, hX, hlocks⟩ := id C0
  unfold fX11_two_b139 at h
  refine lv_iinc (v := (x5 + (-1))) (lv' := [(5, .int (x5 + (-1))), (0, .ref q), (1, .int x1), (2, .int x2), (3, .int x3), (4, .int x4)]) hx hb dX11_two_139 hl (k := 5) rfl rfl (by decide) rfl (fun ls hl => ?_)
  refine lv_goto (tgt := 64) hx hb dX11_two_142 (by decide) ?_
  exact hr64 _ _ _ _ _ h hH (lv_sub hl [1, 2, 3, 4, 5, 0] rfl)
set_option maxRecDepth 100000 in
set_option maxHeartbeats 4000000 in
theorem tX11_two_b72 {p : Program} {l : Launch} {e : Env} {s : State} {m : MethodId} {args : Array Value} {below : List Frame} {meth : Method} {c : Code} {A : Nat → Prop} {dC : Nat → ClassId} {dI : Nat → Nat → Nat} {cI : ClassId} {q q_refused q_tongue q_talk q_fresh q_kept q_isKept q_text q_said : Nat} {m_thrown : Int32} {m_size : Int32} {m_at : Int32} {m_start : Int32} {m_token : Int32} {m_value : Int64} {m_faultAt : Int32} {m_allowed : Int32} {m_firstPair : Int32} {m_secondPair : Int32} {m_above : Int64} {m_below : Int64} {m_refused : Nat → Int32} {m_tongue : Nat → Int32} {x1 : Int32} {x2 : Int32} {x3 : Int32} {x4 : Int32} {x5 : Int32} (C0 : gm_C p s m args meth c (dC, dI) [(cI, .int)] A gm_T RX11 cX11_two 7 (some .int) wsX11_two) {N : Nat} {out : Int32 × Int32 × (Nat → Int32) × (Nat → Int32)} {r64 : (Nat → Int32) → Int32 → Option (Int32 × Int32 × (Nat → Int32) × (Nat → Int32))} (hr64 : ∀ (m_talk : Nat → Int32) (x5 : Int32) (H : Heap) (locs : List Loc) (ls : Array Slot), r64 m_talk x5 = some out → gm_H (dC, dI) A s (wX11_two cI q q_refused q_tongue q_talk q_fresh q_kept q_isKept q_text q_said m_thrown m_size m_at m_start m_token m_value m_faultAt m_allowed m_firstPair m_secondPair m_above m_below m_refused m_tongue m_talk) H locs → lv_has ls 7 [(0, .ref q), (1, .int x1), (2, .int x2), (3, .int x3), (4, .int x4), (5, .int x5)] → W p l e rX11_two s m args below meth c H locs 0 0 (MQ below (gm_Q (dC, dI) [(cI, .int)] A (some (.int out.1)) (wX11_two cI q q_refused q_tongue q_talk q_fresh q_kept q_isKept q_text q_said out.2.1 m_size m_at m_start m_token m_value m_faultAt m_allowed m_firstPair m_secondPair m_above m_below out.2.2.1 m_tongue out.2.2.2)) args s 0 0 A) (F0 m 64 ls []))  : ∀ (n : Nat), ∀ (m_talk : Nat → Int32) (x6 : Int32) (H : Heap) (locs : List Loc) (ls : Array Slot), (gm_fix (fX11_two_b72_body N r64 m_thrown m_refused m_tongue x1 x2 x3 x4 x5) (fun _ _ => none) n) m_talk x6 = some out → gm_H (dC, dI) A s (wX11_two cI q q_refused q_tongue q_talk q_fresh q_kept q_isKept q_text q_said m_thrown m_size m_at m_start m_token m_value m_faultAt m_allowed m_firstPair m_secondPair m_above m_below m_refused m_tongue m_talk) H locs → lv_has ls 7 [(0, .ref q), (1, .int x1), (2, .int x2), (3, .int x3), (4, .int x4), (5, .int x5), (6, .int x6)] → W p l e rX11_two s m args below meth c H locs 0 0 (MQ below (gm_Q (dC, dI) [(cI, .int)] A (some (.int out.1)) (wX11_two cI q q_refused q_tongue q_talk q_fresh q_kept q_isKept q_text q_said out.2.1 m_size m_at m_start m_token m_value m_faultAt m_allowed m_firstPair m_secondPair m_above m_below out.2.2.1 m_tongue out.2.2.2)) args s 0 0 A) (F0 m 72 ls []) := by
  obtain ⟨hx, hb, hml, hr, hown, hts, hA, hK, hX, hlocks⟩ := id C0
  intro n
  induction n with
  | zero =>
    intro m_talk x6 H locs ls h hH hl
    cases h
  | succ n hr72 =>
    intro m_talk x6 H locs ls h hH hl
    rw [gm_fix_s] at h
    unfold fX11_two_b72_body at h
    refine lv_iload hx hb dX11_two_72 (lv_at hl 6 rfl) ?_
    refine lv_aload_n hx hb dX11_two_74 rfl (lv_at hl 0 rfl) ?_
    refine gm_get (ci := 11) C0 hH inX11_two_X11 0 2 3 rfl rfl (by decide) rfl rfl dX11_two_75 ?_
    refine lv_iconst (v := 0) hx hb dX11_two_78 (by decide) ?_
    obtain ⟨hi17, h⟩ := gm_chk_e h
    refine gm_iald C0 hH hi17 2 0 rfl rfl dX11_two_79 ?_
    refine lv_icmp_ge (tgt := 139) hx hb dX11_two_80 (by decide) (fun hc18 => ?_) (fun hc18 => ?_)
    · replace h := gm_pos hc18 h
      exact tX11_two_b139 C0 hr64 h hH (lv_sub hl [0, 1, 2, 3, 4, 5] rfl)
    · replace h := gm_neg hc18 h
      refine lv_aload_n hx hb dX11_two_83 rfl (lv_at hl 0 rfl) ?_
      refine gm_get (ci := 11) C0 hH inX11_two_X11 0 14 4 rfl rfl (by decide) rfl rfl dX11_two_84 ?_
      refine lv_iload hx hb dX11_two_87 (lv_at hl 5 rfl) ?_
      refine lv_iload hx hb dX11_two_89 (lv_at hl 6 rfl) ?_
      refine lv_iconst (v := 0) hx hb dX11_two_91 (by decide) ?_
      obtain ⟨o19, ho19, h⟩ := gm_bind_e h
      refine gm_callS (As := [.int x5, .int x6, .int 0]) (rest := [.ref q_talk]) (n := 3) C0 hH (mX11_spot l dC dI    x5 x6 0   ho19) gX11_two_X11_spot rfl (by decide +kernel) ⟨rfl, rfl, Nat.le_of_ble_eq_true rfl, Nat.le_of_ble_eq_true rfl⟩ gm_T_ok (fun _ => trivial) [] rfl rfl rfl [] rfl rfl hl.1 rfl (Nat.le_of_ble_eq_true rfl) dX11_two_92 ⟨Nat.zero_le _, Nat.zero_le _⟩ (fun H locs hH => ?_)
      have hH : gm_H (dC, dI) A s (wX11_two cI q q_refused q_tongue q_talk q_fresh q_kept q_isKept q_text q_said m_thrown m_size m_at m_start m_token m_value m_faultAt m_allowed m_firstPair m_secondPair m_above m_below m_refused m_tongue m_talk) H locs := hH
      refine lv_aload_n hx hb dX11_two_95 rfl (lv_at hl 0 rfl) ?_
      refine lv_iload_n hx hb dX11_two_96 rfl (lv_at hl 1 rfl) ?_
      refine lv_iload hx hb dX11_two_97 (lv_at hl 5 rfl) ?_
      refine lv_iload hx hb dX11_two_99 (lv_at hl 6 rfl) ?_
      refine lv_iconst (v := 0) hx hb dX11_two_101 (by decide) ?_
      refine lv_iload hx hb dX11_two_102 (lv_at hl 4 rfl) ?_
      obtain ⟨o20, ho20, h⟩ := gm_bind_e h
      refine gm_callV (As := [.int x1, .int x5, .int x6, .int 0, .int x4]) (rest := [.int o19, .ref q_talk]) (n := 5) (ci := 11) (q0 := 0) C0 hH (mX11_talkOf l dC dI cI q q_tongue q_talk q_refused q_fresh q_kept q_isKept q_text q_said m_thrown m_size m_at m_start m_token m_value m_faultAt m_allowed m_firstPair m_secondPair m_above m_below m_tongue m_talk x1 x5 x6 0 x4   ho20) gX11_two_X11_talkOf rfl (by decide +kernel) ⟨rfl, rfl, Nat.le_of_ble_eq_true rfl, Nat.le_of_ble_eq_true rfl⟩ gm_T_ok (fun _ => trivial) [0, 2, 3] rfl rfl rfl [0] rfl rfl rfl rfl hl.1 rfl (Nat.le_of_ble_eq_true rfl) dX11_two_104 ⟨Nat.zero_le _, Nat.zero_le _⟩ (fun H locs hH => ?_)
      have hH : gm_H (dC, dI) A s (wX11_two cI q q_refused q_tongue q_talk q_fresh q_kept q_isKept q_text q_said m_thrown m_size m_at m_start m_token m_value m_faultAt m_allowed m_firstPair m_secondPair m_above m_below m_refused m_tongue m_talk) H locs := hH
      obtain ⟨hi21, h⟩ := gm_chk_e h
      refine gm_iast C0 hH hi21 3 0 rfl rfl dX11_two_107 (fun H locs hH => ?_)
      have hH : gm_H (dC, dI) A s (wX11_two cI q q_refused q_tongue q_talk q_fresh q_kept q_isKept q_text q_said m_thrown m_size m_at m_start m_token m_value m_faultAt m_allowed m_firstPair m_secondPair m_above m_below m_refused m_tongue (upd m_talk (Int32.toNatClampNeg o19) o20)) H locs := hH
      refine lv_aload_n hx hb dX11_two_108 rfl (lv_at hl 0 rfl) ?_
      refine gm_get (ci := 11) C0 hH inX11_two_X11 0 14 4 rfl rfl (by decide) rfl rfl dX11_two_109 ?_
      refine lv_iload hx hb dX11_two_112 (lv_at hl 5 rfl) ?_
      refine lv_iload hx hb dX11_two_114 (lv_at hl 6 rfl) ?_
      refine lv_iconst (v := 1) hx hb dX11_two_116 (by decide) ?_
      obtain ⟨o22, ho22, h⟩ := gm_bind_e h
      refine gm_callS (As := [.int x5, .int x6, .int 1]) (rest := [.ref q_talk]) (n := 3) C0 hH (mX11_spot l dC dI    x5 x6 1   ho22) gX11_two_X11_spot rfl (by decide +kernel) ⟨rfl, rfl, Nat.le_of_ble_eq_true rfl, Nat.le_of_ble_eq_true rfl⟩ gm_T_ok (fun _ => trivial) [] rfl rfl rfl [] rfl rfl hl.1 rfl (Nat.le_of_ble_eq_true rfl) dX11_two_117 ⟨Nat.zero_le _, Nat.zero_le _⟩ (fun H locs hH => ?_)
      have hH : gm_H (dC, dI) A s (wX11_two cI q q_refused q_tongue q_talk q_fresh q_kept q_isKept q_text q_said m_thrown m_size m_at m_start m_token m_value m_faultAt m_allowed m_firstPair m_secondPair m_above m_below m_refused m_tongue (upd m_talk (Int32.toNatClampNeg o19) o20)) H locs := hH
      refine lv_aload_n hx hb dX11_two_120 rfl (lv_at hl 0 rfl) ?_
      refine lv_iload_n hx hb dX11_two_121 rfl (lv_at hl 2 rfl) ?_
      refine lv_iload hx hb dX11_two_122 (lv_at hl 5 rfl) ?_
      refine lv_iload hx hb dX11_two_124 (lv_at hl 6 rfl) ?_
      refine lv_iconst (v := 1) hx hb dX11_two_126 (by decide) ?_
      refine lv_iload hx hb dX11_two_127 (lv_at hl 4 rfl) ?_
      obtain ⟨o23, ho23, h⟩ := gm_bind_e h
      refine gm_callV (As := [.int x2, .int x5, .int x6, .int 1, .int x4]) (rest := [.int o22, .ref q_talk]) (n := 5) (ci := 11) (q0 := 0) C0 hH (mX11_talkOf l dC dI cI q q_tongue q_talk q_refused q_fresh q_kept q_isKept q_text q_said m_thrown m_size m_at m_start m_token m_value m_faultAt m_allowed m_firstPair m_secondPair m_above m_below m_tongue (upd m_talk (Int32.toNatClampNeg o19) o20) x2 x5 x6 1 x4   ho23) gX11_two_X11_talkOf rfl (by decide +kernel) ⟨rfl, rfl, Nat.le_of_ble_eq_true rfl, Nat.le_of_ble_eq_true rfl⟩ gm_T_ok (fun _ => trivial) [0, 2, 3] rfl rfl rfl [0] rfl rfl rfl rfl hl.1 rfl (Nat.le_of_ble_eq_true rfl) dX11_two_129 ⟨Nat.zero_le _, Nat.zero_le _⟩ (fun H locs hH => ?_)
      have hH : gm_H (dC, dI) A s (wX11_two cI q q_refused q_tongue q_talk q_fresh q_kept q_isKept q_text q_said m_thrown m_size m_at m_start m_token m_value m_faultAt m_allowed m_firstPair m_secondPair m_above m_below m_refused m_tongue (upd m_talk (Int32.toNatClampNeg o19) o20)) H locs := hH
      obtain ⟨hi24, h⟩ := gm_chk_e h
      refine gm_iast C0 hH hi24 3 0 rfl rfl dX11_two_132 (fun H locs hH => ?_)
      have hH : gm_H (dC, dI) A s (wX11_two cI q q_refused q_tongue q_talk q_fresh q_kept q_isKept q_text q_said m_thrown m_size m_at m_start m_token m_value m_faultAt m_allowed m_firstPair m_secondPair m_above m_below m_refused m_tongue (upd (upd m_talk (Int32.toNatClampNeg o19) o20) (Int32.toNatClampNeg o22) o23)) H locs := hH
      refine lv_iinc (v := (x6 + 1)) (lv' := [(6, .int (x6 + 1)), (0, .ref q), (1, .int x1), (2, .int x2), (3, .int x3), (4, .int x4), (5, .int x5)]) hx hb dX11_two_133 hl (k := 6) rfl rfl (by decide) rfl (fun ls hl => ?_)
      refine lv_goto (tgt := 72) hx hb dX11_two_136 (by decide) ?_
      exact hr72 _ _ _ _ _ h hH (lv_sub hl [1, 2, 3, 4, 5, 6, 0] rfl)
set_option maxRecDepth 100000 in
set_option maxHeartbeats 4000000 in
theorem tX11_two_b64 {p : Program} {l : Launch} {e : Env} {s : State} {m : MethodId} {args : Array Value} {below : List Frame} {meth : Method} {c : Code} {A : Nat → Prop} {dC : Nat → ClassId} {dI : Nat → Nat → Nat} {cI : ClassId} {q q_refused q_tongue q_talk q_fresh q_kept q_isKept q_text q_said : Nat} {m_thrown : Int32} {m_size : Int32} {m_at : Int32} {m_start : Int32} {m_token : Int32} {m_value : Int64} {m_faultAt : Int32} {m_allowed : Int32} {m_firstPair : Int32} {m_secondPair : Int32} {m_above : Int64} {m_below : Int64} {m_refused : Nat → Int32} {m_tongue : Nat → Int32} {x1 : Int32} {x2 : Int32} {x3 : Int32} {x4 : Int32} (C0 : gm_C p s m args meth c (dC, dI) [(cI, .int)] A gm_T RX11 cX11_two 7 (some .int) wsX11_two) {N : Nat} {out : Int32 × Int32 × (Nat → Int32) × (Nat → Int32)}   : ∀ (n : Nat), ∀ (m_talk : Nat → Int32) (x5 : Int32) (H : Heap) (locs : List Loc) (ls : Array Slot), (gm_fix (fX11_two_b64_body N  m_thrown m_refused m_tongue x1 x2 x3 x4) (fun _ _ => none) n) m_talk x5 = some out → gm_H (dC, dI) A s (wX11_two cI q q_refused q_tongue q_talk q_fresh q_kept q_isKept q_text q_said m_thrown m_size m_at m_start m_token m_value m_faultAt m_allowed m_firstPair m_secondPair m_above m_below m_refused m_tongue m_talk) H locs → lv_has ls 7 [(0, .ref q), (1, .int x1), (2, .int x2), (3, .int x3), (4, .int x4), (5, .int x5)] → W p l e rX11_two s m args below meth c H locs 0 0 (MQ below (gm_Q (dC, dI) [(cI, .int)] A (some (.int out.1)) (wX11_two cI q q_refused q_tongue q_talk q_fresh q_kept q_isKept q_text q_said out.2.1 m_size m_at m_start m_token m_value m_faultAt m_allowed m_firstPair m_secondPair m_above m_below out.2.2.1 m_tongue out.2.2.2)) args s 0 0 A) (F0 m 64 ls []) := by
  obtain ⟨hx, hb, hml, hr, hown, hts, hA, hK, hX, hlocks⟩ := id C0
  intro n
  induction n with
  | zero =>
    intro m_talk x5 H locs ls h hH hl
    cases h
  | succ n hr64 =>
    intro m_talk x5 H locs ls h hH hl
    rw [gm_fix_s] at h
    unfold fX11_two_b64_body at h
    refine lv_iload hx hb dX11_two_64 (lv_at hl 5 rfl) ?_
    refine lv_if_lt (tgt := 145) hx hb dX11_two_66 (by decide) (fun hc13 => ?_) (fun hc13 => ?_)
    · replace h := gm_pos hc13 h
      exact tX11_two_b145 C0  h hH (lv_sub hl [0, 3] rfl)
    · replace h := gm_neg hc13 h
      refine lv_iconst (v := 0) hx hb dX11_two_69 (by decide) ?_
      refine lv_istore (lv' := [(6, .int 0), (0, .ref q), (1, .int x1), (2, .int x2), (3, .int x3), (4, .int x4), (5, .int x5)]) hx hb dX11_two_70 hl (by decide) rfl (fun ls hl => ?_)
      unfold fX11_two_b72 at h
      exact tX11_two_b72 C0 hr64 _ _ _ _ _ _ h hH (lv_sub hl [1, 2, 3, 4, 5, 6, 0] rfl)
set_option maxRecDepth 100000 in
set_option maxHeartbeats 4000000 in
theorem mX11_two (l : Launch) (dC : Nat → ClassId) (dI : Nat → Nat → Nat) (cI : ClassId) (q q_refused q_tongue q_talk q_fresh q_kept q_isKept q_text q_said : Nat) (m_thrown : Int32) (m_size : Int32) (m_at : Int32) (m_start : Int32) (m_token : Int32) (m_value : Int64) (m_faultAt : Int32) (m_allowed : Int32) (m_firstPair : Int32) (m_secondPair : Int32) (m_above : Int64) (m_below : Int64) (m_refused : Nat → Int32) (m_tongue : Nat → Int32) (m_talk : Nat → Int32) (x1 : Int32) (x2 : Int32) (x3 : Int32) (x4 : Int32)  {N : Nat} {out : Int32 × Int32 × (Nat → Int32) × (Nat → Int32)} (h : fX11_two N m_thrown m_refused m_tongue m_talk x1 x2 x3 x4 = some out) : gm_Met l yX11_two wsX11_two rX11_two (dC, dI) [(cI, .int)] gm_T [.ref q, .int x1, .int x2, .int x3, .int x4] (wX11_two cI q q_refused q_tongue q_talk q_fresh q_kept q_isKept q_text q_said m_thrown m_size m_at m_start m_token m_value m_faultAt m_allowed m_firstPair m_secondPair m_above m_below m_refused m_tongue m_talk) (some (.int out.1)) (wX11_two cI q q_refused q_tongue q_talk q_fresh q_kept q_isKept q_text q_said out.2.1 m_size m_at m_start m_token m_value m_faultAt m_allowed m_firstPair m_secondPair m_above m_below out.2.2.1 m_tongue out.2.2.2) := by
  refine gm_ofW (cc := cX11_two) (maxL := 7) (ret := (some .int)) (by decide +kernel) rfl (Nat.le_of_ble_eq_true rfl) ?_
  intro p e s m below meth c A C0 hH ls hl
  generalize ([.ref q, .int x1, .int x2, .int x3, .int x4] : List Value).toArray = args at C0 ⊢
  have hl : lv_has ls 7 [(0, .ref q), (1, .int x1), (2, .int x2), (3, .int x3), (4, .int x4)] := hl
  generalize s.heap = H at hH ⊢
  generalize ([] : List Loc) = locs at hH ⊢
  obtain ⟨hx, hb, hml, hr, hown, hts, hA, hK, hX, hlocks⟩ := id C0
  unfold fX11_two at h
  refine lv_aload_n hx hb dX11_two_0 rfl (lv_at hl 0 rfl) ?_
  refine lv_iconst (v := 0) hx hb dX11_two_1 (by decide) ?_
  refine gm_putf (ci := 11) C0 hH inX11_two_X11 tyX11_ok nmX11 0 0 1 rfl rfl (by decide) rfl rfl rfl rfl rfl (Nat.le_of_ble_eq_true rfl) dX11_two_2 (fun H locs hH => ?_)
  have hH : gm_H (dC, dI) A s (wX11_two cI q q_refused q_tongue q_talk q_fresh q_kept q_isKept q_text q_said 0 m_size m_at m_start m_token m_value m_faultAt m_allowed m_firstPair m_secondPair m_above m_below m_refused m_tongue m_talk) H locs := hH
  refine lv_aload_n hx hb dX11_two_5 rfl (lv_at hl 0 rfl) ?_
  refine lv_iload_n hx hb dX11_two_6 rfl (lv_at hl 1 rfl) ?_
  obtain ⟨o1, ho1, h⟩ := gm_bind_e h
  refine gm_callV (As := [.int x1]) (rest := []) (n := 1) (ci := 11) (q0 := 0) C0 hH (mX11_noPerson l dC dI cI q q_tongue q_refused q_fresh q_kept q_isKept q_text q_said q_talk 0 m_size m_at m_start m_token m_value m_faultAt m_allowed m_firstPair m_secondPair m_above m_below m_tongue x1   ho1) gX11_two_X11_noPerson rfl (by decide +kernel) ⟨rfl, rfl, Nat.le_of_ble_eq_true rfl, Nat.le_of_ble_eq_true rfl⟩ gm_T_ok (fun _ => trivial) [0, 2] rfl rfl rfl [0] rfl rfl rfl rfl hl.1 rfl (Nat.le_of_ble_eq_true rfl) dX11_two_7 ⟨Nat.zero_le _, Nat.zero_le _⟩ (fun H locs hH => ?_)
  have hH : gm_H (dC, dI) A s (wX11_two cI q q_refused q_tongue q_talk q_fresh q_kept q_isKept q_text q_said 0 m_size m_at m_start m_token m_value m_faultAt m_allowed m_firstPair m_secondPair m_above m_below m_refused m_tongue m_talk) H locs := hH
  refine lv_if_ne (tgt := 47) hx hb dX11_two_10 (by decide) (fun hc2 => ?_) (fun hc2 => ?_)
  · replace h := gm_neg hc2 h
    exact tX11_two_b47 C0  h hH (lv_sub hl [0] rfl)
  · replace h := gm_pos hc2 h
    refine lv_aload_n hx hb dX11_two_13 rfl (lv_at hl 0 rfl) ?_
    refine lv_iload_n hx hb dX11_two_14 rfl (lv_at hl 2 rfl) ?_
    obtain ⟨o4, ho4, h⟩ := gm_bind_e h
    refine gm_callV (As := [.int x2]) (rest := []) (n := 1) (ci := 11) (q0 := 0) C0 hH (mX11_noPerson l dC dI cI q q_tongue q_refused q_fresh q_kept q_isKept q_text q_said q_talk 0 m_size m_at m_start m_token m_value m_faultAt m_allowed m_firstPair m_secondPair m_above m_below m_tongue x2   ho4) gX11_two_X11_noPerson rfl (by decide +kernel) ⟨rfl, rfl, Nat.le_of_ble_eq_true rfl, Nat.le_of_ble_eq_true rfl⟩ gm_T_ok (fun _ => trivial) [0, 2] rfl rfl rfl [0] rfl rfl rfl rfl hl.1 rfl (Nat.le_of_ble_eq_true rfl) dX11_two_15 ⟨Nat.zero_le _, Nat.zero_le _⟩ (fun H locs hH => ?_)
    have hH : gm_H (dC, dI) A s (wX11_two cI q q_refused q_tongue q_talk q_fresh q_kept q_isKept q_text q_said 0 m_size m_at m_start m_token m_value m_faultAt m_allowed m_firstPair m_secondPair m_above m_below m_refused m_tongue m_talk) H locs := hH
    refine lv_if_ne (tgt := 47) hx hb dX11_two_18 (by decide) (fun hc5 => ?_) (fun hc5 => ?_)
    · replace h := gm_neg hc5 h
      exact tX11_two_b47 C0  h hH (lv_sub hl [0] rfl)
    · replace h := gm_pos hc5 h
      refine lv_iload_n hx hb dX11_two_21 rfl (lv_at hl 1 rfl) ?_
      refine lv_iload_n hx hb dX11_two_22 rfl (lv_at hl 2 rfl) ?_
      refine lv_icmp_eq (tgt := 47) hx hb dX11_two_23 (by decide) (fun hc6 => ?_) (fun hc6 => ?_)
      · replace h := gm_pos hc6 h
        exact tX11_two_b47 C0  h hH (lv_sub hl [0] rfl)
      · replace h := gm_neg hc6 h
        refine lv_aload_n hx hb dX11_two_26 rfl (lv_at hl 0 rfl) ?_
        refine lv_iload_n hx hb dX11_two_27 rfl (lv_at hl 3 rfl) ?_
        obtain ⟨o7, ho7, h⟩ := gm_bind_e h
        refine gm_callV (As := [.int x3]) (rest := []) (n := 1) (ci := 11) (q0 := 0) C0 hH (mX11_noWord l dC dI cI q q_tongue q_refused q_fresh q_kept q_isKept q_text q_said q_talk 0 m_size m_at m_start m_token m_value m_faultAt m_allowed m_firstPair m_secondPair m_above m_below m_tongue x3   ho7) gX11_two_X11_noWord rfl (by decide +kernel) ⟨rfl, rfl, Nat.le_of_ble_eq_true rfl, Nat.le_of_ble_eq_true rfl⟩ gm_T_ok (fun _ => trivial) [0, 2] rfl rfl rfl [0] rfl rfl rfl rfl hl.1 rfl (Nat.le_of_ble_eq_true rfl) dX11_two_28 ⟨Nat.zero_le _, Nat.zero_le _⟩ (fun H locs hH => ?_)
        have hH : gm_H (dC, dI) A s (wX11_two cI q q_refused q_tongue q_talk q_fresh q_kept q_isKept q_text q_said 0 m_size m_at m_start m_token m_value m_faultAt m_allowed m_firstPair m_secondPair m_above m_below m_refused m_tongue m_talk) H locs := hH
        refine lv_if_ne (tgt := 47) hx hb dX11_two_31 (by decide) (fun hc8 => ?_) (fun hc8 => ?_)
        · replace h := gm_neg hc8 h
          exact tX11_two_b47 C0  h hH (lv_sub hl [0] rfl)
        · replace h := gm_pos hc8 h
          refine lv_iload hx hb dX11_two_34 (lv_at hl 4 rfl) ?_
          refine lv_i2l hx hb dX11_two_36 rfl ?_
          refine lv_lconst (v := 0) hx hb dX11_two_37 (by decide) ?_
          refine lv_ldc2 (own := RX11) (v := 2) hx hb hown (gm_at C0 2 rfl) dX11_two_38 ?_
          obtain ⟨o9, ho9, h⟩ := gm_bind_e h
          refine gm_callS (As := [.long (Int32.toInt64 x4), .long 0, .long 2]) (rest := []) (n := 3) C0 hH (mX11_in l dC dI    ((Int32.toInt64 x4)) 0 2   ho9) gX11_two_X11_in rfl (by decide +kernel) ⟨rfl, rfl, Nat.le_of_ble_eq_true rfl, Nat.le_of_ble_eq_true rfl⟩ gm_T_ok (fun _ => trivial) [] rfl rfl rfl [] rfl rfl hl.1 rfl (Nat.le_of_ble_eq_true rfl) dX11_two_41 ⟨Nat.zero_le _, Nat.zero_le _⟩ (fun H locs hH => ?_)
          have hH : gm_H (dC, dI) A s (wX11_two cI q q_refused q_tongue q_talk q_fresh q_kept q_isKept q_text q_said 0 m_size m_at m_start m_token m_value m_faultAt m_allowed m_firstPair m_secondPair m_above m_below m_refused m_tongue m_talk) H locs := hH
          refine lv_if_ne (tgt := 52) hx hb dX11_two_44 (by decide) (fun hc10 => ?_) (fun hc10 => ?_)
          · replace h := gm_neg hc10 h
            refine lv_iconst (v := 1) hx hb dX11_two_52 (by decide) ?_
            refine lv_aload_n hx hb dX11_two_53 rfl (lv_at hl 0 rfl) ?_
            refine gm_get (ci := 11) C0 hH inX11_two_X11 0 2 3 rfl rfl (by decide) rfl rfl dX11_two_54 ?_
            refine lv_iconst (v := 0) hx hb dX11_two_57 (by decide) ?_
            obtain ⟨hi11, h⟩ := gm_chk_e h
            refine gm_iald C0 hH hi11 2 0 rfl rfl dX11_two_58 ?_
            refine lv_ishl hx hb dX11_two_59 ?_
            refine lv_iconst (v := 1) hx hb dX11_two_60 (by decide) ?_
            refine lv_isub hx hb dX11_two_61 ?_
            refine lv_topi (fun v12 ev12 => ?_)
            replace h := gm_let_e ev12 h
            refine lv_istore (lv' := [(5, .int v12), (0, .ref q), (1, .int x1), (2, .int x2), (3, .int x3), (4, .int x4)]) hx hb dX11_two_62 hl (by decide) rfl (fun ls hl => ?_)
            unfold fX11_two_b64 at h
            exact tX11_two_b64 C0  _ _ _ _ _ _ h hH (lv_sub hl [1, 2, 3, 4, 5, 0] rfl)
          · replace h := gm_pos hc10 h
            exact tX11_two_b47 C0  h hH (lv_sub hl [0] rfl)

/-! X11_will -/
abbrev wX11_will (cI : ClassId) (q q_refused q_tongue q_fresh q_kept q_isKept q_text q_said q_talk : Nat) (m_thrown : Int32) (m_size : Int32) (m_at : Int32) (m_start : Int32) (m_token : Int32) (m_value : Int64) (m_faultAt : Int32) (m_allowed : Int32) (m_firstPair : Int32) (m_secondPair : Int32) (m_above : Int64) (m_below : Int64) (m_refused : Nat → Int32) (m_tongue : Nat → Int32) : va_W := [(q, .inr (11, [.int m_thrown, .ref q_refused, .ref q_tongue, .ref q_fresh, .ref q_kept, .ref q_isKept, .ref q_text, .int m_size, .int m_at, .int m_start, .int m_token, .long m_value, .int m_faultAt, .ref q_said, .ref q_talk, .int m_allowed, .int m_firstPair, .int m_secondPair, .long m_above, .long m_below])), (q_refused, .inl (cI, 3, .inl m_refused)), (q_tongue, .inl (cI, 73, .inl m_tongue))]
abbrev rX11_will : Room := { frames := 4, cells := 0, slots := 0, locals := 89 }
def fX11_will_b29 (N : Nat)  (m_thrown : Int32) (m_refused : Nat → Int32) : Option (Int32 × Int32 × (Nat → Int32)) := gm_bind (fX11_bad N m_refused) (fun o3 => some (o3.1, m_thrown, o3.2))
def fX11_will_b179 (N : Nat) (r39 : Int32 → Int32 → Option (Int32 × Int32 × (Nat → Int32))) (m_thrown : Int32) (m_refused : Nat → Int32) (m_tongue : Nat → Int32) (x1 : Int32) (x2 : Int32) (x4 : Int32) (k0 : Int32) : Option (Int32 × Int32 × (Nat → Int32)) := (r39 k0 ((x4 + 1)))
def fX11_will_b168 (N : Nat) (r39 : Int32 → Int32 → Option (Int32 × Int32 × (Nat → Int32))) (m_thrown : Int32) (m_refused : Nat → Int32) (m_tongue : Nat → Int32) (x1 : Int32) (x2 : Int32) (x3 : Int32) (x4 : Int32) (x5 : Int32) : Option (Int32 × Int32 × (Nat → Int32)) := (if x5 = 0 then (fX11_will_b179 N r39 m_thrown m_refused m_tongue x1 x2 x4 x3) else (fX11_will_b179 N r39 m_thrown m_refused m_tongue x1 x2 x4 x4))
def fX11_will_b162 (N : Nat) (r39 : Int32 → Int32 → Option (Int32 × Int32 × (Nat → Int32))) (r74 : Int32 → Int32 → Option (Int32 × Int32 × (Nat → Int32))) (m_thrown : Int32) (m_refused : Nat → Int32) (m_tongue : Nat → Int32) (x1 : Int32) (x2 : Int32) (x3 : Int32) (x4 : Int32) (x5 : Int32) (x6 : Int32) : Option (Int32 × Int32 × (Nat → Int32)) := (r74 x5 ((x6 + 1)))
def fX11_will_b154 (N : Nat) (r39 : Int32 → Int32 → Option (Int32 × Int32 × (Nat → Int32))) (r74 : Int32 → Int32 → Option (Int32 × Int32 × (Nat → Int32))) (r93 : Int32 → Int32 → Option (Int32 × Int32 × (Nat → Int32))) (m_thrown : Int32) (m_refused : Nat → Int32) (m_tongue : Nat → Int32) (x1 : Int32) (x2 : Int32) (x3 : Int32) (x4 : Int32) (x6 : Int32) (x7 : Int32) (k0 : Int32) : Option (Int32 × Int32 × (Nat → Int32)) := (r93 k0 ((x7 + 1)))
def fX11_will_b149 (N : Nat) (r39 : Int32 → Int32 → Option (Int32 × Int32 × (Nat → Int32))) (r74 : Int32 → Int32 → Option (Int32 × Int32 × (Nat → Int32))) (r93 : Int32 → Int32 → Option (Int32 × Int32 × (Nat → Int32))) (m_thrown : Int32) (m_refused : Nat → Int32) (m_tongue : Nat → Int32) (x1 : Int32) (x2 : Int32) (x3 : Int32) (x4 : Int32) (x6 : Int32) (x7 : Int32) : Option (Int32 × Int32 × (Nat → Int32)) := (fX11_will_b154 N r39 r74 r93 m_thrown m_refused m_tongue x1 x2 x3 x4 x6 x7 1)
def fX11_will_b93_body (N : Nat) (r39 : Int32 → Int32 → Option (Int32 × Int32 × (Nat → Int32))) (r74 : Int32 → Int32 → Option (Int32 × Int32 × (Nat → Int32))) (m_thrown : Int32) (m_refused : Nat → Int32) (m_tongue : Nat → Int32) (x1 : Int32) (x2 : Int32) (x3 : Int32) (x4 : Int32) (x6 : Int32) (r93 : Int32 → Int32 → Option (Int32 × Int32 × (Nat → Int32))) (x5 : Int32) (x7 : Int32) : Option (Int32 × Int32 × (Nat → Int32)) := gm_chk 0 73 ((if (m_tongue (Int32.toNatClampNeg 0)) ≤ x7 then (fX11_will_b162 N r39 r74 m_thrown m_refused m_tongue x1 x2 x3 x4 x5 x6) else (if x5 = 0 then (fX11_will_b162 N r39 r74 m_thrown m_refused m_tongue x1 x2 x3 x4 x5 x6) else (if x6 = x7 then (fX11_will_b149 N r39 r74 r93 m_thrown m_refused m_tongue x1 x2 x3 x4 x6 x7) else gm_bind (fX11_has N x4 x6) (fun o19 => (if o19 = 0 then (fX11_will_b149 N r39 r74 r93 m_thrown m_refused m_tongue x1 x2 x3 x4 x6 x7) else gm_bind (fX11_has N x4 x7) (fun o21 => (if o21 = 0 then (fX11_will_b149 N r39 r74 r93 m_thrown m_refused m_tongue x1 x2 x3 x4 x6 x7) else gm_bind (fX11_chimes N m_tongue x1 x2 x6 x7) (fun o23 => (if o23 = 0 then (fX11_will_b149 N r39 r74 r93 m_thrown m_refused m_tongue x1 x2 x3 x4 x6 x7) else (fX11_will_b154 N r39 r74 r93 m_thrown m_refused m_tongue x1 x2 x3 x4 x6 x7 0)))))))))))
def fX11_will_b93 (N : Nat) (r39 : Int32 → Int32 → Option (Int32 × Int32 × (Nat → Int32))) (r74 : Int32 → Int32 → Option (Int32 × Int32 × (Nat → Int32))) (m_thrown : Int32) (m_refused : Nat → Int32) (m_tongue : Nat → Int32) (x1 : Int32) (x2 : Int32) (x3 : Int32) (x4 : Int32) (x6 : Int32) (x5 : Int32) (x7 : Int32) : Option (Int32 × Int32 × (Nat → Int32)) := gm_fix (fX11_will_b93_body N r39 r74 m_thrown m_refused m_tongue x1 x2 x3 x4 x6) (fun _ _ => none) N x5 x7
def fX11_will_b74_body (N : Nat) (r39 : Int32 → Int32 → Option (Int32 × Int32 × (Nat → Int32))) (m_thrown : Int32) (m_refused : Nat → Int32) (m_tongue : Nat → Int32) (x1 : Int32) (x2 : Int32) (x3 : Int32) (x4 : Int32) (r74 : Int32 → Int32 → Option (Int32 × Int32 × (Nat → Int32))) (x5 : Int32) (x6 : Int32) : Option (Int32 × Int32 × (Nat → Int32)) := gm_chk 0 73 ((if (m_tongue (Int32.toNatClampNeg 0)) ≤ x6 then (fX11_will_b168 N r39 m_thrown m_refused m_tongue x1 x2 x3 x4 x5) else (if x5 = 0 then (fX11_will_b168 N r39 m_thrown m_refused m_tongue x1 x2 x3 x4 x5) else (fX11_will_b93 N r39 r74 m_thrown m_refused m_tongue x1 x2 x3 x4 x6 x5 0))))
def fX11_will_b74 (N : Nat) (r39 : Int32 → Int32 → Option (Int32 × Int32 × (Nat → Int32))) (m_thrown : Int32) (m_refused : Nat → Int32) (m_tongue : Nat → Int32) (x1 : Int32) (x2 : Int32) (x3 : Int32) (x4 : Int32) (x5 : Int32) (x6 : Int32) : Option (Int32 × Int32 × (Nat → Int32)) := gm_fix (fX11_will_b74_body N r39 m_thrown m_refused m_tongue x1 x2 x3 x4) (fun _ _ => none) N x5 x6
def fX11_will_b69 (N : Nat) (r39 : Int32 → Int32 → Option (Int32 × Int32 × (Nat → Int32))) (m_thrown : Int32) (m_refused : Nat → Int32) (m_tongue : Nat → Int32) (x1 : Int32) (x2 : Int32) (x3 : Int32) (x4 : Int32) (k0 : Int32) : Option (Int32 × Int32 × (Nat → Int32)) := (fX11_will_b74 N r39 m_thrown m_refused m_tongue x1 x2 x3 x4 k0 0)
def fX11_will_b39_body (N : Nat)  (m_thrown : Int32) (m_refused : Nat → Int32) (m_tongue : Nat → Int32) (x1 : Int32) (x2 : Int32) (r39 : Int32 → Int32 → Option (Int32 × Int32 × (Nat → Int32))) (x3 : Int32) (x4 : Int32) : Option (Int32 × Int32 × (Nat → Int32)) := gm_chk 0 73 ((if ((1 : Int32) <<< ((m_tongue (Int32.toNatClampNeg 0)) &&& 31)) ≤ x4 then some (x3, m_thrown, m_refused) else gm_bind (fX11_bits N x4) (fun o8 => gm_bind (fX11_bits N x3) (fun o9 => (if o8 ≤ o9 then (fX11_will_b69 N r39 m_thrown m_refused m_tongue x1 x2 x3 x4 0) else (fX11_will_b69 N r39 m_thrown m_refused m_tongue x1 x2 x3 x4 1))))))
def fX11_will_b39 (N : Nat)  (m_thrown : Int32) (m_refused : Nat → Int32) (m_tongue : Nat → Int32) (x1 : Int32) (x2 : Int32) (x3 : Int32) (x4 : Int32) : Option (Int32 × Int32 × (Nat → Int32)) := gm_fix (fX11_will_b39_body N  m_thrown m_refused m_tongue x1 x2) (fun _ _ => none) N x3 x4
def fX11_will (N : Nat) (m_thrown : Int32) (m_refused : Nat → Int32) (m_tongue : Nat → Int32) (x1 : Int32) (x2 : Int32) : Option (Int32 × Int32 × (Nat → Int32)) := gm_bind (fX11_in N ((Int32.toInt64 x1)) 0 5) (fun o1 => (if o1 = 0 then (fX11_will_b29 N  0 m_refused) else gm_bind (fX11_in N ((Int32.toInt64 x2)) 0 7) (fun o4 => (if o4 = 0 then (fX11_will_b29 N  0 m_refused) else (fX11_will_b39 N  0 m_refused m_tongue x1 x2 0 0)))))
set_option maxRecDepth 20000 in
theorem inX11_will_X11 : ∀ w ∈ u_ws RX11 TX11 20, w ∈ wsX11_will := fun w h => by
  obtain ⟨k, hk, rfl⟩ := List.mem_map.mp h
  have hk2 := List.mem_range.mp hk
  exact List.mem_of_getElem? (i := 48 + k) (by rcases (show k = 0 ∨ k = 1 ∨ k = 2 ∨ k = 3 ∨ k = 4 ∨ k = 5 ∨ k = 6 ∨ k = 7 ∨ k = 8 ∨ k = 9 ∨ k = 10 ∨ k = 11 ∨ k = 12 ∨ k = 13 ∨ k = 14 ∨ k = 15 ∨ k = 16 ∨ k = 17 ∨ k = 18 ∨ k = 19 by omega) with rfl | rfl | rfl | rfl | rfl | rfl | rfl | rfl | rfl | rfl | rfl | rfl | rfl | rfl | rfl | rfl | rfl | rfl | rfl | rfl <;> rfl)
set_option maxRecDepth 100000 in
set_option maxHeartbeats 4000000 in
theorem tX11_will_b29 {p : Program} {l : Launch} {e : Env} {s : State} {m : MethodId} {args : Array Value} {below : List Frame} {meth : Method} {c : Code} {A : Nat → Prop} {dC : Nat → ClassId} {dI : Nat → Nat → Nat} {cI : ClassId} {q q_refused q_tongue q_fresh q_kept q_isKept q_text q_said q_talk : Nat} {m_thrown : Int32} {m_size : Int32} {m_at : Int32} {m_start : Int32} {m_token : Int32} {m_value : Int64} {m_faultAt : Int32} {m_allowed : Int32} {m_firstPair : Int32} {m_secondPair : Int32} {m_above : Int64} {m_below : Int64} {m_refused : Nat → Int32} {m_tongue : Nat → Int32} (C0 : gm_C p s m args meth c (dC, dI) [(cI, .int)] A gm_T RX11 cX11_will 8 (some .int) wsX11_will) {N : Nat} {out : Int32 × Int32 × (Nat → Int32)}    {H : Heap} {locs : List Loc} {ls : Array Slot} (h : fX11_will_b29 N  m_thrown m_refused = some out) (hH : gm_H (dC, dI) A s (wX11_will cI q q_refused q_tongue q_fresh q_kept q_isKept q_text q_said q_talk m_thrown m_size m_at m_start m_token m_value m_faultAt m_allowed m_firstPair m_secondPair m_above m_below m_refused m_tongue) H locs) (hl : lv_has ls 8 [(0, .ref q)]) : W p l e rX11_will s m args below meth c H locs 0 0 (MQ below (gm_Q (dC, dI) [(cI, .int)] A (some (.int out.1)) (wX11_will cI q q_refused q_tongue q_fresh q_kept q_isKept q_text q_said q_talk out.2.1 m_size m_at m_start m_token m_value m_faultAt m_allowed m_firstPair m_secondPair m_above m_below out.2.2 m_tongue)) args s 0 0 A) (F0 m 29 ls []) := by
  obtain ⟨hx, hb, hml, hr, hown, hts, hA, hK, hX, hlocks⟩ := id C0
  unfold fX11_will_b29 at h
  refine lv_aload_n hx hb dX11_will_29 rfl (lv_at hl 0 rfl) ?_
  obtain ⟨o3, ho3, h⟩ := gm_bind_e h
  refine gm_callV (As := []) (rest := []) (n := 0) (ci := 11) (q0 := 0) C0 hH (mX11_bad l dC dI cI q q_refused q_tongue q_fresh q_kept q_isKept q_text q_said q_talk m_thrown m_size m_at m_start m_token m_value m_faultAt m_allowed m_firstPair m_secondPair m_above m_below m_refused    ho3) gX11_will_X11_bad rfl (by decide +kernel) ⟨rfl, rfl, Nat.le_of_ble_eq_true rfl, Nat.le_of_ble_eq_true rfl⟩ gm_T_ok (fun _ => trivial) [0, 1] rfl rfl rfl [0] rfl rfl rfl rfl hl.1 rfl (Nat.le_of_ble_eq_true rfl) dX11_will_30 ⟨Nat.zero_le _, Nat.zero_le _⟩ (fun H locs hH => ?_)
  have hH : gm_H (dC, dI) A s (wX11_will cI q q_refused q_tongue q_fresh q_kept q_isKept q_text q_said q_talk m_thrown m_size m_at m_start m_token m_value m_faultAt m_allowed m_firstPair m_secondPair m_above m_below o3.2 m_tongue) H locs := hH
  obtain rfl := Option.some.inj h
  exact gm_iret C0 hH dX11_will_33
set_option maxRecDepth 100000 in
set_option maxHeartbeats 4000000 in
theorem tX11_will_b179 {p : Program} {l : Launch} {e : Env} {s : State} {m : MethodId} {args : Array Value} {below : List Frame} {meth : Method} {c : Code} {A : Nat → Prop} {dC : Nat → ClassId} {dI : Nat → Nat → Nat} {cI : ClassId} {q q_refused q_tongue q_fresh q_kept q_isKept q_text q_said q_talk : Nat} {m_thrown : Int32} {m_size : Int32} {m_at : Int32} {m_start : Int32} {m_token : Int32} {m_value : Int64} {m_faultAt : Int32} {m_allowed : Int32} {m_firstPair : Int32} {m_secondPair : Int32} {m_above : Int64} {m_below : Int64} {m_refused : Nat → Int32} {m_tongue : Nat → Int32} {x1 : Int32} {x2 : Int32} {x4 : Int32} {k0 : Int32} (C0 : gm_C p s m args meth c (dC, dI) [(cI, .int)] A gm_T RX11 cX11_will 8 (some .int) wsX11_will) {N : Nat} {out : Int32 × Int32 × (Nat → Int32)} {r39 : Int32 → Int32 → Option (Int32 × Int32 × (Nat → Int32))} (hr39 : ∀ (x3 : Int32) (x4 : Int32) (H : Heap) (locs : List Loc) (ls : Array Slot), r39 x3 x4 = some out → gm_H (dC, dI) A s (wX11_will cI q q_refused q_tongue q_fresh q_kept q_isKept q_text q_said q_talk m_thrown m_size m_at m_start m_token m_value m_faultAt m_allowed m_firstPair m_secondPair m_above m_below m_refused m_tongue) H locs → lv_has ls 8 [(0, .ref q), (1, .int x1), (2, .int x2), (3, .int x3), (4, .int x4)] → W p l e rX11_will s m args below meth c H locs 0 0 (MQ below (gm_Q (dC, dI) [(cI, .int)] A (some (.int out.1)) (wX11_will cI q q_refused q_tongue q_fresh q_kept q_isKept q_text q_said q_talk out.2.1 m_size m_at m_start m_token m_value m_faultAt m_allowed m_firstPair m_secondPair m_above m_below out.2.2 m_tongue)) args s 0 0 A) (F0 m 39 ls []))   {H : Heap} {locs : List Loc} {ls : Array Slot} (h : fX11_will_b179 N r39 m_thrown m_refused m_tongue x1 x2 x4 k0 = some out) (hH : gm_H (dC, dI) A s (wX11_will cI q q_refused q_tongue q_fresh q_kept q_isKept q_text q_said q_talk m_thrown m_size m_at m_start m_token m_value m_faultAt m_allowed m_firstPair m_secondPair m_above m_below m_refused m_tongue) H locs) (hl : lv_has ls 8 [(0, .ref q), (1, .int x1), (2, .int x2), (4, .int x4)]) : W p l e rX11_will s m args below meth c H locs 0 0 (MQ below (gm_Q (dC, dI) [(cI, .int)] A (some (.int out.1)) (wX11_will cI q q_refused q_tongue q_fresh q_kept q_isKept q_text q_said q_talk out.2.1 m_size m_at m_start m_token m_value m_faultAt m_allowed m_firstPair m_secondPair m_above m_below out.2.2 m_tongue)) args s 0 0 A) (F0 m 179 ls [.int k0]) := by
  obtain ⟨hx, hb, hml, hr, hown, hts, hA, hK, hX, hlocks⟩ := id C0
  unfold fX11_will_b179 at h
  refine lv_istore_n (lv' := [(3, .int k0), (0, .ref q), (1, .int x1), (2, .int x2), (4, .int x4)]) hx hb dX11_will_179 rfl hl (by decide) rfl (fun ls hl => ?_)
  refine lv_iinc (v := (x4 + 1)) (lv' := [(4, .int (x4 + 1)), (3, .int k0), (0, .ref q), (1, .int x1), (2, .int x2)]) hx hb dX11_will_180 hl (k := 4) rfl rfl (by decide) rfl (fun ls hl => ?_)
  refine lv_goto (tgt := 39) hx hb dX11_will_183 (by decide) ?_
  exact hr39 _ _ _ _ _ h hH (lv_sub hl [2, 3, 4, 1, 0] rfl)
set_option maxRecDepth 100000 in
set_option maxHeartbeats 4000000 in
theorem tX11_will_b168 {p : Program} {l : Launch} {e : Env} {s : State} {m : MethodId} {args : Array Value} {below : List Frame} {meth : Method} {c : Code} {A : Nat → Prop} {dC : Nat → ClassId} {dI : Nat → Nat → Nat} {cI : ClassId} {q q_refused q_tongue q_fresh q_kept q_isKept q_text q_said q_talk : Nat} {m_thrown : Int32} {m_size : Int32} {m_at : Int32} {m_start : Int32} {m_token : Int32} {m_value : Int64} {m_faultAt : Int32} {m_allowed : Int32} {m_firstPair : Int32} {m_secondPair : Int32} {m_above : Int64} {m_below : Int64} {m_refused : Nat → Int32} {m_tongue : Nat → Int32} {x1 : Int32} {x2 : Int32} {x3 : Int32} {x4 : Int32} {x5 : Int32} (C0 : gm_C p s m args meth c (dC, dI) [(cI, .int)] A gm_T RX11 cX11_will 8 (some .int) wsX11_will) {N : Nat} {out : Int32 × Int32 × (Nat → Int32)} {r39 : Int32 → Int32 → Option (Int32 × Int32 × (Nat → Int32))} (hr39 : ∀ (x3 : Int32) (x4 : Int32) (H : Heap) (locs : List Loc) (ls : Array Slot), r39 x3 x4 = some out → gm_H (dC, dI) A s (wX11_will cI q q_refused q_tongue q_fresh q_kept q_isKept q_text q_said q_talk m_thrown m_size m_at m_start m_token m_value m_faultAt m_allowed m_firstPair m_secondPair m_above m_below m_refused m_tongue) H locs → lv_has ls 8 [(0, .ref q), (1, .int x1), (2, .int x2), (3, .int x3), (4, .int x4)] → W p l e rX11_will s m args below meth c H locs 0 0 (MQ below (gm_Q (dC, dI) [(cI, .int)] A (some (.int out.1)) (wX11_will cI q q_refused q_tongue q_fresh q_kept q_isKept q_text q_said q_talk out.2.1 m_size m_at m_start m_token m_value m_faultAt m_allowed m_firstPair m_secondPair m_above m_below out.2.2 m_tongue)) args s 0 0 A) (F0 m 39 ls []))   {H : Heap} {locs : List Loc} {ls : Array Slot} (h : fX11_will_b168 N r39 m_thrown m_refused m_tongue x1 x2 x3 x4 x5 = some out) (hH : gm_H (dC, dI) A s (wX11_will cI q q_refused q_tongue q_fresh q_kept q_isKept q_text q_said q_talk m_thrown m_size m_at m_start m_token m_value m_faultAt m_allowed m_firstPair m_secondPair m_above m_below m_refused m_tongue) H locs) (hl : lv_has ls 8 [(0, .ref q), (1, .int x1), (2, .int x2), (3, .int x3), (4, .int x4), (5, .int x5)]) : W p l e rX11_will s m args below meth c H locs 0 0 (MQ below (gm_Q (dC, dI) [(cI, .int)] A (some (.int out.1)) (wX11_will cI q q_refused q_tongue q_fresh q_kept q_isKept q_text q_said q_talk out.2.1 m_size m_at m_start m_token m_value m_faultAt m_allowed m_firstPair m_secondPair m_above m_below out.2.2 m_tongue)) args s 0 0 A) (F0 m 168 ls []) := by
  obtain ⟨hx, hb, hml, hr, hown, hts, hA, hK, hX, hlocks⟩ := id C0
  unfold fX11_will_b168 at h
  refine lv_iload hx hb dX11_will_168 (lv_at hl 5 rfl) ?_
  refine lv_if_eq (tgt := 178) hx hb dX11_will_170 (by decide) (fun hc13 => ?_) (fun hc13 => ?_)
  · replace h := gm_pos hc13 h
    refine lv_iload_n hx hb dX11_will_178 rfl (lv_at hl 3 rfl) ?_
    exact tX11_will_b179 C0 hr39 h hH (lv_sub hl [0, 1, 2, 4] rfl)
  · replace h := gm_neg hc13 h
    refine lv_iload hx hb dX11_will_173 (lv_at hl 4 rfl) ?_
    refine lv_goto (tgt := 179) hx hb dX11_will_175 (by decide) ?_
    exact tX11_will_b179 C0 hr39 h hH (lv_sub hl [0, 1, 2, 4] rfl)
set_option maxRecDepth 100000 in
set_option maxHeartbeats 4000000 in
theorem tX11_will_b162 {p : Program} {l : Launch} {e : Env} {s : State} {m : MethodId} {args : Array Value} {below : List Frame} {meth : Method} {c : Code} {A : Nat → Prop} {dC : Nat → ClassId} {dI : Nat → Nat → Nat} {cI : ClassId} {q q_refused q_tongue q_fresh q_kept q_isKept q_text q_said q_talk : Nat} {m_thrown : Int32} {m_size : Int32} {m_at : Int32} {m_start : Int32} {m_token : Int32} {m_value : Int64} {m_faultAt : Int32} {m_allowed : Int32} {m_firstPair : Int32} {m_secondPair : Int32} {m_above : Int64} {m_below : Int64} {m_refused : Nat → Int32} {m_tongue : Nat → Int32} {x1 : Int32} {x2 : Int32} {x3 : Int32} {x4 : Int32} {x5 : Int32} {x6 : Int32} (C0 : gm_C p s m args meth c (dC, dI) [(cI, .int)] A gm_T RX11 cX11_will 8 (some .int) wsX11_will) {N : Nat} {out : Int32 × Int32 × (Nat → Int32)} {r39 : Int32 → Int32 → Option (Int32 × Int32 × (Nat → Int32))} (hr39 : ∀ (x3 : Int32) (x4 : Int32) (H : Heap) (locs : List Loc) (ls : Array Slot), r39 x3 x4 = some out → gm_H (dC, dI) A s (wX11_will cI q q_refused q_tongue q_fresh q_kept q_isKept q_text q_said q_talk m_thrown m_size m_at m_start m_token m_value m_faultAt m_allowed m_firstPair m_secondPair m_above m_below m_refused m_tongue) H locs → lv_has ls 8 [(0, .ref q), (1, .int x1), (2, .int x2), (3, .int x3), (4, .int x4)] → W p l e rX11_will s m args below meth c H locs 0 0 (MQ below (gm_Q (dC, dI) [(cI, .int)] A (some (.int out.1)) (wX11_will cI q q_refused q_tongue q_fresh q_kept q_isKept q_text q_said q_talk out.2.1 m_size m_at m_start m_token m_value m_faultAt m_allowed m_firstPair m_secondPair m_above m_below out.2.2 m_tongue)) args s 0 0 A) (F0 m 39 ls [])) {r74 : Int32 → Int32 → Option (Int32 × Int32 × (Nat → Int32))} (hr74 : ∀ (x5 : Int32) (x6 : Int32) (H : Heap) (locs : List Loc) (ls : Array Slot), r74 x5 x6 = some out → gm_H (dC, dI) A s (wX11_will cI q q_refused q_tongue q_fresh q_kept q_isKept q_text q_said q_talk m_thrown m_size m_at m_start m_token m_value m_faultAt m_allowed m_firstPair m_secondPair m_above m_below m_refused m_tongue) H locs → lv_has ls 8 [(0, .ref q), (1, .int x1), (2, .int x2), (3, .int x3), (4, .int x4), (5, .int x5), (6, .int x6)] → W p l e rX11_will s m args below meth c H locs 0 0 (MQ below (gm_Q (dC, dI) [(cI, .int)] A (some (.int out.1)) (wX11_will cI q q_refused q_tongue q_fresh q_kept q_isKept q_text q_said q_talk out.2.1 m_size m_at m_start m_token m_value m_faultAt m_allowed m_firstPair m_secondPair m_above m_below out.2.2 m_tongue)) args s 0 0 A) (F0 m 74 ls []))   {H : Heap} {locs : List Loc} {ls : Array Slot} (h : fX11_will_b162 N r39 r74 m_thrown m_refused m_tongue x1 x2 x3 x4 x5 x6 = some out) (hH : gm_H (dC, dI) A s (wX11_will cI q q_refused q_tongue q_fresh q_kept q_isKept q_text q_said q_talk m_thrown m_size m_at m_start m_token m_value m_faultAt m_allowed m_firstPair m_secondPair m_above m_below m_refused m_tongue) H locs) (hl : lv_has ls 8 [(0, .ref q), (1, .int x1), (2, .int x2), (3, .int x3), (4, .int x4), (5, .int x5), (6, .int x6)]) : W p l e rX11_will s m args below meth c H locs 0 0 (MQ below (gm_Q (dC, dI) [(cI, .int)] A (some (.int out.1)) (wX11_will cI q q_refused q_tongue q_fresh q_kept q_isKept q_text q_said q_talk out.2.1 m_size m_at m_start m_token m_value m_faultAt m_allowed m_firstPair m_secondPair m_above m_below out.2.2 m_tongue)) args s 0 0 A) (F0 m 162 ls []) := by
  obtain ⟨hx, hb, hml, hr, hown, hts, hA, hK, hX, hlocks⟩ := id C0
  unfold fX11_will_b162 at h
  refine lv_iinc (v := (x6 + 1)) (lv' := [(6, .int (x6 + 1)), (0, .ref q), (1, .int x1), (2, .int x2), (3, .int x3), (4, .int x4), (5, .int x5)]) hx hb dX11_will_162 hl (k := 6) rfl rfl (by decide) rfl (fun ls hl => ?_)
  refine lv_goto (tgt := 74) hx hb dX11_will_165 (by decide) ?_
  exact hr74 _ _ _ _ _ h hH (lv_sub hl [1, 2, 3, 4, 5, 6, 0] rfl)
set_option maxRecDepth 100000 in
set_option maxHeartbeats 4000000 in
theorem tX11_will_b154 {p : Program} {l : Launch} {e : Env} {s : State} {m : MethodId} {args : Array Value} {below : List Frame} {meth : Method} {c : Code} {A : Nat → Prop} {dC : Nat → ClassId} {dI : Nat → Nat → Nat} {cI : ClassId} {q q_refused q_tongue q_fresh q_kept q_isKept q_text q_said q_talk : Nat} {m_thrown : Int32} {m_size : Int32} {m_at : Int32} {m_start : Int32} {m_token : Int32} {m_value : Int64} {m_faultAt : Int32} {m_allowed : Int32} {m_firstPair : Int32} {m_secondPair : Int32} {m_above : Int64} {m_below : Int64} {m_refused : Nat → Int32} {m_tongue : Nat → Int32} {x1 : Int32} {x2 : Int32} {x3 : Int32} {x4 : Int32} {x6 : Int32} {x7 : Int32} {k0 : Int32} (C0 : gm_C p s m args meth c (dC, dI) [(cI, .int)] A gm_T RX11 cX11_will 8 (some .int) wsX11_will) {N : Nat} {out : Int32 × Int32 × (Nat → Int32)} {r39 : Int32 → Int32 → Option (Int32 × Int32 × (Nat → Int32))} (hr39 : ∀ (x3 : Int32) (x4 : Int32) (H : Heap) (locs : List Loc) (ls : Array Slot), r39 x3 x4 = some out → gm_H (dC, dI) A s (wX11_will cI q q_refused q_tongue q_fresh q_kept q_isKept q_text q_said q_talk m_thrown m_size m_at m_start m_token m_value m_faultAt m_allowed m_firstPair m_secondPair m_above m_below m_refused m_tongue) H locs → lv_has ls 8 [(0, .ref q), (1, .int x1), (2, .int x2), (3, .int x3), (4, .int x4)] → W p l e rX11_will s m args below meth c H locs 0 0 (MQ below (gm_Q (dC, dI) [(cI, .int)] A (some (.int out.1)) (wX11_will cI q q_refused q_tongue q_fresh q_kept q_isKept q_text q_said q_talk out.2.1 m_size m_at m_start m_token m_value m_faultAt m_allowed m_firstPair m_secondPair m_above m_below out.2.2 m_tongue)) args s 0 0 A) (F0 m 39 ls [])) {r74 : Int32 → Int32 → Option (Int32 × Int32 × (Nat → Int32))} (hr74 : ∀ (x5 : Int32) (x6 : Int32) (H : Heap) (locs : List Loc) (ls : Array Slot), r74 x5 x6 = some out → gm_H (dC, dI) A s (wX11_will cI q q_refused q_tongue q_fresh q_kept q_isKept q_text q_said q_talk m_thrown m_size m_at m_start m_token m_value m_faultAt m_allowed m_firstPair m_secondPair m_above m_below m_refused m_tongue) H locs → lv_has ls 8 [(0, .ref q), (1, .int x1), (2, .int x2), (3, .int x3), (4, .int x4), (5, .int x5), (6, .int x6)] → W p l e rX11_will s m args below meth c H locs 0 0 (MQ below (gm_Q (dC, dI) [(cI, .int)] A (some (.int out.1)) (wX11_will cI q q_refused q_tongue q_fresh q_kept q_isKept q_text q_said q_talk out.2.1 m_size m_at m_start m_token m_value m_faultAt m_allowed m_firstPair m_secondPair m_above m_below out.2.2 m_tongue)) args s 0 0 A) (F0 m 74 ls [])) {r93 : Int32 → Int32 → Option (Int32 × Int32 × (Nat → Int32))} (hr93 : ∀ (x5 : Int32) (x7 : Int32) (H : Heap) (locs : List Loc) (ls : Array Slot), r93 x5 x7 = some out → gm_H (dC, dI) A s (wX11_will cI q q_refused q_tongue q_fresh q_kept q_isKept q_text q_said q_talk m_thrown m_size m_at m_start m_token m_value m_faultAt m_allowed m_firstPair m_secondPair m_above m_below m_refused m_tongue) H locs → lv_has ls 8 [(0, .ref q), (1, .int x1), (2, .int x2), (3, .int x3), (4, .int x4), (5, .int x5), (6, .int x6), (7, .int x7)] → W p l e rX11_will s m args below meth c H locs 0 0 (MQ below (gm_Q (dC, dI) [(cI, .int)] A (some (.int out.1)) (wX11_will cI q q_refused q_tongue q_fresh q_kept q_isKept q_text q_said q_talk out.2.1 m_size m_at m_start m_token m_value m_faultAt m_allowed m_firstPair m_secondPair m_above m_below out.2.2 m_tongue)) args s 0 0 A) (F0 m 93 ls []))   {H : Heap} {locs : List Loc} {ls : Array Slot} (h : fX11_will_b154 N r39 r74 r93 m_thrown m_refused m_tongue x1 x2 x3 x4 x6 x7 k0 = some out) (hH : gm_H (dC, dI) A s (wX11_will cI q q_refused q_tongue q_fresh q_kept q_isKept q_text q_said q_talk m_thrown m_size m_at m_start m_token m_value m_faultAt m_allowed m_firstPair m_secondPair m_above m_below m_refused m_tongue) H locs) (hl : lv_has ls 8 [(0, .ref q), (1, .int x1), (2, .int x2), (3, .int x3), (4, .int x4), (6, .int x6), (7, .int x7)]) : W p l e rX11_will s m args below meth c H locs 0 0 (MQ below (gm_Q (dC, dI) [(cI, .int)] A (some (.int out.1)) (wX11_will cI q q_refused q_tongue q_fresh q_kept q_isKept q_text q_said q_talk out.2.1 m_size m_at m_start m_token m_value m_faultAt m_allowed m_firstPair m_secondPair m_above m_below out.2.2 m_tongue)) args s 0 0 A) (F0 m 154 ls [.int k0]) := by
  obtain ⟨hx, hb, hml, hr, hown, hts, hA, hK, hX, hlocks⟩ := id C0
  unfold fX11_will_b154 at h
  refine lv_istore (lv' := [(5, .int k0), (0, .ref q), (1, .int x1), (2, .int x2), (3, .int x3), (4, .int x4), (6, .int x6), (7, .int x7)]) hx hb dX11_will_154 hl (by decide) rfl (fun ls hl => ?_)
  refine lv_iinc (v := (x7 + 1)) (lv' := [(7, .int (x7 + 1)), (5, .int k0), (0, .ref q), (1, .int x1), (2, .int x2), (3, .int x3), (4, .int x4), (6, .int x6)]) hx hb dX11_will_156 hl (k := 7) rfl rfl (by decide) rfl (fun ls hl => ?_)
  refine lv_goto (tgt := 93) hx hb dX11_will_159 (by decide) ?_
  exact hr93 _ _ _ _ _ h hH (lv_sub hl [2, 3, 4, 5, 6, 1, 7, 0] rfl)
set_option maxRecDepth 100000 in
set_option maxHeartbeats 4000000 in
theorem tX11_will_b149 {p : Program} {l : Launch} {e : Env} {s : State} {m : MethodId} {args : Array Value} {below : List Frame} {meth : Method} {c : Code} {A : Nat → Prop} {dC : Nat → ClassId} {dI : Nat → Nat → Nat} {cI : ClassId} {q q_refused q_tongue q_fresh q_kept q_isKept q_text q_said q_talk : Nat} {m_thrown : Int32} {m_size : Int32} {m_at : Int32} {m_start : Int32} {m_token : Int32} {m_value : Int64} {m_faultAt : Int32} {m_allowed : Int32} {m_firstPair : Int32} {m_secondPair : Int32} {m_above : Int64} {m_below : Int64} {m_refused : Nat → Int32} {m_tongue : Nat → Int32} {x1 : Int32} {x2 : Int32} {x3 : Int32} {x4 : Int32} {x6 : Int32} {x7 : Int32} (C0 : gm_C p s m args meth c (dC, dI) [(cI, .int)] A gm_T RX11 cX11_will 8 (some .int) wsX11_will) {N : Nat} {out : Int32 × Int32 × (Nat → Int32)} {r39 : Int32 → Int32 → Option (Int32 × Int32 × (Nat → Int32))} (hr39 : ∀ (x3 : Int32) (x4 : Int32) (H : Heap) (locs : List Loc) (ls : Array Slot), r39 x3 x4 = some out → gm_H (dC, dI) A s (wX11_will cI q q_refused q_tongue q_fresh q_kept q_isKept q_text q_said q_talk m_thrown m_size m_at m_start m_token m_value m_faultAt m_allowed m_firstPair m_secondPair m_above m_below m_refused m_tongue) H locs → lv_has ls 8 [(0, .ref q), (1, .int x1), (2, .int x2), (3, .int x3), (4, .int x4)] → W p l e rX11_will s m args below meth c H locs 0 0 (MQ below (gm_Q (dC, dI) [(cI, .int)] A (some (.int out.1)) (wX11_will cI q q_refused q_tongue q_fresh q_kept q_isKept q_text q_said q_talk out.2.1 m_size m_at m_start m_token m_value m_faultAt m_allowed m_firstPair m_secondPair m_above m_below out.2.2 m_tongue)) args s 0 0 A) (F0 m 39 ls [])) {r74 : Int32 → Int32 → Option (Int32 × Int32 × (Nat → Int32))} (hr74 : ∀ (x5 : Int32) (x6 : Int32) (H : Heap) (locs : List Loc) (ls : Array Slot), r74 x5 x6 = some out → gm_H (dC, dI) A s (wX11_will cI q q_refused q_tongue q_fresh q_kept q_isKept q_text q_said q_talk m_thrown m_size m_at m_start m_token m_value m_faultAt m_allowed m_firstPair m_secondPair m_above m_below m_refused m_tongue) H locs → lv_has ls 8 [(0, .ref q), (1, .int x1), (2, .int x2), (3, .int x3), (4, .int x4), (5, .int x5), (6, .int x6)] → W p l e rX11_will s m args below meth c H locs 0 0 (MQ below (gm_Q (dC, dI) [(cI, .int)] A (some (.int out.1)) (wX11_will cI q q_refused q_tongue q_fresh q_kept q_isKept q_text q_said q_talk out.2.1 m_size m_at m_start m_token m_value m_faultAt m_allowed m_firstPair m_secondPair m_above m_below out.2.2 m_tongue)) args s 0 0 A) (F0 m 74 ls [])) {r93 : Int32 → Int32 → Option (Int32 × Int32 × (Nat → Int32))} (hr93 : ∀ (x5 : Int32) (x7 : Int32) (H : Heap) (locs : List Loc) (ls : Array Slot), r93 x5 x7 = some out → gm_H (dC, dI) A s (wX11_will cI q q_refused q_tongue q_fresh q_kept q_isKept q_text q_said q_talk m_thrown m_size m_at m_start m_token m_value m_faultAt m_allowed m_firstPair m_secondPair m_above m_below m_refused m_tongue) H locs → lv_has ls 8 [(0, .ref q), (1, .int x1), (2, .int x2), (3, .int x3), (4, .int x4), (5, .int x5), (6, .int x6), (7, .int x7)] → W p l e rX11_will s m args below meth c H locs 0 0 (MQ below (gm_Q (dC, dI) [(cI, .int)] A (some (.int out.1)) (wX11_will cI q q_refused q_tongue q_fresh q_kept q_isKept q_text q_said q_talk out.2.1 m_size m_at m_start m_token m_value m_faultAt m_allowed m_firstPair m_secondPair m_above m_below out.2.2 m_tongue)) args s 0 0 A) (F0 m 93 ls []))   {H : Heap} {locs : List Loc} {ls : Array Slot} (h : fX11_will_b149 N r39 r74 r93 m_thrown m_refused m_tongue x1 x2 x3 x4 x6 x7 = some out) (hH : gm_H (dC, dI) A s (wX11_will cI q q_refused q_tongue q_fresh q_kept q_isKept q_text q_said q_talk m_thrown m_size m_at m_start m_token m_value m_faultAt m_allowed m_firstPair m_secondPair m_above m_below m_refused m_tongue) H locs) (hl : lv_has ls 8 [(0, .ref q), (1, .int x1), (2, .int x2), (3, .int x3), (4, .int x4), (6, .int x6), (7, .int x7)]) : W p l e rX11_will s m args below meth c H locs 0 0 (MQ below (gm_Q (dC, dI) [(cI, .int)] A (some (.int out.1)) (wX11_will cI q q_refused q_tongue q_fresh q_kept q_isKept q_text q_said q_talk out.2.1 m_size m_at m_start m_token m_value m_faultAt m_allowed m_firstPair m_secondPair m_above m_below out.2.2 m_tongue)) args s 0 0 A) (F0 m 149 ls []) := by
  obtain ⟨hx, hb, hml, hr, hown, hts, hA, hK, hX, hlocks⟩ := id C0
  unfold fX11_will_b149 at h
  refine lv_iconst (v := 1) hx hb dX11_will_149 (by decide) ?_
  refine lv_goto (tgt := 154) hx hb dX11_will_150 (by decide) ?_
  exact tX11_will_b154 C0 hr39 hr74 hr93 h hH (lv_sub hl [0, 1, 2, 3, 4, 5, 6] rfl)
set_option maxRecDepth 100000 in
set_option maxHeartbeats 4000000 in
theorem tX11_will_b93 {p : Program} {l : Launch} {e : Env} {s : State} {m : MethodId} {args : Array Value} {below : List Frame} {meth : Method} {c : Code} {A : Nat → Prop} {dC : Nat → ClassId} {dI : Nat → Nat → Nat} {cI : ClassId} {q q_refused q_tongue q_fresh q_kept q_isKept q_text q_said q_talk : Nat} {m_thrown : Int32} {m_size : Int32} {m_at : Int32} {m_start : Int32} {m_token : Int32} {m_value : Int64} {m_faultAt : Int32} {m_allowed : Int32} {m_firstPair : Int32} {m_secondPair : Int32} {m_above : Int64} {m_below : Int64} {m_refused : Nat → Int32} {m_tongue : Nat → Int32} {x1 : Int32} {x2 : Int32} {x3 : Int32} {x4 : Int32} {x6 : Int32} (C0 : gm_C p s m args meth c (dC, dI) [(cI, .int)] A gm_T RX11 cX11_will 8 (some .int) wsX11_will) {N : Nat} {out : Int32 × Int32 × (Nat → Int32)} {r39 : Int32 → Int32 → Option (Int32 × Int32 × (Nat → Int32))} (hr39 : ∀ (x3 : Int32) (x4 : Int32) (H : Heap) (locs : List Loc) (ls : Array Slot), r39 x3 x4 = some out → gm_H (dC, dI) A s (wX11_will cI q q_refused q_tongue q_fresh q_kept q_isKept q_text q_said q_talk m_thrown m_size m_at m_start m_token m_value m_faultAt m_allowed m_firstPair m_secondPair m_above m_below m_refused m_tongue) H locs → lv_has ls 8 [(0, .ref q), (1, .int x1), (2, .int x2), (3, .int x3), (4, .int x4)] → W p l e rX11_will s m args below meth c H locs 0 0 (MQ below (gm_Q (dC, dI) [(cI, .int)] A (some (.int out.1)) (wX11_will cI q q_refused q_tongue q_fresh q_kept q_isKept q_text q_said q_talk out.2.1 m_size m_at m_start m_token m_value m_faultAt m_allowed m_firstPair m_secondPair m_above m_below out.2.2 m_tongue)) args s 0 0 A) (F0 m 39 ls [])) {r74 : Int32 → Int32 → Option (Int32 × Int32 × (Nat → Int32))} (hr74 : ∀ (x5 : Int32) (x6 : Int32) (H : Heap) (locs : List Loc) (ls : Array Slot), r74 x5 x6 = some out → gm_H (dC, dI) A s (wX11_will cI q q_refused q_tongue q_fresh q_kept q_isKept q_text q_said q_talk m_thrown m_size m_at m_start m_token m_value m_faultAt m_allowed m_firstPair m_secondPair m_above m_below m_refused m_tongue) H locs → lv_has ls 8 [(0, .ref q), (1, .int x1), (2, .int x2), (3, .int x3), (4, .int x4), (5, .int x5), (6, .int x6)] → W p l e rX11_will s m args below meth c H locs 0 0 (MQ below (gm_Q (dC, dI) [(cI, .int)] A (some (.int out.1)) (wX11_will cI q q_refused q_tongue q_fresh q_kept q_isKept q_text q_said q_talk out.2.1 m_size m_at m_start m_token m_value m_faultAt m_allowed m_firstPair m_secondPair m_above m_below out.2.2 m_tongue)) args s 0 0 A) (F0 m 74 ls []))  : ∀ (n : Nat), ∀ (x5 : Int32) (x7 : Int32) (H : Heap) (locs : List Loc) (ls : Array Slot), (gm_fix (fX11_will_b93_body N r39 r74 m_thrown m_refused m_tongue x1 x2 x3 x4 x6) (fun _ _ => none) n) x5 x7 = some out → gm_H (dC, dI) A s (wX11_will cI q q_refused q_tongue q_fresh q_kept q_isKept q_text q_said q_talk m_thrown m_size m_at m_start m_token m_value m_faultAt m_allowed m_firstPair m_secondPair m_above m_below m_refused m_tongue) H locs → lv_has ls 8 [(0, .ref q), (1, .int x1), (2, .int x2), (3, .int x3), (4, .int x4), (5, .int x5), (6, .int x6), (7, .int x7)] → W p l e rX11_will s m args below meth c H locs 0 0 (MQ below (gm_Q (dC, dI) [(cI, .int)] A (some (.int out.1)) (wX11_will cI q q_refused q_tongue q_fresh q_kept q_isKept q_text q_said q_talk out.2.1 m_size m_at m_start m_token m_value m_faultAt m_allowed m_firstPair m_secondPair m_above m_below out.2.2 m_tongue)) args s 0 0 A) (F0 m 93 ls []) := by
  obtain ⟨hx, hb, hml, hr, hown, hts, hA, hK, hX, hlocks⟩ := id C0
  intro n
  induction n with
  | zero =>
    intro x5 x7 H locs ls h hH hl
    cases h
  | succ n hr93 =>
    intro x5 x7 H locs ls h hH hl
    rw [gm_fix_s] at h
    unfold fX11_will_b93_body at h
    refine lv_iload hx hb dX11_will_93 (lv_at hl 7 rfl) ?_
    refine lv_aload_n hx hb dX11_will_95 rfl (lv_at hl 0 rfl) ?_
    refine gm_get (ci := 11) C0 hH inX11_will_X11 0 2 4 rfl rfl (by decide) rfl rfl dX11_will_96 ?_
    refine lv_iconst (v := 0) hx hb dX11_will_99 (by decide) ?_
    obtain ⟨hi15, h⟩ := gm_chk_e h
    refine gm_iald C0 hH hi15 2 0 rfl rfl dX11_will_100 ?_
    refine lv_icmp_ge (tgt := 162) hx hb dX11_will_101 (by decide) (fun hc16 => ?_) (fun hc16 => ?_)
    · replace h := gm_pos hc16 h
      exact tX11_will_b162 C0 hr39 hr74 h hH (lv_sub hl [0, 1, 2, 3, 4, 5, 6] rfl)
    · replace h := gm_neg hc16 h
      refine lv_iload hx hb dX11_will_104 (lv_at hl 5 rfl) ?_
      refine lv_if_eq (tgt := 162) hx hb dX11_will_106 (by decide) (fun hc17 => ?_) (fun hc17 => ?_)
      · replace h := gm_pos hc17 h
        exact tX11_will_b162 C0 hr39 hr74 h hH (lv_sub hl [0, 1, 2, 3, 4, 5, 6] rfl)
      · replace h := gm_neg hc17 h
        refine lv_iload hx hb dX11_will_109 (lv_at hl 6 rfl) ?_
        refine lv_iload hx hb dX11_will_111 (lv_at hl 7 rfl) ?_
        refine lv_icmp_eq (tgt := 149) hx hb dX11_will_113 (by decide) (fun hc18 => ?_) (fun hc18 => ?_)
        · replace h := gm_pos hc18 h
          exact tX11_will_b149 C0 hr39 hr74 hr93 h hH (lv_sub hl [0, 1, 2, 3, 4, 6, 7] rfl)
        · replace h := gm_neg hc18 h
          refine lv_iload hx hb dX11_will_116 (lv_at hl 4 rfl) ?_
          refine lv_iload hx hb dX11_will_118 (lv_at hl 6 rfl) ?_
          obtain ⟨o19, ho19, h⟩ := gm_bind_e h
          refine gm_callS (As := [.int x4, .int x6]) (rest := []) (n := 2) C0 hH (mX11_has l dC dI    x4 x6   ho19) gX11_will_X11_has rfl (by decide +kernel) ⟨rfl, rfl, Nat.le_of_ble_eq_true rfl, Nat.le_of_ble_eq_true rfl⟩ gm_T_ok (fun _ => trivial) [] rfl rfl rfl [] rfl rfl hl.1 rfl (Nat.le_of_ble_eq_true rfl) dX11_will_120 ⟨Nat.zero_le _, Nat.zero_le _⟩ (fun H locs hH => ?_)
          have hH : gm_H (dC, dI) A s (wX11_will cI q q_refused q_tongue q_fresh q_kept q_isKept q_text q_said q_talk m_thrown m_size m_at m_start m_token m_value m_faultAt m_allowed m_firstPair m_secondPair m_above m_below m_refused m_tongue) H locs := hH
          refine lv_if_eq (tgt := 149) hx hb dX11_will_123 (by decide) (fun hc20 => ?_) (fun hc20 => ?_)
          · replace h := gm_pos hc20 h
            exact tX11_will_b149 C0 hr39 hr74 hr93 h hH (lv_sub hl [0, 1, 2, 3, 4, 6, 7] rfl)
          · replace h := gm_neg hc20 h
            refine lv_iload hx hb dX11_will_126 (lv_at hl 4 rfl) ?_
            refine lv_iload hx hb dX11_will_128 (lv_at hl 7 rfl) ?_
            obtain ⟨o21, ho21, h⟩ := gm_bind_e h
            refine gm_callS (As := [.int x4, .int x7]) (rest := []) (n := 2) C0 hH (mX11_has l dC dI    x4 x7   ho21) gX11_will_X11_has rfl (by decide +kernel) ⟨rfl, rfl, Nat.le_of_ble_eq_true rfl, Nat.le_of_ble_eq_true rfl⟩ gm_T_ok (fun _ => trivial) [] rfl rfl rfl [] rfl rfl hl.1 rfl (Nat.le_of_ble_eq_true rfl) dX11_will_130 ⟨Nat.zero_le _, Nat.zero_le _⟩ (fun H locs hH => ?_)
            have hH : gm_H (dC, dI) A s (wX11_will cI q q_refused q_tongue q_fresh q_kept q_isKept q_text q_said q_talk m_thrown m_size m_at m_start m_token m_value m_faultAt m_allowed m_firstPair m_secondPair m_above m_below m_refused m_tongue) H locs := hH
            refine lv_if_eq (tgt := 149) hx hb dX11_will_133 (by decide) (fun hc22 => ?_) (fun hc22 => ?_)
            · replace h := gm_pos hc22 h
              exact tX11_will_b149 C0 hr39 hr74 hr93 h hH (lv_sub hl [0, 1, 2, 3, 4, 6, 7] rfl)
            · replace h := gm_neg hc22 h
              refine lv_aload_n hx hb dX11_will_136 rfl (lv_at hl 0 rfl) ?_
              refine lv_iload_n hx hb dX11_will_137 rfl (lv_at hl 1 rfl) ?_
              refine lv_iload_n hx hb dX11_will_138 rfl (lv_at hl 2 rfl) ?_
              refine lv_iload hx hb dX11_will_139 (lv_at hl 6 rfl) ?_
              refine lv_iload hx hb dX11_will_141 (lv_at hl 7 rfl) ?_
              obtain ⟨o23, ho23, h⟩ := gm_bind_e h
              refine gm_callV (As := [.int x1, .int x2, .int x6, .int x7]) (rest := []) (n := 4) (ci := 11) (q0 := 0) C0 hH (mX11_chimes l dC dI cI q q_tongue q_refused q_fresh q_kept q_isKept q_text q_said q_talk m_thrown m_size m_at m_start m_token m_value m_faultAt m_allowed m_firstPair m_secondPair m_above m_below m_tongue x1 x2 x6 x7   ho23) gX11_will_X11_chimes rfl (by decide +kernel) ⟨rfl, rfl, Nat.le_of_ble_eq_true rfl, Nat.le_of_ble_eq_true rfl⟩ gm_T_ok (fun _ => trivial) [0, 2] rfl rfl rfl [0] rfl rfl rfl rfl hl.1 rfl (Nat.le_of_ble_eq_true rfl) dX11_will_143 ⟨Nat.zero_le _, Nat.zero_le _⟩ (fun H locs hH => ?_)
              have hH : gm_H (dC, dI) A s (wX11_will cI q q_refused q_tongue q_fresh q_kept q_isKept q_text q_said q_talk m_thrown m_size m_at m_start m_token m_value m_faultAt m_allowed m_firstPair m_secondPair m_above m_below m_refused m_tongue) H locs := hH
              refine lv_if_ne (tgt := 153) hx hb dX11_will_146 (by decide) (fun hc24 => ?_) (fun hc24 => ?_)
              · replace h := gm_neg hc24 h
                refine lv_iconst (v := 0) hx hb dX11_will_153 (by decide) ?_
                exact tX11_will_b154 C0 hr39 hr74 hr93 h hH (lv_sub hl [0, 1, 2, 3, 4, 6, 7] rfl)
              · replace h := gm_pos hc24 h
                exact tX11_will_b149 C0 hr39 hr74 hr93 h hH (lv_sub hl [0, 1, 2, 3, 4, 6, 7] rfl)
set_option maxRecDepth 100000 in
set_option maxHeartbeats 4000000 in
theorem tX11_will_b74 {p : Program} {l : Launch} {e : Env} {s : State} {m : MethodId} {args : Array Value} {below : List Frame} {meth : Method} {c : Code} {A : Nat → Prop} {dC : Nat → ClassId} {dI : Nat → Nat → Nat} {cI : ClassId} {q q_refused q_tongue q_fresh q_kept q_isKept q_text q_said q_talk : Nat} {m_thrown : Int32} {m_size : Int32} {m_at : Int32} {m_start : Int32} {m_token : Int32} {m_value : Int64} {m_faultAt : Int32} {m_allowed : Int32} {m_firstPair : Int32} {m_secondPair : Int32} {m_above : Int64} {m_below : Int64} {m_refused : Nat → Int32} {m_tongue : Nat → Int32} {x1 : Int32} {x2 : Int32} {x3 : Int32} {x4 : Int32} (C0 : gm_C p s m args meth c (dC, dI) [(cI, .int)] A gm_T RX11 cX11_will 8 (some .int) wsX11_will) {N : Nat} {out : Int32 × Int32 × (Nat → Int32)} {r39 : Int32 → Int32 → Option (Int32 × Int32 × (Nat → Int32))} (hr39 : ∀ (x3 : Int32) (x4 : Int32) (H : Heap) (locs : List Loc) (ls : Array Slot), r39 x3 x4 = some out → gm_H (dC, dI) A s (wX11_will cI q q_refused q_tongue q_fresh q_kept q_isKept q_text q_said q_talk m_thrown m_size m_at m_start m_token m_value m_faultAt m_allowed m_firstPair m_secondPair m_above m_below m_refused m_tongue) H locs → lv_has ls 8 [(0, .ref q), (1, .int x1), (2, .int x2), (3, .int x3), (4, .int x4)] → W p l e rX11_will s m args below meth c H locs 0 0 (MQ below (gm_Q (dC, dI) [(cI, .int)] A (some (.int out.1)) (wX11_will cI q q_refused q_tongue q_fresh q_kept q_isKept q_text q_said q_talk out.2.1 m_size m_at m_start m_token m_value m_faultAt m_allowed m_firstPair m_secondPair m_above m_below out.2.2 m_tongue)) args s 0 0 A) (F0 m 39 ls []))  : ∀ (n : Nat), ∀ (x5 : Int32) (x6 : Int32) (H : Heap) (locs : List Loc) (ls : Array Slot), (gm_fix (fX11_will_b74_body N r39 m_thrown m_refused m_tongue x1 x2 x3 x4) (fun _ _ => none) n) x5 x6 = some out → gm_H (dC, dI) A s (wX11_will cI q q_refused q_tongue q_fresh q_kept q_isKept q_text q_said q_talk m_thrown m_size m_at m_start m_token m_value m_faultAt m_allowed m_firstPair m_secondPair m_above m_below m_refused m_tongue) H locs → lv_has ls 8 [(0, .ref q), (1, .int x1), (2, .int x2), (3, .int x3), (4, .int x4), (5, .int x5), (6, .int x6)] → W p l e rX11_will s m args below meth c H locs 0 0 (MQ below (gm_Q (dC, dI) [(cI, .int)] A (some (.int out.1)) (wX11_will cI q q_refused q_tongue q_fresh q_kept q_isKept q_text q_said q_talk out.2.1 m_size m_at m_start m_token m_value m_faultAt m_allowed m_firstPair m_secondPair m_above m_below out.2.2 m_tongue)) args s 0 0 A) (F0 m 74 ls []) := by
  obtain ⟨hx, hb, hml, hr, hown, hts, hA, hK, hX, hlocks⟩ := id C0
  intro n
  induction n with
  | zero =>
    intro x5 x6 H locs ls h hH hl
    cases h
  | succ n hr74 =>
    intro x5 x6 H locs ls h hH hl
    rw [gm_fix_s] at h
    unfold fX11_will_b74_body at h
    refine lv_iload hx hb dX11_will_74 (lv_at hl 6 rfl) ?_
    refine lv_aload_n hx hb dX11_will_76 rfl (lv_at hl 0 rfl) ?_
    refine gm_get (ci := 11) C0 hH inX11_will_X11 0 2 4 rfl rfl (by decide) rfl rfl dX11_will_77 ?_
    refine lv_iconst (v := 0) hx hb dX11_will_80 (by decide) ?_
    obtain ⟨hi11, h⟩ := gm_chk_e h
    refine gm_iald C0 hH hi11 2 0 rfl rfl dX11_will_81 ?_
    refine lv_icmp_ge (tgt := 168) hx hb dX11_will_82 (by decide) (fun hc12 => ?_) (fun hc12 => ?_)
    · replace h := gm_pos hc12 h
      exact tX11_will_b168 C0 hr39 h hH (lv_sub hl [0, 1, 2, 3, 4, 5] rfl)
    · replace h := gm_neg hc12 h
      refine lv_iload hx hb dX11_will_85 (lv_at hl 5 rfl) ?_
      refine lv_if_eq (tgt := 168) hx hb dX11_will_87 (by decide) (fun hc14 => ?_) (fun hc14 => ?_)
      · replace h := gm_pos hc14 h
        exact tX11_will_b168 C0 hr39 h hH (lv_sub hl [0, 1, 2, 3, 4, 5] rfl)
      · replace h := gm_neg hc14 h
        refine lv_iconst (v := 0) hx hb dX11_will_90 (by decide) ?_
        refine lv_istore (lv' := [(7, .int 0), (0, .ref q), (1, .int x1), (2, .int x2), (3, .int x3), (4, .int x4), (5, .int x5), (6, .int x6)]) hx hb dX11_will_91 hl (by decide) rfl (fun ls hl => ?_)
        unfold fX11_will_b93 at h
        exact tX11_will_b93 C0 hr39 hr74 _ _ _ _ _ _ h hH (lv_sub hl [1, 2, 3, 4, 5, 6, 7, 0] rfl)
set_option maxRecDepth 100000 in
set_option maxHeartbeats 4000000 in
theorem tX11_will_b69 {p : Program} {l : Launch} {e : Env} {s : State} {m : MethodId} {args : Array Value} {below : List Frame} {meth : Method} {c : Code} {A : Nat → Prop} {dC : Nat → ClassId} {dI : Nat → Nat → Nat} {cI : ClassId} {q q_refused q_tongue q_fresh q_kept q_isKept q_text q_said q_talk : Nat} {m_thrown : Int32} {m_size : Int32} {m_at : Int32} {m_start : Int32} {m_token : Int32} {m_value : Int64} {m_faultAt : Int32} {m_allowed : Int32} {m_firstPair : Int32} {m_secondPair : Int32} {m_above : Int64} {m_below : Int64} {m_refused : Nat → Int32} {m_tongue : Nat → Int32} {x1 : Int32} {x2 : Int32} {x3 : Int32} {x4 : Int32} {k0 : Int32} (C0 : gm_C p s m args meth c (dC, dI) [(cI, .int)] A gm_T RX11 cX11_will 8 (some .int) wsX11_will) {N : Nat} {out : Int32 × Int32 × (Nat → Int32)} {r39 : Int32 → Int32 → Option (Int32 × Int32 × (Nat → Int32))} (hr39 : ∀ (x3 : Int32) (x4 : Int32) (H : Heap) (locs : List Loc) (ls : Array Slot), r39 x3 x4 = some out → gm_H (dC, dI) A s (wX11_will cI q q_refused q_tongue q_fresh q_kept q_isKept q_text q_said q_talk m_thrown m_size m_at m_start m_token m_value m_faultAt m_allowed m_firstPair m_secondPair m_above m_below m_refused m_tongue) H locs → lv_has ls 8 [(0, .ref q), (1, .int x1), (2, .int x2), (3, .int x3), (4, .int x4)] → W p l e rX11_will s m args below meth c H locs 0 0 (MQ below (gm_Q (dC, dI) [(cI, .int)] A (some (.int out.1)) (wX11_will cI q q_refused q_tongue q_fresh q_kept q_isKept q_text q_said q_talk out.2.1 m_size m_at m_start m_token m_value m_faultAt m_allowed m_firstPair m_secondPair m_above m_below out.2.2 m_tongue)) args s 0 0 A) (F0 m 39 ls []))   {H : Heap} {locs : List Loc} {ls : Array Slot} (h : fX11_will_b69 N r39 m_thrown m_refused m_tongue x1 x2 x3 x4 k0 = some out) (hH : gm_H (dC, dI) A s (wX11_will cI q q_refused q_tongue q_fresh q_kept q_isKept q_text q_said q_talk m_thrown m_size m_at m_start m_token m_value m_faultAt m_allowed m_firstPair m_secondPair m_above m_below m_refused m_tongue) H locs) (hl : lv_has ls 8 [(0, .ref q), (1, .int x1), (2, .int x2), (3, .int x3), (4, .int x4)]) : W p l e rX11_will s m args below meth c H locs 0 0 (MQ below (gm_Q (dC, dI) [(cI, .int)] A (some (.int out.1)) (wX11_will cI q q_refused q_tongue q_fresh q_kept q_isKept q_text q_said q_talk out.2.1 m_size m_at m_start m_token m_value m_faultAt m_allowed m_firstPair m_secondPair m_above m_below out.2.2 m_tongue)) args s 0 0 A) (F0 m 69 ls [.int k0]) := by
  obtain ⟨hx, hb, hml, hr, hown, hts, hA, hK, hX, hlocks⟩ := id C0
  unfold fX11_will_b69 at h
  refine lv_istore (lv' := [(5, .int k0), (0, .ref q), (1, .int x1), (2, .int x2), (3, .int x3), (4, .int x4)]) hx hb dX11_will_69 hl (by decide) rfl (fun ls hl => ?_)
  refine lv_iconst (v := 0) hx hb dX11_will_71 (by decide) ?_
  refine lv_istore (lv' := [(6, .int 0), (5, .int k0), (0, .ref q), (1, .int x1), (2, .int x2), (3, .int x3), (4, .int x4)]) hx hb dX11_will_72 hl (by decide) rfl (fun ls hl => ?_)
  unfold fX11_will_b74 at h
  exact tX11_will_b74 C0 hr39 _ _ _ _ _ _ h hH (lv_sub hl [2, 3, 4, 5, 6, 1, 0] rfl)
set_option maxRecDepth 100000 in
set_option maxHeartbeats 4000000 in
theorem tX11_will_b39 {p : Program} {l : Launch} {e : Env} {s : State} {m : MethodId} {args : Array Value} {below : List Frame} {meth : Method} {c : Code} {A : Nat → Prop} {dC : Nat → ClassId} {dI : Nat → Nat → Nat} {cI : ClassId} {q q_refused q_tongue q_fresh q_kept q_isKept q_text q_said q_talk : Nat} {m_thrown : Int32} {m_size : Int32} {m_at : Int32} {m_start : Int32} {m_token : Int32} {m_value : Int64} {m_faultAt : Int32} {m_allowed : Int32} {m_firstPair : Int32} {m_secondPair : Int32} {m_above : Int64} {m_below : Int64} {m_refused : Nat → Int32} {m_tongue : Nat → Int32} {x1 : Int32} {x2 : Int32} (C0 : gm_C p s m args meth c (dC, dI) [(cI, .int)] A gm_T RX11 cX11_will 8 (some .int) wsX11_will) {N : Nat} {out : Int32 × Int32 × (Nat → Int32)}   : ∀ (n : Nat), ∀ (x3 : Int32) (x4 : Int32) (H : Heap) (locs : List Loc) (ls : Array Slot), (gm_fix (fX11_will_b39_body N  m_thrown m_refused m_tongue x1 x2) (fun _ _ => none) n) x3 x4 = some out → gm_H (dC, dI) A s (wX11_will cI q q_refused q_tongue q_fresh q_kept q_isKept q_text q_said q_talk m_thrown m_size m_at m_start m_token m_value m_faultAt m_allowed m_firstPair m_secondPair m_above m_below m_refused m_tongue) H locs → lv_has ls 8 [(0, .ref q), (1, .int x1), (2, .int x2), (3, .int x3), (4, .int x4)] → W p l e rX11_will s m args below meth c H locs 0 0 (MQ below (gm_Q (dC, dI) [(cI, .int)] A (some (.int out.1)) (wX11_will cI q q_refused q_tongue q_fresh q_kept q_isKept q_text q_said q_talk out.2.1 m_size m_at m_start m_token m_value m_faultAt m_allowed m_firstPair m_secondPair m_above m_below out.2.2 m_tongue)) args s 0 0 A) (F0 m 39 ls []) := by
  obtain ⟨hx, hb, hml, hr, hown, hts, hA, hK, hX, hlocks⟩ := id C0
  intro n
  induction n with
  | zero =>
    intro x3 x4 H locs ls h hH hl
    cases h
  | succ n hr39 =>
    intro x3 x4 H locs ls h hH hl
    rw [gm_fix_s] at h
    unfold fX11_will_b39_body at h
    refine lv_iload hx hb dX11_will_39 (lv_at hl 4 rfl) ?_
    refine lv_iconst (v := 1) hx hb dX11_will_41 (by decide) ?_
    refine lv_aload_n hx hb dX11_will_42 rfl (lv_at hl 0 rfl) ?_
    refine gm_get (ci := 11) C0 hH inX11_will_X11 0 2 4 rfl rfl (by decide) rfl rfl dX11_will_43 ?_
    refine lv_iconst (v := 0) hx hb dX11_will_46 (by decide) ?_
    obtain ⟨hi6, h⟩ := gm_chk_e h
    refine gm_iald C0 hH hi6 2 0 rfl rfl dX11_will_47 ?_
    refine lv_ishl hx hb dX11_will_48 ?_
    refine lv_icmp_ge (tgt := 186) hx hb dX11_will_49 (by decide) (fun hc7 => ?_) (fun hc7 => ?_)
    · replace h := gm_pos hc7 h
      refine lv_iload_n hx hb dX11_will_186 rfl (lv_at hl 3 rfl) ?_
      obtain rfl := Option.some.inj h
      exact gm_iret C0 hH dX11_will_187
    · replace h := gm_neg hc7 h
      refine lv_iload hx hb dX11_will_52 (lv_at hl 4 rfl) ?_
      obtain ⟨o8, ho8, h⟩ := gm_bind_e h
      refine gm_callS (As := [.int x4]) (rest := []) (n := 1) C0 hH (mX11_bits l dC dI    x4   ho8) gX11_will_X11_bits rfl (by decide +kernel) ⟨rfl, rfl, Nat.le_of_ble_eq_true rfl, Nat.le_of_ble_eq_true rfl⟩ gm_T_ok (fun _ => trivial) [] rfl rfl rfl [] rfl rfl hl.1 rfl (Nat.le_of_ble_eq_true rfl) dX11_will_54 ⟨Nat.zero_le _, Nat.zero_le _⟩ (fun H locs hH => ?_)
      have hH : gm_H (dC, dI) A s (wX11_will cI q q_refused q_tongue q_fresh q_kept q_isKept q_text q_said q_talk m_thrown m_size m_at m_start m_token m_value m_faultAt m_allowed m_firstPair m_secondPair m_above m_below m_refused m_tongue) H locs := hH
      refine lv_iload_n hx hb dX11_will_57 rfl (lv_at hl 3 rfl) ?_
      obtain ⟨o9, ho9, h⟩ := gm_bind_e h
      refine gm_callS (As := [.int x3]) (rest := [.int o8]) (n := 1) C0 hH (mX11_bits l dC dI    x3   ho9) gX11_will_X11_bits rfl (by decide +kernel) ⟨rfl, rfl, Nat.le_of_ble_eq_true rfl, Nat.le_of_ble_eq_true rfl⟩ gm_T_ok (fun _ => trivial) [] rfl rfl rfl [] rfl rfl hl.1 rfl (Nat.le_of_ble_eq_true rfl) dX11_will_58 ⟨Nat.zero_le _, Nat.zero_le _⟩ (fun H locs hH => ?_)
      have hH : gm_H (dC, dI) A s (wX11_will cI q q_refused q_tongue q_fresh q_kept q_isKept q_text q_said q_talk m_thrown m_size m_at m_start m_token m_value m_faultAt m_allowed m_firstPair m_secondPair m_above m_below m_refused m_tongue) H locs := hH
      refine lv_icmp_le (tgt := 68) hx hb dX11_will_61 (by decide) (fun hc10 => ?_) (fun hc10 => ?_)
      · replace h := gm_pos hc10 h
        refine lv_iconst (v := 0) hx hb dX11_will_68 (by decide) ?_
        exact tX11_will_b69 C0 hr39 h hH (lv_sub hl [0, 1, 2, 3, 4] rfl)
      · replace h := gm_neg hc10 h
        refine lv_iconst (v := 1) hx hb dX11_will_64 (by decide) ?_
        refine lv_goto (tgt := 69) hx hb dX11_will_65 (by decide) ?_
        exact tX11_will_b69 C0 hr39 h hH (lv_sub hl [0, 1, 2, 3, 4] rfl)
set_option maxRecDepth 100000 in
set_option maxHeartbeats 4000000 in
theorem mX11_will (l : Launch) (dC : Nat → ClassId) (dI : Nat → Nat → Nat) (cI : ClassId) (q q_refused q_tongue q_fresh q_kept q_isKept q_text q_said q_talk : Nat) (m_thrown : Int32) (m_size : Int32) (m_at : Int32) (m_start : Int32) (m_token : Int32) (m_value : Int64) (m_faultAt : Int32) (m_allowed : Int32) (m_firstPair : Int32) (m_secondPair : Int32) (m_above : Int64) (m_below : Int64) (m_refused : Nat → Int32) (m_tongue : Nat → Int32) (x1 : Int32) (x2 : Int32)  {N : Nat} {out : Int32 × Int32 × (Nat → Int32)} (h : fX11_will N m_thrown m_refused m_tongue x1 x2 = some out) : gm_Met l yX11_will wsX11_will rX11_will (dC, dI) [(cI, .int)] gm_T [.ref q, .int x1, .int x2] (wX11_will cI q q_refused q_tongue q_fresh q_kept q_isKept q_text q_said q_talk m_thrown m_size m_at m_start m_token m_value m_faultAt m_allowed m_firstPair m_secondPair m_above m_below m_refused m_tongue) (some (.int out.1)) (wX11_will cI q q_refused q_tongue q_fresh q_kept q_isKept q_text q_said q_talk out.2.1 m_size m_at m_start m_token m_value m_faultAt m_allowed m_firstPair m_secondPair m_above m_below out.2.2 m_tongue) := by
  refine gm_ofW (cc := cX11_will) (maxL := 8) (ret := (some .int)) (by decide +kernel) rfl (Nat.le_of_ble_eq_true rfl) ?_
  intro p e s m below meth c A C0 hH ls hl
  generalize ([.ref q, .int x1, .int x2] : List Value).toArray = args at C0 ⊢
  have hl : lv_has ls 8 [(0, .ref q), (1, .int x1), (2, .int x2)] := hl
  generalize s.heap = H at hH ⊢
  generalize ([] : List Loc) = locs at hH ⊢
  obtain ⟨hx, hb, hml, hr, hown, hts, hA, hK, hX, hlocks⟩ := id C0
  unfold fX11_will at h
  refine lv_aload_n hx hb dX11_will_0 rfl (lv_at hl 0 rfl) ?_
  refine lv_iconst (v := 0) hx hb dX11_will_1 (by decide) ?_
  refine gm_putf (ci := 11) C0 hH inX11_will_X11 tyX11_ok nmX11 0 0 1 rfl rfl (by decide) rfl rfl rfl rfl rfl (Nat.le_of_ble_eq_true rfl) dX11_will_2 (fun H locs hH => ?_)
  have hH : gm_H (dC, dI) A s (wX11_will cI q q_refused q_tongue q_fresh q_kept q_isKept q_text q_said q_talk 0 m_size m_at m_start m_token m_value m_faultAt m_allowed m_firstPair m_secondPair m_above m_below m_refused m_tongue) H locs := hH
  refine lv_iload_n hx hb dX11_will_5 rfl (lv_at hl 1 rfl) ?_
  refine lv_i2l hx hb dX11_will_6 rfl ?_
  refine lv_lconst (v := 0) hx hb dX11_will_7 (by decide) ?_
  refine lv_ldc2 (own := RX11) (v := 5) hx hb hown (gm_at C0 2 rfl) dX11_will_8 ?_
  obtain ⟨o1, ho1, h⟩ := gm_bind_e h
  refine gm_callS (As := [.long (Int32.toInt64 x1), .long 0, .long 5]) (rest := []) (n := 3) C0 hH (mX11_in l dC dI    ((Int32.toInt64 x1)) 0 5   ho1) gX11_will_X11_in rfl (by decide +kernel) ⟨rfl, rfl, Nat.le_of_ble_eq_true rfl, Nat.le_of_ble_eq_true rfl⟩ gm_T_ok (fun _ => trivial) [] rfl rfl rfl [] rfl rfl hl.1 rfl (Nat.le_of_ble_eq_true rfl) dX11_will_11 ⟨Nat.zero_le _, Nat.zero_le _⟩ (fun H locs hH => ?_)
  have hH : gm_H (dC, dI) A s (wX11_will cI q q_refused q_tongue q_fresh q_kept q_isKept q_text q_said q_talk 0 m_size m_at m_start m_token m_value m_faultAt m_allowed m_firstPair m_secondPair m_above m_below m_refused m_tongue) H locs := hH
  refine lv_if_eq (tgt := 29) hx hb dX11_will_14 (by decide) (fun hc2 => ?_) (fun hc2 => ?_)
  · replace h := gm_pos hc2 h
    exact tX11_will_b29 C0  h hH (lv_sub hl [0] rfl)
  · replace h := gm_neg hc2 h
    refine lv_iload_n hx hb dX11_will_17 rfl (lv_at hl 2 rfl) ?_
    refine lv_i2l hx hb dX11_will_18 rfl ?_
    refine lv_lconst (v := 0) hx hb dX11_will_19 (by decide) ?_
    refine lv_ldc2 (own := RX11) (v := 7) hx hb hown (gm_at C0 3 rfl) dX11_will_20 ?_
    obtain ⟨o4, ho4, h⟩ := gm_bind_e h
    refine gm_callS (As := [.long (Int32.toInt64 x2), .long 0, .long 7]) (rest := []) (n := 3) C0 hH (mX11_in l dC dI    ((Int32.toInt64 x2)) 0 7   ho4) gX11_will_X11_in rfl (by decide +kernel) ⟨rfl, rfl, Nat.le_of_ble_eq_true rfl, Nat.le_of_ble_eq_true rfl⟩ gm_T_ok (fun _ => trivial) [] rfl rfl rfl [] rfl rfl hl.1 rfl (Nat.le_of_ble_eq_true rfl) dX11_will_23 ⟨Nat.zero_le _, Nat.zero_le _⟩ (fun H locs hH => ?_)
    have hH : gm_H (dC, dI) A s (wX11_will cI q q_refused q_tongue q_fresh q_kept q_isKept q_text q_said q_talk 0 m_size m_at m_start m_token m_value m_faultAt m_allowed m_firstPair m_secondPair m_above m_below m_refused m_tongue) H locs := hH
    refine lv_if_ne (tgt := 34) hx hb dX11_will_26 (by decide) (fun hc5 => ?_) (fun hc5 => ?_)
    · replace h := gm_neg hc5 h
      refine lv_iconst (v := 0) hx hb dX11_will_34 (by decide) ?_
      refine lv_istore_n (lv' := [(3, .int 0), (0, .ref q), (1, .int x1), (2, .int x2)]) hx hb dX11_will_35 rfl hl (by decide) rfl (fun ls hl => ?_)
      refine lv_iconst (v := 0) hx hb dX11_will_36 (by decide) ?_
      refine lv_istore (lv' := [(4, .int 0), (3, .int 0), (0, .ref q), (1, .int x1), (2, .int x2)]) hx hb dX11_will_37 hl (by decide) rfl (fun ls hl => ?_)
      unfold fX11_will_b39 at h
      exact tX11_will_b39 C0  _ _ _ _ _ _ h hH (lv_sub hl [2, 3, 4, 1, 0] rfl)
    · replace h := gm_pos hc5 h
      exact tX11_will_b29 C0  h hH (lv_sub hl [0] rfl)

/-! X11_worst -/
abbrev wX11_worst (cI : ClassId) (q q_refused q_tongue q_fresh q_kept q_isKept q_text q_said q_talk : Nat) (m_thrown : Int32) (m_size : Int32) (m_at : Int32) (m_start : Int32) (m_token : Int32) (m_value : Int64) (m_faultAt : Int32) (m_allowed : Int32) (m_firstPair : Int32) (m_secondPair : Int32) (m_above : Int64) (m_below : Int64) (m_refused : Nat → Int32) (m_tongue : Nat → Int32) : va_W := [(q, .inr (11, [.int m_thrown, .ref q_refused, .ref q_tongue, .ref q_fresh, .ref q_kept, .ref q_isKept, .ref q_text, .int m_size, .int m_at, .int m_start, .int m_token, .long m_value, .int m_faultAt, .ref q_said, .ref q_talk, .int m_allowed, .int m_firstPair, .int m_secondPair, .long m_above, .long m_below])), (q_refused, .inl (cI, 3, .inl m_refused)), (q_tongue, .inl (cI, 73, .inl m_tongue))]
abbrev rX11_worst : Room := { frames := 7, cells := 0, slots := 0, locals := 157 }
def fX11_worst_b63 (N : Nat) (r22 : Int32 → Int32 → Option (Int32 × Int32 × (Nat → Int32))) (m_thrown : Int32) (m_refused : Nat → Int32) (m_tongue : Nat → Int32) (x1 : Int32) (x3 : Int32) (k0 : Int32) : Option (Int32 × Int32 × (Nat → Int32)) := (r22 k0 ((x3 + 1)))
def fX11_worst_b58 (N : Nat) (r22 : Int32 → Int32 → Option (Int32 × Int32 × (Nat → Int32))) (m_thrown : Int32) (m_refused : Nat → Int32) (m_tongue : Nat → Int32) (x1 : Int32) (x3 : Int32) : Option (Int32 × Int32 × (Nat → Int32)) := (fX11_worst_b63 N r22 m_thrown m_refused m_tongue x1 x3 x3)
def fX11_worst_b22_body (N : Nat)  (m_thrown : Int32) (m_refused : Nat → Int32) (m_tongue : Nat → Int32) (x1 : Int32) (r22 : Int32 → Int32 → Option (Int32 × Int32 × (Nat → Int32))) (x2 : Int32) (x3 : Int32) : Option (Int32 × Int32 × (Nat → Int32)) := gm_chk 0 73 ((if (m_tongue (Int32.toNatClampNeg 0)) ≤ x3 then some (x2, m_thrown, m_refused) else (if x2 = (-1) then (fX11_worst_b58 N r22 m_thrown m_refused m_tongue x1 x3) else gm_bind (fX11_canSay N m_tongue x1 x3) (fun o6 => gm_bind (fX11_bits N o6) (fun o7 => gm_bind (fX11_canSay N m_tongue x1 x2) (fun o8 => gm_bind (fX11_bits N o8) (fun o9 => (if o9 ≤ o7 then (fX11_worst_b63 N r22 m_thrown m_refused m_tongue x1 x3 x2) else (fX11_worst_b58 N r22 m_thrown m_refused m_tongue x1 x3)))))))))
def fX11_worst_b22 (N : Nat)  (m_thrown : Int32) (m_refused : Nat → Int32) (m_tongue : Nat → Int32) (x1 : Int32) (x2 : Int32) (x3 : Int32) : Option (Int32 × Int32 × (Nat → Int32)) := gm_fix (fX11_worst_b22_body N  m_thrown m_refused m_tongue x1) (fun _ _ => none) N x2 x3
def fX11_worst (N : Nat) (m_thrown : Int32) (m_refused : Nat → Int32) (m_tongue : Nat → Int32) (x1 : Int32) : Option (Int32 × Int32 × (Nat → Int32)) := gm_bind (fX11_noPerson N m_tongue x1) (fun o1 => (if o1 = 0 then (fX11_worst_b22 N  0 m_refused m_tongue x1 ((-1)) 0) else gm_bind (fX11_bad N m_refused) (fun o11 => some (o11.1, 0, o11.2))))
set_option maxRecDepth 20000 in
theorem inX11_worst_X11 : ∀ w ∈ u_ws RX11 TX11 20, w ∈ wsX11_worst := fun w h => by
  obtain ⟨k, hk, rfl⟩ := List.mem_map.mp h
  have hk2 := List.mem_range.mp hk
  exact List.mem_of_getElem? (i := 74 + k) (by rcases (show k = 0 ∨ k = 1 ∨ k = 2 ∨ k = 3 ∨ k = 4 ∨ k = 5 ∨ k = 6 ∨ k = 7 ∨ k = 8 ∨ k = 9 ∨ k = 10 ∨ k = 11 ∨ k = 12 ∨ k = 13 ∨ k = 14 ∨ k = 15 ∨ k = 16 ∨ k = 17 ∨ k = 18 ∨ k = 19 by omega) with rfl | rfl | rfl | rfl | rfl | rfl | rfl | rfl | rfl | rfl | rfl | rfl | rfl | rfl | rfl | rfl | rfl | rfl | rfl | rfl <;> rfl)
set_option maxRecDepth 100000 in
set_option maxHeartbeats 4000000 in
theorem tX11_worst_b63 {p : Program} {l : Launch} {e : Env} {s : State} {m : MethodId} {args : Array Value} {below : List Frame} {meth : Method} {c : Code} {A : Nat → Prop} {dC : Nat → ClassId} {dI : Nat → Nat → Nat} {cI : ClassId} {q q_refused q_tongue q_fresh q_kept q_isKept q_text q_said q_talk : Nat} {m_thrown : Int32} {m_size : Int32} {m_at : Int32} {m_start : Int32} {m_token : Int32} {m_value : Int64} {m_faultAt : Int32} {m_allowed : Int32} {m_firstPair : Int32} {m_secondPair : Int32} {m_above : Int64} {m_below : Int64} {m_refused : Nat → Int32} {m_tongue : Nat → Int32} {x1 : Int32} {x3 : Int32} {k0 : Int32} (C0 : gm_C p s m args meth c (dC, dI) [(cI, .int)] A gm_T RX11 cX11_worst 4 (some .int) wsX11_worst) {N : Nat} {out : Int32 × Int32 × (Nat → Int32)} {r22 : Int32 → Int32 → Option (Int32 × Int32 × (Nat → Int32))} (hr22 : ∀ (x2 : Int32) (x3 : Int32) (H : Heap) (locs : List Loc) (ls : Array Slot), r22 x2 x3 = some out → gm_H (dC, dI) A s (wX11_worst cI q q_refused q_tongue q_fresh q_kept q_isKept q_text q_said q_talk m_thrown m_size m_at m_start m_token m_value m_faultAt m_allowed m_firstPair m_secondPair m_above m_below m_refused m_tongue) H locs → lv_has ls 4 [(0, .ref q), (1, .int x1), (2, .int x2), (3, .int x3)] → W p l e rX11_worst s m args below meth c H locs 0 0 (MQ below (gm_Q (dC, dI) [(cI, .int)] A (some (.int out.1)) (wX11_worst cI q q_refused q_tongue q_fresh q_kept q_isKept q_text q_said q_talk out.2.1 m_size m_at m_start m_token m_value m_faultAt m_allowed m_firstPair m_secondPair m_above m_below out.2.2 m_tongue)) args s 0 0 A) (F0 m 22 ls []))   {H : Heap} {locs : List Loc} {ls : Array Slot} (h : fX11_worst_b63 N r22 m_thrown m_refused m_tongue x1 x3 k0 = some out) (hH : gm_H (dC, dI) A s (wX11_worst cI q q_refused q_tongue q_fresh q_kept q_isKept q_text q_said q_talk m_thrown m_size m_at m_start m_token m_value m_faultAt m_allowed m_firstPair m_secondPair m_above m_below m_refused m_tongue) H locs) (hl : lv_has ls 4 [(0, .ref q), (1, .int x1), (3, .int x3)]) : W p l e rX11_worst s m args below meth c H locs 0 0 (MQ below (gm_Q (dC, dI) [(cI, .int)] A (some (.int out.1)) (wX11_worst cI q q_refused q_tongue q_fresh q_kept q_isKept q_text q_said q_talk out.2.1 m_size m_at m_start m_token m_value m_faultAt m_allowed m_firstPair m_secondPair m_above m_below out.2.2 m_tongue)) args s 0 0 A) (F0 m 63 ls [.int k0]) := by
  obtain ⟨hx, hb, hml, hr, hown, hts, hA, hK, hX, hlocks⟩ := id C0
  unfold fX11_worst_b63 at h
  refine lv_istore_n (lv' := [(2, .int k0), (0, .ref q), (1, .int x1), (3, .int x3)]) hx hb dX11_worst_63 rfl hl (by decide) rfl (fun ls hl => ?_)
  refine lv_iinc (v := (x3 + 1)) (lv' := [(3, .int (x3 + 1)), (2, .int k0), (0, .ref q), (1, .int x1)]) hx hb dX11_worst_64 hl (k := 3) rfl rfl (by decide) rfl (fun ls hl => ?_)
  refine lv_goto (tgt := 22) hx hb dX11_worst_67 (by decide) ?_
  exact hr22 _ _ _ _ _ h hH (lv_sub hl [2, 3, 1, 0] rfl)
set_option maxRecDepth 100000 in
set_option maxHeartbeats 4000000 in
theorem tX11_worst_b58 {p : Program} {l : Launch} {e : Env} {s : State} {m : MethodId} {args : Array Value} {below : List Frame} {meth : Method} {c : Code} {A : Nat → Prop} {dC : Nat → ClassId} {dI : Nat → Nat → Nat} {cI : ClassId} {q q_refused q_tongue q_fresh q_kept q_isKept q_text q_said q_talk : Nat} {m_thrown : Int32} {m_size : Int32} {m_at : Int32} {m_start : Int32} {m_token : Int32} {m_value : Int64} {m_faultAt : Int32} {m_allowed : Int32} {m_firstPair : Int32} {m_secondPair : Int32} {m_above : Int64} {m_below : Int64} {m_refused : Nat → Int32} {m_tongue : Nat → Int32} {x1 : Int32} {x3 : Int32} (C0 : gm_C p s m args meth c (dC, dI) [(cI, .int)] A gm_T RX11 cX11_worst 4 (some .int) wsX11_worst) {N : Nat} {out : Int32 × Int32 × (Nat → Int32)} {r22 : Int32 → Int32 → Option (Int32 × Int32 × (Nat → Int32))} (hr22 : ∀ (x2 : Int32) (x3 : Int32) (H : Heap) (locs : List Loc) (ls : Array Slot), r22 x2 x3 = some out → gm_H (dC, dI) A s (wX11_worst cI q q_refused q_tongue q_fresh q_kept q_isKept q_text q_said q_talk m_thrown m_size m_at m_start m_token m_value m_faultAt m_allowed m_firstPair m_secondPair m_above m_below m_refused m_tongue) H locs → lv_has ls 4 [(0, .ref q), (1, .int x1), (2, .int x2), (3, .int x3)] → W p l e rX11_worst s m args below meth c H locs 0 0 (MQ below (gm_Q (dC, dI) [(cI, .int)] A (some (.int out.1)) (wX11_worst cI q q_refused q_tongue q_fresh q_kept q_isKept q_text q_said q_talk out.2.1 m_size m_at m_start m_token m_value m_faultAt m_allowed m_firstPair m_secondPair m_above m_below out.2.2 m_tongue)) args s 0 0 A) (F0 m 22 ls []))   {H : Heap} {locs : List Loc} {ls : Array Slot} (h : fX11_worst_b58 N r22 m_thrown m_refused m_tongue x1 x3 = some out) (hH : gm_H (dC, dI) A s (wX11_worst cI q q_refused q_tongue q_fresh q_kept q_isKept q_text q_said q_talk m_thrown m_size m_at m_start m_token m_value m_faultAt m_allowed m_firstPair m_secondPair m_above m_below m_refused m_tongue) H locs) (hl : lv_has ls 4 [(0, .ref q), (1, .int x1), (3, .int x3)]) : W p l e rX11_worst s m args below meth c H locs 0 0 (MQ below (gm_Q (dC, dI) [(cI, .int)] A (some (.int out.1)) (wX11_worst cI q q_refused q_tongue q_fresh q_kept q_isKept q_text q_said q_talk out.2.1 m_size m_at m_start m_token m_value m_faultAt m_allowed m_firstPair m_secondPair m_above m_below out.2.2 m_tongue)) args s 0 0 A) (F0 m 58 ls []) := by
  obtain ⟨hx, hb, hml, hr, hown, hts, hA, hK, hX, hlocks⟩ := id C0
  unfold fX11_worst_b58 at h
  refine lv_iload_n hx hb dX11_worst_58 rfl (lv_at hl 2 rfl) ?_
  refine lv_goto (tgt := 63) hx hb dX11_worst_59 (by decide) ?_
  exact tX11_worst_b63 C0 hr22 h hH (lv_sub hl [0, 1, 2] rfl)
set_option maxRecDepth 100000 in
set_option maxHeartbeats 4000000 in
theorem tX11_worst_b22 {p : Program} {l : Launch} {e : Env} {s : State} {m : MethodId} {args : Array Value} {below : List Frame} {meth : Method} {c : Code} {A : Nat → Prop} {dC : Nat → ClassId} {dI : Nat → Nat → Nat} {cI : ClassId} {q q_refused q_tongue q_fresh q_kept q_isKept q_text q_said q_talk : Nat} {m_thrown : Int32} {m_size : Int32} {m_at : Int32} {m_start : Int32} {m_token : Int32} {m_value : Int64} {m_faultAt : Int32} {m_allowed : Int32} {m_firstPair : Int32} {m_secondPair : Int32} {m_above : Int64} {m_below : Int64} {m_refused : Nat → Int32} {m_tongue : Nat → Int32} {x1 : Int32} (C0 : gm_C p s m args meth c (dC, dI) [(cI, .int)] A gm_T RX11 cX11_worst 4 (some .int) wsX11_worst) {N : Nat} {out : Int32 × Int32 × (Nat → Int32)}   : ∀ (n : Nat), ∀ (x2 : Int32) (x3 : Int32) (H : Heap) (locs : List Loc) (ls : Array Slot), (gm_fix (fX11_worst_b22_body N  m_thrown m_refused m_tongue x1) (fun _ _ => none) n) x2 x3 = some out → gm_H (dC, dI) A s (wX11_worst cI q q_refused q_tongue q_fresh q_kept q_isKept q_text q_said q_talk m_thrown m_size m_at m_start m_token m_value m_faultAt m_allowed m_firstPair m_secondPair m_above m_below m_refused m_tongue) H locs → lv_has ls 4 [(0, .ref q), (1, .int x1), (2, .int x2), (3, .int x3)] → W p l e rX11_worst s m args below meth c H locs 0 0 (MQ below (gm_Q (dC, dI) [(cI, .int)] A (some (.int out.1)) (wX11_worst cI q q_refused q_tongue q_fresh q_kept q_isKept q_text q_said q_talk out.2.1 m_size m_at m_start m_token m_value m_faultAt m_allowed m_firstPair m_secondPair m_above m_below out.2.2 m_tongue)) args s 0 0 A) (F0 m 22 ls []) := by
  obtain ⟨hx, hb, hml, hr, hown, hts, hA, hK, hX, hlocks⟩ := id C0
  intro n
  induction n with
  | zero =>
    intro x2 x3 H locs ls h hH hl
    cases h
  | succ n hr22 =>
    intro x2 x3 H locs ls h hH hl
    rw [gm_fix_s] at h
    unfold fX11_worst_b22_body at h
    refine lv_iload_n hx hb dX11_worst_22 rfl (lv_at hl 3 rfl) ?_
    refine lv_aload_n hx hb dX11_worst_23 rfl (lv_at hl 0 rfl) ?_
    refine gm_get (ci := 11) C0 hH inX11_worst_X11 0 2 2 rfl rfl (by decide) rfl rfl dX11_worst_24 ?_
    refine lv_iconst (v := 0) hx hb dX11_worst_27 (by decide) ?_
    obtain ⟨hi3, h⟩ := gm_chk_e h
    refine gm_iald C0 hH hi3 2 0 rfl rfl dX11_worst_28 ?_
    refine lv_icmp_ge (tgt := 70) hx hb dX11_worst_29 (by decide) (fun hc4 => ?_) (fun hc4 => ?_)
    · replace h := gm_pos hc4 h
      refine lv_iload_n hx hb dX11_worst_70 rfl (lv_at hl 2 rfl) ?_
      obtain rfl := Option.some.inj h
      exact gm_iret C0 hH dX11_worst_71
    · replace h := gm_neg hc4 h
      refine lv_iload_n hx hb dX11_worst_32 rfl (lv_at hl 2 rfl) ?_
      refine lv_iconst (v := (-1)) hx hb dX11_worst_33 (by decide) ?_
      refine lv_icmp_eq (tgt := 58) hx hb dX11_worst_34 (by decide) (fun hc5 => ?_) (fun hc5 => ?_)
      · replace h := gm_pos hc5 h
        exact tX11_worst_b58 C0 hr22 h hH (lv_sub hl [0, 1, 3] rfl)
      · replace h := gm_neg hc5 h
        refine lv_aload_n hx hb dX11_worst_37 rfl (lv_at hl 0 rfl) ?_
        refine lv_iload_n hx hb dX11_worst_38 rfl (lv_at hl 1 rfl) ?_
        refine lv_iload_n hx hb dX11_worst_39 rfl (lv_at hl 3 rfl) ?_
        obtain ⟨o6, ho6, h⟩ := gm_bind_e h
        refine gm_callV (As := [.int x1, .int x3]) (rest := []) (n := 2) (ci := 11) (q0 := 0) C0 hH (mX11_canSay l dC dI cI q q_tongue q_refused q_fresh q_kept q_isKept q_text q_said q_talk m_thrown m_size m_at m_start m_token m_value m_faultAt m_allowed m_firstPair m_secondPair m_above m_below m_tongue x1 x3   ho6) gX11_worst_X11_canSay rfl (by decide +kernel) ⟨rfl, rfl, Nat.le_of_ble_eq_true rfl, Nat.le_of_ble_eq_true rfl⟩ gm_T_ok (fun _ => trivial) [0, 2] rfl rfl rfl [0] rfl rfl rfl rfl hl.1 rfl (Nat.le_of_ble_eq_true rfl) dX11_worst_40 ⟨Nat.zero_le _, Nat.zero_le _⟩ (fun H locs hH => ?_)
        have hH : gm_H (dC, dI) A s (wX11_worst cI q q_refused q_tongue q_fresh q_kept q_isKept q_text q_said q_talk m_thrown m_size m_at m_start m_token m_value m_faultAt m_allowed m_firstPair m_secondPair m_above m_below m_refused m_tongue) H locs := hH
        obtain ⟨o7, ho7, h⟩ := gm_bind_e h
        refine gm_callS (As := [.int o6]) (rest := []) (n := 1) C0 hH (mX11_bits l dC dI    o6   ho7) gX11_worst_X11_bits rfl (by decide +kernel) ⟨rfl, rfl, Nat.le_of_ble_eq_true rfl, Nat.le_of_ble_eq_true rfl⟩ gm_T_ok (fun _ => trivial) [] rfl rfl rfl [] rfl rfl hl.1 rfl (Nat.le_of_ble_eq_true rfl) dX11_worst_43 ⟨Nat.zero_le _, Nat.zero_le _⟩ (fun H locs hH => ?_)
        have hH : gm_H (dC, dI) A s (wX11_worst cI q q_refused q_tongue q_fresh q_kept q_isKept q_text q_said q_talk m_thrown m_size m_at m_start m_token m_value m_faultAt m_allowed m_firstPair m_secondPair m_above m_below m_refused m_tongue) H locs := hH
        refine lv_aload_n hx hb dX11_worst_46 rfl (lv_at hl 0 rfl) ?_
        refine lv_iload_n hx hb dX11_worst_47 rfl (lv_at hl 1 rfl) ?_
        refine lv_iload_n hx hb dX11_worst_48 rfl (lv_at hl 2 rfl) ?_
        obtain ⟨o8, ho8, h⟩ := gm_bind_e h
        refine gm_callV (As := [.int x1, .int x2]) (rest := [.int o7]) (n := 2) (ci := 11) (q0 := 0) C0 hH (mX11_canSay l dC dI cI q q_tongue q_refused q_fresh q_kept q_isKept q_text q_said q_talk m_thrown m_size m_at m_start m_token m_value m_faultAt m_allowed m_firstPair m_secondPair m_above m_below m_tongue x1 x2   ho8) gX11_worst_X11_canSay rfl (by decide +kernel) ⟨rfl, rfl, Nat.le_of_ble_eq_true rfl, Nat.le_of_ble_eq_true rfl⟩ gm_T_ok (fun _ => trivial) [0, 2] rfl rfl rfl [0] rfl rfl rfl rfl hl.1 rfl (Nat.le_of_ble_eq_true rfl) dX11_worst_49 ⟨Nat.zero_le _, Nat.zero_le _⟩ (fun H locs hH => ?_)
        have hH : gm_H (dC, dI) A s (wX11_worst cI q q_refused q_tongue q_fresh q_kept q_isKept q_text q_said q_talk m_thrown m_size m_at m_start m_token m_value m_faultAt m_allowed m_firstPair m_secondPair m_above m_below m_refused m_tongue) H locs := hH
        obtain ⟨o9, ho9, h⟩ := gm_bind_e h
        refine gm_callS (As := [.int o8]) (rest := [.int o7]) (n := 1) C0 hH (mX11_bits l dC dI    o8   ho9) gX11_worst_X11_bits rfl (by decide +kernel) ⟨rfl, rfl, Nat.le_of_ble_eq_true rfl, Nat.le_of_ble_eq_true rfl⟩ gm_T_ok (fun _ => trivial) [] rfl rfl rfl [] rfl rfl hl.1 rfl (Nat.le_of_ble_eq_true rfl) dX11_worst_52 ⟨Nat.zero_le _, Nat.zero_le _⟩ (fun H locs hH => ?_)
        have hH : gm_H (dC, dI) A s (wX11_worst cI q q_refused q_tongue q_fresh q_kept q_isKept q_text q_said q_talk m_thrown m_size m_at m_start m_token m_value m_faultAt m_allowed m_firstPair m_secondPair m_above m_below m_refused m_tongue) H locs := hH
        refine lv_icmp_ge (tgt := 62) hx hb dX11_worst_55 (by decide) (fun hc10 => ?_) (fun hc10 => ?_)
        · replace h := gm_pos hc10 h
          refine lv_iload_n hx hb dX11_worst_62 rfl (lv_at hl 2 rfl) ?_
          exact tX11_worst_b63 C0 hr22 h hH (lv_sub hl [0, 1, 3] rfl)
        · replace h := gm_neg hc10 h
          exact tX11_worst_b58 C0 hr22 h hH (lv_sub hl [0, 1, 3] rfl)
set_option maxRecDepth 100000 in
set_option maxHeartbeats 4000000 in
theorem mX11_worst (l : Launch) (dC : Nat → ClassId) (dI : Nat → Nat → Nat) (cI : ClassId) (q q_refused q_tongue q_fresh q_kept q_isKept q_text q_said q_talk : Nat) (m_thrown : Int32) (m_size : Int32) (m_at : Int32) (m_start : Int32) (m_token : Int32) (m_value : Int64) (m_faultAt : Int32) (m_allowed : Int32) (m_firstPair : Int32) (m_secondPair : Int32) (m_above : Int64) (m_below : Int64) (m_refused : Nat → Int32) (m_tongue : Nat → Int32) (x1 : Int32)  {N : Nat} {out : Int32 × Int32 × (Nat → Int32)} (h : fX11_worst N m_thrown m_refused m_tongue x1 = some out) : gm_Met l yX11_worst wsX11_worst rX11_worst (dC, dI) [(cI, .int)] gm_T [.ref q, .int x1] (wX11_worst cI q q_refused q_tongue q_fresh q_kept q_isKept q_text q_said q_talk m_thrown m_size m_at m_start m_token m_value m_faultAt m_allowed m_firstPair m_secondPair m_above m_below m_refused m_tongue) (some (.int out.1)) (wX11_worst cI q q_refused q_tongue q_fresh q_kept q_isKept q_text q_said q_talk out.2.1 m_size m_at m_start m_token m_value m_faultAt m_allowed m_firstPair m_secondPair m_above m_below out.2.2 m_tongue) := by
  refine gm_ofW (cc := cX11_worst) (maxL := 4) (ret := (some .int)) (by decide +kernel) rfl (Nat.le_of_ble_eq_true rfl) ?_
  intro p e s m below meth c A C0 hH ls hl
  generalize ([.ref q, .int x1] : List Value).toArray = args at C0 ⊢
  have hl : lv_has ls 4 [(0, .ref q), (1, .int x1)] := hl
  generalize s.heap = H at hH ⊢
  generalize ([] : List Loc) = locs at hH ⊢
  obtain ⟨hx, hb, hml, hr, hown, hts, hA, hK, hX, hlocks⟩ := id C0
  unfold fX11_worst at h
  refine lv_aload_n hx hb dX11_worst_0 rfl (lv_at hl 0 rfl) ?_
  refine lv_iconst (v := 0) hx hb dX11_worst_1 (by decide) ?_
  refine gm_putf (ci := 11) C0 hH inX11_worst_X11 tyX11_ok nmX11 0 0 1 rfl rfl (by decide) rfl rfl rfl rfl rfl (Nat.le_of_ble_eq_true rfl) dX11_worst_2 (fun H locs hH => ?_)
  have hH : gm_H (dC, dI) A s (wX11_worst cI q q_refused q_tongue q_fresh q_kept q_isKept q_text q_said q_talk 0 m_size m_at m_start m_token m_value m_faultAt m_allowed m_firstPair m_secondPair m_above m_below m_refused m_tongue) H locs := hH
  refine lv_aload_n hx hb dX11_worst_5 rfl (lv_at hl 0 rfl) ?_
  refine lv_iload_n hx hb dX11_worst_6 rfl (lv_at hl 1 rfl) ?_
  obtain ⟨o1, ho1, h⟩ := gm_bind_e h
  refine gm_callV (As := [.int x1]) (rest := []) (n := 1) (ci := 11) (q0 := 0) C0 hH (mX11_noPerson l dC dI cI q q_tongue q_refused q_fresh q_kept q_isKept q_text q_said q_talk 0 m_size m_at m_start m_token m_value m_faultAt m_allowed m_firstPair m_secondPair m_above m_below m_tongue x1   ho1) gX11_worst_X11_noPerson rfl (by decide +kernel) ⟨rfl, rfl, Nat.le_of_ble_eq_true rfl, Nat.le_of_ble_eq_true rfl⟩ gm_T_ok (fun _ => trivial) [0, 2] rfl rfl rfl [0] rfl rfl rfl rfl hl.1 rfl (Nat.le_of_ble_eq_true rfl) dX11_worst_7 ⟨Nat.zero_le _, Nat.zero_le _⟩ (fun H locs hH => ?_)
  have hH : gm_H (dC, dI) A s (wX11_worst cI q q_refused q_tongue q_fresh q_kept q_isKept q_text q_said q_talk 0 m_size m_at m_start m_token m_value m_faultAt m_allowed m_firstPair m_secondPair m_above m_below m_refused m_tongue) H locs := hH
  refine lv_if_eq (tgt := 18) hx hb dX11_worst_10 (by decide) (fun hc2 => ?_) (fun hc2 => ?_)
  · replace h := gm_pos hc2 h
    refine lv_iconst (v := (-1)) hx hb dX11_worst_18 (by decide) ?_
    refine lv_istore_n (lv' := [(2, .int (-1)), (0, .ref q), (1, .int x1)]) hx hb dX11_worst_19 rfl hl (by decide) rfl (fun ls hl => ?_)
    refine lv_iconst (v := 0) hx hb dX11_worst_20 (by decide) ?_
    refine lv_istore_n (lv' := [(3, .int 0), (2, .int (-1)), (0, .ref q), (1, .int x1)]) hx hb dX11_worst_21 rfl hl (by decide) rfl (fun ls hl => ?_)
    unfold fX11_worst_b22 at h
    exact tX11_worst_b22 C0  _ _ _ _ _ _ h hH (lv_sub hl [2, 3, 1, 0] rfl)
  · replace h := gm_neg hc2 h
    refine lv_aload_n hx hb dX11_worst_13 rfl (lv_at hl 0 rfl) ?_
    obtain ⟨o11, ho11, h⟩ := gm_bind_e h
    refine gm_callV (As := []) (rest := []) (n := 0) (ci := 11) (q0 := 0) C0 hH (mX11_bad l dC dI cI q q_refused q_tongue q_fresh q_kept q_isKept q_text q_said q_talk 0 m_size m_at m_start m_token m_value m_faultAt m_allowed m_firstPair m_secondPair m_above m_below m_refused    ho11) gX11_worst_X11_bad rfl (by decide +kernel) ⟨rfl, rfl, Nat.le_of_ble_eq_true rfl, Nat.le_of_ble_eq_true rfl⟩ gm_T_ok (fun _ => trivial) [0, 1] rfl rfl rfl [0] rfl rfl rfl rfl hl.1 rfl (Nat.le_of_ble_eq_true rfl) dX11_worst_14 ⟨Nat.zero_le _, Nat.zero_le _⟩ (fun H locs hH => ?_)
    have hH : gm_H (dC, dI) A s (wX11_worst cI q q_refused q_tongue q_fresh q_kept q_isKept q_text q_said q_talk 0 m_size m_at m_start m_token m_value m_faultAt m_allowed m_firstPair m_secondPair m_above m_below o11.2 m_tongue) H locs := hH
    obtain rfl := Option.some.inj h
    exact gm_iret C0 hH dX11_worst_17

/-! X11_canSayAll -/
abbrev wX11_canSayAll (cI : ClassId) (q q_tongue q_refused q_fresh q_kept q_isKept q_text q_said q_talk : Nat) (m_thrown : Int32) (m_size : Int32) (m_at : Int32) (m_start : Int32) (m_token : Int32) (m_value : Int64) (m_faultAt : Int32) (m_allowed : Int32) (m_firstPair : Int32) (m_secondPair : Int32) (m_above : Int64) (m_below : Int64) (m_tongue : Nat → Int32) : va_W := [(q, .inr (11, [.int m_thrown, .ref q_refused, .ref q_tongue, .ref q_fresh, .ref q_kept, .ref q_isKept, .ref q_text, .int m_size, .int m_at, .int m_start, .int m_token, .long m_value, .int m_faultAt, .ref q_said, .ref q_talk, .int m_allowed, .int m_firstPair, .int m_secondPair, .long m_above, .long m_below])), (q_tongue, .inl (cI, 73, .inl m_tongue))]
abbrev rX11_canSayAll : Room := { frames := 7, cells := 0, slots := 0, locals := 157 }
def fX11_canSayAll_b32 (N : Nat)  (x2 : Int32) (x3 : Int32) : Option (Int32) := (if (x2 &&& (x3 ^^^ (-1))) = 0 then some (1) else some (0))
def fX11_canSayAll_b5_body (N : Nat)  (m_tongue : Nat → Int32) (x1 : Int32) (x2 : Int32) (r5 : Int32 → Int32 → Option (Int32)) (x3 : Int32) (x4 : Int32) : Option (Int32) := gm_chk 0 73 ((if (m_tongue (Int32.toNatClampNeg 0)) ≤ x4 then (fX11_canSayAll_b32 N  x2 x3) else gm_bind (fX11_canSay N m_tongue x1 x4) (fun o4 => gm_let ((x3 ||| o4) : Int32) (fun (v5 : Int32) => (r5 v5 ((x4 + 1)))))))
def fX11_canSayAll_b5 (N : Nat)  (m_tongue : Nat → Int32) (x1 : Int32) (x2 : Int32) (x3 : Int32) (x4 : Int32) : Option (Int32) := gm_fix (fX11_canSayAll_b5_body N  m_tongue x1 x2) (fun _ _ => none) N x3 x4
def fX11_canSayAll (N : Nat) (m_tongue : Nat → Int32) (x1 : Int32) (x2 : Int32) : Option (Int32) := (fX11_canSayAll_b5 N  m_tongue x1 x2 0 0)
set_option maxRecDepth 20000 in
theorem inX11_canSayAll_X11 : ∀ w ∈ u_ws RX11 TX11 20, w ∈ wsX11_canSayAll := fun w h => by
  obtain ⟨k, hk, rfl⟩ := List.mem_map.mp h
  have hk2 := List.mem_range.mp hk
  exact List.mem_of_getElem? (i := 54 + k) (by rcases (show k = 0 ∨ k = 1 ∨ k = 2 ∨ k = 3 ∨ k = 4 ∨ k = 5 ∨ k = 6 ∨ k = 7 ∨ k = 8 ∨ k = 9 ∨ k = 10 ∨ k = 11 ∨ k = 12 ∨ k = 13 ∨ k = 14 ∨ k = 15 ∨ k = 16 ∨ k = 17 ∨ k = 18 ∨ k = 19 by omega) with rfl | rfl | rfl | rfl | rfl | rfl | rfl | rfl | rfl | rfl | rfl | rfl | rfl | rfl | rfl | rfl | rfl | rfl | rfl | rfl <;> rfl)
set_option maxRecDepth 100000 in
set_option maxHeartbeats 4000000 in
theorem tX11_canSayAll_b32 {p : Program} {l : Launch} {e : Env} {s : State} {m : MethodId} {args : Array Value} {below : List Frame} {meth : Method} {c : Code} {A : Nat → Prop} {dC : Nat → ClassId} {dI : Nat → Nat → Nat} {cI : ClassId} {q q_tongue q_refused q_fresh q_kept q_isKept q_text q_said q_talk : Nat} {m_thrown : Int32} {m_size : Int32} {m_at : Int32} {m_start : Int32} {m_token : Int32} {m_value : Int64} {m_faultAt : Int32} {m_allowed : Int32} {m_firstPair : Int32} {m_secondPair : Int32} {m_above : Int64} {m_below : Int64} {m_tongue : Nat → Int32} {x2 : Int32} {x3 : Int32} (C0 : gm_C p s m args meth c (dC, dI) [(cI, .int)] A gm_T RX11 cX11_canSayAll 5 (some .boolean) wsX11_canSayAll) {N : Nat} {out : Int32}    {H : Heap} {locs : List Loc} {ls : Array Slot} (h : fX11_canSayAll_b32 N  x2 x3 = some out) (hH : gm_H (dC, dI) A s (wX11_canSayAll cI q q_tongue q_refused q_fresh q_kept q_isKept q_text q_said q_talk m_thrown m_size m_at m_start m_token m_value m_faultAt m_allowed m_firstPair m_secondPair m_above m_below m_tongue) H locs) (hl : lv_has ls 5 [(2, .int x2), (3, .int x3)]) : W p l e rX11_canSayAll s m args below meth c H locs 0 0 (MQ below (gm_Q (dC, dI) [(cI, .int)] A (some (.int out)) (wX11_canSayAll cI q q_tongue q_refused q_fresh q_kept q_isKept q_text q_said q_talk m_thrown m_size m_at m_start m_token m_value m_faultAt m_allowed m_firstPair m_secondPair m_above m_below m_tongue)) args s 0 0 A) (F0 m 32 ls []) := by
  obtain ⟨hx, hb, hml, hr, hown, hts, hA, hK, hX, hlocks⟩ := id C0
  unfold fX11_canSayAll_b32 at h
  refine lv_iload_n hx hb dX11_canSayAll_32 rfl (lv_at hl 0 rfl) ?_
  refine lv_iload_n hx hb dX11_canSayAll_33 rfl (lv_at hl 1 rfl) ?_
  refine lv_iconst (v := (-1)) hx hb dX11_canSayAll_34 (by decide) ?_
  refine lv_ixor hx hb dX11_canSayAll_35 ?_
  refine lv_iand hx hb dX11_canSayAll_36 ?_
  refine lv_if_ne (tgt := 44) hx hb dX11_canSayAll_37 (by decide) (fun hc3 => ?_) (fun hc3 => ?_)
  · replace h := gm_neg hc3 h
    refine lv_iconst (v := 0) hx hb dX11_canSayAll_44 (by decide) ?_
    obtain rfl := Option.some.inj h
    exact gm_zret C0 hH (show narrow .boolean (.int 0) = .int 0 by decide) dX11_canSayAll_45
  · replace h := gm_pos hc3 h
    refine lv_iconst (v := 1) hx hb dX11_canSayAll_40 (by decide) ?_
    refine lv_goto (tgt := 45) hx hb dX11_canSayAll_41 (by decide) ?_
    obtain rfl := Option.some.inj h
    exact gm_zret C0 hH (show narrow .boolean (.int 1) = .int 1 by decide) dX11_canSayAll_45
set_option maxRecDepth 100000 in
set_option maxHeartbeats 4000000 in
theorem tX11_canSayAll_b5 {p : Program} {l : Launch} {e : Env} {s : State} {m : MethodId} {args : Array Value} {below : List Frame} {meth : Method} {c : Code} {A : Nat → Prop} {dC : Nat → ClassId} {dI : Nat → Nat → Nat} {cI : ClassId} {q q_tongue q_refused q_fresh q_kept q_isKept q_text q_said q_talk : Nat} {m_thrown : Int32} {m_size : Int32} {m_at : Int32} {m_start : Int32} {m_token : Int32} {m_value : Int64} {m_faultAt : Int32} {m_allowed : Int32} {m_firstPair : Int32} {m_secondPair : Int32} {m_above : Int64} {m_below : Int64} {m_tongue : Nat → Int32} {x1 : Int32} {x2 : Int32} (C0 : gm_C p s m args meth c (dC, dI) [(cI, .int)] A gm_T RX11 cX11_canSayAll 5 (some .boolean) wsX11_canSayAll) {N : Nat} {out : Int32}   : ∀ (n : Nat), ∀ (x3 : Int32) (x4 : Int32) (H : Heap) (locs : List Loc) (ls : Array Slot), (gm_fix (fX11_canSayAll_b5_body N  m_tongue x1 x2) (fun _ _ => none) n) x3 x4 = some out → gm_H (dC, dI) A s (wX11_canSayAll cI q q_tongue q_refused q_fresh q_kept q_isKept q_text q_said q_talk m_thrown m_size m_at m_start m_token m_value m_faultAt m_allowed m_firstPair m_secondPair m_above m_below m_tongue) H locs → lv_has ls 5 [(0, .ref q), (1, .int x1), (2, .int x2), (3, .int x3), (4, .int x4)] → W p l e rX11_canSayAll s m args below meth c H locs 0 0 (MQ below (gm_Q (dC, dI) [(cI, .int)] A (some (.int out)) (wX11_canSayAll cI q q_tongue q_refused q_fresh q_kept q_isKept q_text q_said q_talk m_thrown m_size m_at m_start m_token m_value m_faultAt m_allowed m_firstPair m_secondPair m_above m_below m_tongue)) args s 0 0 A) (F0 m 5 ls []) := by
  obtain ⟨hx, hb, hml, hr, hown, hts, hA, hK, hX, hlocks⟩ := id C0
  intro n
  induction n with
  | zero =>
    intro x3 x4 H locs ls h hH hl
    cases h
  | succ n hr5 =>
    intro x3 x4 H locs ls h hH hl
    rw [gm_fix_s] at h
    unfold fX11_canSayAll_b5_body at h
    refine lv_iload hx hb dX11_canSayAll_5 (lv_at hl 4 rfl) ?_
    refine lv_aload_n hx hb dX11_canSayAll_7 rfl (lv_at hl 0 rfl) ?_
    refine gm_get (ci := 11) C0 hH inX11_canSayAll_X11 0 2 1 rfl rfl (by decide) rfl rfl dX11_canSayAll_8 ?_
    refine lv_iconst (v := 0) hx hb dX11_canSayAll_11 (by decide) ?_
    obtain ⟨hi1, h⟩ := gm_chk_e h
    refine gm_iald C0 hH hi1 1 0 rfl rfl dX11_canSayAll_12 ?_
    refine lv_icmp_ge (tgt := 32) hx hb dX11_canSayAll_13 (by decide) (fun hc2 => ?_) (fun hc2 => ?_)
    · replace h := gm_pos hc2 h
      exact tX11_canSayAll_b32 C0  h hH (lv_sub hl [2, 3] rfl)
    · replace h := gm_neg hc2 h
      refine lv_iload_n hx hb dX11_canSayAll_16 rfl (lv_at hl 3 rfl) ?_
      refine lv_aload_n hx hb dX11_canSayAll_17 rfl (lv_at hl 0 rfl) ?_
      refine lv_iload_n hx hb dX11_canSayAll_18 rfl (lv_at hl 1 rfl) ?_
      refine lv_iload hx hb dX11_canSayAll_19 (lv_at hl 4 rfl) ?_
      obtain ⟨o4, ho4, h⟩ := gm_bind_e h
      refine gm_callV (As := [.int x1, .int x4]) (rest := [.int x3]) (n := 2) (ci := 11) (q0 := 0) C0 hH (mX11_canSay l dC dI cI q q_tongue q_refused q_fresh q_kept q_isKept q_text q_said q_talk m_thrown m_size m_at m_start m_token m_value m_faultAt m_allowed m_firstPair m_secondPair m_above m_below m_tongue x1 x4   ho4) gX11_canSayAll_X11_canSay rfl (by decide +kernel) ⟨rfl, rfl, Nat.le_of_ble_eq_true rfl, Nat.le_of_ble_eq_true rfl⟩ gm_T_ok (fun _ => trivial) [0, 1] rfl rfl rfl [0] rfl rfl rfl rfl hl.1 rfl (Nat.le_of_ble_eq_true rfl) dX11_canSayAll_21 ⟨Nat.zero_le _, Nat.zero_le _⟩ (fun H locs hH => ?_)
      have hH : gm_H (dC, dI) A s (wX11_canSayAll cI q q_tongue q_refused q_fresh q_kept q_isKept q_text q_said q_talk m_thrown m_size m_at m_start m_token m_value m_faultAt m_allowed m_firstPair m_secondPair m_above m_below m_tongue) H locs := hH
      refine lv_ior hx hb dX11_canSayAll_24 ?_
      refine lv_topi (fun v5 ev5 => ?_)
      replace h := gm_let_e ev5 h
      refine lv_istore_n (lv' := [(3, .int v5), (0, .ref q), (1, .int x1), (2, .int x2), (4, .int x4)]) hx hb dX11_canSayAll_25 rfl hl (by decide) rfl (fun ls hl => ?_)
      refine lv_iinc (v := (x4 + 1)) (lv' := [(4, .int (x4 + 1)), (3, .int v5), (0, .ref q), (1, .int x1), (2, .int x2)]) hx hb dX11_canSayAll_26 hl (k := 4) rfl rfl (by decide) rfl (fun ls hl => ?_)
      refine lv_goto (tgt := 5) hx hb dX11_canSayAll_29 (by decide) ?_
      exact hr5 _ _ _ _ _ h hH (lv_sub hl [2, 3, 4, 1, 0] rfl)
set_option maxRecDepth 100000 in
set_option maxHeartbeats 4000000 in
theorem mX11_canSayAll (l : Launch) (dC : Nat → ClassId) (dI : Nat → Nat → Nat) (cI : ClassId) (q q_tongue q_refused q_fresh q_kept q_isKept q_text q_said q_talk : Nat) (m_thrown : Int32) (m_size : Int32) (m_at : Int32) (m_start : Int32) (m_token : Int32) (m_value : Int64) (m_faultAt : Int32) (m_allowed : Int32) (m_firstPair : Int32) (m_secondPair : Int32) (m_above : Int64) (m_below : Int64) (m_tongue : Nat → Int32) (x1 : Int32) (x2 : Int32)  {N : Nat} {out : Int32} (h : fX11_canSayAll N m_tongue x1 x2 = some out) : gm_Met l yX11_canSayAll wsX11_canSayAll rX11_canSayAll (dC, dI) [(cI, .int)] gm_T [.ref q, .int x1, .int x2] (wX11_canSayAll cI q q_tongue q_refused q_fresh q_kept q_isKept q_text q_said q_talk m_thrown m_size m_at m_start m_token m_value m_faultAt m_allowed m_firstPair m_secondPair m_above m_below m_tongue) (some (.int out)) (wX11_canSayAll cI q q_tongue q_refused q_fresh q_kept q_isKept q_text q_said q_talk m_thrown m_size m_at m_start m_token m_value m_faultAt m_allowed m_firstPair m_secondPair m_above m_below m_tongue) := by
  refine gm_ofW (cc := cX11_canSayAll) (maxL := 5) (ret := (some .boolean)) (by decide +kernel) rfl (Nat.le_of_ble_eq_true rfl) ?_
  intro p e s m below meth c A C0 hH ls hl
  generalize ([.ref q, .int x1, .int x2] : List Value).toArray = args at C0 ⊢
  have hl : lv_has ls 5 [(0, .ref q), (1, .int x1), (2, .int x2)] := hl
  generalize s.heap = H at hH ⊢
  generalize ([] : List Loc) = locs at hH ⊢
  obtain ⟨hx, hb, hml, hr, hown, hts, hA, hK, hX, hlocks⟩ := id C0
  unfold fX11_canSayAll at h
  refine lv_iconst (v := 0) hx hb dX11_canSayAll_0 (by decide) ?_
  refine lv_istore_n (lv' := [(3, .int 0), (0, .ref q), (1, .int x1), (2, .int x2)]) hx hb dX11_canSayAll_1 rfl hl (by decide) rfl (fun ls hl => ?_)
  refine lv_iconst (v := 0) hx hb dX11_canSayAll_2 (by decide) ?_
  refine lv_istore (lv' := [(4, .int 0), (3, .int 0), (0, .ref q), (1, .int x1), (2, .int x2)]) hx hb dX11_canSayAll_3 hl (by decide) rfl (fun ls hl => ?_)
  unfold fX11_canSayAll_b5 at h
  exact tX11_canSayAll_b5 C0  _ _ _ _ _ _ h hH (lv_sub hl [2, 3, 4, 1, 0] rfl)

/-! X11_isFree -/
abbrev wX11_isFree (cI : ClassId) (q q_tongue q_refused q_fresh q_kept q_isKept q_text q_said q_talk : Nat) (m_thrown : Int32) (m_size : Int32) (m_at : Int32) (m_start : Int32) (m_token : Int32) (m_value : Int64) (m_faultAt : Int32) (m_allowed : Int32) (m_firstPair : Int32) (m_secondPair : Int32) (m_above : Int64) (m_below : Int64) (m_tongue : Nat → Int32) : va_W := [(q, .inr (11, [.int m_thrown, .ref q_refused, .ref q_tongue, .ref q_fresh, .ref q_kept, .ref q_isKept, .ref q_text, .int m_size, .int m_at, .int m_start, .int m_token, .long m_value, .int m_faultAt, .ref q_said, .ref q_talk, .int m_allowed, .int m_firstPair, .int m_secondPair, .long m_above, .long m_below])), (q_tongue, .inl (cI, 73, .inl m_tongue))]
abbrev rX11_isFree : Room := { frames := 1, cells := 0, slots := 0, locals := 21 }
def fX11_isFree (N : Nat) (m_tongue : Nat → Int32) (x1 : Int32) : Option (Int32) := gm_nz 10 (gm_let ((x1 / 10) : Int32) (fun (v2 : Int32) => gm_nz 10 (gm_let ((x1 - x1 / 10 * 10) : Int32) (fun (v4 : Int32) => (if v4 ≤ v2 then some (0) else (if 8 ≤ v4 then some (0) else gm_chk ((45 + v2)) 73 (gm_bind (fX11_has N ((m_tongue (Int32.toNatClampNeg ((45 + v2))))) v4) (fun o8 => (if o8 = 0 then some (1) else some (0))))))))))
set_option maxRecDepth 20000 in
theorem inX11_isFree_X11 : ∀ w ∈ u_ws RX11 TX11 20, w ∈ wsX11_isFree := fun w h => by
  obtain ⟨k, hk, rfl⟩ := List.mem_map.mp h
  have hk2 := List.mem_range.mp hk
  exact List.mem_of_getElem? (i := 6 + k) (by rcases (show k = 0 ∨ k = 1 ∨ k = 2 ∨ k = 3 ∨ k = 4 ∨ k = 5 ∨ k = 6 ∨ k = 7 ∨ k = 8 ∨ k = 9 ∨ k = 10 ∨ k = 11 ∨ k = 12 ∨ k = 13 ∨ k = 14 ∨ k = 15 ∨ k = 16 ∨ k = 17 ∨ k = 18 ∨ k = 19 by omega) with rfl | rfl | rfl | rfl | rfl | rfl | rfl | rfl | rfl | rfl | rfl | rfl | rfl | rfl | rfl | rfl | rfl | rfl | rfl | rfl <;> rfl)
set_option maxRecDepth 100000 in
set_option maxHeartbeats 4000000 in
theorem mX11_isFree (l : Launch) (dC : Nat → ClassId) (dI : Nat → Nat → Nat) (cI : ClassId) (q q_tongue q_refused q_fresh q_kept q_isKept q_text q_said q_talk : Nat) (m_thrown : Int32) (m_size : Int32) (m_at : Int32) (m_start : Int32) (m_token : Int32) (m_value : Int64) (m_faultAt : Int32) (m_allowed : Int32) (m_firstPair : Int32) (m_secondPair : Int32) (m_above : Int64) (m_below : Int64) (m_tongue : Nat → Int32) (x1 : Int32)  {N : Nat} {out : Int32} (h : fX11_isFree N m_tongue x1 = some out) : gm_Met l yX11_isFree wsX11_isFree rX11_isFree (dC, dI) [(cI, .int)] gm_T [.ref q, .int x1] (wX11_isFree cI q q_tongue q_refused q_fresh q_kept q_isKept q_text q_said q_talk m_thrown m_size m_at m_start m_token m_value m_faultAt m_allowed m_firstPair m_secondPair m_above m_below m_tongue) (some (.int out)) (wX11_isFree cI q q_tongue q_refused q_fresh q_kept q_isKept q_text q_said q_talk m_thrown m_size m_at m_start m_token m_value m_faultAt m_allowed m_firstPair m_secondPair m_above m_below m_tongue) := by
  refine gm_ofW (cc := cX11_isFree) (maxL := 4) (ret := (some .boolean)) (by decide +kernel) rfl (Nat.le_of_ble_eq_true rfl) ?_
  intro p e s m below meth c A C0 hH ls hl
  generalize ([.ref q, .int x1] : List Value).toArray = args at C0 ⊢
  have hl : lv_has ls 4 [(0, .ref q), (1, .int x1)] := hl
  generalize s.heap = H at hH ⊢
  generalize ([] : List Loc) = locs at hH ⊢
  obtain ⟨hx, hb, hml, hr, hown, hts, hA, hK, hX, hlocks⟩ := id C0
  unfold fX11_isFree at h
  refine lv_iload_n hx hb dX11_isFree_0 rfl (lv_at hl 1 rfl) ?_
  refine lv_bipush (v := 10) hx hb dX11_isFree_1 (by decide) ?_
  obtain ⟨hz1, h⟩ := gm_nz_e h
  refine lv_idiv hx hb dX11_isFree_3 hz1 ?_
  refine lv_topi (fun v2 ev2 => ?_)
  replace h := gm_let_e ev2 h
  refine lv_istore_n (lv' := [(2, .int v2), (0, .ref q), (1, .int x1)]) hx hb dX11_isFree_4 rfl hl (by decide) rfl (fun ls hl => ?_)
  refine lv_iload_n hx hb dX11_isFree_5 rfl (lv_at hl 2 rfl) ?_
  refine lv_bipush (v := 10) hx hb dX11_isFree_6 (by decide) ?_
  obtain ⟨hz3, h⟩ := gm_nz_e h
  refine lv_irem hx hb dX11_isFree_8 hz3 ?_
  refine lv_topi (fun v4 ev4 => ?_)
  replace h := gm_let_e ev4 h
  refine lv_istore_n (lv' := [(3, .int v4), (2, .int v2), (0, .ref q), (1, .int x1)]) hx hb dX11_isFree_9 rfl hl (by decide) rfl (fun ls hl => ?_)
  refine lv_iload_n hx hb dX11_isFree_10 rfl (lv_at hl 1 rfl) ?_
  refine lv_iload_n hx hb dX11_isFree_11 rfl (lv_at hl 0 rfl) ?_
  refine lv_icmp_ge (tgt := 41) hx hb dX11_isFree_12 (by decide) (fun hc5 => ?_) (fun hc5 => ?_)
  · replace h := gm_pos hc5 h
    refine lv_iconst (v := 0) hx hb dX11_isFree_41 (by decide) ?_
    obtain rfl := Option.some.inj h
    exact gm_zret C0 hH (show narrow .boolean (.int 0) = .int 0 by decide) dX11_isFree_42
  · replace h := gm_neg hc5 h
    refine lv_iload_n hx hb dX11_isFree_15 rfl (lv_at hl 0 rfl) ?_
    refine lv_bipush (v := 8) hx hb dX11_isFree_16 (by decide) ?_
    refine lv_icmp_ge (tgt := 41) hx hb dX11_isFree_18 (by decide) (fun hc6 => ?_) (fun hc6 => ?_)
    · replace h := gm_pos hc6 h
      refine lv_iconst (v := 0) hx hb dX11_isFree_41 (by decide) ?_
      obtain rfl := Option.some.inj h
      exact gm_zret C0 hH (show narrow .boolean (.int 0) = .int 0 by decide) dX11_isFree_42
    · replace h := gm_neg hc6 h
      refine lv_aload_n hx hb dX11_isFree_21 rfl (lv_at hl 2 rfl) ?_
      refine gm_get (ci := 11) C0 hH inX11_isFree_X11 0 2 1 rfl rfl (by decide) rfl rfl dX11_isFree_22 ?_
      refine lv_bipush (v := 45) hx hb dX11_isFree_25 (by decide) ?_
      refine lv_iload_n hx hb dX11_isFree_27 rfl (lv_at hl 1 rfl) ?_
      refine lv_iadd hx hb dX11_isFree_28 ?_
      obtain ⟨hi7, h⟩ := gm_chk_e h
      refine gm_iald C0 hH hi7 1 0 rfl rfl dX11_isFree_29 ?_
      refine lv_iload_n hx hb dX11_isFree_30 rfl (lv_at hl 0 rfl) ?_
      obtain ⟨o8, ho8, h⟩ := gm_bind_e h
      refine gm_callS (As := [.int (m_tongue (Int32.toNatClampNeg ((45 + v2)))), .int v4]) (rest := []) (n := 2) C0 hH (mX11_has l dC dI    ((m_tongue (Int32.toNatClampNeg ((45 + v2))))) v4   ho8) gX11_isFree_X11_has rfl (by decide +kernel) ⟨rfl, rfl, Nat.le_of_ble_eq_true rfl, Nat.le_of_ble_eq_true rfl⟩ gm_T_ok (fun _ => trivial) [] rfl rfl rfl [] rfl rfl hl.1 rfl (Nat.le_of_ble_eq_true rfl) dX11_isFree_31 ⟨Nat.zero_le _, Nat.zero_le _⟩ (fun H locs hH => ?_)
      have hH : gm_H (dC, dI) A s (wX11_isFree cI q q_tongue q_refused q_fresh q_kept q_isKept q_text q_said q_talk m_thrown m_size m_at m_start m_token m_value m_faultAt m_allowed m_firstPair m_secondPair m_above m_below m_tongue) H locs := hH
      refine lv_if_ne (tgt := 41) hx hb dX11_isFree_34 (by decide) (fun hc9 => ?_) (fun hc9 => ?_)
      · replace h := gm_neg hc9 h
        refine lv_iconst (v := 0) hx hb dX11_isFree_41 (by decide) ?_
        obtain rfl := Option.some.inj h
        exact gm_zret C0 hH (show narrow .boolean (.int 0) = .int 0 by decide) dX11_isFree_42
      · replace h := gm_pos hc9 h
        refine lv_iconst (v := 1) hx hb dX11_isFree_37 (by decide) ?_
        refine lv_goto (tgt := 42) hx hb dX11_isFree_38 (by decide) ?_
        obtain rfl := Option.some.inj h
        exact gm_zret C0 hH (show narrow .boolean (.int 1) = .int 1 by decide) dX11_isFree_42

/-! X11_canSayWith -/
abbrev wX11_canSayWith (cI : ClassId) (q q_tongue q_refused q_fresh q_kept q_isKept q_text q_said q_talk : Nat) (m_thrown : Int32) (m_size : Int32) (m_at : Int32) (m_start : Int32) (m_token : Int32) (m_value : Int64) (m_faultAt : Int32) (m_allowed : Int32) (m_firstPair : Int32) (m_secondPair : Int32) (m_above : Int64) (m_below : Int64) (m_tongue : Nat → Int32) : va_W := [(q, .inr (11, [.int m_thrown, .ref q_refused, .ref q_tongue, .ref q_fresh, .ref q_kept, .ref q_isKept, .ref q_text, .int m_size, .int m_at, .int m_start, .int m_token, .long m_value, .int m_faultAt, .ref q_said, .ref q_talk, .int m_allowed, .int m_firstPair, .int m_secondPair, .long m_above, .long m_below])), (q_tongue, .inl (cI, 73, .inl m_tongue))]
abbrev rX11_canSayWith : Room := { frames := 8, cells := 0, slots := 0, locals := 181 }
def fX11_canSayWith (N : Nat) (m_tongue : Nat → Int32) (x1 : Int32) (x2 : Int32) (x3 : Int32) (x4 : Int32) : Option (Int32 × (Nat → Int32)) := gm_nz 10 (gm_nz 10 (gm_bind (fX11_setAlike N m_tongue ((x3 / 10)) ((x3 - x3 / 10 * 10)) 1) (fun o3 => gm_nz 10 (gm_nz 10 (gm_bind (fX11_setAlike N o3 ((x4 / 10)) ((x4 - x4 / 10 * 10)) 1) (fun o6 => gm_bind (fX11_canSayAll N o6 x1 x2) (fun o7 => gm_nz 10 (gm_nz 10 (gm_bind (fX11_setAlike N o6 ((x3 / 10)) ((x3 - x3 / 10 * 10)) 0) (fun o10 => gm_nz 10 (gm_nz 10 (gm_bind (fX11_setAlike N o10 ((x4 / 10)) ((x4 - x4 / 10 * 10)) 0) (fun o13 => gm_bl o7 (some (o7, o13)))))))))))))))
set_option maxRecDepth 20000 in
theorem inX11_canSayWith_X11 : ∀ w ∈ u_ws RX11 TX11 20, w ∈ wsX11_canSayWith := fun w h => by
  obtain ⟨k, hk, rfl⟩ := List.mem_map.mp h
  have hk2 := List.mem_range.mp hk
  exact List.mem_of_getElem? (i := 61 + k) (by rcases (show k = 0 ∨ k = 1 ∨ k = 2 ∨ k = 3 ∨ k = 4 ∨ k = 5 ∨ k = 6 ∨ k = 7 ∨ k = 8 ∨ k = 9 ∨ k = 10 ∨ k = 11 ∨ k = 12 ∨ k = 13 ∨ k = 14 ∨ k = 15 ∨ k = 16 ∨ k = 17 ∨ k = 18 ∨ k = 19 by omega) with rfl | rfl | rfl | rfl | rfl | rfl | rfl | rfl | rfl | rfl | rfl | rfl | rfl | rfl | rfl | rfl | rfl | rfl | rfl | rfl <;> rfl)
set_option maxRecDepth 100000 in
set_option maxHeartbeats 4000000 in
theorem mX11_canSayWith (l : Launch) (dC : Nat → ClassId) (dI : Nat → Nat → Nat) (cI : ClassId) (q q_tongue q_refused q_fresh q_kept q_isKept q_text q_said q_talk : Nat) (m_thrown : Int32) (m_size : Int32) (m_at : Int32) (m_start : Int32) (m_token : Int32) (m_value : Int64) (m_faultAt : Int32) (m_allowed : Int32) (m_firstPair : Int32) (m_secondPair : Int32) (m_above : Int64) (m_below : Int64) (m_tongue : Nat → Int32) (x1 : Int32) (x2 : Int32) (x3 : Int32) (x4 : Int32)  {N : Nat} {out : Int32 × (Nat → Int32)} (h : fX11_canSayWith N m_tongue x1 x2 x3 x4 = some out) : gm_Met l yX11_canSayWith wsX11_canSayWith rX11_canSayWith (dC, dI) [(cI, .int)] gm_T [.ref q, .int x1, .int x2, .int x3, .int x4] (wX11_canSayWith cI q q_tongue q_refused q_fresh q_kept q_isKept q_text q_said q_talk m_thrown m_size m_at m_start m_token m_value m_faultAt m_allowed m_firstPair m_secondPair m_above m_below m_tongue) (some (.int out.1)) (wX11_canSayWith cI q q_tongue q_refused q_fresh q_kept q_isKept q_text q_said q_talk m_thrown m_size m_at m_start m_token m_value m_faultAt m_allowed m_firstPair m_secondPair m_above m_below out.2) := by
  refine gm_ofW (cc := cX11_canSayWith) (maxL := 6) (ret := (some .boolean)) (by decide +kernel) rfl (Nat.le_of_ble_eq_true rfl) ?_
  intro p e s m below meth c A C0 hH ls hl
  generalize ([.ref q, .int x1, .int x2, .int x3, .int x4] : List Value).toArray = args at C0 ⊢
  have hl : lv_has ls 6 [(0, .ref q), (1, .int x1), (2, .int x2), (3, .int x3), (4, .int x4)] := hl
  generalize s.heap = H at hH ⊢
  generalize ([] : List Loc) = locs at hH ⊢
  obtain ⟨hx, hb, hml, hr, hown, hts, hA, hK, hX, hlocks⟩ := id C0
  unfold fX11_canSayWith at h
  refine lv_aload_n hx hb dX11_canSayWith_0 rfl (lv_at hl 0 rfl) ?_
  refine gm_get (ci := 11) C0 hH inX11_canSayWith_X11 0 2 1 rfl rfl (by decide) rfl rfl dX11_canSayWith_1 ?_
  refine lv_iload_n hx hb dX11_canSayWith_4 rfl (lv_at hl 3 rfl) ?_
  refine lv_bipush (v := 10) hx hb dX11_canSayWith_5 (by decide) ?_
  obtain ⟨hz1, h⟩ := gm_nz_e h
  refine lv_idiv hx hb dX11_canSayWith_7 hz1 ?_
  refine lv_iload_n hx hb dX11_canSayWith_8 rfl (lv_at hl 3 rfl) ?_
  refine lv_bipush (v := 10) hx hb dX11_canSayWith_9 (by decide) ?_
  obtain ⟨hz2, h⟩ := gm_nz_e h
  refine lv_irem hx hb dX11_canSayWith_11 hz2 ?_
  refine lv_iconst (v := 1) hx hb dX11_canSayWith_12 (by decide) ?_
  obtain ⟨o3, ho3, h⟩ := gm_bind_e h
  refine gm_callS (As := [.ref q_tongue, .int (x3 / 10), .int (x3 - x3 / 10 * 10), .int 1]) (rest := []) (n := 4) C0 hH (mX11_setAlike l dC dI cI q_tongue m_tongue ((x3 / 10)) ((x3 - x3 / 10 * 10)) 1   ho3) gX11_canSayWith_X11_setAlike rfl (by decide +kernel) ⟨rfl, rfl, Nat.le_of_ble_eq_true rfl, Nat.le_of_ble_eq_true rfl⟩ gm_T_ok (fun _ => trivial) [1] rfl rfl rfl [0] rfl rfl hl.1 rfl (Nat.le_of_ble_eq_true rfl) dX11_canSayWith_13 ⟨Nat.zero_le _, Nat.zero_le _⟩ (fun H locs hH => ?_)
  have hH : gm_H (dC, dI) A s (wX11_canSayWith cI q q_tongue q_refused q_fresh q_kept q_isKept q_text q_said q_talk m_thrown m_size m_at m_start m_token m_value m_faultAt m_allowed m_firstPair m_secondPair m_above m_below o3) H locs := hH
  refine lv_aload_n hx hb dX11_canSayWith_16 rfl (lv_at hl 0 rfl) ?_
  refine gm_get (ci := 11) C0 hH inX11_canSayWith_X11 0 2 1 rfl rfl (by decide) rfl rfl dX11_canSayWith_17 ?_
  refine lv_iload hx hb dX11_canSayWith_20 (lv_at hl 4 rfl) ?_
  refine lv_bipush (v := 10) hx hb dX11_canSayWith_22 (by decide) ?_
  obtain ⟨hz4, h⟩ := gm_nz_e h
  refine lv_idiv hx hb dX11_canSayWith_24 hz4 ?_
  refine lv_iload hx hb dX11_canSayWith_25 (lv_at hl 4 rfl) ?_
  refine lv_bipush (v := 10) hx hb dX11_canSayWith_27 (by decide) ?_
  obtain ⟨hz5, h⟩ := gm_nz_e h
  refine lv_irem hx hb dX11_canSayWith_29 hz5 ?_
  refine lv_iconst (v := 1) hx hb dX11_canSayWith_30 (by decide) ?_
  obtain ⟨o6, ho6, h⟩ := gm_bind_e h
  refine gm_callS (As := [.ref q_tongue, .int (x4 / 10), .int (x4 - x4 / 10 * 10), .int 1]) (rest := []) (n := 4) C0 hH (mX11_setAlike l dC dI cI q_tongue o3 ((x4 / 10)) ((x4 - x4 / 10 * 10)) 1   ho6) gX11_canSayWith_X11_setAlike rfl (by decide +kernel) ⟨rfl, rfl, Nat.le_of_ble_eq_true rfl, Nat.le_of_ble_eq_true rfl⟩ gm_T_ok (fun _ => trivial) [1] rfl rfl rfl [0] rfl rfl hl.1 rfl (Nat.le_of_ble_eq_true rfl) dX11_canSayWith_31 ⟨Nat.zero_le _, Nat.zero_le _⟩ (fun H locs hH => ?_)
  have hH : gm_H (dC, dI) A s (wX11_canSayWith cI q q_tongue q_refused q_fresh q_kept q_isKept q_text q_said q_talk m_thrown m_size m_at m_start m_token m_value m_faultAt m_allowed m_firstPair m_secondPair m_above m_below o6) H locs := hH
  refine lv_aload_n hx hb dX11_canSayWith_34 rfl (lv_at hl 0 rfl) ?_
  refine lv_iload_n hx hb dX11_canSayWith_35 rfl (lv_at hl 1 rfl) ?_
  refine lv_iload_n hx hb dX11_canSayWith_36 rfl (lv_at hl 2 rfl) ?_
  obtain ⟨o7, ho7, h⟩ := gm_bind_e h
  refine gm_callV (As := [.int x1, .int x2]) (rest := []) (n := 2) (ci := 11) (q0 := 0) C0 hH (mX11_canSayAll l dC dI cI q q_tongue q_refused q_fresh q_kept q_isKept q_text q_said q_talk m_thrown m_size m_at m_start m_token m_value m_faultAt m_allowed m_firstPair m_secondPair m_above m_below o6 x1 x2   ho7) gX11_canSayWith_X11_canSayAll rfl (by decide +kernel) ⟨rfl, rfl, Nat.le_of_ble_eq_true rfl, Nat.le_of_ble_eq_true rfl⟩ gm_T_ok (fun _ => trivial) [0, 1] rfl rfl rfl [0] rfl rfl rfl rfl hl.1 rfl (Nat.le_of_ble_eq_true rfl) dX11_canSayWith_37 ⟨Nat.zero_le _, Nat.zero_le _⟩ (fun H locs hH => ?_)
  have hH : gm_H (dC, dI) A s (wX11_canSayWith cI q q_tongue q_refused q_fresh q_kept q_isKept q_text q_said q_talk m_thrown m_size m_at m_start m_token m_value m_faultAt m_allowed m_firstPair m_secondPair m_above m_below o6) H locs := hH
  refine lv_istore (lv' := [(5, .int o7), (0, .ref q), (1, .int x1), (2, .int x2), (3, .int x3), (4, .int x4)]) hx hb dX11_canSayWith_40 hl (by decide) rfl (fun ls hl => ?_)
  refine lv_aload_n hx hb dX11_canSayWith_42 rfl (lv_at hl 1 rfl) ?_
  refine gm_get (ci := 11) C0 hH inX11_canSayWith_X11 0 2 1 rfl rfl (by decide) rfl rfl dX11_canSayWith_43 ?_
  refine lv_iload_n hx hb dX11_canSayWith_46 rfl (lv_at hl 4 rfl) ?_
  refine lv_bipush (v := 10) hx hb dX11_canSayWith_47 (by decide) ?_
  obtain ⟨hz8, h⟩ := gm_nz_e h
  refine lv_idiv hx hb dX11_canSayWith_49 hz8 ?_
  refine lv_iload_n hx hb dX11_canSayWith_50 rfl (lv_at hl 4 rfl) ?_
  refine lv_bipush (v := 10) hx hb dX11_canSayWith_51 (by decide) ?_
  obtain ⟨hz9, h⟩ := gm_nz_e h
  refine lv_irem hx hb dX11_canSayWith_53 hz9 ?_
  refine lv_iconst (v := 0) hx hb dX11_canSayWith_54 (by decide) ?_
  obtain ⟨o10, ho10, h⟩ := gm_bind_e h
  refine gm_callS (As := [.ref q_tongue, .int (x3 / 10), .int (x3 - x3 / 10 * 10), .int 0]) (rest := []) (n := 4) C0 hH (mX11_setAlike l dC dI cI q_tongue o6 ((x3 / 10)) ((x3 - x3 / 10 * 10)) 0   ho10) gX11_canSayWith_X11_setAlike rfl (by decide +kernel) ⟨rfl, rfl, Nat.le_of_ble_eq_true rfl, Nat.le_of_ble_eq_true rfl⟩ gm_T_ok (fun _ => trivial) [1] rfl rfl rfl [0] rfl rfl hl.1 rfl (Nat.le_of_ble_eq_true rfl) dX11_canSayWith_55 ⟨Nat.zero_le _, Nat.zero_le _⟩ (fun H locs hH => ?_)
  have hH : gm_H (dC, dI) A s (wX11_canSayWith cI q q_tongue q_refused q_fresh q_kept q_isKept q_text q_said q_talk m_thrown m_size m_at m_start m_token m_value m_faultAt m_allowed m_firstPair m_secondPair m_above m_below o10) H locs := hH
  refine lv_aload_n hx hb dX11_canSayWith_58 rfl (lv_at hl 1 rfl) ?_
  refine gm_get (ci := 11) C0 hH inX11_canSayWith_X11 0 2 1 rfl rfl (by decide) rfl rfl dX11_canSayWith_59 ?_
  refine lv_iload hx hb dX11_canSayWith_62 (lv_at hl 5 rfl) ?_
  refine lv_bipush (v := 10) hx hb dX11_canSayWith_64 (by decide) ?_
  obtain ⟨hz11, h⟩ := gm_nz_e h
  refine lv_idiv hx hb dX11_canSayWith_66 hz11 ?_
  refine lv_iload hx hb dX11_canSayWith_67 (lv_at hl 5 rfl) ?_
  refine lv_bipush (v := 10) hx hb dX11_canSayWith_69 (by decide) ?_
  obtain ⟨hz12, h⟩ := gm_nz_e h
  refine lv_irem hx hb dX11_canSayWith_71 hz12 ?_
  refine lv_iconst (v := 0) hx hb dX11_canSayWith_72 (by decide) ?_
  obtain ⟨o13, ho13, h⟩ := gm_bind_e h
  refine gm_callS (As := [.ref q_tongue, .int (x4 / 10), .int (x4 - x4 / 10 * 10), .int 0]) (rest := []) (n := 4) C0 hH (mX11_setAlike l dC dI cI q_tongue o10 ((x4 / 10)) ((x4 - x4 / 10 * 10)) 0   ho13) gX11_canSayWith_X11_setAlike rfl (by decide +kernel) ⟨rfl, rfl, Nat.le_of_ble_eq_true rfl, Nat.le_of_ble_eq_true rfl⟩ gm_T_ok (fun _ => trivial) [1] rfl rfl rfl [0] rfl rfl hl.1 rfl (Nat.le_of_ble_eq_true rfl) dX11_canSayWith_73 ⟨Nat.zero_le _, Nat.zero_le _⟩ (fun H locs hH => ?_)
  have hH : gm_H (dC, dI) A s (wX11_canSayWith cI q q_tongue q_refused q_fresh q_kept q_isKept q_text q_said q_talk m_thrown m_size m_at m_start m_token m_value m_faultAt m_allowed m_firstPair m_secondPair m_above m_below o13) H locs := hH
  refine lv_iload hx hb dX11_canSayWith_76 (lv_at hl 0 rfl) ?_
  obtain ⟨hn14, h⟩ := gm_bl_e h
  obtain rfl := Option.some.inj h
  exact gm_zret C0 hH hn14 dX11_canSayWith_78
