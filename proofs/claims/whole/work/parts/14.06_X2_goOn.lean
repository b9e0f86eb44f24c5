/-! X2_goOn -/
abbrev wX2_goOn (cI : ClassId) (q q_chimesOfFirst q_chimesOfSecond q_lasts : Nat) (m_words : Int32) (m_saidAtFirst : Int32) (m_asked : Int32) (m_longest : Int32) (m_shortest : Int32) (m_chimesOfFirst : Nat → Int32) (m_chimesOfSecond : Nat → Int32) (m_lasts : Nat → Int32) : va_W := [(q, .inr (2, [.ref q_chimesOfFirst, .ref q_chimesOfSecond, .ref q_lasts, .int m_words, .int m_saidAtFirst, .int m_asked, .int m_longest, .int m_shortest])), (q_chimesOfFirst, .inl (cI, 10, .inl m_chimesOfFirst)), (q_chimesOfSecond, .inl (cI, 10, .inl m_chimesOfSecond)), (q_lasts, .inl (cI, 1024, .inl m_lasts))]
abbrev rX2_goOn : Room := { frames := 3, cells := 0, slots := 0, locals := 62 }
def fX2_goOn_b134 (N : Nat) (r97 : (Nat → Int32) → Int32 → Option (Int32 × Int32 × (Nat → Int32))) (m_words : Int32) (m_longest : Int32) (m_shortest : Int32) (m_lasts : Nat → Int32) (x1 : Int32) (x4 : Int32) (x5 : Int32) : Option (Int32 × Int32 × (Nat → Int32)) := (r97 m_lasts ((x5 + 1)))
def fX2_goOn_b97_body (N : Nat)  (m_words : Int32) (m_longest : Int32) (m_shortest : Int32) (x1 : Int32) (x4 : Int32) (r97 : (Nat → Int32) → Int32 → Option (Int32 × Int32 × (Nat → Int32))) (m_lasts : Nat → Int32) (x5 : Int32) : Option (Int32 × Int32 × (Nat → Int32)) := (if m_words ≤ x5 then some (m_longest, m_shortest, m_lasts) else gm_let (((1 : Int32) <<< (x5 &&& 31)) : Int32) (fun (v5 : Int32) => (if (x4 &&& v5) = 0 then (fX2_goOn_b134 N r97 m_words m_longest m_shortest m_lasts x1 x4 x5) else gm_chk ((x1 ||| v5)) 1024 (gm_chk ((x1 ||| v5)) 1024 ((fX2_goOn_b134 N r97 m_words m_longest m_shortest (upd m_lasts (Int32.toNatClampNeg ((x1 ||| v5))) (((m_lasts (Int32.toNatClampNeg ((x1 ||| v5)))) ||| v5))) x1 x4 x5))))))
def fX2_goOn_b97 (N : Nat)  (m_words : Int32) (m_longest : Int32) (m_shortest : Int32) (x1 : Int32) (x4 : Int32) (m_lasts : Nat → Int32) (x5 : Int32) : Option (Int32 × Int32 × (Nat → Int32)) := gm_fix (fX2_goOn_b97_body N  m_words m_longest m_shortest x1 x4) (fun _ _ => none) N m_lasts x5
def fX2_goOn_b94 (N : Nat)  (m_words : Int32) (m_longest : Int32) (m_shortest : Int32) (m_lasts : Nat → Int32) (x1 : Int32) (x4 : Int32) : Option (Int32 × Int32 × (Nat → Int32)) := (fX2_goOn_b97 N  m_words m_longest m_shortest x1 x4 m_lasts 0)
def fX2_goOn_b88 (N : Nat) (r18 : Int32 → Int32 → Int32 → Int32 → Option (Int32 × Int32 × (Nat → Int32))) (m_words : Int32) (m_longest : Int32) (m_shortest : Int32) (m_chimesOfFirst : Nat → Int32) (m_chimesOfSecond : Nat → Int32) (m_lasts : Nat → Int32) (x1 : Int32) (x3 : Int32) (x4 : Int32) (x5 : Int32) : Option (Int32 × Int32 × (Nat → Int32)) := (r18 m_longest m_shortest x4 ((x5 + 1)))
def fX2_goOn_b18_body (N : Nat)  (m_words : Int32) (m_chimesOfFirst : Nat → Int32) (m_chimesOfSecond : Nat → Int32) (m_lasts : Nat → Int32) (x1 : Int32) (x3 : Int32) (r18 : Int32 → Int32 → Int32 → Int32 → Option (Int32 × Int32 × (Nat → Int32))) (m_longest : Int32) (m_shortest : Int32) (x4 : Int32) (x5 : Int32) : Option (Int32 × Int32 × (Nat → Int32)) := (if m_words ≤ x5 then (fX2_goOn_b94 N  m_words m_longest m_shortest m_lasts x1 x4) else gm_chk x1 1024 ((if (((m_lasts (Int32.toNatClampNeg x1)) >>> (x5 &&& 31)) &&& 1) = 1 then gm_chk x5 10 (gm_let (((m_chimesOfFirst (Int32.toNatClampNeg x5)) &&& (x1 ^^^ (-1))) : Int32) (fun (v12 : Int32) => gm_let ((x4 ||| v12) : Int32) (fun (v13 : Int32) => (if v12 = 0 then gm_let ((if m_longest < x3 then x3 else m_longest) : Int32) (fun (v15 : Int32) => gm_let ((if x3 < m_shortest then x3 else m_shortest) : Int32) (fun (v16 : Int32) => (fX2_goOn_b88 N r18 m_words v15 v16 m_chimesOfFirst m_chimesOfSecond m_lasts x1 x3 v13 x5))) else (fX2_goOn_b88 N r18 m_words m_longest m_shortest m_chimesOfFirst m_chimesOfSecond m_lasts x1 x3 v13 x5))))) else (fX2_goOn_b88 N r18 m_words m_longest m_shortest m_chimesOfFirst m_chimesOfSecond m_lasts x1 x3 x4 x5))))
def fX2_goOn_b18 (N : Nat)  (m_words : Int32) (m_chimesOfFirst : Nat → Int32) (m_chimesOfSecond : Nat → Int32) (m_lasts : Nat → Int32) (x1 : Int32) (x3 : Int32) (m_longest : Int32) (m_shortest : Int32) (x4 : Int32) (x5 : Int32) : Option (Int32 × Int32 × (Nat → Int32)) := gm_fix (fX2_goOn_b18_body N  m_words m_chimesOfFirst m_chimesOfSecond m_lasts x1 x3) (fun _ _ _ _ => none) N m_longest m_shortest x4 x5
def fX2_goOn_b88x (N : Nat) (r18 : Int32 → Int32 → Int32 → Int32 → Option (Int32 × Int32 × (Nat → Int32))) (m_words : Int32) (m_longest : Int32) (m_shortest : Int32) (m_chimesOfFirst : Nat → Int32) (m_chimesOfSecond : Nat → Int32) (m_lasts : Nat → Int32) (x1 : Int32) (x3 : Int32) (x4 : Int32) (x5 : Int32) : Option (Int32 × Int32 × (Nat → Int32)) := (r18 m_longest m_shortest x4 ((x5 + 1)))
def fX2_goOn_b18x_body (N : Nat)  (m_words : Int32) (m_chimesOfFirst : Nat → Int32) (m_chimesOfSecond : Nat → Int32) (m_lasts : Nat → Int32) (x1 : Int32) (x3 : Int32) (r18 : Int32 → Int32 → Int32 → Int32 → Option (Int32 × Int32 × (Nat → Int32))) (m_longest : Int32) (m_shortest : Int32) (x4 : Int32) (x5 : Int32) : Option (Int32 × Int32 × (Nat → Int32)) := (if m_words ≤ x5 then (fX2_goOn_b94 N  m_words m_longest m_shortest m_lasts x1 x4) else gm_chk x1 1024 ((if (((m_lasts (Int32.toNatClampNeg x1)) >>> (x5 &&& 31)) &&& 1) = 1 then gm_chk x5 10 (gm_let (((m_chimesOfSecond (Int32.toNatClampNeg x5)) &&& (x1 ^^^ (-1))) : Int32) (fun (v22 : Int32) => gm_let ((x4 ||| v22) : Int32) (fun (v23 : Int32) => (if v22 = 0 then gm_let ((if m_longest < x3 then x3 else m_longest) : Int32) (fun (v25 : Int32) => gm_let ((if x3 < m_shortest then x3 else m_shortest) : Int32) (fun (v26 : Int32) => (fX2_goOn_b88x N r18 m_words v25 v26 m_chimesOfFirst m_chimesOfSecond m_lasts x1 x3 v23 x5))) else (fX2_goOn_b88x N r18 m_words m_longest m_shortest m_chimesOfFirst m_chimesOfSecond m_lasts x1 x3 v23 x5))))) else (fX2_goOn_b88x N r18 m_words m_longest m_shortest m_chimesOfFirst m_chimesOfSecond m_lasts x1 x3 x4 x5))))
def fX2_goOn_b18x (N : Nat)  (m_words : Int32) (m_chimesOfFirst : Nat → Int32) (m_chimesOfSecond : Nat → Int32) (m_lasts : Nat → Int32) (x1 : Int32) (x3 : Int32) (m_longest : Int32) (m_shortest : Int32) (x4 : Int32) (x5 : Int32) : Option (Int32 × Int32 × (Nat → Int32)) := gm_fix (fX2_goOn_b18x_body N  m_words m_chimesOfFirst m_chimesOfSecond m_lasts x1 x3) (fun _ _ _ _ => none) N m_longest m_shortest x4 x5
def fX2_goOn (N : Nat) (m_words : Int32) (m_saidAtFirst : Int32) (m_longest : Int32) (m_shortest : Int32) (m_chimesOfFirst : Nat → Int32) (m_chimesOfSecond : Nat → Int32) (m_lasts : Nat → Int32) (x1 : Int32) : Option (Int32 × Int32 × (Nat → Int32)) := gm_bind (fX2_chimesOfNext N m_saidAtFirst x1) (fun o1 => if o1 = 0 then gm_bind (fX2_answered N m_saidAtFirst x1) (fun o2 => (fX2_goOn_b18 N  m_words m_chimesOfFirst m_chimesOfSecond m_lasts x1 o2 m_longest m_shortest 0 0)) else gm_bind (fX2_answered N m_saidAtFirst x1) (fun o17 => (fX2_goOn_b18x N  m_words m_chimesOfFirst m_chimesOfSecond m_lasts x1 o17 m_longest m_shortest 0 0)))
set_option maxRecDepth 20000 in
theorem inX2_goOn_X2 : ∀ w ∈ u_ws RX2 TX2 8, w ∈ wsX2_goOn := fun w h => by
  obtain ⟨k, hk, rfl⟩ := List.mem_map.mp h
  have hk2 := List.mem_range.mp hk
  exact List.mem_of_getElem? (i := 31 + k) (by rcases (show k = 0 ∨ k = 1 ∨ k = 2 ∨ k = 3 ∨ k = 4 ∨ k = 5 ∨ k = 6 ∨ k = 7 by omega) with rfl | rfl | rfl | rfl | rfl | rfl | rfl | rfl <;> rfl)
set_option maxRecDepth 100000 in
set_option maxHeartbeats 4000000 in
theorem tX2_goOn_b134 {p : Program} {l : Launch} {e : Env} {s : State} {m : MethodId} {args : Array Value} {below : List Frame} {meth : Method} {c : Code} {A : Nat → Prop} {dC : Nat → ClassId} {dI : Nat → Nat → Nat} {cI : ClassId} {q q_chimesOfFirst q_chimesOfSecond q_lasts : Nat} {m_words : Int32} {m_saidAtFirst : Int32} {m_asked : Int32} {m_longest : Int32} {m_shortest : Int32} {m_chimesOfFirst : Nat → Int32} {m_chimesOfSecond : Nat → Int32} {m_lasts : Nat → Int32} {x1 : Int32} {x4 : Int32} {x5 : Int32} (C0 : gm_C p s m args meth c (dC, dI) [(cI, .int)] A gm_T RX2 cX2_goOn 7 none wsX2_goOn) {N : Nat} {out : Int32 × Int32 × (Nat → Int32)} {r97 : (Nat → Int32) → Int32 → Option (Int32 × Int32 × (Nat → Int32))} (hr97 : ∀ (m_lasts : Nat → Int32) (x5 : Int32) (H : Heap) (locs : List Loc) (ls : Array Slot), r97 m_lasts x5 = some out → gm_H (dC, dI) A s (wX2_goOn cI q q_chimesOfFirst q_chimesOfSecond q_lasts m_words m_saidAtFirst m_asked m_longest m_shortest m_chimesOfFirst m_chimesOfSecond m_lasts) H locs → lv_has ls 7 [(0, .ref q), (1, .int x1), (4, .int x4), (5, .int x5)] → W p l e rX2_goOn s m args below meth c H locs 0 0 (MQ below (gm_Q (dC, dI) [(cI, .int)] A none (wX2_goOn cI q q_chimesOfFirst q_chimesOfSecond q_lasts m_words m_saidAtFirst m_asked out.1 out.2.1 m_chimesOfFirst m_chimesOfSecond out.2.2)) args s 0 0 A) (F0 m 97 ls []))   {H : Heap} {locs : List Loc} {ls : Array Slot} (h : fX2_goOn_b134 N r97 m_words m_longest m_shortest m_lasts x1 x4 x5 = some out) (hH : gm_H (dC, dI) A s (wX2_goOn cI q q_chimesOfFirst q_chimesOfSecond q_lasts m_words m_saidAtFirst m_asked m_longest m_shortest m_chimesOfFirst m_chimesOfSecond m_lasts) H locs) (hl : lv_has ls 7 [(0, .ref q), (1, .int x1), (4, .int x4), (5, .int x5)]) : W p l e rX2_goOn s m args below meth c H locs 0 0 (MQ below (gm_Q (dC, dI) [(cI, .int)] A none (wX2_goOn cI q q_chimesOfFirst q_chimesOfSecond q_lasts m_words m_saidAtFirst m_asked out.1 out.2.1 m_chimesOfFirst m_chimesOfSecond out.2.2)) args s 0 0 A) (F0 m 134 ls []) := by
  obtain ⟨hx, hb, hml, hr, hown, hts, hA, hK, hX, hlocks⟩ := id C0
  unfold fX2_goOn_b134 at h
  refine lv_iinc (v := (x5 + 1)) (lv' := [(5, .int (x5 + 1)), (0, .ref q), (1, .int x1), (4, .int x4)]) hx hb dX2_goOn_134 hl (k := 3) rfl rfl (by decide) rfl (fun ls hl => ?_)
  refine lv_goto (tgt := 97) hx hb dX2_goOn_137 (by decide) ?_
  exact hr97 _ _ _ _ _ h hH (lv_sub hl [1, 2, 3, 0] rfl)
set_option maxRecDepth 100000 in
set_option maxHeartbeats 4000000 in
theorem tX2_goOn_b97 {p : Program} {l : Launch} {e : Env} {s : State} {m : MethodId} {args : Array Value} {below : List Frame} {meth : Method} {c : Code} {A : Nat → Prop} {dC : Nat → ClassId} {dI : Nat → Nat → Nat} {cI : ClassId} {q q_chimesOfFirst q_chimesOfSecond q_lasts : Nat} {m_words : Int32} {m_saidAtFirst : Int32} {m_asked : Int32} {m_longest : Int32} {m_shortest : Int32} {m_chimesOfFirst : Nat → Int32} {m_chimesOfSecond : Nat → Int32} {x1 : Int32} {x4 : Int32} (C0 : gm_C p s m args meth c (dC, dI) [(cI, .int)] A gm_T RX2 cX2_goOn 7 none wsX2_goOn) {N : Nat} {out : Int32 × Int32 × (Nat → Int32)}   : ∀ (n : Nat), ∀ (m_lasts : Nat → Int32) (x5 : Int32) (H : Heap) (locs : List Loc) (ls : Array Slot), (gm_fix (fX2_goOn_b97_body N  m_words m_longest m_shortest x1 x4) (fun _ _ => none) n) m_lasts x5 = some out → gm_H (dC, dI) A s (wX2_goOn cI q q_chimesOfFirst q_chimesOfSecond q_lasts m_words m_saidAtFirst m_asked m_longest m_shortest m_chimesOfFirst m_chimesOfSecond m_lasts) H locs → lv_has ls 7 [(0, .ref q), (1, .int x1), (4, .int x4), (5, .int x5)] → W p l e rX2_goOn s m args below meth c H locs 0 0 (MQ below (gm_Q (dC, dI) [(cI, .int)] A none (wX2_goOn cI q q_chimesOfFirst q_chimesOfSecond q_lasts m_words m_saidAtFirst m_asked out.1 out.2.1 m_chimesOfFirst m_chimesOfSecond out.2.2)) args s 0 0 A) (F0 m 97 ls []) := by
  obtain ⟨hx, hb, hml, hr, hown, hts, hA, hK, hX, hlocks⟩ := id C0
  intro n
  induction n with
  | zero =>
    intro m_lasts x5 H locs ls h hH hl
    cases h
  | succ n hr97 =>
    intro m_lasts x5 H locs ls h hH hl
    rw [gm_fix_s] at h
    unfold fX2_goOn_b97_body at h
    refine lv_iload hx hb dX2_goOn_97 (lv_at hl 3 rfl) ?_
    refine lv_aload_n hx hb dX2_goOn_99 rfl (lv_at hl 0 rfl) ?_
    refine gm_get (ci := 2) C0 hH inX2_goOn_X2 0 3 1 rfl rfl (by decide) rfl rfl dX2_goOn_100 ?_
    refine lv_icmp_ge (tgt := 140) hx hb dX2_goOn_103 (by decide) (fun hc4 => ?_) (fun hc4 => ?_)
    · replace h := gm_pos hc4 h
      obtain rfl := Option.some.inj h
      exact gm_vret C0 hH dX2_goOn_140
    · replace h := gm_neg hc4 h
      refine lv_iconst (v := 1) hx hb dX2_goOn_106 (by decide) ?_
      refine lv_iload hx hb dX2_goOn_107 (lv_at hl 3 rfl) ?_
      refine lv_ishl hx hb dX2_goOn_109 ?_
      refine lv_topi (fun v5 ev5 => ?_)
      replace h := gm_let_e ev5 h
      refine lv_istore (lv' := [(6, .int v5), (0, .ref q), (1, .int x1), (4, .int x4), (5, .int x5)]) hx hb dX2_goOn_110 hl (by decide) rfl (fun ls hl => ?_)
      refine lv_iload hx hb dX2_goOn_112 (lv_at hl 3 rfl) ?_
      refine lv_iload hx hb dX2_goOn_114 (lv_at hl 0 rfl) ?_
      refine lv_iand hx hb dX2_goOn_116 ?_
      refine lv_if_eq (tgt := 134) hx hb dX2_goOn_117 (by decide) (fun hc6 => ?_) (fun hc6 => ?_)
      · replace h := gm_pos hc6 h
        exact tX2_goOn_b134 C0 hr97 h hH (lv_sub hl [1, 2, 3, 4] rfl)
      · replace h := gm_neg hc6 h
        refine lv_aload_n hx hb dX2_goOn_120 rfl (lv_at hl 1 rfl) ?_
        refine gm_get (ci := 2) C0 hH inX2_goOn_X2 0 2 2 rfl rfl (by decide) rfl rfl dX2_goOn_121 ?_
        refine lv_iload_n hx hb dX2_goOn_124 rfl (lv_at hl 2 rfl) ?_
        refine lv_iload hx hb dX2_goOn_125 (lv_at hl 0 rfl) ?_
        refine lv_ior hx hb dX2_goOn_127 ?_
        refine lv_dup2_11 hx hb dX2_goOn_128 rfl rfl ?_
        obtain ⟨hi7, h⟩ := gm_chk_e h
        refine gm_iald C0 hH hi7 3 0 rfl rfl dX2_goOn_129 ?_
        refine lv_iload hx hb dX2_goOn_130 (lv_at hl 0 rfl) ?_
        refine lv_ior hx hb dX2_goOn_132 ?_
        obtain ⟨hi8, h⟩ := gm_chk_e h
        refine gm_iast C0 hH hi8 3 0 rfl rfl dX2_goOn_133 (fun H locs hH => ?_)
        have hH : gm_H (dC, dI) A s (wX2_goOn cI q q_chimesOfFirst q_chimesOfSecond q_lasts m_words m_saidAtFirst m_asked m_longest m_shortest m_chimesOfFirst m_chimesOfSecond (upd m_lasts (Int32.toNatClampNeg ((x1 ||| v5))) (((m_lasts (Int32.toNatClampNeg ((x1 ||| v5)))) ||| v5)))) H locs := hH
        exact tX2_goOn_b134 C0 hr97 h hH (lv_sub hl [1, 2, 3, 4] rfl)
set_option maxRecDepth 100000 in
set_option maxHeartbeats 4000000 in
theorem tX2_goOn_b94 {p : Program} {l : Launch} {e : Env} {s : State} {m : MethodId} {args : Array Value} {below : List Frame} {meth : Method} {c : Code} {A : Nat → Prop} {dC : Nat → ClassId} {dI : Nat → Nat → Nat} {cI : ClassId} {q q_chimesOfFirst q_chimesOfSecond q_lasts : Nat} {m_words : Int32} {m_saidAtFirst : Int32} {m_asked : Int32} {m_longest : Int32} {m_shortest : Int32} {m_chimesOfFirst : Nat → Int32} {m_chimesOfSecond : Nat → Int32} {m_lasts : Nat → Int32} {x1 : Int32} {x4 : Int32} (C0 : gm_C p s m args meth c (dC, dI) [(cI, .int)] A gm_T RX2 cX2_goOn 7 none wsX2_goOn) {N : Nat} {out : Int32 × Int32 × (Nat → Int32)}    {H : Heap} {locs : List Loc} {ls : Array Slot} (h : fX2_goOn_b94 N  m_words m_longest m_shortest m_lasts x1 x4 = some out) (hH : gm_H (dC, dI) A s (wX2_goOn cI q q_chimesOfFirst q_chimesOfSecond q_lasts m_words m_saidAtFirst m_asked m_longest m_shortest m_chimesOfFirst m_chimesOfSecond m_lasts) H locs) (hl : lv_has ls 7 [(0, .ref q), (1, .int x1), (4, .int x4)]) : W p l e rX2_goOn s m args below meth c H locs 0 0 (MQ below (gm_Q (dC, dI) [(cI, .int)] A none (wX2_goOn cI q q_chimesOfFirst q_chimesOfSecond q_lasts m_words m_saidAtFirst m_asked out.1 out.2.1 m_chimesOfFirst m_chimesOfSecond out.2.2)) args s 0 0 A) (F0 m 94 ls []) := by
  obtain ⟨hx, hb, hml, hr, hown, hts, hA, hK, hX, hlocks⟩ := id C0
  unfold fX2_goOn_b94 at h
  refine lv_iconst (v := 0) hx hb dX2_goOn_94 (by decide) ?_
  refine lv_istore (lv' := [(5, .int 0), (0, .ref q), (1, .int x1), (4, .int x4)]) hx hb dX2_goOn_95 hl (by decide) rfl (fun ls hl => ?_)
  unfold fX2_goOn_b97 at h
  exact tX2_goOn_b97 C0  _ _ _ _ _ _ h hH (lv_sub hl [1, 2, 3, 0] rfl)
set_option maxRecDepth 100000 in
set_option maxHeartbeats 4000000 in
theorem tX2_goOn_b88 {p : Program} {l : Launch} {e : Env} {s : State} {m : MethodId} {args : Array Value} {below : List Frame} {meth : Method} {c : Code} {A : Nat → Prop} {dC : Nat → ClassId} {dI : Nat → Nat → Nat} {cI : ClassId} {q q_chimesOfFirst q_chimesOfSecond q_lasts : Nat} {m_words : Int32} {m_saidAtFirst : Int32} {m_asked : Int32} {m_longest : Int32} {m_shortest : Int32} {m_chimesOfFirst : Nat → Int32} {m_chimesOfSecond : Nat → Int32} {m_lasts : Nat → Int32} {x1 : Int32} {x3 : Int32} {x4 : Int32} {x5 : Int32} (C0 : gm_C p s m args meth c (dC, dI) [(cI, .int)] A gm_T RX2 cX2_goOn 7 none wsX2_goOn) {N : Nat} {out : Int32 × Int32 × (Nat → Int32)} {r18 : Int32 → Int32 → Int32 → Int32 → Option (Int32 × Int32 × (Nat → Int32))} (hr18 : ∀ (m_longest : Int32) (m_shortest : Int32) (x4 : Int32) (x5 : Int32) (H : Heap) (locs : List Loc) (ls : Array Slot), r18 m_longest m_shortest x4 x5 = some out → gm_H (dC, dI) A s (wX2_goOn cI q q_chimesOfFirst q_chimesOfSecond q_lasts m_words m_saidAtFirst m_asked m_longest m_shortest m_chimesOfFirst m_chimesOfSecond m_lasts) H locs → lv_has ls 7 [(0, .ref q), (1, .int x1), (2, .ref q_chimesOfFirst), (3, .int x3), (4, .int x4), (5, .int x5)] → W p l e rX2_goOn s m args below meth c H locs 0 0 (MQ below (gm_Q (dC, dI) [(cI, .int)] A none (wX2_goOn cI q q_chimesOfFirst q_chimesOfSecond q_lasts m_words m_saidAtFirst m_asked out.1 out.2.1 m_chimesOfFirst m_chimesOfSecond out.2.2)) args s 0 0 A) (F0 m 18 ls []))   {H : Heap} {locs : List Loc} {ls : Array Slot} (h : fX2_goOn_b88 N r18 m_words m_longest m_shortest m_chimesOfFirst m_chimesOfSecond m_lasts x1 x3 x4 x5 = some out) (hH : gm_H (dC, dI) A s (wX2_goOn cI q q_chimesOfFirst q_chimesOfSecond q_lasts m_words m_saidAtFirst m_asked m_longest m_shortest m_chimesOfFirst m_chimesOfSecond m_lasts) H locs) (hl : lv_has ls 7 [(0, .ref q), (1, .int x1), (2, .ref q_chimesOfFirst), (3, .int x3), (4, .int x4), (5, .int x5)]) : W p l e rX2_goOn s m args below meth c H locs 0 0 (MQ below (gm_Q (dC, dI) [(cI, .int)] A none (wX2_goOn cI q q_chimesOfFirst q_chimesOfSecond q_lasts m_words m_saidAtFirst m_asked out.1 out.2.1 m_chimesOfFirst m_chimesOfSecond out.2.2)) args s 0 0 A) (F0 m 88 ls []) := by
  obtain ⟨hx, hb, hml, hr, hown, hts, hA, hK, hX, hlocks⟩ := id C0
  unfold fX2_goOn_b88 at h
  refine lv_iinc (v := (x5 + 1)) (lv' := [(5, .int (x5 + 1)), (0, .ref q), (1, .int x1), (2, .ref q_chimesOfFirst), (3, .int x3), (4, .int x4)]) hx hb dX2_goOn_88 hl (k := 5) rfl rfl (by decide) rfl (fun ls hl => ?_)
  refine lv_goto (tgt := 18) hx hb dX2_goOn_91 (by decide) ?_
  exact hr18 _ _ _ _ _ _ _ h hH (lv_sub hl [1, 2, 3, 4, 5, 0] rfl)
set_option maxRecDepth 100000 in
set_option maxHeartbeats 4000000 in
theorem tX2_goOn_b18 {p : Program} {l : Launch} {e : Env} {s : State} {m : MethodId} {args : Array Value} {below : List Frame} {meth : Method} {c : Code} {A : Nat → Prop} {dC : Nat → ClassId} {dI : Nat → Nat → Nat} {cI : ClassId} {q q_chimesOfFirst q_chimesOfSecond q_lasts : Nat} {m_words : Int32} {m_saidAtFirst : Int32} {m_asked : Int32} {m_chimesOfFirst : Nat → Int32} {m_chimesOfSecond : Nat → Int32} {m_lasts : Nat → Int32} {x1 : Int32} {x3 : Int32} (C0 : gm_C p s m args meth c (dC, dI) [(cI, .int)] A gm_T RX2 cX2_goOn 7 none wsX2_goOn) {N : Nat} {out : Int32 × Int32 × (Nat → Int32)}   : ∀ (n : Nat), ∀ (m_longest : Int32) (m_shortest : Int32) (x4 : Int32) (x5 : Int32) (H : Heap) (locs : List Loc) (ls : Array Slot), (gm_fix (fX2_goOn_b18_body N  m_words m_chimesOfFirst m_chimesOfSecond m_lasts x1 x3) (fun _ _ _ _ => none) n) m_longest m_shortest x4 x5 = some out → gm_H (dC, dI) A s (wX2_goOn cI q q_chimesOfFirst q_chimesOfSecond q_lasts m_words m_saidAtFirst m_asked m_longest m_shortest m_chimesOfFirst m_chimesOfSecond m_lasts) H locs → lv_has ls 7 [(0, .ref q), (1, .int x1), (2, .ref q_chimesOfFirst), (3, .int x3), (4, .int x4), (5, .int x5)] → W p l e rX2_goOn s m args below meth c H locs 0 0 (MQ below (gm_Q (dC, dI) [(cI, .int)] A none (wX2_goOn cI q q_chimesOfFirst q_chimesOfSecond q_lasts m_words m_saidAtFirst m_asked out.1 out.2.1 m_chimesOfFirst m_chimesOfSecond out.2.2)) args s 0 0 A) (F0 m 18 ls []) := by
  obtain ⟨hx, hb, hml, hr, hown, hts, hA, hK, hX, hlocks⟩ := id C0
  intro n
  induction n with
  | zero =>
    intro m_longest m_shortest x4 x5 H locs ls h hH hl
    cases h
  | succ n hr18 =>
    intro m_longest m_shortest x4 x5 H locs ls h hH hl
    rw [gm_fix_s] at h
    unfold fX2_goOn_b18_body at h
    refine lv_iload hx hb dX2_goOn_18 (lv_at hl 5 rfl) ?_
    refine lv_aload_n hx hb dX2_goOn_20 rfl (lv_at hl 0 rfl) ?_
    refine gm_get (ci := 2) C0 hH inX2_goOn_X2 0 3 1 rfl rfl (by decide) rfl rfl dX2_goOn_21 ?_
    refine lv_icmp_ge (tgt := 94) hx hb dX2_goOn_24 (by decide) (fun hc3 => ?_) (fun hc3 => ?_)
    · replace h := gm_pos hc3 h
      exact tX2_goOn_b94 C0  h hH (lv_sub hl [0, 1, 4] rfl)
    · replace h := gm_neg hc3 h
      refine lv_aload_n hx hb dX2_goOn_27 rfl (lv_at hl 0 rfl) ?_
      refine gm_get (ci := 2) C0 hH inX2_goOn_X2 0 2 2 rfl rfl (by decide) rfl rfl dX2_goOn_28 ?_
      refine lv_iload_n hx hb dX2_goOn_31 rfl (lv_at hl 1 rfl) ?_
      obtain ⟨hi9, h⟩ := gm_chk_e h
      refine gm_iald C0 hH hi9 3 0 rfl rfl dX2_goOn_32 ?_
      refine lv_iload hx hb dX2_goOn_33 (lv_at hl 5 rfl) ?_
      refine lv_ishr hx hb dX2_goOn_35 ?_
      refine lv_iconst (v := 1) hx hb dX2_goOn_36 (by decide) ?_
      refine lv_iand hx hb dX2_goOn_37 ?_
      refine lv_iconst (v := 1) hx hb dX2_goOn_38 (by decide) ?_
      refine lv_icmp_ne (tgt := 88) hx hb dX2_goOn_39 (by decide) (fun hc10 => ?_) (fun hc10 => ?_)
      · replace h := gm_neg hc10 h
        exact tX2_goOn_b88 C0 hr18 h hH (lv_sub hl [0, 1, 2, 3, 4, 5] rfl)
      · replace h := gm_pos hc10 h
        refine lv_aload_n hx hb dX2_goOn_42 rfl (lv_at hl 2 rfl) ?_
        refine lv_iload hx hb dX2_goOn_43 (lv_at hl 5 rfl) ?_
        obtain ⟨hi11, h⟩ := gm_chk_e h
        refine gm_iald C0 hH hi11 1 0 rfl rfl dX2_goOn_45 ?_
        refine lv_iload_n hx hb dX2_goOn_46 rfl (lv_at hl 1 rfl) ?_
        refine lv_iconst (v := (-1)) hx hb dX2_goOn_47 (by decide) ?_
        refine lv_ixor hx hb dX2_goOn_48 ?_
        refine lv_iand hx hb dX2_goOn_49 ?_
        refine lv_topi (fun v12 ev12 => ?_)
        replace h := gm_let_e ev12 h
        refine lv_istore (lv' := [(6, .int v12), (0, .ref q), (1, .int x1), (2, .ref q_chimesOfFirst), (3, .int x3), (4, .int x4), (5, .int x5)]) hx hb dX2_goOn_50 hl (by decide) rfl (fun ls hl => ?_)
        refine lv_iload hx hb dX2_goOn_52 (lv_at hl 5 rfl) ?_
        refine lv_iload hx hb dX2_goOn_54 (lv_at hl 0 rfl) ?_
        refine lv_ior hx hb dX2_goOn_56 ?_
        refine lv_topi (fun v13 ev13 => ?_)
        replace h := gm_let_e ev13 h
        refine lv_istore (lv' := [(4, .int v13), (6, .int v12), (0, .ref q), (1, .int x1), (2, .ref q_chimesOfFirst), (3, .int x3), (5, .int x5)]) hx hb dX2_goOn_57 hl (by decide) rfl (fun ls hl => ?_)
        refine lv_iload hx hb dX2_goOn_59 (lv_at hl 1 rfl) ?_
        refine lv_if_ne (tgt := 88) hx hb dX2_goOn_61 (by decide) (fun hc14 => ?_) (fun hc14 => ?_)
        · replace h := gm_neg hc14 h
          exact tX2_goOn_b88 C0 hr18 h hH (lv_sub hl [2, 3, 4, 5, 0, 6] rfl)
        · replace h := gm_pos hc14 h
          refine lv_aload_n hx hb dX2_goOn_64 rfl (lv_at hl 2 rfl) ?_
          refine lv_aload_n hx hb dX2_goOn_65 rfl (lv_at hl 2 rfl) ?_
          refine gm_get (ci := 2) C0 hH inX2_goOn_X2 0 6 3 rfl rfl (by decide) rfl rfl dX2_goOn_66 ?_
          refine lv_iload_n hx hb dX2_goOn_69 rfl (lv_at hl 5 rfl) ?_
          refine va_mmax hx hb (by rw [hml]; exact hl.1.symm) hown (gm_at C0 4 rfl) (gm_at C0 5 rfl) (gm_at C0 6 rfl) (gm_at C0 7 rfl) (by decide) (Nat.le_of_ble_eq_true rfl) (by decide) (by decide) dX2_goOn_70 ?_
          refine lv_topi (fun v15 ev15 => ?_)
          replace h := gm_let_e ev15 h
          refine gm_putf (ci := 2) C0 hH inX2_goOn_X2 tyX2_ok nmX2 0 6 3 rfl rfl (by decide) rfl rfl rfl rfl rfl (Nat.le_of_ble_eq_true rfl) dX2_goOn_73 (fun H locs hH => ?_)
          have hH : gm_H (dC, dI) A s (wX2_goOn cI q q_chimesOfFirst q_chimesOfSecond q_lasts m_words m_saidAtFirst m_asked v15 m_shortest m_chimesOfFirst m_chimesOfSecond m_lasts) H locs := hH
          refine lv_aload_n hx hb dX2_goOn_76 rfl (lv_at hl 2 rfl) ?_
          refine lv_aload_n hx hb dX2_goOn_77 rfl (lv_at hl 2 rfl) ?_
          refine gm_get (ci := 2) C0 hH inX2_goOn_X2 0 7 8 rfl rfl (by decide) rfl rfl dX2_goOn_78 ?_
          refine lv_iload_n hx hb dX2_goOn_81 rfl (lv_at hl 5 rfl) ?_
          refine va_mmin hx hb (by rw [hml]; exact hl.1.symm) hown (gm_at C0 9 rfl) (gm_at C0 10 rfl) (gm_at C0 6 rfl) (gm_at C0 11 rfl) (by decide) (Nat.le_of_ble_eq_true rfl) (by decide) (by decide) dX2_goOn_82 ?_
          refine lv_topi (fun v16 ev16 => ?_)
          replace h := gm_let_e ev16 h
          refine gm_putf (ci := 2) C0 hH inX2_goOn_X2 tyX2_ok nmX2 0 7 8 rfl rfl (by decide) rfl rfl rfl rfl rfl (Nat.le_of_ble_eq_true rfl) dX2_goOn_85 (fun H locs hH => ?_)
          have hH : gm_H (dC, dI) A s (wX2_goOn cI q q_chimesOfFirst q_chimesOfSecond q_lasts m_words m_saidAtFirst m_asked v15 v16 m_chimesOfFirst m_chimesOfSecond m_lasts) H locs := hH
          exact tX2_goOn_b88 C0 hr18 h hH (lv_sub hl [2, 3, 4, 5, 0, 6] rfl)
set_option maxRecDepth 100000 in
set_option maxHeartbeats 4000000 in
theorem tX2_goOn_b88x {p : Program} {l : Launch} {e : Env} {s : State} {m : MethodId} {args : Array Value} {below : List Frame} {meth : Method} {c : Code} {A : Nat → Prop} {dC : Nat → ClassId} {dI : Nat → Nat → Nat} {cI : ClassId} {q q_chimesOfFirst q_chimesOfSecond q_lasts : Nat} {m_words : Int32} {m_saidAtFirst : Int32} {m_asked : Int32} {m_longest : Int32} {m_shortest : Int32} {m_chimesOfFirst : Nat → Int32} {m_chimesOfSecond : Nat → Int32} {m_lasts : Nat → Int32} {x1 : Int32} {x3 : Int32} {x4 : Int32} {x5 : Int32} (C0 : gm_C p s m args meth c (dC, dI) [(cI, .int)] A gm_T RX2 cX2_goOn 7 none wsX2_goOn) {N : Nat} {out : Int32 × Int32 × (Nat → Int32)} {r18 : Int32 → Int32 → Int32 → Int32 → Option (Int32 × Int32 × (Nat → Int32))} (hr18 : ∀ (m_longest : Int32) (m_shortest : Int32) (x4 : Int32) (x5 : Int32) (H : Heap) (locs : List Loc) (ls : Array Slot), r18 m_longest m_shortest x4 x5 = some out → gm_H (dC, dI) A s (wX2_goOn cI q q_chimesOfFirst q_chimesOfSecond q_lasts m_words m_saidAtFirst m_asked m_longest m_shortest m_chimesOfFirst m_chimesOfSecond m_lasts) H locs → lv_has ls 7 [(0, .ref q), (1, .int x1), (2, .ref q_chimesOfSecond), (3, .int x3), (4, .int x4), (5, .int x5)] → W p l e rX2_goOn s m args below meth c H locs 0 0 (MQ below (gm_Q (dC, dI) [(cI, .int)] A none (wX2_goOn cI q q_chimesOfFirst q_chimesOfSecond q_lasts m_words m_saidAtFirst m_asked out.1 out.2.1 m_chimesOfFirst m_chimesOfSecond out.2.2)) args s 0 0 A) (F0 m 18 ls []))   {H : Heap} {locs : List Loc} {ls : Array Slot} (h : fX2_goOn_b88x N r18 m_words m_longest m_shortest m_chimesOfFirst m_chimesOfSecond m_lasts x1 x3 x4 x5 = some out) (hH : gm_H (dC, dI) A s (wX2_goOn cI q q_chimesOfFirst q_chimesOfSecond q_lasts m_words m_saidAtFirst m_asked m_longest m_shortest m_chimesOfFirst m_chimesOfSecond m_lasts) H locs) (hl : lv_has ls 7 [(0, .ref q), (1, .int x1), (2, .ref q_chimesOfSecond), (3, .int x3), (4, .int x4), (5, .int x5)]) : W p l e rX2_goOn s m args below meth c H locs 0 0 (MQ below (gm_Q (dC, dI) [(cI, .int)] A none (wX2_goOn cI q q_chimesOfFirst q_chimesOfSecond q_lasts m_words m_saidAtFirst m_asked out.1 out.2.1 m_chimesOfFirst m_chimesOfSecond out.2.2)) args s 0 0 A) (F0 m 88 ls []) := by
  obtain ⟨hx, hb, hml, hr, hown, hts, hA, hK, hX, hlocks⟩ := id C0
  unfold fX2_goOn_b88x at h
  refine lv_iinc (v := (x5 + 1)) (lv' := [(5, .int (x5 + 1)), (0, .ref q), (1, .int x1), (2, .ref q_chimesOfSecond), (3, .int x3), (4, .int x4)]) hx hb dX2_goOn_88 hl (k := 5) rfl rfl (by decide) rfl (fun ls hl => ?_)
  refine lv_goto (tgt := 18) hx hb dX2_goOn_91 (by decide) ?_
  exact hr18 _ _ _ _ _ _ _ h hH (lv_sub hl [1, 2, 3, 4, 5, 0] rfl)
set_option maxRecDepth 100000 in
set_option maxHeartbeats 4000000 in
theorem tX2_goOn_b18x {p : Program} {l : Launch} {e : Env} {s : State} {m : MethodId} {args : Array Value} {below : List Frame} {meth : Method} {c : Code} {A : Nat → Prop} {dC : Nat → ClassId} {dI : Nat → Nat → Nat} {cI : ClassId} {q q_chimesOfFirst q_chimesOfSecond q_lasts : Nat} {m_words : Int32} {m_saidAtFirst : Int32} {m_asked : Int32} {m_chimesOfFirst : Nat → Int32} {m_chimesOfSecond : Nat → Int32} {m_lasts : Nat → Int32} {x1 : Int32} {x3 : Int32} (C0 : gm_C p s m args meth c (dC, dI) [(cI, .int)] A gm_T RX2 cX2_goOn 7 none wsX2_goOn) {N : Nat} {out : Int32 × Int32 × (Nat → Int32)}   : ∀ (n : Nat), ∀ (m_longest : Int32) (m_shortest : Int32) (x4 : Int32) (x5 : Int32) (H : Heap) (locs : List Loc) (ls : Array Slot), (gm_fix (fX2_goOn_b18x_body N  m_words m_chimesOfFirst m_chimesOfSecond m_lasts x1 x3) (fun _ _ _ _ => none) n) m_longest m_shortest x4 x5 = some out → gm_H (dC, dI) A s (wX2_goOn cI q q_chimesOfFirst q_chimesOfSecond q_lasts m_words m_saidAtFirst m_asked m_longest m_shortest m_chimesOfFirst m_chimesOfSecond m_lasts) H locs → lv_has ls 7 [(0, .ref q), (1, .int x1), (2, .ref q_chimesOfSecond), (3, .int x3), (4, .int x4), (5, .int x5)] → W p l e rX2_goOn s m args below meth c H locs 0 0 (MQ below (gm_Q (dC, dI) [(cI, .int)] A none (wX2_goOn cI q q_chimesOfFirst q_chimesOfSecond q_lasts m_words m_saidAtFirst m_asked out.1 out.2.1 m_chimesOfFirst m_chimesOfSecond out.2.2)) args s 0 0 A) (F0 m 18 ls []) := by
  obtain ⟨hx, hb, hml, hr, hown, hts, hA, hK, hX, hlocks⟩ := id C0
  intro n
  induction n with
  | zero =>
    intro m_longest m_shortest x4 x5 H locs ls h hH hl
    cases h
  | succ n hr18 =>
    intro m_longest m_shortest x4 x5 H locs ls h hH hl
    rw [gm_fix_s] at h
    unfold fX2_goOn_b18x_body at h
    refine lv_iload hx hb dX2_goOn_18 (lv_at hl 5 rfl) ?_
    refine lv_aload_n hx hb dX2_goOn_20 rfl (lv_at hl 0 rfl) ?_
    refine gm_get (ci := 2) C0 hH inX2_goOn_X2 0 3 1 rfl rfl (by decide) rfl rfl dX2_goOn_21 ?_
    refine lv_icmp_ge (tgt := 94) hx hb dX2_goOn_24 (by decide) (fun hc18 => ?_) (fun hc18 => ?_)
    · replace h := gm_pos hc18 h
      exact tX2_goOn_b94 C0  h hH (lv_sub hl [0, 1, 4] rfl)
    · replace h := gm_neg hc18 h
      refine lv_aload_n hx hb dX2_goOn_27 rfl (lv_at hl 0 rfl) ?_
      refine gm_get (ci := 2) C0 hH inX2_goOn_X2 0 2 2 rfl rfl (by decide) rfl rfl dX2_goOn_28 ?_
      refine lv_iload_n hx hb dX2_goOn_31 rfl (lv_at hl 1 rfl) ?_
      obtain ⟨hi19, h⟩ := gm_chk_e h
      refine gm_iald C0 hH hi19 3 0 rfl rfl dX2_goOn_32 ?_
      refine lv_iload hx hb dX2_goOn_33 (lv_at hl 5 rfl) ?_
      refine lv_ishr hx hb dX2_goOn_35 ?_
      refine lv_iconst (v := 1) hx hb dX2_goOn_36 (by decide) ?_
      refine lv_iand hx hb dX2_goOn_37 ?_
      refine lv_iconst (v := 1) hx hb dX2_goOn_38 (by decide) ?_
      refine lv_icmp_ne (tgt := 88) hx hb dX2_goOn_39 (by decide) (fun hc20 => ?_) (fun hc20 => ?_)
      · replace h := gm_neg hc20 h
        exact tX2_goOn_b88x C0 hr18 h hH (lv_sub hl [0, 1, 2, 3, 4, 5] rfl)
      · replace h := gm_pos hc20 h
        refine lv_aload_n hx hb dX2_goOn_42 rfl (lv_at hl 2 rfl) ?_
        refine lv_iload hx hb dX2_goOn_43 (lv_at hl 5 rfl) ?_
        obtain ⟨hi21, h⟩ := gm_chk_e h
        refine gm_iald C0 hH hi21 2 0 rfl rfl dX2_goOn_45 ?_
        refine lv_iload_n hx hb dX2_goOn_46 rfl (lv_at hl 1 rfl) ?_
        refine lv_iconst (v := (-1)) hx hb dX2_goOn_47 (by decide) ?_
        refine lv_ixor hx hb dX2_goOn_48 ?_
        refine lv_iand hx hb dX2_goOn_49 ?_
        refine lv_topi (fun v22 ev22 => ?_)
        replace h := gm_let_e ev22 h
        refine lv_istore (lv' := [(6, .int v22), (0, .ref q), (1, .int x1), (2, .ref q_chimesOfSecond), (3, .int x3), (4, .int x4), (5, .int x5)]) hx hb dX2_goOn_50 hl (by decide) rfl (fun ls hl => ?_)
        refine lv_iload hx hb dX2_goOn_52 (lv_at hl 5 rfl) ?_
        refine lv_iload hx hb dX2_goOn_54 (lv_at hl 0 rfl) ?_
        refine lv_ior hx hb dX2_goOn_56 ?_
        refine lv_topi (fun v23 ev23 => ?_)
        replace h := gm_let_e ev23 h
        refine lv_istore (lv' := [(4, .int v23), (6, .int v22), (0, .ref q), (1, .int x1), (2, .ref q_chimesOfSecond), (3, .int x3), (5, .int x5)]) hx hb dX2_goOn_57 hl (by decide) rfl (fun ls hl => ?_)
        refine lv_iload hx hb dX2_goOn_59 (lv_at hl 1 rfl) ?_
        refine lv_if_ne (tgt := 88) hx hb dX2_goOn_61 (by decide) (fun hc24 => ?_) (fun hc24 => ?_)
        · replace h := gm_neg hc24 h
          exact tX2_goOn_b88x C0 hr18 h hH (lv_sub hl [2, 3, 4, 5, 0, 6] rfl)
        · replace h := gm_pos hc24 h
          refine lv_aload_n hx hb dX2_goOn_64 rfl (lv_at hl 2 rfl) ?_
          refine lv_aload_n hx hb dX2_goOn_65 rfl (lv_at hl 2 rfl) ?_
          refine gm_get (ci := 2) C0 hH inX2_goOn_X2 0 6 3 rfl rfl (by decide) rfl rfl dX2_goOn_66 ?_
          refine lv_iload_n hx hb dX2_goOn_69 rfl (lv_at hl 5 rfl) ?_
          refine va_mmax hx hb (by rw [hml]; exact hl.1.symm) hown (gm_at C0 4 rfl) (gm_at C0 5 rfl) (gm_at C0 6 rfl) (gm_at C0 7 rfl) (by decide) (Nat.le_of_ble_eq_true rfl) (by decide) (by decide) dX2_goOn_70 ?_
          refine lv_topi (fun v25 ev25 => ?_)
          replace h := gm_let_e ev25 h
          refine gm_putf (ci := 2) C0 hH inX2_goOn_X2 tyX2_ok nmX2 0 6 3 rfl rfl (by decide) rfl rfl rfl rfl rfl (Nat.le_of_ble_eq_true rfl) dX2_goOn_73 (fun H locs hH => ?_)
          have hH : gm_H (dC, dI) A s (wX2_goOn cI q q_chimesOfFirst q_chimesOfSecond q_lasts m_words m_saidAtFirst m_asked v25 m_shortest m_chimesOfFirst m_chimesOfSecond m_lasts) H locs := hH
          refine lv_aload_n hx hb dX2_goOn_76 rfl (lv_at hl 2 rfl) ?_
          refine lv_aload_n hx hb dX2_goOn_77 rfl (lv_at hl 2 rfl) ?_
          refine gm_get (ci := 2) C0 hH inX2_goOn_X2 0 7 8 rfl rfl (by decide) rfl rfl dX2_goOn_78 ?_
          refine lv_iload_n hx hb dX2_goOn_81 rfl (lv_at hl 5 rfl) ?_
          refine va_mmin hx hb (by rw [hml]; exact hl.1.symm) hown (gm_at C0 9 rfl) (gm_at C0 10 rfl) (gm_at C0 6 rfl) (gm_at C0 11 rfl) (by decide) (Nat.le_of_ble_eq_true rfl) (by decide) (by decide) dX2_goOn_82 ?_
          refine lv_topi (fun v26 ev26 => ?_)
          replace h := gm_let_e ev26 h
          refine gm_putf (ci := 2) C0 hH inX2_goOn_X2 tyX2_ok nmX2 0 7 8 rfl rfl (by decide) rfl rfl rfl rfl rfl (Nat.le_of_ble_eq_true rfl) dX2_goOn_85 (fun H locs hH => ?_)
          have hH : gm_H (dC, dI) A s (wX2_goOn cI q q_chimesOfFirst q_chimesOfSecond q_lasts m_words m_saidAtFirst m_asked v25 v26 m_chimesOfFirst m_chimesOfSecond m_lasts) H locs := hH
          exact tX2_goOn_b88x C0 hr18 h hH (lv_sub hl [2, 3, 4, 5, 0, 6] rfl)
set_option maxRecDepth 100000 in
set_option maxHeartbeats 4000000 in
theorem mX2_goOn (l : Launch) (dC : Nat → ClassId) (dI : Nat → Nat → Nat) (cI : ClassId) (q q_chimesOfFirst q_chimesOfSecond q_lasts : Nat) (m_words : Int32) (m_saidAtFirst : Int32) (m_asked : Int32) (m_longest : Int32) (m_shortest : Int32) (m_chimesOfFirst : Nat → Int32) (m_chimesOfSecond : Nat → Int32) (m_lasts : Nat → Int32) (x1 : Int32)  {N : Nat} {out : Int32 × Int32 × (Nat → Int32)} (h : fX2_goOn N m_words m_saidAtFirst m_longest m_shortest m_chimesOfFirst m_chimesOfSecond m_lasts x1 = some out) : gm_Met l yX2_goOn wsX2_goOn rX2_goOn (dC, dI) [(cI, .int)] gm_T [.ref q, .int x1] (wX2_goOn cI q q_chimesOfFirst q_chimesOfSecond q_lasts m_words m_saidAtFirst m_asked m_longest m_shortest m_chimesOfFirst m_chimesOfSecond m_lasts) none (wX2_goOn cI q q_chimesOfFirst q_chimesOfSecond q_lasts m_words m_saidAtFirst m_asked out.1 out.2.1 m_chimesOfFirst m_chimesOfSecond out.2.2) := by
  refine gm_ofW (cc := cX2_goOn) (maxL := 7) (ret := none) (by decide +kernel) rfl (Nat.le_of_ble_eq_true rfl) ?_
  intro p e s m below meth c A C0 hH ls hl
  generalize ([.ref q, .int x1] : List Value).toArray = args at C0 ⊢
  have hl : lv_has ls 7 [(0, .ref q), (1, .int x1)] := hl
  generalize s.heap = H at hH ⊢
  generalize ([] : List Loc) = locs at hH ⊢
  obtain ⟨hx, hb, hml, hr, hown, hts, hA, hK, hX, hlocks⟩ := id C0
  unfold fX2_goOn at h
  refine lv_aload_n hx hb dX2_goOn_0 rfl (lv_at hl 0 rfl) ?_
  refine lv_iload_n hx hb dX2_goOn_1 rfl (lv_at hl 1 rfl) ?_
  obtain ⟨o1, ho1, h⟩ := gm_bind_e h
  refine gm_callV (As := [.int x1]) (rest := []) (n := 1) (ci := 2) (q0 := 0) C0 hH (mX2_chimesOfNext l dC dI  q q_chimesOfFirst q_chimesOfSecond q_lasts m_words m_saidAtFirst m_asked m_longest m_shortest x1   ho1) gX2_goOn_X2_chimesOfNext rfl (by decide +kernel) ⟨rfl, rfl, Nat.le_of_ble_eq_true rfl, Nat.le_of_ble_eq_true rfl⟩ gm_T_ok (fun _ => trivial) [0] rfl rfl rfl [] rfl rfl rfl rfl hl.1 rfl (Nat.le_of_ble_eq_true rfl) dX2_goOn_2 ⟨Nat.zero_le _, Nat.zero_le _⟩ (fun H locs hH => ?_)
  have hH : gm_H (dC, dI) A s (wX2_goOn cI q q_chimesOfFirst q_chimesOfSecond q_lasts m_words m_saidAtFirst m_asked m_longest m_shortest m_chimesOfFirst m_chimesOfSecond m_lasts) H locs := hH
  by_cases hs1 : o1 = 0
  · replace h := gm_pos hs1 h
    refine W.eq (g2 := F0 m 5 ls [.ref q_chimesOfFirst]) (by simp only [if_pos hs1]; rfl) ?_
    refine lv_astore_n (lv' := [(2, .ref q_chimesOfFirst), (0, .ref q), (1, .int x1)]) hx hb dX2_goOn_5 rfl hl (by decide) rfl (fun ls hl => ?_)
    refine lv_aload_n hx hb dX2_goOn_6 rfl (lv_at hl 1 rfl) ?_
    refine lv_iload_n hx hb dX2_goOn_7 rfl (lv_at hl 2 rfl) ?_
    obtain ⟨o2, ho2, h⟩ := gm_bind_e h
    refine gm_callV (As := [.int x1]) (rest := []) (n := 1) (ci := 2) (q0 := 0) C0 hH (mX2_answered l dC dI  q q_chimesOfFirst q_chimesOfSecond q_lasts m_words m_saidAtFirst m_asked m_longest m_shortest x1   ho2) gX2_goOn_X2_answered rfl (by decide +kernel) ⟨rfl, rfl, Nat.le_of_ble_eq_true rfl, Nat.le_of_ble_eq_true rfl⟩ gm_T_ok (fun _ => trivial) [0] rfl rfl rfl [] rfl rfl rfl rfl hl.1 rfl (Nat.le_of_ble_eq_true rfl) dX2_goOn_8 ⟨Nat.zero_le _, Nat.zero_le _⟩ (fun H locs hH => ?_)
    have hH : gm_H (dC, dI) A s (wX2_goOn cI q q_chimesOfFirst q_chimesOfSecond q_lasts m_words m_saidAtFirst m_asked m_longest m_shortest m_chimesOfFirst m_chimesOfSecond m_lasts) H locs := hH
    refine lv_istore_n (lv' := [(3, .int o2), (2, .ref q_chimesOfFirst), (0, .ref q), (1, .int x1)]) hx hb dX2_goOn_11 rfl hl (by decide) rfl (fun ls hl => ?_)
    refine lv_iconst (v := 0) hx hb dX2_goOn_12 (by decide) ?_
    refine lv_istore (lv' := [(4, .int 0), (3, .int o2), (2, .ref q_chimesOfFirst), (0, .ref q), (1, .int x1)]) hx hb dX2_goOn_13 hl (by decide) rfl (fun ls hl => ?_)
    refine lv_iconst (v := 0) hx hb dX2_goOn_15 (by decide) ?_
    refine lv_istore (lv' := [(5, .int 0), (4, .int 0), (3, .int o2), (2, .ref q_chimesOfFirst), (0, .ref q), (1, .int x1)]) hx hb dX2_goOn_16 hl (by decide) rfl (fun ls hl => ?_)
    unfold fX2_goOn_b18 at h
    exact tX2_goOn_b18 C0  _ _ _ _ _ _ _ _ h hH (lv_sub hl [4, 5, 3, 2, 1, 0] rfl)
  · replace h := gm_neg hs1 h
    refine W.eq (g2 := F0 m 5 ls [.ref q_chimesOfSecond]) (by simp only [if_neg hs1]; rfl) ?_
    refine lv_astore_n (lv' := [(2, .ref q_chimesOfSecond), (0, .ref q), (1, .int x1)]) hx hb dX2_goOn_5 rfl hl (by decide) rfl (fun ls hl => ?_)
    refine lv_aload_n hx hb dX2_goOn_6 rfl (lv_at hl 1 rfl) ?_
    refine lv_iload_n hx hb dX2_goOn_7 rfl (lv_at hl 2 rfl) ?_
    obtain ⟨o17, ho17, h⟩ := gm_bind_e h
    refine gm_callV (As := [.int x1]) (rest := []) (n := 1) (ci := 2) (q0 := 0) C0 hH (mX2_answered l dC dI  q q_chimesOfFirst q_chimesOfSecond q_lasts m_words m_saidAtFirst m_asked m_longest m_shortest x1   ho17) gX2_goOn_X2_answered rfl (by decide +kernel) ⟨rfl, rfl, Nat.le_of_ble_eq_true rfl, Nat.le_of_ble_eq_true rfl⟩ gm_T_ok (fun _ => trivial) [0] rfl rfl rfl [] rfl rfl rfl rfl hl.1 rfl (Nat.le_of_ble_eq_true rfl) dX2_goOn_8 ⟨Nat.zero_le _, Nat.zero_le _⟩ (fun H locs hH => ?_)
    have hH : gm_H (dC, dI) A s (wX2_goOn cI q q_chimesOfFirst q_chimesOfSecond q_lasts m_words m_saidAtFirst m_asked m_longest m_shortest m_chimesOfFirst m_chimesOfSecond m_lasts) H locs := hH
    refine lv_istore_n (lv' := [(3, .int o17), (2, .ref q_chimesOfSecond), (0, .ref q), (1, .int x1)]) hx hb dX2_goOn_11 rfl hl (by decide) rfl (fun ls hl => ?_)
    refine lv_iconst (v := 0) hx hb dX2_goOn_12 (by decide) ?_
    refine lv_istore (lv' := [(4, .int 0), (3, .int o17), (2, .ref q_chimesOfSecond), (0, .ref q), (1, .int x1)]) hx hb dX2_goOn_13 hl (by decide) rfl (fun ls hl => ?_)
    refine lv_iconst (v := 0) hx hb dX2_goOn_15 (by decide) ?_
    refine lv_istore (lv' := [(5, .int 0), (4, .int 0), (3, .int o17), (2, .ref q_chimesOfSecond), (0, .ref q), (1, .int x1)]) hx hb dX2_goOn_16 hl (by decide) rfl (fun ls hl => ?_)
    unfold fX2_goOn_b18x at h
    exact tX2_goOn_b18x C0  _ _ _ _ _ _ _ _ h hH (lv_sub hl [4, 5, 3, 2, 1, 0] rfl)
