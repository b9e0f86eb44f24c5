/-! ===== two who talk: the model's table ===== -/
theorem or_we {s x w : Nat} (hw : w ≤ 10) (hs : s < 2 ^ w) (hx : x < w) : nI s ||| ((1 : Int32) <<< (nI x &&& 31)) = nI (s ||| 2 ^ x) ∧ s ||| 2 ^ x < 2 ^ w := by
  constructor
  · refine b_ext (fun i hi => ?_)
    rw [b_or, bt_nI hi, b_one x (by omega) hi, bt_nI hi, Nat.testBit_or, Nat.testBit_two_pow]
    by_cases q : i = x
    · rw [decide_eq_true q, decide_eq_true q.symm]
    · rw [decide_eq_false q, decide_eq_false (fun z => q z.symm)]
  · exact Nat.or_lt_two_pow hs (Nat.pow_lt_pow_right (by decide) hx)
theorem or_gt {s x : Nat} (h : s.testBit x = false) : s < s ||| 2 ^ x := by
  rcases Nat.lt_or_ge s (s ||| 2 ^ x) with q | q
  · exact q
  · have h1 : s ≤ s ||| 2 ^ x := Nat.left_le_or
    have h2 : s = s ||| 2 ^ x := by omega
    have h3 := congrArg (fun z => z.testBit x) h2
    simp only [Nat.testBit_or, Nat.testBit_two_pow_self, Bool.or_true] at h3
    rw [h] at h3
    exact absurd h3 (by decide)
def pcn (s : Nat) : Nat → Nat
  | 0 => 0
  | n + 1 => pcn s n + (if s.testBit n then 1 else 0)
theorem pcn_le (s : Nat) : ∀ n, pcn s n ≤ n
  | 0 => Nat.le_refl _
  | n + 1 => by rw [pcn]; have := pcn_le s n; split <;> omega
theorem pcn_mono {s s' : Nat} (h : ∀ i, s.testBit i = true → s'.testBit i = true) : ∀ n, pcn s n ≤ pcn s' n
  | 0 => Nat.le_refl _
  | n + 1 => by
    rw [pcn, pcn]
    have := pcn_mono h n
    cases q : s.testBit n
    · rw [if_neg (show ¬ (false = true) by decide)]; split <;> omega
    · rw [h n q, if_pos rfl]; omega
theorem pcn_or {s x : Nat} (h : s.testBit x = false) : ∀ n, pcn (s ||| 2 ^ x) n = pcn s n + (if x < n then 1 else 0)
  | 0 => by rw [if_neg (Nat.not_lt_zero _)]; rfl
  | n + 1 => by
    rw [pcn, pcn, pcn_or h n, Nat.testBit_or, Nat.testBit_two_pow]
    by_cases q : x = n
    · subst q
      rw [h, if_neg (Nat.lt_irrefl _), if_pos (Nat.lt_succ_self _), decide_eq_true rfl]
      rfl
    · rw [decide_eq_false q, Bool.or_false]
      by_cases q2 : x < n
      · rw [if_pos q2, if_pos (show x < n + 1 by omega)]; omega
      · rw [if_neg q2, if_neg (show ¬ x < n + 1 by omega)]; omega
theorem bc_pcn : ∀ s, s < 1024 → bc (nI s) = nI (pcn s 10) := by decide +kernel
def spt (s l t : Nat) : Nat := (s * 10 + l) * 2 + t
theorem s_spot {N : Nat} (s l t : Nat) : fX11_spot N (nI s) (nI l) (nI t) = some (nI (spt s l t)) := by
  unfold fX11_spot spt
  rw [show (10 : Int32) = nI 10 from rfl, show (2 : Int32) = nI 2 from rfl, pk_mul, nI_add, pk_mul, nI_add]
theorem one_m : ∀ t, t < 2 → (1 : Int32) - nI t = nI (1 - t) := by decide +kernel
def aA (C : Nat → Nat → Nat → Bool) (s l t x : Nat) : Bool := C t l x && !s.testBit x
def EqZ (w : Nat) (C : Nat → Nat → Nat → Bool) (z s l t : Nat) (V : Nat → Nat) (R : Nat) : Prop :=
  (z = 0 → (R = 1 - t ∧ ∃ x, x < w ∧ aA C s l t x = true ∧ V x = 1 - t) ∨ (R = t ∧ ∀ x, x < w → aA C s l t x = true → V x ≠ 1 - t)) ∧
  (z = 1 → (∀ x, x < w → aA C s l t x = true → V x + 1 ≤ R) ∧ ((R = 0 ∧ ∀ x, x < w → aA C s l t x = false) ∨ ∃ x, x < w ∧ aA C s l t x = true ∧ R = V x + 1)) ∧
  (z = 2 → (∀ x, x < w → aA C s l t x = true → R ≤ V x + 1) ∧ ((R = 0 ∧ ∀ x, x < w → aA C s l t x = false) ∨ ∃ x, x < w ∧ aA C s l t x = true ∧ R = V x + 1))
section TLK
variable {N w s l t : Nat} {J : Int32} {f tab : Nat → Int32} {C : Nat → Nat → Nat → Bool} {V : Nat → Nat}
theorem tk_bit (hw : w ≤ 10) {x : Nat} (hx : x < w) : bt (bs (C t l) w &&& (nI s ^^^ (-1))) x = aA C s l t x := by
  rw [b_and, bs_bt _ w (by omega) x (by omega), b_not _ (by omega), bt_nI (by omega), decide_eq_true hx]
  rfl
theorem s_talkOf (hN : 3000 ≤ N) (hw : w ≤ 10) (hs : s < 2 ^ w) (hl : l < w) (ht : t < 2) (h0 : f 0 = nI w) (hch : fX11_chimesWith N f J (nI l) = some (bs (C t l) w)) (htab : ∀ x, x < w → aA C s l t x = true → tab (spt (s ||| 2 ^ x) x (1 - t)) = nI (V x) ∧ V x ≤ 10) {z : Nat} (hz : z < 3) : ∃ R : Nat, fX11_talkOf N f tab J (nI s) (nI l) (nI t) (nI z) = some (nI R) ∧ R ≤ 11 ∧ EqZ w C z s l t V R := by
  have p2 := (p2w w (by omega)).2
  have hgo : ∀ (x : Nat), x < w → (∀ (r : Int32 → Int32 → Int32 → Option Int32) (x7 x8 : Int32), fX11_talkOf_b31_body N f tab (nI s) (nI t) (nI z) (bs (C t l) w &&& (nI s ^^^ (-1))) r x7 x8 (nI x) = if aA C s l t x = true then (if z = 0 then r (if V x = 1 - t then nI (V x) else x7) 0 (nI (x + 1)) else if x8 = 0 then (if z = 1 then (if nI (V x + 1) ≤ x7 then r x7 0 (nI (x + 1)) else r (nI (V x + 1)) 0 (nI (x + 1))) else (if x7 ≤ nI (V x + 1) then r x7 0 (nI (x + 1)) else r (nI (V x + 1)) 0 (nI (x + 1)))) else r (nI (V x + 1)) 0 (nI (x + 1))) else r x7 x8 (nI (x + 1))) := by
    intro x hx r x7 x8
    unfold fX11_talkOf_b31_body fX11_talkOf_b95 fX11_talkOf_b132 fX11_talkOf_b139 fX11_talkOf_b141 fX11_talkOf_b143 fX11_talkOf_b146
    rw [ck0 (by decide), cl0, h0, hd_go hx (by omega), s_Mhas _ (by omega), gm_bind_s, tk_bit hw hx, nI_1]
    cases hA : aA C s l t x
    · rw [if_pos (by decide), if_neg (by decide)]
    · obtain ⟨v1, v2⟩ := htab x hx hA
      obtain ⟨o1, o2⟩ := or_we hw hs hx
      rw [if_neg (by decide), if_pos rfl, o1, one_m t ht, s_spot, gm_bind_s, gm_chk_n (by unfold spt; omega) (by decide), gm_let_s, cl_n (by unfold spt; omega), v1, nI_1]
      by_cases z0 : z = 0
      · subst z0
        rw [if_pos (show nI 0 = (0 : Int32) from rfl), if_pos rfl]
        by_cases q : V x = 1 - t
        · rw [if_pos (by rw [q]), if_pos q]
        · rw [if_neg (fun y => q ((nI_eq (by omega) (by omega)).mp y)), if_neg q]
      · rw [if_neg (show ¬ nI z = 0 from fun y => z0 ((nI_eq (b := 0) (by omega) (by decide)).mp y)), if_neg z0]
        by_cases q8 : x8 = 0
        · rw [if_pos q8, if_pos q8]
          by_cases z1 : z = 1
          · subst z1
            rw [if_pos (show nI 1 = (1 : Int32) from rfl), if_pos rfl]
          · rw [if_neg (show ¬ nI z = 1 from fun y => z1 ((nI_eq (b := 1) (by omega) (by decide)).mp y)), if_neg z1]
        · rw [if_neg q8, if_neg q8]
  have hfin : ∀ (r : Int32 → Int32 → Int32 → Option Int32) (x7 x8 : Int32), fX11_talkOf_b31_body N f tab (nI s) (nI t) (nI z) (bs (C t l) w &&& (nI s ^^^ (-1))) r x7 x8 (nI w) = some x7 := by
    intro r x7 x8
    unfold fX11_talkOf_b31_body
    rw [ck0 (by decide), cl0, h0, hd_end (by omega) (by omega)]
  unfold fX11_talkOf fX11_talkOf_b23 fX11_talkOf_b31
  rw [hch, gm_bind_s, gm_let_s]
  rcases (show z = 0 ∨ z = 1 ∨ z = 2 by omega) with e | e | e
  · subst e
    rw [if_pos (show nI 0 = (0 : Int32) from rfl)]
    refine fx3 (fun d (a b c : Int32) => ∃ i R, i + d = w ∧ c = nI i ∧ a = nI R ∧ R ≤ 11 ∧ ((R = 1 - t ∧ ∃ x, x < i ∧ aA C s l t x = true ∧ V x = 1 - t) ∨ (R = t ∧ ∀ x, x < i → aA C s l t x = true → V x ≠ 1 - t))) (fun o => ∃ R : Nat, o = some (nI R) ∧ R ≤ 11 ∧ EqZ w C 0 s l t V R) ?_ N w _ _ _ (by omega) ⟨0, t, by omega, rfl, rfl, by omega, Or.inr ⟨rfl, fun x hx => absurd hx (Nat.not_lt_zero x)⟩⟩
    intro r d a b c hI hr
    obtain ⟨i, R, hi, rfl, rfl, hR, hq⟩ := hI
    rcases Nat.eq_zero_or_pos d with hd | hd
    · have e : i = w := by omega
      subst e
      rw [hfin]
      exact ⟨R, rfl, hR, fun _ => hq, fun z => absurd z (by decide), fun z => absurd z (by decide)⟩
    · rw [hgo i (by omega)]
      cases hA : aA C s l t i
      · rw [if_neg (by decide)]
        refine hr _ _ _ (d - 1) (by omega) ⟨i + 1, R, by omega, rfl, rfl, hR, ?_⟩
        rcases hq with ⟨q1, x, q2, q3, q4⟩ | ⟨q1, q2⟩
        · exact Or.inl ⟨q1, x, by omega, q3, q4⟩
        · refine Or.inr ⟨q1, fun x hx hx2 => ?_⟩
          by_cases q : x = i
          · subst q; rw [hA] at hx2; exact absurd hx2 (by decide)
          · exact q2 x (by omega) hx2
      · rw [if_pos rfl, if_pos rfl]
        by_cases q : V i = 1 - t
        · rw [if_pos q]
          exact hr _ _ _ (d - 1) (by omega) ⟨i + 1, V i, by omega, rfl, rfl, by omega, Or.inl ⟨q, i, by omega, hA, q⟩⟩
        · rw [if_neg q]
          refine hr _ _ _ (d - 1) (by omega) ⟨i + 1, R, by omega, rfl, rfl, hR, ?_⟩
          rcases hq with ⟨q1, x, q2, q3, q4⟩ | ⟨q1, q2⟩
          · exact Or.inl ⟨q1, x, by omega, q3, q4⟩
          · refine Or.inr ⟨q1, fun x hx hx2 => ?_⟩
            by_cases q' : x = i
            · subst q'; exact q
            · exact q2 x (by omega) hx2
  · subst e
    rw [if_neg (show ¬ nI 1 = (0 : Int32) by decide)]
    refine fx3 (fun d (a b c : Int32) => ∃ i R, i + d = w ∧ c = nI i ∧ a = nI R ∧ R ≤ 11 ∧ ((b = 1 ∧ R = 0 ∧ ∀ x, x < i → aA C s l t x = false) ∨ (b = 0 ∧ (∀ x, x < i → aA C s l t x = true → V x + 1 ≤ R) ∧ ∃ x, x < i ∧ aA C s l t x = true ∧ R = V x + 1))) (fun o => ∃ R : Nat, o = some (nI R) ∧ R ≤ 11 ∧ EqZ w C 1 s l t V R) ?_ N w _ _ _ (by omega) ⟨0, 0, by omega, rfl, rfl, by omega, Or.inl ⟨rfl, rfl, fun x hx => absurd hx (Nat.not_lt_zero x)⟩⟩
    intro r d a b c hI hr
    obtain ⟨i, R, hi, rfl, rfl, hR, hq⟩ := hI
    rcases Nat.eq_zero_or_pos d with hd | hd
    · have e : i = w := by omega
      subst e
      rw [hfin]
      refine ⟨R, rfl, hR, fun z => absurd z (by decide), fun _ => ?_, fun z => absurd z (by decide)⟩
      rcases hq with ⟨q1, q2, q3⟩ | ⟨q1, q2, q3⟩
      · exact ⟨fun x hx hx2 => by rw [q3 x hx] at hx2; exact absurd hx2 (by decide), Or.inl ⟨q2, q3⟩⟩
      · exact ⟨q2, Or.inr q3⟩
    · rw [hgo i (by omega)]
      cases hA : aA C s l t i
      · rw [if_neg (by decide)]
        refine hr _ _ _ (d - 1) (by omega) ⟨i + 1, R, by omega, rfl, rfl, hR, ?_⟩
        rcases hq with ⟨q1, q2, q3⟩ | ⟨q1, q2, x, q3, q4, q5⟩
        · refine Or.inl ⟨q1, q2, fun x hx => ?_⟩
          by_cases q : x = i
          · subst q; exact hA
          · exact q3 x (by omega)
        · refine Or.inr ⟨q1, fun x hx hx2 => ?_, x, by omega, q4, q5⟩
          by_cases q : x = i
          · subst q; rw [hA] at hx2; exact absurd hx2 (by decide)
          · exact q2 x (by omega) hx2
      · have hv := htab i (by omega) hA
        rw [if_pos rfl, if_neg (by decide)]
        rcases hq with ⟨rfl, q2, q3⟩ | ⟨rfl, q2, x, q3, q4, q5⟩
        · rw [if_neg (by decide)]
          refine hr _ _ _ (d - 1) (by omega) ⟨i + 1, V i + 1, by omega, rfl, rfl, by omega, Or.inr ⟨rfl, fun x hx hx2 => ?_, i, by omega, hA, rfl⟩⟩
          by_cases q : x = i
          · subst q; exact Nat.le_refl _
          · rw [q3 x (by omega)] at hx2; exact absurd hx2 (by decide)
        · rw [if_pos rfl, if_pos rfl]
          by_cases q : V i + 1 ≤ R
          · rw [if_pos (nI_le q (by omega))]
            refine hr _ _ _ (d - 1) (by omega) ⟨i + 1, R, by omega, rfl, rfl, hR, Or.inr ⟨rfl, fun x hx hx2 => ?_, x, by omega, q4, q5⟩⟩
            by_cases q' : x = i
            · subst q'; exact q
            · exact q2 x (by omega) hx2
          · rw [if_neg (nI_ge (by omega) (by omega))]
            refine hr _ _ _ (d - 1) (by omega) ⟨i + 1, V i + 1, by omega, rfl, rfl, by omega, Or.inr ⟨rfl, fun x hx hx2 => ?_, i, by omega, hA, rfl⟩⟩
            by_cases q' : x = i
            · subst q'; exact Nat.le_refl _
            · have := q2 x (by omega) hx2; omega
  · subst e
    rw [if_neg (show ¬ nI 2 = (0 : Int32) by decide)]
    refine fx3 (fun d (a b c : Int32) => ∃ i R, i + d = w ∧ c = nI i ∧ a = nI R ∧ R ≤ 11 ∧ ((b = 1 ∧ R = 0 ∧ ∀ x, x < i → aA C s l t x = false) ∨ (b = 0 ∧ (∀ x, x < i → aA C s l t x = true → R ≤ V x + 1) ∧ ∃ x, x < i ∧ aA C s l t x = true ∧ R = V x + 1))) (fun o => ∃ R : Nat, o = some (nI R) ∧ R ≤ 11 ∧ EqZ w C 2 s l t V R) ?_ N w _ _ _ (by omega) ⟨0, 0, by omega, rfl, rfl, by omega, Or.inl ⟨rfl, rfl, fun x hx => absurd hx (Nat.not_lt_zero x)⟩⟩
    intro r d a b c hI hr
    obtain ⟨i, R, hi, rfl, rfl, hR, hq⟩ := hI
    rcases Nat.eq_zero_or_pos d with hd | hd
    · have e : i = w := by omega
      subst e
      rw [hfin]
      refine ⟨R, rfl, hR, fun z => absurd z (by decide), fun z => absurd z (by decide), fun _ => ?_⟩
      rcases hq with ⟨q1, q2, q3⟩ | ⟨q1, q2, q3⟩
      · exact ⟨fun x hx hx2 => by rw [q3 x hx] at hx2; exact absurd hx2 (by decide), Or.inl ⟨q2, q3⟩⟩
      · exact ⟨q2, Or.inr q3⟩
    · rw [hgo i (by omega)]
      cases hA : aA C s l t i
      · rw [if_neg (by decide)]
        refine hr _ _ _ (d - 1) (by omega) ⟨i + 1, R, by omega, rfl, rfl, hR, ?_⟩
        rcases hq with ⟨q1, q2, q3⟩ | ⟨q1, q2, x, q3, q4, q5⟩
        · refine Or.inl ⟨q1, q2, fun x hx => ?_⟩
          by_cases q : x = i
          · subst q; exact hA
          · exact q3 x (by omega)
        · refine Or.inr ⟨q1, fun x hx hx2 => ?_, x, by omega, q4, q5⟩
          by_cases q : x = i
          · subst q; rw [hA] at hx2; exact absurd hx2 (by decide)
          · exact q2 x (by omega) hx2
      · have hv := htab i (by omega) hA
        rw [if_pos rfl, if_neg (by decide)]
        rcases hq with ⟨rfl, q2, q3⟩ | ⟨rfl, q2, x, q3, q4, q5⟩
        · rw [if_neg (by decide)]
          refine hr _ _ _ (d - 1) (by omega) ⟨i + 1, V i + 1, by omega, rfl, rfl, by omega, Or.inr ⟨rfl, fun x hx hx2 => ?_, i, by omega, hA, rfl⟩⟩
          by_cases q : x = i
          · subst q; exact Nat.le_refl _
          · rw [q3 x (by omega)] at hx2; exact absurd hx2 (by decide)
        · rw [if_pos rfl, if_neg (by decide)]
          by_cases q : R ≤ V i + 1
          · rw [if_pos (nI_le q (by omega))]
            refine hr _ _ _ (d - 1) (by omega) ⟨i + 1, R, by omega, rfl, rfl, hR, Or.inr ⟨rfl, fun x hx hx2 => ?_, x, by omega, q4, q5⟩⟩
            by_cases q' : x = i
            · subst q'; exact q
            · exact q2 x (by omega) hx2
          · rw [if_neg (nI_ge (by omega) (by omega))]
            refine hr _ _ _ (d - 1) (by omega) ⟨i + 1, V i + 1, by omega, rfl, rfl, by omega, Or.inr ⟨rfl, fun x hx hx2 => ?_, i, by omega, hA, rfl⟩⟩
            by_cases q' : x = i
            · subst q'; exact Nat.le_refl _
            · have := q2 x (by omega) hx2; omega
end TLK
def tvl (tab : Nat → Int32) (s l t : Nat) : Nat := (tab (spt s l t)).toNatClampNeg
def okT (w : Nat) (C : Nat → Nat → Nat → Bool) (z : Nat) (tab : Nat → Int32) (s l t : Nat) : Prop := tab (spt s l t) = nI (tvl tab s l t) ∧ tvl tab s l t ≤ 10 ∧ (z ≠ 0 → tvl tab s l t + pcn s 10 ≤ 10) ∧ EqZ w C z s l t (fun x => tvl tab (s ||| 2 ^ x) x (1 - t)) (tvl tab s l t)
theorem EqZ_cong {w z s l t R : Nat} {C : Nat → Nat → Nat → Bool} {V V' : Nat → Nat} (h : ∀ x, x < w → aA C s l t x = true → V x = V' x) (he : EqZ w C z s l t V R) : EqZ w C z s l t V' R := by
  obtain ⟨e0, e1, e2⟩ := he
  refine ⟨fun q => ?_, fun q => ?_, fun q => ?_⟩
  · rcases e0 q with ⟨a1, x, a2, a3, a4⟩ | ⟨a1, a2⟩
    · exact Or.inl ⟨a1, x, a2, a3, by rw [← h x a2 a3]; exact a4⟩
    · exact Or.inr ⟨a1, fun x hx hx2 => by rw [← h x hx hx2]; exact a2 x hx hx2⟩
  · obtain ⟨a1, a2⟩ := e1 q
    refine ⟨fun x hx hx2 => by rw [← h x hx hx2]; exact a1 x hx hx2, ?_⟩
    rcases a2 with a2 | ⟨x, a2, a3, a4⟩
    · exact Or.inl a2
    · exact Or.inr ⟨x, a2, a3, by rw [← h x a2 a3]; exact a4⟩
  · obtain ⟨a1, a2⟩ := e2 q
    refine ⟨fun x hx hx2 => by rw [← h x hx hx2]; exact a1 x hx hx2, ?_⟩
    rcases a2 with a2 | ⟨x, a2, a3, a4⟩
    · exact Or.inl a2
    · exact Or.inr ⟨x, a2, a3, by rw [← h x a2 a3]; exact a4⟩
theorem aA_gt {C : Nat → Nat → Nat → Bool} {s l t x : Nat} (h : aA C s l t x = true) : s.testBit x = false ∧ s < s ||| 2 ^ x ∧ C t l x = true := by
  unfold aA at h
  rw [Bool.and_eq_true, Bool.not_eq_true'] at h
  exact ⟨h.2, or_gt h.2, h.1⟩
theorem okT_cong {w z s l t : Nat} {C : Nat → Nat → Nat → Bool} {tab tab' : Nat → Int32} (hw : w ≤ 10) (hs : s < 2 ^ w) (h0 : tab' (spt s l t) = tab (spt s l t)) (h1 : ∀ s', s < s' → s' < 2 ^ w → ∀ l', l' < w → ∀ t', t' < 2 → tab' (spt s' l' t') = tab (spt s' l' t')) (hl : l < w) (hk : okT w C z tab s l t) : okT w C z tab' s l t := by
  obtain ⟨a1, a2, a3, a4⟩ := hk
  have e : tvl tab' s l t = tvl tab s l t := by unfold tvl; rw [h0]
  refine ⟨by rw [h0, e]; exact a1, by rw [e]; exact a2, by rw [e]; exact a3, ?_⟩
  rw [e]
  refine EqZ_cong (fun x hx hx2 => ?_) a4
  obtain ⟨b1, b2, _⟩ := aA_gt hx2
  unfold tvl
  rw [h1 _ b2 (or_we hw hs hx).2 x hx (1 - t) (by omega)]
theorem spt_i {s l t s' l' t' : Nat} (hl : l < 10) (hl' : l' < 10) (ht : t < 2) (ht' : t' < 2) (h : spt s l t = spt s' l' t') : s = s' ∧ l = l' ∧ t = t' := by
  unfold spt at h
  omega
theorem okT_upd {w z s l t d i t0 : Nat} {C : Nat → Nat → Nat → Bool} {tab : Nat → Int32} {R : Int32} (hw : w ≤ 10) (hs : s < 2 ^ w) (hl : l < w) (ht : t < 2) (hi : i < w) (ht0 : t0 < 2) (hd : d ≤ s) (hne : ¬ (d = s ∧ i = l ∧ t0 = t)) (hk : okT w C z tab s l t) : okT w C z (upd tab (spt d i t0) R) s l t := by
  refine okT_cong hw hs ?_ ?_ hl hk
  · exact upd_n (fun q => by have := spt_i (by omega) (by omega) ht ht0 q; exact hne ⟨this.1.symm, this.2.1.symm, this.2.2.symm⟩)
  · intro s' hs' _ l' hl' t' ht'
    exact upd_n (fun q => by have := spt_i (by omega) (by omega) ht' ht0 q; omega)
section TAB
variable {N w : Nat} {f e m al kd wt : Nat → Int32} {C : Nat → Nat → Nat → Bool}
theorem s_okT {z s l t : Nat} {J : Int32} {tab : Nat → Int32} (hN : 3000 ≤ N) (hw : w ≤ 10) (hs : s < 2 ^ w) (hl : l < w) (ht : t < 2) (hz : z < 3) (h0 : f 0 = nI w) (hch : fX11_chimesWith N f J (nI l) = some (bs (C t l) w)) (hd : ∀ s', s < s' → s' < 2 ^ w → ∀ l', l' < w → ∀ t', t' < 2 → okT w C z tab s' l' t') : ∃ R : Int32, fX11_talkOf N f tab J (nI s) (nI l) (nI t) (nI z) = some R ∧ okT w C z (upd tab (spt s l t) R) s l t := by
  have p2 := (p2w w (by omega)).2
  have hok : ∀ x, x < w → aA C s l t x = true → okT w C z tab (s ||| 2 ^ x) x (1 - t) := fun x hx hA => hd _ (aA_gt hA).2.1 (or_we hw hs hx).2 x hx (1 - t) (by omega)
  obtain ⟨R, r1, r2, r3⟩ := s_talkOf (V := fun x => tvl tab (s ||| 2 ^ x) x (1 - t)) hN hw hs hl ht h0 hch (fun x hx hA => ⟨(hok x hx hA).1, (hok x hx hA).2.1⟩) hz
  have hun : ∀ s', s < s' → ∀ l' t', upd tab (spt s l t) (nI R) (spt s' l' t') = tab (spt s' l' t') ∨ (10 ≤ l') ∨ 2 ≤ t' := by
    intro s' hs' l' t'
    by_cases q1 : 10 ≤ l'
    · exact Or.inr (Or.inl q1)
    · by_cases q2 : 2 ≤ t'
      · exact Or.inr (Or.inr q2)
      · refine Or.inl (upd_n (fun q => ?_))
        have := spt_i (by omega) (by omega) (by omega) ht q
        omega
  have hb : R ≤ 10 ∧ (z ≠ 0 → R + pcn s 10 ≤ 10) := by
    have hpc := pcn_le s 10
    have key : z ≠ 0 → ((R = 0 ∧ ∀ x, x < w → aA C s l t x = false) ∨ ∃ x, x < w ∧ aA C s l t x = true ∧ R = tvl tab (s ||| 2 ^ x) x (1 - t) + 1) → R + pcn s 10 ≤ 10 := by
      intro hz0 h
      rcases h with ⟨a, _⟩ | ⟨x, hx, hA, a⟩
      · omega
      · have h1 := (hok x hx hA).2.2.1 hz0
        rw [pcn_or (aA_gt hA).1 10, if_pos (show x < 10 by omega)] at h1
        omega
    rcases (show z = 0 ∨ z = 1 ∨ z = 2 by omega) with q | q | q
    · refine ⟨?_, fun z => absurd q z⟩
      rcases r3.1 q with a | a <;> omega
    · have := key (by omega) (r3.2.1 q).2
      exact ⟨by omega, fun _ => this⟩
    · have := key (by omega) (r3.2.2 q).2
      exact ⟨by omega, fun _ => this⟩
  refine ⟨nI R, r1, ?_⟩
  have e1 : tvl (upd tab (spt s l t) (nI R)) s l t = R := by unfold tvl; rw [upd_s, cl_n (by omega)]
  refine ⟨by rw [e1, upd_s], by rw [e1]; exact hb.1, by rw [e1]; exact hb.2, ?_⟩
  rw [e1]
  refine EqZ_cong (fun x hx hA => ?_) r3
  unfold tvl
  rcases hun _ (aA_gt hA).2.1 x (1 - t) with q | q | q
  · rw [q]
  · omega
  · omega
set_option maxHeartbeats 1000000 in
theorem s_Mtwo {z s0 l0 : Nat} {J0 J1 t rfX : Int32} {rf tab : Nat → Int32} (hN : 3000 ≤ N) (hw : w ≤ 10) (hs0 : s0 < 2 ^ w) (hl0 : l0 < w) (hz : z < 3) (h0 : f 0 = nI w) (h2 : f 2 = nI s0) (hc0 : ∀ l, l < w → fX11_chimesWith N f J0 (nI l) = some (bs (C 0 l) w)) (hc1 : ∀ l, l < w → fX11_chimesWith N f J1 (nI l) = some (bs (C 1 l) w)) : ∃ tab' : Nat → Int32, fX11_two_b64 N t rf f J0 J1 (nI l0) (nI z) tab (nI (2 ^ w) - 1) = some (nI (tvl tab' s0 l0 0), t, rf, tab') ∧ ∀ s, s < 2 ^ w → ∀ l, l < w → ∀ t, t < 2 → okT w C z tab' s l t := by
  have p2 := (p2w w (by omega)).2
  unfold fX11_two_b64
  refine fx2 (fun d (ta : Nat → Int32) (y : Int32) => d ≤ 2 ^ w ∧ y + 1 = nI d ∧ ∀ s, d ≤ s → s < 2 ^ w → ∀ l, l < w → ∀ t, t < 2 → okT w C z ta s l t) (fun o => ∃ tab' : Nat → Int32, o = some (nI (tvl tab' s0 l0 0), t, rf, tab') ∧ ∀ s, s < 2 ^ w → ∀ l, l < w → ∀ t, t < 2 → okT w C z tab' s l t) ?_ N (2 ^ w) _ _ (by omega) ⟨Nat.le_refl _, Int32.sub_add_cancel _ _, fun s h1 h2 => by omega⟩
  intro r d ta y hI hr
  obtain ⟨hd, hy, hok⟩ := hI
  unfold fX11_two_b64_body
  rcases Nat.eq_zero_or_pos d with hd0 | hd0
  · subst hd0
    have e : y = -1 := by
      have h2 := congrArg (fun z => z - 1) hy
      simp only [Int32.add_sub_cancel] at h2
      rw [h2]; rfl
    subst e
    unfold fX11_two_b145
    rw [if_pos (by decide), ck2 (by decide), cl2, h2, show (0 : Int32) = nI 0 from rfl, s_spot, gm_bind_s, gm_chk_n (by unfold spt; omega) (by decide), cl_n (by unfold spt; omega), (hok s0 (Nat.zero_le _) hs0 l0 hl0 0 (by decide)).1]
    exact ⟨ta, rfl, fun s hs => hok s (Nat.zero_le _) hs⟩
  · obtain ⟨d, rfl⟩ : ∃ k, d = k + 1 := ⟨d - 1, by omega⟩
    have e : y = nI d := by
      rw [← nI_1] at hy
      exact (Int32.add_left_inj 1).mp hy
    subst e
    rw [if_neg (show ¬ nI d < (0 : Int32) from Int32.not_lt.mpr (nI_le (a := 0) (b := d) (Nat.zero_le _) (by omega)))]
    unfold fX11_two_b72
    refine fx2 (fun d2 (tb : Nat → Int32) (x6 : Int32) => ∃ i, i + d2 = w ∧ x6 = nI i ∧ (∀ s, d < s → s < 2 ^ w → ∀ l, l < w → ∀ t, t < 2 → okT w C z tb s l t) ∧ ∀ l, l < i → ∀ t, t < 2 → okT w C z tb d l t) (fun o => ∃ tab' : Nat → Int32, o = some (nI (tvl tab' s0 l0 0), t, rf, tab') ∧ ∀ s, s < 2 ^ w → ∀ l, l < w → ∀ t, t < 2 → okT w C z tab' s l t) ?_ N w _ _ (by omega) ⟨0, by omega, rfl, fun s hs => hok s (by omega), fun l hl => absurd hl (Nat.not_lt_zero l)⟩
    intro r2 d2 tb x6 hI2 hr2
    obtain ⟨i, hi, rfl, hgt, hdone⟩ := hI2
    unfold fX11_two_b72_body
    rw [ck0 (by decide), cl0, h0]
    rcases Nat.eq_zero_or_pos d2 with hd2 | hd2
    · unfold fX11_two_b139
      rw [hd_end (by omega) (by omega)]
      refine hr _ _ d (by omega) ⟨by omega, ?_, fun s hs hs2 l hl t ht => ?_⟩
      · rw [Int32.add_assoc, show ((-1 : Int32) + 1) = 0 by decide, Int32.add_zero]
      · by_cases q : s = d
        · subst q; exact hdone l (by omega) t ht
        · exact hgt s (by omega) hs2 l hl t ht
    · have hiw : i < w := by omega
      obtain ⟨R0, q0, k0⟩ := s_okT (t := 0) (l := i) (s := d) (tab := tb) hN hw (by omega) hiw (by decide) hz h0 (hc0 i hiw) hgt
      have hgt1 : ∀ s, d < s → s < 2 ^ w → ∀ l, l < w → ∀ t, t < 2 → okT w C z (upd tb (spt d i 0) R0) s l t := fun s hs hs2 l hl t ht => okT_upd hw hs2 hl ht hiw (by decide) (by omega) (by omega) (hgt s hs hs2 l hl t ht)
      obtain ⟨R1, q1, k1⟩ := s_okT (t := 1) (l := i) (s := d) (tab := upd tb (spt d i 0) R0) hN hw (by omega) hiw (by decide) hz h0 (hc1 i hiw) hgt1
      have q0' : fX11_talkOf N f tb J0 (nI d) (nI i) 0 (nI z) = some R0 := q0
      have q1' : fX11_talkOf N f (upd tb (spt d i 0) R0) J1 (nI d) (nI i) 1 (nI z) = some R1 := q1
      have sp0 : fX11_spot N (nI d) (nI i) 0 = some (nI (spt d i 0)) := s_spot d i 0
      have sp1 : fX11_spot N (nI d) (nI i) 1 = some (nI (spt d i 1)) := s_spot d i 1
      rw [hd_go hiw (by omega), sp0, gm_bind_s, q0', gm_bind_s, gm_chk_n (by unfold spt; omega) (by decide), sp1, gm_bind_s, cl_n (by unfold spt; omega), q1', gm_bind_s, gm_chk_n (by unfold spt; omega) (by decide), cl_n (by unfold spt; omega)]
      refine hr2 _ _ (d2 - 1) (by omega) ⟨i + 1, by omega, nI_1 i, fun s hs hs2 l hl t ht => okT_upd hw hs2 hl ht hiw (by decide) (by omega) (by omega) (hgt1 s hs hs2 l hl t ht), fun l hl t ht => ?_⟩
      by_cases q : l = i
      · subst q
        rcases (show t = 0 ∨ t = 1 by omega) with q | q
        · subst q
          exact okT_upd hw (by omega) hiw (by decide) hiw (by decide) (Nat.le_refl _) (by omega) k0
        · subst q
          exact k1
      · exact okT_upd hw (by omega) (by omega) ht hiw (by decide) (Nat.le_refl _) (by omega) (okT_upd hw (by omega) (by omega) ht hiw (by decide) (Nat.le_refl _) (by omega) (hdone l (by omega) t ht))
end TAB
/-! ===== two who talk: the class ===== -/
theorem and_one {x : Int32} {n : Nat} (hn : n < 32) : x &&& ((1 : Int32) <<< (nI n &&& 31)) = 0 ↔ bt x n = false := by
  constructor
  · intro h
    have h2 := congrArg (fun y => bt y n) h
    simp only [b_and, b_one n hn hn, b_0, decide_true, Bool.and_true] at h2
    exact h2
  · intro h
    refine b_ext (fun i hi => ?_)
    rw [b_and, b_one n hn hi, b_0]
    by_cases q : i = n
    · subst q; rw [h]; rfl
    · rw [decide_eq_false q, Bool.and_false]
theorem and_z {x y : Int32} : x &&& y = 0 ↔ ∀ i, i < 32 → (bt x i && bt y i) = false := by
  constructor
  · intro h i _
    rw [← b_and, h, b_0]
  · intro h
    refine b_ext (fun i hi => ?_)
    rw [b_and, h i hi, b_0]
theorem nI_subD {a b : Nat} (h : b ≤ a) : nI a - nI b = nI (a - b) := (Int32.ofNat_sub a b h).symm
def sup (s0 s : Nat) : Prop := s &&& s0 = s0
theorem sup_i {s0 s : Nat} : sup s0 s ↔ ∀ i, s0.testBit i = true → s.testBit i = true := by
  unfold sup
  constructor
  · intro h i hi
    have h2 := congrArg (fun y => y.testBit i) h
    simp only [Nat.testBit_and, hi, Bool.and_true] at h2
    exact h2
  · intro h
    refine Nat.eq_of_testBit_eq (fun i => ?_)
    rw [Nat.testBit_and]
    cases q : s0.testBit i
    · rw [Bool.and_false]
    · rw [h i q]; rfl
theorem sup_c {s0 s w : Nat} (hw : w ≤ 10) (hs : s < 2 ^ w) (h0 : s0 < 2 ^ w) : nI s &&& nI s0 = nI s0 ↔ sup s0 s := by
  have p2 := (p2w w (by omega)).2
  have e : nI s &&& nI s0 = nI (s &&& s0) := b_ext (fun i hi => by rw [b_and, bt_nI hi, bt_nI hi, bt_nI hi, Nat.testBit_and])
  have h1 : s &&& s0 ≤ s0 := Nat.and_le_right
  rw [e, nI_eq (by omega) (by omega)]
  exact Iff.rfl
def kk (s0 s : Nat) : Nat := pcn s 10 - pcn s0 10
def par (s0 s : Nat) : Nat := kk s0 s % 2
theorem kk_or {s0 s x : Nat} (h : sup s0 s) (hx : x < 10) (hn : s.testBit x = false) : sup s0 (s ||| 2 ^ x) ∧ kk s0 (s ||| 2 ^ x) = kk s0 s + 1 ∧ par s0 (s ||| 2 ^ x) = 1 - par s0 s := by
  have h1 := pcn_mono (sup_i.mp h) 10
  have h2 := pcn_or hn 10
  rw [if_pos hx] at h2
  have e : kk s0 (s ||| 2 ^ x) = kk s0 s + 1 := by unfold kk; omega
  refine ⟨sup_i.mpr (fun i hi => by rw [Nat.testBit_or, sup_i.mp h i hi]; rfl), e, ?_⟩
  unfold par
  omega
theorem kk_le {s0 s : Nat} : kk s0 s ≤ 10 := by unfold kk; have := pcn_le s 10; omega
theorem par_lt {s0 s : Nat} : par s0 s < 2 := Nat.mod_lt _ (by decide)
theorem kk_0 {s0 : Nat} : kk s0 s0 = 0 := by unfold kk; omega
theorem sup_0 {s0 : Nat} : sup s0 s0 := by unfold sup; exact Nat.and_self s0
theorem mod2 : ∀ k, k < 11 → nI k - nI k / 2 * 2 = nI (k % 2) := by decide +kernel
section CLS
variable {N w s0 : Nat}
theorem s_answered {s : Nat} (hw : w ≤ 10) (hs : s < 2 ^ w) (h0 : s0 < 2 ^ w) (h : sup s0 s) : fX2_answered N (nI s0) (nI s) = some (nI (kk s0 s)) := by
  have p2 := (p2w w (by omega)).2
  unfold fX2_answered
  rw [s_bitCount, gm_bind_s, s_bitCount, gm_bind_s, bc_pcn s (by omega), bc_pcn s0 (by omega), nI_subD (pcn_mono (sup_i.mp h) 10)]
  rfl
theorem s_chNext {s : Nat} (hw : w ≤ 10) (hs : s < 2 ^ w) (h0 : s0 < 2 ^ w) (h : sup s0 s) : fX2_chimesOfNext N (nI s0) (nI s) = some (nI (par s0 s)) := by
  have hk := kk_le (s0 := s0) (s := s)
  unfold fX2_chimesOfNext
  rw [s_answered hw hs h0 h, gm_bind_s, gm_nz_ok (by decide), mod2 _ (by omega)]
  unfold par
  rcases (show kk s0 s % 2 = 0 ∨ kk s0 s % 2 = 1 by omega) with q | q
  · rw [q]; rfl
  · rw [q]; rfl
theorem s_traps {s : Nat} {la : Nat → Int32} (hN : 3000 ≤ N) (hw : w ≤ 10) (hs : s < 2 ^ w) : fX2_traps N (nI w) la (nI s) = some (bs (fun x => !s.testBit x && !bt (la (s ||| 2 ^ x)) x) w) := by
  have p2 := (p2w w (by omega)).2
  unfold fX2_traps fX2_traps_b4
  refine lpA w (fun i => bs (fun x => !s.testBit x && !bt (la (s ||| 2 ^ x)) x) i) _ ?_ ?_ 0 (by omega) (by omega)
  · intro r i hi
    obtain ⟨o1, o2⟩ := or_we hw hs hi
    unfold fX2_traps_b4_body fX2_traps_b44
    rw [hd_go hi (by omega), gm_let_s, nI_1]
    show _ = r (bs (fun x => !s.testBit x && !bt (la (s ||| 2 ^ x)) x) i ||| _) _
    cases q : s.testBit i
    · rw [if_pos ((and_one (by omega)).mpr (by rw [bt_nI (by omega)]; exact q)), o1, gm_chk_n (by omega) (by decide), cl_n (by omega)]
      cases q2 : bt (la (s ||| 2 ^ i)) i
      · rw [if_pos ((and_one (by omega)).mpr q2), gm_let_s]; simp [q, q2]
      · rw [if_neg (fun y => by rw [(and_one (by omega)).mp y] at q2; exact absurd q2 (by decide))]
        simp [q, q2, or_0]
    · rw [if_neg (fun y => by have := (and_one (by omega)).mp y; rw [bt_nI (by omega), q] at this; exact absurd this (by decide))]
      simp [q, or_0]
  · intro r
    unfold fX2_traps_b4_body
    rw [hd_end (by omega) (by omega)]
theorem fw52 {s : Nat} {la cf cs : Nat → Int32} {tr sF as : Int32} {r9 : (Nat → Int32) → Int32 → Option (Int32 × (Nat → Int32))} {P : Option (Int32 × (Nat → Int32)) → Prop} (hN : 3000 ≤ N) (hw : w ≤ 10) (hs : s < 2 ^ w) (hend : ∀ lb : Nat → Int32, lb s = bs (fun l => decide (¬ cf l &&& tr = 0)) w → (∀ s', s' ≠ s → lb s' = la s') → P (r9 lb (nI s + (-1)))) : P (fX2_firstWins_b52 N r9 (nI w) sF as cf cs (nI s) tr (upd la s 0) 0) := by
  have p2 := (p2w w (by omega)).2
  unfold fX2_firstWins_b52
  refine fx2 (fun d (lb : Nat → Int32) (x : Int32) => ∃ i, i + d = w ∧ x = nI i ∧ lb s = bs (fun l => decide (¬ cf l &&& tr = 0)) i ∧ ∀ s', s' ≠ s → lb s' = la s') P ?_ N w _ _ (by omega) ⟨0, by omega, rfl, upd_s, fun s' h => upd_n h⟩
  intro r d lb x hI hr
  obtain ⟨i, hi, rfl, h1, h2⟩ := hI
  unfold fX2_firstWins_b52_body fX2_firstWins_b83
  rcases Nat.eq_zero_or_pos d with hd | hd
  · unfold fX2_firstWins_b89
    rw [hd_end (by omega) (by omega)]
    exact hend lb (by rw [h1, show i = w by omega]) h2
  · rw [hd_go (by omega) (by omega), gm_chk_n (by omega) (by decide), cl_n (by omega)]
    by_cases q : cf i &&& tr = 0
    · rw [if_pos q]
      refine hr _ _ (d - 1) (by omega) ⟨i + 1, by omega, nI_1 i, ?_, h2⟩
      rw [h1, bs, decide_eq_false (fun z => z q), if_neg (by decide), or_0]
    · rw [if_neg q, gm_chk_n (by omega) (by decide), gm_chk_n (by omega) (by decide), cl_n (by omega)]
      refine hr _ _ (d - 1) (by omega) ⟨i + 1, by omega, nI_1 i, ?_, fun s' h => by rw [upd_n h]; exact h2 s' h⟩
      rw [upd_s, h1, bs, decide_eq_true q, if_pos rfl]
theorem fw52x {s : Nat} {la cf cs : Nat → Int32} {tr sF as : Int32} {r9 : (Nat → Int32) → Int32 → Option (Int32 × (Nat → Int32))} {P : Option (Int32 × (Nat → Int32)) → Prop} (hN : 3000 ≤ N) (hw : w ≤ 10) (hs : s < 2 ^ w) (hend : ∀ lb : Nat → Int32, lb s = bs (fun l => decide (¬ cs l &&& tr = 0)) w → (∀ s', s' ≠ s → lb s' = la s') → P (r9 lb (nI s + (-1)))) : P (fX2_firstWins_b52x N r9 (nI w) sF as cf cs (nI s) tr (upd la s 0) 0) := by
  have p2 := (p2w w (by omega)).2
  unfold fX2_firstWins_b52x
  refine fx2 (fun d (lb : Nat → Int32) (x : Int32) => ∃ i, i + d = w ∧ x = nI i ∧ lb s = bs (fun l => decide (¬ cs l &&& tr = 0)) i ∧ ∀ s', s' ≠ s → lb s' = la s') P ?_ N w _ _ (by omega) ⟨0, by omega, rfl, upd_s, fun s' h => upd_n h⟩
  intro r d lb x hI hr
  obtain ⟨i, hi, rfl, h1, h2⟩ := hI
  unfold fX2_firstWins_b52x_body fX2_firstWins_b83x
  rcases Nat.eq_zero_or_pos d with hd | hd
  · unfold fX2_firstWins_b89
    rw [hd_end (by omega) (by omega)]
    exact hend lb (by rw [h1, show i = w by omega]) h2
  · rw [hd_go (by omega) (by omega), gm_chk_n (by omega) (by decide), cl_n (by omega)]
    by_cases q : cs i &&& tr = 0
    · rw [if_pos q]
      refine hr _ _ (d - 1) (by omega) ⟨i + 1, by omega, nI_1 i, ?_, h2⟩
      rw [h1, bs, decide_eq_false (fun z => z q), if_neg (by decide), or_0]
    · rw [if_neg q, gm_chk_n (by omega) (by decide), gm_chk_n (by omega) (by decide), cl_n (by omega)]
      refine hr _ _ (d - 1) (by omega) ⟨i + 1, by omega, nI_1 i, ?_, fun s' h => by rw [upd_n h]; exact h2 s' h⟩
      rw [upd_s, h1, bs, decide_eq_true q, if_pos rfl]
set_option maxHeartbeats 1000000 in
theorem s_firstWins {l0 : Nat} {la cf cs tab : Nat → Int32} {C : Nat → Nat → Nat → Bool} (hN : 3000 ≤ N) (hw : w ≤ 10) (h0 : s0 < 2 ^ w) (hl0 : l0 < w) (hcf : ∀ l, l < w → cf l = bs (C 0 l) w) (hcs : ∀ l, l < w → cs l = bs (C 1 l) w) (hT : ∀ s, s < 2 ^ w → ∀ l, l < w → ∀ t, t < 2 → okT w C 0 tab s l t) : ∃ la' : Nat → Int32, fX2_firstWins N (nI w) (nI s0) (nI l0) cf cs la = some (nI (tvl tab s0 l0 0), la') := by
  obtain ⟨p1, p2⟩ := p2w w (by omega)
  have hbin : ∀ s, s < 2 ^ w → ∀ l, l < w → ∀ t, t < 2 → tvl tab s l t = t ∨ tvl tab s l t = 1 - t := fun s hs l hl t ht => by
    rcases (hT s hs l hl t ht).2.2.2.1 rfl with ⟨q, _⟩ | ⟨q, _⟩
    · exact Or.inr q
    · exact Or.inl q
  unfold fX2_firstWins fX2_firstWins_b9
  rw [p1, gm_let_s]
  refine fx2 (fun d (lb : Nat → Int32) (y : Int32) => s0 + d ≤ 2 ^ w ∧ y + 1 = nI (s0 + d) ∧ ∀ s, s0 + d ≤ s → s < 2 ^ w → sup s0 s → ∀ l, l < w → bt (lb s) l = decide (tvl tab s l (par s0 s) = 1 - par s0 s)) (fun o => ∃ la' : Nat → Int32, o = some (nI (tvl tab s0 l0 0), la')) ?_ N (2 ^ w - s0) _ _ (by omega) ⟨by omega, by rw [Int32.sub_add_cancel, show s0 + (2 ^ w - s0) = 2 ^ w by omega], fun s h1 h2 => by omega⟩
  intro r d lb y hI hr
  obtain ⟨hd, hy, hok⟩ := hI
  unfold fX2_firstWins_b9_body
  rcases Nat.eq_zero_or_pos d with hd0 | hd0
  · subst hd0
    have e : y = nI s0 - 1 := by
      have h2 := congrArg (fun z => z - 1) hy
      simp only [Int32.add_sub_cancel, Nat.add_zero] at h2
      exact h2
    subst e
    have hlt : nI s0 - 1 < nI s0 := by
      by_cases q : s0 = 0
      · subst q; decide
      · rw [nI_m1 (by omega)]; exact nI_lt (by omega) (by omega)
    unfold fX2_firstWins_b95
    have hb := hok s0 (by omega) h0 sup_0 l0 hl0
    have hp0 : par s0 s0 = 0 := by unfold par; rw [kk_0]
    rw [hp0] at hb
    rw [if_pos hlt, gm_chk_n (by omega) (by decide), cl_n (by omega)]
    rcases hbin s0 h0 l0 hl0 0 (by decide) with q | q
    · rw [q] at hb
      rw [if_neg (fun z => by rw [(b_get1 _ l0 (by omega)).mp z] at hb; exact absurd hb (by decide)), q]
      exact ⟨_, rfl⟩
    · rw [q] at hb
      rw [if_pos ((b_get1 _ l0 (by omega)).mpr hb), q]
      exact ⟨_, rfl⟩
  · obtain ⟨d, rfl⟩ : ∃ k, d = k + 1 := ⟨d - 1, by omega⟩
    have e : y = nI (s0 + d) := by
      rw [show s0 + (d + 1) = (s0 + d) + 1 by omega, ← nI_1] at hy
      exact (Int32.add_left_inj 1).mp hy
    subst e
    have hback : nI (s0 + d) + (-1) + 1 = nI (s0 + d) := by rw [Int32.add_assoc, show ((-1 : Int32) + 1) = 0 by decide, Int32.add_zero]
    rw [if_neg (Int32.not_lt.mpr (nI_le (by omega) (by omega)))]
    by_cases hs : sup s0 (s0 + d)
    · rw [if_pos ((sup_c hw (by omega) h0).mpr hs), s_chNext hw (by omega) h0 hs, gm_bind_s, s_traps hN hw (by omega), gm_bind_s, gm_chk_n (by omega) (by decide), gm_bind_s, gm_chk_n (by omega) (by decide), cl_n (by omega)]
      generalize htr : bs (fun x => !(s0 + d).testBit x && !bt (lb ((s0 + d) ||| 2 ^ x)) x) w = tr
      have hpt := par_lt (s0 := s0) (s := s0 + d)
      have hbit : ∀ l, l < w → ∀ ch : Int32, ch = bs (C (par s0 (s0 + d)) l) w → decide (¬ ch &&& tr = 0) = decide (tvl tab (s0 + d) l (par s0 (s0 + d)) = 1 - par s0 (s0 + d)) := by
        intro l hl ch hch
        subst hch
        have htx : ∀ x, x < w → aA C (s0 + d) l (par s0 (s0 + d)) x = true → (bt tr x = true ↔ tvl tab ((s0 + d) ||| 2 ^ x) x (1 - par s0 (s0 + d)) = 1 - par s0 (s0 + d)) := by
          intro x hx hA
          obtain ⟨g1, g2, g3⟩ := aA_gt hA
          obtain ⟨k1, k2, k3⟩ := kk_or hs (show x < 10 by omega) g1
          have hb := hok _ (by omega) (or_we hw (show s0 + d < 2 ^ w by omega) hx).2 k1 x hx
          rw [k3] at hb
          rw [← htr, bs_bt _ w (by omega) x (by omega), decide_eq_true hx, g1, hb]
          have hv := hbin _ (or_we hw (show s0 + d < 2 ^ w by omega) hx).2 x hx (1 - par s0 (s0 + d)) (by omega)
          simp
          omega
        have hC : ∀ x, x < w → C (par s0 (s0 + d)) l x = true → bt tr x = true → aA C (s0 + d) l (par s0 (s0 + d)) x = true := by
          intro x hx h1 h2
          rw [← htr, bs_bt _ w (by omega) x (by omega), decide_eq_true hx, Bool.true_and, Bool.and_eq_true] at h2
          unfold aA
          rw [h1, h2.1]; rfl
        rcases (hT (s0 + d) (by omega) l hl _ hpt).2.2.2.1 rfl with ⟨q, x, hx, hA, hv⟩ | ⟨q, hno⟩
        · rw [q, decide_eq_true (show 1 - par s0 (s0 + d) = 1 - par s0 (s0 + d) from rfl)]
          refine decide_eq_true (fun z => ?_)
          have := and_z.mp z x (by omega)
          rw [bs_bt _ w (by omega) x (by omega), decide_eq_true hx, (aA_gt hA).2.2, (htx x hx hA).mpr hv] at this
          exact absurd this (by decide)
        · rw [q, decide_eq_false (show ¬ par s0 (s0 + d) = 1 - par s0 (s0 + d) by omega)]
          refine decide_eq_false (fun z => z (and_z.mpr (fun x hx32 => ?_)))
          cases h1 : bt (bs (C (par s0 (s0 + d)) l) w) x
          · rfl
          · cases h2 : bt tr x
            · rfl
            · rw [bs_bt _ w (by omega) x hx32, Bool.and_eq_true, decide_eq_true_eq] at h1
              have hA := hC x h1.1 h1.2 h2
              exact absurd ((htx x h1.1 hA).mp h2) (hno x h1.1 hA)
      have hgo : ∀ (c : Nat → Int32), (∀ l, l < w → c l = bs (C (par s0 (s0 + d)) l) w) → ∀ lb' : Nat → Int32, lb' (s0 + d) = bs (fun l => decide (¬ c l &&& tr = 0)) w → (∀ s', s' ≠ s0 + d → lb' s' = lb s') → ∃ la' : Nat → Int32, r lb' (nI (s0 + d) + (-1)) = some (nI (tvl tab s0 l0 0), la') := by
        intro c hc lb' h1 h2
        refine hr _ _ d (by omega) ⟨by omega, hback, fun s hs1 hs2 hs3 l hl => ?_⟩
        by_cases q : s = s0 + d
        · subst q
          rw [h1, bs_bt _ w (by omega) l (by omega), decide_eq_true hl, Bool.true_and]
          exact hbit l hl _ (hc l hl)
        · rw [h2 s q]
          exact hok s (by omega) hs2 hs3 l hl
      by_cases q : par s0 (s0 + d) = 0
      · rw [if_pos (by rw [q]; rfl)]
        exact fw52 (P := fun o => ∃ la' : Nat → Int32, o = some (nI (tvl tab s0 l0 0), la')) hN hw (by omega) (hgo cf (fun l hl => by rw [q]; exact hcf l hl))
      · have q1 : par s0 (s0 + d) = 1 := by omega
        rw [if_neg (by rw [q1]; decide)]
        exact fw52x (P := fun o => ∃ la' : Nat → Int32, o = some (nI (tvl tab s0 l0 0), la')) hN hw (by omega) (hgo cs (fun l hl => by rw [q1]; exact hcs l hl))
    · rw [if_neg (fun z => hs ((sup_c hw (by omega) h0).mp z))]
      unfold fX2_firstWins_b89
      refine hr _ _ d (by omega) ⟨by omega, hback, fun s hs1 hs2 hs3 l hl => ?_⟩
      by_cases q : s = s0 + d
      · subst q; exact absurd hs3 hs
      · exact hok s (by omega) hs2 hs3 l hl
end CLS
/-! ===== two who talk: how long ===== -/
def dd (M : Int32) (g : Nat → Int32) : Nat → Bool
  | 0 => false
  | n + 1 => dd M g n || (bt M n && decide (g n = 0))
theorem dd_t {M : Int32} {g : Nat → Int32} : ∀ {n : Nat}, dd M g n = true ↔ ∃ l, l < n ∧ bt M l = true ∧ g l = 0
  | 0 => ⟨fun h => by rw [dd] at h; exact absurd h (by decide), fun ⟨l, h, _⟩ => absurd h (Nat.not_lt_zero l)⟩
  | n + 1 => by
    rw [dd, Bool.or_eq_true, Bool.and_eq_true, decide_eq_true_eq, dd_t (n := n)]
    constructor
    · rintro (⟨l, h1, h2, h3⟩ | ⟨h1, h2⟩)
      · exact ⟨l, by omega, h2, h3⟩
      · exact ⟨n, by omega, h1, h2⟩
    · rintro ⟨l, h1, h2, h3⟩
      by_cases q : l = n
      · subst q; exact Or.inr ⟨h2, h3⟩
      · exact Or.inl ⟨l, by omega, h2, h3⟩
theorem ob_t {g : Nat → Int32} {M : Int32} {x : Nat} : ∀ {n : Nat}, bt (ob g M n) x = true ↔ ∃ l, l < n ∧ bt M l = true ∧ bt (g l) x = true
  | 0 => ⟨fun h => by rw [ob, b_0] at h; exact absurd h (by decide), fun ⟨l, h, _⟩ => absurd h (Nat.not_lt_zero l)⟩
  | n + 1 => by
    rw [ob, b_or, Bool.or_eq_true, ob_t (n := n)]
    constructor
    · rintro (⟨l, h1, h2, h3⟩ | h)
      · exact ⟨l, by omega, h2, h3⟩
      · cases q : bt M n
        · rw [q, if_neg (by decide), b_0] at h; exact absurd h (by decide)
        · rw [q, if_pos rfl] at h; exact ⟨n, by omega, q, h⟩
    · rintro ⟨l, h1, h2, h3⟩
      by_cases q : l = n
      · subst q; rw [h2, if_pos rfl]; exact Or.inr h3
      · exact Or.inl ⟨l, by omega, h2, h3⟩
theorem min_if {a b : Nat} (ha : a < 2 ^ 31) (hb : b < 2 ^ 31) : (if nI b < nI a then nI b else nI a) = nI (min a b) := by
  by_cases q : b < a
  · rw [if_pos (nI_lt q ha), show min a b = b by omega]
  · rw [if_neg (Int32.not_lt.mpr (nI_le (by omega) hb)), show min a b = a by omega]
def Lx (D : Bool) (L k : Nat) : Nat := if D then max L k else L
def Sx (D : Bool) (S k : Nat) : Nat := if D then min S k else S
section ENDS
variable {N w s0 : Nat}
theorem s_spread {s : Nat} {la : Nat → Int32} {An lg sh : Int32} (hN : 3000 ≤ N) (hw : w ≤ 10) (hs : s < 2 ^ w) : ∃ lb : Nat → Int32, fX2_goOn_b94 N (nI w) lg sh la (nI s) An = some (lg, sh, lb) ∧ (∀ s' l, bt (la s') l = true → bt (lb s') l = true) ∧ (∀ s' l, l < 32 → bt (lb s') l = true → bt (la s') l = true ∨ (l < w ∧ s' = s ||| 2 ^ l ∧ bt An l = true)) ∧ ∀ x, x < w → bt An x = true → bt (lb (s ||| 2 ^ x)) x = true := by
  have p2 := (p2w w (by omega)).2
  unfold fX2_goOn_b94 fX2_goOn_b97
  refine fx2 (fun d (lb : Nat → Int32) (y : Int32) => ∃ i, i + d = w ∧ y = nI i ∧ (∀ s' l, bt (la s') l = true → bt (lb s') l = true) ∧ (∀ s' l, l < 32 → bt (lb s') l = true → bt (la s') l = true ∨ (l < i ∧ s' = s ||| 2 ^ l ∧ bt An l = true)) ∧ ∀ x, x < i → bt An x = true → bt (lb (s ||| 2 ^ x)) x = true) (fun o => ∃ lb : Nat → Int32, o = some (lg, sh, lb) ∧ (∀ s' l, bt (la s') l = true → bt (lb s') l = true) ∧ (∀ s' l, l < 32 → bt (lb s') l = true → bt (la s') l = true ∨ (l < w ∧ s' = s ||| 2 ^ l ∧ bt An l = true)) ∧ ∀ x, x < w → bt An x = true → bt (lb (s ||| 2 ^ x)) x = true) ?_ N w _ _ (by omega) ⟨0, by omega, rfl, fun _ _ h => h, fun _ _ _ h => Or.inl h, fun x hx => absurd hx (Nat.not_lt_zero x)⟩
  intro r d lb y hI hr
  obtain ⟨i, hi, rfl, h1, h2, h3⟩ := hI
  unfold fX2_goOn_b97_body fX2_goOn_b134
  rcases Nat.eq_zero_or_pos d with hd | hd
  · have e : i = w := by omega
    subst e
    rw [hd_end (by omega) (by omega)]
    exact ⟨lb, rfl, h1, h2, h3⟩
  · obtain ⟨o1, o2⟩ := or_we hw hs (show i < w by omega)
    rw [hd_go (by omega) (by omega), gm_let_s]
    cases q : bt An i with
    | false =>
      rw [if_pos ((and_one (by omega)).mpr q)]
      refine hr _ _ (d - 1) (by omega) ⟨i + 1, by omega, nI_1 i, h1, fun s' l hl h => ?_, fun x hx hx2 => ?_⟩
      · rcases h2 s' l hl h with a | ⟨a1, a2, a3⟩
        · exact Or.inl a
        · exact Or.inr ⟨by omega, a2, a3⟩
      · by_cases e : x = i
        · subst e; rw [q] at hx2; exact absurd hx2 (by decide)
        · exact h3 x (by omega) hx2
    | true =>
      rw [if_neg (fun z => by rw [(and_one (by omega)).mp z] at q; exact absurd q (by decide)), o1, gm_chk_n (by omega) (by decide), gm_chk_n (by omega) (by decide), cl_n (by omega)]
      have hup : ∀ s' l, l < 32 → bt (upd lb (s ||| 2 ^ i) (lb (s ||| 2 ^ i) ||| ((1 : Int32) <<< (nI i &&& 31))) s') l = (bt (lb s') l || (decide (s' = s ||| 2 ^ i) && decide (l = i))) := by
        intro s' l hl
        by_cases e : s' = s ||| 2 ^ i
        · subst e; rw [upd_s, b_or, b_one i (by omega) hl, decide_eq_true rfl, Bool.true_and]
        · rw [upd_n e, decide_eq_false e, Bool.false_and, Bool.or_false]
      refine hr _ _ (d - 1) (by omega) ⟨i + 1, by omega, nI_1 i, fun s' l h => ?_, fun s' l hl h => ?_, fun x hx hx2 => ?_⟩
      · by_cases hl : l < 32
        · rw [hup s' l hl, h1 s' l h]; rfl
        · rw [b_big (by omega)] at h; exact absurd h (by decide)
      · rw [hup s' l hl, Bool.or_eq_true, Bool.and_eq_true, decide_eq_true_eq, decide_eq_true_eq] at h
        rcases h with h | ⟨e1, e2⟩
        · rcases h2 s' l hl h with a | ⟨a1, a2, a3⟩
          · exact Or.inl a
          · exact Or.inr ⟨by omega, a2, a3⟩
        · subst e2; exact Or.inr ⟨by omega, e1, q⟩
      · rw [hup _ x (by omega)]
        by_cases e : x = i
        · subst e; rw [decide_eq_true rfl, decide_eq_true rfl]; simp
        · rw [h3 x (by omega) hx2]; rfl
theorem s_go {s Lg Sh k : Nat} {la cf cs : Nat → Int32} (hN : 3000 ≤ N) (hw : w ≤ 10) (hs : s < 2 ^ w) (hL : Lg ≤ 10) (hS : Sh ≤ 10) (hk : k ≤ 10) : ∃ lb : Nat → Int32, fX2_goOn_b18 N (nI w) cf cs la (nI s) (nI k) (nI Lg) (nI Sh) 0 0 = some (nI (Lx (dd (la s) (fun l => cf l &&& (nI s ^^^ (-1))) w) Lg k), nI (Sx (dd (la s) (fun l => cf l &&& (nI s ^^^ (-1))) w) Sh k), lb) ∧ (∀ s' l, bt (la s') l = true → bt (lb s') l = true) ∧ (∀ s' l, l < 32 → bt (lb s') l = true → bt (la s') l = true ∨ (l < w ∧ s' = s ||| 2 ^ l ∧ bt (ob (fun l => cf l &&& (nI s ^^^ (-1))) (la s) w) l = true)) ∧ ∀ x, x < w → bt (ob (fun l => cf l &&& (nI s ^^^ (-1))) (la s) w) x = true → bt (lb (s ||| 2 ^ x)) x = true := by
  have p2 := (p2w w (by omega)).2
  unfold fX2_goOn_b18
  refine fx4 (fun d (a b c y : Int32) => ∃ i, i + d = w ∧ y = nI i ∧ a = nI (Lx (dd (la s) (fun l => cf l &&& (nI s ^^^ (-1))) i) Lg k) ∧ b = nI (Sx (dd (la s) (fun l => cf l &&& (nI s ^^^ (-1))) i) Sh k) ∧ c = ob (fun l => cf l &&& (nI s ^^^ (-1))) (la s) i) (fun o => ∃ lb : Nat → Int32, o = some (nI (Lx (dd (la s) (fun l => cf l &&& (nI s ^^^ (-1))) w) Lg k), nI (Sx (dd (la s) (fun l => cf l &&& (nI s ^^^ (-1))) w) Sh k), lb) ∧ (∀ s' l, bt (la s') l = true → bt (lb s') l = true) ∧ (∀ s' l, l < 32 → bt (lb s') l = true → bt (la s') l = true ∨ (l < w ∧ s' = s ||| 2 ^ l ∧ bt (ob (fun l => cf l &&& (nI s ^^^ (-1))) (la s) w) l = true)) ∧ ∀ x, x < w → bt (ob (fun l => cf l &&& (nI s ^^^ (-1))) (la s) w) x = true → bt (lb (s ||| 2 ^ x)) x = true) ?_ N w _ _ _ _ (by omega) ⟨0, by omega, rfl, rfl, rfl, rfl⟩
  intro r d a b c y hI hr
  obtain ⟨i, hi, rfl, rfl, rfl, rfl⟩ := hI
  unfold fX2_goOn_b18_body fX2_goOn_b88
  rcases Nat.eq_zero_or_pos d with hd | hd
  · have e : i = w := by omega
    subst e
    rw [hd_end (by omega) (by omega)]
    exact s_spread hN hw hs
  · rw [hd_go (by omega) (by omega), gm_chk_n (by omega) (by decide), cl_n (by omega)]
    have hlx : ∀ D, Lx D Lg k ≤ 10 := fun D => by unfold Lx; split <;> omega
    have hsx : ∀ D, Sx D Sh k ≤ 10 := fun D => by unfold Sx; split <;> omega
    cases q : bt (la s) i with
    | false =>
      rw [if_neg (fun z => by rw [(b_get1 _ i (by omega)).mp z] at q; exact absurd q (by decide))]
      refine hr _ _ _ _ (d - 1) (by omega) ⟨i + 1, by omega, nI_1 i, ?_, ?_, ?_⟩
      · rw [dd, q, Bool.false_and, Bool.or_false]
      · rw [dd, q, Bool.false_and, Bool.or_false]
      · rw [ob, q, if_neg (by decide), or_0]
    | true =>
      rw [if_pos ((b_get1 _ i (by omega)).mpr q), gm_chk_n (by omega) (by decide), gm_let_s, gm_let_s, cl_n (by omega)]
      by_cases q2 : cf i &&& (nI s ^^^ (-1)) = 0
      · rw [if_pos q2, gm_let_s, gm_let_s]
        have h1 := hlx (dd (la s) (fun l => cf l &&& (nI s ^^^ (-1))) i)
        have h2 := hsx (dd (la s) (fun l => cf l &&& (nI s ^^^ (-1))) i)
        rw [max_if (by omega) (by omega), min_if (by omega) (by omega)]
        refine hr _ _ _ _ (d - 1) (by omega) ⟨i + 1, by omega, nI_1 i, ?_, ?_, ?_⟩
        · rw [dd, q, decide_eq_true q2]
          congr 1
          unfold Lx
          cases dd (la s) (fun l => cf l &&& (nI s ^^^ (-1))) i <;> simp
        · rw [dd, q, decide_eq_true q2]
          congr 1
          unfold Sx
          cases dd (la s) (fun l => cf l &&& (nI s ^^^ (-1))) i <;> simp
        · rw [ob, q, if_pos rfl]
      · rw [if_neg q2]
        refine hr _ _ _ _ (d - 1) (by omega) ⟨i + 1, by omega, nI_1 i, ?_, ?_, ?_⟩
        · rw [dd, q, decide_eq_false q2, Bool.and_false, Bool.or_false]
        · rw [dd, q, decide_eq_false q2, Bool.and_false, Bool.or_false]
        · rw [ob, q, if_pos rfl]
theorem s_gox {s Lg Sh k : Nat} {la cf cs : Nat → Int32} (hN : 3000 ≤ N) (hw : w ≤ 10) (hs : s < 2 ^ w) (hL : Lg ≤ 10) (hS : Sh ≤ 10) (hk : k ≤ 10) : ∃ lb : Nat → Int32, fX2_goOn_b18x N (nI w) cf cs la (nI s) (nI k) (nI Lg) (nI Sh) 0 0 = some (nI (Lx (dd (la s) (fun l => cs l &&& (nI s ^^^ (-1))) w) Lg k), nI (Sx (dd (la s) (fun l => cs l &&& (nI s ^^^ (-1))) w) Sh k), lb) ∧ (∀ s' l, bt (la s') l = true → bt (lb s') l = true) ∧ (∀ s' l, l < 32 → bt (lb s') l = true → bt (la s') l = true ∨ (l < w ∧ s' = s ||| 2 ^ l ∧ bt (ob (fun l => cs l &&& (nI s ^^^ (-1))) (la s) w) l = true)) ∧ ∀ x, x < w → bt (ob (fun l => cs l &&& (nI s ^^^ (-1))) (la s) w) x = true → bt (lb (s ||| 2 ^ x)) x = true := by
  have p2 := (p2w w (by omega)).2
  unfold fX2_goOn_b18x
  refine fx4 (fun d (a b c y : Int32) => ∃ i, i + d = w ∧ y = nI i ∧ a = nI (Lx (dd (la s) (fun l => cs l &&& (nI s ^^^ (-1))) i) Lg k) ∧ b = nI (Sx (dd (la s) (fun l => cs l &&& (nI s ^^^ (-1))) i) Sh k) ∧ c = ob (fun l => cs l &&& (nI s ^^^ (-1))) (la s) i) (fun o => ∃ lb : Nat → Int32, o = some (nI (Lx (dd (la s) (fun l => cs l &&& (nI s ^^^ (-1))) w) Lg k), nI (Sx (dd (la s) (fun l => cs l &&& (nI s ^^^ (-1))) w) Sh k), lb) ∧ (∀ s' l, bt (la s') l = true → bt (lb s') l = true) ∧ (∀ s' l, l < 32 → bt (lb s') l = true → bt (la s') l = true ∨ (l < w ∧ s' = s ||| 2 ^ l ∧ bt (ob (fun l => cs l &&& (nI s ^^^ (-1))) (la s) w) l = true)) ∧ ∀ x, x < w → bt (ob (fun l => cs l &&& (nI s ^^^ (-1))) (la s) w) x = true → bt (lb (s ||| 2 ^ x)) x = true) ?_ N w _ _ _ _ (by omega) ⟨0, by omega, rfl, rfl, rfl, rfl⟩
  intro r d a b c y hI hr
  obtain ⟨i, hi, rfl, rfl, rfl, rfl⟩ := hI
  unfold fX2_goOn_b18x_body fX2_goOn_b88x
  rcases Nat.eq_zero_or_pos d with hd | hd
  · have e : i = w := by omega
    subst e
    rw [hd_end (by omega) (by omega)]
    exact s_spread hN hw hs
  · rw [hd_go (by omega) (by omega), gm_chk_n (by omega) (by decide), cl_n (by omega)]
    have hlx : ∀ D, Lx D Lg k ≤ 10 := fun D => by unfold Lx; split <;> omega
    have hsx : ∀ D, Sx D Sh k ≤ 10 := fun D => by unfold Sx; split <;> omega
    cases q : bt (la s) i with
    | false =>
      rw [if_neg (fun z => by rw [(b_get1 _ i (by omega)).mp z] at q; exact absurd q (by decide))]
      refine hr _ _ _ _ (d - 1) (by omega) ⟨i + 1, by omega, nI_1 i, ?_, ?_, ?_⟩
      · rw [dd, q, Bool.false_and, Bool.or_false]
      · rw [dd, q, Bool.false_and, Bool.or_false]
      · rw [ob, q, if_neg (by decide), or_0]
    | true =>
      rw [if_pos ((b_get1 _ i (by omega)).mpr q), gm_chk_n (by omega) (by decide), gm_let_s, gm_let_s, cl_n (by omega)]
      by_cases q2 : cs i &&& (nI s ^^^ (-1)) = 0
      · rw [if_pos q2, gm_let_s, gm_let_s]
        have h1 := hlx (dd (la s) (fun l => cs l &&& (nI s ^^^ (-1))) i)
        have h2 := hsx (dd (la s) (fun l => cs l &&& (nI s ^^^ (-1))) i)
        rw [max_if (by omega) (by omega), min_if (by omega) (by omega)]
        refine hr _ _ _ _ (d - 1) (by omega) ⟨i + 1, by omega, nI_1 i, ?_, ?_, ?_⟩
        · rw [dd, q, decide_eq_true q2]
          congr 1
          unfold Lx
          cases dd (la s) (fun l => cs l &&& (nI s ^^^ (-1))) i <;> simp
        · rw [dd, q, decide_eq_true q2]
          congr 1
          unfold Sx
          cases dd (la s) (fun l => cs l &&& (nI s ^^^ (-1))) i <;> simp
        · rw [ob, q, if_pos rfl]
      · rw [if_neg q2]
        refine hr _ _ _ _ (d - 1) (by omega) ⟨i + 1, by omega, nI_1 i, ?_, ?_, ?_⟩
        · rw [dd, q, decide_eq_false q2, Bool.and_false, Bool.or_false]
        · rw [dd, q, decide_eq_false q2, Bool.and_false, Bool.or_false]
        · rw [ob, q, if_pos rfl]
theorem s_goOn {s Lg Sh : Nat} {la cf cs : Nat → Int32} {C : Nat → Nat → Nat → Bool} (hN : 3000 ≤ N) (hw : w ≤ 10) (hs : s < 2 ^ w) (h0 : s0 < 2 ^ w) (hsup : sup s0 s) (hL : Lg ≤ 10) (hS : Sh ≤ 10) (hcf : ∀ l, l < w → cf l = bs (C 0 l) w) (hcs : ∀ l, l < w → cs l = bs (C 1 l) w) : ∃ (lb : Nat → Int32) (D : Bool), fX2_goOn N (nI w) (nI s0) (nI Lg) (nI Sh) cf cs la (nI s) = some (nI (Lx D Lg (kk s0 s)), nI (Sx D Sh (kk s0 s)), lb) ∧ (D = true ↔ ∃ l, l < w ∧ bt (la s) l = true ∧ ∀ x, x < w → aA C s l (par s0 s) x = false) ∧ (∀ s' l, bt (la s') l = true → bt (lb s') l = true) ∧ (∀ s' l, l < 32 → bt (lb s') l = true → bt (la s') l = true ∨ (l < w ∧ s' = s ||| 2 ^ l ∧ ∃ l', l' < w ∧ bt (la s) l' = true ∧ aA C s l' (par s0 s) l = true)) ∧ ∀ l', l' < w → bt (la s) l' = true → ∀ x, x < w → aA C s l' (par s0 s) x = true → bt (lb (s ||| 2 ^ x)) x = true := by
  have main : ∀ c : Nat → Int32, (∀ l, l < w → c l = bs (C (par s0 s) l) w) → ∀ o, (∃ lb : Nat → Int32, o = some (nI (Lx (dd (la s) (fun l => c l &&& (nI s ^^^ (-1))) w) Lg (kk s0 s)), nI (Sx (dd (la s) (fun l => c l &&& (nI s ^^^ (-1))) w) Sh (kk s0 s)), lb) ∧ (∀ s' l, bt (la s') l = true → bt (lb s') l = true) ∧ (∀ s' l, l < 32 → bt (lb s') l = true → bt (la s') l = true ∨ (l < w ∧ s' = s ||| 2 ^ l ∧ bt (ob (fun l => c l &&& (nI s ^^^ (-1))) (la s) w) l = true)) ∧ ∀ x, x < w → bt (ob (fun l => c l &&& (nI s ^^^ (-1))) (la s) w) x = true → bt (lb (s ||| 2 ^ x)) x = true) → ∃ (lb : Nat → Int32) (D : Bool), o = some (nI (Lx D Lg (kk s0 s)), nI (Sx D Sh (kk s0 s)), lb) ∧ (D = true ↔ ∃ l, l < w ∧ bt (la s) l = true ∧ ∀ x, x < w → aA C s l (par s0 s) x = false) ∧ (∀ s' l, bt (la s') l = true → bt (lb s') l = true) ∧ (∀ s' l, l < 32 → bt (lb s') l = true → bt (la s') l = true ∨ (l < w ∧ s' = s ||| 2 ^ l ∧ ∃ l', l' < w ∧ bt (la s) l' = true ∧ aA C s l' (par s0 s) l = true)) ∧ ∀ l', l' < w → bt (la s) l' = true → ∀ x, x < w → aA C s l' (par s0 s) x = true → bt (lb (s ||| 2 ^ x)) x = true := by
    intro c hc o ho
    obtain ⟨lb, e, a1, a2, a3⟩ := ho
    have hg : ∀ l, l < w → ∀ x, x < w → bt (c l &&& (nI s ^^^ (-1))) x = aA C s l (par s0 s) x := fun l hl x hx => by rw [hc l hl]; exact tk_bit hw hx
    have hg0 : ∀ l, l < w → (c l &&& (nI s ^^^ (-1)) = 0 ↔ ∀ x, x < w → aA C s l (par s0 s) x = false) := by
      intro l hl
      constructor
      · intro h x hx
        rw [← hg l hl x hx, h, b_0]
      · intro h
        refine b_ext (fun i hi => ?_)
        rw [b_0]
        by_cases q : i < w
        · rw [hg l hl i q]; exact h i q
        · rw [b_and, hc l hl, bs_bt _ w (by omega) i hi, decide_eq_false q, Bool.false_and, Bool.false_and]
    refine ⟨lb, _, e, ?_, a1, fun s' l hl h => ?_, fun l' hl' hm x hx hA => ?_⟩
    · rw [dd_t]
      constructor
      · rintro ⟨l, h1, h2, h3⟩
        exact ⟨l, h1, h2, (hg0 l h1).mp h3⟩
      · rintro ⟨l, h1, h2, h3⟩
        exact ⟨l, h1, h2, (hg0 l h1).mpr h3⟩
    · rcases a2 s' l hl h with b | ⟨b1, b2, b3⟩
      · exact Or.inl b
      · obtain ⟨l', c1, c2, c3⟩ := ob_t.mp b3
        exact Or.inr ⟨b1, b2, l', c1, c2, by rw [← hg l' c1 l b1]; exact c3⟩
    · exact a3 x hx (ob_t.mpr ⟨l', hl', hm, by rw [hg l' hl' x hx]; exact hA⟩)
  have hpt := par_lt (s0 := s0) (s := s)
  unfold fX2_goOn
  rw [s_chNext hw hs h0 hsup, gm_bind_s, s_answered hw hs h0 hsup, gm_bind_s, gm_bind_s]
  by_cases q : par s0 s = 0
  · rw [if_pos (by rw [q]; rfl)]
    refine main cf (fun l hl => by rw [q]; exact hcf l hl) _ ?_
    exact s_go hN hw hs hL hS kk_le
  · have q1 : par s0 s = 1 := by omega
    rw [if_neg (by rw [q1]; decide)]
    refine main cs (fun l hl => by rw [q1]; exact hcs l hl) _ ?_
    exact s_gox hN hw hs hL hS kk_le
end ENDS
section ENDS2
variable {N w s0 : Nat}
def InvE (w s0 z l0 : Nat) (tab : Nat → Int32) (s Lg Sh : Nat) (lb : Nat → Int32) : Prop :=
  (∀ s', s ≤ s' → s' < 2 ^ w → ∀ l, l < 32 → bt (lb s') l = true → l < w ∧ sup s0 s' ∧ (z = 1 → kk s0 s' + tvl tab s' l (par s0 s') ≤ tvl tab s0 l0 0) ∧ (z = 2 → tvl tab s0 l0 0 ≤ kk s0 s' + tvl tab s' l (par s0 s'))) ∧
  (z = 1 → Lg ≤ tvl tab s0 l0 0 ∧ (Lg = tvl tab s0 l0 0 ∨ ∃ s' l, s ≤ s' ∧ s' < 2 ^ w ∧ l < w ∧ bt (lb s') l = true ∧ kk s0 s' + tvl tab s' l (par s0 s') = tvl tab s0 l0 0)) ∧
  (z = 2 → tvl tab s0 l0 0 ≤ Sh ∧ (Sh = tvl tab s0 l0 0 ∨ ∃ s' l, s ≤ s' ∧ s' < 2 ^ w ∧ l < w ∧ bt (lb s') l = true ∧ kk s0 s' + tvl tab s' l (par s0 s') = tvl tab s0 l0 0))
set_option maxHeartbeats 1000000 in
theorem s_endsL {z l0 : Nat} {lz cf cs tab : Nat → Int32} {C : Nat → Nat → Nat → Bool} (hN : 3000 ≤ N) (hw : w ≤ 10) (h0 : s0 < 2 ^ w) (hl0 : l0 < w) (hz : z = 1 ∨ z = 2) (hcf : ∀ l, l < w → cf l = bs (C 0 l) w) (hcs : ∀ l, l < w → cs l = bs (C 1 l) w) (hT : ∀ s, s < 2 ^ w → ∀ l, l < w → ∀ t, t < 2 → okT w C z tab s l t) (hlz : ∀ s, s < 2 ^ w → lz s = 0) : ∃ (Lg Sh : Nat) (la' : Nat → Int32), fX2_findEnds_b56 N (nI w) (nI s0) cf cs 0 10 (upd lz s0 ((1 : Int32) <<< (nI l0 &&& 31))) (nI s0) = some (nI Lg, nI Sh, la') ∧ (z = 1 → Lg = tvl tab s0 l0 0) ∧ (z = 2 → Sh = tvl tab s0 l0 0) := by
  obtain ⟨p1, p2⟩ := p2w w (by omega)
  have hp0 : par s0 s0 = 0 := by unfold par; rw [kk_0]
  have hM := (hT s0 h0 l0 hl0 0 (by decide)).2.1
  unfold fX2_findEnds_b56
  refine fx4 (fun d (a b : Int32) (lb : Nat → Int32) (y : Int32) => ∃ s Lg Sh, s + d = 2 ^ w ∧ y = nI s ∧ a = nI Lg ∧ b = nI Sh ∧ Lg ≤ 10 ∧ Sh ≤ 10 ∧ InvE w s0 z l0 tab s Lg Sh lb) (fun o => ∃ (Lg Sh : Nat) (la' : Nat → Int32), o = some (nI Lg, nI Sh, la') ∧ (z = 1 → Lg = tvl tab s0 l0 0) ∧ (z = 2 → Sh = tvl tab s0 l0 0)) ?_ N (2 ^ w - s0) _ _ _ _ (by omega) ⟨s0, 0, 10, by omega, rfl, rfl, rfl, by omega, by omega, ?_, fun _ => ⟨by omega, ?_⟩, fun _ => ⟨by omega, ?_⟩⟩
  rotate_left
  · intro s' hs1 hs2 l hl hm
    by_cases q : s' = s0
    · subst q
      rw [upd_s, b_one l0 (by omega) hl, decide_eq_true_eq] at hm
      subst hm
      rw [hp0, kk_0]
      exact ⟨hl0, sup_0, fun _ => by omega, fun _ => by omega⟩
    · rw [upd_n q, hlz s' hs2, b_0] at hm
      exact absurd hm (by decide)
  · exact Or.inr ⟨s0, l0, by omega, h0, hl0, by rw [upd_s, b_one l0 (by omega) (by omega)]; exact decide_eq_true rfl, by rw [hp0, kk_0]; omega⟩
  · exact Or.inr ⟨s0, l0, by omega, h0, hl0, by rw [upd_s, b_one l0 (by omega) (by omega)]; exact decide_eq_true rfl, by rw [hp0, kk_0]; omega⟩
  intro r d a b lb y hI hr
  obtain ⟨s, Lg, Sh, hs, rfl, rfl, rfl, hL, hS, m1, m2, m3⟩ := hI
  unfold fX2_findEnds_b56_body fX2_findEnds_b80
  rw [p1]
  rcases Nat.eq_zero_or_pos d with hd | hd
  · rw [hd_end (by omega) (by omega)]
    refine ⟨Lg, Sh, lb, rfl, fun q => ?_, fun q => ?_⟩
    · rcases (m2 q).2 with e | ⟨s', l, h1, h2, _⟩
      · exact e
      · omega
    · rcases (m3 q).2 with e | ⟨s', l, h1, h2, _⟩
      · exact e
      · omega
  · have hsw : s < 2 ^ w := by omega
    rw [hd_go hsw (by omega), gm_chk_n (by omega) (by decide), cl_n (by omega)]
    by_cases q : lb s = 0
    · rw [if_pos q]
      refine hr _ _ _ _ (d - 1) (by omega) ⟨s + 1, Lg, Sh, by omega, nI_1 s, rfl, rfl, hL, hS, fun s' h1 h2 => m1 s' (by omega) h2, fun e => ⟨(m2 e).1, ?_⟩, fun e => ⟨(m3 e).1, ?_⟩⟩
      · rcases (m2 e).2 with e2 | ⟨s', l, h1, h2, h3, h4, h5⟩
        · exact Or.inl e2
        · refine Or.inr ⟨s', l, ?_, h2, h3, h4, h5⟩
          rcases Nat.lt_or_eq_of_le h1 with h | h
          · omega
          · rw [← h, q, b_0] at h4; exact absurd h4 (by decide)
      · rcases (m3 e).2 with e2 | ⟨s', l, h1, h2, h3, h4, h5⟩
        · exact Or.inl e2
        · refine Or.inr ⟨s', l, ?_, h2, h3, h4, h5⟩
          rcases Nat.lt_or_eq_of_le h1 with h | h
          · omega
          · rw [← h, q, b_0] at h4; exact absurd h4 (by decide)
    · rw [if_neg q]
      have hex : ∃ l, l < 32 ∧ bt (lb s) l = true := by
        by_cases z : ∃ l, l < 32 ∧ bt (lb s) l = true
        · exact z
        · refine absurd (b_ext (fun i hi => ?_)) q
          rw [b_0]
          cases hb : bt (lb s) i
          · rfl
          · exact absurd ⟨i, hi, hb⟩ z
      obtain ⟨lx, hlx, hlx2⟩ := hex
      have hsup := (m1 s (Nat.le_refl _) hsw lx hlx hlx2).2.1
      obtain ⟨lb', D, g1, g2, g3, g4, g5⟩ := s_goOn (C := C) (la := lb) hN hw hsw h0 hsup hL hS hcf hcs
      have hkk := kk_le (s0 := s0) (s := s)
      have hpt := par_lt (s0 := s0) (s := s)
      rw [g1, gm_bind_s]
      have hmk : ∀ l, l < w → bt (lb s) l = true → (z = 1 → kk s0 s + tvl tab s l (par s0 s) ≤ tvl tab s0 l0 0) ∧ (z = 2 → tvl tab s0 l0 0 ≤ kk s0 s + tvl tab s l (par s0 s)) := fun l hl hm => (m1 s (Nat.le_refl _) hsw l (by omega) hm).2.2
      have hstep : ∀ l, l < w → bt (lb s) l = true → kk s0 s + tvl tab s l (par s0 s) = tvl tab s0 l0 0 → ((tvl tab s l (par s0 s) = 0 ∧ ∀ x, x < w → aA C s l (par s0 s) x = false) ∨ ∃ x, x < w ∧ aA C s l (par s0 s) x = true ∧ tvl tab s l (par s0 s) = tvl tab (s ||| 2 ^ x) x (1 - par s0 s) + 1) → (D = true ∧ kk s0 s = tvl tab s0 l0 0) ∨ ∃ s' l, s + 1 ≤ s' ∧ s' < 2 ^ w ∧ l < w ∧ bt (lb' s') l = true ∧ kk s0 s' + tvl tab s' l (par s0 s') = tvl tab s0 l0 0 := by
        intro l hl hm he halt
        rcases halt with ⟨e1, e2⟩ | ⟨x, e1, e2, e3⟩
        · exact Or.inl ⟨g2.mpr ⟨l, hl, hm, e2⟩, by omega⟩
        · obtain ⟨a1, a2, a3⟩ := aA_gt e2
          obtain ⟨k1, k2, k3⟩ := kk_or hsup (show x < 10 by omega) a1
          exact Or.inr ⟨s ||| 2 ^ x, x, by omega, (or_we hw hsw e1).2, e1, g5 l hl hm x e1 e2, by rw [k2, k3]; omega⟩
      refine hr _ _ _ _ (d - 1) (by omega) ⟨s + 1, Lx D Lg (kk s0 s), Sx D Sh (kk s0 s), by omega, nI_1 s, rfl, rfl, by unfold Lx; split <;> omega, by unfold Sx; split <;> omega, fun s' h1 h2 l hl hm => ?_, fun e => ?_, fun e => ?_⟩
      · rcases g4 s' l hl hm with b | ⟨b1, b2, l', b3, b4, b5⟩
        · exact m1 s' (by omega) h2 l hl b
        · obtain ⟨a1, a2, a3⟩ := aA_gt b5
          obtain ⟨k1, k2, k3⟩ := kk_or hsup (show l < 10 by omega) a1
          have hE := (hT s hsw l' b3 _ hpt).2.2.2
          have hm' := hmk l' b3 b4
          rw [b2]
          refine ⟨b1, k1, fun e => ?_, fun e => ?_⟩
          · have h3 : tvl tab (s ||| 2 ^ l) l (1 - par s0 s) + 1 ≤ tvl tab s l' (par s0 s) := (hE.2.1 e).1 l b1 b5
            have h4 := hm'.1 e
            rw [k2, k3]; omega
          · have h3 : tvl tab s l' (par s0 s) ≤ tvl tab (s ||| 2 ^ l) l (1 - par s0 s) + 1 := (hE.2.2 e).1 l b1 b5
            have h4 := hm'.2 e
            rw [k2, k3]; omega
      · obtain ⟨m21, m22⟩ := m2 e
        have hD : D = true → kk s0 s ≤ tvl tab s0 l0 0 := by
          intro hd
          obtain ⟨l, hl, hm, _⟩ := g2.mp hd
          have := (hmk l hl hm).1 e
          omega
        have hle : Lx D Lg (kk s0 s) ≤ tvl tab s0 l0 0 := by
          unfold Lx
          split
          · have := hD (by assumption); omega
          · exact m21
        have hge : Lg ≤ Lx D Lg (kk s0 s) := by unfold Lx; split <;> omega
        refine ⟨hle, ?_⟩
        rcases m22 with q1 | ⟨s', l, h1, h2, h3, h4, h5⟩
        · exact Or.inl (by omega)
        · rcases Nat.lt_or_eq_of_le h1 with h | h
          · exact Or.inr ⟨s', l, by omega, h2, h3, g3 s' l h4, h5⟩
          · subst h
            rcases hstep l h3 h4 h5 ((hT s hsw l h3 _ hpt).2.2.2.2.1 e).2 with ⟨d1, d2⟩ | hx
            · refine Or.inl ?_
              have : kk s0 s ≤ Lx D Lg (kk s0 s) := by unfold Lx; rw [d1, if_pos rfl]; omega
              omega
            · exact Or.inr hx
      · obtain ⟨m31, m32⟩ := m3 e
        have hD : D = true → tvl tab s0 l0 0 ≤ kk s0 s := by
          intro hd
          obtain ⟨l, hl, hm, hno⟩ := g2.mp hd
          have h3 := (hmk l hl hm).2 e
          rcases ((hT s hsw l hl _ hpt).2.2.2.2.2 e).2 with ⟨e1, _⟩ | ⟨x, e1, e2, _⟩
          · omega
          · rw [hno x e1] at e2; exact absurd e2 (by decide)
        have hle : tvl tab s0 l0 0 ≤ Sx D Sh (kk s0 s) := by
          unfold Sx
          split
          · have := hD (by assumption); omega
          · exact m31
        have hge : Sx D Sh (kk s0 s) ≤ Sh := by unfold Sx; split <;> omega
        refine ⟨hle, ?_⟩
        rcases m32 with q1 | ⟨s', l, h1, h2, h3, h4, h5⟩
        · exact Or.inl (by omega)
        · rcases Nat.lt_or_eq_of_le h1 with h | h
          · exact Or.inr ⟨s', l, by omega, h2, h3, g3 s' l h4, h5⟩
          · subst h
            rcases hstep l h3 h4 h5 ((hT s hsw l h3 _ hpt).2.2.2.2.2 e).2 with ⟨d1, d2⟩ | hx
            · refine Or.inl ?_
              have : Sx D Sh (kk s0 s) ≤ kk s0 s := by unfold Sx; rw [d1, if_pos rfl]; omega
              omega
            · exact Or.inr hx
theorem s_findEnds {z l0 : Nat} {la cf cs tab : Nat → Int32} {lg sh : Int32} {C : Nat → Nat → Nat → Bool} (hN : 3000 ≤ N) (hw : w ≤ 10) (h0 : s0 < 2 ^ w) (hl0 : l0 < w) (hz : z = 1 ∨ z = 2) (hcf : ∀ l, l < w → cf l = bs (C 0 l) w) (hcs : ∀ l, l < w → cs l = bs (C 1 l) w) (hT : ∀ s, s < 2 ^ w → ∀ l, l < w → ∀ t, t < 2 → okT w C z tab s l t) : ∃ (Lg Sh : Nat) (la' : Nat → Int32), fX2_findEnds N (nI w) (nI s0) (nI l0) lg sh cf cs la = some (nI Lg, nI Sh, la') ∧ (z = 1 → Lg = tvl tab s0 l0 0) ∧ (z = 2 → Sh = tvl tab s0 l0 0) := by
  obtain ⟨p1, p2⟩ := p2w w (by omega)
  unfold fX2_findEnds fX2_findEnds_b2
  refine fx2 (fun d (lb : Nat → Int32) (y : Int32) => ∃ i, i + d = 2 ^ w ∧ y = nI i ∧ ∀ s, s < i → lb s = 0) (fun o => ∃ (Lg Sh : Nat) (la' : Nat → Int32), o = some (nI Lg, nI Sh, la') ∧ (z = 1 → Lg = tvl tab s0 l0 0) ∧ (z = 2 → Sh = tvl tab s0 l0 0)) ?_ N (2 ^ w) _ _ (by omega) ⟨0, by omega, rfl, fun s h => absurd h (Nat.not_lt_zero s)⟩
  intro r d lb y hI hr
  obtain ⟨i, hi, rfl, hj⟩ := hI
  unfold fX2_findEnds_b2_body
  rw [p1]
  rcases Nat.eq_zero_or_pos d with hd | hd
  · unfold fX2_findEnds_b25
    rw [hd_end (by omega) (by omega), gm_chk_n (by omega) (by decide), cl_n (by omega)]
    exact s_endsL hN hw h0 hl0 hz hcf hcs hT (fun s hs => hj s (by omega))
  · rw [hd_go (by omega) (by omega), gm_chk_n (by omega) (by decide), cl_n (by omega)]
    refine hr _ _ (d - 1) (by omega) ⟨i + 1, by omega, nI_1 i, fun s h => ?_⟩
    by_cases q : s = i
    · rw [q, upd_s]
    · rw [upd_n q]; exact hj s (by omega)
theorem s_begin {a b c : Int32} {l0 : Nat} (hw : w ≤ 10) (h0 : s0 < 2 ^ w) : fX2_begin N a b c (nI w) (nI s0) (nI l0) = some (nI w, nI s0, nI l0) := by
  have p2 := (p2w w (by omega)).2
  unfold fX2_begin
  rw [if_neg (show ¬ (10 : Int32) < nI w from Int32.not_lt.mpr (nI_le (b := 10) hw (by decide))), gm_let_s, gm_let_s]
  have e : nI s0 &&& 1023 = nI s0 := by
    refine b_ext (fun i hi => ?_)
    rw [b_and, bt_nI hi, show (1023 : Int32) = nI 1023 from rfl, bt_nI hi]
    by_cases q : i < 10
    · rw [show (1023 : Nat) = 2 ^ 10 - 1 by decide, Nat.testBit_two_pow_sub_one, decide_eq_true q, Bool.and_true]
    · rw [Nat.testBit_lt_two_pow (Nat.lt_of_lt_of_le (show s0 < 2 ^ 10 by omega) (Nat.pow_le_pow_right (by decide) (by omega))), Bool.false_and]
  rw [e]
end ENDS2
set_option maxHeartbeats 4000000 in
theorem sim_two {N : Nat} (hN : 3000 ≤ N) : S_two N gm_R := by
  intro m_imagesKept m_bads m_nos m_fulls m_above m_below m_now_words m_now_people m_now_said m_now_undos m_now_heard m_now_ending m_now_meaning m_now_cost m_now_alikeTo m_now_kind m_now_want m_now_saidAhead m_now_heardWord m_now_heardAnswer m_draft_words m_draft_people m_draft_said m_draft_undos m_draft_heard m_draft_ending m_draft_meaning m_draft_cost m_draft_alikeTo m_draft_kind m_draft_want m_draft_saidAhead m_draft_heardWord m_draft_heardAnswer m_images_0_words m_images_0_people m_images_0_said m_images_0_undos m_images_0_heard m_images_0_ending m_images_0_meaning m_images_0_cost m_images_0_alikeTo m_images_0_kind m_images_0_want m_images_0_saidAhead m_images_0_heardWord m_images_0_heardAnswer m_images_1_words m_images_1_people m_images_1_said m_images_1_undos m_images_1_heard m_images_1_ending m_images_1_meaning m_images_1_cost m_images_1_alikeTo m_images_1_kind m_images_1_want m_images_1_saidAhead m_images_1_heardWord m_images_1_heardAnswer m_text_length m_text_items m_text_place m_text_start m_text_token m_text_number m_text_bytes m_duel_words m_duel_saidAtFirst m_duel_asked m_duel_longest m_duel_shortest m_duel_chimesOfFirst m_duel_chimesOfSecond m_duel_lasts m_cover_sayable m_cover_price m_cover_covered m_cover_spent m_clashes m_tally m_sayableByPair m_chosenPairs n_thrown n_size n_at n_start n_token n_value n_faultAt n_allowed n_firstPair n_secondPair n_above n_below n_refused n_tongue n_fresh n_kept n_isKept n_text n_said n_talk hR x1 x2 x3 x4
  obtain ⟨hT, hX, hF, hA, hI, hC⟩ := hR
  have hT0 := hT
  obtain ⟨w, p, u, h, en, mn, cn, kn, wn, ⟨hw, hp, hu8, hh6⟩, ⟨rfl, rfl, rfl, rfl⟩, hrE, hrP, hr2, hco, hE, hM, hP, hs, hir, hh, hu, hsd⟩ := hT
  cases hi1 : inr x1 p with
  | false =>
    have h1 : fX10_two N m_bads m_nos m_fulls (nI w) (nI p) m_now_said m_now_ending m_now_meaning m_now_alikeTo m_now_kind m_now_want m_duel_words m_duel_saidAtFirst m_duel_asked m_duel_longest m_duel_shortest m_duel_chimesOfFirst m_duel_chimesOfSecond m_duel_lasts x1 x2 x3 x4 = some (-2, m_bads + 1, m_nos, m_fulls, m_duel_words, m_duel_saidAtFirst, m_duel_asked, m_duel_longest, m_duel_shortest, m_duel_chimesOfFirst, m_duel_chimesOfSecond, m_duel_lasts) := by
      unfold fX10_two fX10_two_b38
      rw [s_isPerson x1 (by omega), gm_bind_s, hi1, if_pos (by decide), s_refB, gm_bind_s]
    have h2 : fX11_two N n_thrown n_refused n_tongue n_talk x1 x2 x3 x4 = some (-2, 0, upd n_refused 0 (n_refused 0 + 1), n_talk) := by
      unfold fX11_two fX11_two_b47
      rw [s_noPerson x1 hrP.1 (by omega), gm_bind_s, hi1, if_neg (by decide), s_bad, gm_bind_s]
    exact ⟨_, _, h1, h2, rfl, hT0, hX, RFb hF, hA, hI, hC⟩
  | true =>
    obtain ⟨a, ha, rfl⟩ := inr_t hi1 (by omega)
    cases hi2 : inr x2 p with
    | false =>
      have h1 : fX10_two N m_bads m_nos m_fulls (nI w) (nI p) m_now_said m_now_ending m_now_meaning m_now_alikeTo m_now_kind m_now_want m_duel_words m_duel_saidAtFirst m_duel_asked m_duel_longest m_duel_shortest m_duel_chimesOfFirst m_duel_chimesOfSecond m_duel_lasts (nI a) x2 x3 x4 = some (-2, m_bads + 1, m_nos, m_fulls, m_duel_words, m_duel_saidAtFirst, m_duel_asked, m_duel_longest, m_duel_shortest, m_duel_chimesOfFirst, m_duel_chimesOfSecond, m_duel_lasts) := by
        unfold fX10_two fX10_two_b38
        rw [s_isPerson (nI a) (by omega), gm_bind_s, hi1, if_neg (by decide), s_isPerson x2 (by omega), gm_bind_s, hi2, if_pos (by decide), s_refB, gm_bind_s]
      have h2 : fX11_two N n_thrown n_refused n_tongue n_talk (nI a) x2 x3 x4 = some (-2, 0, upd n_refused 0 (n_refused 0 + 1), n_talk) := by
        unfold fX11_two fX11_two_b47
        rw [s_noPerson (nI a) hrP.1 (by omega), gm_bind_s, hi1, if_pos (by decide), s_noPerson x2 hrP.1 (by omega), gm_bind_s, hi2, if_neg (by decide), s_bad, gm_bind_s]
      exact ⟨_, _, h1, h2, rfl, hT0, hX, RFb hF, hA, hI, hC⟩
    | true =>
      obtain ⟨b, hb, rfl⟩ := inr_t hi2 (by omega)
      by_cases hab : a = b
      · subst hab
        have h1 : fX10_two N m_bads m_nos m_fulls (nI w) (nI p) m_now_said m_now_ending m_now_meaning m_now_alikeTo m_now_kind m_now_want m_duel_words m_duel_saidAtFirst m_duel_asked m_duel_longest m_duel_shortest m_duel_chimesOfFirst m_duel_chimesOfSecond m_duel_lasts (nI a) (nI a) x3 x4 = some (-2, m_bads + 1, m_nos, m_fulls, m_duel_words, m_duel_saidAtFirst, m_duel_asked, m_duel_longest, m_duel_shortest, m_duel_chimesOfFirst, m_duel_chimesOfSecond, m_duel_lasts) := by
          unfold fX10_two fX10_two_b38
          rw [s_isPerson (nI a) (by omega), gm_bind_s, hi1, if_neg (by decide), gm_bind_s, if_neg (by decide), if_pos rfl, s_refB, gm_bind_s]
        have h2 : fX11_two N n_thrown n_refused n_tongue n_talk (nI a) (nI a) x3 x4 = some (-2, 0, upd n_refused 0 (n_refused 0 + 1), n_talk) := by
          unfold fX11_two fX11_two_b47
          rw [s_noPerson (nI a) hrP.1 (by omega), gm_bind_s, hi1, if_pos (by decide), gm_bind_s, if_pos (by decide), if_pos rfl, s_bad, gm_bind_s]
        exact ⟨_, _, h1, h2, rfl, hT0, hX, RFb hF, hA, hI, hC⟩
      · have hne : ¬ nI a = nI b := fun z => hab ((nI_eq (by omega) (by omega)).mp z)
        cases hi3 : inr x3 w with
        | false =>
          have h1 : fX10_two N m_bads m_nos m_fulls (nI w) (nI p) m_now_said m_now_ending m_now_meaning m_now_alikeTo m_now_kind m_now_want m_duel_words m_duel_saidAtFirst m_duel_asked m_duel_longest m_duel_shortest m_duel_chimesOfFirst m_duel_chimesOfSecond m_duel_lasts (nI a) (nI b) x3 x4 = some (-2, m_bads + 1, m_nos, m_fulls, m_duel_words, m_duel_saidAtFirst, m_duel_asked, m_duel_longest, m_duel_shortest, m_duel_chimesOfFirst, m_duel_chimesOfSecond, m_duel_lasts) := by
            unfold fX10_two fX10_two_b38
            rw [s_isPerson (nI a) (by omega), gm_bind_s, hi1, if_neg (by decide), s_isPerson (nI b) (by omega), gm_bind_s, hi2, if_neg (by decide), if_neg hne, s_isWord x3 (by omega), gm_bind_s, hi3, if_pos (by decide), s_refB, gm_bind_s]
          have h2 : fX11_two N n_thrown n_refused n_tongue n_talk (nI a) (nI b) x3 x4 = some (-2, 0, upd n_refused 0 (n_refused 0 + 1), n_talk) := by
            unfold fX11_two fX11_two_b47
            rw [s_noPerson (nI a) hrP.1 (by omega), gm_bind_s, hi1, if_pos (by decide), s_noPerson (nI b) hrP.1 (by omega), gm_bind_s, hi2, if_pos (by decide), if_neg hne, s_noWord x3 hrE.1 (by omega), gm_bind_s, hi3, if_neg (by decide), s_bad, gm_bind_s]
          exact ⟨_, _, h1, h2, rfl, hT0, hX, RFb hF, hA, hI, hC⟩
        | true =>
          obtain ⟨l0, hl0, rfl⟩ := inr_t hi3 (by omega)
          cases hi4 : inr x4 3 with
          | false =>
            have h1 : fX10_two N m_bads m_nos m_fulls (nI w) (nI p) m_now_said m_now_ending m_now_meaning m_now_alikeTo m_now_kind m_now_want m_duel_words m_duel_saidAtFirst m_duel_asked m_duel_longest m_duel_shortest m_duel_chimesOfFirst m_duel_chimesOfSecond m_duel_lasts (nI a) (nI b) (nI l0) x4 = some (-2, m_bads + 1, m_nos, m_fulls, m_duel_words, m_duel_saidAtFirst, m_duel_asked, m_duel_longest, m_duel_shortest, m_duel_chimesOfFirst, m_duel_chimesOfSecond, m_duel_lasts) := by
              unfold fX10_two fX10_two_b38
              rw [s_isPerson (nI a) (by omega), gm_bind_s, hi1, if_neg (by decide), s_isPerson (nI b) (by omega), gm_bind_s, hi2, if_neg (by decide), if_neg hne, s_isWord (nI l0) (by omega), gm_bind_s, hi3, if_neg (by decide), s_fl x4 3 3 rfl (by decide), gm_bind_s, hi4, if_pos (by decide), s_refB, gm_bind_s]
            have h2 : fX11_two N n_thrown n_refused n_tongue n_talk (nI a) (nI b) (nI l0) x4 = some (-2, 0, upd n_refused 0 (n_refused 0 + 1), n_talk) := by
              unfold fX11_two fX11_two_b47
              rw [s_noPerson (nI a) hrP.1 (by omega), gm_bind_s, hi1, if_pos (by decide), s_noPerson (nI b) hrP.1 (by omega), gm_bind_s, hi2, if_pos (by decide), if_neg hne, s_noWord (nI l0) hrE.1 (by omega), gm_bind_s, hi3, if_pos (by decide), s_in (B := 3) x4 2 (by decide), gm_bind_s, hi4, if_pos (by decide), s_bad, gm_bind_s]
            exact ⟨_, _, h1, h2, rfl, hT0, hX, RFb hF, hA, hI, hC⟩
          | true =>
            obtain ⟨z, hz, rfl⟩ := inr_t hi4 (by omega)
            obtain ⟨s0, hs0, rfl⟩ := hsd
            obtain ⟨p1, p2⟩ := p2w w (by omega)
            have hc0 : ∀ l, l < w → fX11_chimesWith N n_tongue (nI a) (nI l) = some (bs ((fun t l => chi (kn (if t = 0 then a else b)) (m_now_want (if t = 0 then a else b)) en m_now_meaning m_now_alikeTo l) 0 l) w) := fun l hl => s_MchimesWith (by omega) hrE hrP hw hp hE hP hs ha hl
            have hc1 : ∀ l, l < w → fX11_chimesWith N n_tongue (nI b) (nI l) = some (bs ((fun t l => chi (kn (if t = 0 then a else b)) (m_now_want (if t = 0 then a else b)) en m_now_meaning m_now_alikeTo l) 1 l) w) := fun l hl => s_MchimesWith (by omega) hrE hrP hw hp hE hP hs hb hl
            obtain ⟨tab, hM, hT⟩ := s_Mtwo (C := (fun t l => chi (kn (if t = 0 then a else b)) (m_now_want (if t = 0 then a else b)) en m_now_meaning m_now_alikeTo l)) (t := 0) (rfX := 0) (rf := n_refused) (tab := n_talk) hN hw hs0 hl0 hz hrE.1 hr2.1 hc0 hc1
            have h2 : fX11_two N n_thrown n_refused n_tongue n_talk (nI a) (nI b) (nI l0) (nI z) = some (nI (tvl tab s0 l0 0), 0, n_refused, tab) := by
              unfold fX11_two
              rw [s_noPerson (nI a) hrP.1 (by omega), gm_bind_s, hi1, if_pos (by decide), s_noPerson (nI b) hrP.1 (by omega), gm_bind_s, hi2, if_pos (by decide), if_neg hne, s_noWord (nI l0) hrE.1 (by omega), gm_bind_s, hi3, if_pos (by decide), s_in (B := 3) (nI z) 2 (by decide), gm_bind_s, hi4, if_neg (by decide), ck0 (by decide), cl0, hrE.1, gm_let_s, p1]
              exact hM
            have hcf : ∀ l, l < w → fl m_duel_chimesOfFirst (fun l => bs (chi (kn a) (m_now_want a) en m_now_meaning m_now_alikeTo l) w) w l = bs ((fun t l => chi (kn (if t = 0 then a else b)) (m_now_want (if t = 0 then a else b)) en m_now_meaning m_now_alikeTo l) 0 l) w := fun l hl => fl_get hl
            have hcs : ∀ l, l < w → fl m_duel_chimesOfSecond (fun l => bs (chi (kn b) (m_now_want b) en m_now_meaning m_now_alikeTo l) w) w l = bs ((fun t l => chi (kn (if t = 0 then a else b)) (m_now_want (if t = 0 then a else b)) en m_now_meaning m_now_alikeTo l) 1 l) w := fun l hl => fl_get hl
            obtain ⟨ka1, ka2, _⟩ := hP a ha
            obtain ⟨kb1, kb2, _⟩ := hP b hb
            have hfill : ∀ o, fX10_two_b150 N m_bads m_nos m_fulls (nI w) (nI s0) m_duel_words m_duel_saidAtFirst m_duel_asked m_duel_longest m_duel_shortest (fl m_duel_chimesOfFirst (fun l => bs (chi (kn a) (m_now_want a) en m_now_meaning m_now_alikeTo l) w) w) (fl m_duel_chimesOfSecond (fun l => bs (chi (kn b) (m_now_want b) en m_now_meaning m_now_alikeTo l) w) w) m_duel_lasts (nI l0) (nI z) = o → fX10_two N m_bads m_nos m_fulls (nI w) (nI p) (nI s0) m_now_ending m_now_meaning m_now_alikeTo m_now_kind m_now_want m_duel_words m_duel_saidAtFirst m_duel_asked m_duel_longest m_duel_shortest m_duel_chimesOfFirst m_duel_chimesOfSecond m_duel_lasts (nI a) (nI b) (nI l0) (nI z) = o := by
              intro o ho
              unfold fX10_two
              rw [s_isPerson (nI a) (by omega), gm_bind_s, hi1, if_neg (by decide), s_isPerson (nI b) (by omega), gm_bind_s, hi2, if_neg (by decide), if_neg hne, s_isWord (nI l0) (by omega), gm_bind_s, hi3, if_neg (by decide), s_fl (nI z) 3 3 rfl (by decide), gm_bind_s, hi4, if_neg (by decide)]
              unfold fX10_two_b48
              refine lpB w (fun i => fl m_duel_chimesOfFirst (fun l => bs (chi (kn a) (m_now_want a) en m_now_meaning m_now_alikeTo l) w) i) (fun i => fl m_duel_chimesOfSecond (fun l => bs (chi (kn b) (m_now_want b) en m_now_meaning m_now_alikeTo l) w) i) _ ?_ ?_ 0 (by omega) (by omega)
              · intro r i hi
                unfold fX10_two_b48_body
                rw [hd_go hi (by omega), gm_chk_n (by omega) (by decide), cl_n (by omega), ka2, gm_chk_n (by omega) (by decide), gm_chk_n (by omega) (by decide), s_KD (m := m_now_meaning) (al := m_now_alikeTo) (by omega) hw hE hi ka1, gm_bind_s, gm_chk_n (by omega) (by decide), gm_chk_n (by omega) (by decide), cl_n (show b < 2 ^ 31 by omega), kb2, gm_chk_n (by omega) (by decide), gm_chk_n (by omega) (by decide), s_KD (m := m_now_meaning) (al := m_now_alikeTo) (by omega) hw hE hi kb1, gm_bind_s, gm_chk_n (by omega) (by decide), cl_n (by omega), nI_1]
                rfl
              · intro r
                unfold fX10_two_b48_body
                rw [hd_end (by omega) (by omega)]
                exact ho
            rcases (show z = 0 ∨ z = 1 ∨ z = 2 by omega) with e | e | e
            · subst e
              obtain ⟨la', hfw⟩ := s_firstWins (la := m_duel_lasts) hN hw hs0 hl0 hcf hcs hT
              have hv : tvl tab s0 l0 0 = 0 ∨ tvl tab s0 l0 0 = 1 := by
                rcases (hT s0 hs0 l0 hl0 0 (by decide)).2.2.2.1 rfl with ⟨q, _⟩ | ⟨q, _⟩
                · exact Or.inr q
                · exact Or.inl q
              have hb150 : ∃ R, fX10_two_b150 N m_bads m_nos m_fulls (nI w) (nI s0) m_duel_words m_duel_saidAtFirst m_duel_asked m_duel_longest m_duel_shortest (fl m_duel_chimesOfFirst (fun l => bs (chi (kn a) (m_now_want a) en m_now_meaning m_now_alikeTo l) w) w) (fl m_duel_chimesOfSecond (fun l => bs (chi (kn b) (m_now_want b) en m_now_meaning m_now_alikeTo l) w) w) m_duel_lasts (nI l0) (nI 0) = some R ∧ R.1 = nI (tvl tab s0 l0 0) ∧ R.2.1 = m_bads ∧ R.2.2.1 = m_nos ∧ R.2.2.2.1 = m_fulls := by
                unfold fX10_two_b150
                rw [s_begin hw hs0, gm_bind_s, if_pos (show nI 0 = (0 : Int32) from rfl)]
                dsimp only
                rw [hfw, gm_bind_s]
                dsimp only
                rcases hv with q | q
                · rw [q, if_pos (show nI 0 = (0 : Int32) from rfl)]
                  exact ⟨_, rfl, rfl, rfl, rfl, rfl⟩
                · rw [q, if_neg (by decide)]
                  exact ⟨_, rfl, rfl, rfl, rfl, rfl⟩
              obtain ⟨R, k1, k2, k3, k4, k5⟩ := hb150
              have h1 := hfill _ k1
              refine ⟨_, _, h1, h2, k2, hT0, hX, ?_, hA, hI, hC⟩
              rw [k3, k4, k5]
              exact hF
            · subst e
              obtain ⟨Lg, Sh, la', hfe, q1, _⟩ := s_findEnds (la := m_duel_lasts) (lg := m_duel_longest) (sh := m_duel_shortest) hN hw hs0 hl0 (Or.inl rfl) hcf hcs hT
              have hb150 : ∃ R, fX10_two_b150 N m_bads m_nos m_fulls (nI w) (nI s0) m_duel_words m_duel_saidAtFirst m_duel_asked m_duel_longest m_duel_shortest (fl m_duel_chimesOfFirst (fun l => bs (chi (kn a) (m_now_want a) en m_now_meaning m_now_alikeTo l) w) w) (fl m_duel_chimesOfSecond (fun l => bs (chi (kn b) (m_now_want b) en m_now_meaning m_now_alikeTo l) w) w) m_duel_lasts (nI l0) (nI 1) = some R ∧ R.1 = nI (tvl tab s0 l0 0) ∧ R.2.1 = m_bads ∧ R.2.2.1 = m_nos ∧ R.2.2.2.1 = m_fulls := by
                unfold fX10_two_b150
                rw [s_begin hw hs0, gm_bind_s, if_neg (by decide)]
                dsimp only
                rw [hfe, gm_bind_s, if_pos (show nI 1 = (1 : Int32) from rfl), q1 rfl]
                exact ⟨_, rfl, rfl, rfl, rfl, rfl⟩
              obtain ⟨R, k1, k2, k3, k4, k5⟩ := hb150
              have h1 := hfill _ k1
              refine ⟨_, _, h1, h2, k2, hT0, hX, ?_, hA, hI, hC⟩
              rw [k3, k4, k5]
              exact hF
            · subst e
              obtain ⟨Lg, Sh, la', hfe, _, q1⟩ := s_findEnds (la := m_duel_lasts) (lg := m_duel_longest) (sh := m_duel_shortest) hN hw hs0 hl0 (Or.inr rfl) hcf hcs hT
              have hb150 : ∃ R, fX10_two_b150 N m_bads m_nos m_fulls (nI w) (nI s0) m_duel_words m_duel_saidAtFirst m_duel_asked m_duel_longest m_duel_shortest (fl m_duel_chimesOfFirst (fun l => bs (chi (kn a) (m_now_want a) en m_now_meaning m_now_alikeTo l) w) w) (fl m_duel_chimesOfSecond (fun l => bs (chi (kn b) (m_now_want b) en m_now_meaning m_now_alikeTo l) w) w) m_duel_lasts (nI l0) (nI 2) = some R ∧ R.1 = nI (tvl tab s0 l0 0) ∧ R.2.1 = m_bads ∧ R.2.2.1 = m_nos ∧ R.2.2.2.1 = m_fulls := by
                unfold fX10_two_b150
                rw [s_begin hw hs0, gm_bind_s, if_neg (by decide)]
                dsimp only
                rw [hfe, gm_bind_s, if_neg (by decide), q1 rfl]
                exact ⟨_, rfl, rfl, rfl, rfl, rfl⟩
              obtain ⟨R, k1, k2, k3, k4, k5⟩ := hb150
              have h1 := hfill _ k1
              refine ⟨_, _, h1, h2, k2, hT0, hX, ?_, hA, hI, hC⟩
              rw [k3, k4, k5]
              exact hF
