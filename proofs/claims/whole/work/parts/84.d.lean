theorem lpC {A B R : Type} {f : (A → B → Option R) → A → B → Option R} {z : A → B → Option R} (n : Nat) (S : Nat → A) (T : Nat → B) (F : Option R) (h : ∀ (r : A → B → Option R) (i : Nat), i < n → f r (S i) (T i) = r (S (i + 1)) (T (i + 1))) (hn : ∀ r : A → B → Option R, f r (S n) (T n) = F) {N : Nat} (hN : n < N) : gm_fix f z N (S 0) (T 0) = F := by
  refine fx2 (fun d (a : A) (b : B) => ∃ i, i + d = n ∧ b = T i ∧ a = S i) (fun o => o = F) ?_ N n (S 0) (T 0) (by omega) ⟨0, by omega, rfl, rfl⟩
  intro r d a b hI hr
  obtain ⟨i, hi, rfl, rfl⟩ := hI
  rcases Nat.eq_zero_or_pos d with h0 | h0
  · have e : i = n := by omega
    subst e
    exact hn r
  · rw [h r i (by omega)]
    exact hr _ _ (d - 1) (by omega) ⟨i + 1, by omega, rfl, rfl⟩
/-- places: silence is 0 -/
def cq (q : Nat) : Int32 := if q = 0 then -1 else nI (q - 1)
def plf (x : Int32) : Nat := (x + 1).toNatClampNeg
theorem cq_p : ∀ q, q < 12 → plf (cq q) = q ∧ cq q + 1 = nI q := by decide +kernel
theorem cq_1 (q : Nat) (h : q < 12) : cq q + 1 = cq (q + 1) := by
  rw [(cq_p q h).2]; rfl
theorem fo_r {b : Nat → Bool} {m : Nat → Int32} {v : Int32} : ∀ (d i : Nat) (x : Int32), (∃ q, q < i + 1 ∧ x = cq q) → ∃ q, q < i + d + 1 ∧ fo b m v d x i = cq q
  | 0, i, x, h => h
  | d + 1, i, x, h => by
    obtain ⟨q0, hq0, eq0⟩ := h
    have hi : nI i = cq (i + 1) := rfl
    rw [fo]
    have ih := fun x h => fo_r (b := b) (m := m) (v := v) d (i + 1) x h
    rw [show i + (d + 1) + 1 = i + 1 + d + 1 by omega]
    split
    · split
      · exact ⟨i + 1, by omega, rfl⟩
      · split
        · exact ih _ ⟨i + 1, by omega, rfl⟩
        · exact ih _ ⟨q0, by omega, eq0⟩
    · exact ih _ ⟨q0, by omega, eq0⟩
def cnt (L : Int32) (pl : Nat → Nat) (q : Nat) : Nat → Nat
  | 0 => 0
  | n + 1 => cnt L pl q n + (if bt L n && decide (pl n = q) then 1 else 0)
def mx (g : Nat → Nat) : Nat → Nat
  | 0 => 0
  | n + 1 => max (mx g n) (g n)
theorem mx_le {g : Nat → Nat} {M : Nat} : ∀ {n : Nat}, (∀ q, q < n → g q ≤ M) → mx g n ≤ M
  | 0, _ => Nat.zero_le M
  | n + 1, h => Nat.max_le.mpr ⟨mx_le (fun q hq => h q (by omega)), h n (by omega)⟩
theorem le_mx {g : Nat → Nat} : ∀ {n q : Nat}, q < n → g q ≤ mx g n
  | n + 1, q, h => by
    rw [mx]
    rcases Nat.lt_or_ge q n with h1 | h1
    · exact Nat.le_trans (le_mx h1) (Nat.le_max_left _ _)
    · rw [show q = n by omega]; exact Nat.le_max_right _ _
theorem cnt_le (L : Int32) (pl : Nat → Nat) (q : Nat) : ∀ n, cnt L pl q n ≤ n
  | 0 => Nat.le_refl 0
  | n + 1 => by
    rw [cnt]
    have := cnt_le L pl q n
    split <;> omega
theorem mx_step {L : Int32} {pl : Nat → Nat} {n j : Nat} (hb : bt L j = true) (hp : pl j < n) : mx (fun q => cnt L pl q (j + 1)) n = max (mx (fun q => cnt L pl q j) n) (cnt L pl (pl j) (j + 1)) := by
  apply Nat.le_antisymm
  · refine mx_le (fun q hq => ?_)
    by_cases e : pl j = q
    · subst e; exact Nat.le_max_right _ _
    · have : cnt L pl q (j + 1) = cnt L pl q j := by rw [cnt, if_neg (by simp [e])]; rfl
      rw [this]
      exact Nat.le_trans (le_mx (g := fun q => cnt L pl q j) hq) (Nat.le_max_left _ _)
  · refine Nat.max_le.mpr ⟨mx_le (fun q hq => Nat.le_trans ?_ (le_mx (g := fun q => cnt L pl q (j + 1)) hq)), le_mx (g := fun q => cnt L pl q (j + 1)) hp⟩
    show cnt L pl q j ≤ cnt L pl q (j + 1)
    rw [cnt]; omega
theorem cnt_off {L : Int32} {pl : Nat → Nat} {q j : Nat} (hb : bt L j = false) : cnt L pl q (j + 1) = cnt L pl q j := by rw [cnt, hb]; rfl
theorem max_if {a b : Nat} (ha : a < 2 ^ 31) (hb : b < 2 ^ 31) : (if nI a < nI b then nI b else nI a) = nI (max a b) := by
  rcases Nat.lt_or_ge a b with h | h
  · rw [if_pos (nI_lt h hb), Nat.max_eq_right (by omega)]
  · rw [if_neg (nI_nlt h ha), Nat.max_eq_left h]
def plk (k w : Nat) (en : Nat → Nat) (m al : Nat → Int32) (a j : Nat) : Nat := plf (fo (chi k (nI j) en m al a) m (nI j) w (-1) 0)
theorem plk_p {k w : Nat} (hw : w ≤ 10) (en : Nat → Nat) (m al : Nat → Int32) (a j : Nat) : plk k w en m al a j < w + 1 ∧ fo (chi k (nI j) en m al a) m (nI j) w (-1) 0 = cq (plk k w en m al a j) := by
  obtain ⟨q, hq, eq⟩ := fo_r (b := chi k (nI j) en m al a) (m := m) (v := nI j) w 0 (-1) ⟨0, by omega, rfl⟩
  unfold plk
  rw [eq, (cq_p q (by omega)).1]
  exact ⟨by omega, rfl⟩
theorem s_mostLeft {N w k a : Nat} {L : Int32} {e m al t : Nat → Int32} {en : Nat → Nat} (hN : 3000 ≤ N) (hw : w ≤ 10) (he : okE w e en) (hk : k < 6) (ha : a < w) : ∃ t', fX10_mostLeft N (nI w) e m al t (nI k) L (nI a) = some (nI (mx (fun q => cnt L (plk k w en m al a) q 8) (w + 1)), t') := by
  unfold fX10_mostLeft fX10_mostLeft_b3
  refine ⟨fun z => if z < 11 then nI (cnt L (plk k w en m al a) z 8) else t z, ?_⟩
  have z0 : t = (fun z => if z < 0 then 0 else t z) := by funext z; rw [if_neg (by omega)]
  rw [show gm_fix (fX10_mostLeft_b3_body N (nI w) e m al (nI k) L (nI a)) (fun _ _ => none) N t 0 = gm_fix (fX10_mostLeft_b3_body N (nI w) e m al (nI k) L (nI a)) (fun _ _ => none) N (fun z => if z < 0 then 0 else t z) (nI 0) by rw [← z0]; rfl]
  refine lpA 11 (fun i => fun z => if z < i then 0 else t z) _ ?_ ?_ 0 (by omega) (by omega)
  · intro r i hi
    unfold fX10_mostLeft_b3_body
    rw [hl_go (K := 11) (n := 11) rfl hi (by decide), gm_chk_n hi (by decide), cl_n (by omega), nI_1]
    congr 1
    funext z
    by_cases q : z = i
    · subst q; rw [upd_s, if_pos (by omega)]
    · rw [upd_n q]
      rcases Nat.lt_or_ge z i with h | h
      · rw [if_pos h, if_pos (by omega)]
      · rw [if_neg (by omega), if_neg (by omega)]
  · intro r
    unfold fX10_mostLeft_b3_body fX10_mostLeft_b27 fX10_mostLeft_b33
    rw [hl_end (K := 11) (n := 11) rfl (by omega) (by omega)]
    have e0 : (fun z => if z < 11 then 0 else t z) = (fun z => if z < 11 then nI (cnt L (plk k w en m al a) z 0) else t z) := rfl
    rw [e0]
    have m0 : (0 : Int32) = nI (mx (fun q => cnt L (plk k w en m al a) q 0) (w + 1)) := by
      rw [show mx (fun q => cnt L (plk k w en m al a) q 0) (w + 1) = 0 from Nat.le_zero.mp (mx_le (fun q _ => Nat.le_refl 0))]; rfl
    rw [show gm_fix (fX10_mostLeft_b33_body N (nI w) e m al (nI k) L (nI a)) (fun _ _ _ => none) N (fun z => if z < 11 then nI (cnt L (plk k w en m al a) z 0) else t z) 0 0 = gm_fix (fX10_mostLeft_b33_body N (nI w) e m al (nI k) L (nI a)) (fun _ _ _ => none) N (fun z => if z < 11 then nI (cnt L (plk k w en m al a) z 0) else t z) (nI (mx (fun q => cnt L (plk k w en m al a) q 0) (w + 1))) (nI 0) by rw [← m0]; rfl]
    refine lpB 8 (fun j => fun z => if z < 11 then nI (cnt L (plk k w en m al a) z j) else t z) (fun j => nI (mx (fun q => cnt L (plk k w en m al a) q j) (w + 1))) _ ?_ ?_ 0 (by omega) (by omega)
    · intro r2 j hj
      unfold fX10_mostLeft_b33_body fX10_mostLeft_b87
      rw [hl_go (K := 8) (n := 8) rfl hj (by decide), b_get L j (by omega)]
      cases hb : bt L j with
      | false =>
        rw [if_neg (by decide), nI_1]
        simp only [cnt_off hb]
      | true =>
        obtain ⟨p1, p2⟩ := plk_p (k := k) hw en m al a j
        have hc : ∀ n, cnt L (plk k w en m al a) (plk k w en m al a j) n ≤ n := fun n => cnt_le _ _ _ n
        have hm : mx (fun q => cnt L (plk k w en m al a) q j) (w + 1) ≤ j := mx_le (fun q _ => cnt_le _ _ q j)
        have hc1 : nI (cnt L (plk k w en m al a) (plk k w en m al a j) j) + 1 = nI (cnt L (plk k w en m al a) (plk k w en m al a j) (j + 1)) := by
          rw [nI_1, cnt, hb, decide_eq_true rfl, Bool.and_self, if_pos rfl]
        rw [if_pos (by decide), s_reply (by omega) hw he hk ha, gm_bind_s, gm_let_s, p2, (cq_p _ (by omega)).2, gm_chk_n (by omega) (by decide), gm_chk_n (by omega) (by decide), gm_chk_n (by omega) (by decide), gm_let_s, cl_n (by omega), upd_s]
        have p11 : plk k w en m al a j < 11 := by omega
        simp only [p11, if_true, hc1]
        rw [ max_if (by omega) (by have := hc (j + 1); omega), nI_1, mx_step hb p1]
        congr 1
        funext z
        by_cases q : z = plk k w en m al a j
        · subst q; rw [upd_s, if_pos (show plk k w en m al a j < 11 by omega)]
        · rw [upd_n q, cnt, hb, decide_eq_false (fun e => q e.symm)]; rfl
    · intro r2
      unfold fX10_mostLeft_b33_body
      rw [hl_end (K := 8) (n := 8) rfl (by omega) (by omega)]
theorem s_MleftBy {N w k a : Nat} {L : Int32} {f e m al : Nat → Int32} {en : Nat → Nat} (hN : 3000 ≤ N) (hf : rowE w f e m al) (hw : w ≤ 10) (he : okE w e en) (hs : symA al) (hk : k < 6) (ha : a < w) : fX11_leftBy N f (nI k) L (nI a) = some (nI (mx (fun q => cnt L (plk k w en m al a) q 8) (w + 1))) := by
  unfold fX11_leftBy fX11_leftBy_b6
  refine lpC (w + 1) (fun i => nI (mx (fun q => cnt L (plk k w en m al a) q 8) i)) cq _ ?_ ?_ (by omega)
  · intro r i hi
    unfold fX11_leftBy_b6_body fX11_leftBy_b23
    rw [ck0 (by decide), cl0, hf.1, if_neg (show ¬ nI w ≤ cq i from by
      unfold cq
      split
      · exact (by decide +revert : ∀ w, w ≤ 10 → ¬ nI w ≤ -1) w hw
      · exact nI_ge (by omega) (by omega))]
    refine lpA 8 (fun j => nI (cnt L (plk k w en m al a) i j)) _ ?_ ?_ 0 (by omega) (by omega)
    · intro r2 j hj
      unfold fX11_leftBy_b23_body fX11_leftBy_b58 fX11_leftBy_b59
      simp only [cnt]
      rw [hl_go (K := 8) (n := 8) rfl hj (by decide), s_Mhas L (by omega), gm_bind_s]
      cases hb : bt L j with
      | false => rw [if_pos (by decide), gm_let_s, nI_1, Bool.false_and, if_neg (by decide), Int32.add_zero]; rfl
      | true =>
        obtain ⟨p1, p2⟩ := plk_p (k := k) hw en m al a j
        rw [if_neg (by decide), s_MansOf (by omega) hf hw he hs hk ha, gm_bind_s, p2, Bool.true_and]
        by_cases q : plk k w en m al a j = i
        · rw [if_pos (by rw [q]), gm_let_s, nI_1, nI_1, decide_eq_true q, if_pos rfl]
        · rw [if_neg (fun e => q (by have := congrArg plf e; rwa [(cq_p _ (by omega)).1, (cq_p _ (by omega)).1] at this)), gm_let_s, nI_1, decide_eq_false q, if_neg (by decide), Int32.add_zero]; rfl
    · intro r2
      unfold fX11_leftBy_b23_body fX11_leftBy_b68 fX11_leftBy_b82
      rw [hl_end (K := 8) (n := 8) rfl (by omega) (by omega), cq_1 i (by omega)]
      have h1 : mx (fun q => cnt L (plk k w en m al a) q 8) i ≤ 8 := mx_le (fun q _ => cnt_le _ _ q 8)
      have h2 : cnt L (plk k w en m al a) i 8 ≤ 8 := cnt_le _ _ _ 8
      show _ = r (nI (max (mx (fun q => cnt L (plk k w en m al a) q 8) i) (cnt L (plk k w en m al a) i 8))) _
      rcases Nat.lt_or_ge (mx (fun q => cnt L (plk k w en m al a) q 8) i) (cnt L (plk k w en m al a) i 8) with h | h
      · rw [if_neg (nI_ge h (by omega)), Nat.max_eq_right (by omega)]
      · rw [if_pos (nI_le h (by omega)), Nat.max_eq_left h]
  · intro r
    unfold fX11_leftBy_b6_body
    rw [ck0 (by decide), cl0, hf.1, if_pos (show nI w ≤ cq (w + 1) from nI_le (Nat.le_refl w) (by omega))]
def nx (c : Nat → Int32) : Nat → Int32 × Int32
  | 0 => (-1, 0)
  | i + 1 => if (nx c i).1 = -1 then (nI i, c i) else if (nx c i).2 ≤ c i then nx c i else (nI i, c i)
def nxr (L : Int32) (c : Nat → Int32) (w : Nat) : Int32 × Int32 := if L = 0 then (-1, 0) else nx c w
theorem s_nextL {N w k z : Nat} {b n fl L : Int32} {e m al t : Nat → Int32} {en : Nat → Nat} (hN : 3000 ≤ N) (hw : w ≤ 10) (he : okE w e en) (hk : k < 6) : ∃ t', fX10_next_b39 N b n fl (nI w) e m al (nI k) (nI z) L t (-1) 0 0 = some (if nI z = 0 then (nxr L (fun a => nI (mx (fun q => cnt L (plk k w en m al a) q 8) (w + 1))) w).1 else (nxr L (fun a => nI (mx (fun q => cnt L (plk k w en m al a) q 8) (w + 1))) w).2, b, n, fl, t') := by
  unfold fX10_next_b39
  by_cases hL : L = 0
  · refine fx4 (fun d (t : Nat → Int32) (x y c : Int32) => x = -1 ∧ y = 0) (fun (o : Option (Int32 × Int32 × Int32 × Int32 × (Nat → Int32))) => ∃ t', o = some (if nI z = 0 then (nxr L (fun a => nI (mx (fun q => cnt L (plk k w en m al a) q 8) (w + 1))) w).1 else (nxr L (fun a => nI (mx (fun q => cnt L (plk k w en m al a) q 8) (w + 1))) w).2, b, n, fl, t')) ?_ N 0 t (-1) 0 0 (by omega) ⟨rfl, rfl⟩
    intro r d t x y c hI hr
    obtain ⟨rfl, rfl⟩ := hI
    unfold fX10_next_b39_body fX10_next_b92 nxr
    rw [if_pos hL, if_pos hL]
    refine ⟨t, ?_⟩
    split <;> split <;> rfl
  · refine fx4 (fun d (t : Nat → Int32) (x y c : Int32) => ∃ i, i + d = w ∧ c = nI i ∧ (x, y) = nx (fun a => nI (mx (fun q => cnt L (plk k w en m al a) q 8) (w + 1))) i) (fun (o : Option (Int32 × Int32 × Int32 × Int32 × (Nat → Int32))) => ∃ t', o = some (if nI z = 0 then (nxr L (fun a => nI (mx (fun q => cnt L (plk k w en m al a) q 8) (w + 1))) w).1 else (nxr L (fun a => nI (mx (fun q => cnt L (plk k w en m al a) q 8) (w + 1))) w).2, b, n, fl, t')) ?_ N w t (-1) 0 0 (by omega) ⟨0, by omega, rfl, rfl⟩
    intro r d t x y c hI hr
    obtain ⟨i, hi, rfl, hx⟩ := hI
    have hx1 : x = (nx (fun a => nI (mx (fun q => cnt L (plk k w en m al a) q 8) (w + 1))) i).1 := by rw [← hx]
    have hx2 : y = (nx (fun a => nI (mx (fun q => cnt L (plk k w en m al a) q 8) (w + 1))) i).2 := by rw [← hx]
    unfold fX10_next_b39_body fX10_next_b92 fX10_next_b78 fX10_next_b86
    rcases Nat.eq_zero_or_pos d with h0 | h0
    · have e : i = w := by omega
      rw [hd_end (by omega) (by omega)]
      unfold nxr
      rw [if_neg hL, ← e, hx1, hx2]
      refine ⟨t, ?_⟩
      rw [e]
      split <;> rfl
    · have hiw : i < w := by omega
      obtain ⟨t', ht⟩ := s_mostLeft (L := L) (t := t) (m := m) (al := al) hN hw he hk hiw
      rw [hd_go hiw (by omega), if_neg hL, ht, gm_bind_s]
      by_cases q1 : x = -1
      · rw [if_pos q1]
        refine hr _ _ _ _ (d - 1) (by omega) ⟨i + 1, by omega, nI_1 i, ?_⟩
        rw [nx, if_pos (by rw [← hx1]; exact q1)]
      · rw [if_neg q1]
        by_cases q2 : y ≤ nI (mx (fun q => cnt L (plk k w en m al i) q 8) (w + 1))
        · rw [if_pos q2]
          refine hr _ _ _ _ (d - 1) (by omega) ⟨i + 1, by omega, nI_1 i, ?_⟩
          rw [nx, if_neg (by rw [← hx1]; exact q1), if_pos (by rw [← hx2]; exact q2)]
          exact hx
        · rw [if_neg q2]
          refine hr _ _ _ _ (d - 1) (by omega) ⟨i + 1, by omega, nI_1 i, ?_⟩
          rw [nx, if_neg (by rw [← hx1]; exact q1), if_neg (by rw [← hx2]; exact q2)]
theorem s_MnextL {N w k z : Nat} {tt L : Int32} {rf f e m al : Nat → Int32} {en : Nat → Nat} (hN : 3000 ≤ N) (hf : rowE w f e m al) (hw : w ≤ 10) (he : okE w e en) (hs : symA al) (hk : k < 6) : fX11_next__b47 N tt rf f (nI k) (nI z) L (-1) 0 0 = some (if nI z = 0 then (nxr L (fun a => nI (mx (fun q => cnt L (plk k w en m al a) q 8) (w + 1))) w).1 else (nxr L (fun a => nI (mx (fun q => cnt L (plk k w en m al a) q 8) (w + 1))) w).2, tt, rf) := by
  unfold fX11_next__b47
  by_cases hL : L = 0
  · refine fx3 (fun d (x y c : Int32) => x = -1 ∧ y = 0) (fun (o : Option (Int32 × Int32 × (Nat → Int32))) => o = some (if nI z = 0 then (nxr L (fun a => nI (mx (fun q => cnt L (plk k w en m al a) q 8) (w + 1))) w).1 else (nxr L (fun a => nI (mx (fun q => cnt L (plk k w en m al a) q 8) (w + 1))) w).2, tt, rf)) ?_ N 0 (-1) 0 0 (by omega) ⟨rfl, rfl⟩
    intro r d x y c hI hr
    obtain ⟨rfl, rfl⟩ := hI
    unfold fX11_next__b47_body fX11_next__b126 nxr
    rw [if_pos hL, if_pos hL, ck0 (by decide)]
    split <;> split <;> rfl
  · refine fx3 (fun d (x y c : Int32) => ∃ i, i + d = w ∧ c = nI i ∧ (x, y) = nx (fun a => nI (mx (fun q => cnt L (plk k w en m al a) q 8) (w + 1))) i) (fun (o : Option (Int32 × Int32 × (Nat → Int32))) => o = some (if nI z = 0 then (nxr L (fun a => nI (mx (fun q => cnt L (plk k w en m al a) q 8) (w + 1))) w).1 else (nxr L (fun a => nI (mx (fun q => cnt L (plk k w en m al a) q 8) (w + 1))) w).2, tt, rf)) ?_ N w (-1) 0 0 (by omega) ⟨0, by omega, rfl, rfl⟩
    intro r d x y c hI hr
    obtain ⟨i, hi, rfl, hx⟩ := hI
    have hx1 : x = (nx (fun a => nI (mx (fun q => cnt L (plk k w en m al a) q 8) (w + 1))) i).1 := by rw [← hx]
    have hx2 : y = (nx (fun a => nI (mx (fun q => cnt L (plk k w en m al a) q 8) (w + 1))) i).2 := by rw [← hx]
    unfold fX11_next__b47_body fX11_next__b126 fX11_next__b85 fX11_next__b90 fX11_next__b104 fX11_next__b118
    rw [ck0 (by decide), cl0, hf.1]
    rcases Nat.eq_zero_or_pos d with h0 | h0
    · have e : i = w := by omega
      rw [hd_end (by omega) (by omega)]
      unfold nxr
      rw [if_neg hL, hx1, hx2, e]
      split <;> rfl
    · have hiw : i < w := by omega
      rw [hd_go hiw (by omega), if_neg hL, s_MleftBy hN hf hw he hs hk hiw, gm_bind_s]
      simp only [show ¬ (1 : Int32) = 0 by decide, if_false, if_true]
      by_cases q1 : x = -1
      · rw [if_pos q1]
        refine hr _ _ _ (d - 1) (by omega) ⟨i + 1, by omega, nI_1 i, ?_⟩
        rw [nx, if_pos (by rw [← hx1]; exact q1)]
      · rw [if_neg q1]
        by_cases q2 : y ≤ nI (mx (fun q => cnt L (plk k w en m al i) q 8) (w + 1))
        · rw [if_pos q2]
          refine hr _ _ _ (d - 1) (by omega) ⟨i + 1, by omega, nI_1 i, ?_⟩
          rw [nx, if_neg (by rw [← hx1]; exact q1), if_pos (by rw [← hx2]; exact q2)]
          exact hx
        · rw [if_neg q2]
          refine hr _ _ _ (d - 1) (by omega) ⟨i + 1, by omega, nI_1 i, ?_⟩
          rw [nx, if_neg (by rw [← hx1]; exact q1), if_neg (by rw [← hx2]; exact q2)]
set_option maxHeartbeats 4000000 in
theorem sim_next {N : Nat} (hN : 3000 ≤ N) : S_next N gm_R := by
  intro m_imagesKept m_bads m_nos m_fulls m_above m_below m_now_words m_now_people m_now_said m_now_undos m_now_heard m_now_ending m_now_meaning m_now_cost m_now_alikeTo m_now_kind m_now_want m_now_saidAhead m_now_heardWord m_now_heardAnswer m_draft_words m_draft_people m_draft_said m_draft_undos m_draft_heard m_draft_ending m_draft_meaning m_draft_cost m_draft_alikeTo m_draft_kind m_draft_want m_draft_saidAhead m_draft_heardWord m_draft_heardAnswer m_images_0_words m_images_0_people m_images_0_said m_images_0_undos m_images_0_heard m_images_0_ending m_images_0_meaning m_images_0_cost m_images_0_alikeTo m_images_0_kind m_images_0_want m_images_0_saidAhead m_images_0_heardWord m_images_0_heardAnswer m_images_1_words m_images_1_people m_images_1_said m_images_1_undos m_images_1_heard m_images_1_ending m_images_1_meaning m_images_1_cost m_images_1_alikeTo m_images_1_kind m_images_1_want m_images_1_saidAhead m_images_1_heardWord m_images_1_heardAnswer m_text_length m_text_items m_text_place m_text_start m_text_token m_text_number m_text_bytes m_duel_words m_duel_saidAtFirst m_duel_asked m_duel_longest m_duel_shortest m_duel_chimesOfFirst m_duel_chimesOfSecond m_duel_lasts m_cover_sayable m_cover_price m_cover_covered m_cover_spent m_clashes m_tally m_sayableByPair m_chosenPairs n_thrown n_size n_at n_start n_token n_value n_faultAt n_allowed n_firstPair n_secondPair n_above n_below n_refused n_tongue n_fresh n_kept n_isKept n_text n_said n_talk hR x1 x2
  obtain ⟨hT, hX, hF, hA, hI, hC⟩ := hR
  have hT0 := hT
  obtain ⟨w, p, u, h, en, mn, cn, kn, wn, ⟨hw, hp, hu8, hh6⟩, ⟨rfl, rfl, rfl, rfl⟩, hrE, hrP, hr2, hco, hE, hM, hP, hs, hir, hh, hu, hsd⟩ := hT
  cases hi1 : inr x1 6 with
  | false =>
    have h1 : fX10_next N m_bads m_nos m_fulls (nI w) (nI h) m_now_ending m_now_meaning m_now_alikeTo m_now_heardWord m_now_heardAnswer m_tally x1 x2 = some (-2, m_bads + 1, m_nos, m_fulls, m_tally) := by
      unfold fX10_next fX10_next_b17
      rw [s_fl x1 6 6 rfl (by decide), gm_bind_s, hi1, if_pos (by decide), s_refB, gm_bind_s]
    have h2 : fX11_next_ N n_thrown n_refused n_tongue x1 x2 = some (-2, 0, upd n_refused 0 (n_refused 0 + 1)) := by
      unfold fX11_next_ fX11_next__b27
      rw [s_in (B := 6) x1 5 (by decide), gm_bind_s, hi1, if_pos (by decide), s_bad, gm_bind_s]
    exact ⟨_, _, h1, h2, rfl, hT0, hX, RFb hF, hA, hI, hC⟩
  | true =>
    obtain ⟨k, hk, rfl⟩ := inr_t hi1 (by omega)
    cases hi2 : inr x2 2 with
    | false =>
      have h1 : fX10_next N m_bads m_nos m_fulls (nI w) (nI h) m_now_ending m_now_meaning m_now_alikeTo m_now_heardWord m_now_heardAnswer m_tally (nI k) x2 = some (-2, m_bads + 1, m_nos, m_fulls, m_tally) := by
        unfold fX10_next fX10_next_b17
        rw [s_fl (nI k) 6 6 rfl (by decide), gm_bind_s, hi1, if_neg (by decide), s_fl x2 2 2 rfl (by decide), gm_bind_s, hi2, if_pos (by decide), s_refB, gm_bind_s]
      have h2 : fX11_next_ N n_thrown n_refused n_tongue (nI k) x2 = some (-2, 0, upd n_refused 0 (n_refused 0 + 1)) := by
        unfold fX11_next_ fX11_next__b27
        rw [s_in (B := 6) (nI k) 5 (by decide), gm_bind_s, hi1, if_neg (by decide), s_in (B := 2) x2 1 (by decide), gm_bind_s, hi2, if_pos (by decide), s_bad, gm_bind_s]
      exact ⟨_, _, h1, h2, rfl, hT0, hX, RFb hF, hA, hI, hC⟩
    | true =>
      obtain ⟨z, hz, rfl⟩ := inr_t hi2 (by omega)
      have hg : ∀ j, j < h → n_tongue (53 + 2 * j) = m_now_heardWord j ∧ n_tongue (53 + 2 * j + 1) = m_now_heardAnswer j := fun j hj => ⟨(hh j hj).1, (hh j hj).2.1⟩
      have hgx : ∀ j, j < h → ∃ x, x < w ∧ m_now_heardWord j = nI x := fun j hj => (hh j hj).2.2.1
      generalize hLg : bs (fun z => allb (wA k w en m_now_meaning m_now_alikeTo m_now_heardWord m_now_heardAnswer z) h) 8 = L
      obtain ⟨t', ht⟩ := s_nextL (z := z) (b := m_bads) (n := m_nos) (fl := m_fulls) (L := L) (t := m_tally) (m := m_now_meaning) (al := m_now_alikeTo) hN hw hE hk
      have h1 : fX10_next N m_bads m_nos m_fulls (nI w) (nI h) m_now_ending m_now_meaning m_now_alikeTo m_now_heardWord m_now_heardAnswer m_tally (nI k) (nI z) = some (if nI z = 0 then (nxr L (fun a => nI (mx (fun q => cnt L (plk k w en m_now_meaning m_now_alikeTo a) q 8) (w + 1))) w).1 else (nxr L (fun a => nI (mx (fun q => cnt L (plk k w en m_now_meaning m_now_alikeTo a) q 8) (w + 1))) w).2, m_bads, m_nos, m_fulls, t') := by
        unfold fX10_next
        rw [s_fl (nI k) 6 6 rfl (by decide), gm_bind_s, hi1, if_neg (by decide), s_fl (nI z) 2 2 rfl (by decide), gm_bind_s, hi2, if_neg (by decide), s_wantBits (by omega) hw hh6 hE hk hgx, gm_bind_s, hLg]
        exact ht
      have h2 : fX11_next_ N n_thrown n_refused n_tongue (nI k) (nI z) = some (if nI z = 0 then (nxr L (fun a => nI (mx (fun q => cnt L (plk k w en m_now_meaning m_now_alikeTo a) q 8) (w + 1))) w).1 else (nxr L (fun a => nI (mx (fun q => cnt L (plk k w en m_now_meaning m_now_alikeTo a) q 8) (w + 1))) w).2, 0, n_refused) := by
        unfold fX11_next_
        rw [s_in (B := 6) (nI k) 5 (by decide), gm_bind_s, hi1, if_neg (by decide), s_in (B := 2) (nI z) 1 (by decide), gm_bind_s, hi2, if_neg (by decide), s_MwantsOf (by omega) hrE hw hh6 hE hs hk hr2.2.1 hg hgx, gm_bind_s, hLg]
        exact s_MnextL hN hrE hw hE hs hk
      exact ⟨_, _, h1, h2, rfl, hT0, hX, hF, hA, hI, hC⟩
