/-! ===== what chimes: the class's kinds as sets ===== -/
/-- ending, meaning, alike as small numbers; words below w -/
def okE (w : Nat) (e : Nat → Int32) (en : Nat → Nat) : Prop := ∀ j, j < w → en j < 8 ∧ e j = nI (en j)
theorem s_wordsEnding {N w : Nat} {e : Nat → Int32} {en : Nat → Nat} (hN : 11 ≤ N) (hw : w ≤ 10) (he : okE w e en) (x : Int32) : fX9_wordsEnding N (nI w) e x = some (bs (fun i => bt x (en i)) w) := by
  unfold fX9_wordsEnding fX9_wordsEnding_b4
  refine fx2 (fun d a b => ∃ i, i + d = w ∧ b = nI i ∧ a = bs (fun i => bt x (en i)) i) (fun o => o = some (bs (fun i => bt x (en i)) w)) ?_ N w 0 0 (by omega) ⟨0, by omega, rfl, rfl⟩
  intro r d a b hI hr
  obtain ⟨i, hi, rfl, rfl⟩ := hI
  unfold fX9_wordsEnding_b4_body
  rcases Nat.eq_zero_or_pos d with h0 | h0
  · rw [hd_end (by omega) (by omega), show i = w by omega]
  · have hiw : i < w := by omega
    rw [hd_go hiw (by omega), gm_chk_n (by omega) (by decide), gm_let_s, cl_n (by omega), (he i hiw).2, b_get x (en i) (by have := (he i hiw).1; omega)]
    refine hr _ _ (d - 1) (by omega) ⟨i + 1, by omega, nI_1 i, ?_⟩
    rw [bs]
    congr 1
    cases bt x (en i)
    · simp
    · simp
theorem s_wordsMeaning {N w : Nat} {m : Nat → Int32} (hN : 11 ≤ N) (hw : w ≤ 10) (x : Int32) : fX9_wordsMeaning N (nI w) m x = some (bs (fun i => decide (m i = x)) w) := by
  unfold fX9_wordsMeaning fX9_wordsMeaning_b4
  refine fx2 (fun d a b => ∃ i, i + d = w ∧ b = nI i ∧ a = bs (fun i => decide (m i = x)) i) (fun o => o = some (bs (fun i => decide (m i = x)) w)) ?_ N w 0 0 (by omega) ⟨0, by omega, rfl, rfl⟩
  intro r d a b hI hr
  obtain ⟨i, hi, rfl, rfl⟩ := hI
  unfold fX9_wordsMeaning_b4_body
  rcases Nat.eq_zero_or_pos d with h0 | h0
  · rw [hd_end (by omega) (by omega), show i = w by omega]
  · have hiw : i < w := by omega
    rw [hd_go hiw (by omega), gm_chk_n (by omega) (by decide), cl_n (by omega)]
    by_cases hm : m i = x
    · rw [if_pos hm, gm_let_s]
      unfold fX9_wordsMeaning_b28
      refine hr _ _ (d - 1) (by omega) ⟨i + 1, by omega, nI_1 i, ?_⟩
      rw [bs, if_pos (by simp [hm])]
    · rw [if_neg hm]
      unfold fX9_wordsMeaning_b28
      refine hr _ _ (d - 1) (by omega) ⟨i + 1, by omega, nI_1 i, ?_⟩
      rw [bs, if_neg (by simp [hm])]
      apply b_ext
      intro k hk
      rw [b_or, b_0]; simp
/-- word x chimes with the word w that one of kind k (wanting v) was asked -/
def chi (k : Nat) (v : Int32) (en : Nat → Nat) (m al : Nat → Int32) (w x : Nat) : Bool :=
  match k with
  | 0 => decide (en x = en w) && !decide (x = w)
  | 1 => (decide (en x = en w) && !decide (x = w)) || bt (al (en w)) (en x)
  | 2 => (decide (en x = en w) && !decide (x = w)) || decide (x = w)
  | 3 => ((decide (en x = en w) && !decide (x = w)) || decide (x = w)) && !decide (x < w)
  | 4 => ((decide (en x = en w) && !decide (x = w)) || bt (al (en w)) (en x)) && !decide (m x = m w)
  | _ => ((decide (en x = en w) && !decide (x = w)) || bt (al (en w)) (en x)) || decide (m x = v)
theorem b_low : ∀ a, a < 32 → ∀ i, i < 32 → bt (((1 : Int32) <<< (nI a &&& 31)) - 1) i = decide (i < a) := by decide +kernel
theorem s_K7 {N w a : Nat} {e : Nat → Int32} {en : Nat → Nat} (hN : 11 ≤ N) (hw : w ≤ 10) (he : okE w e en) (ha : a < w) (v : Int32) (m al : Nat → Int32) : fX7_chimes N (nI w) e v (nI a) = some (bs (chi 0 v en m al a) w) := by
  unfold fX7_chimes
  rw [gm_chk_n (by omega) (by decide), cl_n (by omega), (he a ha).2, s_wordsEnding hN hw he, gm_bind_s]
  have h8 := (he a ha).1
  congr 1
  refine bs_of (by omega) (fun i hi => ?_)
  rw [b_and, bs_bt _ w (by omega) i hi, b_not _ hi, b_one a (by omega) hi]
  by_cases hiw : i < w
  · rw [b_one (en a) (by omega) (by have := (he i hiw).1; omega)]
    simp [hiw, chi]
  · simp [hiw]
theorem s_K4 {N w a : Nat} {e m al : Nat → Int32} {en : Nat → Nat} (hN : 11 ≤ N) (hw : w ≤ 10) (he : okE w e en) (ha : a < w) (v : Int32) : fX4_chimes N (nI w) e al v (nI a) = some (bs (chi 1 v en m al a) w) := by
  unfold fX4_chimes
  have h8 := (he a ha).1
  rw [s_K7 hN hw he ha v m al, gm_bind_s, gm_chk_n (by omega) (by decide), cl_n (by omega), (he a ha).2, gm_chk_n h8 (by decide), cl_n (by omega), s_wordsEnding hN hw he, gm_bind_s]
  congr 1
  refine bs_of (by omega) (fun i hi => ?_)
  rw [b_or, bs_bt _ w (by omega) i hi, bs_bt _ w (by omega) i hi]
  by_cases hiw : i < w
  · simp [hiw, chi]
  · simp [hiw]
theorem s_K3 {N w a : Nat} {e m al : Nat → Int32} {en : Nat → Nat} (hN : 11 ≤ N) (hw : w ≤ 10) (he : okE w e en) (ha : a < w) (v : Int32) : fX3_chimes N (nI w) e v (nI a) = some (bs (chi 2 v en m al a) w) := by
  unfold fX3_chimes
  rw [s_K7 hN hw he ha v m al, gm_bind_s]
  congr 1
  refine bs_of (by omega) (fun i hi => ?_)
  rw [b_or, bs_bt _ w (by omega) i hi, b_one a (by omega) hi]
  by_cases hiw : i < w
  · simp [hiw, chi]
  · have : i ≠ a := by omega
    simp [hiw, this]
theorem s_K8 {N w a : Nat} {e m al : Nat → Int32} {en : Nat → Nat} (hN : 11 ≤ N) (hw : w ≤ 10) (he : okE w e en) (ha : a < w) (v : Int32) : fX8_chimes N (nI w) e v (nI a) = some (bs (chi 3 v en m al a) w) := by
  unfold fX8_chimes
  rw [gm_let_s, s_K3 (m := m) (al := al) hN hw he ha v, gm_bind_s]
  congr 1
  refine bs_of (by omega) (fun i hi => ?_)
  rw [b_and, bs_bt _ w (by omega) i hi, b_not _ hi, b_low a (by omega) i hi]
  by_cases hiw : i < w
  · simp [hiw, chi]
  · simp [hiw]
theorem s_K5 {N w a : Nat} {e m al : Nat → Int32} {en : Nat → Nat} (hN : 11 ≤ N) (hw : w ≤ 10) (he : okE w e en) (ha : a < w) (v : Int32) : fX5_chimes N (nI w) e m al v (nI a) = some (bs (chi 4 v en m al a) w) := by
  unfold fX5_chimes
  rw [s_K4 (m := m) hN hw he ha v, gm_bind_s, gm_chk_n (by omega) (by decide), cl_n (by omega), s_wordsMeaning hN hw, gm_bind_s]
  congr 1
  refine bs_of (by omega) (fun i hi => ?_)
  rw [b_and, bs_bt _ w (by omega) i hi, b_not _ hi, bs_bt _ w (by omega) i hi]
  by_cases hiw : i < w
  · simp [hiw, chi]
  · simp [hiw]
theorem s_K0 {N w a : Nat} {e m al : Nat → Int32} {en : Nat → Nat} (hN : 11 ≤ N) (hw : w ≤ 10) (he : okE w e en) (ha : a < w) (v : Int32) : fX0_chimes N (nI w) e m al v (nI a) = some (bs (chi 5 v en m al a) w) := by
  unfold fX0_chimes
  rw [s_K4 (m := m) hN hw he ha v, gm_bind_s, s_wordsMeaning hN hw, gm_bind_s]
  congr 1
  refine bs_of (by omega) (fun i hi => ?_)
  rw [b_or, bs_bt _ w (by omega) i hi, bs_bt _ w (by omega) i hi]
  by_cases hiw : i < w
  · simp [hiw, chi]
  · simp [hiw]
/-- the class's dispatch -/
theorem s_KD {N w a k : Nat} {e m al : Nat → Int32} {en : Nat → Nat} (hN : 11 ≤ N) (hw : w ≤ 10) (he : okE w e en) (ha : a < w) (hk : k < 6) (v : Int32) : fKD N (nI k) (nI w) e m al v (nI a) = some (bs (chi k v en m al a) w) := by
  unfold fKD
  rcases (show k = 0 ∨ k = 1 ∨ k = 2 ∨ k = 3 ∨ k = 4 ∨ k = 5 by omega) with rfl | rfl | rfl | rfl | rfl | rfl
  · rw [if_pos (by decide)]; exact s_K7 hN hw he ha v m al
  · rw [if_neg (by decide), if_pos (by decide)]; exact s_K4 hN hw he ha v
  · rw [if_neg (by decide), if_neg (by decide), if_pos (by decide)]; exact s_K3 hN hw he ha v
  · rw [if_neg (by decide), if_neg (by decide), if_neg (by decide), if_pos (by decide)]; exact s_K8 hN hw he ha v
  · rw [if_neg (by decide), if_neg (by decide), if_neg (by decide), if_neg (by decide), if_pos (by decide)]; exact s_K5 hN hw he ha v
  · rw [if_neg (by decide), if_neg (by decide), if_neg (by decide), if_neg (by decide), if_neg (by decide)]; exact s_K0 hN hw he ha v
