/-! ===== what chimes: the model's side ===== -/
def bi (b : Bool) : Int32 := if b then 1 else 0
theorem bi_0 (b : Bool) : bi b = 0 ↔ b = false := by cases b <;> decide
theorem bi_bl {α : Type} (b : Bool) (k : Option α) : gm_bl (bi b) k = k := gm_bl_ok (by cases b <;> decide)
/-- the model's row: words, endings, meanings, alike -/
def rowE (w : Nat) (f e m al : Nat → Int32) : Prop := f 0 = nI w ∧ (∀ j, j < w → f (5 + 3 * j) = e j ∧ f (5 + 3 * j + 1) = m j) ∧ ∀ a, a < 8 → f (45 + a) = al a
def symA (al : Nat → Int32) : Prop := ∀ a b, a < 8 → b < 8 → bt (al a) b = bt (al b) a
theorem ix3 (j : Nat) : (5 : Int32) + 3 * nI j = nI (5 + 3 * j) := by
  rw [show (5 : Int32) = nI 5 from rfl, show (3 : Int32) = nI 3 from rfl, pk_mul, nI_add]
theorem ix2 (j : Nat) : (35 : Int32) + 2 * nI j = nI (35 + 2 * j) := by
  rw [show (35 : Int32) = nI 35 from rfl, show (2 : Int32) = nI 2 from rfl, pk_mul, nI_add]
theorem ix45 (j : Nat) : (45 : Int32) + nI j = nI (45 + j) := by
  rw [show (45 : Int32) = nI 45 from rfl, nI_add]
theorem s_Mending {N w j : Nat} {f e m al : Nat → Int32} (hf : rowE w f e m al) (hw : w ≤ 10) (hj : j < w) : fX11_ending N f (nI j) = some (e j) := by
  unfold fX11_ending
  rw [ix3, gm_chk_n (by omega) (by decide), cl_n (by omega), (hf.2.1 j hj).1]
theorem s_Mmeaning {N w j : Nat} {f e m al : Nat → Int32} (hf : rowE w f e m al) (hw : w ≤ 10) (hj : j < w) : fX11_meaning N f (nI j) = some (m j) := by
  unfold fX11_meaning
  rw [ix3, nI_1, gm_chk_n (by omega) (by decide), cl_n (by omega), (hf.2.1 j hj).2]
theorem s_Mrhymes {N w x a : Nat} {f e m al : Nat → Int32} {en : Nat → Nat} (hf : rowE w f e m al) (hw : w ≤ 10) (he : okE w e en) (hx : x < w) (ha : a < w) : fX11_rhymes N f (nI x) (nI a) = some (bi (decide (en x = en a) && !decide (x = a))) := by
  unfold fX11_rhymes
  have h1 := (he x hx).1
  have h2 := (he a ha).1
  rw [s_Mending hf hw hx, gm_bind_s, s_Mending hf hw ha, gm_bind_s, (he x hx).2, (he a ha).2]
  by_cases h : en x = en a
  · rw [if_pos (by rw [h])]
    by_cases h3 : x = a
    · rw [if_pos (by rw [h3])]; simp [h3, bi]
    · rw [if_neg (by rw [nI_eq (by omega) (by omega)]; exact h3)]; simp [h, h3, bi]
  · rw [if_neg (by rw [nI_eq (by omega) (by omega)]; exact h)]; simp [h, bi]
theorem s_Mhas {N n : Nat} (x : Int32) (hn : n < 32) : fX11_has N x (nI n) = some (bi (bt x n)) := by
  unfold fX11_has
  rw [b_get x n hn]
  cases bt x n <;> decide
theorem s_Mhalf {N w x a : Nat} {f e m al : Nat → Int32} {en : Nat → Nat} (hf : rowE w f e m al) (hw : w ≤ 10) (he : okE w e en) (hs : symA al) (hx : x < w) (ha : a < w) : fX11_isHalf N f (nI x) (nI a) = some (bi ((decide (en x = en a) && !decide (x = a)) || bt (al (en a)) (en x))) := by
  unfold fX11_isHalf fX11_isHalf_b33
  have h1 := (he x hx).1
  have h2 := (he a ha).1
  rw [s_Mrhymes hf hw he hx ha, gm_bind_s]
  cases hr : (decide (en x = en a) && !decide (x = a)) with
  | true => rw [if_neg (by simp [bi])]; simp [bi]
  | false =>
    rw [if_pos (by simp [bi]), s_Mending hf hw hx, gm_bind_s, (he x hx).2, ix45, gm_chk_n (by omega) (by decide), s_Mending hf hw ha, gm_bind_s, (he a ha).2, cl_n (by omega), hf.2.2 (en x) h1, s_Mhas _ (by omega), gm_bind_s, hs (en x) (en a) h1 h2]
    cases bt (al (en a)) (en x) <;> simp [bi]
theorem s_Mecho {N w x a : Nat} {f e m al : Nat → Int32} {en : Nat → Nat} (hf : rowE w f e m al) (hw : w ≤ 10) (he : okE w e en) (hx : x < w) (ha : a < w) : fX11_isEcho N f (nI x) (nI a) = some (bi ((decide (en x = en a) && !decide (x = a)) || decide (x = a))) := by
  unfold fX11_isEcho fX11_isEcho_b14
  rw [s_Mrhymes hf hw he hx ha, gm_bind_s]
  cases hr : (decide (en x = en a) && !decide (x = a)) with
  | true => rw [if_neg (by simp [bi])]; simp [bi]
  | false =>
    rw [if_pos (by simp [bi])]
    by_cases h3 : x = a
    · rw [if_pos (by rw [h3])]; simp [h3, bi]
    · rw [if_neg (by rw [nI_eq (by omega) (by omega)]; exact h3)]; simp [h3, bi]
theorem s_Mchimes {N w x a k : Nat} {f e m al : Nat → Int32} {en : Nat → Nat} (hf : rowE w f e m al) (hw : w ≤ 10) (he : okE w e en) (hs : symA al) (hx : x < w) (ha : a < w) (hk : k < 6) (v : Int32) : fX11_chimes N f (nI k) v (nI x) (nI a) = some (bi (chi k v en m al a x)) := by
  unfold fX11_chimes
  rcases (show k = 0 ∨ k = 1 ∨ k = 2 ∨ k = 3 ∨ k = 4 ∨ k = 5 by omega) with rfl | rfl | rfl | rfl | rfl | rfl
  · rw [if_pos (by decide), s_Mrhymes hf hw he hx ha, gm_bind_s, bi_bl]; rfl
  · rw [if_neg (by decide), if_pos (by decide), s_Mhalf hf hw he hs hx ha, gm_bind_s, bi_bl]; rfl
  · rw [if_neg (by decide), if_neg (by decide), if_pos (by decide), s_Mecho hf hw he hx ha, gm_bind_s, bi_bl]; rfl
  · rw [if_neg (by decide), if_neg (by decide), if_neg (by decide), if_pos (by decide), s_Mecho hf hw he hx ha, gm_bind_s]
    simp only [chi]
    cases ((decide (en x = en a) && !decide (x = a)) || decide (x = a)) with
    | false => simp [bi]
    | true =>
      rw [if_neg (by simp [bi])]
      by_cases h3 : x < a
      · rw [if_pos (nI_lt h3 (by omega))]; simp [h3, bi]
      · rw [if_neg (nI_nlt (by omega) (by omega))]; simp [h3, bi]
  · rw [if_neg (by decide), if_neg (by decide), if_neg (by decide), if_neg (by decide), if_pos (by decide), s_Mhalf hf hw he hs hx ha, gm_bind_s]
    simp only [chi]
    cases ((decide (en x = en a) && !decide (x = a)) || bt (al (en a)) (en x)) with
    | false => simp [bi]
    | true =>
      rw [if_neg (by simp [bi]), s_Mmeaning hf hw hx, gm_bind_s, s_Mmeaning hf hw ha, gm_bind_s]
      by_cases h3 : m x = m a
      · rw [if_pos h3]; simp [h3, bi]
      · rw [if_neg h3]; simp [h3, bi]
  · rw [if_neg (by decide), if_neg (by decide), if_neg (by decide), if_neg (by decide), if_neg (by decide), s_Mhalf hf hw he hs hx ha, gm_bind_s]
    simp only [chi]
    cases ((decide (en x = en a) && !decide (x = a)) || bt (al (en a)) (en x)) with
    | true => rw [if_neg (by simp [bi])]; simp [fX11_chimes_b131, bi]
    | false =>
      rw [if_pos (by simp [bi]), s_Mmeaning hf hw hx, gm_bind_s]
      by_cases h3 : m x = v
      · rw [if_pos h3]; simp [h3, fX11_chimes_b131, bi]
      · rw [if_neg h3]; simp [h3, bi]
