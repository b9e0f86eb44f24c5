/-! ===== counting bits; rows that change ===== -/
def bc (x0 : Int32) : Int32 :=
  let v1 := x0 - (((Int32.toUInt32 x0 >>> (Int32.toUInt32 1 &&& Int32.toUInt32 31)).toInt32) &&& 1431655765)
  let v2 := (v1 &&& 858993459) + (((Int32.toUInt32 v1 >>> (Int32.toUInt32 2 &&& Int32.toUInt32 31)).toInt32) &&& 858993459)
  let v3 := (v2 + ((Int32.toUInt32 v2 >>> (Int32.toUInt32 4 &&& Int32.toUInt32 31)).toInt32)) &&& 252645135
  let v4 := v3 + ((Int32.toUInt32 v3 >>> (Int32.toUInt32 8 &&& Int32.toUInt32 31)).toInt32)
  let v5 := v4 + ((Int32.toUInt32 v4 >>> (Int32.toUInt32 16 &&& Int32.toUInt32 31)).toInt32)
  v5 &&& 63
theorem s_bitCount {N : Nat} (x : Int32) : fJ6_bitCount_0f7a4 N x = some (bc x) := rfl
def sm (x : Int32) : Nat → Int32
  | 0 => 0
  | n + 1 => sm x n + ((x >>> (nI n &&& 31)) &&& 1)
theorem s_bits {N : Nat} (hN : 11 ≤ N) (x : Int32) : fX11_bits N x = some (sm x 10) := by
  unfold fX11_bits fX11_bits_b4
  refine fx2 (fun d a b => ∃ i, i + d = 10 ∧ b = nI i ∧ a = sm x i) (fun o => o = some (sm x 10)) ?_ N 10 0 0 (by omega) ⟨0, by omega, rfl, rfl⟩
  intro r d a b hI hr
  obtain ⟨i, hi, rfl, rfl⟩ := hI
  unfold fX11_bits_b4_body
  rcases Nat.eq_zero_or_pos d with h0 | h0
  · rw [if_pos (show (10 : Int32) ≤ nI i from nI_le (a := 10) (by omega) (by omega)), show i = 10 by omega]
  · rw [if_neg (show ¬ (10 : Int32) ≤ nI i from nI_ge (b := 10) (by omega) (by omega)), gm_let_s]
    exact hr _ _ (d - 1) (by omega) ⟨i + 1, by omega, nI_1 i, rfl⟩
theorem bc_sm : ∀ v, v < 1024 → bc (nI v) = sm (nI v) 10 := by decide +kernel
theorem bc_sm2 {v w : Nat} (hw : w ≤ 10) (hv : v < 2 ^ w) : bc (nI v) = sm (nI v) 10 := bc_sm v (Nat.lt_of_lt_of_le hv (Nat.pow_le_pow_right (by decide) hw))
theorem nI_2 (a : Nat) : nI a + 2 = nI (a + 2) := nI_add a 2
theorem ix53 (j : Nat) : (53 : Int32) + 2 * nI j = nI (53 + 2 * j) := by
  rw [show (53 : Int32) = nI 53 from rfl, show (2 : Int32) = nI 2 from rfl, pk_mul, nI_add]
theorem ix65 (j : Nat) : (65 : Int32) + nI j = nI (65 + j) := by
  rw [show (65 : Int32) = nI 65 from rfl, nI_add]
theorem nI_m1 {a : Nat} (h : 0 < a) : nI a - 1 = nI (a - 1) := by
  rw [show (1 : Int32) = nI 1 from rfl, pk_sub h]
/-- only what was said, what may be undone, changes -/
theorem RT_su {words people said undos heard : Int32} {e m c al k wt sa hw ha f : Nat → Int32} (hT : RT words people said undos heard e m c al k wt sa hw ha f) {said' undos' : Int32} {sa' f' : Nat → Int32} (hf : ∀ k, k ≠ 2 → k ≠ 4 → (k < 65 ∨ 73 ≤ k) → f' k = f k) (h2 : f' 2 = said') (h4 : f' 4 = undos') {u' : Nat} (hu8 : u' ≤ 8) (eu : undos' = nI u') (hsa : ∀ w, words = nI w → w ≤ 10 → (∀ j, j < u' → f' (65 + j) = sa' j ∧ ∃ v, v < 2 ^ w ∧ sa' j = nI v) ∧ ∃ v, v < 2 ^ w ∧ said' = nI v) : RT words people said' undos' heard e m c al k wt sa' hw ha f' := by
  obtain ⟨w, p, u, h, en, mn, cn, kn, wn, hb, hq, hrE, hrP, hr2, hco, hE, hM, hP, hs, hir, hh, hu, hsd⟩ := hT
  have hz := hsa w hq.1 hb.1
  refine ⟨w, p, u', h, en, mn, cn, kn, wn, ⟨hb.1, hb.2.1, hu8, hb.2.2.2⟩, ⟨hq.1, hq.2.1, eu, hq.2.2.2⟩, ⟨?_, fun j hj => ⟨?_, ?_⟩, fun a ha => ?_⟩, ⟨?_, fun j hj => ⟨?_, ?_⟩⟩, ⟨h2, ?_, h4⟩, fun j hj => ⟨?_, (hco j hj).2⟩, hE, hM, hP, hs, hir, fun j hj => ⟨?_, ?_, (hh j hj).2.2⟩, hz.1, hz.2⟩
  · rw [hf 0 (by omega) (by omega) (by omega)]; exact hrE.1
  · rw [hf _ (by omega) (by omega) (by omega)]; exact (hrE.2.1 j hj).1
  · rw [hf _ (by omega) (by omega) (by omega)]; exact (hrE.2.1 j hj).2
  · rw [hf _ (by omega) (by omega) (by omega)]; exact hrE.2.2 a ha
  · rw [hf 1 (by omega) (by omega) (by omega)]; exact hrP.1
  · rw [hf _ (by omega) (by omega) (by omega)]; exact (hrP.2 j hj).1
  · rw [hf _ (by omega) (by omega) (by omega)]; exact (hrP.2 j hj).2
  · rw [hf 3 (by omega) (by omega) (by omega)]; exact hr2.2.1
  · rw [hf _ (by omega) (by omega) (by omega)]; exact (hco j hj).1
  · rw [hf _ (by omega) (by omega) (by omega)]; exact (hh j hj).1
  · rw [hf _ (by omega) (by omega) (by omega)]; exact (hh j hj).2.1
/-- zeroes -/
theorem s_empty {N : Nat} (hN : 11 ≤ N) (a b c d g : Int32) (al : Nat → Int32) : ∃ al', fX9_empty N a b c d g al = some (0, 0, 0, 0, 0, al') ∧ ∀ k, k < 8 → al' k = 0 := by
  unfold fX9_empty fX9_empty_b27
  refine fx2 (fun d (a : Nat → Int32) (b : Int32) => ∃ i, i + d = 8 ∧ b = nI i ∧ ∀ k, k < i → a k = 0) (fun (o : Option (Int32 × Int32 × Int32 × Int32 × Int32 × (Nat → Int32))) => ∃ al', o = some (0, 0, 0, 0, 0, al') ∧ ∀ k, k < 8 → al' k = 0) ?_ N 8 al 0 (by omega) ⟨0, by omega, rfl, fun k hk => absurd hk (Nat.not_lt_zero k)⟩
  intro r d a b hI hr
  obtain ⟨i, hi, rfl, hz⟩ := hI
  unfold fX9_empty_b27_body
  rcases Nat.eq_zero_or_pos d with h0 | h0
  · rw [if_pos (show (8 : Int32) ≤ nI i from nI_le (a := 8) (by omega) (by omega))]
    exact ⟨a, rfl, fun k hk => hz k (by omega)⟩
  · rw [if_neg (show ¬ (8 : Int32) ≤ nI i from nI_ge (b := 8) (by omega) (by omega)), gm_chk_n (by omega) (by decide), cl_n (by omega)]
    refine hr _ _ (d - 1) (by omega) ⟨i + 1, by omega, nI_1 i, fun k hk => ?_⟩
    by_cases hki : k = i
    · subst hki; exact upd_s
    · rw [upd_n hki]; exact hz k (by omega)
theorem s_Mtongue {N : Nat} (hN : 74 ≤ N) (t : Int32) (f : Nat → Int32) : ∃ f', fX11_tongue N t f = some (f 0, 0, f') ∧ ∀ k, k < 73 → f' k = 0 := by
  unfold fX11_tongue fX11_tongue_b14
  rw [ck0 (by decide), gm_let_s, cl0]
  refine fx2 (fun d (a : Nat → Int32) (b : Int32) => ∃ i, i + d = 73 ∧ b = nI i ∧ ∀ k, k < i → a k = 0) (fun (o : Option (Int32 × Int32 × (Nat → Int32))) => ∃ f', o = some (f 0, 0, f') ∧ ∀ k, k < 73 → f' k = 0) ?_ N 73 f 0 (by omega) ⟨0, by omega, rfl, fun k hk => absurd hk (Nat.not_lt_zero k)⟩
  intro r d a b hI hr
  obtain ⟨i, hi, rfl, hz⟩ := hI
  unfold fX11_tongue_b14_body
  rcases Nat.eq_zero_or_pos d with h0 | h0
  · rw [if_pos (show (73 : Int32) ≤ nI i from nI_le (a := 73) (by omega) (by omega))]
    exact ⟨a, rfl, fun k hk => hz k (by omega)⟩
  · rw [if_neg (show ¬ (73 : Int32) ≤ nI i from nI_ge (b := 73) (by omega) (by omega)), gm_chk_n (by omega) (by decide), cl_n (by omega)]
    refine hr _ _ (d - 1) (by omega) ⟨i + 1, by omega, nI_1 i, fun k hk => ?_⟩
    by_cases hki : k = i
    · subst hki; exact upd_s
    · rw [upd_n hki]; exact hz k (by omega)
/-- an empty tongue and a row of zeroes -/
theorem RT_0 {e m c al k wt sa hw ha f : Nat → Int32} (hal : ∀ a, a < 8 → al a = 0) (hf : ∀ j, j < 73 → f j = 0) : RT 0 0 0 0 0 e m c al k wt sa hw ha f := by
  refine ⟨0, 0, 0, 0, fun _ => 0, fun _ => 0, fun _ => 0, fun _ => 0, fun _ => 0, ⟨by omega, by omega, by omega, by omega⟩, ⟨rfl, rfl, rfl, rfl⟩, ⟨hf 0 (by omega), fun j hj => absurd hj (Nat.not_lt_zero j), fun a ha => by rw [hf _ (by omega), hal a ha]⟩, ⟨hf 1 (by omega), fun j hj => absurd hj (Nat.not_lt_zero j)⟩, ⟨hf 2 (by omega), hf 3 (by omega), hf 4 (by omega)⟩, fun j hj => absurd hj (Nat.not_lt_zero j), fun j hj => absurd hj (Nat.not_lt_zero j), fun j hj => absurd hj (Nat.not_lt_zero j), fun j hj => absurd hj (Nat.not_lt_zero j), fun a b ha hb => by rw [hal a ha, hal b hb, b_0, b_0], fun a ha => ⟨by rw [hal a ha, b_0], fun i _ => by rw [hal a ha, b_0]⟩, fun j hj => absurd hj (Nat.not_lt_zero j), fun j hj => absurd hj (Nat.not_lt_zero j), 0, by decide, rfl⟩
/-- a word more in the model's row -/
theorem s_MaddWord {N w : Nat} {f : Nat → Int32} (hf : f 0 = nI w) (hw : w < 10) (a b c : Int32) : fX11_addWord N f a b c = some (upd (upd (upd (upd f (5 + 3 * w) a) (5 + 3 * w + 1) b) (5 + 3 * w + 2) c) 0 (nI (w + 1))) := by
  unfold fX11_addWord
  simp (disch := omega) only [gm_let_s, ck0, cl0, hf, ix3, nI_1, nI_2, gm_chk_n, cl_n, upd_n]
theorem s_MaddPerson {N p : Nat} {f : Nat → Int32} (hf : f 1 = nI p) (hp : p < 5) (a b : Int32) : fX11_addPerson N f a b = some (upd (upd (upd f (35 + 2 * p) a) (35 + 2 * p + 1) b) 1 (nI (p + 1))) := by
  unfold fX11_addPerson
  simp (disch := omega) only [gm_let_s, ck1, cl1, hf, ix2, nI_1, gm_chk_n, cl_n, upd_n]
theorem s_addWord {N w : Nat} (hw : w < 10) (u : Int32) (e m c : Nat → Int32) (a b d : Int32) : fX9_addWord N (nI w) u e m c a b d = some (nI w, nI (w + 1), 0, upd e w a, upd m w b, upd c w d) := by
  unfold fX9_addWord
  rw [if_pos (show nI w < 10 from nI_lt (b := 10) hw (by decide))]
  simp (disch := omega) only [gm_let_s, nI_1, gm_chk_n, cl_n]
theorem s_addPerson {N p : Nat} (hp : p < 5) (k wt : Nat → Int32) (a b : Int32) : fX9_addPerson N (nI p) k wt a b = some (nI p, nI (p + 1), upd k p a, upd wt p b) := by
  unfold fX9_addPerson
  rw [if_pos (show nI p < 5 from nI_lt (b := 5) hp (by decide))]
  simp (disch := omega) only [gm_let_s, nI_1, gm_chk_n, cl_n]
theorem s_addHeard {N h : Nat} (hh : h < 6) (a b : Nat → Int32) (x y : Int32) : fX9_addHeard N (nI h) a b x y = some (nI (h + 1), nI (h + 1), upd a h x, upd b h y) := by
  unfold fX9_addHeard
  rw [if_pos (show nI h < 6 from nI_lt (b := 6) hh (by decide))]
  simp (disch := omega) only [gm_let_s, nI_1, gm_chk_n, cl_n]
