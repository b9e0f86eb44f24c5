/-! ===== sets of words and meanings on both sides ===== -/
/-- persons: kinds and wants -/
def okP (p : Nat) (kd wt : Nat → Int32) (kn wn : Nat → Nat) : Prop := ∀ j, j < p → kn j < 6 ∧ kd j = nI (kn j) ∧ wn j < 8 ∧ wt j = nI (wn j)
def rowP (p : Nat) (f kd wt : Nat → Int32) : Prop := f 1 = nI p ∧ ∀ j, j < p → f (35 + 2 * j) = kd j ∧ f (35 + 2 * j + 1) = wt j
theorem cl0 : Int32.toNatClampNeg 0 = 0 := by decide
theorem cl1 : Int32.toNatClampNeg 1 = 1 := by decide
theorem cl2 : Int32.toNatClampNeg 2 = 2 := by decide
theorem cl3 : Int32.toNatClampNeg 3 = 3 := by decide
theorem cl4 : Int32.toNatClampNeg 4 = 4 := by decide
theorem ck0 {α : Type} {n : Nat} {k : Option α} (h : 0 < n) : gm_chk 0 n k = k := gm_chk_ok (by unfold vp_in; rw [cl0]; intro q; rcases q with q | q; exact absurd q (by decide); omega)
theorem ck1 {α : Type} {n : Nat} {k : Option α} (h : 1 < n) : gm_chk 1 n k = k := gm_chk_ok (by unfold vp_in; rw [cl1]; intro q; rcases q with q | q; exact absurd q (by decide); omega)
theorem ck2 {α : Type} {n : Nat} {k : Option α} (h : 2 < n) : gm_chk 2 n k = k := gm_chk_ok (by unfold vp_in; rw [cl2]; intro q; rcases q with q | q; exact absurd q (by decide); omega)
theorem ck3 {α : Type} {n : Nat} {k : Option α} (h : 3 < n) : gm_chk 3 n k = k := gm_chk_ok (by unfold vp_in; rw [cl3]; intro q; rcases q with q | q; exact absurd q (by decide); omega)
theorem ck4 {α : Type} {n : Nat} {k : Option α} (h : 4 < n) : gm_chk 4 n k = k := gm_chk_ok (by unfold vp_in; rw [cl4]; intro q; rcases q with q | q; exact absurd q (by decide); omega)
theorem s_Mkind {N p j : Nat} {f kd wt : Nat → Int32} (hf : rowP p f kd wt) (hp : p ≤ 5) (hj : j < p) : fX11_kind N f (nI j) = some (kd j) := by
  unfold fX11_kind
  rw [ix2, gm_chk_n (by omega) (by decide), cl_n (by omega), (hf.2 j hj).1]
theorem s_Mwant {N p j : Nat} {f kd wt : Nat → Int32} (hf : rowP p f kd wt) (hp : p ≤ 5) (hj : j < p) : fX11_want N f (nI j) = some (wt j) := by
  unfold fX11_want
  rw [ix2, nI_1, gm_chk_n (by omega) (by decide), cl_n (by omega), (hf.2 j hj).2]
theorem or_0 (x : Int32) : x ||| 0 = x := b_ext (fun i _ => by rw [b_or, b_0]; simp)
theorem s_MchimesWith {N w p j a : Nat} {f e m al kd wt : Nat → Int32} {en kn wn : Nat → Nat} (hN : 11 ≤ N) (hf : rowE w f e m al) (hg : rowP p f kd wt) (hw : w ≤ 10) (hp : p ≤ 5) (he : okE w e en) (hk : okP p kd wt kn wn) (hs : symA al) (hj : j < p) (ha : a < w) : fX11_chimesWith N f (nI j) (nI a) = some (bs (chi (kn j) (wt j) en m al a) w) := by
  unfold fX11_chimesWith fX11_chimesWith_b5
  refine fx2 (fun d x y => ∃ i, i + d = w ∧ y = nI i ∧ x = bs (chi (kn j) (wt j) en m al a) i) (fun o => o = some (bs (chi (kn j) (wt j) en m al a) w)) ?_ N w 0 0 (by omega) ⟨0, by omega, rfl, rfl⟩
  intro r d x y hI hr
  obtain ⟨i, hi, rfl, rfl⟩ := hI
  unfold fX11_chimesWith_b5_body fX11_chimesWith_b45
  rw [ck0 (by decide), cl0, hf.1]
  rcases Nat.eq_zero_or_pos d with h0 | h0
  · rw [hd_end (by omega) (by omega), show i = w by omega]
  · have hiw : i < w := by omega
    rw [hd_go hiw (by omega), s_Mkind hg hp hj, gm_bind_s, s_Mwant hg hp hj, gm_bind_s, (hk j hj).2.1, s_Mchimes hf hw he hs hiw ha (hk j hj).1, gm_bind_s]
    cases hc : chi (kn j) (wt j) en m al a i with
    | false =>
      rw [if_pos (by simp [bi]), gm_let_s]
      refine hr _ _ (d - 1) (by omega) ⟨i + 1, by omega, nI_1 i, ?_⟩
      rw [bs, hc, if_neg (by decide)]
    | true =>
      rw [if_neg (by simp [bi]), gm_let_s]
      refine hr _ _ (d - 1) (by omega) ⟨i + 1, by omega, nI_1 i, ?_⟩
      rw [bs, hc, if_pos rfl]
/-- meanings of a set of words -/
def ms (m : Nat → Nat) (b : Nat → Bool) : Nat → Int32
  | 0 => 0
  | n + 1 => ms m b n ||| (if b n then (1 : Int32) <<< (nI (m n) &&& 31) else 0)
def okM (w : Nat) (m : Nat → Int32) (mn : Nat → Nat) : Prop := ∀ j, j < w → mn j < 8 ∧ m j = nI (mn j)
theorem s_meaningsOf {N w : Nat} {m : Nat → Int32} {mn : Nat → Nat} (hN : 11 ≤ N) (hw : w ≤ 10) (hm : okM w m mn) (x : Int32) : fX9_meaningsOf N (nI w) m x = some (ms mn (bt x) w) := by
  unfold fX9_meaningsOf fX9_meaningsOf_b4
  refine fx2 (fun d a b => ∃ i, i + d = w ∧ b = nI i ∧ a = ms mn (bt x) i) (fun o => o = some (ms mn (bt x) w)) ?_ N w 0 0 (by omega) ⟨0, by omega, rfl, rfl⟩
  intro r d a b hI hr
  obtain ⟨i, hi, rfl, rfl⟩ := hI
  unfold fX9_meaningsOf_b4_body fX9_meaningsOf_b32
  rcases Nat.eq_zero_or_pos d with h0 | h0
  · rw [hd_end (by omega) (by omega), show i = w by omega]
  · have hiw : i < w := by omega
    rw [hd_go hiw (by omega), b_get x i (by omega)]
    cases hb : bt x i with
    | false =>
      rw [if_neg (by decide)]
      refine hr _ _ (d - 1) (by omega) ⟨i + 1, by omega, nI_1 i, ?_⟩
      rw [ms, hb, if_neg (by decide), or_0]
    | true =>
      rw [if_pos (by decide), gm_chk_n (by omega) (by decide), gm_let_s, cl_n (by omega), (hm i hiw).2]
      refine hr _ _ (d - 1) (by omega) ⟨i + 1, by omega, nI_1 i, ?_⟩
      rw [ms, hb, if_pos rfl]
theorem s_MmeaningsOf {N w : Nat} {f e m al : Nat → Int32} {mn : Nat → Nat} (hN : 11 ≤ N) (hf : rowE w f e m al) (hw : w ≤ 10) (hm : okM w m mn) (x : Int32) : fX11_meaningsOf N f x = some (ms mn (bt x) w) := by
  unfold fX11_meaningsOf fX11_meaningsOf_b4
  refine fx2 (fun d a b => ∃ i, i + d = w ∧ b = nI i ∧ a = ms mn (bt x) i) (fun o => o = some (ms mn (bt x) w)) ?_ N w 0 0 (by omega) ⟨0, by omega, rfl, rfl⟩
  intro r d a b hI hr
  obtain ⟨i, hi, rfl, rfl⟩ := hI
  unfold fX11_meaningsOf_b4_body fX11_meaningsOf_b34
  rw [ck0 (by decide), cl0, hf.1]
  rcases Nat.eq_zero_or_pos d with h0 | h0
  · rw [hd_end (by omega) (by omega), show i = w by omega]
  · have hiw : i < w := by omega
    rw [hd_go hiw (by omega), s_Mhas x (by omega), gm_bind_s]
    cases hb : bt x i with
    | false =>
      rw [if_pos (by simp [bi]), gm_let_s]
      refine hr _ _ (d - 1) (by omega) ⟨i + 1, by omega, nI_1 i, ?_⟩
      rw [ms, hb, if_neg (by decide)]
    | true =>
      rw [if_neg (by simp [bi]), s_Mmeaning hf hw hiw, gm_bind_s, gm_let_s, (hm i hiw).2]
      refine hr _ _ (d - 1) (by omega) ⟨i + 1, by omega, nI_1 i, ?_⟩
      rw [ms, hb, if_pos rfl]
/-- the answers of person j to word a -/
def ans (k : Nat) (v : Int32) (en : Nat → Nat) (m al : Nat → Int32) (w : Nat) (sd : Int32) (a : Nat) : Int32 := bs (chi k v en m al a) w &&& (sd ^^^ (-1))
theorem s_answerBits {N w p j a : Nat} {sd : Int32} {e m al kd wt : Nat → Int32} {en kn wn : Nat → Nat} (hN : 11 ≤ N) (hw : w ≤ 10) (hp : p ≤ 5) (he : okE w e en) (hk : okP p kd wt kn wn) (hj : j < p) (ha : a < w) : fX10_answerBits N (nI w) sd e m al kd wt (nI j) (nI a) = some (ans (kn j) (wt j) en m al w sd a) := by
  unfold fX10_answerBits
  rw [gm_chk_n (by omega) (by decide), cl_n (by omega), (hk j hj).2.1, gm_chk_n (hk j hj).1 (by decide), gm_chk_n (by omega) (by decide), s_KD hN hw he ha (hk j hj).1, gm_bind_s]
  rfl
theorem s_MansTo {N w p j a : Nat} {sd : Int32} {f e m al kd wt : Nat → Int32} {en kn wn : Nat → Nat} (hN : 11 ≤ N) (hf : rowE w f e m al) (hg : rowP p f kd wt) (hsd : f 2 = sd) (hw : w ≤ 10) (hp : p ≤ 5) (he : okE w e en) (hk : okP p kd wt kn wn) (hs : symA al) (hj : j < p) (ha : a < w) : fX11_answersTo N f (nI j) (nI a) = some (ans (kn j) (wt j) en m al w sd a) := by
  unfold fX11_answersTo
  rw [s_MchimesWith hN hf hg hw hp he hk hs hj ha, gm_bind_s, ck2 (by decide), cl2, hsd]
  rfl
theorem s_sayable {N w p j a : Nat} {sd : Int32} {e m al kd wt : Nat → Int32} {en mn kn wn : Nat → Nat} (hN : 11 ≤ N) (hw : w ≤ 10) (hp : p ≤ 5) (he : okE w e en) (hm : okM w m mn) (hk : okP p kd wt kn wn) (hj : j < p) (ha : a < w) : fX10_sayableBits N (nI w) sd e m al kd wt (nI j) (nI a) = some (ms mn (bt (ans (kn j) (wt j) en m al w sd a)) w) := by
  unfold fX10_sayableBits
  rw [s_answerBits hN hw hp he hk hj ha, gm_bind_s, s_meaningsOf hN hw hm, gm_bind_s]
theorem s_McanSay {N w p j a : Nat} {sd : Int32} {f e m al kd wt : Nat → Int32} {en mn kn wn : Nat → Nat} (hN : 11 ≤ N) (hf : rowE w f e m al) (hg : rowP p f kd wt) (hsd : f 2 = sd) (hw : w ≤ 10) (hp : p ≤ 5) (he : okE w e en) (hm : okM w m mn) (hk : okP p kd wt kn wn) (hs : symA al) (hj : j < p) (ha : a < w) : fX11_canSay N f (nI j) (nI a) = some (ms mn (bt (ans (kn j) (wt j) en m al w sd a)) w) := by
  unfold fX11_canSay
  rw [s_MansTo hN hf hg hsd hw hp he hk hs hj ha, gm_bind_s, s_MmeaningsOf hN hf hw hm, gm_bind_s]
