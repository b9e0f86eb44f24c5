/-! ===== copies, small sets ===== -/
theorem bt_nI {v i : Nat} (hi : i < 32) : bt (nI v) i = v.testBit i := by
  unfold bt nI
  show (BitVec.ofNat 32 v).getLsbD i = v.testBit i
  rw [BitVec.getLsbD_ofNat]
  simp [hi]
theorem nI_bits (x : Int32) : x = nI x.toBitVec.toNat := by
  apply Int32.toBitVec_inj.mp
  show x.toBitVec = BitVec.ofNat 32 x.toBitVec.toNat
  simp
theorem small_w {x : Int32} {w : Nat} (h : ∀ i, w ≤ i → i < 32 → bt x i = false) : ∃ v, v < 2 ^ w ∧ x = nI v := by
  refine ⟨x.toBitVec.toNat, ?_, nI_bits x⟩
  apply Nat.lt_pow_two_of_testBit
  intro i hi
  rcases Nat.lt_or_ge i 32 with q | q
  · exact h i hi q
  · exact BitVec.getLsbD_of_ge x.toBitVec i q
theorem hi_w {v w : Nat} (hv : v < 2 ^ w) {i : Nat} (hi : w ≤ i) (h3 : i < 32) : bt (nI v) i = false := by
  rw [bt_nI h3]
  exact Nat.testBit_lt_two_pow (Nat.lt_of_lt_of_le hv (Nat.pow_le_pow_right (by decide) hi))
theorem or_w {v w b : Nat} (hw : w ≤ 10) (hv : v < 2 ^ w) (hb : b < w) : ∃ v', v' < 2 ^ w ∧ nI v ||| ((1 : Int32) <<< (nI b &&& 31)) = nI v' := by
  refine small_w (fun i hi h3 => ?_)
  rw [b_or, hi_w hv hi h3, b_one b (by omega) h3]
  simp; omega
theorem ms_bt {mn : Nat → Nat} {b : Nat → Bool} : ∀ {n : Nat}, (∀ j, j < n → mn j < 8) → ∀ i, 8 ≤ i → bt (ms mn b n) i = false
  | 0, _, i, _ => b_0 i
  | n + 1, h, i, hi => by
    rw [ms, b_or, ms_bt (fun j hj => h j (by omega)) i hi]
    rcases Nat.lt_or_ge i 32 with q | q
    · have := h n (by omega)
      cases b n
      · simp [b_0]
      · simp only [if_true]
        rw [b_one (mn n) (by omega) q]
        simp; omega
    · rw [b_big q]; rfl
theorem cpy0 {f g : Nat → Int32} {n k : Nat} (h : k < n) : va_cpy f g 0 0 n k = f k := by
  unfold va_cpy
  rw [if_pos ⟨by omega, by omega⟩]
  congr 1; omega
/-- what a copy keeps -/
theorem RT_cong {words people said undos heard : Int32} {e m c al k wt sa hw ha f e' m' c' al' k' wt' sa' hw' ha' f' : Nat → Int32} (hT : RT words people said undos heard e m c al k wt sa hw ha f) (he : ∀ j, j < 10 → e' j = e j) (hm : ∀ j, j < 10 → m' j = m j) (hc : ∀ j, j < 10 → c' j = c j) (hal : ∀ j, j < 8 → al' j = al j) (hk : ∀ j, j < 5 → k' j = k j) (hwt : ∀ j, j < 5 → wt' j = wt j) (hsa : ∀ j, j < 8 → sa' j = sa j) (hhw : ∀ j, j < 6 → hw' j = hw j) (hha : ∀ j, j < 6 → ha' j = ha j) (hf : ∀ j, j < 73 → f' j = f j) : RT words people said undos heard e' m' c' al' k' wt' sa' hw' ha' f' := by
  obtain ⟨w, p, u, h, en, mn, cn, kn, wn, hb, hq, hrE, hrP, hr2, hco, hE, hM, hP, hs, hir, hh, hu, hsd⟩ := hT
  obtain ⟨b1, b2, b3, b4⟩ := hb
  refine ⟨w, p, u, h, en, mn, cn, kn, wn, ⟨b1, b2, b3, b4⟩, hq, ⟨?_, fun j hj => ⟨?_, ?_⟩, fun a ha => ?_⟩, ⟨?_, fun j hj => ⟨?_, ?_⟩⟩, ⟨?_, ?_, ?_⟩, fun j hj => ⟨?_, (hco j hj).2.1, ?_⟩, fun j hj => ⟨(hE j hj).1, ?_⟩, fun j hj => ⟨(hM j hj).1, ?_⟩, fun j hj => ⟨(hP j hj).1, ?_, (hP j hj).2.2.1, ?_⟩, fun a b ha hb => ?_, fun a ha => ⟨?_, fun i hi => ?_⟩, fun j hj => ⟨?_, ?_, ?_, ?_⟩, fun j hj => ⟨?_, ?_⟩, hsd⟩
  · rw [hf _ (by omega)]; exact hrE.1
  · rw [hf _ (by omega), he _ (by omega)]; exact (hrE.2.1 j hj).1
  · rw [hf _ (by omega), hm _ (by omega)]; exact (hrE.2.1 j hj).2
  · rw [hf _ (by omega), hal _ (by omega)]; exact hrE.2.2 a ha
  · rw [hf _ (by omega)]; exact hrP.1
  · rw [hf _ (by omega), hk _ (by omega)]; exact (hrP.2 j hj).1
  · rw [hf _ (by omega), hwt _ (by omega)]; exact (hrP.2 j hj).2
  · rw [hf _ (by omega)]; exact hr2.1
  · rw [hf _ (by omega)]; exact hr2.2.1
  · rw [hf _ (by omega)]; exact hr2.2.2
  · rw [hf _ (by omega), hc _ (by omega)]; exact (hco j hj).1
  · rw [hc _ (by omega)]; exact (hco j hj).2.2
  · rw [he _ (by omega)]; exact (hE j hj).2
  · rw [hm _ (by omega)]; exact (hM j hj).2
  · rw [hk _ (by omega)]; exact (hP j hj).2.1
  · rw [hwt _ (by omega)]; exact (hP j hj).2.2.2
  · rw [hal _ ha, hal _ hb]; exact hs a b ha hb
  · rw [hal _ ha]; exact (hir a ha).1
  · rw [hal _ ha]; exact (hir a ha).2 i hi
  · rw [hf _ (by omega), hhw _ (by omega)]; exact (hh j hj).1
  · rw [hf _ (by omega), hha _ (by omega)]; exact (hh j hj).2.1
  · rw [hhw _ (by omega)]; exact (hh j hj).2.2.1
  · rw [hha _ (by omega)]; exact (hh j hj).2.2.2
  · rw [hf _ (by omega), hsa _ (by omega)]; exact (hu j hj).1
  · rw [hsa _ (by omega)]; exact (hu j hj).2
theorem RT_row {words people said undos heard : Int32} {e m c al k wt sa hw ha f f' : Nat → Int32} (hT : RT words people said undos heard e m c al k wt sa hw ha f) (hf : ∀ j, j < 73 → f' j = f j) : RT words people said undos heard e m c al k wt sa hw ha f' := RT_cong hT (fun _ _ => rfl) (fun _ _ => rfl) (fun _ _ => rfl) (fun _ _ => rfl) (fun _ _ => rfl) (fun _ _ => rfl) (fun _ _ => rfl) (fun _ _ => rfl) (fun _ _ => rfl) hf
theorem RT_cpy {words people said undos heard : Int32} {e m c al k wt sa hw ha f e' m' c' al' k' wt' sa' hw' ha' f' : Nat → Int32} (hT : RT words people said undos heard e m c al k wt sa hw ha f) (hf : ∀ j, j < 73 → f' j = f j) : RT words people said undos heard (va_cpy e e' (0 : Int32).toNatClampNeg (0 : Int32).toNatClampNeg (10 : Int32).toNatClampNeg) (va_cpy m m' (0 : Int32).toNatClampNeg (0 : Int32).toNatClampNeg (10 : Int32).toNatClampNeg) (va_cpy c c' (0 : Int32).toNatClampNeg (0 : Int32).toNatClampNeg (10 : Int32).toNatClampNeg) (va_cpy al al' (0 : Int32).toNatClampNeg (0 : Int32).toNatClampNeg (8 : Int32).toNatClampNeg) (va_cpy k k' (0 : Int32).toNatClampNeg (0 : Int32).toNatClampNeg (5 : Int32).toNatClampNeg) (va_cpy wt wt' (0 : Int32).toNatClampNeg (0 : Int32).toNatClampNeg (5 : Int32).toNatClampNeg) (va_cpy sa sa' (0 : Int32).toNatClampNeg (0 : Int32).toNatClampNeg (8 : Int32).toNatClampNeg) (va_cpy hw hw' (0 : Int32).toNatClampNeg (0 : Int32).toNatClampNeg (6 : Int32).toNatClampNeg) (va_cpy ha ha' (0 : Int32).toNatClampNeg (0 : Int32).toNatClampNeg (6 : Int32).toNatClampNeg) f' :=
  RT_cong hT (fun _ h => cpy0 h) (fun _ h => cpy0 h) (fun _ h => cpy0 h) (fun _ h => cpy0 h) (fun _ h => cpy0 h) (fun _ h => cpy0 h) (fun _ h => cpy0 h) (fun _ h => cpy0 h) (fun _ h => cpy0 h) hf
theorem ix73 (i j : Nat) : (73 : Int32) * nI i + nI j = nI (73 * i + j) := by
  rw [show (73 : Int32) = nI 73 from rfl, pk_mul, nI_add]
/-- the model's copy into an image, out of an image -/
theorem s_Mimage {N i : Nat} (hN : 74 ≤ N) (hi : i < 2) (t : Int32) (rf f k isk : Nat → Int32) : ∃ k', fX11_image_b22 N t rf f isk (nI i) k 0 = some (1, t, rf, k', upd isk i 1) ∧ (∀ j, j < 73 → k' (73 * i + j) = f j) ∧ ∀ j, (j < 73 * i ∨ 73 * i + 73 ≤ j) → k' j = k j := by
  unfold fX11_image_b22
  refine fx2 (fun d (a : Nat → Int32) (b : Int32) => ∃ z, z + d = 73 ∧ b = nI z ∧ (∀ j, j < z → a (73 * i + j) = f j) ∧ ∀ j, (j < 73 * i ∨ 73 * i + 73 ≤ j) → a j = k j) (fun (o : Option (Int32 × Int32 × (Nat → Int32) × (Nat → Int32) × (Nat → Int32))) => ∃ k', o = some (1, t, rf, k', upd isk i 1) ∧ (∀ j, j < 73 → k' (73 * i + j) = f j) ∧ ∀ j, (j < 73 * i ∨ 73 * i + 73 ≤ j) → k' j = k j) ?_ N 73 k 0 (by omega) ⟨0, by omega, rfl, fun j hj => absurd hj (Nat.not_lt_zero j), fun _ _ => rfl⟩
  intro r d a b hI hr
  obtain ⟨z, hz, rfl, h1, h2⟩ := hI
  unfold fX11_image_b22_body fX11_image_b51
  rcases Nat.eq_zero_or_pos d with h0 | h0
  · rw [if_pos (show (73 : Int32) ≤ nI z from nI_le (a := 73) (by omega) (by omega)), gm_chk_n hi (by decide), cl_n (by omega)]
    exact ⟨a, rfl, fun j hj => h1 j (by omega), h2⟩
  · rw [if_neg (show ¬ (73 : Int32) ≤ nI z from nI_ge (b := 73) (by omega) (by omega)), gm_chk_n (by omega) (by decide), ix73, gm_chk_n (by omega) (by decide), cl_n (by omega), cl_n (by omega)]
    refine hr _ _ (d - 1) (by omega) ⟨z + 1, by omega, nI_1 z, fun j hj => ?_, fun j hj => by rw [upd_n (by omega)]; exact h2 j hj⟩
    by_cases hjz : j = z
    · subst hjz; exact upd_s
    · rw [upd_n (by omega)]; exact h1 j (by omega)
theorem s_Mfrom {N i : Nat} (hN : 74 ≤ N) (hi : i < 2) (t : Int32) (rf f k : Nat → Int32) : ∃ f', fX11_from_b36 N t rf k (nI i) f 0 = some (1, t, rf, f') ∧ ∀ j, j < 73 → f' j = k (73 * i + j) := by
  unfold fX11_from_b36
  refine fx2 (fun d (a : Nat → Int32) (b : Int32) => ∃ z, z + d = 73 ∧ b = nI z ∧ (∀ j, j < z → a j = k (73 * i + j))) (fun (o : Option (Int32 × Int32 × (Nat → Int32) × (Nat → Int32))) => ∃ f', o = some (1, t, rf, f') ∧ ∀ j, j < 73 → f' j = k (73 * i + j)) ?_ N 73 f 0 (by omega) ⟨0, by omega, rfl, fun j hj => absurd hj (Nat.not_lt_zero j)⟩
  intro r d a b hI hr
  obtain ⟨z, hz, rfl, h1⟩ := hI
  unfold fX11_from_b36_body
  rcases Nat.eq_zero_or_pos d with h0 | h0
  · rw [if_pos (show (73 : Int32) ≤ nI z from nI_le (a := 73) (by omega) (by omega))]
    exact ⟨a, rfl, fun j hj => h1 j (by omega)⟩
  · rw [if_neg (show ¬ (73 : Int32) ≤ nI z from nI_ge (b := 73) (by omega) (by omega)), ix73, gm_chk_n (by omega) (by decide), gm_chk_n (by omega) (by decide), cl_n (by omega), cl_n (by omega)]
    refine hr _ _ (d - 1) (by omega) ⟨z + 1, by omega, nI_1 z, fun j hj => ?_⟩
    by_cases hjz : j = z
    · subst hjz; exact upd_s
    · rw [upd_n (by omega)]; exact h1 j (by omega)
theorem bit2 (b0 b1 : Bool) : (bs (fun i => if i = 0 then b0 else b1) 2 >>> (nI 0 &&& 31) &&& 1 = bi b0) ∧ (bs (fun i => if i = 0 then b0 else b1) 2 >>> (nI 1 &&& 31) &&& 1 = bi b1) ∧ (bs (fun i => if i = 0 then b0 else b1) 2 ||| ((1 : Int32) <<< (nI 0 &&& 31)) = bs (fun i => if i = 0 then true else b1) 2) ∧ (bs (fun i => if i = 0 then b0 else b1) 2 ||| ((1 : Int32) <<< (nI 1 &&& 31)) = bs (fun i => if i = 0 then b0 else true) 2) := by
  revert b0 b1; decide +kernel
theorem nI_nm1 {b : Nat} (h : b < 2 ^ 31) : ¬ nI b = -1 := fun q => by
  have h1 := congrArg Int32.toInt q
  rw [nI_toInt h, show (-1 : Int32).toInt = -1 by decide] at h1
  omega
/-! worst -/
def wr (c : Nat → Int32) : Nat → Int32 × Int32
  | 0 => (-1, 9)
  | i + 1 => if (wr c i).2 ≤ c i then wr c i else (nI i, c i)
theorem bc_8 : ∀ v, v < 256 → bc (nI v) < 9 := by decide +kernel
theorem wr_p {c : Nat → Int32} (hc : ∀ i, c i < 9) : ∀ i, (i = 0 ∧ wr c i = (-1, 9)) ∨ (∃ b, b < i ∧ wr c i = (nI b, c b))
  | 0 => Or.inl ⟨rfl, rfl⟩
  | i + 1 => by
    right
    rw [wr]
    by_cases q : (wr c i).2 ≤ c i
    · rw [if_pos q]
      rcases wr_p hc i with ⟨h0, h1⟩ | ⟨b, hb, h1⟩
      · rw [h1] at q
        exact absurd q (Int32.not_le.mpr (hc i))
      · exact ⟨b, by omega, h1⟩
    · rw [if_neg q]; exact ⟨i, by omega, rfl⟩
theorem s_worstL {N w p j : Nat} {b n fl sd : Int32} {e m al kd wt : Nat → Int32} {en mn kn wn : Nat → Nat} (hN : 11 ≤ N) (hw : w ≤ 10) (hp : p ≤ 5) (he : okE w e en) (hm : okM w m mn) (hk : okP p kd wt kn wn) (hj : j < p) : fX10_worst_b23 N b n fl (nI w) sd e m al kd wt (nI j) (-1) 9 0 = some ((wr (fun i => bc (ms mn (bt (ans (kn j) (wt j) en m al w sd i)) w)) w).1, b, n, fl) := by
  unfold fX10_worst_b23
  refine fx3 (fun d x y z => ∃ i, i + d = w ∧ z = nI i ∧ (x, y) = wr (fun i => bc (ms mn (bt (ans (kn j) (wt j) en m al w sd i)) w)) i) (fun o => o = some ((wr (fun i => bc (ms mn (bt (ans (kn j) (wt j) en m al w sd i)) w)) w).1, b, n, fl)) ?_ N w (-1) 9 0 (by omega) ⟨0, by omega, rfl, rfl⟩
  intro r d x y z hI hr
  obtain ⟨i, hi, rfl, hx⟩ := hI
  unfold fX10_worst_b23_body fX10_worst_b59
  rcases Nat.eq_zero_or_pos d with h0 | h0
  · obtain rfl : i = w := by omega
    rw [hd_end (by omega) (by omega), ← hx]
  · have hiw : i < w := by omega
    rw [hd_go hiw (by omega), s_sayable hN hw hp he hm hk hj hiw, gm_bind_s, s_bitCount, gm_bind_s]
    have hx2 : y = (wr (fun i => bc (ms mn (bt (ans (kn j) (wt j) en m al w sd i)) w)) i).2 := by rw [← hx]
    by_cases q : y ≤ bc (ms mn (bt (ans (kn j) (wt j) en m al w sd i)) w)
    · rw [if_pos q]
      refine hr _ _ _ (d - 1) (by omega) ⟨i + 1, by omega, nI_1 i, ?_⟩
      rw [wr, if_pos (by rw [← hx2]; exact q)]; exact hx
    · rw [if_neg q]
      refine hr _ _ _ (d - 1) (by omega) ⟨i + 1, by omega, nI_1 i, ?_⟩
      rw [wr, if_neg (by rw [← hx2]; exact q)]
theorem s_MworstL {N w p j : Nat} {t sd : Int32} {rf f e m al kd wt : Nat → Int32} {en mn kn wn : Nat → Nat} (hN : 11 ≤ N) (hf : rowE w f e m al) (hg : rowP p f kd wt) (hsd : f 2 = sd) (hw : w ≤ 10) (hp : p ≤ 5) (he : okE w e en) (hm : okM w m mn) (hk : okP p kd wt kn wn) (hs : symA al) (hj : j < p) : fX11_worst_b22 N t rf f (nI j) (-1) 0 = some ((wr (fun i => bc (ms mn (bt (ans (kn j) (wt j) en m al w sd i)) w)) w).1, t, rf) := by
  have h8 : ∀ i, ∀ q, 8 ≤ q → bt (ms mn (bt (ans (kn j) (wt j) en m al w sd i)) w) q = false := fun i q hq => ms_bt (fun k hk => (hm k hk).1) q hq
  have hc : ∀ i, (fun i => bc (ms mn (bt (ans (kn j) (wt j) en m al w sd i)) w)) i < 9 := fun i => by
    obtain ⟨v, hv, ev⟩ := small8 (h8 i)
    show bc (ms mn (bt (ans (kn j) (wt j) en m al w sd i)) w) < 9
    rw [ev]; exact bc_8 v hv
  unfold fX11_worst_b22
  refine fx2 (fun d x z => ∃ i, i + d = w ∧ z = nI i ∧ x = (wr (fun i => bc (ms mn (bt (ans (kn j) (wt j) en m al w sd i)) w)) i).1) (fun o => o = some ((wr (fun i => bc (ms mn (bt (ans (kn j) (wt j) en m al w sd i)) w)) w).1, t, rf)) ?_ N w (-1) 0 (by omega) ⟨0, by omega, rfl, rfl⟩
  intro r d x z hI hr
  obtain ⟨i, hi, rfl, hx⟩ := hI
  unfold fX11_worst_b22_body fX11_worst_b58 fX11_worst_b63
  rw [ck0 (by decide), cl0, hf.1]
  rcases Nat.eq_zero_or_pos d with h0 | h0
  · rw [hd_end (by omega) (by omega), hx, show i = w by omega]
  · have hiw : i < w := by omega
    rw [hd_go hiw (by omega)]
    rcases wr_p hc i with ⟨q0, q1⟩ | ⟨b, hb, q1⟩
    · rw [hx, q1, if_pos rfl]
      refine hr _ _ (d - 1) (by omega) ⟨i + 1, by omega, nI_1 i, ?_⟩
      rw [wr, q1, if_neg (Int32.not_le.mpr (hc i))]
    · rw [hx, q1]
      show (if nI b = -1 then _ else _) = _
      rw [if_neg (nI_nm1 (by omega)), s_McanSay hN hf hg hsd hw hp he hm hk hs hj hiw, gm_bind_s, s_bits hN, gm_bind_s, s_McanSay hN hf hg hsd hw hp he hm hk hs hj (show b < w by omega), gm_bind_s, s_bits hN, gm_bind_s, ← bc_sm8 (h8 i), ← bc_sm8 (h8 b)]
      by_cases q : bc (ms mn (bt (ans (kn j) (wt j) en m al w sd b)) w) ≤ bc (ms mn (bt (ans (kn j) (wt j) en m al w sd i)) w)
      · rw [if_pos q]
        refine hr _ _ (d - 1) (by omega) ⟨i + 1, by omega, nI_1 i, ?_⟩
        rw [wr, q1, if_pos q]
      · rw [if_neg q]
        refine hr _ _ (d - 1) (by omega) ⟨i + 1, by omega, nI_1 i, ?_⟩
        rw [wr, q1, if_neg q]
/-! fractions -/
def sfr : Nat → Int64 → Int64 → Int64 × Int64
  | 0, a, b => (a, b)
  | d + 1, a, b => if (lg_cmp (a - a / (Int32.toInt64 (nI (d + 2))) * (Int32.toInt64 (nI (d + 2)))) 0) = 0 then (if (lg_cmp (b - b / (Int32.toInt64 (nI (d + 2))) * (Int32.toInt64 (nI (d + 2)))) 0) = 0 then sfr d (a / (Int32.toInt64 (nI (d + 2)))) (b / (Int32.toInt64 (nI (d + 2)))) else sfr d a b) else sfr d a b
theorem nzl_s : ∀ d, d < 10 → Int32.toInt64 (nI (d + 1)) ≠ 0 := by decide +kernel
theorem nI_m (d : Nat) : nI (d + 1) + (-1) = nI d := by
  rw [← nI_1 d, Int32.add_assoc, show (1 : Int32) + (-1) = 0 by decide, Int32.add_zero]
theorem s_frac {N : Nat} (hN : 11 ≤ N) (a b : Int64) (x : Int32) : fX10_setFraction N a b x = some (sfr 9 (Int32.toInt64 x) 10) := by
  unfold fX10_setFraction fX10_setFraction_b16
  rw [gm_let_s]
  refine fx3 (fun d p q z => d ≤ 9 ∧ z = nI (d + 1) ∧ sfr d p q = sfr 9 (Int32.toInt64 x) 10) (fun o => o = some (sfr 9 (Int32.toInt64 x) 10)) ?_ N 9 _ 10 10 (by omega) ⟨by omega, rfl, rfl⟩
  intro r d p q z hI hr
  obtain ⟨hd, rfl, hx⟩ := hI
  unfold fX10_setFraction_b16_body fX10_setFraction_b67
  rcases Nat.eq_zero_or_pos d with h0 | h0
  · subst h0
    rw [if_pos (by decide), ← hx]; rfl
  · obtain ⟨d, rfl⟩ : ∃ k, d = k + 1 := ⟨d - 1, by omega⟩
    have nz : ∀ {β : Type} (k : Option β), gm_nzL (Int32.toInt64 (nI (d + 1 + 1))) k = k := fun k => gm_nzL_ok (nzl_s (d + 1) (by omega))
    rw [if_neg (show ¬ nI (d + 1 + 1) ≤ 1 from nI_ge (a := 1) (b := d + 1 + 1) (by omega) (by omega))]
    simp only [nz, gm_let_s]
    rw [sfr] at hx
    by_cases q1 : (lg_cmp (p - p / (Int32.toInt64 (nI (d + 2))) * (Int32.toInt64 (nI (d + 2)))) 0) = 0
    · rw [if_pos q1] at hx ⊢
      by_cases q2 : (lg_cmp (q - q / (Int32.toInt64 (nI (d + 2))) * (Int32.toInt64 (nI (d + 2)))) 0) = 0
      · rw [if_pos q2] at hx ⊢
        exact hr _ _ _ d (by omega) ⟨by omega, nI_m (d + 1), hx⟩
      · rw [if_neg q2] at hx ⊢
        exact hr _ _ _ d (by omega) ⟨by omega, nI_m (d + 1), hx⟩
    · rw [if_neg q1] at hx ⊢
      exact hr _ _ _ d (by omega) ⟨by omega, nI_m (d + 1), hx⟩
def byf (x : Int32) : Int32 := if (x - x / 10 * 10) = 0 then 10 else if (x - x / 5 * 5) = 0 then 5 else if (x - x / 2 * 2) = 0 then 2 else 1
theorem s_by : ∀ n, n < 11 → sfr 9 (Int32.toInt64 (nI n)) 10 = (Int32.toInt64 (nI n / byf (nI n)), Int32.toInt64 (10 / byf (nI n))) := by decide +kernel
theorem s_Mby {N : Nat} (t : Int32) (a b : Int64) (rf : Nat → Int32) (k0 k1 : Int32) : fX11_misheard_b109 N t a b rf k0 k1 = some (1, t, Int32.toInt64 ((k0 + k1) / byf (k0 + k1)), Int32.toInt64 (10 / byf (k0 + k1)), rf) := by
  unfold fX11_misheard_b109 fX11_misheard_b148 byf
  have n10 : ∀ {β : Type} (k : Option β), gm_nz 10 k = k := fun k => gm_nz_ok (by decide)
  have n5 : ∀ {β : Type} (k : Option β), gm_nz 5 k = k := fun k => gm_nz_ok (by decide)
  have n2 : ∀ {β : Type} (k : Option β), gm_nz 2 k = k := fun k => gm_nz_ok (by decide)
  have n1 : ∀ {β : Type} (k : Option β), gm_nz 1 k = k := fun k => gm_nz_ok (by decide)
  simp only [gm_let_s, n10, n5, n2, n1]
  by_cases q1 : (k0 + k1 - (k0 + k1) / 10 * 10) = 0
  · rw [if_pos q1, if_pos q1]
  · rw [if_neg q1, if_neg q1]
    by_cases q2 : (k0 + k1 - (k0 + k1) / 5 * 5) = 0
    · rw [if_pos q2, if_pos q2]
    · rw [if_neg q2, if_neg q2]
      by_cases q3 : (k0 + k1 - (k0 + k1) / 2 * 2) = 0
      · rw [if_pos q3, if_pos q3]
      · rw [if_neg q3, if_neg q3]
theorem tenths : ∀ k, k < 11 → ∀ t s : Bool, ((10 - nI k) * (if t then 1 else 0) + nI k * (if s then 1 else 0) = nI ((if t then 10 - k else 0) + (if s then k else 0))) ∧ ((if t then 10 - nI k else 0) + (if s then nI k else 0) = nI ((if t then 10 - k else 0) + (if s then k else 0))) := by decide +kernel
theorem oth : ∀ w, w < 11 → ∀ a, a < w → (nI a + 1) - (nI a + 1) / nI w * nI w = nI (if a + 1 < w then a + 1 else 0) := by decide +kernel
theorem t10 {k : Nat} (hk : k < 11) (t s : Bool) : (if t then 10 - k else 0) + (if s then k else 0) < 11 := by
  cases t <;> cases s <;> simp <;> omega
set_option maxHeartbeats 4000000 in
theorem sim_image {N : Nat} (hN : 3000 ≤ N) : S_image N gm_R := by
  intro m_imagesKept m_bads m_nos m_fulls m_above m_below m_now_words m_now_people m_now_said m_now_undos m_now_heard m_now_ending m_now_meaning m_now_cost m_now_alikeTo m_now_kind m_now_want m_now_saidAhead m_now_heardWord m_now_heardAnswer m_draft_words m_draft_people m_draft_said m_draft_undos m_draft_heard m_draft_ending m_draft_meaning m_draft_cost m_draft_alikeTo m_draft_kind m_draft_want m_draft_saidAhead m_draft_heardWord m_draft_heardAnswer m_images_0_words m_images_0_people m_images_0_said m_images_0_undos m_images_0_heard m_images_0_ending m_images_0_meaning m_images_0_cost m_images_0_alikeTo m_images_0_kind m_images_0_want m_images_0_saidAhead m_images_0_heardWord m_images_0_heardAnswer m_images_1_words m_images_1_people m_images_1_said m_images_1_undos m_images_1_heard m_images_1_ending m_images_1_meaning m_images_1_cost m_images_1_alikeTo m_images_1_kind m_images_1_want m_images_1_saidAhead m_images_1_heardWord m_images_1_heardAnswer m_text_length m_text_items m_text_place m_text_start m_text_token m_text_number m_text_bytes m_duel_words m_duel_saidAtFirst m_duel_asked m_duel_longest m_duel_shortest m_duel_chimesOfFirst m_duel_chimesOfSecond m_duel_lasts m_cover_sayable m_cover_price m_cover_covered m_cover_spent m_clashes m_tally m_sayableByPair m_chosenPairs n_thrown n_size n_at n_start n_token n_value n_faultAt n_allowed n_firstPair n_secondPair n_above n_below n_refused n_tongue n_fresh n_kept n_isKept n_text n_said n_talk hR x1
  obtain ⟨hT, hX, hF, hA, hI, hC⟩ := hR
  cases hi1 : inr x1 2 with
  | false =>
    have h1 : fX10_image N m_imagesKept m_bads m_nos m_fulls m_now_words m_now_people m_now_said m_now_undos m_now_heard m_now_ending m_now_meaning m_now_cost m_now_alikeTo m_now_kind m_now_want m_now_saidAhead m_now_heardWord m_now_heardAnswer m_images_0_words m_images_0_people m_images_0_said m_images_0_undos m_images_0_heard m_images_0_ending m_images_0_meaning m_images_0_cost m_images_0_alikeTo m_images_0_kind m_images_0_want m_images_0_saidAhead m_images_0_heardWord m_images_0_heardAnswer m_images_1_words m_images_1_people m_images_1_said m_images_1_undos m_images_1_heard m_images_1_ending m_images_1_meaning m_images_1_cost m_images_1_alikeTo m_images_1_kind m_images_1_want m_images_1_saidAhead m_images_1_heardWord m_images_1_heardAnswer x1 = some (-2, m_imagesKept, m_bads + 1, m_nos, m_fulls, m_images_0_words, m_images_0_people, m_images_0_said, m_images_0_undos, m_images_0_heard, m_images_0_ending, m_images_0_meaning, m_images_0_cost, m_images_0_alikeTo, m_images_0_kind, m_images_0_want, m_images_0_saidAhead, m_images_0_heardWord, m_images_0_heardAnswer, m_images_1_words, m_images_1_people, m_images_1_said, m_images_1_undos, m_images_1_heard, m_images_1_ending, m_images_1_meaning, m_images_1_cost, m_images_1_alikeTo, m_images_1_kind, m_images_1_want, m_images_1_saidAhead, m_images_1_heardWord, m_images_1_heardAnswer) := by
      unfold fX10_image
      rw [s_fl x1 2 2 rfl (by decide), gm_bind_s, hi1, if_pos (by decide), s_refB, gm_bind_s]
    have h2 : fX11_image N n_thrown n_refused n_tongue n_kept n_isKept x1 = some (-2, 0, upd n_refused 0 (n_refused 0 + 1), n_kept, n_isKept) := by
      unfold fX11_image
      rw [s_in (B := 2) x1 1 (by decide), gm_bind_s, hi1, if_pos (by decide), s_bad, gm_bind_s]
    exact ⟨_, _, h1, h2, rfl, hT, hX, RFb hF, hA, hI, hC⟩
  | true =>
    obtain ⟨a, ha, rfl⟩ := inr_t hi1 (by omega)
    obtain ⟨b0, b1, e1, e2, e3, P0, P1⟩ := hI
    obtain ⟨k', hk1, hk2, hk3⟩ := s_Mimage (N := N) (by omega) ha 0 n_refused n_tongue n_kept n_isKept
    have h2 : fX11_image N n_thrown n_refused n_tongue n_kept n_isKept (nI a) = some (1, 0, n_refused, k', upd n_isKept a 1) := by
      unfold fX11_image
      rw [s_in (B := 2) (nI a) 1 (by decide), gm_bind_s, hi1, if_neg (by decide), hk1]
    rcases (show a = 0 ∨ a = 1 by omega) with rfl | rfl
    · have h1 : fX10_image N m_imagesKept m_bads m_nos m_fulls m_now_words m_now_people m_now_said m_now_undos m_now_heard m_now_ending m_now_meaning m_now_cost m_now_alikeTo m_now_kind m_now_want m_now_saidAhead m_now_heardWord m_now_heardAnswer m_images_0_words m_images_0_people m_images_0_said m_images_0_undos m_images_0_heard m_images_0_ending m_images_0_meaning m_images_0_cost m_images_0_alikeTo m_images_0_kind m_images_0_want m_images_0_saidAhead m_images_0_heardWord m_images_0_heardAnswer m_images_1_words m_images_1_people m_images_1_said m_images_1_undos m_images_1_heard m_images_1_ending m_images_1_meaning m_images_1_cost m_images_1_alikeTo m_images_1_kind m_images_1_want m_images_1_saidAhead m_images_1_heardWord m_images_1_heardAnswer (nI 0) = some (1, m_imagesKept ||| ((1 : Int32) <<< (nI 0 &&& 31)), m_bads, m_nos, m_fulls, m_now_words, m_now_people, m_now_said, m_now_undos, m_now_heard, va_cpy m_now_ending m_images_0_ending (0 : Int32).toNatClampNeg (0 : Int32).toNatClampNeg (10 : Int32).toNatClampNeg, va_cpy m_now_meaning m_images_0_meaning (0 : Int32).toNatClampNeg (0 : Int32).toNatClampNeg (10 : Int32).toNatClampNeg, va_cpy m_now_cost m_images_0_cost (0 : Int32).toNatClampNeg (0 : Int32).toNatClampNeg (10 : Int32).toNatClampNeg, va_cpy m_now_alikeTo m_images_0_alikeTo (0 : Int32).toNatClampNeg (0 : Int32).toNatClampNeg (8 : Int32).toNatClampNeg, va_cpy m_now_kind m_images_0_kind (0 : Int32).toNatClampNeg (0 : Int32).toNatClampNeg (5 : Int32).toNatClampNeg, va_cpy m_now_want m_images_0_want (0 : Int32).toNatClampNeg (0 : Int32).toNatClampNeg (5 : Int32).toNatClampNeg, va_cpy m_now_saidAhead m_images_0_saidAhead (0 : Int32).toNatClampNeg (0 : Int32).toNatClampNeg (8 : Int32).toNatClampNeg, va_cpy m_now_heardWord m_images_0_heardWord (0 : Int32).toNatClampNeg (0 : Int32).toNatClampNeg (6 : Int32).toNatClampNeg, va_cpy m_now_heardAnswer m_images_0_heardAnswer (0 : Int32).toNatClampNeg (0 : Int32).toNatClampNeg (6 : Int32).toNatClampNeg, m_images_1_words, m_images_1_people, m_images_1_said, m_images_1_undos, m_images_1_heard, m_images_1_ending, m_images_1_meaning, m_images_1_cost, m_images_1_alikeTo, m_images_1_kind, m_images_1_want, m_images_1_saidAhead, m_images_1_heardWord, m_images_1_heardAnswer) := by
        unfold fX10_image fX9_copyFrom
        rw [s_fl (nI 0) 2 2 rfl (by decide), gm_bind_s, hi1, if_neg (by decide), gm_chk_n (by decide) (by decide), if_pos (by decide), gm_bind_s, gm_let_s]
      exact ⟨_, _, h1, h2, rfl, hT, hX, hF, hA, ⟨true, b1, by rw [e1]; exact (bit2 b0 b1).2.2.1, (upd_s (f := n_isKept) (k := 0) (x := 1)), (upd_n (f := n_isKept) (k := 0) (j := 1) (x := 1) (by decide)).trans e3, fun _ => RT_cpy hT (fun j hj => show k' j = n_tongue j by have := hk2 j hj; rwa [show 73 * 0 + j = j by omega] at this), fun q => RT_row (P1 q) (fun j hj => hk3 (73 + j) (by omega))⟩, hC⟩
    · have h1 : fX10_image N m_imagesKept m_bads m_nos m_fulls m_now_words m_now_people m_now_said m_now_undos m_now_heard m_now_ending m_now_meaning m_now_cost m_now_alikeTo m_now_kind m_now_want m_now_saidAhead m_now_heardWord m_now_heardAnswer m_images_0_words m_images_0_people m_images_0_said m_images_0_undos m_images_0_heard m_images_0_ending m_images_0_meaning m_images_0_cost m_images_0_alikeTo m_images_0_kind m_images_0_want m_images_0_saidAhead m_images_0_heardWord m_images_0_heardAnswer m_images_1_words m_images_1_people m_images_1_said m_images_1_undos m_images_1_heard m_images_1_ending m_images_1_meaning m_images_1_cost m_images_1_alikeTo m_images_1_kind m_images_1_want m_images_1_saidAhead m_images_1_heardWord m_images_1_heardAnswer (nI 1) = some (1, m_imagesKept ||| ((1 : Int32) <<< (nI 1 &&& 31)), m_bads, m_nos, m_fulls, m_images_0_words, m_images_0_people, m_images_0_said, m_images_0_undos, m_images_0_heard, m_images_0_ending, m_images_0_meaning, m_images_0_cost, m_images_0_alikeTo, m_images_0_kind, m_images_0_want, m_images_0_saidAhead, m_images_0_heardWord, m_images_0_heardAnswer, m_now_words, m_now_people, m_now_said, m_now_undos, m_now_heard, va_cpy m_now_ending m_images_1_ending (0 : Int32).toNatClampNeg (0 : Int32).toNatClampNeg (10 : Int32).toNatClampNeg, va_cpy m_now_meaning m_images_1_meaning (0 : Int32).toNatClampNeg (0 : Int32).toNatClampNeg (10 : Int32).toNatClampNeg, va_cpy m_now_cost m_images_1_cost (0 : Int32).toNatClampNeg (0 : Int32).toNatClampNeg (10 : Int32).toNatClampNeg, va_cpy m_now_alikeTo m_images_1_alikeTo (0 : Int32).toNatClampNeg (0 : Int32).toNatClampNeg (8 : Int32).toNatClampNeg, va_cpy m_now_kind m_images_1_kind (0 : Int32).toNatClampNeg (0 : Int32).toNatClampNeg (5 : Int32).toNatClampNeg, va_cpy m_now_want m_images_1_want (0 : Int32).toNatClampNeg (0 : Int32).toNatClampNeg (5 : Int32).toNatClampNeg, va_cpy m_now_saidAhead m_images_1_saidAhead (0 : Int32).toNatClampNeg (0 : Int32).toNatClampNeg (8 : Int32).toNatClampNeg, va_cpy m_now_heardWord m_images_1_heardWord (0 : Int32).toNatClampNeg (0 : Int32).toNatClampNeg (6 : Int32).toNatClampNeg, va_cpy m_now_heardAnswer m_images_1_heardAnswer (0 : Int32).toNatClampNeg (0 : Int32).toNatClampNeg (6 : Int32).toNatClampNeg) := by
        unfold fX10_image fX9_copyFrom
        rw [s_fl (nI 1) 2 2 rfl (by decide), gm_bind_s, hi1, if_neg (by decide), gm_chk_n (by decide) (by decide), if_neg (by decide), gm_bind_s, gm_let_s]
      exact ⟨_, _, h1, h2, rfl, hT, hX, hF, hA, ⟨b0, true, by rw [e1]; exact (bit2 b0 b1).2.2.2, (upd_n (f := n_isKept) (k := 1) (j := 0) (x := 1) (by decide)).trans e2, (upd_s (f := n_isKept) (k := 1) (x := 1)), fun q => RT_row (P0 q) (fun j hj => hk3 j (by omega)), fun _ => RT_cpy hT (fun j hj => show k' (73 + j) = n_tongue j from hk2 j hj)⟩, hC⟩
set_option maxHeartbeats 4000000 in
theorem sim_from {N : Nat} (hN : 3000 ≤ N) : S_from N gm_R := by
  intro m_imagesKept m_bads m_nos m_fulls m_above m_below m_now_words m_now_people m_now_said m_now_undos m_now_heard m_now_ending m_now_meaning m_now_cost m_now_alikeTo m_now_kind m_now_want m_now_saidAhead m_now_heardWord m_now_heardAnswer m_draft_words m_draft_people m_draft_said m_draft_undos m_draft_heard m_draft_ending m_draft_meaning m_draft_cost m_draft_alikeTo m_draft_kind m_draft_want m_draft_saidAhead m_draft_heardWord m_draft_heardAnswer m_images_0_words m_images_0_people m_images_0_said m_images_0_undos m_images_0_heard m_images_0_ending m_images_0_meaning m_images_0_cost m_images_0_alikeTo m_images_0_kind m_images_0_want m_images_0_saidAhead m_images_0_heardWord m_images_0_heardAnswer m_images_1_words m_images_1_people m_images_1_said m_images_1_undos m_images_1_heard m_images_1_ending m_images_1_meaning m_images_1_cost m_images_1_alikeTo m_images_1_kind m_images_1_want m_images_1_saidAhead m_images_1_heardWord m_images_1_heardAnswer m_text_length m_text_items m_text_place m_text_start m_text_token m_text_number m_text_bytes m_duel_words m_duel_saidAtFirst m_duel_asked m_duel_longest m_duel_shortest m_duel_chimesOfFirst m_duel_chimesOfSecond m_duel_lasts m_cover_sayable m_cover_price m_cover_covered m_cover_spent m_clashes m_tally m_sayableByPair m_chosenPairs n_thrown n_size n_at n_start n_token n_value n_faultAt n_allowed n_firstPair n_secondPair n_above n_below n_refused n_tongue n_fresh n_kept n_isKept n_text n_said n_talk hR x1
  obtain ⟨hT, hX, hF, hA, hI, hC⟩ := hR
  cases hi1 : inr x1 2 with
  | false =>
    have h1 : fX10_from N m_imagesKept m_bads m_nos m_fulls m_now_words m_now_people m_now_said m_now_undos m_now_heard m_now_ending m_now_meaning m_now_cost m_now_alikeTo m_now_kind m_now_want m_now_saidAhead m_now_heardWord m_now_heardAnswer m_images_0_words m_images_0_people m_images_0_said m_images_0_undos m_images_0_heard m_images_0_ending m_images_0_meaning m_images_0_cost m_images_0_alikeTo m_images_0_kind m_images_0_want m_images_0_saidAhead m_images_0_heardWord m_images_0_heardAnswer m_images_1_words m_images_1_people m_images_1_said m_images_1_undos m_images_1_heard m_images_1_ending m_images_1_meaning m_images_1_cost m_images_1_alikeTo m_images_1_kind m_images_1_want m_images_1_saidAhead m_images_1_heardWord m_images_1_heardAnswer x1 = some (-2, m_bads + 1, m_nos, m_fulls, m_now_words, m_now_people, m_now_said, m_now_undos, m_now_heard, m_now_ending, m_now_meaning, m_now_cost, m_now_alikeTo, m_now_kind, m_now_want, m_now_saidAhead, m_now_heardWord, m_now_heardAnswer) := by
      unfold fX10_from
      rw [s_fl x1 2 2 rfl (by decide), gm_bind_s, hi1, if_pos (by decide), s_refB, gm_bind_s]
    have h2 : fX11_from N n_thrown n_refused n_tongue n_kept n_isKept x1 = some (-2, 0, upd n_refused 0 (n_refused 0 + 1), n_tongue) := by
      unfold fX11_from
      rw [s_in (B := 2) x1 1 (by decide), gm_bind_s, hi1, if_pos (by decide), s_bad, gm_bind_s]
    exact ⟨_, _, h1, h2, rfl, hT, hX, RFb hF, hA, hI, hC⟩
  | true =>
    obtain ⟨a, ha, rfl⟩ := inr_t hi1 (by omega)
    have hI0 := hI
    obtain ⟨b0, b1, e1, e2, e3, P0, P1⟩ := hI
    obtain ⟨f', hf1, hf2⟩ := s_Mfrom (N := N) (by omega) ha 0 n_refused n_tongue n_kept
    rcases (show a = 0 ∨ a = 1 by omega) with rfl | rfl
    · cases hb : b0 with
      | false =>
        have h1 : fX10_from N m_imagesKept m_bads m_nos m_fulls m_now_words m_now_people m_now_said m_now_undos m_now_heard m_now_ending m_now_meaning m_now_cost m_now_alikeTo m_now_kind m_now_want m_now_saidAhead m_now_heardWord m_now_heardAnswer m_images_0_words m_images_0_people m_images_0_said m_images_0_undos m_images_0_heard m_images_0_ending m_images_0_meaning m_images_0_cost m_images_0_alikeTo m_images_0_kind m_images_0_want m_images_0_saidAhead m_images_0_heardWord m_images_0_heardAnswer m_images_1_words m_images_1_people m_images_1_said m_images_1_undos m_images_1_heard m_images_1_ending m_images_1_meaning m_images_1_cost m_images_1_alikeTo m_images_1_kind m_images_1_want m_images_1_saidAhead m_images_1_heardWord m_images_1_heardAnswer (nI 0) = some (-3, m_bads, m_nos + 1, m_fulls, m_now_words, m_now_people, m_now_said, m_now_undos, m_now_heard, m_now_ending, m_now_meaning, m_now_cost, m_now_alikeTo, m_now_kind, m_now_want, m_now_saidAhead, m_now_heardWord, m_now_heardAnswer) := by
          unfold fX10_from
          rw [s_fl (nI 0) 2 2 rfl (by decide), gm_bind_s, hi1, if_neg (by decide), e1, (bit2 b0 b1).1, hb, if_pos (by decide), s_refN, gm_bind_s]
        have h2 : fX11_from N n_thrown n_refused n_tongue n_kept n_isKept (nI 0) = some (-3, 0, upd n_refused 1 (n_refused 1 + 1), n_tongue) := by
          unfold fX11_from
          rw [s_in (B := 2) (nI 0) 1 (by decide), gm_bind_s, hi1, if_neg (by decide), gm_chk_n (by decide) (by decide), cl_n (by decide), e2, hb, if_pos (by decide), s_no, gm_bind_s]
        exact ⟨_, _, h1, h2, rfl, hT, hX, RFn hF, hA, hI0, hC⟩
      | true =>
        have h1 : fX10_from N m_imagesKept m_bads m_nos m_fulls m_now_words m_now_people m_now_said m_now_undos m_now_heard m_now_ending m_now_meaning m_now_cost m_now_alikeTo m_now_kind m_now_want m_now_saidAhead m_now_heardWord m_now_heardAnswer m_images_0_words m_images_0_people m_images_0_said m_images_0_undos m_images_0_heard m_images_0_ending m_images_0_meaning m_images_0_cost m_images_0_alikeTo m_images_0_kind m_images_0_want m_images_0_saidAhead m_images_0_heardWord m_images_0_heardAnswer m_images_1_words m_images_1_people m_images_1_said m_images_1_undos m_images_1_heard m_images_1_ending m_images_1_meaning m_images_1_cost m_images_1_alikeTo m_images_1_kind m_images_1_want m_images_1_saidAhead m_images_1_heardWord m_images_1_heardAnswer (nI 0) = some (1, m_bads, m_nos, m_fulls, m_images_0_words, m_images_0_people, m_images_0_said, m_images_0_undos, m_images_0_heard, va_cpy m_images_0_ending m_now_ending (0 : Int32).toNatClampNeg (0 : Int32).toNatClampNeg (10 : Int32).toNatClampNeg, va_cpy m_images_0_meaning m_now_meaning (0 : Int32).toNatClampNeg (0 : Int32).toNatClampNeg (10 : Int32).toNatClampNeg, va_cpy m_images_0_cost m_now_cost (0 : Int32).toNatClampNeg (0 : Int32).toNatClampNeg (10 : Int32).toNatClampNeg, va_cpy m_images_0_alikeTo m_now_alikeTo (0 : Int32).toNatClampNeg (0 : Int32).toNatClampNeg (8 : Int32).toNatClampNeg, va_cpy m_images_0_kind m_now_kind (0 : Int32).toNatClampNeg (0 : Int32).toNatClampNeg (5 : Int32).toNatClampNeg, va_cpy m_images_0_want m_now_want (0 : Int32).toNatClampNeg (0 : Int32).toNatClampNeg (5 : Int32).toNatClampNeg, va_cpy m_images_0_saidAhead m_now_saidAhead (0 : Int32).toNatClampNeg (0 : Int32).toNatClampNeg (8 : Int32).toNatClampNeg, va_cpy m_images_0_heardWord m_now_heardWord (0 : Int32).toNatClampNeg (0 : Int32).toNatClampNeg (6 : Int32).toNatClampNeg, va_cpy m_images_0_heardAnswer m_now_heardAnswer (0 : Int32).toNatClampNeg (0 : Int32).toNatClampNeg (6 : Int32).toNatClampNeg) := by
          unfold fX10_from fX9_copyFrom
          rw [s_fl (nI 0) 2 2 rfl (by decide), gm_bind_s, hi1, if_neg (by decide), e1, (bit2 b0 b1).1, hb, if_neg (by decide), gm_chk_n (by decide) (by decide), if_pos (by decide), gm_bind_s]
        have h2 : fX11_from N n_thrown n_refused n_tongue n_kept n_isKept (nI 0) = some (1, 0, n_refused, f') := by
          unfold fX11_from
          rw [s_in (B := 2) (nI 0) 1 (by decide), gm_bind_s, hi1, if_neg (by decide), gm_chk_n (by decide) (by decide), cl_n (by decide), e2, hb, if_neg (by decide), hf1]
        exact ⟨_, _, h1, h2, rfl, RT_cpy (P0 hb) (fun j hj => (hf2 j hj).trans (congrArg n_kept (by omega))), hX, hF, hA, hI0, hC⟩
    · cases hb : b1 with
      | false =>
        have h1 : fX10_from N m_imagesKept m_bads m_nos m_fulls m_now_words m_now_people m_now_said m_now_undos m_now_heard m_now_ending m_now_meaning m_now_cost m_now_alikeTo m_now_kind m_now_want m_now_saidAhead m_now_heardWord m_now_heardAnswer m_images_0_words m_images_0_people m_images_0_said m_images_0_undos m_images_0_heard m_images_0_ending m_images_0_meaning m_images_0_cost m_images_0_alikeTo m_images_0_kind m_images_0_want m_images_0_saidAhead m_images_0_heardWord m_images_0_heardAnswer m_images_1_words m_images_1_people m_images_1_said m_images_1_undos m_images_1_heard m_images_1_ending m_images_1_meaning m_images_1_cost m_images_1_alikeTo m_images_1_kind m_images_1_want m_images_1_saidAhead m_images_1_heardWord m_images_1_heardAnswer (nI 1) = some (-3, m_bads, m_nos + 1, m_fulls, m_now_words, m_now_people, m_now_said, m_now_undos, m_now_heard, m_now_ending, m_now_meaning, m_now_cost, m_now_alikeTo, m_now_kind, m_now_want, m_now_saidAhead, m_now_heardWord, m_now_heardAnswer) := by
          unfold fX10_from
          rw [s_fl (nI 1) 2 2 rfl (by decide), gm_bind_s, hi1, if_neg (by decide), e1, (bit2 b0 b1).2.1, hb, if_pos (by decide), s_refN, gm_bind_s]
        have h2 : fX11_from N n_thrown n_refused n_tongue n_kept n_isKept (nI 1) = some (-3, 0, upd n_refused 1 (n_refused 1 + 1), n_tongue) := by
          unfold fX11_from
          rw [s_in (B := 2) (nI 1) 1 (by decide), gm_bind_s, hi1, if_neg (by decide), gm_chk_n (by decide) (by decide), cl_n (by decide), e3, hb, if_pos (by decide), s_no, gm_bind_s]
        exact ⟨_, _, h1, h2, rfl, hT, hX, RFn hF, hA, hI0, hC⟩
      | true =>
        have h1 : fX10_from N m_imagesKept m_bads m_nos m_fulls m_now_words m_now_people m_now_said m_now_undos m_now_heard m_now_ending m_now_meaning m_now_cost m_now_alikeTo m_now_kind m_now_want m_now_saidAhead m_now_heardWord m_now_heardAnswer m_images_0_words m_images_0_people m_images_0_said m_images_0_undos m_images_0_heard m_images_0_ending m_images_0_meaning m_images_0_cost m_images_0_alikeTo m_images_0_kind m_images_0_want m_images_0_saidAhead m_images_0_heardWord m_images_0_heardAnswer m_images_1_words m_images_1_people m_images_1_said m_images_1_undos m_images_1_heard m_images_1_ending m_images_1_meaning m_images_1_cost m_images_1_alikeTo m_images_1_kind m_images_1_want m_images_1_saidAhead m_images_1_heardWord m_images_1_heardAnswer (nI 1) = some (1, m_bads, m_nos, m_fulls, m_images_1_words, m_images_1_people, m_images_1_said, m_images_1_undos, m_images_1_heard, va_cpy m_images_1_ending m_now_ending (0 : Int32).toNatClampNeg (0 : Int32).toNatClampNeg (10 : Int32).toNatClampNeg, va_cpy m_images_1_meaning m_now_meaning (0 : Int32).toNatClampNeg (0 : Int32).toNatClampNeg (10 : Int32).toNatClampNeg, va_cpy m_images_1_cost m_now_cost (0 : Int32).toNatClampNeg (0 : Int32).toNatClampNeg (10 : Int32).toNatClampNeg, va_cpy m_images_1_alikeTo m_now_alikeTo (0 : Int32).toNatClampNeg (0 : Int32).toNatClampNeg (8 : Int32).toNatClampNeg, va_cpy m_images_1_kind m_now_kind (0 : Int32).toNatClampNeg (0 : Int32).toNatClampNeg (5 : Int32).toNatClampNeg, va_cpy m_images_1_want m_now_want (0 : Int32).toNatClampNeg (0 : Int32).toNatClampNeg (5 : Int32).toNatClampNeg, va_cpy m_images_1_saidAhead m_now_saidAhead (0 : Int32).toNatClampNeg (0 : Int32).toNatClampNeg (8 : Int32).toNatClampNeg, va_cpy m_images_1_heardWord m_now_heardWord (0 : Int32).toNatClampNeg (0 : Int32).toNatClampNeg (6 : Int32).toNatClampNeg, va_cpy m_images_1_heardAnswer m_now_heardAnswer (0 : Int32).toNatClampNeg (0 : Int32).toNatClampNeg (6 : Int32).toNatClampNeg) := by
          unfold fX10_from fX9_copyFrom
          rw [s_fl (nI 1) 2 2 rfl (by decide), gm_bind_s, hi1, if_neg (by decide), e1, (bit2 b0 b1).2.1, hb, if_neg (by decide), gm_chk_n (by decide) (by decide), if_neg (by decide), gm_bind_s]
        have h2 : fX11_from N n_thrown n_refused n_tongue n_kept n_isKept (nI 1) = some (1, 0, n_refused, f') := by
          unfold fX11_from
          rw [s_in (B := 2) (nI 1) 1 (by decide), gm_bind_s, hi1, if_neg (by decide), gm_chk_n (by decide) (by decide), cl_n (by decide), e3, hb, if_neg (by decide), hf1]
        exact ⟨_, _, h1, h2, rfl, RT_cpy (P1 hb) (fun j hj => (hf2 j hj).trans (congrArg n_kept (by omega))), hX, hF, hA, hI0, hC⟩
set_option maxHeartbeats 4000000 in
theorem sim_worst {N : Nat} (hN : 3000 ≤ N) : S_worst N gm_R := by
  intro m_imagesKept m_bads m_nos m_fulls m_above m_below m_now_words m_now_people m_now_said m_now_undos m_now_heard m_now_ending m_now_meaning m_now_cost m_now_alikeTo m_now_kind m_now_want m_now_saidAhead m_now_heardWord m_now_heardAnswer m_draft_words m_draft_people m_draft_said m_draft_undos m_draft_heard m_draft_ending m_draft_meaning m_draft_cost m_draft_alikeTo m_draft_kind m_draft_want m_draft_saidAhead m_draft_heardWord m_draft_heardAnswer m_images_0_words m_images_0_people m_images_0_said m_images_0_undos m_images_0_heard m_images_0_ending m_images_0_meaning m_images_0_cost m_images_0_alikeTo m_images_0_kind m_images_0_want m_images_0_saidAhead m_images_0_heardWord m_images_0_heardAnswer m_images_1_words m_images_1_people m_images_1_said m_images_1_undos m_images_1_heard m_images_1_ending m_images_1_meaning m_images_1_cost m_images_1_alikeTo m_images_1_kind m_images_1_want m_images_1_saidAhead m_images_1_heardWord m_images_1_heardAnswer m_text_length m_text_items m_text_place m_text_start m_text_token m_text_number m_text_bytes m_duel_words m_duel_saidAtFirst m_duel_asked m_duel_longest m_duel_shortest m_duel_chimesOfFirst m_duel_chimesOfSecond m_duel_lasts m_cover_sayable m_cover_price m_cover_covered m_cover_spent m_clashes m_tally m_sayableByPair m_chosenPairs n_thrown n_size n_at n_start n_token n_value n_faultAt n_allowed n_firstPair n_secondPair n_above n_below n_refused n_tongue n_fresh n_kept n_isKept n_text n_said n_talk hR x1
  obtain ⟨hT, hX, hF, hA, hI, hC⟩ := hR
  have hT0 := hT
  obtain ⟨w, p, u, h, en, mn, cn, kn, wn, ⟨hw, hp, hu8, hh6⟩, ⟨rfl, rfl, rfl, rfl⟩, hrE, hrP, hr2, hco, hE, hM, hP, hs, hir, hh, hu, hsd⟩ := hT
  cases hi1 : inr x1 p with
  | false =>
    have h1 : fX10_worst N m_bads m_nos m_fulls (nI w) (nI p) m_now_said m_now_ending m_now_meaning m_now_alikeTo m_now_kind m_now_want x1 = some (-2, m_bads + 1, m_nos, m_fulls) := by
      unfold fX10_worst
      rw [s_isPerson x1 (by omega), gm_bind_s, hi1, if_pos (by decide), s_refB, gm_bind_s]
    have h2 : fX11_worst N n_thrown n_refused n_tongue x1 = some (-2, 0, upd n_refused 0 (n_refused 0 + 1)) := by
      unfold fX11_worst
      rw [s_noPerson x1 hrP.1 (by omega), gm_bind_s, hi1, if_neg (by decide), s_bad, gm_bind_s]
    exact ⟨_, _, h1, h2, rfl, hT0, hX, RFb hF, hA, hI, hC⟩
  | true =>
    obtain ⟨a, ha, rfl⟩ := inr_t hi1 (by omega)
    have h1 : fX10_worst N m_bads m_nos m_fulls (nI w) (nI p) m_now_said m_now_ending m_now_meaning m_now_alikeTo m_now_kind m_now_want (nI a) = some ((wr (fun i => bc (ms mn (bt (ans (kn a) (m_now_want a) en m_now_meaning m_now_alikeTo w m_now_said i)) w)) w).1, m_bads, m_nos, m_fulls) := by
      unfold fX10_worst
      rw [s_isPerson (nI a) (by omega), gm_bind_s, hi1, if_neg (by decide), s_worstL (by omega) hw hp hE hM hP ha]
    have h2 : fX11_worst N n_thrown n_refused n_tongue (nI a) = some ((wr (fun i => bc (ms mn (bt (ans (kn a) (m_now_want a) en m_now_meaning m_now_alikeTo w m_now_said i)) w)) w).1, 0, n_refused) := by
      unfold fX11_worst
      rw [s_noPerson (nI a) hrP.1 (by omega), gm_bind_s, hi1, if_pos (by decide), s_MworstL (by omega) hrE hrP hr2.1 hw hp hE hM hP hs ha]
    exact ⟨_, _, h1, h2, rfl, hT0, hX, hF, hA, hI, hC⟩
theorem s_Mask {N u b v v' : Nat} {t : Int32} {rf f : Nat → Int32} (hN : 11 ≤ N) (h2 : f 2 = nI v) (h4 : f 4 = nI u) (hu : u < 8) {w : Nat} (hw : w ≤ 10) (hb : b < w) (ev : nI v ||| ((1 : Int32) <<< (nI b &&& 31)) = nI v') : fX11_ask_b111 N t rf f (nI b) = some (f (5 + 3 * b + 1), t, rf, upd (upd (upd f (65 + u) (nI v)) 4 (nI (u + 1))) 2 (nI v')) := by
  unfold fX11_ask_b111 fX11_meaning
  simp (disch := omega) only [ck4, ck2, cl4, cl2, h4, h2, ix65, gm_chk_n, cl_n, upd_n, upd_s, nI_1, ev, ix3, gm_bind_s]
theorem s_MaskL {N : Nat} (hN : 11 ≤ N) (t : Int32) (rf : Nat → Int32) (x3 : Int32) (f : Nat → Int32) : ∃ g, fX11_ask_b66 N t rf x3 f 0 = fX11_ask_b101 N t rf g x3 ∧ (∀ k, k < 7 → g (65 + k) = f (65 + (k + 1))) ∧ ∀ k, (k < 65 ∨ 72 ≤ k) → g k = f k := by
  unfold fX11_ask_b66
  refine fx2 (fun d (a : Nat → Int32) (b : Int32) => ∃ z, z + d = 7 ∧ b = nI z ∧ (∀ k, k < z → a (65 + k) = f (65 + (k + 1))) ∧ ∀ k, (k < 65 ∨ 65 + z ≤ k) → a k = f k) (fun (o : Option (Int32 × Int32 × (Nat → Int32) × (Nat → Int32))) => ∃ g, o = fX11_ask_b101 N t rf g x3 ∧ (∀ k, k < 7 → g (65 + k) = f (65 + (k + 1))) ∧ ∀ k, (k < 65 ∨ 72 ≤ k) → g k = f k) ?_ N 7 f 0 (by omega) ⟨0, by omega, rfl, fun k hk => absurd hk (Nat.not_lt_zero k), fun _ _ => rfl⟩
  intro r d a b hI hr
  obtain ⟨z, hz, rfl, h1, h2⟩ := hI
  unfold fX11_ask_b66_body
  rcases Nat.eq_zero_or_pos d with h0 | h0
  · rw [if_pos (show (7 : Int32) ≤ nI z from nI_le (a := 7) (by omega) (by omega))]
    exact ⟨a, rfl, fun k hk => h1 k (by omega), fun k hk => h2 k (by omega)⟩
  · rw [if_neg (show ¬ (7 : Int32) ≤ nI z from nI_ge (b := 7) (by omega) (by omega)), ix65, nI_1, gm_chk_n (by omega) (by decide), gm_chk_n (by omega) (by decide), cl_n (by omega), cl_n (by omega)]
    refine hr _ _ (d - 1) (by omega) ⟨z + 1, by omega, nI_1 z, fun k hk => ?_, fun k hk => by rw [upd_n (by omega)]; exact h2 k (by omega)⟩
    by_cases hkz : k = z
    · subst hkz; rw [upd_s]; exact h2 _ (by omega)
    · rw [upd_n (by omega)]; exact h1 k (by omega)
set_option maxHeartbeats 4000000 in
theorem sim_ask {N : Nat} (hN : 3000 ≤ N) : S_ask N gm_R := by
  intro m_imagesKept m_bads m_nos m_fulls m_above m_below m_now_words m_now_people m_now_said m_now_undos m_now_heard m_now_ending m_now_meaning m_now_cost m_now_alikeTo m_now_kind m_now_want m_now_saidAhead m_now_heardWord m_now_heardAnswer m_draft_words m_draft_people m_draft_said m_draft_undos m_draft_heard m_draft_ending m_draft_meaning m_draft_cost m_draft_alikeTo m_draft_kind m_draft_want m_draft_saidAhead m_draft_heardWord m_draft_heardAnswer m_images_0_words m_images_0_people m_images_0_said m_images_0_undos m_images_0_heard m_images_0_ending m_images_0_meaning m_images_0_cost m_images_0_alikeTo m_images_0_kind m_images_0_want m_images_0_saidAhead m_images_0_heardWord m_images_0_heardAnswer m_images_1_words m_images_1_people m_images_1_said m_images_1_undos m_images_1_heard m_images_1_ending m_images_1_meaning m_images_1_cost m_images_1_alikeTo m_images_1_kind m_images_1_want m_images_1_saidAhead m_images_1_heardWord m_images_1_heardAnswer m_text_length m_text_items m_text_place m_text_start m_text_token m_text_number m_text_bytes m_duel_words m_duel_saidAtFirst m_duel_asked m_duel_longest m_duel_shortest m_duel_chimesOfFirst m_duel_chimesOfSecond m_duel_lasts m_cover_sayable m_cover_price m_cover_covered m_cover_spent m_clashes m_tally m_sayableByPair m_chosenPairs n_thrown n_size n_at n_start n_token n_value n_faultAt n_allowed n_firstPair n_secondPair n_above n_below n_refused n_tongue n_fresh n_kept n_isKept n_text n_said n_talk hR x1 x2 x3
  obtain ⟨hT, hX, hF, hA, hI, hC⟩ := hR
  have hT0 := hT
  obtain ⟨w, p, u, h, en, mn, cn, kn, wn, ⟨hw, hp, hu8, hh6⟩, ⟨rfl, rfl, rfl, rfl⟩, hrE, hrP, hr2, hco, hE, hM, hP, hs, hir, hh, hu, hsd⟩ := hT
  cases hi1 : inr x1 p with
  | false =>
    have h1 : fX10_ask N m_bads m_nos m_fulls (nI w) (nI p) m_now_said (nI u) m_now_ending m_now_meaning m_now_alikeTo m_now_kind m_now_want m_now_saidAhead x1 x2 x3 = some (-2, m_bads + 1, m_nos, m_fulls, m_now_said, nI u, m_now_saidAhead) := by
      unfold fX10_ask fX10_ask_b24
      rw [s_isPerson x1 (by omega), gm_bind_s, hi1, if_pos (by decide), s_refB, gm_bind_s]
    have h2 : fX11_ask N n_thrown n_refused n_tongue x1 x2 x3 = some (-2, 0, upd n_refused 0 (n_refused 0 + 1), n_tongue) := by
      unfold fX11_ask fX11_ask_b29
      rw [s_noPerson x1 hrP.1 (by omega), gm_bind_s, hi1, if_neg (by decide), s_bad, gm_bind_s]
    exact ⟨_, _, h1, h2, rfl, hT0, hX, RFb hF, hA, hI, hC⟩
  | true =>
    obtain ⟨j, hj, rfl⟩ := inr_t hi1 (by omega)
    cases hi2 : inr x2 w with
    | false =>
      have h1 : fX10_ask N m_bads m_nos m_fulls (nI w) (nI p) m_now_said (nI u) m_now_ending m_now_meaning m_now_alikeTo m_now_kind m_now_want m_now_saidAhead (nI j) x2 x3 = some (-2, m_bads + 1, m_nos, m_fulls, m_now_said, nI u, m_now_saidAhead) := by
        unfold fX10_ask fX10_ask_b24
        rw [s_isPerson (nI j) (by omega), gm_bind_s, hi1, if_neg (by decide), s_isWord x2 (by omega), gm_bind_s, hi2, if_pos (by decide), s_refB, gm_bind_s]
      have h2 : fX11_ask N n_thrown n_refused n_tongue (nI j) x2 x3 = some (-2, 0, upd n_refused 0 (n_refused 0 + 1), n_tongue) := by
        unfold fX11_ask fX11_ask_b29
        rw [s_noPerson (nI j) hrP.1 (by omega), gm_bind_s, hi1, if_pos (by decide), s_noWord x2 hrE.1 (by omega), gm_bind_s, hi2, if_neg (by decide), s_bad, gm_bind_s]
      exact ⟨_, _, h1, h2, rfl, hT0, hX, RFb hF, hA, hI, hC⟩
    | true =>
      obtain ⟨a, ha, rfl⟩ := inr_t hi2 (by omega)
      cases hi3 : inr x3 w with
      | false =>
        have h1 : fX10_ask N m_bads m_nos m_fulls (nI w) (nI p) m_now_said (nI u) m_now_ending m_now_meaning m_now_alikeTo m_now_kind m_now_want m_now_saidAhead (nI j) (nI a) x3 = some (-2, m_bads + 1, m_nos, m_fulls, m_now_said, nI u, m_now_saidAhead) := by
          unfold fX10_ask fX10_ask_b24
          rw [s_isPerson (nI j) (by omega), gm_bind_s, hi1, if_neg (by decide), s_isWord (nI a) (by omega), gm_bind_s, hi2, if_neg (by decide), s_isWord x3 (by omega), gm_bind_s, hi3, if_pos (by decide), s_refB, gm_bind_s]
        have h2 : fX11_ask N n_thrown n_refused n_tongue (nI j) (nI a) x3 = some (-2, 0, upd n_refused 0 (n_refused 0 + 1), n_tongue) := by
          unfold fX11_ask fX11_ask_b29
          rw [s_noPerson (nI j) hrP.1 (by omega), gm_bind_s, hi1, if_pos (by decide), s_noWord (nI a) hrE.1 (by omega), gm_bind_s, hi2, if_pos (by decide), s_noWord x3 hrE.1 (by omega), gm_bind_s, hi3, if_neg (by decide), s_bad, gm_bind_s]
        exact ⟨_, _, h1, h2, rfl, hT0, hX, RFb hF, hA, hI, hC⟩
      | true =>
        obtain ⟨b, hb, rfl⟩ := inr_t hi3 (by omega)
        cases hq : bt (ans (kn j) (m_now_want j) en m_now_meaning m_now_alikeTo w m_now_said a) b with
        | false =>
          have h1 : fX10_ask N m_bads m_nos m_fulls (nI w) (nI p) m_now_said (nI u) m_now_ending m_now_meaning m_now_alikeTo m_now_kind m_now_want m_now_saidAhead (nI j) (nI a) (nI b) = some (-3, m_bads, m_nos + 1, m_fulls, m_now_said, nI u, m_now_saidAhead) := by
            unfold fX10_ask
            rw [s_isPerson (nI j) (by omega), gm_bind_s, hi1, if_neg (by decide), s_isWord (nI a) (by omega), gm_bind_s, hi2, if_neg (by decide), s_isWord (nI b) (by omega), gm_bind_s, hi3, if_neg (by decide), s_answerBits (by omega) hw hp hE hP hj ha, gm_bind_s, if_pos ((b_get0 _ b (by omega)).mpr hq), s_refN, gm_bind_s]
          have h2 : fX11_ask N n_thrown n_refused n_tongue (nI j) (nI a) (nI b) = some (-3, 0, upd n_refused 1 (n_refused 1 + 1), n_tongue) := by
            unfold fX11_ask
            rw [s_noPerson (nI j) hrP.1 (by omega), gm_bind_s, hi1, if_pos (by decide), s_noWord (nI a) hrE.1 (by omega), gm_bind_s, hi2, if_pos (by decide), s_noWord (nI b) hrE.1 (by omega), gm_bind_s, hi3, if_pos (by decide), s_MansTo (by omega) hrE hrP hr2.1 hw hp hE hP hs hj ha, gm_bind_s, s_Mhas _ (by omega), gm_bind_s, hq, if_pos (by decide), s_no, gm_bind_s]
          exact ⟨_, _, h1, h2, rfl, hT0, hX, RFn hF, hA, hI, hC⟩
        | true =>
          obtain ⟨v, hv, rfl⟩ := hsd
          obtain ⟨v', hv', ev⟩ := or_w hw hv hb
          have hmb : m_now_meaning b = m_now_meaning b := rfl
          rcases Nat.lt_or_ge u 8 with hu7 | hu7
          · have h1 : fX10_ask N m_bads m_nos m_fulls (nI w) (nI p) (nI v) (nI u) m_now_ending m_now_meaning m_now_alikeTo m_now_kind m_now_want m_now_saidAhead (nI j) (nI a) (nI b) = some (m_now_meaning b, m_bads, m_nos, m_fulls, nI v', nI (u + 1), upd m_now_saidAhead u (nI v)) := by
              unfold fX10_ask fX9_say fX9_say_b34
              rw [s_isPerson (nI j) (by omega), gm_bind_s, hi1, if_neg (by decide), s_isWord (nI a) (by omega), gm_bind_s, hi2, if_neg (by decide), s_isWord (nI b) (by omega), gm_bind_s, hi3, if_neg (by decide), s_answerBits (by omega) hw hp hE hP hj ha, gm_bind_s, if_neg (fun z => by rw [(b_get0 _ b (by omega))] at z; rw [z] at hq; exact absurd hq (by decide)), if_neg (show ¬ nI u = 8 from fun q => by have := (nI_eq (a := u) (b := 8) (by omega) (by decide)).mp q; omega), gm_chk_n hu7 (by decide), gm_let_s, gm_let_s, gm_bind_s, gm_chk_n (by omega) (by decide), cl_n (by omega), cl_n (by omega), nI_1, ev]
            have h2 : fX11_ask N n_thrown n_refused n_tongue (nI j) (nI a) (nI b) = some (m_now_meaning b, 0, n_refused, upd (upd (upd n_tongue (65 + u) (nI v)) 4 (nI (u + 1))) 2 (nI v')) := by
              unfold fX11_ask
              rw [s_noPerson (nI j) hrP.1 (by omega), gm_bind_s, hi1, if_pos (by decide), s_noWord (nI a) hrE.1 (by omega), gm_bind_s, hi2, if_pos (by decide), s_noWord (nI b) hrE.1 (by omega), gm_bind_s, hi3, if_pos (by decide), s_MansTo (by omega) hrE hrP hr2.1 hw hp hE hP hs hj ha, gm_bind_s, s_Mhas _ (by omega), gm_bind_s, hq, if_neg (by decide), ck4 (by decide), cl4, hr2.2.2, if_neg (show ¬ nI u = 8 from fun q => by have := (nI_eq (a := u) (b := 8) (by omega) (by decide)).mp q; omega), s_Mask (by omega) hr2.1 hr2.2.2 hu7 hw hb ev, (hrE.2.1 b hb).2]
            have hT2 := RT_su hT0 (said' := nI v') (undos' := nI (u + 1)) (sa' := upd m_now_saidAhead u (nI v)) (f' := upd (upd (upd n_tongue (65 + u) (nI v)) 4 (nI (u + 1))) 2 (nI v')) (fun k k2 k4 k6 => by rw [upd_n k2, upd_n k4, upd_n (by omega)]) upd_s (by rw [upd_n (by decide), upd_s]) (u' := u + 1) (by omega) rfl (fun w' e1 e2 => by
              have : w' = w := (nI_eq (by omega) (by omega)).mp e1.symm
              subst this
              refine ⟨fun z hz => ?_, v', hv', rfl⟩
              by_cases hzu : z = u
              · subst hzu; exact ⟨by rw [upd_n (by omega), upd_n (by omega), upd_s, upd_s], v, hv, upd_s⟩
              · have := hu z (by omega)
                exact ⟨by rw [upd_n (by omega), upd_n (by omega), upd_n (by omega), upd_n hzu]; exact this.1, by rw [upd_n hzu]; exact this.2⟩)
            exact ⟨_, _, h1, h2, rfl, hT2, hX, hF, hA, hI, hC⟩
          · have hu8' : u = 8 := by omega
            subst hu8'
            have h1 : fX10_ask N m_bads m_nos m_fulls (nI w) (nI p) (nI v) (nI 8) m_now_ending m_now_meaning m_now_alikeTo m_now_kind m_now_want m_now_saidAhead (nI j) (nI a) (nI b) = some (m_now_meaning b, m_bads, m_nos, m_fulls, nI v', nI 8, upd (va_cpy m_now_saidAhead m_now_saidAhead 1 0 7) 7 (nI v)) := by
              unfold fX10_ask fX9_say fX9_say_b34
              rw [s_isPerson (nI j) (by omega), gm_bind_s, hi1, if_neg (by decide), s_isWord (nI a) (by omega), gm_bind_s, hi2, if_neg (by decide), s_isWord (nI b) (by omega), gm_bind_s, hi3, if_neg (by decide), s_answerBits (by omega) hw hp hE hP hj ha, gm_bind_s, if_neg (fun z => by rw [(b_get0 _ b (by omega))] at z; rw [z] at hq; exact absurd hq (by decide)), if_pos (by decide), gm_let_s, show nI 8 - 1 = nI 7 by decide, gm_chk_n (by decide) (by decide), gm_let_s, gm_let_s, gm_bind_s, gm_chk_n (by omega) (by decide), cl_n (by omega), cl_n (by omega), nI_1, ev]
              rfl
            obtain ⟨g, hg1, hg2, hg3⟩ := s_MaskL (N := N) (by omega) 0 n_refused (nI b) n_tongue
            have h2 : fX11_ask N n_thrown n_refused n_tongue (nI j) (nI a) (nI b) = some (m_now_meaning b, 0, n_refused, upd (upd (upd (upd g 4 (nI 7)) 72 (nI v)) 4 (nI 8)) 2 (nI v')) := by
              unfold fX11_ask
              rw [s_noPerson (nI j) hrP.1 (by omega), gm_bind_s, hi1, if_pos (by decide), s_noWord (nI a) hrE.1 (by omega), gm_bind_s, hi2, if_pos (by decide), s_noWord (nI b) hrE.1 (by omega), gm_bind_s, hi3, if_pos (by decide), s_MansTo (by omega) hrE hrP hr2.1 hw hp hE hP hs hj ha, gm_bind_s, s_Mhas _ (by omega), gm_bind_s, hq, if_neg (by decide), ck4 (by decide), cl4, hr2.2.2, if_pos (by decide), hg1]
              unfold fX11_ask_b101
              rw [ck4 (by decide), ck4 (by decide), cl4, hg3 4 (by decide), hr2.2.2, show nI 8 - 1 = nI 7 by decide, s_Mask (v := v) (u := 7) (by omega) (by rw [upd_n (by decide), hg3 2 (by decide)]; exact hr2.1) upd_s (by omega) hw hb ev, upd_n (by omega), hg3 _ (by omega), (hrE.2.1 b hb).2]
            have hT2 := RT_su hT0 (said' := nI v') (undos' := nI 8) (sa' := upd (va_cpy m_now_saidAhead m_now_saidAhead 1 0 7) 7 (nI v)) (f' := upd (upd (upd (upd g 4 (nI 7)) 72 (nI v)) 4 (nI 8)) 2 (nI v')) (fun k k2 k4 k6 => by rw [upd_n k2, upd_n k4, upd_n (by omega), upd_n k4]; exact hg3 k (by omega)) upd_s (by rw [upd_n (by decide), upd_s]) (u' := 8) (by omega) rfl (fun w' e1 e2 => by
              have : w' = w := (nI_eq (by omega) (by omega)).mp e1.symm
              subst this
              refine ⟨fun z hz => ?_, v', hv', rfl⟩
              by_cases hzu : z = 7
              · subst hzu; exact ⟨by rw [upd_n (by omega), upd_n (by omega), upd_s, upd_s], v, hv, upd_s⟩
              · have := hu (z + 1) (by omega)
                have hc : va_cpy m_now_saidAhead m_now_saidAhead 1 0 7 z = m_now_saidAhead (z + 1) := by
                  unfold va_cpy
                  rw [if_pos ⟨by omega, by omega⟩]; congr 1; omega
                exact ⟨by rw [upd_n (by omega), upd_n (by omega), upd_n (by omega), upd_n (by omega), upd_n hzu, hc, hg2 z (by omega)]; exact this.1, by rw [upd_n hzu, hc]; exact this.2⟩)
            exact ⟨_, _, h1, h2, rfl, hT2, hX, hF, hA, hI, hC⟩
set_option maxHeartbeats 4000000 in
theorem sim_misheard {N : Nat} (hN : 3000 ≤ N) : S_misheard N gm_R := by
  intro m_imagesKept m_bads m_nos m_fulls m_above m_below m_now_words m_now_people m_now_said m_now_undos m_now_heard m_now_ending m_now_meaning m_now_cost m_now_alikeTo m_now_kind m_now_want m_now_saidAhead m_now_heardWord m_now_heardAnswer m_draft_words m_draft_people m_draft_said m_draft_undos m_draft_heard m_draft_ending m_draft_meaning m_draft_cost m_draft_alikeTo m_draft_kind m_draft_want m_draft_saidAhead m_draft_heardWord m_draft_heardAnswer m_images_0_words m_images_0_people m_images_0_said m_images_0_undos m_images_0_heard m_images_0_ending m_images_0_meaning m_images_0_cost m_images_0_alikeTo m_images_0_kind m_images_0_want m_images_0_saidAhead m_images_0_heardWord m_images_0_heardAnswer m_images_1_words m_images_1_people m_images_1_said m_images_1_undos m_images_1_heard m_images_1_ending m_images_1_meaning m_images_1_cost m_images_1_alikeTo m_images_1_kind m_images_1_want m_images_1_saidAhead m_images_1_heardWord m_images_1_heardAnswer m_text_length m_text_items m_text_place m_text_start m_text_token m_text_number m_text_bytes m_duel_words m_duel_saidAtFirst m_duel_asked m_duel_longest m_duel_shortest m_duel_chimesOfFirst m_duel_chimesOfSecond m_duel_lasts m_cover_sayable m_cover_price m_cover_covered m_cover_spent m_clashes m_tally m_sayableByPair m_chosenPairs n_thrown n_size n_at n_start n_token n_value n_faultAt n_allowed n_firstPair n_secondPair n_above n_below n_refused n_tongue n_fresh n_kept n_isKept n_text n_said n_talk hR x1 x2 x3 x4
  obtain ⟨hT, hX, hF, hA, hI, hC⟩ := hR
  have hT0 := hT
  obtain ⟨w, p, u, h, en, mn, cn, kn, wn, ⟨hw, hp, hu8, hh6⟩, ⟨rfl, rfl, rfl, rfl⟩, hrE, hrP, hr2, hco, hE, hM, hP, hs, hir, hh, hu, hsd⟩ := hT
  cases hi1 : inr x1 p with
  | false =>
    have h1 : fX10_misheard N m_bads m_nos m_fulls m_above m_below (nI w) (nI p) m_now_said m_now_ending m_now_meaning m_now_alikeTo m_now_kind m_now_want x1 x2 x3 x4 = some (-2, m_bads + 1, m_nos, m_fulls, m_above, m_below) := by
      unfold fX10_misheard fX10_misheard_b35
      rw [s_isPerson x1 (by omega), gm_bind_s, hi1, if_pos (by decide), s_refB, gm_bind_s]
    have h2 : fX11_misheard N n_thrown n_above n_below n_refused n_tongue x1 x2 x3 x4 = some (-2, 0, n_above, n_below, upd n_refused 0 (n_refused 0 + 1)) := by
      unfold fX11_misheard fX11_misheard_b46
      rw [s_noPerson x1 hrP.1 (by omega), gm_bind_s, hi1, if_neg (by decide), s_bad, gm_bind_s]
    exact ⟨_, _, h1, h2, rfl, hT0, hX, RFb hF, hA, hI, hC⟩
  | true =>
    obtain ⟨a, ha, rfl⟩ := inr_t hi1 (by omega)
    cases hi2 : inr x2 w with
    | false =>
      have h1 : fX10_misheard N m_bads m_nos m_fulls m_above m_below (nI w) (nI p) m_now_said m_now_ending m_now_meaning m_now_alikeTo m_now_kind m_now_want (nI a) x2 x3 x4 = some (-2, m_bads + 1, m_nos, m_fulls, m_above, m_below) := by
        unfold fX10_misheard fX10_misheard_b35
        rw [s_isPerson (nI a) (by omega), gm_bind_s, hi1, if_neg (by decide), s_isWord x2 (by omega), gm_bind_s, hi2, if_pos (by decide), s_refB, gm_bind_s]
      have h2 : fX11_misheard N n_thrown n_above n_below n_refused n_tongue (nI a) x2 x3 x4 = some (-2, 0, n_above, n_below, upd n_refused 0 (n_refused 0 + 1)) := by
        unfold fX11_misheard fX11_misheard_b46
        rw [s_noPerson (nI a) hrP.1 (by omega), gm_bind_s, hi1, if_pos (by decide), s_noWord x2 hrE.1 (by omega), gm_bind_s, hi2, if_neg (by decide), s_bad, gm_bind_s]
      exact ⟨_, _, h1, h2, rfl, hT0, hX, RFb hF, hA, hI, hC⟩
    | true =>
      obtain ⟨b, hb, rfl⟩ := inr_t hi2 (by omega)
      cases hi3 : inr x3 8 with
      | false =>
        have h1 : fX10_misheard N m_bads m_nos m_fulls m_above m_below (nI w) (nI p) m_now_said m_now_ending m_now_meaning m_now_alikeTo m_now_kind m_now_want (nI a) (nI b) x3 x4 = some (-2, m_bads + 1, m_nos, m_fulls, m_above, m_below) := by
          unfold fX10_misheard fX10_misheard_b35
          rw [s_isPerson (nI a) (by omega), gm_bind_s, hi1, if_neg (by decide), s_isWord (nI b) (by omega), gm_bind_s, hi2, if_neg (by decide), s_fl x3 8 8 rfl (by decide), gm_bind_s, hi3, if_pos (by decide), s_refB, gm_bind_s]
        have h2 : fX11_misheard N n_thrown n_above n_below n_refused n_tongue (nI a) (nI b) x3 x4 = some (-2, 0, n_above, n_below, upd n_refused 0 (n_refused 0 + 1)) := by
          unfold fX11_misheard fX11_misheard_b46
          rw [s_noPerson (nI a) hrP.1 (by omega), gm_bind_s, hi1, if_pos (by decide), s_noWord (nI b) hrE.1 (by omega), gm_bind_s, hi2, if_pos (by decide), s_in (B := 8) x3 7 (by decide), gm_bind_s, hi3, if_pos (by decide), s_bad, gm_bind_s]
        exact ⟨_, _, h1, h2, rfl, hT0, hX, RFb hF, hA, hI, hC⟩
      | true =>
        obtain ⟨c, hc, rfl⟩ := inr_t hi3 (by omega)
        cases hi4 : inr x4 11 with
        | false =>
          have h1 : fX10_misheard N m_bads m_nos m_fulls m_above m_below (nI w) (nI p) m_now_said m_now_ending m_now_meaning m_now_alikeTo m_now_kind m_now_want (nI a) (nI b) (nI c) x4 = some (-2, m_bads + 1, m_nos, m_fulls, m_above, m_below) := by
            unfold fX10_misheard fX10_misheard_b35
            rw [s_isPerson (nI a) (by omega), gm_bind_s, hi1, if_neg (by decide), s_isWord (nI b) (by omega), gm_bind_s, hi2, if_neg (by decide), s_fl (nI c) 8 8 rfl (by decide), gm_bind_s, hi3, if_neg (by decide), s_fl x4 11 11 rfl (by decide), gm_bind_s, hi4, if_pos (by decide), s_refB, gm_bind_s]
          have h2 : fX11_misheard N n_thrown n_above n_below n_refused n_tongue (nI a) (nI b) (nI c) x4 = some (-2, 0, n_above, n_below, upd n_refused 0 (n_refused 0 + 1)) := by
            unfold fX11_misheard fX11_misheard_b46
            rw [s_noPerson (nI a) hrP.1 (by omega), gm_bind_s, hi1, if_pos (by decide), s_noWord (nI b) hrE.1 (by omega), gm_bind_s, hi2, if_pos (by decide), s_in (B := 8) (nI c) 7 (by decide), gm_bind_s, hi3, if_neg (by decide), s_in (B := 11) x4 10 (by decide), gm_bind_s, hi4, if_pos (by decide), s_bad, gm_bind_s]
          exact ⟨_, _, h1, h2, rfl, hT0, hX, RFb hF, hA, hI, hC⟩
        | true =>
          obtain ⟨k, hk, rfl⟩ := inr_t hi4 (by omega)
          have ho := oth w (by omega) b hb
          have hob : (if b + 1 < w then b + 1 else 0) < w := by split <;> omega
          have hx := tenths k hk (bt (ms mn (bt (ans (kn a) (m_now_want a) en m_now_meaning m_now_alikeTo w m_now_said b)) w) c) (bt (ms mn (bt (ans (kn a) (m_now_want a) en m_now_meaning m_now_alikeTo w m_now_said (if b + 1 < w then b + 1 else 0))) w) c)
          have h1 : fX10_misheard N m_bads m_nos m_fulls m_above m_below (nI w) (nI p) m_now_said m_now_ending m_now_meaning m_now_alikeTo m_now_kind m_now_want (nI a) (nI b) (nI c) (nI k) = some (1, m_bads, m_nos, m_fulls, sfr 9 (Int32.toInt64 (nI ((if bt (ms mn (bt (ans (kn a) (m_now_want a) en m_now_meaning m_now_alikeTo w m_now_said b)) w) c then 10 - k else 0) + (if bt (ms mn (bt (ans (kn a) (m_now_want a) en m_now_meaning m_now_alikeTo w m_now_said (if b + 1 < w then b + 1 else 0))) w) c then k else 0)))) 10) := by
            unfold fX10_misheard
            rw [s_isPerson (nI a) (by omega), gm_bind_s, hi1, if_neg (by decide), s_isWord (nI b) (by omega), gm_bind_s, hi2, if_neg (by decide), s_fl (nI c) 8 8 rfl (by decide), gm_bind_s, hi3, if_neg (by decide), s_fl (nI k) 11 11 rfl (by decide), gm_bind_s, hi4, if_neg (by decide)]
            have hb62 : ∀ z, z = nI (if b + 1 < w then b + 1 else 0) → fX10_misheard_b62 N m_bads m_nos m_fulls m_above m_below (nI w) m_now_said m_now_ending m_now_meaning m_now_alikeTo m_now_kind m_now_want (nI a) (nI b) (nI c) (nI k) z = some (1, m_bads, m_nos, m_fulls, sfr 9 (Int32.toInt64 (nI ((if bt (ms mn (bt (ans (kn a) (m_now_want a) en m_now_meaning m_now_alikeTo w m_now_said b)) w) c then 10 - k else 0) + (if bt (ms mn (bt (ans (kn a) (m_now_want a) en m_now_meaning m_now_alikeTo w m_now_said (if b + 1 < w then b + 1 else 0))) w) c then k else 0)))) 10) := by
              intro z hz
              subst hz
              unfold fX10_misheard_b62
              rw [s_sayable (by omega) hw hp hE hM hP ha hb, gm_bind_s, gm_let_s, s_sayable (by omega) hw hp hE hM hP ha hob, gm_bind_s, gm_let_s, b_get _ c (by omega), b_get _ c (by omega), hx.1, s_frac (by omega), gm_bind_s]
            by_cases q : b + 1 < w
            · rw [nI_1, if_neg (nI_ge q (by omega))]
              exact hb62 _ (by rw [if_pos q])
            · rw [nI_1, if_pos (nI_le (by omega) (by omega))]
              exact hb62 _ (by rw [if_neg q]; rfl)
          have h2 : fX11_misheard N n_thrown n_above n_below n_refused n_tongue (nI a) (nI b) (nI c) (nI k) = some (1, 0, (sfr 9 (Int32.toInt64 (nI ((if bt (ms mn (bt (ans (kn a) (m_now_want a) en m_now_meaning m_now_alikeTo w m_now_said b)) w) c then 10 - k else 0) + (if bt (ms mn (bt (ans (kn a) (m_now_want a) en m_now_meaning m_now_alikeTo w m_now_said (if b + 1 < w then b + 1 else 0))) w) c then k else 0)))) 10).1, (sfr 9 (Int32.toInt64 (nI ((if bt (ms mn (bt (ans (kn a) (m_now_want a) en m_now_meaning m_now_alikeTo w m_now_said b)) w) c then 10 - k else 0) + (if bt (ms mn (bt (ans (kn a) (m_now_want a) en m_now_meaning m_now_alikeTo w m_now_said (if b + 1 < w then b + 1 else 0))) w) c then k else 0)))) 10).2, n_refused) := by
            have h85 : ∀ k0, fX11_misheard_b85 N 0 n_above n_below n_refused n_tongue (nI a) (nI c) (nI k) (nI (if b + 1 < w then b + 1 else 0)) k0 = fX11_misheard_b109 N 0 n_above n_below n_refused k0 (if bt (ms mn (bt (ans (kn a) (m_now_want a) en m_now_meaning m_now_alikeTo w m_now_said (if b + 1 < w then b + 1 else 0))) w) c then nI k else 0) := by
              intro k0
              unfold fX11_misheard_b85
              rw [s_McanSay (by omega) hrE hrP hr2.1 hw hp hE hM hP hs ha hob, gm_bind_s, s_Mhas _ (by omega), gm_bind_s]
              cases bt (ms mn (bt (ans (kn a) (m_now_want a) en m_now_meaning m_now_alikeTo w m_now_said (if b + 1 < w then b + 1 else 0))) w) c <;> simp [bi]
            have hk0 : ∀ t : Bool, (if bi t = 0 then fX11_misheard_b85 N 0 n_above n_below n_refused n_tongue (nI a) (nI c) (nI k) (nI (if b + 1 < w then b + 1 else 0)) 0 else fX11_misheard_b85 N 0 n_above n_below n_refused n_tongue (nI a) (nI c) (nI k) (nI (if b + 1 < w then b + 1 else 0)) (10 - nI k)) = fX11_misheard_b85 N 0 n_above n_below n_refused n_tongue (nI a) (nI c) (nI k) (nI (if b + 1 < w then b + 1 else 0)) (if t then 10 - nI k else 0) := by
              intro t
              cases t <;> simp [bi]
            unfold fX11_misheard
            rw [s_noPerson (nI a) hrP.1 (by omega), gm_bind_s, hi1, if_pos (by decide), s_noWord (nI b) hrE.1 (by omega), gm_bind_s, hi2, if_pos (by decide), s_in (B := 8) (nI c) 7 (by decide), gm_bind_s, hi3, if_neg (by decide), s_in (B := 11) (nI k) 10 (by decide), gm_bind_s, hi4, if_neg (by decide), ck0 (by decide), cl0, hrE.1, gm_nz_ok (nI_ne0 (by omega) (by omega)), gm_let_s, ho, s_McanSay (by omega) hrE hrP hr2.1 hw hp hE hM hP hs ha hb, gm_bind_s, s_Mhas _ (by omega), gm_bind_s, hk0, h85, s_Mby, hx.2, s_by _ (t10 hk _ _)]
          exact ⟨_, _, h1, h2, rfl, hT0, hX, hF, ⟨rfl, rfl⟩, hI, hC⟩
