/-! ===== talks by a seed ===== -/
def sdn : Nat → Nat → Nat
  | x, 0 => x
  | x, i + 1 => (sdn x i * 1103515245 + 12345) % 2147483648
theorem sdn_lt {x : Nat} (hx : x < 2147483648) : ∀ i, sdn x i < 2147483648
  | 0 => hx
  | i + 1 => Nat.mod_lt _ (by decide)
theorem L_mod {a b : Nat} (ha : a < 2 ^ 63) (hb : b < 2 ^ 63) : Int64.ofNat a - Int64.ofNat a / Int64.ofNat b * Int64.ofNat b = Int64.ofNat (a % b) := by
  rw [← Int64.ofNat_div ha hb, ← Int64.ofNat_mul, ← Int64.ofNat_sub _ _ (Nat.div_mul_le_self a b)]
  congr 1
  have := Nat.div_add_mod a b
  rw [Nat.mul_comm] at this
  omega
theorem sdn_s {x i : Nat} (hx : x < 2147483648) : Int64.ofNat (sdn x i) * 1103515245 + 12345 - (Int64.ofNat (sdn x i) * 1103515245 + 12345) / 2147483648 * 2147483648 = Int64.ofNat (sdn x (i + 1)) := by
  have h := sdn_lt hx i
  rw [show (1103515245 : Int64) = Int64.ofNat 1103515245 from rfl, show (12345 : Int64) = Int64.ofNat 12345 from rfl, show (2147483648 : Int64) = Int64.ofNat 2147483648 from rfl, ← Int64.ofNat_mul, ← Int64.ofNat_add, L_mod (by omega) (by decide)]
  rfl
def akd (x i w : Nat) : Nat := sdn x i / 65536 % w
theorem akd_s {x i w : Nat} (hx : x < 2147483648) (hw : w ≤ 10) : Int64.toInt32 (Int64.ofNat (sdn x i) / 65536 - Int64.ofNat (sdn x i) / 65536 / Int32.toInt64 (nI w) * Int32.toInt64 (nI w)) = nI (akd x i w) := by
  have h := sdn_lt hx i
  have e : Int32.toInt64 (nI w) = Int64.ofNat w := Int32.toInt64_ofNat' (by
    have : Int32.maxValue.toInt = 2147483647 := by decide
    omega)
  rw [e, show (65536 : Int64) = Int64.ofNat 65536 from rfl, ← Int64.ofNat_div (by omega) (by decide), L_mod (by omega) (by omega), Int64.toInt32_ofNat']
  rfl
theorem tmod : ∀ i, i < 60 → ∀ p, p < 6 → 0 < p → nI i - nI i / nI p * nI p = nI (i % p) := by decide +kernel
/-- downwards -/
def dnw (b g : Nat → Bool) (w : Nat) : Nat → Nat
  | 0 => 0
  | d + 1 => if b (w - (d + 1)) then (if g (w - (d + 1)) then w - (d + 1) + 1 else if dnw b g w d ≠ 0 ∧ g (dnw b g w d - 1) = true then dnw b g w d else w - (d + 1) + 1) else dnw b g w d
theorem dnw_le (b g : Nat → Bool) {w : Nat} : ∀ d, d ≤ w → dnw b g w d ≤ w
  | 0, _ => Nat.zero_le _
  | d + 1, h => by
    have ih := dnw_le b g (w := w) d (by omega)
    rw [dnw]
    split
    · split
      · omega
      · split
        · exact ih
        · omega
    · exact ih
theorem fo_dnw {b : Nat → Bool} {m : Nat → Int32} {v : Int32} {w : Nat} (hw : w ≤ 10) : ∀ (d : Nat), d ≤ w → ∀ (x : Int32), fo b m v d x (w - d) = if dnw b (fun i => decide (m i = v)) w d ≠ 0 ∧ m (dnw b (fun i => decide (m i = v)) w d - 1) = v then cq (dnw b (fun i => decide (m i = v)) w d) else if x = -1 then cq (dnw b (fun i => decide (m i = v)) w d) else x
  | 0, _, x => by
    rw [fo, dnw, if_neg (fun q => q.1 rfl)]
    by_cases q : x = -1
    · rw [if_pos q, q]; rfl
    · rw [if_neg q]
  | d + 1, hd, x => by
    have ih := fo_dnw (b := b) (m := m) (v := v) hw d (by omega)
    have e : w - (d + 1) + 1 = w - d := by omega
    rw [fo, dnw, e, ih (nI (w - (d + 1))), ih x]
    cases hb : b (w - (d + 1)) with
    | false => simp only [Bool.false_eq_true, if_false]
    | true =>
      simp only [if_true]
      by_cases q : m (w - (d + 1)) = v
      · simp only [if_pos q, decide_eq_true q, if_true]
        rw [if_pos ⟨by omega, by rw [show w - d - 1 = w - (d + 1) by omega]; exact q⟩]
        unfold cq
        rw [if_neg (by omega), show w - d - 1 = w - (d + 1) by omega]
      · simp only [if_neg q, decide_eq_false q, Bool.false_eq_true, if_false, decide_eq_true_eq]
        by_cases q2 : dnw b (fun i => decide (m i = v)) w d ≠ 0 ∧ m (dnw b (fun i => decide (m i = v)) w d - 1) = v
        · simp only [if_pos q2]
          split <;> rfl
        · simp only [if_neg q2]
          have q3 : ¬ (w - d ≠ 0 ∧ m (w - d - 1) = v) := fun q4 => q (by rw [show w - (d + 1) = w - d - 1 by omega]; exact q4.2)
          rw [if_neg q3]
          by_cases q5 : x = -1
          · rw [if_pos q5, if_neg (nI_nm1 (by omega)), if_pos q5]
            unfold cq
            rw [if_neg (by omega), show w - d - 1 = w - (d + 1) by omega]
          · simp only [if_neg q5]
theorem fo_dn0 {b : Nat → Bool} {m : Nat → Int32} {v : Int32} {w : Nat} (hw : w ≤ 10) : fo b m v w (-1) 0 = cq (dnw b (fun i => decide (m i = v)) w w) := by
  have := fo_dnw (b := b) (m := m) (v := v) hw w (Nat.le_refl w) (-1)
  rw [Nat.sub_self] at this
  rw [this, if_pos rfl, ite_self]
theorem cq_m1 : ∀ q, q < 12 → (cq q = -1 ↔ q = 0) := by decide +kernel
/-- said and answered -/
def tst (o : Nat → Int32 → Int32) (s0 : Int32) : Nat → Int32 × Int32
  | 0 => (s0, 0)
  | i + 1 => if o i (tst o s0 i).1 = -1 then (0, (tst o s0 i).2) else ((tst o s0 i).1 ||| ((1 : Int32) <<< (o i (tst o s0 i).1 &&& 31)), (tst o s0 i).2 + 1)
theorem s_talkL {N w p n x : Nat} {b no fl s0 : Int32} {e m al kd wt : Nat → Int32} {en kn wn : Nat → Nat} (hN : 3000 ≤ N) (hw : w ≤ 10) (hw0 : 0 < w) (hp : p ≤ 5) (hp0 : 0 < p) (hn : n ≤ 60) (hx : x < 2147483648) (he : okE w e en) (hk : okP p kd wt kn wn) : fX10_talks_b65 N b no fl (nI w) (nI p) e m al kd wt (nI n) (Int64.ofNat x) s0 0 0 = some ((tst (fun i sd => fo (bt (ans (kn (i % p)) (wt (i % p)) en m al w sd (akd x (i + 1) w))) m (wt (i % p)) w (-1) 0) s0 n).2, b, no, fl) := by
  unfold fX10_talks_b65
  refine fx4 (fun d (a : Int64) (s : Int32) (c : Int32) (k : Int32) => ∃ i, i + d = n ∧ k = nI i ∧ a = Int64.ofNat (sdn x i) ∧ (s, c) = tst (fun i sd => fo (bt (ans (kn (i % p)) (wt (i % p)) en m al w sd (akd x (i + 1) w))) m (wt (i % p)) w (-1) 0) s0 i) (fun o => o = some ((tst (fun i sd => fo (bt (ans (kn (i % p)) (wt (i % p)) en m al w sd (akd x (i + 1) w))) m (wt (i % p)) w (-1) 0) s0 n).2, b, no, fl)) ?_ N n _ _ _ _ (by omega) ⟨0, by omega, rfl, rfl, rfl⟩
  intro r d a s c k hI hr
  obtain ⟨i, hi, rfl, rfl, hst⟩ := hI
  unfold fX10_talks_b65_body fX10_talks_b200
  rcases Nat.eq_zero_or_pos d with h0 | h0
  · rw [hd_end (by omega) (by omega), show n = i by omega, ← hst]
  · have hip : i % p < p := Nat.mod_lt _ hp0
    have hia : akd x (i + 1) w < w := Nat.mod_lt _ hw0
    obtain ⟨k1, k2, k3, k4⟩ := hk (i % p) hip
    rw [hd_go (by omega) (by omega), gm_nzL_ok (by decide), sdn_s hx, gm_let_s, gm_nzL_ok (by decide), gm_nzL_ok (by
      rw [show Int32.toInt64 (nI w) = Int64.ofNat w from Int32.toInt64_ofNat' (by
        have : Int32.maxValue.toInt = 2147483647 := by decide
        omega)]
      intro q
      have q2 := congrArg Int64.toInt q
      rw [Int64.toInt_ofNat_of_lt (by omega)] at q2
      have : (0 : Int64).toInt = 0 := by decide
      omega), akd_s hx hw, gm_let_s, gm_nz_ok (by
      intro q
      have := congrArg Int32.toNatClampNeg q
      rw [cl_n (by omega), cl0] at this
      omega), tmod i (by omega) p (by omega) hp0, gm_let_s, gm_chk_n (by omega) (by decide), cl_n (by omega), k2, gm_chk_n (by omega) (by decide), gm_chk_n (by omega) (by decide), s_KD (m := m) (al := al) (by omega) hw he hia k1, gm_bind_s, gm_chk_n (by omega) (by decide), s_firstOf (by omega) hw, gm_bind_s]
    have hs1 := congrArg Prod.fst hst
    have hs2 := congrArg Prod.snd hst
    have hgo : ∀ z y, (z, y) = tst (fun i sd => fo (bt (ans (kn (i % p)) (wt (i % p)) en m al w sd (akd x (i + 1) w))) m (wt (i % p)) w (-1) 0) s0 (i + 1) → r (Int64.ofNat (sdn x (i + 1))) z y (nI i + 1) = some ((tst (fun i sd => fo (bt (ans (kn (i % p)) (wt (i % p)) en m al w sd (akd x (i + 1) w))) m (wt (i % p)) w (-1) 0) s0 n).2, b, no, fl) := fun z y hz => hr _ _ _ _ (d - 1) (by omega) ⟨i + 1, by omega, nI_1 i, rfl, hz⟩
    rw [tst, ← hst] at hgo
    by_cases q : fo (bt (ans (kn (i % p)) (wt (i % p)) en m al w s (akd x (i + 1) w))) m (wt (i % p)) w (-1) 0 = -1
    · refine (if_pos q).trans (hgo _ _ ?_)
      rw [if_pos q]
    · refine (if_neg q).trans (hgo _ _ ?_)
      rw [if_neg q]
      rfl
theorem s_Mdown {N w p j : Nat} {t x2 x3 x6 x7 x9 : Int32} {x4 : Int64} {rf f e m al kd wt : Nat → Int32} {r71 : (Nat → Int32) → Int64 → Int32 → Int32 → Option (Int32 × Int32 × (Nat → Int32) × (Nat → Int32))} (hN : 3000 ≤ N) (hf : rowE w f e m al) (hg : rowP p f kd wt) (hw : w ≤ 10) (hp : p ≤ 5) (hj : j < p) : fX11_talks_b140 N r71 t rf f x2 x3 x4 x6 x7 (nI j) x9 (-1) (nI w - 1) = fX11_talks_b218 N r71 t rf f x2 x3 x4 x6 x7 (fo (bt x9) m (wt j) w (-1) 0) := by
  rw [fo_dn0 hw]
  unfold fX11_talks_b140
  refine fx2 (fun d (a b : Int32) => d ≤ w ∧ b + 1 = nI d ∧ a = cq (dnw (bt x9) (fun i => decide (m i = wt j)) w (w - d))) (fun o => o = fX11_talks_b218 N r71 t rf f x2 x3 x4 x6 x7 (cq (dnw (bt x9) (fun i => decide (m i = wt j)) w w))) ?_ N w _ _ (by omega) ⟨Nat.le_refl w, Int32.sub_add_cancel _ _, by rw [Nat.sub_self]; rfl⟩
  intro r d a b hI hr
  obtain ⟨hd, hb, rfl⟩ := hI
  unfold fX11_talks_b140_body
  rcases Nat.eq_zero_or_pos d with h0 | h0
  · subst h0
    have e : b = -1 := by
      have h2 := congrArg (fun z => z - 1) hb
      simp only [Int32.add_sub_cancel] at h2
      rw [h2]; rfl
    subst e
    rw [if_pos (by decide), Nat.sub_zero]
  · obtain ⟨d, rfl⟩ : ∃ k, d = k + 1 := ⟨d - 1, by omega⟩
    have e : b = nI d := by
      rw [← nI_1] at hb
      exact (Int32.add_left_inj 1).mp hb
    subst e
    have hsm : d + 1 - 1 = d := by omega
    generalize hD : dnw (bt x9) (fun i => decide (m i = wt j)) w (w - (d + 1)) = D
    have hDw : D ≤ w := by rw [← hD]; exact dnw_le _ _ _ (by omega)
    have hgo : ∀ z, z = cq (dnw (bt x9) (fun i => decide (m i = wt j)) w (w - d)) → r z (nI d + (-1)) = fX11_talks_b218 N r71 t rf f x2 x3 x4 x6 x7 (cq (dnw (bt x9) (fun i => decide (m i = wt j)) w w)) := by
      intro z hz
      refine hr _ _ d (by omega) ⟨by omega, ?_, hz⟩
      rw [Int32.add_assoc, show ((-1 : Int32) + 1) = 0 by decide, Int32.add_zero]
    rw [show w - d = (w - (d + 1)) + 1 by omega, dnw, hD, show w - (w - (d + 1) + 1) = d by omega] at hgo
    have hX : ∀ (k0 : Int32), (k0 = 0 ↔ ¬ (D ≠ 0 ∧ decide (m (D - 1) = wt j) = true)) → fX11_talks_b171 N r71 r t rf f x2 x3 x4 x6 x7 (nI j) x9 (cq D) (nI d) k0 = fX11_talks_b218 N r71 t rf f x2 x3 x4 x6 x7 (cq (dnw (bt x9) (fun i => decide (m i = wt j)) w w)) := by
      intro k0 hk0
      unfold fX11_talks_b171 fX11_talks_b208 fX11_talks_b203 fX11_talks_b210
      rw [s_Mhas _ (by omega), gm_bind_s, s_Mmeaning hf hw (by omega), gm_bind_s, s_Mwant hg hp hj, gm_bind_s]
      cases hbb : bt x9 d with
      | false =>
        rw [if_pos (by decide)]
        exact hgo _ (by rw [hbb, if_neg (by decide)])
      | true =>
        rw [if_neg (by decide)]
        by_cases q : m d = wt j
        · rw [if_pos q]
          exact hgo _ (by rw [hbb, if_pos rfl, if_pos (decide_eq_true q)]; unfold cq; rw [if_neg (by omega), Nat.add_sub_cancel])
        · rw [if_neg q]
          by_cases q2 : D ≠ 0 ∧ decide (m (D - 1) = wt j) = true
          · rw [if_neg (fun z => hk0.mp z q2)]
            exact hgo _ (by rw [hbb, if_pos rfl, if_neg (by rw [decide_eq_false q]; decide), if_pos q2])
          · rw [if_pos (hk0.mpr q2)]
            exact hgo _ (by rw [hbb, if_pos rfl, if_neg (by rw [decide_eq_false q]; decide), if_neg q2]; unfold cq; rw [if_neg (by omega), Nat.add_sub_cancel])
    rw [if_neg (show ¬ nI d < (0 : Int32) from Int32.not_lt.mpr (nI_le (a := 0) (b := d) (Nat.zero_le _) (by omega)))]
    unfold fX11_talks_b170
    by_cases q : D = 0
    · subst q
      rw [if_pos (by decide)]
      exact hX 0 ⟨fun _ q => q.1 rfl, fun _ => rfl⟩
    · rw [if_neg (fun z => q ((cq_m1 D (by omega)).mp z))]
      rw [show fX11_meaning N f (cq D) = some (m (D - 1)) by unfold cq; rw [if_neg q]; exact s_Mmeaning hf hw (by omega), gm_bind_s, s_Mwant hg hp hj, gm_bind_s]
      by_cases q2 : m (D - 1) = wt j
      · rw [if_pos q2]
        exact hX 1 ⟨fun z => absurd z (by decide), fun z => absurd ⟨q, decide_eq_true q2⟩ z⟩
      · rw [if_neg q2]
        exact hX 0 ⟨fun _ z => q2 (of_decide_eq_true z.2), fun _ => rfl⟩
theorem s_MtalkL {N w p n x : Nat} {t s0 : Int32} {rf f e m al kd wt : Nat → Int32} {en kn wn : Nat → Nat} (hN : 3000 ≤ N) (hf : rowE w f e m al) (hg : rowP p f kd wt) (h2 : f 2 = s0) (hw : w ≤ 10) (hw0 : 0 < w) (hp : p ≤ 5) (hp0 : 0 < p) (hn : n ≤ 60) (hx : x < 2147483648) (he : okE w e en) (hk : okP p kd wt kn wn) (hs : symA al) : ∃ f' : Nat → Int32, fX11_talks_b71 N t rf (nI n) s0 f (Int64.ofNat x) 0 0 = some ((tst (fun i sd => fo (bt (ans (kn (i % p)) (wt (i % p)) en m al w sd (akd x (i + 1) w))) m (wt (i % p)) w (-1) 0) s0 n).2, t, rf, f') ∧ ∀ j, f' j = f j := by
  unfold fX11_talks_b71
  refine fx4 (fun d (g : Nat → Int32) (a : Int64) (c : Int32) (k : Int32) => ∃ i, i + d = n ∧ k = nI i ∧ a = Int64.ofNat (sdn x i) ∧ (g 2, c) = tst (fun i sd => fo (bt (ans (kn (i % p)) (wt (i % p)) en m al w sd (akd x (i + 1) w))) m (wt (i % p)) w (-1) 0) s0 i ∧ ∀ j, j ≠ 2 → g j = f j) (fun o => ∃ f' : Nat → Int32, o = some ((tst (fun i sd => fo (bt (ans (kn (i % p)) (wt (i % p)) en m al w sd (akd x (i + 1) w))) m (wt (i % p)) w (-1) 0) s0 n).2, t, rf, f') ∧ ∀ j, f' j = f j) ?_ N n _ _ _ _ (by omega) ⟨0, by omega, rfl, rfl, by rw [h2]; rfl, fun j _ => rfl⟩
  intro r d g a c k hI hr
  obtain ⟨i, hi, rfl, rfl, hst, hgf⟩ := hI
  unfold fX11_talks_b71_body
  rcases Nat.eq_zero_or_pos d with h0 | h0
  · unfold fX11_talks_b267
    rw [hd_end (by omega) (by omega), ck2 (by decide), cl2, show n = i by omega, ← hst]
    refine ⟨_, rfl, fun j => ?_⟩
    by_cases q : j = 2
    · rw [q, upd_s, h2]
    · rw [upd_n q, hgf j q]
  · have hip : i % p < p := Nat.mod_lt _ hp0
    have hia : akd x (i + 1) w < w := Nat.mod_lt _ hw0
    have hf' : rowE w g e m al := ⟨by rw [hgf 0 (by decide)]; exact hf.1, fun j hj => by rw [hgf _ (by omega), hgf _ (by omega)]; exact hf.2.1 j hj, fun a ha => by rw [hgf _ (by omega)]; exact hf.2.2 a ha⟩
    have hg' : rowP p g kd wt := ⟨by rw [hgf 1 (by decide)]; exact hg.1, fun j hj => by rw [hgf _ (by omega), hgf _ (by omega)]; exact hg.2 j hj⟩
    rw [hd_go (by omega) (by omega), gm_nzL_ok (by decide), sdn_s hx, gm_let_s, ck1 (by decide), cl1, hg'.1, gm_nz_ok (by
      intro q
      have := congrArg Int32.toNatClampNeg q
      rw [cl_n (by omega), cl0] at this
      omega), tmod i (by omega) p (by omega) hp0, gm_let_s, gm_nzL_ok (by decide), ck0 (by decide), cl0, hf'.1, gm_nzL_ok (by
      rw [show Int32.toInt64 (nI w) = Int64.ofNat w from Int32.toInt64_ofNat' (by
        have : Int32.maxValue.toInt = 2147483647 := by decide
        omega)]
      intro q
      have q2 := congrArg Int64.toInt q
      rw [Int64.toInt_ofNat_of_lt (by omega)] at q2
      have : (0 : Int64).toInt = 0 := by decide
      omega), akd_s hx hw, s_MansTo (by omega) hf' hg' rfl hw hp he hk hs hip hia, gm_bind_s, ck0 (by decide), gm_let_s, s_Mdown hN hf' hg' hw hp hip]
    have hgo : ∀ (z : Nat → Int32) y, (z 2, y) = tst (fun i sd => fo (bt (ans (kn (i % p)) (wt (i % p)) en m al w sd (akd x (i + 1) w))) m (wt (i % p)) w (-1) 0) s0 (i + 1) → (∀ j, j ≠ 2 → z j = f j) → ∃ f' : Nat → Int32, r z (Int64.ofNat (sdn x (i + 1))) y (nI i + 1) = some ((tst (fun i sd => fo (bt (ans (kn (i % p)) (wt (i % p)) en m al w sd (akd x (i + 1) w))) m (wt (i % p)) w (-1) 0) s0 n).2, t, rf, f') ∧ ∀ j, f' j = f j := fun z y hz hz2 => hr _ _ _ _ (d - 1) (by omega) ⟨i + 1, by omega, nI_1 i, rfl, hz, hz2⟩
    rw [tst, ← hst] at hgo
    unfold fX11_talks_b218 fX11_talks_b244 fX11_talks_b258
    have hu : ∀ (v : Int32) j, j ≠ 2 → upd g 2 v j = f j := fun v j hj => by rw [upd_n hj, hgf j hj]
    by_cases q : fo (bt (ans (kn (i % p)) (wt (i % p)) en m al w (g 2) (akd x (i + 1) w))) m (wt (i % p)) w (-1) 0 = -1
    · rw [if_pos q, if_pos q, ck2 (by decide), cl2, gm_let_s, Int32.add_zero]
      refine hgo _ _ ?_ (hu _)
      rw [upd_s]
      exact (if_pos q).symm
    · rw [if_neg q, if_neg q, ck2 (by decide), ck2 (by decide), cl2, gm_let_s]
      refine hgo _ _ ?_ (hu _)
      rw [upd_s]
      exact (if_neg q).symm
set_option maxHeartbeats 4000000 in
theorem sim_talks {N : Nat} (hN : 3000 ≤ N) : S_talks N gm_R := by
  intro m_imagesKept m_bads m_nos m_fulls m_above m_below m_now_words m_now_people m_now_said m_now_undos m_now_heard m_now_ending m_now_meaning m_now_cost m_now_alikeTo m_now_kind m_now_want m_now_saidAhead m_now_heardWord m_now_heardAnswer m_draft_words m_draft_people m_draft_said m_draft_undos m_draft_heard m_draft_ending m_draft_meaning m_draft_cost m_draft_alikeTo m_draft_kind m_draft_want m_draft_saidAhead m_draft_heardWord m_draft_heardAnswer m_images_0_words m_images_0_people m_images_0_said m_images_0_undos m_images_0_heard m_images_0_ending m_images_0_meaning m_images_0_cost m_images_0_alikeTo m_images_0_kind m_images_0_want m_images_0_saidAhead m_images_0_heardWord m_images_0_heardAnswer m_images_1_words m_images_1_people m_images_1_said m_images_1_undos m_images_1_heard m_images_1_ending m_images_1_meaning m_images_1_cost m_images_1_alikeTo m_images_1_kind m_images_1_want m_images_1_saidAhead m_images_1_heardWord m_images_1_heardAnswer m_text_length m_text_items m_text_place m_text_start m_text_token m_text_number m_text_bytes m_duel_words m_duel_saidAtFirst m_duel_asked m_duel_longest m_duel_shortest m_duel_chimesOfFirst m_duel_chimesOfSecond m_duel_lasts m_cover_sayable m_cover_price m_cover_covered m_cover_spent m_clashes m_tally m_sayableByPair m_chosenPairs n_thrown n_size n_at n_start n_token n_value n_faultAt n_allowed n_firstPair n_secondPair n_above n_below n_refused n_tongue n_fresh n_kept n_isKept n_text n_said n_talk hR x1 x2
  obtain ⟨hT, hX, hF, hA, hI, hC⟩ := hR
  have hT0 := hT
  obtain ⟨w, p, u, h, en, mn, cn, kn, wn, ⟨hw, hp, hu8, hh6⟩, ⟨rfl, rfl, rfl, rfl⟩, hrE, hrP, hr2, hco, hE, hM, hP, hs, hir, hh, hu, hsd⟩ := hT
  cases hi1 : inr x1 1000000 with
  | false =>
    have h1 : fX10_talks N m_bads m_nos m_fulls (nI w) (nI p) m_now_said m_now_ending m_now_meaning m_now_alikeTo m_now_kind m_now_want x1 x2 = some (-2, m_bads + 1, m_nos, m_fulls) := by
      unfold fX10_talks fX10_talks_b18
      rw [s_fl x1 1000000 1000000 rfl (by decide), gm_bind_s, hi1, if_pos (by decide), s_refB, gm_bind_s]
    have h2 : fX11_talks N n_thrown n_refused n_tongue x1 x2 = some (-2, 0, upd n_refused 0 (n_refused 0 + 1), n_tongue) := by
      unfold fX11_talks fX11_talks_b29
      rw [s_in (B := 1000000) x1 999999 (by decide), gm_bind_s, hi1, if_pos (by decide), s_bad, gm_bind_s]
    exact ⟨_, _, h1, h2, rfl, hT0, hX, RFb hF, hA, hI, hC⟩
  | true =>
    obtain ⟨sx, hsx, rfl⟩ := inr_t hi1 (by omega)
    cases hi2 : inr x2 61 with
    | false =>
      have h1 : fX10_talks N m_bads m_nos m_fulls (nI w) (nI p) m_now_said m_now_ending m_now_meaning m_now_alikeTo m_now_kind m_now_want (nI sx) x2 = some (-2, m_bads + 1, m_nos, m_fulls) := by
        unfold fX10_talks fX10_talks_b18
        rw [s_fl (nI sx) 1000000 1000000 rfl (by decide), gm_bind_s, hi1, if_neg (by decide), s_fl x2 61 61 rfl (by decide), gm_bind_s, hi2, if_pos (by decide), s_refB, gm_bind_s]
      have h2 : fX11_talks N n_thrown n_refused n_tongue (nI sx) x2 = some (-2, 0, upd n_refused 0 (n_refused 0 + 1), n_tongue) := by
        unfold fX11_talks fX11_talks_b29
        rw [s_in (B := 1000000) (nI sx) 999999 (by decide), gm_bind_s, hi1, if_neg (by decide), s_in (B := 61) x2 60 (by decide), gm_bind_s, hi2, if_pos (by decide), s_bad, gm_bind_s]
      exact ⟨_, _, h1, h2, rfl, hT0, hX, RFb hF, hA, hI, hC⟩
    | true =>
      obtain ⟨n, hn, rfl⟩ := inr_t hi2 (by omega)
      have hcast : Int32.toInt64 (nI sx) = Int64.ofNat sx := Int32.toInt64_ofNat' (by
        have : Int32.maxValue.toInt = 2147483647 := by decide
        omega)
      have h1 : fX10_talks N m_bads m_nos m_fulls (nI w) (nI p) m_now_said m_now_ending m_now_meaning m_now_alikeTo m_now_kind m_now_want (nI sx) (nI n) = some (if w = 0 ∨ p = 0 then -1 else (tst (fun i sd => fo (bt (ans (kn (i % p)) (m_now_want (i % p)) en m_now_meaning m_now_alikeTo w sd (akd sx (i + 1) w))) m_now_meaning (m_now_want (i % p)) w (-1) 0) m_now_said n).2, m_bads, m_nos, m_fulls) := by
        unfold fX10_talks
        rw [s_fl (nI sx) 1000000 1000000 rfl (by decide), gm_bind_s, hi1, if_neg (by decide), s_fl (nI n) 61 61 rfl (by decide), gm_bind_s, hi2, if_neg (by decide)]
        by_cases q : w = 0
        · subst q
          rw [if_pos (show nI 0 = (0 : Int32) from rfl), if_pos (Or.inl rfl)]
        · rw [if_neg (fun e => q (by have := congrArg Int32.toNatClampNeg e; rwa [cl_n (by omega), cl0] at this))]
          by_cases q2 : p = 0
          · subst q2
            rw [if_pos (show nI 0 = (0 : Int32) from rfl), if_pos (Or.inr rfl)]
          · rw [if_neg (fun e => q2 (by have := congrArg Int32.toNatClampNeg e; rwa [cl_n (by omega), cl0] at this)), gm_let_s, hcast, if_neg (fun e => by omega)]
            exact s_talkL hN hw (by omega) hp (by omega) (by omega) (by omega) hE hP
      have h2 : ∃ f' : Nat → Int32, fX11_talks N n_thrown n_refused n_tongue (nI sx) (nI n) = some (if w = 0 ∨ p = 0 then -1 else (tst (fun i sd => fo (bt (ans (kn (i % p)) (m_now_want (i % p)) en m_now_meaning m_now_alikeTo w sd (akd sx (i + 1) w))) m_now_meaning (m_now_want (i % p)) w (-1) 0) m_now_said n).2, 0, n_refused, f') ∧ ∀ j, f' j = n_tongue j := by
        unfold fX11_talks
        rw [s_in (B := 1000000) (nI sx) 999999 (by decide), gm_bind_s, hi1, if_neg (by decide), s_in (B := 61) (nI n) 60 (by decide), gm_bind_s, hi2, if_neg (by decide), ck0 (by decide), cl0, hrE.1]
        by_cases q : w = 0
        · subst q
          rw [if_pos (show nI 0 = (0 : Int32) from rfl), if_pos (Or.inl rfl)]
          exact ⟨_, rfl, fun _ => rfl⟩
        · rw [if_neg (fun e => q (by have := congrArg Int32.toNatClampNeg e; rwa [cl_n (by omega), cl0] at this)), ck1 (by decide), cl1, hrP.1]
          by_cases q2 : p = 0
          · subst q2
            rw [if_pos (show nI 0 = (0 : Int32) from rfl), if_pos (Or.inr rfl)]
            exact ⟨_, rfl, fun _ => rfl⟩
          · rw [if_neg (fun e => q2 (by have := congrArg Int32.toNatClampNeg e; rwa [cl_n (by omega), cl0] at this)), ck2 (by decide), gm_let_s, cl2, gm_let_s, hcast, if_neg (fun e => by omega), hr2.1]
            exact s_MtalkL hN hrE hrP hr2.1 hw (by omega) hp (by omega) (by omega) (by omega) hE hP hs
      obtain ⟨f', h2, hf'⟩ := h2
      exact ⟨_, _, h1, h2, rfl, RT_row hT0 (fun j _ => hf' j), hX, hF, hA, hI, hC⟩
