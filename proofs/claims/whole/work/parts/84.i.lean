/-! ===== tokens ===== -/
def run (P : Nat → Bool) : Nat → Nat → Nat
  | 0, a => a
  | d + 1, a => if P a then run P d (a + 1) else a
def rn (P : Nat → Bool) (n a : Nat) : Nat := run P (n - a) a
theorem rn_end {P : Nat → Bool} {n a : Nat} (h : n ≤ a) : rn P n a = a := by unfold rn; rw [show n - a = 0 by omega]; rfl
theorem rn_no {P : Nat → Bool} {n a : Nat} (h : P a = false) : rn P n a = a := by
  unfold rn
  cases n - a with
  | zero => rfl
  | succ d => rw [run, h]; rfl
theorem rn_go {P : Nat → Bool} {n a : Nat} (h : a < n) (hP : P a = true) : rn P n a = rn P n (a + 1) := by
  unfold rn
  rw [show n - a = (n - (a + 1)) + 1 by omega, run, hP]; rfl
theorem run_b {P : Nat → Bool} : ∀ (d a : Nat), a ≤ run P d a ∧ run P d a ≤ a + d ∧ ∀ i, a ≤ i → i < run P d a → P i = true
  | 0, a => ⟨Nat.le_refl _, Nat.le_refl _, fun i h1 h2 => by rw [run] at h2; omega⟩
  | d + 1, a => by
    rw [run]
    cases hP : P a with
    | false => rw [if_neg (by decide)]; exact ⟨Nat.le_refl _, by omega, fun i h1 h2 => by omega⟩
    | true =>
      rw [if_pos rfl]
      obtain ⟨h1, h2, h3⟩ := run_b (P := P) d (a + 1)
      refine ⟨by omega, by omega, fun i hi hj => ?_⟩
      by_cases q : i = a
      · rw [q]; exact hP
      · exact h3 i (by omega) hj
theorem rn_b {P : Nat → Bool} {n a : Nat} (h : a ≤ n) : a ≤ rn P n a ∧ rn P n a ≤ n ∧ ∀ i, a ≤ i → i < rn P n a → P i = true := by
  obtain ⟨h1, h2, h3⟩ := run_b (P := P) (n - a) a
  exact ⟨h1, by unfold rn; omega, h3⟩
def so (v : Nat) : Nat := if 97 ≤ v ∧ v ≤ 122 then 1 else if 48 ≤ v ∧ v ≤ 57 then 2 else if v = 59 then 3 else 4
theorem so_0 : ∀ v, v < 128 → fX6_sortOf 0 (nI v) = some (nI (so v)) := by decide +kernel
theorem s_sortOf {N v : Nat} (h : v < 128) : fX6_sortOf N (nI v) = some (nI (so v)) := so_0 v h
theorem inL_0 : ∀ v, v < 128 → fX11_in 0 (Int32.toInt64 (nI v)) 97 122 = some (bi (decide (so v = 1))) := by decide +kernel
theorem inF_0 : ∀ v, v < 128 → fX11_in 0 (Int32.toInt64 (nI v)) 48 57 = some (bi (decide (so v = 2))) := by decide +kernel
theorem so_l {v : Nat} (h : so v = 1) : 97 ≤ v ∧ v ≤ 122 := by
  unfold so at h
  split at h
  · assumption
  · split at h
    · omega
    · split at h <;> omega
theorem so_f {v : Nat} (h : so v = 2) : 48 ≤ v ∧ v ≤ 57 := by
  unfold so at h
  split at h
  · omega
  · split at h
    · assumption
    · split at h <;> omega
theorem so_s {v : Nat} : so v = 3 ↔ v = 59 := by
  unfold so
  constructor
  · intro h
    split at h
    · omega
    · split at h
      · omega
      · split at h
        · assumption
        · omega
  · intro h
    subst h
    decide
theorem so_b (v : Nat) : so v = 1 ∨ so v = 2 ∨ so v = 3 ∨ so v = 4 := by
  unfold so
  split
  · exact Or.inl rfl
  · split
    · exact Or.inr (Or.inl rfl)
    · split
      · exact Or.inr (Or.inr (Or.inl rfl))
      · exact Or.inr (Or.inr (Or.inr rfl))
theorem nI_sub {a b : Nat} (h : b ≤ a) : nI a - nI b = nI (a - b) := (Int32.ofNat_sub a b h).symm
def dv (tv : Nat → Nat) (s : Nat) : Nat → Nat
  | 0 => 0
  | k + 1 => dv tv s k * 10 + (tv (s + k) - 48)
def vl (tv : Nat → Nat) (s : Nat) : Nat → Nat
  | 0 => 0
  | k + 1 => 27 * vl tv s k + (tv (s + k) - 96)
theorem vl_inj {g g' : Nat → Nat} {s s' : Nat} : ∀ k k', (∀ i, i < k → 97 ≤ g (s + i) ∧ g (s + i) ≤ 122) → (∀ i, i < k' → 97 ≤ g' (s' + i) ∧ g' (s' + i) ≤ 122) → vl g s k = vl g' s' k' → k = k' ∧ ∀ i, i < k → g (s + i) = g' (s' + i)
  | 0, 0, _, _, _ => ⟨rfl, fun i hi => absurd hi (Nat.not_lt_zero i)⟩
  | 0, k' + 1, _, h', h => by
    have := h' k' (by omega)
    rw [vl, vl] at h
    omega
  | k + 1, 0, h', _, h => by
    have := h' k (by omega)
    rw [vl, vl] at h
    omega
  | k + 1, k' + 1, h1, h2, h => by
    have a1 := h1 k (by omega)
    have a2 := h2 k' (by omega)
    rw [vl, vl] at h
    have e1 : vl g s k = vl g' s' k' := by omega
    have e2 : g (s + k) = g' (s' + k') := by omega
    obtain ⟨q1, q2⟩ := vl_inj k k' (fun i hi => h1 i (by omega)) (fun i hi => h2 i (by omega)) e1
    subst q1
    refine ⟨rfl, fun i hi => ?_⟩
    by_cases q : i = k
    · rw [q]; exact e2
    · exact q2 i (by omega)
theorem vl_lt {g : Nat → Nat} {s : Nat} : ∀ k, (∀ i, i < k → g (s + i) ≤ 122) → vl g s k < 27 ^ k
  | 0, _ => by rw [vl]; decide
  | k + 1, h => by
    have a1 := h k (by omega)
    have ih := vl_lt (g := g) (s := s) k (fun i hi => h i (by omega))
    rw [vl, Nat.pow_succ]
    omega
theorem dv_lt {g : Nat → Nat} {s k : Nat} (hk : k ≤ 2) (h : ∀ i, i < k → g (s + i) ≤ 57) : dv g s k < 100 := by
  rcases (show k = 0 ∨ k = 1 ∨ k = 2 by omega) with e | e | e <;> subst e
  · rw [dv]; decide
  · have := h 0 (by omega)
    simp only [dv]; omega
  · have := h 0 (by omega)
    have := h 1 (by omega)
    simp only [dv, Nat.add_zero] at *; omega
section TK
variable {N n : Nat} {by' tx : Nat → Int32} {tv : Nat → Nat}
theorem s_isL (hn : n ≤ 150) (hb : ∀ j, j < n → by' j = nI (tv j) ∧ tx j = nI (tv j) ∧ tv j < 128) {a : Nat} (ha : a ≤ n) : fX11_isLetter N (nI n) (nI a) tx = some (bi (decide (a < n) && decide (so (tv a) = 1))) := by
  unfold fX11_isLetter
  by_cases q : a < n
  · rw [hd_go q (by omega), gm_chk_n (by omega) (by decide), cl_n (by omega), (hb a q).2.1, show fX11_in N (Int32.toInt64 (nI (tv a))) 97 122 = _ from inL_0 (tv a) (hb a q).2.2, gm_bind_s, decide_eq_true q]
    cases decide (so (tv a) = 1) <;> rfl
  · rw [hd_end (by omega) (by omega), decide_eq_false q]; rfl
theorem s_isF (hn : n ≤ 150) (hb : ∀ j, j < n → by' j = nI (tv j) ∧ tx j = nI (tv j) ∧ tv j < 128) {a : Nat} (ha : a ≤ n) : fX11_isFigure N (nI n) (nI a) tx = some (bi (decide (a < n) && decide (so (tv a) = 2))) := by
  unfold fX11_isFigure
  by_cases q : a < n
  · rw [hd_go q (by omega), gm_chk_n (by omega) (by decide), cl_n (by omega), (hb a q).2.1, show fX11_in N (Int32.toInt64 (nI (tv a))) 48 57 = _ from inF_0 (tv a) (hb a q).2.2, gm_bind_s, decide_eq_true q]
    cases decide (so (tv a) = 2) <;> rfl
  · rw [hd_end (by omega) (by omega), decide_eq_false q]; rfl
def spc (tv : Nat → Nat) (i : Nat) : Bool := decide (tv i = 32)
theorem nI32 {v : Nat} (hv : v < 128) : nI v = 32 ↔ v = 32 := nI_eq (a := v) (b := 32) (by omega) (by decide)
theorem s_skip (hN : 3000 ≤ N) (hn : n ≤ 150) (hb : ∀ j, j < n → by' j = nI (tv j) ∧ tx j = nI (tv j) ∧ tv j < 128) {a : Nat} (ha : a ≤ n) (st tk num : Int32) : fX6_take N (nI n) (nI a) st tk num by' = fX6_take_b38 N (nI n) (nI (rn (spc tv) n a)) st tk num by' := by
  unfold fX6_take fX6_take_b0
  refine fx1 (fun d (x : Int32) => ∃ i, i + d = n ∧ x = nI i ∧ rn (spc tv) n i = rn (spc tv) n a) (fun o => o = fX6_take_b38 N (nI n) (nI (rn (spc tv) n a)) st tk num by') ?_ N (n - a) _ (by omega) ⟨a, by omega, rfl, rfl⟩
  intro r d x hI hr
  obtain ⟨i, hi, rfl, he⟩ := hI
  unfold fX6_take_b0_body
  by_cases q : i < n
  · rw [hd_go q (by omega), gm_chk_n (by omega) (by decide), cl_n (by omega), (hb i q).1]
    by_cases q2 : tv i = 32
    · rw [if_pos ((nI32 (hb i q).2.2).mpr q2), gm_let_s]
      exact hr _ (d - 1) (by omega) ⟨i + 1, by omega, nI_1 i, by rw [← he, rn_go q (decide_eq_true q2)]⟩
    · rw [if_neg (fun z => q2 ((nI32 (hb i q).2.2).mp z)), ← he, rn_no (P := spc tv) (decide_eq_false q2)]
  · rw [hd_end (by omega) (by omega), ← he, rn_end (by omega)]
theorem s_Mskip (hN : 3000 ≤ N) (hn : n ≤ 150) (hb : ∀ j, j < n → by' j = nI (tv j) ∧ tx j = nI (tv j) ∧ tv j < 128) {a : Nat} (ha : a ≤ n) (st tk : Int32) (val : Int64) : fX11_next N (nI n) (nI a) st tk val tx = fX11_next_b38 N (nI n) (nI (rn (spc tv) n a)) st tk val tx := by
  unfold fX11_next fX11_next_b0
  refine fx1 (fun d (x : Int32) => ∃ i, i + d = n ∧ x = nI i ∧ rn (spc tv) n i = rn (spc tv) n a) (fun o => o = fX11_next_b38 N (nI n) (nI (rn (spc tv) n a)) st tk val tx) ?_ N (n - a) _ (by omega) ⟨a, by omega, rfl, rfl⟩
  intro r d x hI hr
  obtain ⟨i, hi, rfl, he⟩ := hI
  unfold fX11_next_b0_body
  by_cases q : i < n
  · rw [hd_go q (by omega), gm_chk_n (by omega) (by decide), cl_n (by omega), (hb i q).2.1]
    by_cases q2 : tv i = 32
    · rw [if_pos ((nI32 (hb i q).2.2).mpr q2), gm_let_s]
      exact hr _ (d - 1) (by omega) ⟨i + 1, by omega, nI_1 i, by rw [← he, rn_go q (decide_eq_true q2)]⟩
    · rw [if_neg (fun z => q2 ((nI32 (hb i q).2.2).mp z)), ← he, rn_no (P := spc tv) (decide_eq_false q2)]
  · rw [hd_end (by omega) (by omega), ← he, rn_end (by omega)]
def sok (tv : Nat → Nat) (k i : Nat) : Bool := decide (so (tv i) = k)
theorem s_same (hN : 3000 ≤ N) (hn : n ≤ 150) (hb : ∀ j, j < n → by' j = nI (tv j) ∧ tx j = nI (tv j) ∧ tv j < 128) {s k : Nat} (hs : s ≤ n) (hk : k < 5) (st num : Int32) : fX6_take_b113 N (nI n) st (nI k) num by' (nI s) = fX6_take_b156 N (nI (rn (sok tv k) n s)) st (nI k) num by' := by
  unfold fX6_take_b113
  refine fx1 (fun d (x : Int32) => ∃ i, i + d = n ∧ x = nI i ∧ rn (sok tv k) n i = rn (sok tv k) n s) (fun o => o = fX6_take_b156 N (nI (rn (sok tv k) n s)) st (nI k) num by') ?_ N (n - s) _ (by omega) ⟨s, by omega, rfl, rfl⟩
  intro r d x hI hr
  obtain ⟨i, hi, rfl, he⟩ := hI
  unfold fX6_take_b113_body
  by_cases q : i < n
  · have hso := so_b (tv i)
    rw [hd_go q (by omega), gm_chk_n (by omega) (by decide), cl_n (by omega), (hb i q).1, s_sortOf (hb i q).2.2, gm_bind_s]
    by_cases q2 : so (tv i) = k
    · rw [if_pos (by rw [q2]), gm_let_s]
      exact hr _ (d - 1) (by omega) ⟨i + 1, by omega, nI_1 i, by rw [← he, rn_go q (decide_eq_true q2)]⟩
    · rw [if_neg (fun z => q2 ((nI_eq (by omega) (by omega)).mp z)), ← he, rn_no (P := sok tv k) (decide_eq_false q2)]
  · rw [hd_end (by omega) (by omega), ← he, rn_end (by omega)]
theorem s_settle (hN : 3000 ≤ N) (hn : n ≤ 150) (hb : ∀ j, j < n → by' j = nI (tv j) ∧ tx j = nI (tv j) ∧ tv j < 128) {s e : Nat} (hse : s ≤ e) (hen : e ≤ n) (hf : ∀ i, s ≤ i → i < e → so (tv i) = 2) (num : Int32) : fX6_settleNumber N (nI e) (nI s) 2 num by' = some (if e - s ≤ 2 then nI 2 else nI 4, nI (dv tv s (min 2 (e - s)))) := by
  have key : ∀ tk : Int32, fX6_settleNumber_b28 N (nI e) (nI s) tk by' 0 (nI s) = some (tk, nI (dv tv s (min 2 (e - s)))) := by
    intro tk
    unfold fX6_settleNumber_b28
    refine fx2 (fun d (x y : Int32) => ∃ k, k + d = min 2 (e - s) ∧ x = nI (dv tv s k) ∧ y = nI (s + k)) (fun o => o = some (tk, nI (dv tv s (min 2 (e - s))))) ?_ N (min 2 (e - s)) _ _ (by omega) ⟨0, by omega, rfl, rfl⟩
    intro r d x y hI hr
    obtain ⟨k, hk, rfl, rfl⟩ := hI
    unfold fX6_settleNumber_b28_body
    by_cases q : s + k < e
    · rw [hd_go q (by omega), nI_2]
      by_cases q2 : k < 2
      · have h48 := so_f (hf (s + k) (by omega) q)
        have hdl := dv_lt (g := tv) (s := s) (show k ≤ 2 by omega) (fun i hi => (so_f (hf (s + i) (by omega) (by omega))).2)
        rw [hd_go (by omega) (by omega), gm_chk_n (by omega) (by decide), gm_let_s, cl_n (by omega), (hb (s + k) (by omega)).1]
        refine hr _ _ (d - 1) (by omega) ⟨k + 1, by omega, ?_, nI_1 (s + k)⟩
        rw [show (10 : Int32) = nI 10 from rfl, pk_mul, nI_add, show (48 : Int32) = nI 48 from rfl, nI_sub (by omega), dv]
        congr 1
        omega
      · rw [hd_end (by omega) (by omega), show k = min 2 (e - s) by omega]
    · rw [hd_end (by omega) (by omega), show k = min 2 (e - s) by omega]
  unfold fX6_settleNumber fX6_settleNumber_b18
  rw [nI_sub hse]
  by_cases q : e - s ≤ 2
  · rw [if_pos (show nI (e - s) ≤ 2 from nI_le (b := 2) q (by decide)), key, if_pos q]; rfl
  · rw [if_neg (show ¬ nI (e - s) ≤ 2 from nI_ge (a := 2) (by omega) (by omega)), key, if_neg q]; rfl
theorem L_v {v : Nat} (hv : v < 128) : Int32.toInt64 (nI v) = Int64.ofNat v := Int32.toInt64_ofNat' (by
  have : Int32.maxValue.toInt = 2147483647 := by decide
  omega)
def Wv (tv : Nat → Nat) (s k : Nat) : Int64 := if k ≤ 7 then Int64.ofNat (vl tv s k) else -1
theorem s_Mletters (hN : 3000 ≤ N) (hn : n ≤ 150) (hb : ∀ j, j < n → by' j = nI (tv j) ∧ tx j = nI (tv j) ∧ tv j < 128) {s : Nat} (hs : s ≤ n) (st tk : Int32) : fX11_next_b84 N (nI n) st tk tx (nI s) 0 0 = some (nI (rn (sok tv 1) n s), st, tk, Wv tv s (rn (sok tv 1) n s - s)) := by
  unfold fX11_next_b84
  refine fx3 (fun d (x : Int32) (v : Int64) (y : Int32) => ∃ i, i + d = n ∧ s ≤ i ∧ x = nI i ∧ v = Wv tv s (i - s) ∧ y = nI (i - s) ∧ rn (sok tv 1) n i = rn (sok tv 1) n s) (fun o => o = some (nI (rn (sok tv 1) n s), st, tk, Wv tv s (rn (sok tv 1) n s - s))) ?_ N (n - s) _ _ _ (by omega) ⟨s, by omega, by omega, rfl, by rw [Nat.sub_self]; rfl, by rw [Nat.sub_self]; rfl, rfl⟩
  intro r d x v y hI hr
  obtain ⟨i, hi, hsi, rfl, rfl, rfl, he⟩ := hI
  unfold fX11_next_b84_body fX11_next_b127
  rw [s_isL hn hb (by omega), gm_bind_s]
  by_cases q : i < n
  · by_cases q2 : so (tv i) = 1
    · rw [decide_eq_true q, decide_eq_true q2, if_neg (by decide)]
      have hgo : ∀ z, z = Wv tv s (i + 1 - s) → r (nI i + 1) z (nI (i - s) + 1) = some (nI (rn (sok tv 1) n s), st, tk, Wv tv s (rn (sok tv 1) n s - s)) := fun z hz => hr _ _ _ (d - 1) (by omega) ⟨i + 1, by omega, by omega, nI_1 i, hz, by rw [nI_1]; congr 1; omega, by rw [← he, rn_go q (decide_eq_true q2)]⟩
      by_cases q3 : 7 ≤ i - s
      · rw [hl_end (K := 7) (n := 7) rfl q3 (by omega), gm_let_s]
        exact hgo _ (by unfold Wv; rw [if_neg (by omega)])
      · have hl := so_l q2
        rw [hl_go (K := 7) (n := 7) rfl (by omega) (by omega), gm_chk_n (by omega) (by decide), gm_let_s, cl_n (by omega), (hb i q).2.1, L_v (hb i q).2.2]
        refine hgo _ ?_
        unfold Wv
        rw [if_pos (by omega), if_pos (by omega), show (27 : Int64) = Int64.ofNat 27 from rfl, show (96 : Int64) = Int64.ofNat 96 from rfl, ← Int64.ofNat_mul, ← Int64.ofNat_add, ← Int64.ofNat_sub _ _ (by omega), show i + 1 - s = (i - s) + 1 by omega, vl, show s + (i - s) = i by omega]
        congr 1
        omega
    · rw [decide_eq_false q2, Bool.and_false, if_pos (by decide), ← he, rn_no (P := sok tv 1) (decide_eq_false q2)]
  · rw [decide_eq_false q, Bool.false_and, if_pos (by decide), ← he, rn_end (by omega)]
theorem s_Mfigs (hN : 3000 ≤ N) (hn : n ≤ 150) (hb : ∀ j, j < n → by' j = nI (tv j) ∧ tx j = nI (tv j) ∧ tv j < 128) {s : Nat} (hs : s ≤ n) (st tk : Int32) : fX11_next_b153 N (nI n) st tk tx (nI s) 0 0 = some (nI (rn (sok tv 2) n s), st, if rn (sok tv 2) n s - s ≤ 2 then 3 else 0, Int64.ofNat (dv tv s (min 2 (rn (sok tv 2) n s - s)))) := by
  unfold fX11_next_b153
  refine fx3 (fun d (x : Int32) (v : Int64) (y : Int32) => ∃ i, i + d = n ∧ s ≤ i ∧ x = nI i ∧ v = Int64.ofNat (dv tv s (min 2 (i - s))) ∧ y = nI (i - s) ∧ rn (sok tv 2) n i = rn (sok tv 2) n s) (fun o => o = some (nI (rn (sok tv 2) n s), st, if rn (sok tv 2) n s - s ≤ 2 then 3 else 0, Int64.ofNat (dv tv s (min 2 (rn (sok tv 2) n s - s))))) ?_ N (n - s) _ _ _ (by omega) ⟨s, by omega, by omega, rfl, by rw [Nat.sub_self]; rfl, by rw [Nat.sub_self]; rfl, rfl⟩
  intro r d x v y hI hr
  obtain ⟨i, hi, hsi, rfl, rfl, rfl, he⟩ := hI
  have hend : fX11_next_b215 N (nI i) st tk (Int64.ofNat (dv tv s (min 2 (i - s)))) (nI (i - s)) = some (nI i, st, if i - s ≤ 2 then 3 else 0, Int64.ofNat (dv tv s (min 2 (i - s)))) := by
    unfold fX11_next_b215 fX11_next_b226
    by_cases q : i - s ≤ 2
    · rw [if_pos (show nI (i - s) ≤ 2 from nI_le (b := 2) q (by decide)), if_pos q]
    · rw [if_neg (show ¬ nI (i - s) ≤ 2 from nI_ge (a := 2) (by omega) (by omega)), if_neg q]
  unfold fX11_next_b153_body fX11_next_b196
  rw [s_isF hn hb (by omega), gm_bind_s]
  by_cases q : i < n
  · by_cases q2 : so (tv i) = 2
    · rw [decide_eq_true q, decide_eq_true q2, if_neg (by decide)]
      have hgo : ∀ z, z = Int64.ofNat (dv tv s (min 2 (i + 1 - s))) → r (nI i + 1) z (nI (i - s) + 1) = some (nI (rn (sok tv 2) n s), st, if rn (sok tv 2) n s - s ≤ 2 then 3 else 0, Int64.ofNat (dv tv s (min 2 (rn (sok tv 2) n s - s)))) := fun z hz => hr _ _ _ (d - 1) (by omega) ⟨i + 1, by omega, by omega, nI_1 i, hz, by rw [nI_1]; congr 1; omega, by rw [← he, rn_go q (decide_eq_true q2)]⟩
      by_cases q3 : 2 ≤ i - s
      · rw [hl_end (K := 2) (n := 2) rfl q3 (by omega), gm_let_s]
        exact hgo _ (by rw [show min 2 (i - s) = 2 by omega, show min 2 (i + 1 - s) = 2 by omega])
      · have hl := so_f q2
        rw [hl_go (K := 2) (n := 2) rfl (by omega) (by omega), gm_chk_n (by omega) (by decide), gm_let_s, cl_n (by omega), (hb i q).2.1, L_v (hb i q).2.2]
        refine hgo _ ?_
        rw [show (10 : Int64) = Int64.ofNat 10 from rfl, show (48 : Int64) = Int64.ofNat 48 from rfl, ← Int64.ofNat_mul, ← Int64.ofNat_add, ← Int64.ofNat_sub _ _ (by omega), show min 2 (i - s) = i - s by omega, show min 2 (i + 1 - s) = (i - s) + 1 by omega, dv, show s + (i - s) = i by omega]
        congr 1
        omega
    · rw [decide_eq_false q2, Bool.and_false, if_pos (by decide), ← he, rn_no (P := sok tv 2) (decide_eq_false q2)]
      exact hend
  · rw [decide_eq_false q, Bool.false_and, if_pos (by decide), ← he, rn_end (by omega)]
    exact hend
end TK
def mu (k : Nat) : Int32 := if k = 0 then 1 else if k = 1 then 2 else if k = 2 then 3 else if k = 3 then 4 else 0
def KK (q : Nat) : Nat := ([295230992, 464134, 774500, 232608281] : List Nat).getD q 0
def LN (q : Nat) : Nat := ([6, 4, 5, 6] : List Nat).getD q 0
def cw (q i : Nat) : Nat := (([[116, 111, 110, 103, 117, 101], [119, 111, 114, 100], [97, 108, 105, 107, 101], [112, 101, 114, 115, 111, 110]] : List (List Nat)).getD q []).getD i 0
theorem KK_d : ∀ q, q < 4 → vl (cw q) 0 (LN q) = KK q ∧ LN q ≤ 6 ∧ gm_len q = nI (LN q) ∧ gm_sl.getD q 0 = LN q ∧ ∀ i, i < LN q → 97 ≤ cw q (0 + i) ∧ cw q (0 + i) ≤ 122 ∧ gm_chr q i = nI (cw q i) := by decide +kernel
theorem vl_cong {g g' : Nat → Nat} {s s' : Nat} : ∀ k, (∀ i, i < k → g (s + i) = g' (s' + i)) → vl g s k = vl g' s' k
  | 0, _ => rfl
  | k + 1, h => by rw [vl, vl, vl_cong k (fun i hi => h i (by omega)), h k (by omega)]
def Lq (tv : Nat → Nat) (s e q : Nat) : Bool := decide (e - s = LN q) && allb (fun i => decide (tv (s + i) = cw q i)) (LN q)
theorem Lq_t {tv : Nat → Nat} {s e q : Nat} : Lq tv s e q = true ↔ e - s = LN q ∧ ∀ i, i < LN q → tv (s + i) = cw q i := by
  unfold Lq
  rw [Bool.and_eq_true, decide_eq_true_eq, allb_t]
  simp only [decide_eq_true_eq]
theorem ofN_inj {a b : Nat} (ha : a < 2 ^ 63) (hb : b < 2 ^ 63) (h : Int64.ofNat a = Int64.ofNat b) : a = b := by
  have := congrArg Int64.toInt h
  rw [Int64.toInt_ofNat_of_lt ha, Int64.toInt_ofNat_of_lt hb] at this
  omega
theorem KK_lt : ∀ q, q < 4 → KK q < 2 ^ 31 := by decide +kernel
theorem Wv_L {tv : Nat → Nat} {s e q : Nat} (hq : q < 4) (hl : ∀ i, i < e - s → 97 ≤ tv (s + i) ∧ tv (s + i) ≤ 122) : Wv tv s (e - s) = Int64.ofNat (KK q) ↔ Lq tv s e q = true := by
  obtain ⟨k1, k2, k3, k4, k5⟩ := KK_d q hq
  have hK := KK_lt q hq
  rw [Lq_t]
  unfold Wv
  by_cases h7 : e - s ≤ 7
  · rw [if_pos h7]
    have hlt := vl_lt (g := tv) (s := s) (e - s) (fun i hi => (hl i hi).2)
    have h27 : 27 ^ (e - s) ≤ 27 ^ 7 := Nat.pow_le_pow_right (by decide) h7
    have h27b : (27 : Nat) ^ 7 < 2 ^ 63 := by decide
    constructor
    · intro h
      have e1 := ofN_inj (by omega) (by omega) h
      rw [← k1] at e1
      obtain ⟨r1, r2⟩ := vl_inj _ _ hl (fun i hi => ⟨(k5 i hi).1, (k5 i hi).2.1⟩) e1
      exact ⟨r1, fun i hi => by rw [r2 i (by omega), Nat.zero_add]⟩
    · rintro ⟨r1, r2⟩
      rw [← k1, r1]
      rw [vl_cong (g' := cw q) (s' := 0) (LN q) (fun i hi => by rw [r2 i hi, Nat.zero_add])]
  · rw [if_neg h7]
    constructor
    · intro h
      have := congrArg Int64.toInt h
      rw [Int64.toInt_ofNat_of_lt (by omega), show (-1 : Int64).toInt = -1 by decide] at this
      omega
    · rintro ⟨r1, r2⟩
      omega
section TK2
variable {N n : Nat} {by' tx : Nat → Int32} {tv : Nat → Nat}
theorem s_isLetters (hN : 3000 ≤ N) (hn : n ≤ 150) (hb : ∀ j, j < n → by' j = nI (tv j) ∧ tx j = nI (tv j) ∧ tv j < 128) {s e k q : Nat} (hse : s ≤ e) (hen : e ≤ n) (hk : k < 5) (hq : q < 4) : fX6_isLetters N (nI e) (nI s) (nI k) by' q = some (bi (decide (k = 1) && Lq tv s e q)) := by
  obtain ⟨k1, k2, k3, k4, k5⟩ := KK_d q hq
  unfold fX6_isLetters
  by_cases h1 : k = 1
  · subst h1
    rw [if_pos (show nI 1 = (1 : Int32) from rfl), nI_sub hse, k3]
    by_cases h2 : e - s = LN q
    · rw [if_pos (by rw [h2])]
      unfold fX6_isLetters_b28 Lq
      rw [decide_eq_true h2, decide_eq_true rfl, Bool.true_and, Bool.true_and]
      refine fx1 (fun d (x : Int32) => ∃ i, i + d = LN q ∧ x = nI i ∧ allb (fun i => decide (tv (s + i) = cw q i)) i = true) (fun o => o = some (bi (allb (fun i => decide (tv (s + i) = cw q i)) (LN q)))) ?_ N (LN q) _ (by omega) ⟨0, by omega, rfl, rfl⟩
      intro r d x hI hr
      obtain ⟨i, hi, rfl, ha⟩ := hI
      unfold fX6_isLetters_b28_body
      rw [k3]
      rcases Nat.eq_zero_or_pos d with h0 | h0
      · rw [hd_end (by omega) (by omega), show LN q = i by omega, ha]; rfl
      · have hv := hb (s + i) (by omega)
        rw [hd_go (by omega) (by omega), nI_add, gm_chk_n (by omega) (by decide), k4, gm_chk_n (by omega) (by omega), cl_n (by omega), cl_n (by omega), hv.1, (k5 i (by omega)).2.2]
        have hc := (k5 i (by omega)).2.1
        rw [Nat.zero_add] at hc
        by_cases h3 : tv (s + i) = cw q i
        · rw [if_pos (by rw [h3])]
          refine hr _ (d - 1) (by omega) ⟨i + 1, by omega, nI_1 i, ?_⟩
          rw [allb_t] at ha ⊢
          intro z hz
          by_cases h4 : z = i
          · subst h4; exact decide_eq_true h3
          · exact ha z (by omega)
        · rw [if_neg (fun z => h3 ((nI_eq (by omega) (by omega)).mp z))]
          have : allb (fun i => decide (tv (s + i) = cw q i)) (LN q) = false := by
            cases hc2 : allb (fun i => decide (tv (s + i) = cw q i)) (LN q)
            · rfl
            · exact absurd (of_decide_eq_true (allb_t.mp hc2 i (by omega))) h3
          rw [this]; rfl
    · rw [if_neg (fun z => h2 ((nI_eq (by omega) (by omega)).mp z))]
      unfold Lq
      rw [decide_eq_false h2, Bool.false_and, Bool.and_false]; rfl
  · rw [if_neg (show ¬ nI k = 1 from fun z => h1 ((nI_eq (b := 1) (by omega) (by decide)).mp z)), decide_eq_false h1, Bool.false_and]; rfl
def TkP (N n : Nat) (by' tx : Nat → Int32) (a s e k v : Nat) (L : Nat → Bool) (val : Int64) : Prop :=
  (a ≤ s ∧ s ≤ e ∧ e ≤ n ∧ (k ≠ 0 → s < e) ∧ (k = 0 → s = n ∧ e = n) ∧ k < 5 ∧ v < 100) ∧ (∀ st tk num : Int32, ∃ num' : Int32, fX6_take N (nI n) (nI a) st tk num by' = some (nI e, nI s, nI k, num') ∧ (k = 2 → num' = nI v)) ∧ (∀ (st tk : Int32) (vl : Int64), fX11_next N (nI n) (nI a) st tk vl tx = some (nI e, nI s, mu k, val)) ∧ (k = 2 → val = Int64.ofNat v) ∧ (k = 1 → ∀ q, q < 4 → (val = Int64.ofNat (KK q) ↔ L q = true)) ∧ ∀ q, q < 4 → fX6_isLetters N (nI e) (nI s) (nI k) by' q = some (bi (decide (k = 1) && L q))
theorem tok (hN : 3000 ≤ N) (hn : n ≤ 150) (hb : ∀ j, j < n → by' j = nI (tv j) ∧ tx j = nI (tv j) ∧ tv j < 128) {a : Nat} (ha : a ≤ n) : ∃ s e k v L val, TkP N n by' tx a s e k v L val := by
  obtain ⟨s1, s2, s3⟩ := rn_b (P := spc tv) ha
  generalize hs : rn (spc tv) n a = s at *
  have hX : ∀ st tk num : Int32, fX6_take N (nI n) (nI a) st tk num by' = fX6_take_b38 N (nI n) (nI s) st tk num by' := fun st tk num => by rw [s_skip hN hn hb ha, hs]
  have hM : ∀ (st tk : Int32) (vl : Int64), fX11_next N (nI n) (nI a) st tk vl tx = fX11_next_b38 N (nI n) (nI s) st tk vl tx := fun st tk vl => by rw [s_Mskip hN hn hb ha, hs]
  by_cases hsn : s < n
  · have hne : ¬ nI s = nI n := fun z => by have := (nI_eq (by omega) (by omega)).mp z; omega
    have hXb : ∀ st tk num : Int32, fX6_take_b38 N (nI n) (nI s) st tk num by' = fX6_take_b74 N (nI n) (nI s) (nI s) tk num by' (nI (so (tv s))) := by
      intro st tk num
      unfold fX6_take_b38
      rw [hd_go hsn (by omega), gm_chk_n (by omega) (by decide), cl_n (by omega), (hb s hsn).1, s_sortOf (hb s hsn).2.2, gm_bind_s]
    rcases so_b (tv s) with h1 | h1 | h1 | h1
    · obtain ⟨e1, e2, e3⟩ := rn_b (P := sok tv 1) (show s ≤ n by omega)
      have e4 : s < rn (sok tv 1) n s := by
        rw [rn_go hsn (decide_eq_true h1)]
        have := (rn_b (P := sok tv 1) (show s + 1 ≤ n by omega)).1
        omega
      refine ⟨s, rn (sok tv 1) n s, 1, 0, Lq tv s (rn (sok tv 1) n s), Wv tv s (rn (sok tv 1) n s - s), ⟨s1, e1, e2, fun _ => e4, fun z => absurd z (by decide), by decide, by decide⟩, fun st tk num => ⟨num, ?_, fun z => absurd z (by decide)⟩, fun st tk vl => ?_, fun z => absurd z (by decide), fun _ q hq => ?_, fun q hq => ?_⟩
      · rw [hX, hXb, h1]
        unfold fX6_take_b74
        rw [if_neg (by decide), if_neg (by decide), if_neg (by decide), s_same hN hn hb (by omega) (by decide)]
        unfold fX6_take_b156
        rw [if_neg (by decide)]
      · rw [hM]
        unfold fX11_next_b38
        rw [if_neg hne, s_isL hn hb (by omega), gm_bind_s, decide_eq_true hsn, decide_eq_true h1, if_neg (by decide), s_Mletters hN hn hb (by omega)]
        rfl
      · exact Wv_L hq (fun i hi => so_l (of_decide_eq_true (e3 (s + i) (by omega) (by omega))))
      · exact s_isLetters hN hn hb e1 e2 (by decide) hq
    · obtain ⟨e1, e2, e3⟩ := rn_b (P := sok tv 2) (show s ≤ n by omega)
      have e4 : s < rn (sok tv 2) n s := by
        rw [rn_go hsn (decide_eq_true h1)]
        have := (rn_b (P := sok tv 2) (show s + 1 ≤ n by omega)).1
        omega
      have hdv := dv_lt (g := tv) (s := s) (k := min 2 (rn (sok tv 2) n s - s)) (by omega) (fun i hi => (so_f (of_decide_eq_true (e3 (s + i) (by omega) (by omega)))).2)
      refine ⟨s, rn (sok tv 2) n s, if rn (sok tv 2) n s - s ≤ 2 then 2 else 4, dv tv s (min 2 (rn (sok tv 2) n s - s)), Lq tv s (rn (sok tv 2) n s), Int64.ofNat (dv tv s (min 2 (rn (sok tv 2) n s - s))), ⟨s1, e1, e2, fun _ => e4, fun z => by split at z <;> omega, by split <;> decide, hdv⟩, fun st tk num => ⟨nI (dv tv s (min 2 (rn (sok tv 2) n s - s))), ?_, fun _ => rfl⟩, fun st tk vl => ?_, fun _ => rfl, fun z => by split at z <;> omega, fun q hq => ?_⟩
      · rw [hX, hXb, h1]
        unfold fX6_take_b74
        rw [if_neg (by decide), if_neg (by decide), if_neg (by decide), s_same hN hn hb (by omega) (by decide)]
        unfold fX6_take_b156
        rw [if_pos (show nI 2 = (2 : Int32) from rfl), show nI 2 = (2 : Int32) from rfl, s_settle hN hn hb e1 e2 (fun i hi hj => of_decide_eq_true (e3 i hi hj)), gm_bind_s]
        split <;> rfl
      · rw [hM]
        unfold fX11_next_b38
        rw [if_neg hne, s_isL hn hb (by omega), gm_bind_s, decide_eq_false (show ¬ so (tv s) = 1 by omega), Bool.and_false, if_pos (by decide), s_isF hn hb (by omega), gm_bind_s, decide_eq_true hsn, decide_eq_true h1, if_neg (by decide), s_Mfigs hN hn hb (by omega)]
        split <;> rfl
      · exact s_isLetters hN hn hb e1 e2 (by split <;> decide) hq
    · refine ⟨s, s + 1, 3, 0, Lq tv s (s + 1), 0, ⟨s1, by omega, by omega, fun _ => by omega, fun z => absurd z (by decide), by decide, by decide⟩, fun st tk num => ⟨num, ?_, fun z => absurd z (by decide)⟩, fun st tk vl => ?_, fun z => absurd z (by decide), fun z => absurd z (by decide), fun q hq => ?_⟩
      · rw [hX, hXb, h1]
        unfold fX6_take_b74 fX6_take_b93 fX6_take_b156
        rw [if_pos (by decide), gm_let_s, nI_1, if_neg (by decide)]
      · rw [hM]
        unfold fX11_next_b38 fX11_next_b252
        rw [if_neg hne, s_isL hn hb (by omega), gm_bind_s, decide_eq_false (show ¬ so (tv s) = 1 by omega), Bool.and_false, if_pos (by decide), s_isF hn hb (by omega), gm_bind_s, decide_eq_false (show ¬ so (tv s) = 2 by omega), Bool.and_false, if_pos (by decide), gm_chk_n (by omega) (by decide), cl_n (by omega), (hb s hsn).2.1, so_s.mp h1, if_pos (by decide), gm_let_s, nI_1]
        rfl
      · exact s_isLetters hN hn hb (by omega) (by omega) (by decide) hq
    · refine ⟨s, s + 1, 4, 0, Lq tv s (s + 1), 0, ⟨s1, by omega, by omega, fun _ => by omega, fun z => absurd z (by decide), by decide, by decide⟩, fun st tk num => ⟨num, ?_, fun z => absurd z (by decide)⟩, fun st tk vl => ?_, fun z => absurd z (by decide), fun z => absurd z (by decide), fun q hq => ?_⟩
      · rw [hX, hXb, h1]
        unfold fX6_take_b74 fX6_take_b93 fX6_take_b156
        rw [if_neg (by decide), if_pos (by decide), gm_let_s, nI_1, if_neg (by decide)]
      · have h59 : ¬ nI (tv s) = 59 := fun z => by
          have := (nI_eq (a := tv s) (b := 59) (by have := (hb s hsn).2.2; omega) (by decide)).mp z
          have := so_s.mpr this
          omega
        rw [hM]
        unfold fX11_next_b38 fX11_next_b252
        rw [if_neg hne, s_isL hn hb (by omega), gm_bind_s, decide_eq_false (show ¬ so (tv s) = 1 by omega), Bool.and_false, if_pos (by decide), s_isF hn hb (by omega), gm_bind_s, decide_eq_false (show ¬ so (tv s) = 2 by omega), Bool.and_false, if_pos (by decide), gm_chk_n (by omega) (by decide), cl_n (by omega), (hb s hsn).2.1, if_neg h59, gm_let_s, nI_1]
        rfl
      · exact s_isLetters hN hn hb (by omega) (by omega) (by decide) hq
  · have hse : s = n := by omega
    subst hse
    refine ⟨s, s, 0, 0, Lq tv s s, 0, ⟨s1, by omega, by omega, fun z => absurd rfl z, fun _ => ⟨rfl, rfl⟩, by decide, by decide⟩, fun st tk num => ⟨num, ?_, fun z => absurd z (by decide)⟩, fun st tk vl => ?_, fun z => absurd z (by decide), fun z => absurd z (by decide), fun q hq => ?_⟩
    · rw [hX]
      unfold fX6_take_b38 fX6_take_b74 fX6_take_b156
      rw [hd_end (by omega) (by omega), if_neg (by decide), if_neg (by decide), if_pos (by decide), if_neg (by decide)]
      rfl
    · rw [hM]
      unfold fX11_next_b38
      rw [if_pos rfl]
      rfl
    · exact s_isLetters hN hn hb (by omega) (by omega) (by decide) hq
end TK2
