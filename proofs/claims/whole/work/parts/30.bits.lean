/-! ===== Int32 by its bits: bt x i ===== -/
def bt (x : Int32) (i : Nat) : Bool := x.toBitVec.getLsbD i
theorem b_ext {x y : Int32} (h : ∀ i, i < 32 → bt x i = bt y i) : x = y := Int32.toBitVec_inj.mp (BitVec.eq_of_getLsbD_eq (fun i hi => h i hi))
theorem b_or (x y : Int32) (i : Nat) : bt (x ||| y) i = (bt x i || bt y i) := by unfold bt; rw [Int32.toBitVec_or, BitVec.getLsbD_or]
theorem b_and (x y : Int32) (i : Nat) : bt (x &&& y) i = (bt x i && bt y i) := by unfold bt; rw [Int32.toBitVec_and, BitVec.getLsbD_and]
theorem b_xor (x y : Int32) (i : Nat) : bt (x ^^^ y) i = (bt x i ^^ bt y i) := by unfold bt; rw [Int32.toBitVec_xor, BitVec.getLsbD_xor]
theorem b_big {x : Int32} {i : Nat} (h : 32 ≤ i) : bt x i = false := BitVec.getLsbD_of_ge _ _ h
theorem b_255 (i : Nat) : bt 255 i = decide (i < 8) := by
  rcases Nat.lt_or_ge i 32 with h | h
  · exact (by decide +kernel : ∀ i, i < 32 → bt 255 i = decide (i < 8)) i h
  · rw [b_big h, decide_eq_false (by omega)]
theorem b_65535 (i : Nat) : bt 65535 i = decide (i < 16) := by
  rcases Nat.lt_or_ge i 32 with h | h
  · exact (by decide +kernel : ∀ i, i < 32 → bt 65535 i = decide (i < 16)) i h
  · rw [b_big h, decide_eq_false (by omega)]
theorem b_m1 : ∀ i, i < 32 → bt (-1) i = true := by decide +kernel
theorem b_0 (i : Nat) : bt 0 i = false := BitVec.getLsbD_zero
theorem s_l : ∀ n, n < 32 → ((nI n &&& 31).toBitVec.smod 32).toNat = n := by decide +kernel
theorem s_u : ∀ n, n < 32 → (((nI n).toUInt32 &&& Int32.toUInt32 31).toBitVec % 32).toNat = n := by decide +kernel
theorem b_shl (n : Nat) (hn : n < 32) (x : Int32) {i : Nat} (hi : i < 32) : bt (x <<< (nI n &&& 31)) i = (decide (n ≤ i) && bt x (i - n)) := by
  unfold bt
  rw [Int32.toBitVec_shiftLeft]
  show (x.toBitVec <<< ((nI n &&& 31).toBitVec.smod 32).toNat).getLsbD i = _
  rw [s_l n hn, BitVec.getLsbD_shiftLeft]
  rcases Nat.lt_or_ge i n with h | h
  · simp [h, Nat.not_le.mpr h]
  · simp [hi, h, Nat.not_lt.mpr h]
theorem b_ushr (n : Nat) (hn : n < 32) (x : Int32) (i : Nat) : bt ((x.toUInt32 >>> ((nI n).toUInt32 &&& Int32.toUInt32 31)).toInt32) i = bt x (n + i) := by
  show (x.toUInt32 >>> ((nI n).toUInt32 &&& Int32.toUInt32 31)).toBitVec.getLsbD i = x.toUInt32.toBitVec.getLsbD (n + i)
  rw [UInt32.toBitVec_shiftRight]
  show (x.toUInt32.toBitVec >>> (((nI n).toUInt32 &&& Int32.toUInt32 31).toBitVec % 32).toNat).getLsbD i = _
  rw [s_u n hn, BitVec.getLsbD_ushiftRight]
theorem b_sshr (n : Nat) (hn : n < 32) (x : Int32) {i : Nat} (hi : i < 32) : bt (x >>> (nI n &&& 31)) i = if n + i < 32 then bt x (n + i) else bt x 31 := by
  unfold bt
  rw [Int32.toBitVec_shiftRight]
  show (x.toBitVec.sshiftRight ((nI n &&& 31).toBitVec.smod 32).toNat).getLsbD i = _
  rw [s_l n hn, BitVec.getLsbD_sshiftRight, BitVec.msb_eq_getLsbD_last]
  simp [hi]
/-! ===== sets of small numbers as bits; one bit; loops ===== -/
theorem b_1 : ∀ i, i < 32 → bt 1 i = decide (i = 0) := by decide +kernel
theorem b_one (n : Nat) (hn : n < 32) {i : Nat} (hi : i < 32) : bt ((1 : Int32) <<< (nI n &&& 31)) i = decide (i = n) := by
  rw [b_shl n hn 1 hi, b_1 (i - n) (by omega)]
  by_cases h : i = n
  · subst h; simp
  · by_cases h2 : n ≤ i
    · simp [h, h2]; omega
    · simp [h, h2]
theorem b_not (x : Int32) {i : Nat} (hi : i < 32) : bt (x ^^^ (-1)) i = !bt x i := by
  rw [b_xor, b_m1 i hi]; simp
theorem b_get (x : Int32) (n : Nat) (hn : n < 32) : ((x >>> (nI n &&& 31)) &&& 1) = if bt x n then 1 else 0 := by
  apply b_ext
  intro i hi
  rw [b_and, b_sshr n hn x hi, b_1 i hi]
  by_cases h : i = 0
  · subst h
    simp [hn]
    cases bt x n <;> simp [b_0, b_1]
  · simp [h]
    cases bt x n <;> simp [b_0, b_1 i hi, h]
theorem b_get1 (x : Int32) (n : Nat) (hn : n < 32) : (((x >>> (nI n &&& 31)) &&& 1) = 1) ↔ bt x n = true := by
  rw [b_get x n hn]
  cases bt x n <;> simp
theorem b_get0 (x : Int32) (n : Nat) (hn : n < 32) : (((x >>> (nI n &&& 31)) &&& 1) = 0) ↔ bt x n = false := by
  rw [b_get x n hn]
  cases bt x n <;> simp
/-- the set of the numbers below n of which b holds -/
def bs (b : Nat → Bool) : Nat → Int32
  | 0 => 0
  | n + 1 => bs b n ||| (if b n then (1 : Int32) <<< (nI n &&& 31) else 0)
theorem bs_bt (b : Nat → Bool) : ∀ (n : Nat), n ≤ 32 → ∀ (i : Nat), i < 32 → bt (bs b n) i = (decide (i < n) && b i)
  | 0, _, i, _ => by simp [bs, b_0]
  | n + 1, hn, i, hi => by
    rw [bs, b_or, bs_bt b n (by omega) i hi]
    by_cases hb : b n = true
    · rw [if_pos hb, b_one n (by omega) hi]
      by_cases h : i = n
      · subst h; simp [hb]
      · by_cases h2 : i < n
        · simp [h, h2, Nat.lt_succ_of_lt h2]
        · simp [h, h2, show ¬ i < n + 1 by omega]
    · rw [if_neg hb, b_0]
      by_cases h : i = n
      · subst h; simp [hb]
      · by_cases h2 : i < n
        · simp [h2, Nat.lt_succ_of_lt h2]
        · simp [h2, show ¬ i < n + 1 by omega]
theorem bs_of {x : Int32} {b : Nat → Bool} {n : Nat} (hn : n ≤ 32) (h : ∀ i, i < 32 → bt x i = (decide (i < n) && b i)) : x = bs b n := b_ext (fun i hi => by rw [h i hi, bs_bt b n hn i hi])
theorem bs_cong {b b' : Nat → Bool} : ∀ {n : Nat}, (∀ i, i < n → b i = b' i) → bs b n = bs b' n
  | 0, _ => rfl
  | n + 1, h => by rw [bs, bs, bs_cong (fun i hi => h i (by omega)), h n (by omega)]
theorem nI_small_bt : ∀ n, n < 32 → True := fun _ _ => trivial
/-- while rules: a measure d falls; P holds of what comes out -/
theorem fx1 {A R : Type} {f : (A → Option R) → A → Option R} {z : A → Option R} (I : Nat → A → Prop) (P : Option R → Prop) (h : ∀ (r : A → Option R) (d : Nat) (a : A), I d a → (∀ a' d', d' < d → I d' a' → P (r a')) → P (f r a)) : ∀ (n d : Nat) (a : A), d < n → I d a → P (gm_fix f z n a)
  | 0, d, a, hd, _ => absurd hd (Nat.not_lt_zero d)
  | n + 1, d, a, hd, hI => h (gm_fix f z n) d a hI (fun a' d' hd' hI' => fx1 I P h n d' a' (by omega) hI')
theorem fx2 {A B R : Type} {f : (A → B → Option R) → A → B → Option R} {z : A → B → Option R} (I : Nat → A → B → Prop) (P : Option R → Prop) (h : ∀ (r : A → B → Option R) (d : Nat) (a : A) (b : B), I d a b → (∀ a' b' d', d' < d → I d' a' b' → P (r a' b')) → P (f r a b)) : ∀ (n d : Nat) (a : A) (b : B), d < n → I d a b → P (gm_fix f z n a b)
  | 0, d, a, b, hd, _ => absurd hd (Nat.not_lt_zero d)
  | n + 1, d, a, b, hd, hI => h (gm_fix f z n) d a b hI (fun a' b' d' hd' hI' => fx2 I P h n d' a' b' (by omega) hI')
theorem fx3 {A B C R : Type} {f : (A → B → C → Option R) → A → B → C → Option R} {z : A → B → C → Option R} (I : Nat → A → B → C → Prop) (P : Option R → Prop) (h : ∀ (r : A → B → C → Option R) (d : Nat) (a : A) (b : B) (c : C), I d a b c → (∀ a' b' c' d', d' < d → I d' a' b' c' → P (r a' b' c')) → P (f r a b c)) : ∀ (n d : Nat) (a : A) (b : B) (c : C), d < n → I d a b c → P (gm_fix f z n a b c)
  | 0, d, a, b, c, hd, _ => absurd hd (Nat.not_lt_zero d)
  | n + 1, d, a, b, c, hd, hI => h (gm_fix f z n) d a b c hI (fun a' b' c' d' hd' hI' => fx3 I P h n d' a' b' c' (by omega) hI')
theorem fx4 {A B C D R : Type} {f : (A → B → C → D → Option R) → A → B → C → D → Option R} {z : A → B → C → D → Option R} (I : Nat → A → B → C → D → Prop) (P : Option R → Prop) (h : ∀ (r : A → B → C → D → Option R) (d : Nat) (a : A) (b : B) (c : C) (x : D), I d a b c x → (∀ a' b' c' x' d', d' < d → I d' a' b' c' x' → P (r a' b' c' x')) → P (f r a b c x)) : ∀ (n d : Nat) (a : A) (b : B) (c : C) (x : D), d < n → I d a b c x → P (gm_fix f z n a b c x)
  | 0, d, a, b, c, x, hd, _ => absurd hd (Nat.not_lt_zero d)
  | n + 1, d, a, b, c, x, hd, hI => h (gm_fix f z n) d a b c x hI (fun a' b' c' x' d' hd' hI' => fx4 I P h n d' a' b' c' x' (by omega) hI')
/-- a loop head over nI -/
theorem hd_end {i w : Nat} (h : w ≤ i) (hi : i < 2 ^ 31) {α : Type} {a b : α} : (if nI w ≤ nI i then a else b) = a := if_pos (nI_le h hi)
theorem hd_go {i w : Nat} (h : i < w) (hw : w < 2 ^ 31) {α : Type} {a b : α} : (if nI w ≤ nI i then a else b) = b := if_neg (nI_ge h hw)
theorem gm_chk_n {α : Type} {j n : Nat} {k : Option α} (h : j < n) (hn : n < 2 ^ 31) : gm_chk (nI j) n k = k := gm_chk_ok (vp_in_nI h hn)
theorem cl_n {j : Nat} (h : j < 2 ^ 31) : Int32.toNatClampNeg (nI j) = j := nI_clamp h
theorem gm_let_s {α β : Type} (x : α) (f : α → β) : gm_let x f = f x := rfl
