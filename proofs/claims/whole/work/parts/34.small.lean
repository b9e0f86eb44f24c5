/-! ===== small tests on both sides ===== -/
def inr (x : Int32) (B : Nat) : Bool := decide (0 ≤ x.toInt ∧ x.toInt < (B : Int))
theorem inr_t {x : Int32} {B : Nat} (h : inr x B = true) (hB : B < 2 ^ 31) : ∃ j : Nat, j < B ∧ x = nI j := by
  have h1 := of_decide_eq_true h
  exact vp_in_of (vp_in_iff.mpr h1) hB
theorem inr_n {j B : Nat} (hj : j < 2 ^ 31) : inr (nI j) B = decide (j < B) := by
  unfold inr
  rw [nI_toInt hj]
  by_cases h : j < B
  · rw [decide_eq_true h]; exact decide_eq_true ⟨by omega, by omega⟩
  · rw [decide_eq_false h]; exact decide_eq_false (fun q => h (by omega))
theorem s_fits {N B : Nat} (x : Int32) (hB : B < 2 ^ 31) : fX10_fits N x (nI B) = some (bi (inr x B)) := by
  unfold fX10_fits inr
  have h0 : (0 : Int32).toInt = 0 := by decide
  by_cases h1 : x < 0
  · rw [if_pos h1]
    have h2 := Int32.lt_iff_toInt_lt.mp h1
    rw [h0] at h2
    rw [decide_eq_false (by omega)]; rfl
  · rw [if_neg h1]
    have h2 : 0 ≤ x.toInt := by
      rcases Int.lt_or_le x.toInt 0 with q | q
      · exact absurd (Int32.lt_iff_toInt_lt.mpr (by rw [h0]; exact q)) h1
      · exact q
    by_cases h3 : nI B ≤ x
    · rw [if_pos h3]
      have h4 := Int32.le_iff_toInt_le.mp h3
      rw [nI_toInt hB] at h4
      rw [decide_eq_false (by omega)]; rfl
    · rw [if_neg h3]
      have h4 : x.toInt < (B : Int) := by
        rcases Int.lt_or_le x.toInt (B : Int) with q | q
        · exact q
        · exact absurd (Int32.le_iff_toInt_le.mpr (by rw [nI_toInt hB]; exact q)) h3
      rw [decide_eq_true ⟨h2, h4⟩]; rfl
theorem lgc_neg (a b : Int64) : (lg_cmp a b < 0) ↔ a.toInt < b.toInt := by
  unfold lg_cmp
  by_cases h1 : a > b
  · rw [if_pos h1]
    have h2 := Int64.lt_iff_toInt_lt.mp h1
    exact ⟨fun q => absurd q (by decide), fun q => by omega⟩
  · rw [if_neg h1]
    by_cases h2 : a = b
    · rw [if_pos h2, h2]
      exact ⟨fun q => absurd q (by decide), fun q => by omega⟩
    · rw [if_neg h2]
      refine ⟨fun _ => ?_, fun _ => by decide⟩
      have h3 : ¬ b.toInt < a.toInt := fun q => h1 (Int64.lt_iff_toInt_lt.mpr q)
      have h4 : ¬ a.toInt = b.toInt := fun q => h2 (Int64.toInt_inj.mp q)
      omega
theorem lgc_pos (a b : Int64) : (0 < lg_cmp a b) ↔ b.toInt < a.toInt := by
  unfold lg_cmp
  by_cases h1 : a > b
  · rw [if_pos h1]
    have h2 := Int64.lt_iff_toInt_lt.mp h1
    exact ⟨fun _ => h2, fun _ => by decide⟩
  · rw [if_neg h1]
    have h3 : ¬ b.toInt < a.toInt := fun q => h1 (Int64.lt_iff_toInt_lt.mpr q)
    by_cases h2 : a = b
    · rw [if_pos h2]
      exact ⟨fun q => absurd q (by decide), fun q => absurd q h3⟩
    · rw [if_neg h2]
      exact ⟨fun q => absurd q (by decide), fun q => absurd q h3⟩
theorem s_in {N B : Nat} (x : Int32) (K : Int64) (hK : K.toInt = (B : Int) - 1) : fX11_in N (Int32.toInt64 x) 0 K = some (bi (inr x B)) := by
  unfold fX11_in inr
  have h0 : (0 : Int64).toInt = 0 := by decide
  have hx : (Int32.toInt64 x).toInt = x.toInt := Int32.toInt_toInt64 x
  by_cases h1 : lg_cmp (Int32.toInt64 x) 0 < 0
  · rw [if_pos h1]
    have h2 := (lgc_neg _ _).mp h1
    rw [hx, h0] at h2
    rw [decide_eq_false (by omega)]; rfl
  · rw [if_neg h1]
    have h2 : ¬ x.toInt < 0 := fun q => h1 ((lgc_neg _ _).mpr (by rw [hx, h0]; exact q))
    by_cases h3 : 0 < lg_cmp (Int32.toInt64 x) K
    · rw [if_pos h3]
      have h4 := (lgc_pos _ _).mp h3
      rw [hx, hK] at h4
      rw [decide_eq_false (by omega)]; rfl
    · rw [if_neg h3]
      have h4 : ¬ (B : Int) - 1 < x.toInt := fun q => h3 ((lgc_pos _ _).mpr (by rw [hx, hK]; exact q))
      rw [decide_eq_true (by omega)]; rfl
theorem s_isWord {N w : Nat} (x : Int32) (hw : w < 2 ^ 31) : fX10_isWord N (nI w) x = some (bi (inr x w)) := by
  unfold fX10_isWord
  rw [s_fits x hw, gm_bind_s, bi_bl]
theorem s_isPerson {N p : Nat} (x : Int32) (hp : p < 2 ^ 31) : fX10_isPerson N (nI p) x = some (bi (inr x p)) := by
  unfold fX10_isPerson
  rw [s_fits x hp, gm_bind_s, bi_bl]
theorem pred_toInt {w : Nat} (hw : w < 2 ^ 30) : (Int32.toInt64 (nI w - 1)).toInt = (w : Int) - 1 := by
  rw [Int32.toInt_toInt64, show (1 : Int32) = nI 1 from rfl, pk_sub_toInt hw (by decide)]
  rfl
theorem s_noWord {N w : Nat} {f : Nat → Int32} (x : Int32) (hf : f 0 = nI w) (hw : w < 2 ^ 30) : fX11_noWord N f x = some (bi (!inr x w)) := by
  unfold fX11_noWord
  rw [ck0 (by decide), cl0, hf, s_in (B := w) x _ (pred_toInt hw), gm_bind_s]
  cases inr x w <;> decide
theorem s_noPerson {N p : Nat} {f : Nat → Int32} (x : Int32) (hf : f 1 = nI p) (hp : p < 2 ^ 30) : fX11_noPerson N f x = some (bi (!inr x p)) := by
  unfold fX11_noPerson
  rw [ck1 (by decide), cl1, hf, s_in (B := p) x _ (pred_toInt hp), gm_bind_s]
  cases inr x p <;> decide
theorem s_isEnding {N : Nat} (x : Int32) : fX11_isEnding N x = some (bi (inr x 8)) := by
  unfold fX11_isEnding
  rw [s_in (B := 8) x 7 (by decide), gm_bind_s, bi_bl]
theorem s_areMeanings {N : Nat} (x : Int32) : fX11_areMeanings N x = some (bi (inr x 256)) := by
  unfold fX11_areMeanings
  rw [s_in (B := 256) x 255 (by decide), gm_bind_s, bi_bl]
theorem s_refB {N : Nat} (a b c : Int32) : fX10_refuse N a b c (-2) = some (-2, a + 1, b, c) := by
  unfold fX10_refuse
  rw [if_pos (by decide), gm_let_s]
theorem s_refN {N : Nat} (a b c : Int32) : fX10_refuse N a b c (-3) = some (-3, a, b + 1, c) := by
  unfold fX10_refuse
  rw [if_neg (by decide), if_pos (by decide), gm_let_s]
theorem s_refF {N : Nat} (a b c : Int32) : fX10_refuse N a b c (-4) = some (-4, a, b, c + 1) := by
  unfold fX10_refuse
  rw [if_neg (by decide), if_neg (by decide), gm_let_s]
theorem s_bad {N : Nat} (r : Nat → Int32) : fX11_bad N r = some (-2, upd r 0 (r 0 + 1)) := by
  unfold fX11_bad fX11_refuse
  rw [ck0 (by decide), ck0 (by decide), gm_bind_s, cl0]
theorem s_badTen {N : Nat} (r : Nat → Int32) : fX11_badTen N r = some (-10, upd r 0 (r 0 + 1)) := by
  unfold fX11_badTen fX11_refuse
  rw [ck0 (by decide), ck0 (by decide), gm_bind_s, cl0]
theorem s_no {N : Nat} (r : Nat → Int32) : fX11_no N r = some (-3, upd r 1 (r 1 + 1)) := by
  unfold fX11_no fX11_refuse
  rw [ck1 (by decide), ck1 (by decide), gm_bind_s, cl1]
theorem s_full {N : Nat} (r : Nat → Int32) : fX11_full N r = some (-4, upd r 2 (r 2 + 1)) := by
  unfold fX11_full fX11_refuse
  rw [ck2 (by decide), ck2 (by decide), gm_bind_s, cl2]
