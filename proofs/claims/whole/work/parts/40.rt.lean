/-! ===== the relation of the two memories ===== -/
/-- a tongue of the class and a row of the model -/
def RT (words people said undos heard : Int32) (ending meaning cost alikeTo kind want saidAhead heardWord heardAnswer : Nat → Int32) (f : Nat → Int32) : Prop :=
  ∃ (w p u h : Nat) (en mn cn kn wn : Nat → Nat), (w ≤ 10 ∧ p ≤ 5 ∧ u ≤ 8 ∧ h ≤ 6) ∧ (words = nI w ∧ people = nI p ∧ undos = nI u ∧ heard = nI h) ∧ rowE w f ending meaning alikeTo ∧ rowP p f kind want ∧ (f 2 = said ∧ f 3 = heard ∧ f 4 = undos) ∧ (∀ j, j < w → f (5 + 3 * j + 2) = cost j ∧ cn j ≤ 20 ∧ cost j = nI (cn j)) ∧ okE w ending en ∧ okM w meaning mn ∧ okP p kind want kn wn ∧ symA alikeTo ∧ (∀ a, a < 8 → bt (alikeTo a) a = false ∧ ∀ i, 8 ≤ i → bt (alikeTo a) i = false) ∧ (∀ j, j < h → f (53 + 2 * j) = heardWord j ∧ f (53 + 2 * j + 1) = heardAnswer j ∧ (∃ x, x < w ∧ heardWord j = nI x) ∧ (heardAnswer j = -1 ∨ ∃ y, y < w ∧ heardAnswer j = nI y)) ∧ (∀ j, j < u → f (65 + j) = saidAhead j ∧ ∃ v, v < 2 ^ w ∧ saidAhead j = nI v) ∧ ∃ v, v < 2 ^ w ∧ said = nI v
/-- the text -/
def RX (len : Int32) (bytes : Nat → Int32) (size : Int32) (text : Nat → Int32) : Prop := ∃ n : Nat, n ≤ 150 ∧ len = nI n ∧ size = nI n ∧ ∀ j, j < n → bytes j = text j ∧ ∃ v, v < 128 ∧ bytes j = nI v
/-- the images: which are kept -/
def RI (ik : Int32) (isk : Nat → Int32) (P0 P1 : Prop) : Prop := ∃ b0 b1 : Bool, ik = bs (fun i => if i = 0 then b0 else b1) 2 ∧ isk 0 = bi b0 ∧ isk 1 = bi b1 ∧ (b0 = true → P0) ∧ (b1 = true → P1)
theorem upd_s {f : Nat → Int32} {k : Nat} {x : Int32} : upd f k x k = x := pk_us
theorem upd_n {f : Nat → Int32} {k j : Nat} {x : Int32} (h : j ≠ k) : upd f k x j = f j := pk_un h
theorem RFb {b n f : Int32} {r : Nat → Int32} (h : b = r 0 ∧ n = r 1 ∧ f = r 2) : b + 1 = upd r 0 (r 0 + 1) 0 ∧ n = upd r 0 (r 0 + 1) 1 ∧ f = upd r 0 (r 0 + 1) 2 := ⟨by rw [upd_s, h.1], by rw [upd_n (by decide)]; exact h.2.1, by rw [upd_n (by decide)]; exact h.2.2⟩
theorem RFn {b n f : Int32} {r : Nat → Int32} (h : b = r 0 ∧ n = r 1 ∧ f = r 2) : b = upd r 1 (r 1 + 1) 0 ∧ n + 1 = upd r 1 (r 1 + 1) 1 ∧ f = upd r 1 (r 1 + 1) 2 := ⟨by rw [upd_n (by decide)]; exact h.1, by rw [upd_s, h.2.1], by rw [upd_n (by decide)]; exact h.2.2⟩
theorem RFf {b n f : Int32} {r : Nat → Int32} (h : b = r 0 ∧ n = r 1 ∧ f = r 2) : b = upd r 2 (r 2 + 1) 0 ∧ n = upd r 2 (r 2 + 1) 1 ∧ f + 1 = upd r 2 (r 2 + 1) 2 := ⟨by rw [upd_n (by decide)]; exact h.1, by rw [upd_n (by decide)]; exact h.2.1, by rw [upd_s, h.2.2]⟩
theorem s_fl {N : Nat} (x : Int32) (B : Nat) (K : Int32) (hK : K = nI B) (hB : B < 2 ^ 31) : fX10_fits N x K = some (bi (inr x B)) := by
  rw [hK]
  exact s_fits x hB
