/-! ===== loops that count ===== -/
theorem lpA {A R : Type} {f : (A → Int32 → Option R) → A → Int32 → Option R} {z : A → Int32 → Option R} (n : Nat) (S : Nat → A) (F : Option R) (h : ∀ (r : A → Int32 → Option R) (i : Nat), i < n → f r (S i) (nI i) = r (S (i + 1)) (nI (i + 1))) (hn : ∀ r : A → Int32 → Option R, f r (S n) (nI n) = F) {N : Nat} (s : Nat) (hsn : s ≤ n) (hN : n < N) : gm_fix f z N (S s) (nI s) = F := by
  refine fx2 (fun d (a : A) (b : Int32) => ∃ i, i + d = n ∧ b = nI i ∧ a = S i) (fun o => o = F) ?_ N (n - s) (S s) (nI s) (by omega) ⟨s, by omega, rfl, rfl⟩
  intro r d a b hI hr
  obtain ⟨i, hi, rfl, rfl⟩ := hI
  rcases Nat.eq_zero_or_pos d with h0 | h0
  · have e : i = n := by omega
    subst e
    exact hn r
  · rw [h r i (by omega)]
    exact hr _ _ (d - 1) (by omega) ⟨i + 1, by omega, rfl, rfl⟩
theorem lpB {A B R : Type} {f : (A → B → Int32 → Option R) → A → B → Int32 → Option R} {z : A → B → Int32 → Option R} (n : Nat) (S : Nat → A) (T : Nat → B) (F : Option R) (h : ∀ (r : A → B → Int32 → Option R) (i : Nat), i < n → f r (S i) (T i) (nI i) = r (S (i + 1)) (T (i + 1)) (nI (i + 1))) (hn : ∀ r : A → B → Int32 → Option R, f r (S n) (T n) (nI n) = F) {N : Nat} (s : Nat) (hsn : s ≤ n) (hN : n < N) : gm_fix f z N (S s) (T s) (nI s) = F := by
  refine fx3 (fun d (a : A) (b : B) (c : Int32) => ∃ i, i + d = n ∧ c = nI i ∧ a = S i ∧ b = T i) (fun o => o = F) ?_ N (n - s) (S s) (T s) (nI s) (by omega) ⟨s, by omega, rfl, rfl, rfl⟩
  intro r d a b c hI hr
  obtain ⟨i, hi, rfl, rfl, rfl⟩ := hI
  rcases Nat.eq_zero_or_pos d with h0 | h0
  · have e : i = n := by omega
    subst e
    exact hn r
  · rw [h r i (by omega)]
    exact hr _ _ _ (d - 1) (by omega) ⟨i + 1, by omega, rfl, rfl, rfl⟩
/-- a head that a literal bounds -/
theorem hl_end {i n : Nat} {K : Int32} (hK : K = nI n) (h : n ≤ i) (hi : i < 2 ^ 31) {α : Type} {a b : α} : (if K ≤ nI i then a else b) = a := by rw [hK]; exact hd_end h hi
theorem hl_go {i n : Nat} {K : Int32} (hK : K = nI n) (h : i < n) (hn : n < 2 ^ 31) {α : Type} {a b : α} : (if K ≤ nI i then a else b) = b := by rw [hK]; exact hd_go h hn
/-- hashes -/
def hsh (h0 : Int64) (g : Nat → Int64) : Nat → Int64
  | 0 => h0
  | n + 1 => 31 * hsh h0 g n + g n
theorem ix2n (a : Nat) : (2 : Int32) * nI a = nI (2 * a) := by rw [show (2 : Int32) = nI 2 from rfl, pk_mul]
theorem ix35 (j : Nat) : (35 : Int32) + nI j = nI (35 + j) := by rw [show (35 : Int32) = nI 35 from rfl, nI_add]
theorem ix53n (j : Nat) : (53 : Int32) + nI j = nI (53 + j) := by rw [show (53 : Int32) = nI 53 from rfl, nI_add]
def gw (f : Nat → Int32) (q : Nat) : Int64 := if q % 4 = 3 then Int32.toInt64 ((f 2 >>> (nI (q / 4) &&& 31)) &&& 1) else Int32.toInt64 (f (5 + 3 * (q / 4) + q % 4))
def pn : Nat → Nat := fun j => ([1, 2, 3, 4, 5, 6, 7, 12, 13, 14, 15, 16, 17, 23, 24, 25, 26, 27, 34, 35, 36, 37, 45, 46, 47, 56, 57, 67] : List Nat).getD j 0
theorem pn_d : ∀ j, j < 28 → gm_pairs j / 10 = nI (pn j / 10) ∧ gm_pairs j - gm_pairs j / 10 * 10 = nI (pn j % 10) ∧ pn j / 10 < 8 ∧ pn j % 10 < 8 := by decide +kernel
def pos : Nat → Nat := fun a => ([0, 7, 13, 18, 22, 25, 27, 28, 28] : List Nat).getD a 0
theorem pos_d : ∀ a, a < 8 → ∀ b, b < 8 → a < b → pn (pos a + (b - (a + 1))) / 10 = a ∧ pn (pos a + (b - (a + 1))) % 10 = b := by decide +kernel
theorem pos_s : ∀ a, a < 8 → pos (a + 1) = pos a + (8 - (a + 1)) := by decide +kernel
def gp (al : Nat → Int32) (k : Nat) : Int64 := Int32.toInt64 (bi (bt (al (pn k / 10)) (pn k % 10)))
/-- heard -/
theorem s_dg4 {N h : Nat} {f hw ha : Nat → Int32} (hN : 3000 ≤ N) (hh6 : h ≤ 6) (hh : ∀ j, j < h → f (53 + 2 * j) = hw j ∧ f (53 + 2 * j + 1) = ha j) (D : Int64) : fX9_digestFrom_b189 N (nI h) hw ha D 0 = some (hsh D (fun k => Int32.toInt64 (f (53 + k))) (2 * h)) := by
  unfold fX9_digestFrom_b189
  refine lpA h (fun i => hsh D (fun k => Int32.toInt64 (f (53 + k))) (2 * i)) _ ?_ ?_ 0 (by omega) (by omega)
  · intro r i hi
    unfold fX9_digestFrom_b189_body
    rw [hd_go hi (by omega), gm_chk_n (by omega) (by decide), gm_let_s, gm_chk_n (by omega) (by decide), gm_let_s, cl_n (by omega), nI_1, ← (hh i hi).1, ← (hh i hi).2]
    rfl
  · intro r
    unfold fX9_digestFrom_b189_body
    rw [hd_end (by omega) (by omega)]
theorem s_Mdg4 {N h : Nat} {f : Nat → Int32} {t : Int32} {ab be : Int64} (hN : 3000 ≤ N) (hh6 : h ≤ 6) (h3 : f 3 = nI h) (D : Int64) : fX11_digest_b196 N t ab be f D 0 = some (31 * (31 * hsh D (fun k => Int32.toInt64 (f (53 + k))) (2 * h) + ab) + be, t) := by
  unfold fX11_digest_b196
  refine lpA (2 * h) (fun i => hsh D (fun k => Int32.toInt64 (f (53 + k))) i) _ ?_ ?_ 0 (by omega) (by omega)
  · intro r i hi
    unfold fX11_digest_b196_body fX11_more
    rw [ck3 (by decide), cl3, h3, ix2n, hd_go hi (by omega), ix53n, gm_chk_n (by omega) (by decide), gm_bind_s, cl_n (by omega), nI_1]
    rfl
  · intro r
    unfold fX11_digest_b196_body fX11_digest_b230 fX11_more
    rw [ck3 (by decide), cl3, h3, ix2n, hd_end (by omega) (by omega), gm_bind_s, gm_bind_s]
theorem s_dg3 {N p h : Nat} {f kd wt hw ha : Nat → Int32} (hN : 3000 ≤ N) (hp : p ≤ 5) (hh6 : h ≤ 6) (hg : rowP p f kd wt) (hh : ∀ j, j < h → f (53 + 2 * j) = hw j ∧ f (53 + 2 * j + 1) = ha j) (D : Int64) : fX9_digestFrom_b141 N (nI p) (nI h) kd wt hw ha D 0 = some (hsh (hsh D (fun k => Int32.toInt64 (f (35 + k))) (2 * p)) (fun k => Int32.toInt64 (f (53 + k))) (2 * h)) := by
  unfold fX9_digestFrom_b141
  refine lpA p (fun i => hsh D (fun k => Int32.toInt64 (f (35 + k))) (2 * i)) _ ?_ ?_ 0 (by omega) (by omega)
  · intro r i hi
    unfold fX9_digestFrom_b141_body
    rw [hd_go hi (by omega), gm_chk_n (by omega) (by decide), gm_let_s, gm_chk_n (by omega) (by decide), gm_let_s, cl_n (by omega), nI_1, ← (hg.2 i hi).1, ← (hg.2 i hi).2]
    rfl
  · intro r
    unfold fX9_digestFrom_b141_body fX9_digestFrom_b186
    rw [hd_end (by omega) (by omega), s_dg4 hN hh6 hh]
theorem s_Mdg3 {N p h : Nat} {f : Nat → Int32} {t : Int32} {ab be : Int64} (hN : 3000 ≤ N) (hp : p ≤ 5) (hh6 : h ≤ 6) (h1 : f 1 = nI p) (h3 : f 3 = nI h) (D : Int64) : fX11_digest_b160 N t ab be f D 0 = some (31 * (31 * hsh (hsh D (fun k => Int32.toInt64 (f (35 + k))) (2 * p)) (fun k => Int32.toInt64 (f (53 + k))) (2 * h) + ab) + be, t) := by
  unfold fX11_digest_b160
  refine lpA (2 * p) (fun i => hsh D (fun k => Int32.toInt64 (f (35 + k))) i) _ ?_ ?_ 0 (by omega) (by omega)
  · intro r i hi
    unfold fX11_digest_b160_body fX11_more
    rw [ck1 (by decide), cl1, h1, ix2n, hd_go hi (by omega), ix35, gm_chk_n (by omega) (by decide), gm_bind_s, cl_n (by omega), nI_1]
    rfl
  · intro r
    unfold fX11_digest_b160_body fX11_digest_b194
    rw [ck1 (by decide), cl1, h1, ix2n, hd_end (by omega) (by omega), s_Mdg4 hN hh6 h3]
theorem s_dg2 {N p h : Nat} {f al kd wt hw ha : Nat → Int32} (hN : 3000 ≤ N) (hp : p ≤ 5) (hh6 : h ≤ 6) (hg : rowP p f kd wt) (hh : ∀ j, j < h → f (53 + 2 * j) = hw j ∧ f (53 + 2 * j + 1) = ha j) (D : Int64) : fX9_digestFrom_b85 N (nI p) (nI h) al kd wt hw ha D 0 = some (hsh (hsh (hsh D (gp al) 28) (fun k => Int32.toInt64 (f (35 + k))) (2 * p)) (fun k => Int32.toInt64 (f (53 + k))) (2 * h)) := by
  unfold fX9_digestFrom_b85
  refine lpA 28 (fun i => hsh D (gp al) i) _ ?_ ?_ 0 (by omega) (by omega)
  · intro r i hi
    obtain ⟨q1, q2, q3, q4⟩ := pn_d i hi
    unfold fX9_digestFrom_b85_body fX9_digestFrom_b129
    rw [hl_go (K := 28) (n := 28) rfl hi (by decide), gm_chk_n (by omega) (by decide), gm_nz_ok (by decide), gm_chk_n (by omega) (by decide), gm_nz_ok (by decide), cl_n (by omega), q2, q1, s_areAlike q3 q4, gm_bind_s, nI_1]
    show _ = r (31 * hsh D (gp al) i + gp al i) _
    unfold gp
    cases bt (al (pn i / 10)) (pn i % 10)
    · rw [if_pos (by decide)]; rfl
    · rw [if_neg (by decide)]; rfl
  · intro r
    unfold fX9_digestFrom_b85_body fX9_digestFrom_b138
    rw [hl_end (K := 28) (n := 28) rfl (by omega) (by omega), s_dg3 hN hp hh6 hg hh]
theorem s_Mdg2 {N p h : Nat} {f al : Nat → Int32} {t : Int32} {ab be : Int64} (hN : 3000 ≤ N) (hp : p ≤ 5) (hh6 : h ≤ 6) (hal : ∀ a, a < 8 → f (45 + a) = al a) (h1 : f 1 = nI p) (h3 : f 3 = nI h) (D : Int64) : fX11_digest_b107 N t ab be f D 0 = some (31 * (31 * hsh (hsh (hsh D (gp al) 28) (fun k => Int32.toInt64 (f (35 + k))) (2 * p)) (fun k => Int32.toInt64 (f (53 + k))) (2 * h) + ab) + be, t) := by
  unfold fX11_digest_b107
  refine lpA 8 (fun a => hsh D (gp al) (pos a)) _ ?_ ?_ 0 (by omega) (by omega)
  · intro r a ha
    unfold fX11_digest_b107_body fX11_digest_b118
    rw [hl_go (K := 8) (n := 8) rfl ha (by decide), gm_let_s, nI_1]
    refine fx2 (fun d (x : Int64) (y : Int32) => ∃ b, a < b ∧ b + d = 8 ∧ y = nI b ∧ x = hsh D (gp al) (pos a + (b - (a + 1)))) (fun o => o = r (hsh D (gp al) (pos (a + 1))) (nI (a + 1))) ?_ N (8 - (a + 1)) _ _ (by omega) ⟨a + 1, by omega, by omega, rfl, by rw [Nat.sub_self, Nat.add_zero]⟩
    intro r2 d x y hI hr
    obtain ⟨b, hab, hb, rfl, rfl⟩ := hI
    unfold fX11_digest_b118_body fX11_digest_b152 fX11_more
    rcases Nat.eq_zero_or_pos d with h0 | h0
    · rw [hl_end (K := 8) (n := 8) rfl (by omega) (by omega), pos_s a ha, nI_1, show b = 8 by omega]
    · obtain ⟨q1, q2⟩ := pos_d a ha b (by omega) hab
      rw [hl_go (K := 8) (n := 8) rfl (by omega) (by decide), ix45, gm_chk_n (by omega) (by decide), gm_bind_s, cl_n (by omega), hal a ha]
      refine hr _ _ (d - 1) (by omega) ⟨b + 1, by omega, by omega, nI_1 b, ?_⟩
      rw [show pos a + (b + 1 - (a + 1)) = pos a + (b - (a + 1)) + 1 by omega, hsh]
      congr 1
      unfold gp
      rw [q1, q2, b_get _ b (by omega)]
      rfl
  · intro r
    unfold fX11_digest_b107_body fX11_digest_b158
    rw [hl_end (K := 8) (n := 8) rfl (by omega) (by omega), s_Mdg3 hN hp hh6 h1 h3]
    rfl
theorem gw0 {f e m al : Nat → Int32} {w i : Nat} (hf : rowE w f e m al) (hi : i < w) : gw f (4 * i) = Int32.toInt64 (e i) := by
  unfold gw
  rw [if_neg (by omega), show 4 * i / 4 = i by omega, show 4 * i % 4 = 0 by omega, Nat.add_zero, (hf.2.1 i hi).1]
theorem gw1 {f e m al : Nat → Int32} {w i : Nat} (hf : rowE w f e m al) (hi : i < w) : gw f (4 * i + 1) = Int32.toInt64 (m i) := by
  unfold gw
  rw [if_neg (by omega), show (4 * i + 1) / 4 = i by omega, show (4 * i + 1) % 4 = 1 by omega, (hf.2.1 i hi).2]
theorem gw2 {f c : Nat → Int32} {i : Nat} (hc : f (5 + 3 * i + 2) = c i) : gw f (4 * i + 2) = Int32.toInt64 (c i) := by
  unfold gw
  rw [if_neg (by omega), show (4 * i + 2) / 4 = i by omega, show (4 * i + 2) % 4 = 2 by omega, hc]
theorem gw3 {f : Nat → Int32} {i : Nat} : gw f (4 * i + 3) = Int32.toInt64 ((f 2 >>> (nI i &&& 31)) &&& 1) := by
  unfold gw
  rw [if_pos (by omega), show (4 * i + 3) / 4 = i by omega]
theorem hs4 (D : Int64) (g : Nat → Int64) (i : Nat) : hsh D g (4 * (i + 1)) = 31 * (31 * (31 * (31 * hsh D g (4 * i) + g (4 * i)) + g (4 * i + 1)) + g (4 * i + 2)) + g (4 * i + 3) := rfl
theorem s_dg1 {N w p h : Nat} {sd : Int32} {f e m c al kd wt hw ha : Nat → Int32} (hN : 3000 ≤ N) (hw' : w ≤ 10) (hp : p ≤ 5) (hh6 : h ≤ 6) (hf : rowE w f e m al) (hsd : f 2 = sd) (hco : ∀ j, j < w → f (5 + 3 * j + 2) = c j) (hg : rowP p f kd wt) (hh : ∀ j, j < h → f (53 + 2 * j) = hw j ∧ f (53 + 2 * j + 1) = ha j) (D : Int64) : fX9_digestFrom N (nI w) (nI p) sd (nI h) e m c al kd wt hw ha D = some (hsh (hsh (hsh (hsh D (gw f) (4 * w)) (gp al) 28) (fun k => Int32.toInt64 (f (35 + k))) (2 * p)) (fun k => Int32.toInt64 (f (53 + k))) (2 * h)) := by
  unfold fX9_digestFrom fX9_digestFrom_b5
  refine lpA w (fun i => hsh D (gw f) (4 * i)) _ ?_ ?_ 0 (by omega) (by omega)
  · intro r i hi
    unfold fX9_digestFrom_b5_body
    simp only [hs4]
    rw [hd_go hi (by omega), gw0 hf hi, gw1 hf hi, gw2 (hco i hi), gw3, hsd, gm_chk_n (by omega) (by decide), gm_let_s, gm_chk_n (by omega) (by decide), gm_let_s, gm_chk_n (by omega) (by decide), gm_let_s, gm_let_s, cl_n (by omega), nI_1]
  · intro r
    unfold fX9_digestFrom_b5_body fX9_digestFrom_b82
    rw [hd_end (by omega) (by omega), s_dg2 hN hp hh6 hg hh]
theorem s_Mdg1 {N w p h : Nat} {f e m al : Nat → Int32} {t : Int32} {ab be : Int64} (hN : 3000 ≤ N) (hw' : w ≤ 10) (hp : p ≤ 5) (hh6 : h ≤ 6) (hf : rowE w f e m al) (h1 : f 1 = nI p) (h3 : f 3 = nI h) (D : Int64) : fX11_digest_b37 N t ab be f D 0 = some (31 * (31 * hsh (hsh (hsh (hsh D (gw f) (4 * w)) (gp al) 28) (fun k => Int32.toInt64 (f (35 + k))) (2 * p)) (fun k => Int32.toInt64 (f (53 + k))) (2 * h) + ab) + be, t) := by
  unfold fX11_digest_b37
  refine lpA w (fun i => hsh D (gw f) (4 * i)) _ ?_ ?_ 0 (by omega) (by omega)
  · intro r i hi
    unfold fX11_digest_b37_body fX11_digest_b50
    rw [ck0 (by decide), cl0, hf.1, hd_go hi (by omega)]
    refine lpA 3 (fun k => hsh D (gw f) (4 * i + k)) _ ?_ ?_ 0 (by omega) (by omega)
    · intro r2 k hk
      unfold fX11_digest_b50_body fX11_more
      rw [hl_go (K := 3) (n := 3) rfl hk (by decide), ix3, nI_add, gm_chk_n (by omega) (by decide), gm_bind_s, cl_n (by omega), nI_1]
      show _ = r2 (31 * hsh D (gw f) (4 * i + k) + gw f (4 * i + k)) _
      unfold gw
      rw [if_neg (by omega), show (4 * i + k) / 4 = i by omega, show (4 * i + k) % 4 = k by omega]
    · intro r2
      unfold fX11_digest_b50_body fX11_digest_b82 fX11_more
      rw [hl_end (K := 3) (n := 3) rfl (by omega) (by omega), ck2 (by decide), gm_bind_s, cl2, nI_1, ← gw3]
      rfl
  · intro r
    unfold fX11_digest_b37_body fX11_digest_b105
    rw [ck0 (by decide), cl0, hf.1, hd_end (by omega) (by omega), s_Mdg2 hN hp hh6 hf.2.2 h1 h3]
/-! ===== who answers what: first with the meaning, else the first ===== -/
def fo (b : Nat → Bool) (m : Nat → Int32) (v : Int32) : Nat → Int32 → Nat → Int32
  | 0, x, _ => x
  | d + 1, x, i => if b i then (if m i = v then nI i else if x = -1 then fo b m v d (nI i) (i + 1) else fo b m v d x (i + 1)) else fo b m v d x (i + 1)
theorem s_firstOf {N w : Nat} {m : Nat → Int32} (hN : 11 ≤ N) (hw : w ≤ 10) (x v : Int32) : fX9_firstOf N (nI w) m x v = some (fo (bt x) m v w (-1) 0) := by
  unfold fX9_firstOf fX9_firstOf_b5
  refine fx2 (fun d a b => ∃ i, i + d = w ∧ b = nI i ∧ fo (bt x) m v d a i = fo (bt x) m v w (-1) 0) (fun o => o = some (fo (bt x) m v w (-1) 0)) ?_ N w (-1) 0 (by omega) ⟨0, by omega, rfl, rfl⟩
  intro r d a b hI hr
  obtain ⟨i, hi, rfl, hx⟩ := hI
  unfold fX9_firstOf_b5_body fX9_firstOf_b46
  rcases Nat.eq_zero_or_pos d with h0 | h0
  · subst h0
    rw [hd_end (by omega) (by omega), ← hx]; rfl
  · obtain ⟨d, rfl⟩ : ∃ k, d = k + 1 := ⟨d - 1, by omega⟩
    rw [hd_go (by omega) (by omega), b_get x i (by omega)]
    rw [fo] at hx
    cases hb : bt x i with
    | false =>
      rw [hb, if_neg (by decide)] at hx
      rw [if_neg (by decide)]
      exact hr _ _ d (by omega) ⟨i + 1, by omega, nI_1 i, hx⟩
    | true =>
      rw [hb, if_pos rfl] at hx
      rw [if_pos (by decide), gm_chk_n (by omega) (by decide), cl_n (by omega)]
      by_cases q : m i = v
      · rw [if_pos q] at hx ⊢; rw [hx]
      · rw [if_neg q] at hx ⊢
        by_cases q2 : a = -1
        · rw [if_pos q2] at hx ⊢
          exact hr _ _ d (by omega) ⟨i + 1, by omega, nI_1 i, hx⟩
        · rw [if_neg q2] at hx ⊢
          exact hr _ _ d (by omega) ⟨i + 1, by omega, nI_1 i, hx⟩
theorem fo_cong {b b' : Nat → Bool} {m : Nat → Int32} {v : Int32} : ∀ (d i : Nat) (x : Int32), (∀ j, j < i + d → b j = b' j) → fo b m v d x i = fo b' m v d x i
  | 0, _, _, _ => rfl
  | d + 1, i, x, h => by
    rw [fo, fo, h i (by omega), fo_cong d (i + 1) _ (fun j hj => h j (by omega)), fo_cong d (i + 1) _ (fun j hj => h j (by omega))]
theorem s_MansOf {N w k a : Nat} {v : Int32} {f e m al : Nat → Int32} {en : Nat → Nat} (hN : 11 ≤ N) (hf : rowE w f e m al) (hw : w ≤ 10) (he : okE w e en) (hs : symA al) (hk : k < 6) (ha : a < w) : fX11_answerOf N f (nI k) v (nI a) = some (fo (chi k v en m al a) m v w (-1) 0) := by
  unfold fX11_answerOf fX11_answerOf_b6
  refine fx2 (fun d p q => ∃ i, i + d = w ∧ q = nI i ∧ fo (chi k v en m al a) m v d p i = fo (chi k v en m al a) m v w (-1) 0) (fun o => o = some (fo (chi k v en m al a) m v w (-1) 0)) ?_ N w (-1) 0 (by omega) ⟨0, by omega, rfl, rfl⟩
  intro r d p q hI hr
  obtain ⟨i, hi, rfl, hx⟩ := hI
  unfold fX11_answerOf_b6_body fX11_answerOf_b55 fX11_answerOf_b57
  rw [ck0 (by decide), cl0, hf.1]
  rcases Nat.eq_zero_or_pos d with h0 | h0
  · subst h0
    rw [hd_end (by omega) (by omega), ← hx]; rfl
  · obtain ⟨d, rfl⟩ : ∃ k, d = k + 1 := ⟨d - 1, by omega⟩
    have hiw : i < w := by omega
    rw [hd_go (by omega) (by omega), s_Mchimes hf hw he hs hiw ha hk, gm_bind_s]
    rw [fo] at hx
    cases hb : chi k v en m al a i with
    | false =>
      rw [hb, if_neg (by decide)] at hx
      rw [if_pos (by decide)]
      exact hr _ _ d (by omega) ⟨i + 1, by omega, nI_1 i, hx⟩
    | true =>
      rw [hb, if_pos rfl] at hx
      rw [if_neg (by decide), s_Mmeaning hf hw hiw, gm_bind_s]
      by_cases q : m i = v
      · rw [if_pos q] at hx ⊢; rw [hx]
      · rw [if_neg q] at hx ⊢
        by_cases q2 : p = -1
        · rw [if_pos q2] at hx ⊢
          exact hr _ _ d (by omega) ⟨i + 1, by omega, nI_1 i, hx⟩
        · rw [if_neg q2] at hx ⊢
          exact hr _ _ d (by omega) ⟨i + 1, by omega, nI_1 i, hx⟩
theorem s_reply {N w k a : Nat} {v : Int32} {e m al : Nat → Int32} {en : Nat → Nat} (hN : 11 ≤ N) (hw : w ≤ 10) (he : okE w e en) (hk : k < 6) (ha : a < w) : fX10_reply N (nI w) e m al (nI k) v (nI a) = some (fo (chi k v en m al a) m v w (-1) 0) := by
  unfold fX10_reply
  rw [gm_chk_n hk (by decide), s_KD hN hw he ha hk, gm_bind_s, s_firstOf hN hw, gm_bind_s]
  rw [fo_cong w 0 (-1) (b' := chi k v en m al a) (fun j hj => by rw [bs_bt _ w (by omega) j (by omega), decide_eq_true (show j < w by omega), Bool.true_and])]
def allb (f : Nat → Bool) : Nat → Bool
  | 0 => true
  | n + 1 => allb f n && f n
theorem allb_t {f : Nat → Bool} : ∀ {n : Nat}, allb f n = true ↔ ∀ i, i < n → f i = true
  | 0 => ⟨fun _ i hi => absurd hi (Nat.not_lt_zero i), fun _ => rfl⟩
  | n + 1 => by
    rw [allb, Bool.and_eq_true, allb_t]
    exact ⟨fun ⟨h1, h2⟩ i hi => by
      rcases Nat.lt_or_ge i n with q | q
      · exact h1 i q
      · rw [show i = n by omega]; exact h2, fun h => ⟨fun i hi => h i (by omega), h n (by omega)⟩⟩
theorem bs_off {g : Nat → Bool} {n j : Nat} (hn : n ≤ 32) (hj : j < n) : bs g n &&& (((1 : Int32) <<< (nI j &&& 31)) ^^^ (-1)) = bs (fun z => if z = j then false else g z) n := by
  refine bs_of hn (fun i hi => ?_)
  rw [b_and, bs_bt g n hn i hi, b_not _ hi, b_one j (by omega) hi]
  by_cases q : i = j
  · simp [q]
  · simp [q]
/-- what one of kind k may want -/
def wA (k w : Nat) (en : Nat → Nat) (m al hw ha : Nat → Int32) (z i : Nat) : Bool := decide (fo (chi k (nI z) en m al (hw i).toNatClampNeg) m (nI z) w (-1) 0 = ha i)
theorem s_wantBits {N w h k : Nat} {e m al hw ha : Nat → Int32} {en : Nat → Nat} (hN : 11 ≤ N) (hw' : w ≤ 10) (hh6 : h ≤ 6) (he : okE w e en) (hk : k < 6) (hh : ∀ j, j < h → ∃ x, x < w ∧ hw j = nI x) : fX10_wantBits N (nI w) (nI h) e m al hw ha (nI k) = some (bs (fun z => allb (wA k w en m al hw ha z) h) 8) := by
  unfold fX10_wantBits fX10_wantBits_b6
  rw [show (255 : Int32) = bs (fun z => allb (wA k w en m al hw ha z) 0) 8 from (by decide : (255 : Int32) = bs (fun _ => true) 8)]
  refine lpA h (fun i => bs (fun z => allb (wA k w en m al hw ha z) i) 8) _ ?_ ?_ 0 (by omega) (by omega)
  · intro r i hi
    obtain ⟨x, hx, ex⟩ := hh i hi
    unfold fX10_wantBits_b6_body fX10_wantBits_b20
    rw [hd_go hi (by omega)]
    have e0 : bs (fun z => allb (wA k w en m al hw ha z) i) 8 = bs (fun z => if z < 0 then allb (wA k w en m al hw ha z) (i + 1) else allb (wA k w en m al hw ha z) i) 8 := bs_cong (fun z _ => by rw [if_neg (by omega)])
    rw [e0]
    refine lpA 8 (fun j => bs (fun z => if z < j then allb (wA k w en m al hw ha z) (i + 1) else allb (wA k w en m al hw ha z) i) 8) _ ?_ ?_ 0 (by omega) (by omega)
    · intro r2 j hj
      unfold fX10_wantBits_b20_body fX10_wantBits_b64
      have hb : bs (fun z => if z < j + 1 then allb (wA k w en m al hw ha z) (i + 1) else allb (wA k w en m al hw ha z) i) 8 = if wA k w en m al hw ha j i then bs (fun z => if z < j then allb (wA k w en m al hw ha z) (i + 1) else allb (wA k w en m al hw ha z) i) 8 else bs (fun z => if z < j then allb (wA k w en m al hw ha z) (i + 1) else allb (wA k w en m al hw ha z) i) 8 &&& (((1 : Int32) <<< (nI j &&& 31)) ^^^ (-1)) := by
        cases hq : wA k w en m al hw ha j i with
        | true =>
          rw [if_pos rfl]
          refine bs_cong (fun z _ => ?_)
          by_cases q : z = j
          · subst q
            simp only [if_pos (Nat.lt_succ_self z), Nat.lt_irrefl, if_false, allb, hq, Bool.and_true]
          · rcases Nat.lt_or_ge z j with q2 | q2
            · rw [if_pos (by omega), if_pos q2]
            · rw [if_neg (by omega), if_neg (by omega)]
        | false =>
          rw [if_neg (by decide), bs_off (by omega) hj]
          refine bs_cong (fun z _ => ?_)
          by_cases q : z = j
          · subst q
            simp only [if_pos (Nat.lt_succ_self z), if_true, allb, hq, Bool.and_false]
          · rcases Nat.lt_or_ge z j with q2 | q2
            · rw [if_pos (by omega), if_neg q, if_pos q2]
            · rw [if_neg (by omega), if_neg q, if_neg (by omega)]
      rw [hb, hl_go (K := 8) (n := 8) rfl hj (by decide), gm_chk_n (by omega) (by decide), cl_n (by omega), ex, s_reply hN hw' he hk hx, gm_bind_s, gm_chk_n (by omega) (by decide), nI_1]
      have hw2 : wA k w en m al hw ha j i = decide (fo (chi k (nI j) en m al x) m (nI j) w (-1) 0 = ha i) := by
        unfold wA; rw [ex, cl_n (by omega)]
      rw [hw2]
      by_cases q : fo (chi k (nI j) en m al x) m (nI j) w (-1) 0 = ha i
      · rw [if_pos q, if_pos (decide_eq_true q)]
      · rw [if_neg q, if_neg (by rw [decide_eq_false q]; decide), gm_let_s]
    · intro r2
      unfold fX10_wantBits_b20_body fX10_wantBits_b70
      rw [hl_end (K := 8) (n := 8) rfl (by omega) (by omega), nI_1]
      congr 1
  · intro r
    unfold fX10_wantBits_b6_body
    rw [hd_end (by omega) (by omega)]
theorem s_MwantsOf {N w h k : Nat} {f e m al hw ha : Nat → Int32} {en : Nat → Nat} (hN : 11 ≤ N) (hf : rowE w f e m al) (hw' : w ≤ 10) (hh6 : h ≤ 6) (he : okE w e en) (hs : symA al) (hk : k < 6) (h3 : f 3 = nI h) (hr : ∀ j, j < h → f (53 + 2 * j) = hw j ∧ f (53 + 2 * j + 1) = ha j) (hh : ∀ j, j < h → ∃ x, x < w ∧ hw j = nI x) : fX11_wantsOf N f (nI k) = some (bs (fun z => allb (wA k w en m al hw ha z) h) 8) := by
  unfold fX11_wantsOf fX11_wantsOf_b4
  refine lpA 8 (fun j => bs (fun z => allb (wA k w en m al hw ha z) h) j) _ ?_ ?_ 0 (by omega) (by omega)
  · intro r j hj
    unfold fX11_wantsOf_b4_body fX11_wantsOf_b16
    rw [hl_go (K := 8) (n := 8) rfl hj (by decide)]
    refine lpA h (fun i => bi (allb (wA k w en m al hw ha j) i)) _ ?_ ?_ 0 (by omega) (by omega)
    · intro r2 i hi
      obtain ⟨x, hx, ex⟩ := hh i hi
      have hw2 : wA k w en m al hw ha j i = decide (fo (chi k (nI j) en m al x) m (nI j) w (-1) 0 = ha i) := by
        unfold wA; rw [ex, cl_n (by omega)]
      unfold fX11_wantsOf_b16_body fX11_wantsOf_b71 fX11_wantsOf_b72
      simp only [allb]
      rw [ck3 (by decide), cl3, h3, hd_go hi (by omega)]
      cases hc : allb (wA k w en m al hw ha j) i with
      | false => rw [if_pos (by decide), Bool.false_and, nI_1]; rfl
      | true =>
        rw [if_neg (by decide), ix53, gm_chk_n (by omega) (by decide), cl_n (by omega), (hr i hi).1, ex, s_MansOf hN hf hw' he hs hk hx, gm_bind_s, nI_1, gm_chk_n (by omega) (by decide), cl_n (by omega), (hr i hi).2, Bool.true_and, hw2, nI_1]
        by_cases q : fo (chi k (nI j) en m al x) m (nI j) w (-1) 0 = ha i
        · rw [if_pos q, decide_eq_true q]; rfl
        · rw [if_neg q, decide_eq_false q]; rfl
    · intro r2
      unfold fX11_wantsOf_b16_body fX11_wantsOf_b80 fX11_wantsOf_b93
      rw [ck3 (by decide), cl3, h3, hd_end (by omega) (by omega)]
      show _ = r (bs _ j ||| (if allb (wA k w en m al hw ha j) h then _ else _)) _
      cases allb (wA k w en m al hw ha j) h with
      | false => rw [if_pos (by decide), gm_let_s, nI_1, if_neg (by decide)]
      | true => rw [if_neg (by decide), gm_let_s, nI_1, if_pos rfl]
  · intro r
    unfold fX11_wantsOf_b4_body
    rw [hl_end (K := 8) (n := 8) rfl (by omega) (by omega)]
set_option maxHeartbeats 4000000 in
theorem sim_digest {N : Nat} (hN : 3000 ≤ N) : S_digest N gm_R := by
  intro m_imagesKept m_bads m_nos m_fulls m_above m_below m_now_words m_now_people m_now_said m_now_undos m_now_heard m_now_ending m_now_meaning m_now_cost m_now_alikeTo m_now_kind m_now_want m_now_saidAhead m_now_heardWord m_now_heardAnswer m_draft_words m_draft_people m_draft_said m_draft_undos m_draft_heard m_draft_ending m_draft_meaning m_draft_cost m_draft_alikeTo m_draft_kind m_draft_want m_draft_saidAhead m_draft_heardWord m_draft_heardAnswer m_images_0_words m_images_0_people m_images_0_said m_images_0_undos m_images_0_heard m_images_0_ending m_images_0_meaning m_images_0_cost m_images_0_alikeTo m_images_0_kind m_images_0_want m_images_0_saidAhead m_images_0_heardWord m_images_0_heardAnswer m_images_1_words m_images_1_people m_images_1_said m_images_1_undos m_images_1_heard m_images_1_ending m_images_1_meaning m_images_1_cost m_images_1_alikeTo m_images_1_kind m_images_1_want m_images_1_saidAhead m_images_1_heardWord m_images_1_heardAnswer m_text_length m_text_items m_text_place m_text_start m_text_token m_text_number m_text_bytes m_duel_words m_duel_saidAtFirst m_duel_asked m_duel_longest m_duel_shortest m_duel_chimesOfFirst m_duel_chimesOfSecond m_duel_lasts m_cover_sayable m_cover_price m_cover_covered m_cover_spent m_clashes m_tally m_sayableByPair m_chosenPairs n_thrown n_size n_at n_start n_token n_value n_faultAt n_allowed n_firstPair n_secondPair n_above n_below n_refused n_tongue n_fresh n_kept n_isKept n_text n_said n_talk hR _
  obtain ⟨hT, hX, hF, hA, hI, hC⟩ := hR
  have hT0 := hT
  obtain ⟨w, p, u, h, en, mn, cn, kn, wn, ⟨hw, hp, hu8, hh6⟩, ⟨rfl, rfl, rfl, rfl⟩, hrE, hrP, hr2, hco, hE, hM, hP, hs, hir, hh, hu, hsd⟩ := hT
  have hX0 := hX
  obtain ⟨n, hn, e1, e2, hb⟩ := hX
  obtain ⟨v, hv, hsv⟩ := hsd
  have hg : ∀ j, j < h → n_tongue (53 + 2 * j) = m_now_heardWord j ∧ n_tongue (53 + 2 * j + 1) = m_now_heardAnswer j := fun j hj => ⟨(hh j hj).1, (hh j hj).2.1⟩
  have hF0 := hF
  obtain ⟨hA1, hA2⟩ := hA
  generalize hDg : hsh 929 (fun i => Int32.toInt64 (hm (nI w) (nI p) (bc m_now_said) (nI u) (nI h) (pr m_now_alikeTo 8 / 2) m_text_length i)) 7 = D
  have h1 : fX10_digest N m_above m_below (nI w) (nI p) m_now_said (nI u) (nI h) m_now_ending m_now_meaning m_now_cost m_now_alikeTo m_now_kind m_now_want m_now_heardWord m_now_heardAnswer m_text_length = some (31 * (31 * (hsh (hsh (hsh (hsh D (gw n_tongue) (4 * w)) (gp m_now_alikeTo) 28) (fun k => Int32.toInt64 (n_tongue (35 + k))) (2 * p)) (fun k => Int32.toInt64 (n_tongue (53 + k))) (2 * h)) + m_above) + m_below) := by
    unfold fX10_digest fX10_digest_b6
    refine lpA 7 (fun i => hsh 929 (fun i => Int32.toInt64 (hm (nI w) (nI p) (bc m_now_said) (nI u) (nI h) (pr m_now_alikeTo 8 / 2) m_text_length i)) i) _ ?_ ?_ 0 (by omega) (by omega)
    · intro r i hi
      unfold fX10_digest_b6_body
      rw [hl_go (K := 7) (n := 7) rfl hi (by decide), s_howMany (by omega) hi, gm_bind_s, gm_let_s, nI_1]
      rfl
    · intro r
      unfold fX10_digest_b6_body fX10_digest_b31
      rw [hl_end (K := 7) (n := 7) rfl (by omega) (by omega), s_dg1 hN hw hp hh6 hrE hr2.1 (fun j hj => (hco j hj).1) hrP hg, gm_bind_s, gm_let_s, hDg]
  have h2 : fX11_digest N n_thrown n_size n_above n_below n_tongue = some (31 * (31 * (hsh (hsh (hsh (hsh D (gw n_tongue) (4 * w)) (gp m_now_alikeTo) 28) (fun k => Int32.toInt64 (n_tongue (35 + k))) (2 * p)) (fun k => Int32.toInt64 (n_tongue (53 + k))) (2 * h)) + m_above) + m_below, 0) := by
    unfold fX11_digest fX11_digest_b11
    refine lpA 7 (fun i => hsh 929 (fun i => Int32.toInt64 (hm (nI w) (nI p) (bc m_now_said) (nI u) (nI h) (pr m_now_alikeTo 8 / 2) m_text_length i)) i) _ ?_ ?_ 0 (by omega) (by omega)
    · intro r i hi
      unfold fX11_digest_b11_body fX11_more
      rw [hl_go (K := 7) (n := 7) rfl hi (by decide), s_countOf (al := m_now_alikeTo) (by omega) hi hrE.2.2 (fun a ha => (hir a ha).2) (by rw [hr2.1, hsv]; exact (bc_sm2 hw hv).symm), gm_bind_s, gm_bind_s, nI_1, hrE.1, hrP.1, hr2.1, hr2.2.1, hr2.2.2, e2, ← e1]
      rfl
    · intro r
      unfold fX11_digest_b11_body fX11_digest_b35
      rw [hl_end (K := 7) (n := 7) rfl (by omega) (by omega), s_Mdg1 hN hw hp hh6 hrE hrP.1 hr2.2.1, hDg, hA1, hA2]
  exact ⟨_, _, h1, h2, rfl, hT0, hX0, hF, ⟨hA1, hA2⟩, hI, hC⟩
set_option maxHeartbeats 4000000 in
theorem sim_wants {N : Nat} (hN : 3000 ≤ N) : S_wants N gm_R := by
  intro m_imagesKept m_bads m_nos m_fulls m_above m_below m_now_words m_now_people m_now_said m_now_undos m_now_heard m_now_ending m_now_meaning m_now_cost m_now_alikeTo m_now_kind m_now_want m_now_saidAhead m_now_heardWord m_now_heardAnswer m_draft_words m_draft_people m_draft_said m_draft_undos m_draft_heard m_draft_ending m_draft_meaning m_draft_cost m_draft_alikeTo m_draft_kind m_draft_want m_draft_saidAhead m_draft_heardWord m_draft_heardAnswer m_images_0_words m_images_0_people m_images_0_said m_images_0_undos m_images_0_heard m_images_0_ending m_images_0_meaning m_images_0_cost m_images_0_alikeTo m_images_0_kind m_images_0_want m_images_0_saidAhead m_images_0_heardWord m_images_0_heardAnswer m_images_1_words m_images_1_people m_images_1_said m_images_1_undos m_images_1_heard m_images_1_ending m_images_1_meaning m_images_1_cost m_images_1_alikeTo m_images_1_kind m_images_1_want m_images_1_saidAhead m_images_1_heardWord m_images_1_heardAnswer m_text_length m_text_items m_text_place m_text_start m_text_token m_text_number m_text_bytes m_duel_words m_duel_saidAtFirst m_duel_asked m_duel_longest m_duel_shortest m_duel_chimesOfFirst m_duel_chimesOfSecond m_duel_lasts m_cover_sayable m_cover_price m_cover_covered m_cover_spent m_clashes m_tally m_sayableByPair m_chosenPairs n_thrown n_size n_at n_start n_token n_value n_faultAt n_allowed n_firstPair n_secondPair n_above n_below n_refused n_tongue n_fresh n_kept n_isKept n_text n_said n_talk hR x1
  obtain ⟨hT, hX, hF, hA, hI, hC⟩ := hR
  have hT0 := hT
  obtain ⟨w, p, u, h, en, mn, cn, kn, wn, ⟨hw, hp, hu8, hh6⟩, ⟨rfl, rfl, rfl, rfl⟩, hrE, hrP, hr2, hco, hE, hM, hP, hs, hir, hh, hu, hsd⟩ := hT
  cases hi1 : inr x1 6 with
  | false =>
    have h1 : fX10_wants N m_bads m_nos m_fulls (nI w) (nI h) m_now_ending m_now_meaning m_now_alikeTo m_now_heardWord m_now_heardAnswer x1 = some (-2, m_bads + 1, m_nos, m_fulls) := by
      unfold fX10_wants
      rw [s_fl x1 6 6 rfl (by decide), gm_bind_s, hi1, if_pos (by decide), s_refB, gm_bind_s]
    have h2 : fX11_wants N n_thrown n_refused n_tongue x1 = some (-2, 0, upd n_refused 0 (n_refused 0 + 1)) := by
      unfold fX11_wants
      rw [s_in (B := 6) x1 5 (by decide), gm_bind_s, hi1, if_pos (by decide), s_bad, gm_bind_s]
    exact ⟨_, _, h1, h2, rfl, hT0, hX, RFb hF, hA, hI, hC⟩
  | true =>
    obtain ⟨k, hk, rfl⟩ := inr_t hi1 (by omega)
    have hg : ∀ j, j < h → n_tongue (53 + 2 * j) = m_now_heardWord j ∧ n_tongue (53 + 2 * j + 1) = m_now_heardAnswer j := fun j hj => ⟨(hh j hj).1, (hh j hj).2.1⟩
    have hgx : ∀ j, j < h → ∃ x, x < w ∧ m_now_heardWord j = nI x := fun j hj => (hh j hj).2.2.1
    have h1 : fX10_wants N m_bads m_nos m_fulls (nI w) (nI h) m_now_ending m_now_meaning m_now_alikeTo m_now_heardWord m_now_heardAnswer (nI k) = some (bs (fun z => allb (wA k w en m_now_meaning m_now_alikeTo m_now_heardWord m_now_heardAnswer z) h) 8, m_bads, m_nos, m_fulls) := by
      unfold fX10_wants
      rw [s_fl (nI k) 6 6 rfl (by decide), gm_bind_s, hi1, if_neg (by decide), s_wantBits (by omega) hw hh6 hE hk hgx, gm_bind_s]
    have h2 : fX11_wants N n_thrown n_refused n_tongue (nI k) = some (bs (fun z => allb (wA k w en m_now_meaning m_now_alikeTo m_now_heardWord m_now_heardAnswer z) h) 8, 0, n_refused) := by
      unfold fX11_wants
      rw [s_in (B := 6) (nI k) 5 (by decide), gm_bind_s, hi1, if_neg (by decide), s_MwantsOf (by omega) hrE hw hh6 hE hs hk hr2.2.1 hg hgx, gm_bind_s]
    exact ⟨_, _, h1, h2, rfl, hT0, hX, hF, hA, hI, hC⟩
