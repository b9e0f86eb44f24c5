/-! ===== what can be said by any word, with half rhymes allowed ===== -/
theorem fx5 {A B C D E R : Type} {f : (A → B → C → D → E → Option R) → A → B → C → D → E → Option R} {z : A → B → C → D → E → Option R} (I : Nat → A → B → C → D → E → Prop) (P : Option R → Prop) (h : ∀ (r : A → B → C → D → E → Option R) (d : Nat) (a : A) (b : B) (c : C) (x : D) (y : E), I d a b c x y → (∀ a' b' c' x' y' d', d' < d → I d' a' b' c' x' y' → P (r a' b' c' x' y')) → P (f r a b c x y)) : ∀ (n d : Nat) (a : A) (b : B) (c : C) (x : D) (y : E), d < n → I d a b c x y → P (gm_fix f z n a b c x y)
  | 0, d, _, _, _, _, _, hd, _ => absurd hd (Nat.not_lt_zero d)
  | n + 1, d, a, b, c, x, y, hd, hI => by rw [gm_fix_s]; exact h _ d a b c x y hI (fun a' b' c' x' y' d' h' hI' => fx5 I P h n d' a' b' c' x' y' (by omega) hI')
theorem orp_or {g g1 g2 : Nat → Int32} : ∀ n, (∀ a, a < n → g a = g1 a ||| g2 a) → orp g n = orp g1 n ||| orp g2 n
  | 0, _ => (or_0 0).symm
  | n + 1, h => by
    rw [orp, orp, orp, orp_or n (fun a ha => h a (by omega)), h n (by omega)]
    refine b_ext (fun i _ => ?_)
    simp only [b_or]
    ac_rfl
theorem ms_or {mn : Nat → Nat} {b b1 b2 : Nat → Bool} : ∀ n, (∀ a, a < n → b a = (b1 a || b2 a)) → ms mn b n = ms mn b1 n ||| ms mn b2 n
  | 0, _ => (or_0 0).symm
  | n + 1, h => by
    rw [ms, ms, ms, ms_or n (fun a ha => h a (by omega)), h n (by omega)]
    refine b_ext (fun i _ => ?_)
    simp only [b_or]
    cases b1 n <;> cases b2 n <;> simp [b_or, b_0, b_or] <;> cases bt (ms mn b1 n) i <;> cases bt (ms mn b2 n) i <;> simp
theorem ms_z {mn : Nat → Nat} {b : Nat → Bool} : ∀ n, (∀ a, a < n → b a = false) → ms mn b n = 0
  | 0, _ => rfl
  | n + 1, h => by rw [ms, ms_z n (fun a ha => h a (by omega)), h n (by omega), if_neg (by decide), or_0]
theorem bs_or {b b1 b2 : Nat → Bool} {n : Nat} (hn : n ≤ 32) (h : ∀ a, a < n → b a = (b1 a || b2 a)) : bs b n = bs b1 n ||| bs b2 n := by
  refine b_ext (fun i hi => ?_)
  rw [b_or, bs_bt b n hn i hi, bs_bt b1 n hn i hi, bs_bt b2 n hn i hi]
  by_cases q : i < n
  · rw [h i q, decide_eq_true q, Bool.true_and, Bool.true_and, Bool.true_and]
  · rw [decide_eq_false q, Bool.false_and, Bool.false_and, Bool.false_and]; rfl
theorem ms_orp {mn : Nat → Nat} {g : Nat → Int32} {s : Int32} {w : Nat} : ∀ n, ms mn (bt (orp g n &&& s)) w = orp (fun a => ms mn (bt (g a &&& s)) w) n
  | 0 => ms_z w (fun a _ => by rw [orp, b_and, b_0]; rfl)
  | n + 1 => by
    rw [orp, orp, ← ms_orp n]
    exact ms_or w (fun a _ => by rw [b_and, b_or, b_and, b_and, Bool.and_or_distrib_right])
def Wd (k : Nat) (v : Int32) (en mn : Nat → Nat) (m al : Nat → Int32) (w : Nat) (sd : Int32) : Int32 := orp (fun a => ms mn (bt (ans k v en m al w sd a)) w) w
theorem chi_or {k : Nat} {v : Int32} {en : Nat → Nat} {m3 m1 m2 al3 al1 al2 : Nat → Int32} {a x : Nat} (hk : k < 6) (ha1 : m1 a = m3 a) (hx1 : m1 x = m3 x) (ha2 : m2 a = m3 a) (hx2 : m2 x = m3 x) (hb : bt (al3 (en a)) (en x) = (bt (al1 (en a)) (en x) || bt (al2 (en a)) (en x))) : chi k v en m3 al3 a x = (chi k v en m1 al1 a x || chi k v en m2 al2 a x) := by
  rcases (show k = 0 ∨ k = 1 ∨ k = 2 ∨ k = 3 ∨ k = 4 ∨ k = 5 by omega) with e | e | e | e | e | e <;> subst e <;> simp only [chi, hb, ha1, hx1, ha2, hx2] <;> generalize decide (en x = en a) = p <;> generalize decide (x = a) = q <;> generalize bt (al1 (en a)) (en x) = b1 <;> generalize bt (al2 (en a)) (en x) = b2 <;> cases p <;> cases q <;> cases b1 <;> cases b2 <;> simp
theorem Wd_or {k w : Nat} {v sd : Int32} {en mn : Nat → Nat} {m3 m1 m2 al3 al1 al2 : Nat → Int32} (hw : w ≤ 10) (hk : k < 6) (he : ∀ a, a < w → en a < 8) (h1 : ∀ a, a < w → m1 a = m3 a) (h2 : ∀ a, a < w → m2 a = m3 a) (hb : ∀ c i, c < 8 → i < 8 → bt (al3 c) i = (bt (al1 c) i || bt (al2 c) i)) : Wd k v en mn m3 al3 w sd = Wd k v en mn m1 al1 w sd ||| Wd k v en mn m2 al2 w sd := by
  unfold Wd
  refine orp_or w (fun a ha => ?_)
  refine ms_or w (fun x hx => ?_)
  unfold ans
  rw [b_and, b_and, b_and, bs_or (by omega) (fun z hz => chi_or hk (h1 a ha) (h1 z hz) (h2 a ha) (h2 z hz) (hb _ _ (he a ha) (he z hz))), b_or, Bool.and_or_distrib_right]
theorem or_self (x : Int32) : x ||| x = x := b_ext (fun i _ => by rw [b_or, Bool.or_self])
theorem Wd_eq {k w : Nat} {v sd : Int32} {en mn : Nat → Nat} {m3 m1 al3 al1 : Nat → Int32} (hw : w ≤ 10) (hk : k < 6) (he : ∀ a, a < w → en a < 8) (h1 : ∀ a, a < w → m1 a = m3 a) (hb : ∀ c i, c < 8 → i < 8 → bt (al3 c) i = bt (al1 c) i) : Wd k v en mn m3 al3 w sd = Wd k v en mn m1 al1 w sd := by
  exact (Wd_or (m1 := m1) (m2 := m1) (al1 := al1) (al2 := al1) hw hk he h1 h1 (fun c i hc hi => by rw [hb c i hc hi, Bool.or_self])).trans (or_self _)
theorem s_anyWord {N w p j : Nat} {sd : Int32} {e m al kd wt : Nat → Int32} {en mn kn wn : Nat → Nat} (hN : 3000 ≤ N) (hw : w ≤ 10) (hp : p ≤ 5) (he : okE w e en) (hm : okM w m mn) (hk : okP p kd wt kn wn) (hj : j < p) : fX10_sayableByAnyWord N (nI w) sd e m al kd wt (nI j) = some (Wd (kn j) (wt j) en mn m al w sd) := by
  obtain ⟨k1, k2, k3, k4⟩ := hk j hj
  unfold fX10_sayableByAnyWord fX10_sayableByAnyWord_b18
  rw [gm_chk_n (by omega) (by decide), cl_n (by omega), k2, gm_chk_n (by omega) (by decide)]
  refine lpA w (fun i => orp (fun a => bs (chi (kn j) (wt j) en m al a) w) i) _ ?_ ?_ 0 (by omega) (by omega)
  · intro r i hi
    unfold fX10_sayableByAnyWord_b18_body
    rw [hd_go hi (by omega), gm_chk_n (by omega) (by decide), cl_n (by omega), s_KD (m := m) (al := al) (by omega) hw he hi k1, gm_bind_s, gm_let_s, nI_1]
    rfl
  · intro r
    unfold fX10_sayableByAnyWord_b18_body fX10_sayableByAnyWord_b51
    rw [hd_end (by omega) (by omega), s_meaningsOf (by omega) hw hm, gm_bind_s, ms_orp]
    rfl
def sub (x y : Int32) : Bool := decide (x &&& (y ^^^ (-1)) = 0)
theorem s_McanAll {N w p j : Nat} {x sd : Int32} {f e m al kd wt : Nat → Int32} {en mn kn wn : Nat → Nat} (hN : 3000 ≤ N) (hf : rowE w f e m al) (hg : rowP p f kd wt) (hsd : f 2 = sd) (hw : w ≤ 10) (hp : p ≤ 5) (he : okE w e en) (hm : okM w m mn) (hk : okP p kd wt kn wn) (hs : symA al) (hj : j < p) : fX11_canSayAll N f (nI j) x = some (bi (sub x (Wd (kn j) (wt j) en mn m al w sd))) := by
  unfold fX11_canSayAll fX11_canSayAll_b5
  refine lpA w (fun i => orp (fun a => ms mn (bt (ans (kn j) (wt j) en m al w sd a)) w) i) _ ?_ ?_ 0 (by omega) (by omega)
  · intro r i hi
    unfold fX11_canSayAll_b5_body
    rw [ck0 (by decide), cl0, hf.1, hd_go hi (by omega), s_McanSay (by omega) hf hg hsd hw hp he hm hk hs hj hi, gm_bind_s, gm_let_s, nI_1]
    rfl
  · intro r
    unfold fX11_canSayAll_b5_body fX11_canSayAll_b32
    rw [ck0 (by decide), cl0, hf.1, hd_end (by omega) (by omega)]
    unfold sub Wd
    by_cases q : x &&& (orp (fun a => ms mn (bt (ans (kn j) (wt j) en m al w sd a)) w) w ^^^ (-1)) = 0
    · rw [if_pos q, decide_eq_true q]; rfl
    · rw [if_neg q, decide_eq_false q]; rfl
/-- pairs laid and taken away -/
theorem setR_A (f : Nat → Int32) (a b : Nat) (v : Bool) (c : Nat) : setR f a b v (45 + c) = setA (fun z => f (45 + z)) a b v c := by
  unfold setR setA
  by_cases h1 : c = b
  · subst h1; rw [upd_s, upd_s]
  · rw [upd_n (show 45 + c ≠ 45 + b by omega), upd_n h1]
    by_cases h2 : c = a
    · subst h2; rw [upd_s, upd_s]
    · rw [upd_n (show 45 + c ≠ 45 + a by omega), upd_n h2]
theorem setR_bt {f : Nat → Int32} {a b : Nat} (ha : a < 8) (hb : b < 8) (hab : ¬ a = b) (v : Bool) (c : Nat) {i : Nat} (hi : i < 32) : bt (setR f a b v (45 + c)) i = if (c = a ∧ i = b) ∨ (c = b ∧ i = a) then v else bt (f (45 + c)) i := by
  rw [setR_A, setA_bt ha hb hab _ _ hi]
theorem setR_o {f : Nat → Int32} {a b : Nat} (ha : a < 8) (hb : b < 8) (v : Bool) {k : Nat} (hk : k < 45 ∨ 53 ≤ k) : setR f a b v k = f k := by
  unfold setR
  rw [upd_n (by omega), upd_n (by omega)]
theorem setR_row {w p : Nat} {f e m al kd wt : Nat → Int32} {a b : Nat} (ha : a < 8) (hb : b < 8) (hab : ¬ a = b) (v : Bool) (hw : w ≤ 10) (hp : p ≤ 5) (hf : rowE w f e m al) (hg : rowP p f kd wt) (hs : symA al) : rowE w (setR f a b v) e m (setA al a b v) ∧ rowP p (setR f a b v) kd wt ∧ setR f a b v 2 = f 2 ∧ symA (setA al a b v) := by
  refine ⟨⟨?_, fun j hj => ⟨?_, ?_⟩, fun z hz => ?_⟩, ⟨?_, fun j hj => ⟨?_, ?_⟩⟩, ?_, fun x y hx hy => ?_⟩
  · rw [setR_o ha hb v (by omega)]; exact hf.1
  · rw [setR_o ha hb v (by omega)]; exact (hf.2.1 j hj).1
  · rw [setR_o ha hb v (by omega)]; exact (hf.2.1 j hj).2
  · rw [setR_A]
    unfold setA
    dsimp only
    rw [show f (45 + a) = al a from hf.2.2 a ha, show f (45 + b) = al b from hf.2.2 b hb]
    by_cases h1 : z = b
    · subst h1; rw [upd_s, upd_s]
    · rw [upd_n h1, upd_n h1]
      by_cases h2 : z = a
      · subst h2; rw [upd_s, upd_s]
      · rw [upd_n h2, upd_n h2]; exact hf.2.2 z hz
  · rw [setR_o ha hb v (by omega)]; exact hg.1
  · rw [setR_o ha hb v (by omega)]; exact (hg.2 j hj).1
  · rw [setR_o ha hb v (by omega)]; exact (hg.2 j hj).2
  · rw [setR_o ha hb v (by omega)]
  · rw [setA_bt ha hb hab v x (by omega), setA_bt ha hb hab v y (by omega), hs x y hx hy]
    have e : ((x = a ∧ y = b) ∨ (x = b ∧ y = a)) ↔ ((y = a ∧ x = b) ∨ (y = b ∧ x = a)) := by
      constructor
      · rintro (⟨p, q⟩ | ⟨p, q⟩)
        · exact Or.inr ⟨q, p⟩
        · exact Or.inl ⟨q, p⟩
      · rintro (⟨p, q⟩ | ⟨p, q⟩)
        · exact Or.inr ⟨q, p⟩
        · exact Or.inl ⟨q, p⟩
    simp only [e]
theorem setR_undo {f : Nat → Int32} {a b c d : Nat} (ha : a < 8) (hb : b < 8) (hab : ¬ a = b) (hc : c < 8) (hd : d < 8) (hcd : ¬ c = d) (h1 : bt (f (45 + a)) b = false) (h2 : bt (f (45 + b)) a = false) (h3 : bt (f (45 + c)) d = false) (h4 : bt (f (45 + d)) c = false) : setR (setR (setR (setR f a b true) c d true) a b false) c d false = f := by
  funext j
  by_cases q : j < 45 ∨ 53 ≤ j
  · rw [setR_o hc hd _ q, setR_o ha hb _ q, setR_o hc hd _ q, setR_o ha hb _ q]
  · obtain ⟨z, rfl⟩ : ∃ z, j = 45 + z := ⟨j - 45, by omega⟩
    refine b_ext (fun i hi => ?_)
    rw [setR_bt hc hd hcd _ _ hi, setR_bt ha hb hab _ _ hi, setR_bt hc hd hcd _ _ hi, setR_bt ha hb hab _ _ hi]
    by_cases q1 : (z = c ∧ i = d) ∨ (z = d ∧ i = c)
    · rw [if_pos q1]
      rcases q1 with ⟨rfl, rfl⟩ | ⟨rfl, rfl⟩
      · rw [h3]
      · rw [h4]
    · rw [if_neg q1]
      by_cases q2 : (z = a ∧ i = b) ∨ (z = b ∧ i = a)
      · rw [if_pos q2]
        rcases q2 with ⟨rfl, rfl⟩ | ⟨rfl, rfl⟩
        · rw [h1]
        · rw [h2]
      · rw [if_neg q2, if_neg q1, if_neg q2]
theorem setA_undo {al : Nat → Int32} {a b : Nat} (ha : a < 8) (hb : b < 8) (hab : ¬ a = b) (hs : bt (al b) a = bt (al a) b) : setA (setA al a b true) a b (bt (al a) b) = al := by
  funext z
  refine b_ext (fun i hi => ?_)
  rw [setA_bt ha hb hab _ _ hi, setA_bt ha hb hab _ _ hi]
  by_cases q : (z = a ∧ i = b) ∨ (z = b ∧ i = a)
  · rw [if_pos q]
    rcases q with ⟨rfl, rfl⟩ | ⟨rfl, rfl⟩
    · rfl
    · exact hs.symm
  · rw [if_neg q, if_neg q]
theorem d68 : ∀ x, x < 68 → nI x / 10 = nI (x / 10) ∧ nI x - nI x / 10 * 10 = nI (x % 10) := by decide +kernel
def fr (al : Nat → Int32) (x : Nat) : Bool := decide (x / 10 < x % 10) && decide (x % 10 < 8) && !bt (al (x / 10)) (x % 10)
def al1 (al : Nat → Int32) (x : Nat) : Nat → Int32 := setA al (x / 10) (x % 10) true
theorem fr_d {al : Nat → Int32} {x : Nat} (h : fr al x = true) : x / 10 < x % 10 ∧ x % 10 < 8 ∧ bt (al (x / 10)) (x % 10) = false := by
  unfold fr at h
  simp only [Bool.and_eq_true, decide_eq_true_eq, Bool.not_eq_true'] at h
  exact ⟨h.1.1, h.1.2, h.2⟩
theorem s_Mfree {N w x : Nat} {f e m al : Nat → Int32} (hf : rowE w f e m al) (hx : x < 68) : fX11_isFree N f (nI x) = some (bi (fr al x)) := by
  obtain ⟨d1, d2⟩ := d68 x hx
  unfold fX11_isFree
  rw [gm_nz_ok (by decide), gm_let_s, gm_nz_ok (by decide), gm_let_s, d2, d1]
  unfold fr
  by_cases q1 : x / 10 < x % 10
  · rw [hd_go q1 (by omega)]
    by_cases q2 : x % 10 < 8
    · rw [hl_go (K := 8) (n := 8) rfl q2 (by decide), ix45, gm_chk_n (by omega) (by decide), cl_n (by omega), hf.2.2 _ (by omega), s_Mhas _ (by omega), gm_bind_s, decide_eq_true q1, decide_eq_true q2]
      cases bt (al (x / 10)) (x % 10)
      · rfl
      · rfl
    · rw [hl_end (K := 8) (n := 8) rfl (by omega) (by omega), decide_eq_true q1, decide_eq_false q2]; rfl
  · rw [hd_end (by omega) (by omega), decide_eq_false q1]; rfl
theorem s_MsayWith {N w p j x y : Nat} {X sd : Int32} {f e m al kd wt : Nat → Int32} {en mn kn wn : Nat → Nat} (hN : 3000 ≤ N) (hf : rowE w f e m al) (hg : rowP p f kd wt) (hsd : f 2 = sd) (hw : w ≤ 10) (hp : p ≤ 5) (he : okE w e en) (hm : okM w m mn) (hk : okP p kd wt kn wn) (hs : symA al) (hj : j < p) (hx : x < 68) (hy : y < 68) (fx : fr al x = true) (fy : fr al y = true) : fX11_canSayWith N f (nI j) X (nI x) (nI y) = some (bi (sub X (Wd (kn j) (wt j) en mn m (al1 (al1 al x) y) w sd)), f) := by
  obtain ⟨x1, x2⟩ := d68 x hx
  obtain ⟨y1, y2⟩ := d68 y hy
  obtain ⟨p1, p2, p3⟩ := fr_d fx
  obtain ⟨q1, q2, q3⟩ := fr_d fy
  obtain ⟨a1, a2, a3, a4⟩ := setR_row (a := x / 10) (b := x % 10) (by omega) p2 (by omega) true hw hp hf hg hs
  obtain ⟨b1, b2, b3, b4⟩ := setR_row (a := y / 10) (b := y % 10) (by omega) q2 (by omega) true hw hp a1 a2 a4
  unfold fX11_canSayWith
  rw [gm_nz_ok (by decide), gm_nz_ok (by decide), x2, x1, s_MsetAlike (by omega) p2 (by omega) 1 true rfl, gm_bind_s, gm_nz_ok (by decide), gm_nz_ok (by decide), y2, y1, s_MsetAlike (by omega) q2 (by omega) 1 true rfl, gm_bind_s, s_McanAll (sd := sd) hN b1 b2 (by rw [b3, a3]; exact hsd) hw hp he hm hk b4 hj, gm_bind_s, gm_nz_ok (by decide), gm_nz_ok (by decide), s_MsetAlike (by omega) p2 (by omega) 0 false rfl, gm_bind_s, gm_nz_ok (by decide), gm_nz_ok (by decide), s_MsetAlike (by omega) q2 (by omega) 0 false rfl, gm_bind_s, bi_bl, setR_undo (by omega) p2 (by omega) (by omega) q2 (by omega)]
  · rfl
  · rw [hf.2.2 _ (by omega)]; exact p3
  · rw [hf.2.2 _ p2, hs _ _ p2 (by omega)]; exact p3
  · rw [hf.2.2 _ (by omega)]; exact q3
  · rw [hf.2.2 _ q2, hs _ _ q2 (by omega)]; exact q3
/-! ===== the model's search ===== -/
section LA
variable {N : Nat} {J X : Int32} {f : Nat → Int32} {F : Nat → Bool} {Q : Nat → Nat → Bool}
abbrev laR : Type := Int32 → Int32 → Int32 → (Nat → Int32) → Int32 → Option (Int32 × Int32 × Int32 × (Nat → Int32))
theorem s_la83 (hfree : ∀ x, x < 68 → fX11_isFree N f (nI x) = some (bi (F x))) (hsay : ∀ x y, x < 68 → y < 68 → F x = true → F y = true → fX11_canSayWith N f J X (nI x) (nI y) = some (bi (Q x y), f)) (r20 r36 r67 : laR) (P S K k1 : Int32) {x y : Nat} (hx : x < 68) (hy : y < 68) (hk : ¬ k1 ≤ nI y) : fX11_layAllow_b83 N r20 r36 r67 (-1) P S f J X K (nI x) (nI y) (nI y) k1 = if (F x && F y && Q x y) = true then r67 K (nI x) (nI y) f (nI y + 1) else r67 (-1) P S f (nI y + 1) := by
  unfold fX11_layAllow_b83 fX11_layAllow_b142
  rw [if_neg hk, if_pos rfl, hfree x hx, gm_bind_s]
  cases q1 : F x
  · rw [if_pos (by decide)]; rfl
  · rw [if_neg (by decide), hfree y hy, gm_bind_s]
    cases q2 : F y
    · rw [if_pos (by decide)]; rfl
    · rw [if_neg (by decide), hsay x y hx hy q1 q2, gm_bind_s]
      dsimp only
      cases q3 : Q x y
      · rw [if_pos (by decide)]; rfl
      · rw [if_neg (by decide)]; rfl
theorem s_la1 (hN : 3000 ≤ N) (hfree : ∀ x, x < 68 → fX11_isFree N f (nI x) = some (bi (F x))) (hsay : ∀ x y, x < 68 → y < 68 → F x = true → F y = true → fX11_canSayWith N f J X (nI x) (nI y) = some (bi (Q x y), f)) (r20 r36 : laR) (P S : Int32) {x : Nat} (hx : x < 68) : fX11_layAllow_b67 N r20 r36 J X 1 (nI x) (-1) P S f (nI x) = if (F x && Q x x) = true then r36 1 (nI x) (nI x) f (nI x + 1) else r36 (-1) P S f (nI x + 1) := by
  have hend : ∀ (r : laR) (a b c : Int32), fX11_layAllow_b67_body N r20 r36 J X 1 (nI x) r a b c f (nI x + 1) = r36 a b c f (nI x + 1) := by
    intro r a b c
    unfold fX11_layAllow_b67_body fX11_layAllow_b83 fX11_layAllow_b148
    rw [if_pos rfl, nI_1, hd_end (Nat.le_refl _) (by omega)]
  unfold fX11_layAllow_b67
  have hfix : ∀ (g : laR → laR) (z : laR), gm_fix g z N = g (g (gm_fix g z (N - 2))) := by
    intro g z
    obtain ⟨M, rfl⟩ : ∃ M, N = M + 2 := ⟨N - 2, by omega⟩
    rfl
  have hb1 : ∀ r : laR, fX11_layAllow_b67_body N r20 r36 J X 1 (nI x) r (-1) P S f (nI x) = if (F x && F x && Q x x) = true then r 1 (nI x) (nI x) f (nI x + 1) else r (-1) P S f (nI x + 1) := by
    intro r
    unfold fX11_layAllow_b67_body
    rw [if_pos rfl, s_la83 hfree hsay r20 r36 r P S 1 (nI x + 1) hx hx (by rw [nI_1]; exact nI_ge (by omega) (by omega))]
  rw [hfix, hb1, hend, hend]
  cases F x <;> cases Q x x <;> rfl
theorem s_la2n (hN : 3000 ≤ N) (hfree : ∀ x, x < 68 → fX11_isFree N f (nI x) = some (bi (F x))) (hsay : ∀ x y, x < 68 → y < 68 → F x = true → F y = true → fX11_canSayWith N f J X (nI x) (nI y) = some (bi (Q x y), f)) (r20 r36 : laR) (P S : Int32) {x : Nat} (hx : x < 68) (hq : ∀ y, x < y → y < 68 → (F x && F y && Q x y) = false) : fX11_layAllow_b67 N r20 r36 J X 2 (nI x) (-1) P S f (nI x + 1) = r36 (-1) P S f (nI x + 1) := by
  unfold fX11_layAllow_b67
  refine fx5 (fun d (a b c : Int32) (g : Nat → Int32) (y : Int32) => ∃ i, i + d = 68 ∧ x < i ∧ y = nI i ∧ a = -1 ∧ b = P ∧ c = S ∧ g = f) (fun o => o = r36 (-1) P S f (nI x + 1)) ?_ N (68 - (x + 1)) _ _ _ _ _ (by omega) ⟨x + 1, by omega, by omega, nI_1 x, rfl, rfl, rfl, rfl⟩
  intro r d a b c g y hI hr
  obtain ⟨i, hi, hxi, rfl, rfl, rfl, rfl, rfl⟩ := hI
  unfold fX11_layAllow_b67_body
  rw [if_neg (by decide)]
  rcases Nat.eq_zero_or_pos d with h0 | h0
  · unfold fX11_layAllow_b83 fX11_layAllow_b148
    rw [hl_end (K := 68) (n := 68) rfl (by omega) (by omega)]
  · rw [s_la83 hfree hsay r20 r36 r _ _ 2 68 hx (show i < 68 by omega) (nI_ge (b := 68) (by omega) (by omega)), hq i hxi (by omega), if_neg (by decide)]
    exact hr _ _ _ _ _ (d - 1) (by omega) ⟨i + 1, by omega, by omega, nI_1 i, rfl, rfl, rfl, rfl⟩
theorem s_la2y (hN : 3000 ≤ N) (hfree : ∀ x, x < 68 → fX11_isFree N f (nI x) = some (bi (F x))) (hsay : ∀ x y, x < 68 → y < 68 → F x = true → F y = true → fX11_canSayWith N f J X (nI x) (nI y) = some (bi (Q x y), f)) (r20 r36 : laR) (P S : Int32) {x y0 : Nat} (hx : x < y0) (hy0 : y0 < 68) (hq : ∀ y, x < y → y < y0 → (F x && F y && Q x y) = false) (hit : (F x && F y0 && Q x y0) = true) : fX11_layAllow_b67 N r20 r36 J X 2 (nI x) (-1) P S f (nI x + 1) = r36 2 (nI x) (nI y0) f (nI x + 1) := by
  unfold fX11_layAllow_b67
  refine fx5 (fun d (a b c : Int32) (g : Nat → Int32) (y : Int32) => (∃ i, i + d = y0 + 1 ∧ x < i ∧ i ≤ y0 ∧ y = nI i ∧ a = -1 ∧ b = P ∧ c = S ∧ g = f) ∨ (d = 0 ∧ y = nI (y0 + 1) ∧ a = 2 ∧ b = nI x ∧ c = nI y0 ∧ g = f)) (fun o => o = r36 2 (nI x) (nI y0) f (nI x + 1)) ?_ N (y0 - x) _ _ _ _ _ (by omega) (Or.inl ⟨x + 1, by omega, by omega, by omega, nI_1 x, rfl, rfl, rfl, rfl⟩)
  intro r d a b c g y hI hr
  unfold fX11_layAllow_b67_body
  rw [if_neg (by decide)]
  rcases hI with ⟨i, hi, hxi, hiy, rfl, rfl, rfl, rfl, rfl⟩ | ⟨h0, rfl, rfl, rfl, rfl, rfl⟩
  · rw [s_la83 hfree hsay r20 r36 r _ _ 2 68 (show x < 68 by omega) (show i < 68 by omega) (nI_ge (b := 68) (by omega) (by omega))]
    by_cases q : i = y0
    · subst q
      rw [hit, if_pos rfl]
      exact hr _ _ _ _ _ 0 (by omega) (Or.inr ⟨rfl, nI_1 i, rfl, rfl, rfl, rfl⟩)
    · rw [hq i hxi (by omega), if_neg (by decide)]
      exact hr _ _ _ _ _ (d - 1) (by omega) (Or.inl ⟨i + 1, by omega, by omega, by omega, nI_1 i, rfl, rfl, rfl, rfl⟩)
  · unfold fX11_layAllow_b83 fX11_layAllow_b148
    by_cases q : (68 : Int32) ≤ nI (y0 + 1)
    · rw [if_pos q]
    · rw [if_neg q, if_neg (by decide)]
theorem s_la36n (hN : 3000 ≤ N) (r20 : laR) (P S K : Int32) (hin : ∀ (r36 : laR) x, x < 68 → (if K = 1 then fX11_layAllow_b65 N r20 r36 (-1) P S f J X K (nI x) (nI x) else fX11_layAllow_b65 N r20 r36 (-1) P S f J X K (nI x) (nI x + 1)) = r36 (-1) P S f (nI x + 1)) : fX11_layAllow_b36 N r20 J X K (-1) P S f 0 = r20 (-1) P S f (K + 1) := by
  unfold fX11_layAllow_b36
  refine fx5 (fun d (a b c : Int32) (g : Nat → Int32) (y : Int32) => ∃ i, i + d = 68 ∧ y = nI i ∧ a = -1 ∧ b = P ∧ c = S ∧ g = f) (fun o => o = r20 (-1) P S f (K + 1)) ?_ N 68 _ _ _ _ _ (by omega) ⟨0, by omega, rfl, rfl, rfl, rfl, rfl⟩
  intro r d a b c g y hI hr
  obtain ⟨i, hi, rfl, rfl, rfl, rfl, rfl⟩ := hI
  unfold fX11_layAllow_b36_body fX11_layAllow_b154
  rcases Nat.eq_zero_or_pos d with h0 | h0
  · rw [hl_end (K := 68) (n := 68) rfl (by omega) (by omega)]
  · rw [hl_go (K := 68) (n := 68) rfl (by omega) (by omega), if_pos rfl, hin r i (by omega)]
    exact hr _ _ _ _ _ (d - 1) (by omega) ⟨i + 1, by omega, nI_1 i, rfl, rfl, rfl, rfl⟩
theorem s_la36y (hN : 3000 ≤ N) (r20 : laR) (P S K A B : Int32) (hK : ¬ K = -1) {x0 : Nat} (hx0 : x0 < 68) (hin : ∀ (r36 : laR) x, x < x0 → (if K = 1 then fX11_layAllow_b65 N r20 r36 (-1) P S f J X K (nI x) (nI x) else fX11_layAllow_b65 N r20 r36 (-1) P S f J X K (nI x) (nI x + 1)) = r36 (-1) P S f (nI x + 1)) (hit : ∀ (r36 : laR), (if K = 1 then fX11_layAllow_b65 N r20 r36 (-1) P S f J X K (nI x0) (nI x0) else fX11_layAllow_b65 N r20 r36 (-1) P S f J X K (nI x0) (nI x0 + 1)) = r36 K A B f (nI x0 + 1)) : fX11_layAllow_b36 N r20 J X K (-1) P S f 0 = r20 K A B f (K + 1) := by
  unfold fX11_layAllow_b36
  refine fx5 (fun d (a b c : Int32) (g : Nat → Int32) (y : Int32) => (∃ i, i + d = x0 + 1 ∧ i ≤ x0 ∧ y = nI i ∧ a = -1 ∧ b = P ∧ c = S ∧ g = f) ∨ (d = 0 ∧ a = K ∧ b = A ∧ c = B ∧ g = f)) (fun o => o = r20 K A B f (K + 1)) ?_ N (x0 + 1) _ _ _ _ _ (by omega) (Or.inl ⟨0, by omega, by omega, rfl, rfl, rfl, rfl, rfl⟩)
  intro r d a b c g y hI hr
  unfold fX11_layAllow_b36_body fX11_layAllow_b154
  rcases hI with ⟨i, hi, hix, rfl, rfl, rfl, rfl, rfl⟩ | ⟨h0, rfl, rfl, rfl, rfl⟩
  · rw [hl_go (K := 68) (n := 68) rfl (by omega) (by omega), if_pos rfl]
    by_cases q : i = x0
    · subst q
      rw [hit r]
      exact hr _ _ _ _ _ 0 (by omega) (Or.inr ⟨rfl, rfl, rfl, rfl, rfl⟩)
    · rw [hin r i (by omega)]
      exact hr _ _ _ _ _ (d - 1) (by omega) (Or.inl ⟨i + 1, by omega, by omega, nI_1 i, rfl, rfl, rfl, rfl⟩)
  · by_cases q : (68 : Int32) ≤ y
    · rw [if_pos q]
    · rw [if_neg q, if_neg hK]
theorem la_fix3 (hN : 3000 ≤ N) (g : laR → laR) (z : laR) : gm_fix g z N = g (g (g (gm_fix g z (N - 3)))) := by
  obtain ⟨M, rfl⟩ : ∃ M, N = M + 3 := ⟨N - 3, by omega⟩
  rfl
theorem la_b (r : laR) (a b c y : Int32) : fX11_layAllow_b20_body N J X r a b c f y = (if 3 ≤ y then some (a, b, c, f) else if a = -1 then fX11_layAllow_b36 N r J X y a b c f 0 else some (a, b, c, f)) := rfl
/-- the four ends of the model's search -/
theorem s_lay0 {al : Int32} {P S : Int32} (hN : 3000 ≤ N) (hall : fX11_canSayAll N f J X = some (bi true)) : fX11_layAllow N al P S f J X = some (0, P, S, f) := by
  unfold fX11_layAllow fX11_layAllow_b15 fX11_layAllow_b20
  rw [hall, gm_bind_s, if_neg (by decide), la_fix3 hN]
  rw [la_b, if_neg (by decide), if_neg (by decide)]
theorem s_lay1 {al : Int32} {P S : Int32} (hN : 3000 ≤ N) (hall : fX11_canSayAll N f J X = some (bi false)) (hfree : ∀ x, x < 68 → fX11_isFree N f (nI x) = some (bi (F x))) (hsay : ∀ x y, x < 68 → y < 68 → F x = true → F y = true → fX11_canSayWith N f J X (nI x) (nI y) = some (bi (Q x y), f)) {x0 : Nat} (hx0 : x0 < 68) (hq : ∀ x, x < x0 → (F x && Q x x) = false) (hit : (F x0 && Q x0 x0) = true) : fX11_layAllow N al P S f J X = some (1, nI x0, nI x0, f) := by
  unfold fX11_layAllow fX11_layAllow_b15 fX11_layAllow_b20
  rw [hall, gm_bind_s, if_pos (by decide), la_fix3 hN]
  rw [la_b, if_neg (by decide), if_pos rfl, s_la36y hN _ P S 1 (nI x0) (nI x0) (by decide) hx0 (fun r36 x hx => by
    rw [if_pos rfl]
    unfold fX11_layAllow_b65
    rw [s_la1 hN hfree hsay _ r36 P S (by omega), hq x hx, if_neg (by decide)]) (fun r36 => by
    rw [if_pos rfl]
    unfold fX11_layAllow_b65
    rw [s_la1 hN hfree hsay _ r36 P S hx0, hit, if_pos rfl])]
  rw [la_b, if_neg (by decide), if_neg (by decide)]
theorem s_lay2 {al : Int32} {P S : Int32} (hN : 3000 ≤ N) (hall : fX11_canSayAll N f J X = some (bi false)) (hfree : ∀ x, x < 68 → fX11_isFree N f (nI x) = some (bi (F x))) (hsay : ∀ x y, x < 68 → y < 68 → F x = true → F y = true → fX11_canSayWith N f J X (nI x) (nI y) = some (bi (Q x y), f)) (h1 : ∀ x, x < 68 → (F x && Q x x) = false) {x0 y0 : Nat} (hxy : x0 < y0) (hy0 : y0 < 68) (hq : ∀ x, x < x0 → ∀ y, x < y → y < 68 → (F x && F y && Q x y) = false) (hq2 : ∀ y, x0 < y → y < y0 → (F x0 && F y && Q x0 y) = false) (hit : (F x0 && F y0 && Q x0 y0) = true) : fX11_layAllow N al P S f J X = some (2, nI x0, nI y0, f) := by
  unfold fX11_layAllow fX11_layAllow_b15 fX11_layAllow_b20
  rw [hall, gm_bind_s, if_pos (by decide), la_fix3 hN]
  rw [la_b, if_neg (by decide), if_pos rfl, s_la36n hN _ P S 1 (fun r36 x hx => by
    rw [if_pos rfl]
    unfold fX11_layAllow_b65
    rw [s_la1 hN hfree hsay _ r36 P S (by omega), h1 x hx, if_neg (by decide)])]
  rw [la_b, if_neg (by decide), if_pos rfl, show (1 : Int32) + 1 = 2 by decide, s_la36y hN _ P S 2 (nI x0) (nI y0) (by decide) (show x0 < 68 by omega) (fun r36 x hx => by
    rw [if_neg (by decide)]
    unfold fX11_layAllow_b65
    exact s_la2n hN hfree hsay _ r36 P S (by omega) (hq x hx)) (fun r36 => by
    rw [if_neg (by decide)]
    unfold fX11_layAllow_b65
    exact s_la2y hN hfree hsay _ r36 P S hxy hy0 hq2 hit)]
  rw [la_b, if_pos (by decide)]
theorem s_lay3 {al : Int32} {P S : Int32} (hN : 3000 ≤ N) (hall : fX11_canSayAll N f J X = some (bi false)) (hfree : ∀ x, x < 68 → fX11_isFree N f (nI x) = some (bi (F x))) (hsay : ∀ x y, x < 68 → y < 68 → F x = true → F y = true → fX11_canSayWith N f J X (nI x) (nI y) = some (bi (Q x y), f)) (h1 : ∀ x, x < 68 → (F x && Q x x) = false) (hq : ∀ x, x < 68 → ∀ y, x < y → y < 68 → (F x && F y && Q x y) = false) : fX11_layAllow N al P S f J X = some (-1, P, S, f) := by
  unfold fX11_layAllow fX11_layAllow_b15 fX11_layAllow_b20
  rw [hall, gm_bind_s, if_pos (by decide), la_fix3 hN]
  rw [la_b, if_neg (by decide), if_pos rfl, s_la36n hN _ P S 1 (fun r36 x hx => by
    rw [if_pos rfl]
    unfold fX11_layAllow_b65
    rw [s_la1 hN hfree hsay _ r36 P S (by omega), h1 x hx, if_neg (by decide)])]
  rw [la_b, if_neg (by decide), if_pos rfl, show (1 : Int32) + 1 = 2 by decide, s_la36n hN _ P S 2 (fun r36 x hx => by
    rw [if_neg (by decide)]
    unfold fX11_layAllow_b65
    exact s_la2n hN hfree hsay _ r36 P S (by omega) (hq x hx))]
  rw [la_b, if_pos (by decide)]
end LA
/-! ===== the class's search ===== -/
theorem s_cp0 {N : Nat} {sp ch : Nat → Int32} {X Y : Int32} (h : sub X Y = true) : fX10_choosePairs N sp ch Y X = some (0, ch) := by
  unfold fX10_choosePairs
  rw [if_pos (of_decide_eq_true h)]
theorem sub_n {X Y : Int32} (h : sub X Y = false) : ¬ X &&& (Y ^^^ (-1)) = 0 := of_decide_eq_false h
theorem s_cp1 {N : Nat} {sp ch : Nat → Int32} {X Y : Int32} (hN : 3000 ≤ N) (h : sub X Y = false) {j0 : Nat} (hj : j0 < 28) (hq : ∀ j, j < j0 → sub X (sp j) = false) (hit : sub X (sp j0) = true) : fX10_choosePairs N sp ch Y X = some (1, upd ch 0 (gm_pairs j0)) := by
  unfold fX10_choosePairs fX10_choosePairs_b12
  rw [if_neg (sub_n h)]
  refine fx1 (fun d (a : Int32) => ∃ i, i + d = j0 ∧ a = nI i) (fun o => o = some (1, upd ch 0 (gm_pairs j0))) ?_ N j0 _ (by omega) ⟨0, by omega, rfl⟩
  intro r d a hI hr
  obtain ⟨i, hi, rfl⟩ := hI
  unfold fX10_choosePairs_b12_body fX10_choosePairs_b33
  rw [hl_go (K := 28) (n := 28) rfl (by omega) (by omega), gm_chk_n (by omega) (by decide), cl_n (by omega)]
  rcases Nat.eq_zero_or_pos d with h0 | h0
  · have e : i = j0 := by omega
    subst e
    rw [if_pos (of_decide_eq_true hit), gm_chk_n (by omega) (by decide), ck0 (by decide), cl0]
  · rw [if_neg (sub_n (hq i (by omega)))]
    exact hr _ (d - 1) (by omega) ⟨i + 1, by omega, nI_1 i⟩
theorem s_cp1n {N : Nat} {sp ch : Nat → Int32} {X Y : Int32} (hN : 3000 ≤ N) (h : sub X Y = false) (hq : ∀ j, j < 28 → sub X (sp j) = false) : fX10_choosePairs N sp ch Y X = fX10_choosePairs_b54 N sp ch X 0 := by
  unfold fX10_choosePairs fX10_choosePairs_b12
  rw [if_neg (sub_n h)]
  refine fx1 (fun d (a : Int32) => ∃ i, i + d = 28 ∧ a = nI i) (fun o => o = fX10_choosePairs_b54 N sp ch X 0) ?_ N 28 _ (by omega) ⟨0, by omega, rfl⟩
  intro r d a hI hr
  obtain ⟨i, hi, rfl⟩ := hI
  unfold fX10_choosePairs_b12_body fX10_choosePairs_b52
  rcases Nat.eq_zero_or_pos d with h0 | h0
  · rw [hl_end (K := 28) (n := 28) rfl (by omega) (by omega)]
  · rw [hl_go (K := 28) (n := 28) rfl (by omega) (by omega), gm_chk_n (by omega) (by decide), cl_n (by omega), if_neg (sub_n (hq i (by omega)))]
    exact hr _ (d - 1) (by omega) ⟨i + 1, by omega, nI_1 i⟩
theorem s_cpi {N : Nat} {sp ch : Nat → Int32} {X : Int32} (hN : 3000 ≤ N) (r54 : Int32 → Option (Int32 × (Nat → Int32))) {j : Nat} (hj : j < 28) (hq : ∀ l, j < l → l < 28 → sub X (sp j ||| sp l) = false) : fX10_choosePairs_b67 N r54 sp ch X (nI j) (nI j + 1) = r54 (nI j + 1) := by
  unfold fX10_choosePairs_b67
  refine fx1 (fun d (a : Int32) => ∃ i, i + d = 28 ∧ j < i ∧ a = nI i) (fun o => o = r54 (nI j + 1)) ?_ N (28 - (j + 1)) _ (by omega) ⟨j + 1, by omega, by omega, nI_1 j⟩
  intro r d a hI hr
  obtain ⟨i, hi, hji, rfl⟩ := hI
  unfold fX10_choosePairs_b67_body fX10_choosePairs_b128
  rcases Nat.eq_zero_or_pos d with h0 | h0
  · rw [hl_end (K := 28) (n := 28) rfl (by omega) (by omega)]
  · rw [hl_go (K := 28) (n := 28) rfl (by omega) (by omega), gm_chk_n (by omega) (by decide), gm_chk_n (by omega) (by decide), cl_n (by omega), cl_n (by omega), if_neg (sub_n (hq i hji (by omega)))]
    exact hr _ (d - 1) (by omega) ⟨i + 1, by omega, by omega, nI_1 i⟩
theorem s_cp2 {N : Nat} {sp ch : Nat → Int32} {X : Int32} (hN : 3000 ≤ N) {j0 l0 : Nat} (hjl : j0 < l0) (hl : l0 < 28) (hq : ∀ j, j < j0 → ∀ l, j < l → l < 28 → sub X (sp j ||| sp l) = false) (hq2 : ∀ l, j0 < l → l < l0 → sub X (sp j0 ||| sp l) = false) (hit : sub X (sp j0 ||| sp l0) = true) : fX10_choosePairs_b54 N sp ch X 0 = some (2, upd (upd ch 0 (gm_pairs j0)) 1 (gm_pairs l0)) := by
  unfold fX10_choosePairs_b54
  refine fx1 (fun d (a : Int32) => ∃ i, i + d = j0 ∧ a = nI i) (fun o => o = some (2, upd (upd ch 0 (gm_pairs j0)) 1 (gm_pairs l0))) ?_ N j0 _ (by omega) ⟨0, by omega, rfl⟩
  intro r d a hI hr
  obtain ⟨i, hi, rfl⟩ := hI
  unfold fX10_choosePairs_b54_body
  rw [hl_go (K := 28) (n := 28) rfl (by omega) (by omega), gm_let_s]
  rcases Nat.eq_zero_or_pos d with h0 | h0
  · have e : i = j0 := by omega
    subst e
    unfold fX10_choosePairs_b67
    refine fx1 (fun d (a : Int32) => ∃ z, z + d = l0 ∧ i < z ∧ a = nI z) (fun o => o = some (2, upd (upd ch 0 (gm_pairs i)) 1 (gm_pairs l0))) ?_ N (l0 - (i + 1)) _ (by omega) ⟨i + 1, by omega, by omega, nI_1 i⟩
    intro r2 d2 a2 hI2 hr2
    obtain ⟨z, hz, hiz, rfl⟩ := hI2
    unfold fX10_choosePairs_b67_body fX10_choosePairs_b97
    rw [hl_go (K := 28) (n := 28) rfl (by omega) (by omega), gm_chk_n (by omega) (by decide), gm_chk_n (by omega) (by decide), cl_n (by omega), cl_n (by omega)]
    rcases Nat.eq_zero_or_pos d2 with h2 | h2
    · have e : z = l0 := by omega
      subst e
      rw [if_pos (of_decide_eq_true hit), gm_chk_n (by omega) (by decide), ck0 (by decide), gm_chk_n (by omega) (by decide), ck1 (by decide), cl0, cl1]
    · rw [if_neg (sub_n (hq2 z hiz (by omega)))]
      exact hr2 _ (d2 - 1) (by omega) ⟨z + 1, by omega, by omega, nI_1 z⟩
  · rw [s_cpi hN r (show i < 28 by omega) (hq i (by omega))]
    exact hr _ (d - 1) (by omega) ⟨i + 1, by omega, nI_1 i⟩
theorem s_cp3 {N : Nat} {sp ch : Nat → Int32} {X : Int32} (hN : 3000 ≤ N) (hq : ∀ j, j < 28 → ∀ l, j < l → l < 28 → sub X (sp j ||| sp l) = false) : fX10_choosePairs_b54 N sp ch X 0 = some (-1, ch) := by
  unfold fX10_choosePairs_b54
  refine fx1 (fun d (a : Int32) => ∃ i, i + d = 28 ∧ a = nI i) (fun o => o = some (-1, ch)) ?_ N 28 _ (by omega) ⟨0, by omega, rfl⟩
  intro r d a hI hr
  obtain ⟨i, hi, rfl⟩ := hI
  unfold fX10_choosePairs_b54_body
  rcases Nat.eq_zero_or_pos d with h0 | h0
  · rw [hl_end (K := 28) (n := 28) rfl (by omega) (by omega)]
  · rw [hl_go (K := 28) (n := 28) rfl (by omega) (by omega), gm_let_s, s_cpi hN r (show i < 28 by omega) (hq i (by omega))]
    exact hr _ (d - 1) (by omega) ⟨i + 1, by omega, nI_1 i⟩
theorem least {P : Nat → Prop} : ∀ n, P n → ∃ k, k ≤ n ∧ P k ∧ ∀ m, m < k → ¬ P m := by
  intro n
  induction n using Nat.strongRecOn with
  | ind n ih =>
    intro hn
    by_cases q : ∃ m, m < n ∧ P m
    · obtain ⟨m, hm, hP⟩ := q
      obtain ⟨k, h1, h2, h3⟩ := ih m hm hP
      exact ⟨k, by omega, h2, h3⟩
    · exact ⟨n, Nat.le_refl n, hn, fun m hm hP => q ⟨m, hm, hP⟩⟩
theorem pn_m : ∀ j, j < 28 → ∀ l, l < 28 → j < l → pn j < pn l := by decide +kernel
def pni (x : Nat) : Nat := ((List.range 28).find? (fun j => pn j == x)).getD 0
theorem pn_i : ∀ x, x < 68 → x / 10 < x % 10 → x % 10 < 8 → pni x < 28 ∧ pn (pni x) = x := by decide +kernel
theorem pn_l : ∀ j, j < 28 → pn j < 68 ∧ pn j / 10 < pn j % 10 ∧ pn j % 10 < 8 ∧ gm_pairs j = nI (pn j) := by decide +kernel
theorem pn_r {j l : Nat} (hj : j < 28) (hl : l < 28) (h : pn j < pn l) : j < l := by
  rcases Nat.lt_trichotomy j l with q | q | q
  · exact q
  · subst q; omega
  · have := pn_m l hl j hj q; omega
theorem al1_bt {al : Nat → Int32} {x : Nat} (h1 : x / 10 < x % 10) (h2 : x % 10 < 8) (c : Nat) {i : Nat} (hi : i < 32) : bt (al1 al x c) i = if (c = x / 10 ∧ i = x % 10) ∨ (c = x % 10 ∧ i = x / 10) then true else bt (al c) i := setA_bt (by omega) h2 (by omega) true c hi
set_option maxHeartbeats 2000000 in
theorem allow_cmp {N w p j : Nat} {X sd P S ald : Int32} {f e m al kd wt sp ch : Nat → Int32} {en mn kn wn : Nat → Nat} (hN : 3000 ≤ N) (hf : rowE w f e m al) (hg : rowP p f kd wt) (hsd : f 2 = sd) (hw : w ≤ 10) (hp : p ≤ 5) (he : okE w e en) (hm : okM w m mn) (hk : okP p kd wt kn wn) (hs : symA al) (hj : j < p) (hsp : ∀ l, l < 28 → sp l = Wd (kn j) (wt j) en mn m (al1 al (pn l)) w sd) : ∃ (pc : Int32) (ch' : Nat → Int32) (P' S' : Int32), fX10_choosePairs N sp ch (Wd (kn j) (wt j) en mn m al w sd) X = some (pc, ch') ∧ fX11_layAllow N ald P S f (nI j) X = some (pc, P', S', f) ∧ ((pc = -1 ∨ pc = 0) ∨ (pc = 1 ∧ ch' 0 = P') ∨ (pc = 2 ∧ ch' 0 = P' ∧ ch' 1 = S')) := by
  have hen : ∀ a, a < w → en a < 8 := fun a ha => (he a ha).1
  have hk6 := (hk j hj).1
  generalize hT : (fun x => Wd (kn j) (wt j) en mn m (al1 al x) w sd) = T
  have hTx : ∀ x, Wd (kn j) (wt j) en mn m (al1 al x) w sd = T x := fun x => by rw [← hT]
  have hall : fX11_canSayAll N f (nI j) X = some (bi (sub X (Wd (kn j) (wt j) en mn m al w sd))) := s_McanAll hN hf hg hsd hw hp he hm hk hs hj
  have hfree : ∀ x, x < 68 → fX11_isFree N f (nI x) = some (bi (fr al x)) := fun x hx => s_Mfree hf hx
  have hsay : ∀ x y, x < 68 → y < 68 → fr al x = true → fr al y = true → fX11_canSayWith N f (nI j) X (nI x) (nI y) = some (bi (sub X (T x ||| T y)), f) := by
    intro x y hx hy fx fy
    rw [s_MsayWith hN hf hg hsd hw hp he hm hk hs hj hx hy fx fy]
    obtain ⟨p1, p2, p3⟩ := fr_d fx
    obtain ⟨q1, q2, q3⟩ := fr_d fy
    rw [Wd_or (m1 := m) (m2 := m) (al1 := al1 al x) (al2 := al1 al y) hw hk6 hen (fun _ _ => rfl) (fun _ _ => rfl) (fun c i hc hi => by
      rw [al1_bt q1 q2 c (by omega), al1_bt p1 p2 c (by omega), al1_bt q1 q2 c (by omega)]
      by_cases r1 : (c = y / 10 ∧ i = y % 10) ∨ (c = y % 10 ∧ i = y / 10)
      · simp [r1]
      · by_cases r2 : (c = x / 10 ∧ i = x % 10) ∨ (c = x % 10 ∧ i = x / 10)
        · simp [r2]
        · simp only [if_neg r1, if_neg r2, Bool.or_self]), hTx, hTx]
  generalize hY : Wd (kn j) (wt j) en mn m al w sd = Y at *
  have hmono : ∀ l, l < 28 → Y ||| T (pn l) = T (pn l) := by
    intro l hl
    obtain ⟨_, l1, l2, _⟩ := pn_l l hl
    rw [← hTx, ← hY]
    refine (Wd_or (m1 := m) (m2 := m) (al1 := al) (al2 := al1 al (pn l)) hw hk6 hen (fun _ _ => rfl) (fun _ _ => rfl) (fun c i hc hi => ?_)).symm
    rw [al1_bt l1 l2 c (by omega)]
    split
    · rw [Bool.or_true]
    · rw [Bool.or_self]
  have hnon : ∀ l, l < 28 → fr al (pn l) = false → T (pn l) = Y := by
    intro l hl hfr
    obtain ⟨_, l1, l2, _⟩ := pn_l l hl
    have hb : bt (al (pn l / 10)) (pn l % 10) = true := by
      unfold fr at hfr
      rw [decide_eq_true l1, decide_eq_true l2] at hfr
      simpa using hfr
    rw [← hTx, ← hY]
    refine Wd_eq hw hk6 hen (fun _ _ => rfl) (fun c i hc hi => ?_)
    rw [al1_bt l1 l2 c (by omega)]
    split
    · rename_i q
      rcases q with ⟨rfl, rfl⟩ | ⟨rfl, rfl⟩
      · exact hb.symm
      · rw [hs _ _ l2 (by omega)]; exact hb.symm
    · rfl
  have hspT : ∀ l, l < 28 → sp l = T (pn l) := fun l hl => by rw [hsp l hl, hTx]
  cases hA : sub X Y with
  | true => exact ⟨0, ch, P, S, s_cp0 hA, s_lay0 hN (by rw [hall, hA]), Or.inl (Or.inr rfl)⟩
  | false =>
    rw [hA] at hall
    by_cases hB : ∃ l, l < 28 ∧ sub X (T (pn l)) = true
    · obtain ⟨l, hl⟩ := hB
      obtain ⟨j0, hj0, ⟨hj28, hit⟩, hfirst⟩ := least (P := fun l => l < 28 ∧ sub X (T (pn l)) = true) l hl
      have hff : fr al (pn j0) = true := by
        cases q : fr al (pn j0)
        · rw [hnon j0 hj28 q, hA] at hit; exact hit
        · rfl
      refine ⟨1, upd ch 0 (gm_pairs j0), nI (pn j0), nI (pn j0), s_cp1 hN hA hj28 (fun l hl => ?_) (by rw [hspT j0 hj28]; exact hit), s_lay1 hN hall hfree hsay (pn_l j0 hj28).1 (fun x hx => ?_) ?_, Or.inr (Or.inl ⟨rfl, ?_⟩)⟩
      · rw [hspT l (by omega)]
        cases q : sub X (T (pn l))
        · rfl
        · exact absurd ⟨by omega, q⟩ (hfirst l hl)
      · cases q : fr al x
        · rfl
        · obtain ⟨f1, f2, _⟩ := fr_d q
          have hx68 := (pn_l j0 hj28).1
          obtain ⟨i1, i2⟩ := pn_i x (by omega) f1 f2
          rw [or_self, Bool.true_and]
          cases q2 : sub X (T x)
          · rfl
          · rw [← i2] at q2
            exact absurd ⟨i1, q2⟩ (hfirst _ (pn_r i1 hj28 (by rw [i2]; exact hx)))
      · rw [hff, or_self, hit]; rfl
      · rw [upd_s]; exact (pn_l j0 hj28).2.2.2
    · have hB' : ∀ l, l < 28 → sub X (T (pn l)) = false := fun l hl => by
        cases q : sub X (T (pn l))
        · rfl
        · exact absurd ⟨l, hl, q⟩ hB
      have h1M : ∀ x, x < 68 → (fr al x && sub X (T x ||| T x)) = false := fun x hx => by
        cases q : fr al x
        · rfl
        · obtain ⟨f1, f2, _⟩ := fr_d q
          obtain ⟨i1, i2⟩ := pn_i x hx f1 f2
          rw [or_self, Bool.true_and, ← i2]
          exact hB' _ i1
      have hcp : fX10_choosePairs N sp ch Y X = fX10_choosePairs_b54 N sp ch X 0 := s_cp1n hN hA (fun l hl => by rw [hspT l hl]; exact hB' l hl)
      rw [hcp]
      by_cases hCx : ∃ a, a < 28 ∧ ∃ b, a < b ∧ b < 28 ∧ sub X (T (pn a) ||| T (pn b)) = true
      · obtain ⟨a, ha⟩ := hCx
        obtain ⟨j0, _, ⟨hj28, b, hb⟩, hfirst⟩ := least (P := fun a => a < 28 ∧ ∃ b, a < b ∧ b < 28 ∧ sub X (T (pn a) ||| T (pn b)) = true) a ha
        obtain ⟨l0, _, ⟨hjl, hl28, hit⟩, hfirst2⟩ := least (P := fun b => j0 < b ∧ b < 28 ∧ sub X (T (pn j0) ||| T (pn b)) = true) b hb
        have hfj : fr al (pn j0) = true := by
          cases q : fr al (pn j0)
          · rw [hnon j0 hj28 q, hmono l0 hl28, hB' l0 hl28] at hit; exact hit
          · rfl
        have hfl : fr al (pn l0) = true := by
          cases q : fr al (pn l0)
          · rw [hnon l0 hl28 q, Int32.or_comm, hmono j0 hj28, hB' j0 hj28] at hit; exact hit
          · rfl
        have hno : ∀ x y, x < y → y < 68 → (x < pn j0 ∨ (x = pn j0 ∧ y < pn l0)) → (fr al x && fr al y && sub X (T x ||| T y)) = false := by
          intro x y hxy hy hc
          cases qx : fr al x
          · rfl
          · cases qy : fr al y
            · rfl
            · obtain ⟨f1, f2, _⟩ := fr_d qx
              obtain ⟨g1, g2, _⟩ := fr_d qy
              obtain ⟨i1, i2⟩ := pn_i x (by omega) f1 f2
              obtain ⟨k1, k2⟩ := pn_i y hy g1 g2
              have hik : pni x < pni y := pn_r i1 k1 (by rw [i2, k2]; exact hxy)
              rw [Bool.true_and, Bool.true_and]
              cases q : sub X (T x ||| T y)
              · rfl
              · rw [← i2, ← k2] at q
                rcases hc with hc | ⟨hc, hd⟩
                · exact absurd ⟨i1, pni y, hik, k1, q⟩ (hfirst _ (pn_r i1 hj28 (by rw [i2]; exact hc)))
                · have hq : sub X (T (pn j0) ||| T (pn (pni y))) = true := by rw [i2, hc] at q; exact q
                  have hjy : pn j0 < pn (pni y) := by rw [k2, ← hc]; exact hxy
                  exact absurd ⟨pn_r hj28 k1 hjy, k1, hq⟩ (hfirst2 _ (pn_r k1 hl28 (by rw [k2]; exact hd)))
        refine ⟨2, upd (upd ch 0 (gm_pairs j0)) 1 (gm_pairs l0), nI (pn j0), nI (pn l0), s_cp2 hN hjl hl28 (fun a ha b hab hb => ?_) (fun b hb hb2 => ?_) (by rw [hspT j0 hj28, hspT l0 hl28]; exact hit), s_lay2 hN hall hfree hsay h1M (pn_m j0 hj28 l0 hl28 hjl) (pn_l l0 hl28).1 (fun x hx y hxy hy => hno x y hxy hy (Or.inl hx)) (fun y hy hy2 => hno _ y hy (by have := (pn_l l0 hl28).1; omega) (Or.inr ⟨rfl, hy2⟩)) (by rw [hfj, hfl, hit]; rfl), Or.inr (Or.inr ⟨rfl, ?_, ?_⟩)⟩
        · rw [hspT a (by omega), hspT b hb]
          cases q : sub X (T (pn a) ||| T (pn b))
          · rfl
          · exact absurd ⟨by omega, b, hab, hb, q⟩ (hfirst a ha)
        · rw [hspT j0 hj28, hspT b (by omega)]
          cases q : sub X (T (pn j0) ||| T (pn b))
          · rfl
          · exact absurd ⟨hb, by omega, q⟩ (hfirst2 b hb2)
        · rw [upd_n (by decide), upd_s]; exact (pn_l j0 hj28).2.2.2
        · rw [upd_s]; exact (pn_l l0 hl28).2.2.2
      · refine ⟨-1, ch, P, S, s_cp3 hN (fun a ha b hab hb => ?_), s_lay3 hN hall hfree hsay h1M (fun x hx y hxy hy => ?_), Or.inl (Or.inl rfl)⟩
        · rw [hspT a ha, hspT b hb]
          cases q : sub X (T (pn a) ||| T (pn b))
          · rfl
          · exact absurd ⟨a, ha, b, hab, hb, q⟩ hCx
        · cases qx : fr al x
          · rfl
          · cases qy : fr al y
            · rfl
            · obtain ⟨f1, f2, _⟩ := fr_d qx
              obtain ⟨g1, g2, _⟩ := fr_d qy
              obtain ⟨i1, i2⟩ := pn_i x (by omega) f1 f2
              obtain ⟨k1, k2⟩ := pn_i y hy g1 g2
              rw [Bool.true_and, Bool.true_and]
              cases q : sub X (T x ||| T y)
              · rfl
              · rw [← i2, ← k2] at q
                exact absurd ⟨_, i1, _, pn_r i1 k1 (by rw [i2, k2]; exact hxy), k1, q⟩ hCx
set_option maxHeartbeats 4000000 in
theorem sim_allow {N : Nat} (hN : 3000 ≤ N) : S_allow N gm_R := by
  intro m_imagesKept m_bads m_nos m_fulls m_above m_below m_now_words m_now_people m_now_said m_now_undos m_now_heard m_now_ending m_now_meaning m_now_cost m_now_alikeTo m_now_kind m_now_want m_now_saidAhead m_now_heardWord m_now_heardAnswer m_draft_words m_draft_people m_draft_said m_draft_undos m_draft_heard m_draft_ending m_draft_meaning m_draft_cost m_draft_alikeTo m_draft_kind m_draft_want m_draft_saidAhead m_draft_heardWord m_draft_heardAnswer m_images_0_words m_images_0_people m_images_0_said m_images_0_undos m_images_0_heard m_images_0_ending m_images_0_meaning m_images_0_cost m_images_0_alikeTo m_images_0_kind m_images_0_want m_images_0_saidAhead m_images_0_heardWord m_images_0_heardAnswer m_images_1_words m_images_1_people m_images_1_said m_images_1_undos m_images_1_heard m_images_1_ending m_images_1_meaning m_images_1_cost m_images_1_alikeTo m_images_1_kind m_images_1_want m_images_1_saidAhead m_images_1_heardWord m_images_1_heardAnswer m_text_length m_text_items m_text_place m_text_start m_text_token m_text_number m_text_bytes m_duel_words m_duel_saidAtFirst m_duel_asked m_duel_longest m_duel_shortest m_duel_chimesOfFirst m_duel_chimesOfSecond m_duel_lasts m_cover_sayable m_cover_price m_cover_covered m_cover_spent m_clashes m_tally m_sayableByPair m_chosenPairs n_thrown n_size n_at n_start n_token n_value n_faultAt n_allowed n_firstPair n_secondPair n_above n_below n_refused n_tongue n_fresh n_kept n_isKept n_text n_said n_talk hR x1 x2 x3
  obtain ⟨hT, hX, hF, hA, hI, hC⟩ := hR
  have hT0 := hT
  obtain ⟨w, p, u, h, en, mn, cn, kn, wn, ⟨hw, hp, hu8, hh6⟩, ⟨rfl, rfl, rfl, rfl⟩, hrE, hrP, hr2, hco, hE, hM, hP, hs, hir, hh, hu, hsd⟩ := hT
  cases hi1 : inr x1 p with
  | false =>
    have h1 : fX10_allow N m_bads m_nos m_fulls (nI w) (nI p) m_now_said (nI u) (nI h) m_now_ending m_now_meaning m_now_cost m_now_alikeTo m_now_kind m_now_want m_now_saidAhead m_now_heardWord m_now_heardAnswer m_draft_words m_draft_people m_draft_said m_draft_undos m_draft_heard m_draft_ending m_draft_meaning m_draft_cost m_draft_alikeTo m_draft_kind m_draft_want m_draft_saidAhead m_draft_heardWord m_draft_heardAnswer m_sayableByPair m_chosenPairs x1 x2 x3 = some (-10, m_bads + 1, m_nos, m_fulls, m_draft_words, m_draft_people, m_draft_said, m_draft_undos, m_draft_heard, m_draft_ending, m_draft_meaning, m_draft_cost, m_draft_alikeTo, m_draft_kind, m_draft_want, m_draft_saidAhead, m_draft_heardWord, m_draft_heardAnswer, m_sayableByPair, m_chosenPairs) := by
      unfold fX10_allow fX10_allow_b23
      rw [s_isPerson x1 (by omega), gm_bind_s, hi1, if_pos (by decide), s_refB, gm_bind_s]
    have h2 : fX11_allow N n_thrown n_allowed n_firstPair n_secondPair n_refused n_tongue x1 x2 x3 = some (-10, 0, n_allowed, n_firstPair, n_secondPair, upd n_refused 0 (n_refused 0 + 1), n_tongue) := by
      unfold fX11_allow fX11_allow_b25
      rw [s_noPerson x1 hrP.1 (by omega), gm_bind_s, hi1, if_neg (by decide), s_badTen, gm_bind_s]
    exact ⟨_, _, h1, h2, rfl, hT0, hX, RFb hF, hA, hI, hC⟩
  | true =>
    obtain ⟨j, hj, rfl⟩ := inr_t hi1 (by omega)
    cases hi2 : inr x2 256 with
    | false =>
      have h1 : fX10_allow N m_bads m_nos m_fulls (nI w) (nI p) m_now_said (nI u) (nI h) m_now_ending m_now_meaning m_now_cost m_now_alikeTo m_now_kind m_now_want m_now_saidAhead m_now_heardWord m_now_heardAnswer m_draft_words m_draft_people m_draft_said m_draft_undos m_draft_heard m_draft_ending m_draft_meaning m_draft_cost m_draft_alikeTo m_draft_kind m_draft_want m_draft_saidAhead m_draft_heardWord m_draft_heardAnswer m_sayableByPair m_chosenPairs (nI j) x2 x3 = some (-10, m_bads + 1, m_nos, m_fulls, m_draft_words, m_draft_people, m_draft_said, m_draft_undos, m_draft_heard, m_draft_ending, m_draft_meaning, m_draft_cost, m_draft_alikeTo, m_draft_kind, m_draft_want, m_draft_saidAhead, m_draft_heardWord, m_draft_heardAnswer, m_sayableByPair, m_chosenPairs) := by
        unfold fX10_allow fX10_allow_b23
        rw [s_isPerson (nI j) (by omega), gm_bind_s, hi1, if_neg (by decide), s_fl x2 256 256 rfl (by decide), gm_bind_s, hi2, if_pos (by decide), s_refB, gm_bind_s]
      have h2 : fX11_allow N n_thrown n_allowed n_firstPair n_secondPair n_refused n_tongue (nI j) x2 x3 = some (-10, 0, n_allowed, n_firstPair, n_secondPair, upd n_refused 0 (n_refused 0 + 1), n_tongue) := by
        unfold fX11_allow fX11_allow_b25
        rw [s_noPerson (nI j) hrP.1 (by omega), gm_bind_s, hi1, if_pos (by decide), s_areMeanings x2, gm_bind_s, hi2, if_pos (by decide), s_badTen, gm_bind_s]
      exact ⟨_, _, h1, h2, rfl, hT0, hX, RFb hF, hA, hI, hC⟩
    | true =>
      obtain ⟨v, hv, rfl⟩ := inr_t hi2 (by omega)
      have c10 : Int32.toNatClampNeg 10 = 10 := by decide
      have c8 : Int32.toNatClampNeg 8 = 8 := by decide
      have c5 : Int32.toNatClampNeg 5 = 5 := by decide
      have hE0 : okE w (va_cpy m_now_ending m_draft_ending (Int32.toNatClampNeg 0) (Int32.toNatClampNeg 0) (Int32.toNatClampNeg 10)) en := fun a ha => by rw [cl0, c10, cpy0 (by omega)]; exact hE a ha
      have hM0 : okM w (va_cpy m_now_meaning m_draft_meaning (Int32.toNatClampNeg 0) (Int32.toNatClampNeg 0) (Int32.toNatClampNeg 10)) mn := fun a ha => by rw [cl0, c10, cpy0 (by omega)]; exact hM a ha
      have hP0 : okP p (va_cpy m_now_kind m_draft_kind (Int32.toNatClampNeg 0) (Int32.toNatClampNeg 0) (Int32.toNatClampNeg 5)) (va_cpy m_now_want m_draft_want (Int32.toNatClampNeg 0) (Int32.toNatClampNeg 0) (Int32.toNatClampNeg 5)) kn wn := fun a ha => by rw [cl0, c5, cpy0 (by omega), cpy0 (by omega)]; exact hP a ha
      have hal0 : ∀ a, a < 8 → (va_cpy m_now_alikeTo m_draft_alikeTo (Int32.toNatClampNeg 0) (Int32.toNatClampNeg 0) (Int32.toNatClampNeg 8)) a = m_now_alikeTo a := fun a ha => by rw [cl0, c8, cpy0 ha]
      have hwt0 : (va_cpy m_now_want m_draft_want (Int32.toNatClampNeg 0) (Int32.toNatClampNeg 0) (Int32.toNatClampNeg 5)) j = m_now_want j := by rw [cl0, c5, cpy0 (by omega)]
      have hfill : fX10_fillSayableByPair N (nI w) (nI p) m_now_said (nI u) (nI h) m_now_ending m_now_meaning m_now_cost m_now_alikeTo m_now_kind m_now_want m_now_saidAhead m_now_heardWord m_now_heardAnswer m_draft_words m_draft_people m_draft_said m_draft_undos m_draft_heard m_draft_ending m_draft_meaning m_draft_cost m_draft_alikeTo m_draft_kind m_draft_want m_draft_saidAhead m_draft_heardWord m_draft_heardAnswer m_sayableByPair (nI j) = some ((nI w), (nI p), m_now_said, (nI u), (nI h), (va_cpy m_now_ending m_draft_ending (Int32.toNatClampNeg 0) (Int32.toNatClampNeg 0) (Int32.toNatClampNeg 10)), (va_cpy m_now_meaning m_draft_meaning (Int32.toNatClampNeg 0) (Int32.toNatClampNeg 0) (Int32.toNatClampNeg 10)), (va_cpy m_now_cost m_draft_cost (Int32.toNatClampNeg 0) (Int32.toNatClampNeg 0) (Int32.toNatClampNeg 10)), (va_cpy m_now_alikeTo m_draft_alikeTo (Int32.toNatClampNeg 0) (Int32.toNatClampNeg 0) (Int32.toNatClampNeg 8)), (va_cpy m_now_kind m_draft_kind (Int32.toNatClampNeg 0) (Int32.toNatClampNeg 0) (Int32.toNatClampNeg 5)), (va_cpy m_now_want m_draft_want (Int32.toNatClampNeg 0) (Int32.toNatClampNeg 0) (Int32.toNatClampNeg 5)), (va_cpy m_now_saidAhead m_draft_saidAhead (Int32.toNatClampNeg 0) (Int32.toNatClampNeg 0) (Int32.toNatClampNeg 8)), (va_cpy m_now_heardWord m_draft_heardWord (Int32.toNatClampNeg 0) (Int32.toNatClampNeg 0) (Int32.toNatClampNeg 6)), (va_cpy m_now_heardAnswer m_draft_heardAnswer (Int32.toNatClampNeg 0) (Int32.toNatClampNeg 0) (Int32.toNatClampNeg 6)), fl m_sayableByPair (fun l => Wd (kn j) (m_now_want j) en mn m_now_meaning (al1 m_now_alikeTo (pn l)) w m_now_said) 28) := by
        unfold fX10_fillSayableByPair fX9_copyFrom
        rw [gm_bind_s]
        dsimp only
        unfold fX10_fillSayableByPair_b13
        refine lpB 28 (fun _ => (va_cpy m_now_alikeTo m_draft_alikeTo (Int32.toNatClampNeg 0) (Int32.toNatClampNeg 0) (Int32.toNatClampNeg 8))) (fun i => fl m_sayableByPair (fun l => Wd (kn j) (m_now_want j) en mn m_now_meaning (al1 m_now_alikeTo (pn l)) w m_now_said) i) _ ?_ ?_ 0 (by omega) (by omega)
        · intro r i hi
          obtain ⟨q1, q2, q3, q4⟩ := pn_d i hi
          obtain ⟨l0, l1, l2, l3⟩ := pn_l i hi
          have hsy : bt ((va_cpy m_now_alikeTo m_draft_alikeTo (Int32.toNatClampNeg 0) (Int32.toNatClampNeg 0) (Int32.toNatClampNeg 8)) (pn i % 10)) (pn i / 10) = bt ((va_cpy m_now_alikeTo m_draft_alikeTo (Int32.toNatClampNeg 0) (Int32.toNatClampNeg 0) (Int32.toNatClampNeg 8)) (pn i / 10)) (pn i % 10) := by rw [hal0 _ q3, hal0 _ q4]; exact (hs _ _ q3 q4).symm
          have hWq : Wd (kn j) ((va_cpy m_now_want m_draft_want (Int32.toNatClampNeg 0) (Int32.toNatClampNeg 0) (Int32.toNatClampNeg 5)) j) en mn (va_cpy m_now_meaning m_draft_meaning (Int32.toNatClampNeg 0) (Int32.toNatClampNeg 0) (Int32.toNatClampNeg 10)) (setA (va_cpy m_now_alikeTo m_draft_alikeTo (Int32.toNatClampNeg 0) (Int32.toNatClampNeg 0) (Int32.toNatClampNeg 8)) (pn i / 10) (pn i % 10) true) w m_now_said = (fun l => Wd (kn j) (m_now_want j) en mn m_now_meaning (al1 m_now_alikeTo (pn l)) w m_now_said) i := by
            rw [hwt0]
            refine Wd_eq hw (hP j hj).1 (fun a ha => (hE a ha).1) (fun a ha => by rw [cl0, c10, cpy0 (by omega)]) (fun c z hc hz => ?_)
            rw [al1_bt l1 l2 c (by omega), setA_bt q3 q4 (by omega) true c (by omega), hal0 c hc]
          unfold fX10_fillSayableByPair_b13_body
          rw [hl_go (K := 28) (n := 28) rfl hi (by decide), gm_chk_n (by omega) (by decide), gm_nz_ok (by decide), gm_let_s, gm_chk_n (by omega) (by decide), gm_nz_ok (by decide), gm_let_s, cl_n (by omega), q2, q1, s_areAlike q3 q4, gm_bind_s, s_setAlike1 q3 q4 (by omega), gm_bind_s, s_anyWord hN hw hp hE0 hM0 hP0 hj, gm_bind_s, gm_chk_n (by omega) (by decide), hWq, nI_1]
          have hu := setA_undo (al := (va_cpy m_now_alikeTo m_draft_alikeTo (Int32.toNatClampNeg 0) (Int32.toNatClampNeg 0) (Int32.toNatClampNeg 8))) q3 q4 (by omega) hsy
          cases hbb : bt ((va_cpy m_now_alikeTo m_draft_alikeTo (Int32.toNatClampNeg 0) (Int32.toNatClampNeg 0) (Int32.toNatClampNeg 8)) (pn i / 10)) (pn i % 10) with
          | false =>
            rw [hbb] at hu
            rw [show bi false = 0 from rfl, s_setAlike0 q3 q4 (by omega), gm_bind_s, hu]
            rfl
          | true =>
            rw [hbb] at hu
            rw [show bi true = 1 from rfl, s_setAlike1 q3 q4 (by omega), gm_bind_s, hu]
            rfl
        · intro r
          unfold fX10_fillSayableByPair_b13_body
          rw [hl_end (K := 28) (n := 28) rfl (by omega) (by omega)]
      obtain ⟨pc, ch', P', S', hc1, hc2, hc3⟩ := allow_cmp (X := nI v) (P := n_firstPair) (S := n_secondPair) (ald := n_allowed) (sp := fl m_sayableByPair (fun l => Wd (kn j) (m_now_want j) en mn m_now_meaning (al1 m_now_alikeTo (pn l)) w m_now_said) 28) (ch := m_chosenPairs) hN hrE hrP hr2.1 hw hp hE hM hP hs hj (fun l hl => fl_get hl)
      cases hi3 : decide ((-1 : Int32) ≤ x3) with
      | false =>
        have hi3 := of_decide_eq_false hi3
        have h1 : fX10_allow N m_bads m_nos m_fulls (nI w) (nI p) m_now_said (nI u) (nI h) m_now_ending m_now_meaning m_now_cost m_now_alikeTo m_now_kind m_now_want m_now_saidAhead m_now_heardWord m_now_heardAnswer m_draft_words m_draft_people m_draft_said m_draft_undos m_draft_heard m_draft_ending m_draft_meaning m_draft_cost m_draft_alikeTo m_draft_kind m_draft_want m_draft_saidAhead m_draft_heardWord m_draft_heardAnswer m_sayableByPair m_chosenPairs (nI j) (nI v) x3 = some (-10, m_bads + 1, m_nos, m_fulls, m_draft_words, m_draft_people, m_draft_said, m_draft_undos, m_draft_heard, m_draft_ending, m_draft_meaning, m_draft_cost, m_draft_alikeTo, m_draft_kind, m_draft_want, m_draft_saidAhead, m_draft_heardWord, m_draft_heardAnswer, m_sayableByPair, m_chosenPairs) := by
          unfold fX10_allow fX10_allow_b23
          rw [s_isPerson (nI j) (by omega), gm_bind_s, hi1, if_neg (by decide), s_fl (nI v) 256 256 rfl (by decide), gm_bind_s, hi2, if_neg (by decide), if_neg hi3, s_refB, gm_bind_s]
        have h2 : fX11_allow N n_thrown n_allowed n_firstPair n_secondPair n_refused n_tongue (nI j) (nI v) x3 = some (-10, 0, n_allowed, n_firstPair, n_secondPair, upd n_refused 0 (n_refused 0 + 1), n_tongue) := by
          unfold fX11_allow fX11_allow_b25
          rw [s_noPerson (nI j) hrP.1 (by omega), gm_bind_s, hi1, if_pos (by decide), s_areMeanings (nI v), gm_bind_s, hi2, if_neg (by decide), if_neg hi3, s_badTen, gm_bind_s]
        exact ⟨_, _, h1, h2, rfl, hT0, hX, RFb hF, hA, hI, hC⟩
      | true =>
        have hi3 := of_decide_eq_true hi3
        have key : ∃ R : Int32, fX10_allow N m_bads m_nos m_fulls (nI w) (nI p) m_now_said (nI u) (nI h) m_now_ending m_now_meaning m_now_cost m_now_alikeTo m_now_kind m_now_want m_now_saidAhead m_now_heardWord m_now_heardAnswer m_draft_words m_draft_people m_draft_said m_draft_undos m_draft_heard m_draft_ending m_draft_meaning m_draft_cost m_draft_alikeTo m_draft_kind m_draft_want m_draft_saidAhead m_draft_heardWord m_draft_heardAnswer m_sayableByPair m_chosenPairs (nI j) (nI v) x3 = some (R, m_bads, m_nos, m_fulls, (nI w), (nI p), m_now_said, (nI u), (nI h), (va_cpy m_now_ending m_draft_ending (Int32.toNatClampNeg 0) (Int32.toNatClampNeg 0) (Int32.toNatClampNeg 10)), (va_cpy m_now_meaning m_draft_meaning (Int32.toNatClampNeg 0) (Int32.toNatClampNeg 0) (Int32.toNatClampNeg 10)), (va_cpy m_now_cost m_draft_cost (Int32.toNatClampNeg 0) (Int32.toNatClampNeg 0) (Int32.toNatClampNeg 10)), (va_cpy m_now_alikeTo m_draft_alikeTo (Int32.toNatClampNeg 0) (Int32.toNatClampNeg 0) (Int32.toNatClampNeg 8)), (va_cpy m_now_kind m_draft_kind (Int32.toNatClampNeg 0) (Int32.toNatClampNeg 0) (Int32.toNatClampNeg 5)), (va_cpy m_now_want m_draft_want (Int32.toNatClampNeg 0) (Int32.toNatClampNeg 0) (Int32.toNatClampNeg 5)), (va_cpy m_now_saidAhead m_draft_saidAhead (Int32.toNatClampNeg 0) (Int32.toNatClampNeg 0) (Int32.toNatClampNeg 8)), (va_cpy m_now_heardWord m_draft_heardWord (Int32.toNatClampNeg 0) (Int32.toNatClampNeg 0) (Int32.toNatClampNeg 6)), (va_cpy m_now_heardAnswer m_draft_heardAnswer (Int32.toNatClampNeg 0) (Int32.toNatClampNeg 0) (Int32.toNatClampNeg 6)), fl m_sayableByPair (fun l => Wd (kn j) (m_now_want j) en mn m_now_meaning (al1 m_now_alikeTo (pn l)) w m_now_said) 28, ch') ∧ fX11_allow N n_thrown n_allowed n_firstPair n_secondPair n_refused n_tongue (nI j) (nI v) x3 = some (R, 0, pc, P', S', n_refused, n_tongue) := by
          obtain ⟨rX, kX⟩ : ∃ r, fX10_allow N m_bads m_nos m_fulls (nI w) (nI p) m_now_said (nI u) (nI h) m_now_ending m_now_meaning m_now_cost m_now_alikeTo m_now_kind m_now_want m_now_saidAhead m_now_heardWord m_now_heardAnswer m_draft_words m_draft_people m_draft_said m_draft_undos m_draft_heard m_draft_ending m_draft_meaning m_draft_cost m_draft_alikeTo m_draft_kind m_draft_want m_draft_saidAhead m_draft_heardWord m_draft_heardAnswer m_sayableByPair m_chosenPairs (nI j) (nI v) x3 = r := ⟨_, rfl⟩
          obtain ⟨rM, kM⟩ : ∃ r, fX11_allow N n_thrown n_allowed n_firstPair n_secondPair n_refused n_tongue (nI j) (nI v) x3 = r := ⟨_, rfl⟩
          rw [kX, kM]
          unfold fX10_allow at kX
          unfold fX11_allow at kM
          rw [s_isPerson (nI j) (by omega), gm_bind_s, hi1, if_neg (by decide), s_fl (nI v) 256 256 rfl (by decide), gm_bind_s, hi2, if_neg (by decide), if_pos hi3, hfill, gm_bind_s, s_anyWord hN hw hp hE hM hP hj, gm_bind_s] at kX
          dsimp only at kX
          rw [hc1, gm_bind_s] at kX
          dsimp only at kX
          rw [s_noPerson (nI j) hrP.1 (by omega), gm_bind_s, hi1, if_pos (by decide), s_areMeanings (nI v), gm_bind_s, hi2, if_neg (by decide), if_pos hi3, hc2, gm_bind_s] at kM
          dsimp only at kM
          by_cases e1 : pc = -1
          · rw [if_pos e1] at kX kM
            exact ⟨_, kX.symm, kM.symm⟩
          · rw [if_neg e1] at kX kM
            by_cases e2 : x3 = -1
            · rw [if_pos e2] at kX kM
              exact ⟨_, kX.symm, kM.symm⟩
            · rw [if_neg e2] at kX kM
              by_cases e3 : pc ≤ x3
              · rw [if_pos e3] at kX
                rw [if_neg (Int32.not_lt.mpr e3)] at kM
                exact ⟨_, kX.symm, kM.symm⟩
              · rw [if_neg e3] at kX
                rw [if_pos (Int32.not_le.mp e3)] at kM
                have hx3 : (x3 = 0 ∧ ch' 0 = P') ∨ (x3 = 1 ∧ ch' 1 = S') := by
                  have b1 := Int32.le_iff_toInt_le.mp hi3
                  have b2 := Int32.lt_iff_toInt_lt.mp (Int32.not_le.mp e3)
                  have b3 : x3.toInt ≠ -1 := fun q => e2 (Int32.toInt_inj.mp (by rw [q]; decide))
                  have t1 : (-1 : Int32).toInt = -1 := by decide
                  rw [t1] at b1
                  rcases hc3 with (q | q) | ⟨q, q1⟩ | ⟨q, q1, q2⟩
                  · exact absurd q e1
                  · rw [q] at b2
                    have : (0 : Int32).toInt = 0 := by decide
                    omega
                  · rw [q] at b2
                    have : (1 : Int32).toInt = 1 := by decide
                    exact Or.inl ⟨Int32.toInt_inj.mp (show x3.toInt = 0 by omega), q1⟩
                  · rw [q] at b2
                    have : (2 : Int32).toInt = 2 := by decide
                    rcases (show x3.toInt = 0 ∨ x3.toInt = 1 by omega) with z | z
                    · exact Or.inl ⟨Int32.toInt_inj.mp z, q1⟩
                    · exact Or.inr ⟨Int32.toInt_inj.mp z, q2⟩
                rcases hx3 with ⟨rfl, q⟩ | ⟨rfl, q⟩
                · rw [ck0 (by decide), cl0, q] at kX
                  rw [if_pos rfl] at kM
                  exact ⟨_, kX.symm, kM.symm⟩
                · rw [ck1 (by decide), cl1, q] at kX
                  rw [if_neg (by decide)] at kM
                  exact ⟨_, kX.symm, kM.symm⟩
        obtain ⟨R, h1, h2⟩ := key
        exact ⟨_, _, h1, h2, rfl, hT0, hX, hF, hA, hI, hC⟩
