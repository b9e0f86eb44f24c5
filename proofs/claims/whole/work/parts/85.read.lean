/-! ===== reading ===== -/
theorem lgc_0 {a b : Int64} : lg_cmp a b = 0 ↔ a = b := by
  constructor
  · intro h
    have h1 : ¬ a.toInt < b.toInt := fun q => by have := (lgc_neg a b).mpr q; rw [h] at this; exact absurd this (by decide)
    have h2 : ¬ b.toInt < a.toInt := fun q => by have := (lgc_pos a b).mpr q; rw [h] at this; exact absurd this (by decide)
    exact Int64.toInt_inj.mp (by omega)
  · intro h
    subst h
    have h1 : ¬ lg_cmp a a < 0 := fun q => by have := (lgc_neg a a).mp q; omega
    have h2 : ¬ 0 < lg_cmp a a := fun q => by have := (lgc_pos a a).mp q; omega
    exact Int32.le_antisymm (Int32.not_lt.mp h2) (Int32.not_lt.mp h1)
theorem RT_word {w a b c' : Nat} {people said heard : Int32} {e m c al k wt sa hw' ha f : Nat → Int32} (hT : RT (nI w) people said 0 heard e m c al k wt sa hw' ha f) (hl : w < 10) (ha8 : a < 8) (hb8 : b < 8) (hc : c' < 21) : RT (nI (w + 1)) people said 0 heard (upd e w (nI a)) (upd m w (nI b)) (upd c w (nI c')) al k wt sa hw' ha (upd (upd (upd (upd f (5 + 3 * w) (nI a)) (5 + 3 * w + 1) (nI b)) (5 + 3 * w + 2) (nI c')) 0 (nI (w + 1))) := by
  obtain ⟨w0, p, u, h, en, mn, cn, kn, wn, ⟨hw, hp, hu8, hh6⟩, ⟨hqw, rfl, hqu, rfl⟩, hrE, hrP, hr2, hco, hE, hM, hP, hs, hir, hh, hu, hsd⟩ := hT
  have ew : w0 = w := by
    have := (nI_eq (a := w) (b := w0) (by omega) (by omega)).mp hqw
    omega
  subst ew
  have old : ∀ k, k ≠ 0 → (k < 5 + 3 * w0 ∨ 5 + 3 * w0 + 2 < k) → (upd (upd (upd (upd f (5 + 3 * w0) (nI a)) (5 + 3 * w0 + 1) (nI b)) (5 + 3 * w0 + 2) (nI c')) 0 (nI (w0 + 1))) k = f k := fun k k0 k5 => by rw [upd_n k0, upd_n (by omega), upd_n (by omega), upd_n (by omega)]
  refine ⟨w0 + 1, p, 0, h, fun j => if j = w0 then a else en j, fun j => if j = w0 then b else mn j, fun j => if j = w0 then c' else cn j, kn, wn, ⟨by omega, hp, by omega, hh6⟩, ⟨rfl, rfl, rfl, rfl⟩, ⟨?_, fun j hj => ?_, fun z hz => ?_⟩, ⟨?_, fun j hj => ⟨?_, ?_⟩⟩, ⟨?_, ?_, ?_⟩, fun j hj => ?_, fun j hj => ?_, fun j hj => ?_, hP, hs, hir, fun j hj => ⟨?_, ?_, ?_, ?_⟩, fun j hj => absurd hj (Nat.not_lt_zero j), ?_⟩
  · rw [upd_s]
  · by_cases hjw : j = w0
    · subst hjw
      exact ⟨by rw [upd_n (by omega), upd_n (by omega), upd_n (by omega), upd_s, upd_s], by rw [upd_n (by omega), upd_n (by omega), upd_s, upd_s]⟩
    · exact ⟨by rw [old _ (by omega) (by omega), upd_n hjw]; exact (hrE.2.1 j (by omega)).1, by rw [old _ (by omega) (by omega), upd_n hjw]; exact (hrE.2.1 j (by omega)).2⟩
  · rw [old _ (by omega) (by omega)]; exact hrE.2.2 z hz
  · rw [old 1 (by omega) (by omega)]; exact hrP.1
  · rw [old _ (by omega) (by omega)]; exact (hrP.2 j hj).1
  · rw [old _ (by omega) (by omega)]; exact (hrP.2 j hj).2
  · rw [old 2 (by omega) (by omega)]; exact hr2.1
  · rw [old 3 (by omega) (by omega)]; exact hr2.2.1
  · rw [old 4 (by omega) (by omega)]; exact hr2.2.2
  · by_cases hjw : j = w0
    · subst hjw
      simp only [if_pos]
      exact ⟨by rw [upd_n (by omega), upd_s, upd_s], by omega, upd_s⟩
    · simp only [if_neg hjw]
      have := hco j (by omega)
      exact ⟨by rw [old _ (by omega) (by omega), upd_n hjw]; exact this.1, this.2.1, by rw [upd_n hjw]; exact this.2.2⟩
  · by_cases hjw : j = w0
    · subst hjw; simp only [if_pos]; exact ⟨ha8, upd_s⟩
    · simp only [if_neg hjw]; exact ⟨(hE j (by omega)).1, by rw [upd_n hjw]; exact (hE j (by omega)).2⟩
  · by_cases hjw : j = w0
    · subst hjw; simp only [if_pos]; exact ⟨hb8, upd_s⟩
    · simp only [if_neg hjw]; exact ⟨(hM j (by omega)).1, by rw [upd_n hjw]; exact (hM j (by omega)).2⟩
  · rw [old _ (by omega) (by omega)]; exact (hh j hj).1
  · rw [old _ (by omega) (by omega)]; exact (hh j hj).2.1
  · obtain ⟨x, hx, ex⟩ := (hh j hj).2.2.1; exact ⟨x, by omega, ex⟩
  · rcases (hh j hj).2.2.2 with e | ⟨y, hy, ey⟩
    · exact Or.inl e
    · exact Or.inr ⟨y, by omega, ey⟩
  · obtain ⟨v, hv, ev⟩ := hsd
    exact ⟨v, Nat.lt_of_lt_of_le hv (Nat.pow_le_pow_right (by decide) (by omega)), ev⟩
theorem RT_person {p a b : Nat} {words said undos heard : Int32} {e m c al k wt sa hw' ha f : Nat → Int32} (hT : RT words (nI p) said undos heard e m c al k wt sa hw' ha f) (hl : p < 5) (ha6 : a < 6) (hb8 : b < 8) : RT words (nI (p + 1)) said undos heard e m c al (upd k p (nI a)) (upd wt p (nI b)) sa hw' ha (upd (upd (upd f (35 + 2 * p) (nI a)) (35 + 2 * p + 1) (nI b)) 1 (nI (p + 1))) := by
  obtain ⟨w, p0, u, h, en, mn, cn, kn, wn, ⟨hw, hp, hu8, hh6⟩, ⟨rfl, hqp, rfl, rfl⟩, hrE, hrP, hr2, hco, hE, hM, hP, hs, hir, hh, hu, hsd⟩ := hT
  have ew : p0 = p := by
    have := (nI_eq (a := p) (b := p0) (by omega) (by omega)).mp hqp
    omega
  subst ew
  have old : ∀ k, k ≠ 1 → (k < 35 + 2 * p0 ∨ 35 + 2 * p0 + 1 < k) → (upd (upd (upd f (35 + 2 * p0) (nI a)) (35 + 2 * p0 + 1) (nI b)) 1 (nI (p0 + 1))) k = f k := fun k k0 k5 => by rw [upd_n k0, upd_n (by omega), upd_n (by omega)]
  refine ⟨w, p0 + 1, u, h, en, mn, cn, fun j => if j = p0 then a else kn j, fun j => if j = p0 then b else wn j, ⟨hw, by omega, hu8, hh6⟩, ⟨rfl, rfl, rfl, rfl⟩, ⟨?_, fun j hj => ⟨?_, ?_⟩, fun z hz => ?_⟩, ⟨upd_s, fun j hj => ?_⟩, ⟨?_, ?_, ?_⟩, fun j hj => ⟨?_, (hco j hj).2⟩, hE, hM, fun j hj => ?_, hs, hir, fun j hj => ⟨?_, ?_, (hh j hj).2.2⟩, fun j hj => ⟨?_, (hu j hj).2⟩, hsd⟩
  · rw [old 0 (by omega) (by omega)]; exact hrE.1
  · rw [old _ (by omega) (by omega)]; exact (hrE.2.1 j hj).1
  · rw [old _ (by omega) (by omega)]; exact (hrE.2.1 j hj).2
  · rw [old _ (by omega) (by omega)]; exact hrE.2.2 z hz
  · by_cases hjp : j = p0
    · subst hjp
      exact ⟨by rw [upd_n (by omega), upd_n (by omega), upd_s, upd_s], by rw [upd_n (by omega), upd_s, upd_s]⟩
    · exact ⟨by rw [old _ (by omega) (by omega), upd_n hjp]; exact (hrP.2 j (by omega)).1, by rw [old _ (by omega) (by omega), upd_n hjp]; exact (hrP.2 j (by omega)).2⟩
  · rw [old 2 (by omega) (by omega)]; exact hr2.1
  · rw [old 3 (by omega) (by omega)]; exact hr2.2.1
  · rw [old 4 (by omega) (by omega)]; exact hr2.2.2
  · rw [old _ (by omega) (by omega)]; exact (hco j hj).1
  · by_cases hjp : j = p0
    · subst hjp; simp only [if_pos]; exact ⟨ha6, upd_s, hb8, upd_s⟩
    · simp only [if_neg hjp]; exact ⟨(hP j (by omega)).1, by rw [upd_n hjp]; exact (hP j (by omega)).2.1, (hP j (by omega)).2.2.1, by rw [upd_n hjp]; exact (hP j (by omega)).2.2.2⟩
  · rw [old _ (by omega) (by omega)]; exact (hh j hj).1
  · rw [old _ (by omega) (by omega)]; exact (hh j hj).2.1
  · rw [old _ (by omega) (by omega)]; exact (hu j hj).1
section RD
variable {N n : Nat} {by' tx : Nat → Int32}
theorem mu_i : ∀ k, k < 5 → (mu k = 1 ↔ k = 0) ∧ (mu k = 2 ↔ k = 1) ∧ (mu k = 3 ↔ k = 2) ∧ (mu k = 4 ↔ k = 3) := by decide +kernel
theorem s_faultH {a s e k v : Nat} {L : Nat → Bool} {val : Int64} (h : TkP N n by' tx a s e k v L val) : fX11_faultHere N (nI n) (nI s) (mu k) (-1) = some (nI s) := by
  obtain ⟨⟨h1, h2, h3, h4, h5, h6, h7⟩, _⟩ := h
  unfold fX11_faultHere
  rw [if_pos rfl]
  by_cases q : k = 0
  · rw [if_pos ((mu_i k h6).1.mpr q), (h5 q).1]
  · rw [if_neg (fun z => q ((mu_i k h6).1.mp z))]
theorem below_ok {a s e k v B : Nat} {L : Nat → Bool} {val : Int64} (h : TkP N n by' tx a s e k v L val) (hk : k = 2) (hv : v < B) (hB : B ≤ 100) {K : Int32} (hK : K = nI B) (st tk num : Int32) : fX6_takesBelow N (nI n) (nI a) st tk num by' K = some (1, nI e, nI s, nI 2, nI v) := by
  obtain ⟨num', h1, h2⟩ := h.2.1 st tk num
  subst hK
  unfold fX6_takesBelow
  rw [h1, gm_bind_s]
  dsimp only
  rw [hk, if_pos (show nI 2 = (2 : Int32) from rfl), h2 hk, hd_go hv (by omega)]
theorem below_no {a s e k v B : Nat} {L : Nat → Bool} {val : Int64} (h : TkP N n by' tx a s e k v L val) (hk : ¬ (k = 2 ∧ v < B)) {K : Int32} (hK : K = nI B) (st tk num : Int32) : ∃ num', fX6_takesBelow N (nI n) (nI a) st tk num by' K = some (0, nI e, nI s, nI k, num') := by
  obtain ⟨num', h1, h2⟩ := h.2.1 st tk num
  obtain ⟨⟨_, _, _, _, _, h6, h7⟩, _⟩ := h
  subst hK
  refine ⟨num', ?_⟩
  unfold fX6_takesBelow
  rw [h1, gm_bind_s]
  dsimp only
  by_cases q : k = 2
  · rw [q, if_pos (show nI 2 = (2 : Int32) from rfl), h2 q, hd_end (by omega) (by omega)]
  · rw [if_neg (show ¬ nI k = 2 from fun z => q ((nI_eq (b := 2) (by omega) (by decide)).mp z))]
theorem stop_ok {a s e k v : Nat} {L : Nat → Bool} {val : Int64} (h : TkP N n by' tx a s e k v L val) (hk : k = 3) (st tk num : Int32) : ∃ num', fX6_takesStop N (nI n) (nI a) st tk num by' = some (1, nI e, nI s, nI 3, num') := by
  obtain ⟨num', h1, h2⟩ := h.2.1 st tk num
  refine ⟨num', ?_⟩
  unfold fX6_takesStop
  rw [h1, gm_bind_s]
  dsimp only
  rw [hk, if_pos (show nI 3 = (3 : Int32) from rfl)]
theorem stop_no {a s e k v : Nat} {L : Nat → Bool} {val : Int64} (h : TkP N n by' tx a s e k v L val) (hk : ¬ k = 3) (st tk num : Int32) : ∃ num', fX6_takesStop N (nI n) (nI a) st tk num by' = some (0, nI e, nI s, nI k, num') := by
  obtain ⟨num', h1, h2⟩ := h.2.1 st tk num
  obtain ⟨⟨_, _, _, _, _, h6, h7⟩, _⟩ := h
  refine ⟨num', ?_⟩
  unfold fX6_takesStop
  rw [h1, gm_bind_s]
  dsimp only
  rw [if_neg (show ¬ nI k = 3 from fun z => hk ((nI_eq (b := 3) (by omega) (by decide)).mp z))]
theorem num_f {at' st tk f : Int32} {val : Int64} (hf : ¬ f = -1) (x1 x2 : Int32) : fX11_number N (nI n) at' st tk val f tx x1 x2 = some (0, at', st, tk, val, f) := by
  unfold fX11_number fX11_number_b36 fX11_faultHere
  rw [if_neg hf, if_neg hf, gm_bind_s]
theorem sign_f {at' st tk f : Int32} {val : Int64} (hf : ¬ f = -1) : fX11_sign N (nI n) at' st tk val f tx = some (at', st, tk, val, f) := by
  unfold fX11_sign fX11_sign_b16 fX11_faultHere
  rw [if_neg hf, if_neg hf, gm_bind_s]
theorem sign_ok {a s e k v s2 e2 k2 v2 : Nat} {L L2 : Nat → Bool} {val val2 : Int64} (h : TkP N n by' tx a s e k v L val) (h2 : TkP N n by' tx e s2 e2 k2 v2 L2 val2) (hk : k = 3) : fX11_sign N (nI n) (nI e) (nI s) (mu k) val (-1) tx = some (nI e2, nI s2, mu k2, val2, -1) := by
  unfold fX11_sign
  rw [if_pos rfl, if_pos ((mu_i k (by omega)).2.2.2.mpr hk), h2.2.2.1, gm_bind_s]
theorem sign_no {a s e k v : Nat} {L : Nat → Bool} {val : Int64} (h : TkP N n by' tx a s e k v L val) (hk : ¬ k = 3) : fX11_sign N (nI n) (nI e) (nI s) (mu k) val (-1) tx = some (nI e, nI s, mu k, val, nI s) := by
  have h6 := h.1.2.2.2.2.2.1
  unfold fX11_sign fX11_sign_b16
  rw [if_pos rfl, if_neg (fun z => hk ((mu_i k h6).2.2.2.mp z)), s_faultH h, gm_bind_s]
theorem num_ok {a s e k v s2 e2 k2 v2 M : Nat} {L L2 : Nat → Bool} {val val2 : Int64} (h : TkP N n by' tx a s e k v L val) (h2 : TkP N n by' tx e s2 e2 k2 v2 L2 val2) (hk : k = 2) (hv : v ≤ M) (hM : M < 100) {K X : Int32} (hK : K = nI M) (hX : X = -1 ∨ ∃ y, X = nI y ∧ y < 100 ∧ v ≠ y) : fX11_number N (nI n) (nI e) (nI s) (mu k) val (-1) tx K X = some (nI v, nI e2, nI s2, mu k2, val2, -1) := by
  obtain ⟨⟨_, _, _, _, _, h6, h7⟩, _, _, hval, _⟩ := h
  have e1 := hval hk
  subst e1
  subst hK
  unfold fX11_number
  rw [if_pos rfl, if_pos ((mu_i k h6).2.2.1.mpr hk), if_neg (fun z => by
    have := (lgc_pos _ _).mp z
    rw [L_v (show M < 128 by omega), Int64.toInt_ofNat_of_lt (by omega), Int64.toInt_ofNat_of_lt (by omega)] at this
    omega), if_neg (fun z => by
    have e2 := lgc_0.mp z
    rcases hX with rfl | ⟨y, rfl, hy, hne⟩
    · have := congrArg Int64.toInt e2
      rw [Int64.toInt_ofNat_of_lt (by omega), show (Int32.toInt64 (-1)).toInt = -1 by decide] at this
      omega
    · rw [L_v (show y < 128 by omega)] at e2
      exact hne (ofN_inj (by omega) (by omega) e2)), gm_let_s, h2.2.2.1, gm_bind_s, Int64.toInt32_ofNat']
  rfl
theorem num_no {a s e k v M : Nat} {L : Nat → Bool} {val : Int64} (h : TkP N n by' tx a s e k v L val) (hk : ¬ (k = 2 ∧ v ≤ M)) (hM : M < 100) {K X : Int32} (hK : K = nI M) : fX11_number N (nI n) (nI e) (nI s) (mu k) val (-1) tx K X = some (0, nI e, nI s, mu k, val, nI s) := by
  have hh := s_faultH h
  obtain ⟨⟨_, _, _, _, _, h6, h7⟩, _, _, hval, _⟩ := h
  subst hK
  unfold fX11_number fX11_number_b36
  rw [if_pos rfl]
  by_cases q : k = 2
  · rw [if_pos ((mu_i k h6).2.2.1.mpr q), if_pos ((lgc_pos _ _).mpr (by
      rw [hval q, L_v (show M < 128 by omega), Int64.toInt_ofNat_of_lt (by omega), Int64.toInt_ofNat_of_lt (by omega)]
      omega)), hh, gm_bind_s]
  · rw [if_neg (fun z => q ((mu_i k h6).2.2.1.mp z)), hh, gm_bind_s]
theorem num_eq {a s e k v : Nat} {L : Nat → Bool} {val : Int64} (h : TkP N n by' tx a s e k v L val) (hk : k = 2) {K : Int32} : fX11_number N (nI n) (nI e) (nI s) (mu k) val (-1) tx K (nI v) = some (0, nI e, nI s, mu k, val, nI s) := by
  have hh := s_faultH h
  obtain ⟨⟨_, _, _, _, _, h6, h7⟩, _, _, hval, _⟩ := h
  unfold fX11_number fX11_number_b36
  rw [if_pos rfl, if_pos ((mu_i k h6).2.2.1.mpr hk), if_pos (show lg_cmp val (Int32.toInt64 (nI v)) = 0 from lgc_0.mpr (by rw [hval hk, L_v (by omega)])), hh, gm_bind_s, ite_self]
end RD
theorem RT_f0 {words people said undos heard : Int32} {e m c al k wt sa hw' ha f : Nat → Int32} (hT : RT words people said undos heard e m c al k wt sa hw' ha f) : f 0 = words ∧ f 1 = people := by
  obtain ⟨w, p, u, h, en, mn, cn, kn, wn, hb, ⟨rfl, rfl, rfl, rfl⟩, hrE, hrP, _⟩ := hT
  exact ⟨hrE.1, hrP.1⟩
def RdI (N n : Nat) (by' tx : Nat → Int32) (a : Nat) (sa hw' ha : Nat → Int32) (oX : Option (Int32 × Int32 × Int32 × Int32 × Int32 × Int32 × Int32 × Int32 × (Nat → Int32) × (Nat → Int32) × (Nat → Int32) × (Nat → Int32) × (Nat → Int32) × (Nat → Int32))) (oM : Option (Int32 × Int32 × Int32 × Int64 × Int32 × (Nat → Int32))) : Prop :=
  (∃ s' : Nat, s' ≤ n ∧ (∃ (pl tk num w' p' u' : Int32) (e' m' c' al' k' wt' : Nat → Int32), oX = some (0, pl, nI s', tk, num, w', p', u', e', m', c', al', k', wt')) ∧ ∃ (at' st' tk' : Int32) (val' : Int64) (f' : Nat → Int32), oM = some (at', st', tk', val', nI s', f')) ∨
  (∃ (a' : Nat) (st tk num w' p' : Int32) (e' m' c' al' k' wt' : Nat → Int32) (s2 e2 k2 v2 : Nat) (L2 : Nat → Bool) (val2 : Int64) (f' : Nat → Int32), a < a' ∧ a' ≤ n ∧ oX = some (1, nI a', st, tk, num, w', p', 0, e', m', c', al', k', wt') ∧ oM = some (nI e2, nI s2, mu k2, val2, -1, f') ∧ TkP N n by' tx a' s2 e2 k2 v2 L2 val2 ∧ RT w' p' 0 0 0 e' m' c' al' k' wt' sa hw' ha f')
section RD2
variable {N n : Nat} {by' tx : Nat → Int32} {tv : Nat → Nat}
set_option maxHeartbeats 4000000 in
theorem item_cmp (hN : 3000 ≤ N) (hn : n ≤ 150) (hb : ∀ j, j < n → by' j = nI (tv j) ∧ tx j = nI (tv j) ∧ tv j < 128) {a s e k v : Nat} {L : Nat → Bool} {val : Int64} (h : TkP N n by' tx a s e k v L val) (hk0 : k ≠ 0) {w p : Nat} {en m c al kd wt sa hw' ha f : Nat → Int32} (hw : w ≤ 10) (hp : p ≤ 5) (hT : RT (nI w) (nI p) 0 0 0 en m c al kd wt sa hw' ha f) (num : Int32) : RdI N n by' tx a sa hw' ha (fX6_takesItem N (nI n) (nI e) (nI s) (nI k) num by' (nI w) (nI p) 0 en m c al kd wt) (fX11_readItem N (nI n) (nI e) (nI s) (mu k) val (-1) f tx) := by
  have hf0 := RT_f0 hT
  have b00 := h.1
  have hlet := h.2.2.2.2.2
  have h1 := hlet 1 (by decide)
  have h2 := hlet 2 (by decide)
  have h3 := hlet 3 (by decide)
  obtain ⟨rX, kX⟩ : ∃ r, fX6_takesItem N (nI n) (nI e) (nI s) (nI k) num by' (nI w) (nI p) 0 en m c al kd wt = r := ⟨_, rfl⟩
  obtain ⟨rM, kM⟩ : ∃ r, fX11_readItem N (nI n) (nI e) (nI s) (mu k) val (-1) f tx = r := ⟨_, rfl⟩
  rw [kX, kM]
  unfold fX6_takesItem at kX
  unfold fX11_readItem at kM
  rw [h1, gm_bind_s] at kX
  by_cases hk1 : k = 1
  · subst hk1
    have hv := h.2.2.2.2.1 rfl
    rw [if_pos (by decide)] at kM
    unfold fX11_readItem_b13 at kM
    rw [if_neg (by decide)] at kM
    have c1 : lg_cmp val 464134 = 0 ↔ L 1 = true := lgc_0.trans (hv 1 (by decide))
    have c2 : lg_cmp val 774500 = 0 ↔ L 2 = true := lgc_0.trans (hv 2 (by decide))
    have c3 : lg_cmp val 232608281 = 0 ↔ L 3 = true := lgc_0.trans (hv 3 (by decide))
    have x12 : L 1 = true → L 2 = true → False := fun q1 q2 => by
      have e1 := (hv 1 (by decide)).mpr q1
      have e2 := (hv 2 (by decide)).mpr q2
      rw [e1] at e2
      exact absurd e2 (by decide)
    have x13 : L 1 = true → L 3 = true → False := fun q1 q2 => by
      have e1 := (hv 1 (by decide)).mpr q1
      have e2 := (hv 3 (by decide)).mpr q2
      rw [e1] at e2
      exact absurd e2 (by decide)
    cases hL1 : L 1 with
    | true =>
      rw [hL1, if_neg (by decide)] at kX
      rw [if_pos (c1.mpr hL1), ck0 (by decide), cl0, hf0.1] at kM
      rcases Nat.lt_or_ge w 10 with hl | hl
      · rw [hl_go (K := 10) (n := 10) rfl hl (by decide)] at kX
        rw [hl_go (K := 10) (n := 10) rfl hl (by decide)] at kM
        obtain ⟨s1, e1, k1, v1, L1, val1, t1⟩ := tok hN hn hb (a := e) h.1.2.2.1
        obtain ⟨s2, e2, k2, v2, L2, val2, t2⟩ := tok hN hn hb (a := e1) t1.1.2.2.1
        obtain ⟨s3, e3, k3, v3, L3, val3, t3⟩ := tok hN hn hb (a := e2) t2.1.2.2.1
        obtain ⟨s4, e4, k4, v4, L4, val4, t4⟩ := tok hN hn hb (a := e3) t3.1.2.2.1
        obtain ⟨s5, e5, k5, v5, L5, val5, t5⟩ := tok hN hn hb (a := e4) t4.1.2.2.1
        have b1 := t1.1
        have z1 : ¬ nI s1 = -1 := nI_nm1 (by omega)
        have b2 := t2.1
        have z2 : ¬ nI s2 = -1 := nI_nm1 (by omega)
        have b3 := t3.1
        have z3 : ¬ nI s3 = -1 := nI_nm1 (by omega)
        have b4 := t4.1
        have z4 : ¬ nI s4 = -1 := nI_nm1 (by omega)
        have b0 := h.1
        rw [t1.2.2.1, gm_bind_s] at kM
        dsimp only at kM
        by_cases q1 : k1 = 2 ∧ v1 < 8
        · rw [num_ok (M := 7) (K := 7) t1 t2 q1.1 (by omega) (by decide) rfl (Or.inl rfl), gm_bind_s] at kM
          dsimp only at kM
          by_cases q2 : k2 = 2 ∧ v2 < 8
          · rw [num_ok (M := 7) (K := 7) t2 t3 q2.1 (by omega) (by decide) rfl (Or.inl rfl), gm_bind_s] at kM
            dsimp only at kM
            by_cases q3 : k3 = 2 ∧ v3 < 21
            · rw [num_ok (M := 20) (K := 20) t3 t4 q3.1 (by omega) (by decide) rfl (Or.inl rfl), gm_bind_s] at kM
              dsimp only at kM
              by_cases q4 : k4 = 3
              · rw [sign_ok t4 t5 q4, gm_bind_s] at kM
                dsimp only at kM
                rw [if_pos rfl, s_MaddWord hf0.1 hl, gm_bind_s] at kM
                unfold fX11_readItem_b92 at kM
                obtain ⟨nm, hst⟩ := stop_ok t4 q4 (nI s3) (nI 2) (nI v3)
                have hW : fX6_takesWord N (nI n) (nI e) (nI s) (nI 1) num by' (nI w) 0 en m c = some (1, nI e4, nI s4, nI 3, nm, nI (w + 1), 0, upd en w (nI v1), upd m w (nI v2), upd c w (nI v3)) := by
                  unfold fX6_takesWord
                  rw [below_ok (B := 8) (K := 8) t1 q1.1 q1.2 (by decide) rfl, gm_bind_s]
                  dsimp only
                  rw [if_neg (by decide)]
                  rw [below_ok (B := 8) (K := 8) t2 q2.1 q2.2 (by decide) rfl, gm_bind_s]
                  dsimp only
                  rw [if_neg (by decide)]
                  rw [below_ok (B := 21) (K := 21) t3 q3.1 q3.2 (by decide) rfl, gm_bind_s]
                  dsimp only
                  rw [if_neg (by decide)]
                  rw [s_addWord hl, gm_bind_s]
                  try dsimp only
                  rw [hst, gm_bind_s]
                  dsimp only
                  rw [gm_bl_ok (by decide)]
                rw [hW, gm_bind_s] at kX
                dsimp only at kX
                rw [if_neg (by decide)] at kX
                subst kX kM
                exact Or.inr ⟨e4, _, _, _, _, _, _, _, _, _, _, _, _, _, _, _, _, _, _, by omega, by omega, rfl, rfl, t5, RT_word hT hl q1.2 q2.2 q3.2⟩
              · rw [sign_no t4 q4, gm_bind_s] at kM
                dsimp only at kM
                rw [if_neg z4] at kM
                unfold fX11_readItem_b92 at kM
                obtain ⟨nm, hst⟩ := stop_no t4 q4 (nI s3) (nI 2) (nI v3)
                have hW : fX6_takesWord N (nI n) (nI e) (nI s) (nI 1) num by' (nI w) 0 en m c = some (0, nI e4, nI s4, nI k4, nm, nI (w + 1), 0, upd en w (nI v1), upd m w (nI v2), upd c w (nI v3)) := by
                  unfold fX6_takesWord
                  rw [below_ok (B := 8) (K := 8) t1 q1.1 q1.2 (by decide) rfl, gm_bind_s]
                  dsimp only
                  rw [if_neg (by decide)]
                  rw [below_ok (B := 8) (K := 8) t2 q2.1 q2.2 (by decide) rfl, gm_bind_s]
                  dsimp only
                  rw [if_neg (by decide)]
                  rw [below_ok (B := 21) (K := 21) t3 q3.1 q3.2 (by decide) rfl, gm_bind_s]
                  dsimp only
                  rw [if_neg (by decide)]
                  rw [s_addWord hl, gm_bind_s]
                  try dsimp only
                  rw [hst, gm_bind_s]
                  dsimp only
                  rw [gm_bl_ok (by decide)]
                rw [hW, gm_bind_s] at kX
                dsimp only at kX
                rw [if_pos rfl] at kX
                subst kX kM
                exact Or.inl ⟨s4, by omega, ⟨_, _, _, _, _, _, _, _, _, _, _, _, rfl⟩, _, _, _, _, _, rfl⟩
            · rw [num_no (M := 20) (K := 20) t3 (by omega) (by decide) rfl, gm_bind_s] at kM
              dsimp only at kM
              rw [sign_f z3, gm_bind_s] at kM
              dsimp only at kM
              rw [if_neg z3] at kM
              unfold fX11_readItem_b92 at kM
              obtain ⟨nm, hbn⟩ := below_no (B := 21) (K := 21) t3 q3 rfl (nI s2) (nI 2) (nI v2)
              have hW : fX6_takesWord N (nI n) (nI e) (nI s) (nI 1) num by' (nI w) 0 en m c = some (0, nI e3, nI s3, nI k3, nm, nI w, 0, en, m, c) := by
                unfold fX6_takesWord
                rw [below_ok (B := 8) (K := 8) t1 q1.1 q1.2 (by decide) rfl, gm_bind_s]
                dsimp only
                rw [if_neg (by decide)]
                rw [below_ok (B := 8) (K := 8) t2 q2.1 q2.2 (by decide) rfl, gm_bind_s]
                dsimp only
                rw [if_neg (by decide)]
                rw [hbn, gm_bind_s]
                dsimp only
                rw [if_pos rfl]
              rw [hW, gm_bind_s] at kX
              dsimp only at kX
              rw [if_pos rfl] at kX
              subst kX kM
              exact Or.inl ⟨s3, by omega, ⟨_, _, _, _, _, _, _, _, _, _, _, _, rfl⟩, _, _, _, _, _, rfl⟩
          · rw [num_no (M := 7) (K := 7) t2 (by omega) (by decide) rfl, gm_bind_s] at kM
            dsimp only at kM
            rw [num_f z2, gm_bind_s] at kM
            dsimp only at kM
            rw [sign_f z2, gm_bind_s] at kM
            dsimp only at kM
            rw [if_neg z2] at kM
            unfold fX11_readItem_b92 at kM
            obtain ⟨nm, hbn⟩ := below_no (B := 8) (K := 8) t2 q2 rfl (nI s1) (nI 2) (nI v1)
            have hW : fX6_takesWord N (nI n) (nI e) (nI s) (nI 1) num by' (nI w) 0 en m c = some (0, nI e2, nI s2, nI k2, nm, nI w, 0, en, m, c) := by
              unfold fX6_takesWord
              rw [below_ok (B := 8) (K := 8) t1 q1.1 q1.2 (by decide) rfl, gm_bind_s]
              dsimp only
              rw [if_neg (by decide)]
              rw [hbn, gm_bind_s]
              dsimp only
              rw [if_pos rfl]
            rw [hW, gm_bind_s] at kX
            dsimp only at kX
            rw [if_pos rfl] at kX
            subst kX kM
            exact Or.inl ⟨s2, by omega, ⟨_, _, _, _, _, _, _, _, _, _, _, _, rfl⟩, _, _, _, _, _, rfl⟩
        · rw [num_no (M := 7) (K := 7) t1 (by omega) (by decide) rfl, gm_bind_s] at kM
          dsimp only at kM
          rw [num_f z1, gm_bind_s] at kM
          dsimp only at kM
          rw [num_f z1, gm_bind_s] at kM
          dsimp only at kM
          rw [sign_f z1, gm_bind_s] at kM
          dsimp only at kM
          rw [if_neg z1] at kM
          unfold fX11_readItem_b92 at kM
          obtain ⟨nm, hbn⟩ := below_no (B := 8) (K := 8) t1 q1 rfl (nI s) (nI 1) num
          have hW : fX6_takesWord N (nI n) (nI e) (nI s) (nI 1) num by' (nI w) 0 en m c = some (0, nI e1, nI s1, nI k1, nm, nI w, 0, en, m, c) := by
            unfold fX6_takesWord
            rw [hbn, gm_bind_s]
            dsimp only
            rw [if_pos rfl]
          rw [hW, gm_bind_s] at kX
          dsimp only at kX
          rw [if_pos rfl] at kX
          subst kX kM
          exact Or.inl ⟨s1, by omega, ⟨_, _, _, _, _, _, _, _, _, _, _, _, rfl⟩, _, _, _, _, _, rfl⟩
      · rw [hl_end (K := 10) (n := 10) rfl hl (by omega)] at kX
        rw [hl_end (K := 10) (n := 10) rfl hl (by omega)] at kM
        unfold fX11_readItem_b95 fX11_readItem_b155 fX11_readItem_b223 at kM
        rw [if_neg (by decide), if_neg (fun z => x12 hL1 (c2.mp z)), if_neg (by decide), if_neg (fun z => x13 hL1 (c3.mp z)), s_faultH h, gm_bind_s] at kM
        subst kX kM
        exact Or.inl ⟨s, by omega, ⟨_, _, _, _, _, _, _, _, _, _, _, _, rfl⟩, _, _, _, _, _, rfl⟩
    | false =>
      rw [hL1, if_pos (by decide), h2, gm_bind_s] at kX
      rw [if_neg (fun z => by rw [c1.mp z] at hL1; exact absurd hL1 (by decide))] at kM
      unfold fX11_readItem_b95 at kM
      rw [if_neg (by decide)] at kM
      cases hL2 : L 2 with
      | true =>
        rw [hL2, if_neg (by decide)] at kX
        rw [if_pos (c2.mpr hL2)] at kM
        obtain ⟨s1, e1, k1, v1, L1, val1, t1⟩ := tok hN hn hb (a := e) h.1.2.2.1
        obtain ⟨s2, e2, k2, v2, L2, val2, t2⟩ := tok hN hn hb (a := e1) t1.1.2.2.1
        obtain ⟨s3, e3, k3, v3, L3, val3, t3⟩ := tok hN hn hb (a := e2) t2.1.2.2.1
        obtain ⟨s4, e4, k4, v4, L4, val4, t4⟩ := tok hN hn hb (a := e3) t3.1.2.2.1
        have b1 := t1.1
        have z1 : ¬ nI s1 = -1 := nI_nm1 (by omega)
        have b2 := t2.1
        have z2 : ¬ nI s2 = -1 := nI_nm1 (by omega)
        have b3 := t3.1
        have z3 : ¬ nI s3 = -1 := nI_nm1 (by omega)
        have b0 := h.1
        rw [t1.2.2.1, gm_bind_s] at kM
        dsimp only at kM
        by_cases q1 : k1 = 2 ∧ v1 < 8
        · rw [num_ok (M := 7) (K := 7) t1 t2 q1.1 (by omega) (by decide) rfl (Or.inl rfl), gm_bind_s] at kM
          dsimp only at kM
          by_cases q2 : k2 = 2 ∧ v2 < 8
          · by_cases hv : v2 = v1
            · subst hv
              rw [num_eq t2 q2.1, gm_bind_s] at kM
              dsimp only at kM
              rw [sign_f z2, gm_bind_s] at kM
              dsimp only at kM
              rw [if_neg z2] at kM
              unfold fX11_readItem_b152 at kM
              have hW : fX6_takesAlike N (nI n) (nI e) (nI s) (nI 1) num by' al = some (0, nI e2, nI s2, nI 2, nI v2, al) := by
                unfold fX6_takesAlike
                rw [below_ok (B := 8) (K := 8) t1 q1.1 q1.2 (by decide) rfl, gm_bind_s]
                dsimp only
                rw [if_neg (by decide), below_ok (B := 8) (K := 8) t2 q2.1 q2.2 (by decide) rfl, gm_bind_s]
                dsimp only
                rw [if_neg (by decide), if_pos rfl]
              rw [hW, gm_bind_s] at kX
              dsimp only at kX
              rw [gm_bl_ok (by decide)] at kX
              subst kX kM
              exact Or.inl ⟨s2, by omega, ⟨_, _, _, _, _, _, _, _, _, _, _, _, rfl⟩, _, _, _, _, _, rfl⟩
            · have hne2 : v2 ≠ v1 := hv
              have hne : ¬ nI v2 = nI v1 := fun z => hv ((nI_eq (by omega) (by omega)).mp z)
              rw [num_ok (M := 7) (K := 7) t2 t3 q2.1 (by omega) (by decide) rfl (Or.inr ⟨v1, rfl, by omega, hne2⟩), gm_bind_s] at kM
              dsimp only at kM
              by_cases q3 : k3 = 3
              · rw [sign_ok t3 t4 q3, gm_bind_s] at kM
                dsimp only at kM
                rw [if_pos rfl, s_MsetAlike (by omega) (by omega) (fun z => hv z.symm) 1 true rfl, gm_bind_s] at kM
                unfold fX11_readItem_b152 at kM
                obtain ⟨nm, hst⟩ := stop_ok t3 q3 (nI s2) (nI 2) (nI v2)
                have hW : fX6_takesAlike N (nI n) (nI e) (nI s) (nI 1) num by' al = some (1, nI e3, nI s3, nI 3, nm, setA al v1 v2 true) := by
                  unfold fX6_takesAlike
                  rw [below_ok (B := 8) (K := 8) t1 q1.1 q1.2 (by decide) rfl, gm_bind_s]
                  dsimp only
                  rw [if_neg (by decide)]
                  rw [below_ok (B := 8) (K := 8) t2 q2.1 q2.2 (by decide) rfl, gm_bind_s]
                  dsimp only
                  rw [if_neg (by decide)]
                  rw [if_neg hne]
                  rw [s_setAlike1 (by omega) (by omega) (fun z => hv z.symm), gm_bind_s]
                  try dsimp only
                  rw [hst, gm_bind_s]
                  dsimp only
                  rw [gm_bl_ok (by decide)]
                rw [hW, gm_bind_s] at kX
                dsimp only at kX
                rw [gm_bl_ok (by decide)] at kX
                subst kX kM
                exact Or.inr ⟨e3, _, _, _, _, _, _, _, _, _, _, _, _, _, _, _, _, _, _, by omega, by omega, rfl, rfl, t4, RT_al hT (by omega) (by omega) (fun z => hv z.symm) true⟩
              · rw [sign_no t3 q3, gm_bind_s] at kM
                dsimp only at kM
                rw [if_neg z3] at kM
                unfold fX11_readItem_b152 at kM
                obtain ⟨nm, hst⟩ := stop_no t3 q3 (nI s2) (nI 2) (nI v2)
                have hW : fX6_takesAlike N (nI n) (nI e) (nI s) (nI 1) num by' al = some (0, nI e3, nI s3, nI k3, nm, setA al v1 v2 true) := by
                  unfold fX6_takesAlike
                  rw [below_ok (B := 8) (K := 8) t1 q1.1 q1.2 (by decide) rfl, gm_bind_s]
                  dsimp only
                  rw [if_neg (by decide)]
                  rw [below_ok (B := 8) (K := 8) t2 q2.1 q2.2 (by decide) rfl, gm_bind_s]
                  dsimp only
                  rw [if_neg (by decide)]
                  rw [if_neg hne]
                  rw [s_setAlike1 (by omega) (by omega) (fun z => hv z.symm), gm_bind_s]
                  try dsimp only
                  rw [hst, gm_bind_s]
                  dsimp only
                  rw [gm_bl_ok (by decide)]
                rw [hW, gm_bind_s] at kX
                dsimp only at kX
                rw [gm_bl_ok (by decide)] at kX
                subst kX kM
                exact Or.inl ⟨s3, by omega, ⟨_, _, _, _, _, _, _, _, _, _, _, _, rfl⟩, _, _, _, _, _, rfl⟩
          · rw [num_no (M := 7) (K := 7) t2 (by omega) (by decide) rfl, gm_bind_s] at kM
            dsimp only at kM
            rw [sign_f z2, gm_bind_s] at kM
            dsimp only at kM
            rw [if_neg z2] at kM
            unfold fX11_readItem_b152 at kM
            obtain ⟨nm, hbn⟩ := below_no (B := 8) (K := 8) t2 q2 rfl (nI s1) (nI 2) (nI v1)
            have hW : fX6_takesAlike N (nI n) (nI e) (nI s) (nI 1) num by' al = some (0, nI e2, nI s2, nI k2, nm, al) := by
              unfold fX6_takesAlike
              rw [below_ok (B := 8) (K := 8) t1 q1.1 q1.2 (by decide) rfl, gm_bind_s]
              dsimp only
              rw [if_neg (by decide)]
              rw [hbn, gm_bind_s]
              dsimp only
              rw [if_pos rfl]
            rw [hW, gm_bind_s] at kX
            dsimp only at kX
            rw [gm_bl_ok (by decide)] at kX
            subst kX kM
            exact Or.inl ⟨s2, by omega, ⟨_, _, _, _, _, _, _, _, _, _, _, _, rfl⟩, _, _, _, _, _, rfl⟩
        · rw [num_no (M := 7) (K := 7) t1 (by omega) (by decide) rfl, gm_bind_s] at kM
          dsimp only at kM
          rw [num_f z1, gm_bind_s] at kM
          dsimp only at kM
          rw [sign_f z1, gm_bind_s] at kM
          dsimp only at kM
          rw [if_neg z1] at kM
          unfold fX11_readItem_b152 at kM
          obtain ⟨nm, hbn⟩ := below_no (B := 8) (K := 8) t1 q1 rfl (nI s) (nI 1) num
          have hW : fX6_takesAlike N (nI n) (nI e) (nI s) (nI 1) num by' al = some (0, nI e1, nI s1, nI k1, nm, al) := by
            unfold fX6_takesAlike
            rw [hbn, gm_bind_s]
            dsimp only
            rw [if_pos rfl]
          rw [hW, gm_bind_s] at kX
          dsimp only at kX
          rw [gm_bl_ok (by decide)] at kX
          subst kX kM
          exact Or.inl ⟨s1, by omega, ⟨_, _, _, _, _, _, _, _, _, _, _, _, rfl⟩, _, _, _, _, _, rfl⟩
      | false =>
        rw [hL2, if_pos (by decide), h3, gm_bind_s] at kX
        rw [if_neg (fun z => by rw [c2.mp z] at hL2; exact absurd hL2 (by decide))] at kM
        unfold fX11_readItem_b155 at kM
        rw [if_neg (by decide)] at kM
        cases hL3 : L 3 with
        | true =>
          rw [hL3, if_neg (by decide)] at kX
          rw [if_pos (c3.mpr hL3), ck1 (by decide), cl1, hf0.2] at kM
          rcases Nat.lt_or_ge p 5 with hl | hl
          · rw [hl_go (K := 5) (n := 5) rfl hl (by decide)] at kX
            rw [hl_go (K := 5) (n := 5) rfl hl (by decide)] at kM
            obtain ⟨s1, e1, k1, v1, L1, val1, t1⟩ := tok hN hn hb (a := e) h.1.2.2.1
            obtain ⟨s2, e2, k2, v2, L2, val2, t2⟩ := tok hN hn hb (a := e1) t1.1.2.2.1
            obtain ⟨s3, e3, k3, v3, L3, val3, t3⟩ := tok hN hn hb (a := e2) t2.1.2.2.1
            obtain ⟨s4, e4, k4, v4, L4, val4, t4⟩ := tok hN hn hb (a := e3) t3.1.2.2.1
            have b1 := t1.1
            have z1 : ¬ nI s1 = -1 := nI_nm1 (by omega)
            have b2 := t2.1
            have z2 : ¬ nI s2 = -1 := nI_nm1 (by omega)
            have b3 := t3.1
            have z3 : ¬ nI s3 = -1 := nI_nm1 (by omega)
            have b0 := h.1
            rw [t1.2.2.1, gm_bind_s] at kM
            dsimp only at kM
            by_cases q1 : k1 = 2 ∧ v1 < 6
            · rw [num_ok (M := 5) (K := 5) t1 t2 q1.1 (by omega) (by decide) rfl (Or.inl rfl), gm_bind_s] at kM
              dsimp only at kM
              by_cases q2 : k2 = 2 ∧ v2 < 8
              · rw [num_ok (M := 7) (K := 7) t2 t3 q2.1 (by omega) (by decide) rfl (Or.inl rfl), gm_bind_s] at kM
                dsimp only at kM
                by_cases q3 : k3 = 3
                · rw [sign_ok t3 t4 q3, gm_bind_s] at kM
                  dsimp only at kM
                  rw [if_pos rfl, s_MaddPerson hf0.2 hl, gm_bind_s] at kM
                  unfold fX11_readItem_b220 at kM
                  obtain ⟨nm, hst⟩ := stop_ok t3 q3 (nI s2) (nI 2) (nI v2)
                  have hW : fX6_takesPerson N (nI n) (nI e) (nI s) (nI 1) num by' (nI p) kd wt = some (1, nI e3, nI s3, nI 3, nm, nI (p + 1), upd kd p (nI v1), upd wt p (nI v2)) := by
                    unfold fX6_takesPerson
                    rw [below_ok (B := 6) (K := 6) t1 q1.1 q1.2 (by decide) rfl, gm_bind_s]
                    dsimp only
                    rw [if_neg (by decide)]
                    rw [below_ok (B := 8) (K := 8) t2 q2.1 q2.2 (by decide) rfl, gm_bind_s]
                    dsimp only
                    rw [if_neg (by decide)]
                    rw [s_addPerson hl, gm_bind_s]
                    try dsimp only
                    rw [hst, gm_bind_s]
                    dsimp only
                    rw [gm_bl_ok (by decide)]
                  rw [hW, gm_bind_s] at kX
                  dsimp only at kX
                  rw [if_neg (by decide)] at kX
                  subst kX kM
                  exact Or.inr ⟨e3, _, _, _, _, _, _, _, _, _, _, _, _, _, _, _, _, _, _, by omega, by omega, rfl, rfl, t4, RT_person hT hl q1.2 q2.2⟩
                · rw [sign_no t3 q3, gm_bind_s] at kM
                  dsimp only at kM
                  rw [if_neg z3] at kM
                  unfold fX11_readItem_b220 at kM
                  obtain ⟨nm, hst⟩ := stop_no t3 q3 (nI s2) (nI 2) (nI v2)
                  have hW : fX6_takesPerson N (nI n) (nI e) (nI s) (nI 1) num by' (nI p) kd wt = some (0, nI e3, nI s3, nI k3, nm, nI (p + 1), upd kd p (nI v1), upd wt p (nI v2)) := by
                    unfold fX6_takesPerson
                    rw [below_ok (B := 6) (K := 6) t1 q1.1 q1.2 (by decide) rfl, gm_bind_s]
                    dsimp only
                    rw [if_neg (by decide)]
                    rw [below_ok (B := 8) (K := 8) t2 q2.1 q2.2 (by decide) rfl, gm_bind_s]
                    dsimp only
                    rw [if_neg (by decide)]
                    rw [s_addPerson hl, gm_bind_s]
                    try dsimp only
                    rw [hst, gm_bind_s]
                    dsimp only
                    rw [gm_bl_ok (by decide)]
                  rw [hW, gm_bind_s] at kX
                  dsimp only at kX
                  rw [if_pos rfl] at kX
                  subst kX kM
                  exact Or.inl ⟨s3, by omega, ⟨_, _, _, _, _, _, _, _, _, _, _, _, rfl⟩, _, _, _, _, _, rfl⟩
              · rw [num_no (M := 7) (K := 7) t2 (by omega) (by decide) rfl, gm_bind_s] at kM
                dsimp only at kM
                rw [sign_f z2, gm_bind_s] at kM
                dsimp only at kM
                rw [if_neg z2] at kM
                unfold fX11_readItem_b220 at kM
                obtain ⟨nm, hbn⟩ := below_no (B := 8) (K := 8) t2 q2 rfl (nI s1) (nI 2) (nI v1)
                have hW : fX6_takesPerson N (nI n) (nI e) (nI s) (nI 1) num by' (nI p) kd wt = some (0, nI e2, nI s2, nI k2, nm, nI p, kd, wt) := by
                  unfold fX6_takesPerson
                  rw [below_ok (B := 6) (K := 6) t1 q1.1 q1.2 (by decide) rfl, gm_bind_s]
                  dsimp only
                  rw [if_neg (by decide)]
                  rw [hbn, gm_bind_s]
                  dsimp only
                  rw [if_pos rfl]
                rw [hW, gm_bind_s] at kX
                dsimp only at kX
                rw [if_pos rfl] at kX
                subst kX kM
                exact Or.inl ⟨s2, by omega, ⟨_, _, _, _, _, _, _, _, _, _, _, _, rfl⟩, _, _, _, _, _, rfl⟩
            · rw [num_no (M := 5) (K := 5) t1 (by omega) (by decide) rfl, gm_bind_s] at kM
              dsimp only at kM
              rw [num_f z1, gm_bind_s] at kM
              dsimp only at kM
              rw [sign_f z1, gm_bind_s] at kM
              dsimp only at kM
              rw [if_neg z1] at kM
              unfold fX11_readItem_b220 at kM
              obtain ⟨nm, hbn⟩ := below_no (B := 6) (K := 6) t1 q1 rfl (nI s) (nI 1) num
              have hW : fX6_takesPerson N (nI n) (nI e) (nI s) (nI 1) num by' (nI p) kd wt = some (0, nI e1, nI s1, nI k1, nm, nI p, kd, wt) := by
                unfold fX6_takesPerson
                rw [hbn, gm_bind_s]
                dsimp only
                rw [if_pos rfl]
              rw [hW, gm_bind_s] at kX
              dsimp only at kX
              rw [if_pos rfl] at kX
              subst kX kM
              exact Or.inl ⟨s1, by omega, ⟨_, _, _, _, _, _, _, _, _, _, _, _, rfl⟩, _, _, _, _, _, rfl⟩
          · rw [hl_end (K := 5) (n := 5) rfl hl (by omega)] at kX
            rw [hl_end (K := 5) (n := 5) rfl hl (by omega)] at kM
            unfold fX11_readItem_b223 at kM
            rw [s_faultH h, gm_bind_s] at kM
            subst kX kM
            exact Or.inl ⟨s, by omega, ⟨_, _, _, _, _, _, _, _, _, _, _, _, rfl⟩, _, _, _, _, _, rfl⟩
        | false =>
          rw [hL3, if_pos (by decide)] at kX
          rw [if_neg (fun z => by rw [c3.mp z] at hL3; exact absurd hL3 (by decide))] at kM
          unfold fX11_readItem_b223 at kM
          rw [s_faultH h, gm_bind_s] at kM
          subst kX kM
          exact Or.inl ⟨s, by omega, ⟨_, _, _, _, _, _, _, _, _, _, _, _, rfl⟩, _, _, _, _, _, rfl⟩
  · have hd1 : decide (k = 1) = false := decide_eq_false hk1
    rw [hd1, Bool.false_and, if_pos (by decide), h2, gm_bind_s, hd1, Bool.false_and, if_pos (by decide), h3, gm_bind_s, hd1, Bool.false_and, if_pos (by decide)] at kX
    rw [if_neg (fun z => hk1 ((mu_i k (by omega)).2.1.mp z))] at kM
    unfold fX11_readItem_b13 fX11_readItem_b95 fX11_readItem_b155 fX11_readItem_b223 at kM
    rw [if_pos rfl, if_pos rfl, if_pos rfl, s_faultH h, gm_bind_s] at kM
    subst kX kM
    exact Or.inl ⟨s, by omega, ⟨_, _, _, _, _, _, _, _, _, _, _, _, rfl⟩, _, _, _, _, _, rfl⟩
end RD2
theorem s_Mcopy {N : Nat} (hN : 3000 ≤ N) (t at' st tk : Int32) (val : Int64) (fa : Int32) (f : Nat → Int32) (x1 : Int32) (g : Nat → Int32) : ∃ g' : Nat → Int32, fX11_read_b123 N t at' st tk val fa f x1 g 0 = some (x1, t, at', st, tk, val, fa, g', f) ∧ ∀ j, j < 73 → g' j = f j := by
  unfold fX11_read_b123
  refine fx2 (fun d (y : Nat → Int32) (z : Int32) => ∃ i, i + d = 73 ∧ z = nI i ∧ ∀ j, j < i → y j = f j) (fun o => ∃ g' : Nat → Int32, o = some (x1, t, at', st, tk, val, fa, g', f) ∧ ∀ j, j < 73 → g' j = f j) ?_ N 73 _ _ (by omega) ⟨0, by omega, rfl, fun j hj => absurd hj (Nat.not_lt_zero j)⟩
  intro r d y z hI hr
  obtain ⟨i, hi, rfl, hj⟩ := hI
  unfold fX11_read_b123_body
  rcases Nat.eq_zero_or_pos d with h0 | h0
  · rw [hl_end (K := 73) (n := 73) rfl (by omega) (by omega)]
    exact ⟨_, rfl, fun j h => hj j (by omega)⟩
  · rw [hl_go (K := 73) (n := 73) rfl (by omega) (by omega), gm_chk_n (by omega) (by decide), gm_chk_n (by omega) (by decide), cl_n (by omega)]
    refine hr _ _ (d - 1) (by omega) ⟨i + 1, by omega, nI_1 i, fun j h => ?_⟩
    by_cases q : j = i
    · rw [q, upd_s]
    · rw [upd_n q]; exact hj j (by omega)
def RdL (n : Nat) (t : Int32) (g sa hw' ha : Nat → Int32) (oX : Option (Int32 × Int32 × Int32 × Int32 × Int32 × Int32 × Int32 × Int32 × Int32 × Int32 × Int32 × (Nat → Int32) × (Nat → Int32) × (Nat → Int32) × (Nat → Int32) × (Nat → Int32) × (Nat → Int32))) (oM : Option (Int32 × Int32 × Int32 × Int32 × Int32 × Int64 × Int32 × (Nat → Int32) × (Nat → Int32))) : Prop :=
  (∃ s' : Nat, s' ≤ n ∧ (∃ (it pl tk num st w' p' sd u' hd : Int32) (e' m' c' al' k' wt' : Nat → Int32), oX = some (nI s', it, pl, st, tk, num, w', p', sd, u', hd, e', m', c', al', k', wt')) ∧ ∃ (at' st' tk' : Int32) (val' : Int64) (fa : Int32) (f' : Nat → Int32), oM = some (-10 - nI s', t, at', st', tk', val', fa, g, f')) ∨
  (∃ (it pl tk num st w' p' : Int32) (e' m' c' al' k' wt' : Nat → Int32) (at' st' tk' : Int32) (val' : Int64) (fa : Int32) (g' f' : Nat → Int32), oX = some (-1, it, pl, st, tk, num, w', p', 0, 0, 0, e', m', c', al', k', wt') ∧ oM = some (it, t, at', st', tk', val', fa, g', f') ∧ RT w' p' 0 0 0 e' m' c' al' k' wt' sa hw' ha f' ∧ ∀ j, j < 73 → g' j = f' j)
section RD3
variable {N n : Nat} {by' tx : Nat → Int32} {tv : Nat → Nat}
theorem end_f {t : Int32} {g f : Nat → Int32} {at' st tk x1 fa : Int32} {val : Int64} (hf : ¬ fa = -1) {r : Int32 → Int32 → Int32 → Int64 → Int32 → (Nat → Int32) → Int32 → Option (Int32 × Int32 × Int32 × Int32 × Int32 × Int64 × Int32 × (Nat → Int32) × (Nat → Int32))} : fX11_read_b79_body N t (nI n) g tx r at' st tk val fa f x1 = some (-10 - fa, t, at', st, tk, val, fa, g, f) := by
  unfold fX11_read_b79_body fX11_read_b105
  rw [if_neg hf, if_neg hf]
theorem RT_wp {words people said undos heard : Int32} {e m c al k wt sa hw' ha f : Nat → Int32} (hT : RT words people said undos heard e m c al k wt sa hw' ha f) : ∃ w p : Nat, w ≤ 10 ∧ p ≤ 5 ∧ words = nI w ∧ people = nI p := by
  obtain ⟨w, p, u, h, en, mn, cn, kn, wn, hb, ⟨rfl, rfl, rfl, rfl⟩, _⟩ := hT
  exact ⟨w, p, hb.1, hb.2.1, rfl, rfl⟩
set_option maxHeartbeats 2000000 in
theorem items_cmp (hN : 3000 ≤ N) (hn : n ≤ 150) (hb : ∀ j, j < n → by' j = nI (tv j) ∧ tx j = nI (tv j) ∧ tv j < 128) {t : Int32} {g sa hw' ha : Nat → Int32} {zX : Int32 → Int32 → Int32 → Int32 → Int32 → Int32 → Int32 → Int32 → (Nat → Int32) → (Nat → Int32) → (Nat → Int32) → (Nat → Int32) → (Nat → Int32) → (Nat → Int32) → Int32 → Option (Int32 × Int32 × Int32 × Int32 × Int32 × Int32 × Int32 × Int32 × Int32 × Int32 × Int32 × (Nat → Int32) × (Nat → Int32) × (Nat → Int32) × (Nat → Int32) × (Nat → Int32) × (Nat → Int32))} {zM : Int32 → Int32 → Int32 → Int64 → Int32 → (Nat → Int32) → Int32 → Option (Int32 × Int32 × Int32 × Int32 × Int32 × Int64 × Int32 × (Nat → Int32) × (Nat → Int32))} : ∀ (d a : Nat), a + d = n → ∀ (N1 N2 j : Nat), d + 1 < N1 → d + 1 < N2 → j < a → ∀ (s e k v : Nat) (L : Nat → Bool) (val : Int64), TkP N n by' tx a s e k v L val → ∀ (words people : Int32) (en m c al kd wt f : Nat → Int32), RT words people 0 0 0 en m c al kd wt sa hw' ha f → ∀ (it st tk num : Int32), RdL n t g sa hw' ha (gm_fix (fX6_parseInto_b41_body N (nI n) by' 0 0) zX N1 it (nI a) st tk num words people 0 en m c al kd wt (nI j)) (gm_fix (fX11_read_b79_body N t (nI n) g tx) zM N2 (nI e) (nI s) (mu k) val (-1) f it) := by
  intro d
  induction d using Nat.strongRecOn with
  | ind d ih =>
    intro a had N1 N2 j hN1 hN2 hja s e k v L val h words people en m c al kd wt f hT it st tk num
    obtain ⟨w, p, hw, hp, rfl, rfl⟩ := RT_wp hT
    have hbd := h.1
    obtain ⟨M1, rfl⟩ : ∃ M, N1 = M + 1 := ⟨N1 - 1, by omega⟩
    obtain ⟨M2, rfl⟩ : ∃ M, N2 = M + 1 := ⟨N2 - 1, by omega⟩
    obtain ⟨rX, kX⟩ : ∃ r, gm_fix (fX6_parseInto_b41_body N (nI n) by' 0 0) zX (M1 + 1) it (nI a) st tk num (nI w) (nI p) 0 en m c al kd wt (nI j) = r := ⟨_, rfl⟩
    obtain ⟨rM, kM⟩ : ∃ r, gm_fix (fX11_read_b79_body N t (nI n) g tx) zM (M2 + 1) (nI e) (nI s) (mu k) val (-1) f it = r := ⟨_, rfl⟩
    rw [kX, kM]
    rw [gm_fix_s] at kX kM
    unfold fX6_parseInto_b41_body at kX
    unfold fX11_read_b79_body at kM
    obtain ⟨num', ht, _⟩ := h.2.1 st tk num
    rw [hl_go (K := 150) (n := 150) rfl (show j < 150 by omega) (by decide), ht, gm_bind_s] at kX
    dsimp only at kX
    rw [if_pos rfl] at kM
    by_cases hk : k = 0
    · subst hk
      rw [if_pos (by decide)] at kX kM
      unfold fX11_read_b105 at kM
      rw [if_pos rfl] at kM
      obtain ⟨g', hg1, hg2⟩ := s_Mcopy hN t (nI e) (nI s) (mu 0) val (-1) f it g
      rw [hg1] at kM
      subst kX kM
      exact Or.inr ⟨_, _, _, _, _, _, _, _, _, _, _, _, _, _, _, _, _, _, _, _, rfl, rfl, hT, hg2⟩
    · rw [if_neg (show ¬ nI k = 0 from fun z => hk ((nI_eq (b := 0) (by omega) (by decide)).mp z))] at kX
      rw [if_neg (fun z => hk ((mu_i k (by omega)).1.mp z))] at kM
      have hi := item_cmp hN hn hb h hk hw hp hT num'
      rcases hi with ⟨s', hs', ⟨pl, tk', nm, w', p', u', e', m', c', al', k', wt', hX⟩, at', st', tk2, val', f', hM⟩ | ⟨a', st', tk', nm, w', p', e', m', c', al', k', wt', s2, e2, k2, v2, L2, val2, f', ha1, ha2, hX, hM, h2, hT2⟩
      · rw [hX, gm_bind_s] at kX
        dsimp only at kX
        rw [if_pos rfl] at kX
        rw [hM, gm_bind_s] at kM
        dsimp only at kM
        obtain ⟨M3, rfl⟩ : ∃ M, M2 = M + 1 := ⟨M2 - 1, by omega⟩
        have kM2 := (end_f (N := N) (n := n) (tx := tx) (t := t) (g := g) (f := f') (at' := at') (st := st') (tk := tk2) (x1 := it + 1) (fa := nI s') (val := val') (nI_nm1 (by omega)) (r := gm_fix (fX11_read_b79_body N t (nI n) g tx) zM M3)).symm.trans kM
        subst kX kM2
        exact Or.inl ⟨s', hs', ⟨_, _, _, _, _, _, _, _, _, _, _, _, _, _, _, _, rfl⟩, _, _, _, _, _, _, rfl⟩
      · rw [hX, gm_bind_s] at kX
        dsimp only at kX
        rw [if_neg (by decide), gm_let_s, nI_1] at kX
        rw [hM, gm_bind_s] at kM
        dsimp only at kM
        rw [← kX, ← kM]
        exact ih (n - a') (by omega) a' (by omega) M1 M2 (j + 1) (by omega) (by omega) (by omega) s2 e2 k2 v2 L2 val2 h2 w' p' e' m' c' al' k' wt' f' hT2 (it + 1) st' tk' nm
end RD3
section RD4
variable {N n : Nat} {by' tx : Nat → Int32} {tv : Nat → Nat}
theorem s_Mzero (hN : 3000 ≤ N) (t sz at' st tk : Int32) (val : Int64) (fa : Int32) (g f : Nat → Int32) : ∃ f0 : Nat → Int32, fX11_read_b7 N t sz at' st tk val fa g tx f 0 = fX11_read_b26 N t sz at' st tk val fa g f0 tx ∧ ∀ j, j < 73 → f0 j = 0 := by
  unfold fX11_read_b7
  refine fx2 (fun d (y : Nat → Int32) (z : Int32) => ∃ i, i + d = 73 ∧ z = nI i ∧ ∀ j, j < i → y j = 0) (fun o => ∃ f0 : Nat → Int32, o = fX11_read_b26 N t sz at' st tk val fa g f0 tx ∧ ∀ j, j < 73 → f0 j = 0) ?_ N 73 _ _ (by omega) ⟨0, by omega, rfl, fun j hj => absurd hj (Nat.not_lt_zero j)⟩
  intro r d y z hI hr
  obtain ⟨i, hi, rfl, hj⟩ := hI
  unfold fX11_read_b7_body
  rcases Nat.eq_zero_or_pos d with h0 | h0
  · rw [hl_end (K := 73) (n := 73) rfl (by omega) (by omega)]
    exact ⟨_, rfl, fun j h => hj j (by omega)⟩
  · rw [hl_go (K := 73) (n := 73) rfl (by omega) (by omega), gm_chk_n (by omega) (by decide), cl_n (by omega)]
    refine hr _ _ (d - 1) (by omega) ⟨i + 1, by omega, nI_1 i, fun j h => ?_⟩
    by_cases q : j = i
    · rw [q, upd_s]
    · rw [upd_n q]; exact hj j (by omega)
theorem end_F (hN : 3000 ≤ N) {t : Int32} {g f : Nat → Int32} {at' st tk x1 fa : Int32} {val : Int64} (hf : ¬ fa = -1) : fX11_read_b79 N t (nI n) g tx at' st tk val fa f x1 = some (-10 - fa, t, at', st, tk, val, fa, g, f) := by
  unfold fX11_read_b79
  have hfix : ∀ (F : (Int32 → Int32 → Int32 → Int64 → Int32 → (Nat → Int32) → Int32 → Option (Int32 × Int32 × Int32 × Int32 × Int32 × Int64 × Int32 × (Nat → Int32) × (Nat → Int32))) → (Int32 → Int32 → Int32 → Int64 → Int32 → (Nat → Int32) → Int32 → Option (Int32 × Int32 × Int32 × Int32 × Int32 × Int64 × Int32 × (Nat → Int32) × (Nat → Int32)))) z, gm_fix F z N = F (gm_fix F z (N - 1)) := by
    intro F z
    obtain ⟨M, rfl⟩ : ∃ M, N = M + 1 := ⟨N - 1, by omega⟩
    rfl
  rw [hfix]
  exact end_f hf
set_option maxHeartbeats 2000000 in
theorem parse_cmp (hN : 3000 ≤ N) (hn : n ≤ 150) (hb : ∀ j, j < n → by' j = nI (tv j) ∧ tx j = nI (tv j) ∧ tv j < 128) {g f en m c al kd wt sa hw' ha : Nat → Int32} {it pl st tk num words people said undos heard th at' st' tk' fa : Int32} {val : Int64} : RdL n 0 g sa hw' ha (fX6_parseInto N (nI n) it pl st tk num by' words people said undos heard en m c al kd wt) (fX11_read N th (nI n) at' st' tk' val fa g f tx) := by
  obtain ⟨al', hal, hal0⟩ := s_empty (N := N) (by omega) words people said undos heard al
  obtain ⟨f0, hf, hf0⟩ := s_Mzero (tx := tx) hN 0 (nI n) at' st' tk' val fa g f
  have hT : RT 0 0 0 0 0 en m c al' kd wt sa hw' ha f0 := RT_0 hal0 hf0
  obtain ⟨s1, e1, k1, v1, L1, val1, t1⟩ := tok hN hn hb (a := 0) (by omega)
  obtain ⟨s2, e2, k2, v2, L2, val2, t2⟩ := tok hN hn hb (a := e1) t1.1.2.2.1
  obtain ⟨s3, e3, k3, v3, L3, val3, t3⟩ := tok hN hn hb (a := e2) t2.1.2.2.1
  have b1 := t1.1
  have b2 := t2.1
  obtain ⟨rX, kX⟩ : ∃ r, fX6_parseInto N (nI n) it pl st tk num by' words people said undos heard en m c al kd wt = r := ⟨_, rfl⟩
  obtain ⟨rM, kM⟩ : ∃ r, fX11_read N th (nI n) at' st' tk' val fa g f tx = r := ⟨_, rfl⟩
  rw [kX, kM]
  unfold fX6_parseInto at kX
  unfold fX11_read at kM
  obtain ⟨num', ht, _⟩ := t1.2.1 st tk num
  have ht' : fX6_take N (nI n) 0 st tk num by' = some (nI e1, nI s1, nI k1, num') := ht
  have hm' : fX11_next N (nI n) 0 st' tk' val tx = some (nI e1, nI s1, mu k1, val1) := t1.2.2.1 st' tk' val
  rw [hal, gm_bind_s, ht', gm_bind_s] at kX
  dsimp only at kX
  rw [t1.2.2.2.2.2 0 (by decide), gm_bind_s] at kX
  rw [hf] at kM
  unfold fX11_read_b26 at kM
  rw [hm', gm_bind_s] at kM
  dsimp only at kM
  have z1 : ¬ nI s1 = -1 := nI_nm1 (by omega)
  have z2 : ¬ nI s2 = -1 := nI_nm1 (by omega)
  have hbad : (decide (k1 = 1) && L1 0) = false → RdL n 0 g sa hw' ha rX rM := by
    intro hq
    rw [hq, if_pos (by decide)] at kX
    have hM : fX11_read_b61 N 0 (nI n) (nI e1) (nI s1) (mu k1) val1 (-1) g f0 tx 0 = some (-10 - nI s1, 0, nI e1, nI s1, mu k1, val1, nI s1, g, f0) := by
      unfold fX11_read_b61
      rw [s_faultH t1, gm_bind_s]
      exact end_F hN z1
    have kM2 : rM = some (-10 - nI s1, 0, nI e1, nI s1, mu k1, val1, nI s1, g, f0) := by
      rw [← kM]
      by_cases q1 : k1 = 1
      · rw [if_pos ((mu_i k1 (by omega)).2.1.mpr q1), if_neg (fun z => by
          have := (t1.2.2.2.2.1 q1 0 (by decide)).mp (lgc_0.mp z)
          rw [decide_eq_true q1, this] at hq
          exact absurd hq (by decide))]
        exact hM
      · rw [if_neg (fun z => q1 ((mu_i k1 (by omega)).2.1.mp z))]
        exact hM
    subst kX kM2
    exact Or.inl ⟨s1, by omega, ⟨_, _, _, _, _, _, _, _, _, _, _, _, _, _, _, _, rfl⟩, _, _, _, _, _, _, rfl⟩
  cases hq : (decide (k1 = 1) && L1 0) with
  | false => exact hbad hq
  | true =>
    rw [Bool.and_eq_true] at hq
    have q1 : k1 = 1 := of_decide_eq_true hq.1
    rw [decide_eq_true q1, hq.2, if_neg (by decide)] at kX
    rw [if_pos ((mu_i k1 (by omega)).2.1.mpr q1), if_pos (show lg_cmp val1 295230992 = 0 from lgc_0.mpr ((t1.2.2.2.2.1 q1 0 (by decide)).mpr hq.2)), t2.2.2.1, gm_bind_s] at kM
    dsimp only at kM
    by_cases q2 : k2 = 3
    · obtain ⟨nm, hst⟩ := stop_ok t2 q2 (nI s1) (nI k1) num'
      rw [hst, gm_bind_s] at kX
      dsimp only at kX
      rw [if_neg (by decide)] at kX
      rw [sign_ok t2 t3 q2, gm_bind_s] at kM
      dsimp only at kM
      rw [← kX, ← kM]
      exact items_cmp hN hn hb (n - e2) e2 (by omega) N N 0 (by omega) (by omega) (by omega) s3 e3 k3 v3 L3 val3 t3 0 0 en m c al' kd wt f0 hT 1 (nI s2) (nI 3) nm
    · obtain ⟨nm, hst⟩ := stop_no t2 q2 (nI s1) (nI k1) num'
      rw [hst, gm_bind_s] at kX
      dsimp only at kX
      rw [if_pos rfl] at kX
      rw [sign_no t2 q2, gm_bind_s] at kM
      dsimp only at kM
      rw [end_F hN z2] at kM
      subst kX kM
      exact Or.inl ⟨s2, by omega, ⟨_, _, _, _, _, _, _, _, _, _, _, _, _, _, _, _, rfl⟩, _, _, _, _, _, _, rfl⟩
end RD4
set_option maxHeartbeats 4000000 in
theorem sim_read {N : Nat} (hN : 3000 ≤ N) : S_read N gm_R := by
  intro m_imagesKept m_bads m_nos m_fulls m_above m_below m_now_words m_now_people m_now_said m_now_undos m_now_heard m_now_ending m_now_meaning m_now_cost m_now_alikeTo m_now_kind m_now_want m_now_saidAhead m_now_heardWord m_now_heardAnswer m_draft_words m_draft_people m_draft_said m_draft_undos m_draft_heard m_draft_ending m_draft_meaning m_draft_cost m_draft_alikeTo m_draft_kind m_draft_want m_draft_saidAhead m_draft_heardWord m_draft_heardAnswer m_images_0_words m_images_0_people m_images_0_said m_images_0_undos m_images_0_heard m_images_0_ending m_images_0_meaning m_images_0_cost m_images_0_alikeTo m_images_0_kind m_images_0_want m_images_0_saidAhead m_images_0_heardWord m_images_0_heardAnswer m_images_1_words m_images_1_people m_images_1_said m_images_1_undos m_images_1_heard m_images_1_ending m_images_1_meaning m_images_1_cost m_images_1_alikeTo m_images_1_kind m_images_1_want m_images_1_saidAhead m_images_1_heardWord m_images_1_heardAnswer m_text_length m_text_items m_text_place m_text_start m_text_token m_text_number m_text_bytes m_duel_words m_duel_saidAtFirst m_duel_asked m_duel_longest m_duel_shortest m_duel_chimesOfFirst m_duel_chimesOfSecond m_duel_lasts m_cover_sayable m_cover_price m_cover_covered m_cover_spent m_clashes m_tally m_sayableByPair m_chosenPairs n_thrown n_size n_at n_start n_token n_value n_faultAt n_allowed n_firstPair n_secondPair n_above n_below n_refused n_tongue n_fresh n_kept n_isKept n_text n_said n_talk hR _
  obtain ⟨hT, hX, hF, hA, hI, hC⟩ := hR
  obtain ⟨n, hn, e1, e2, hb⟩ := id hX
  have hb2 : ∀ j, j < n → m_text_bytes j = nI (m_text_bytes j).toNatClampNeg ∧ n_text j = nI (m_text_bytes j).toNatClampNeg ∧ (m_text_bytes j).toNatClampNeg < 128 := by
    intro j hj
    obtain ⟨h1, v, hv, h2⟩ := hb j hj
    rw [← h1, h2, cl_n (by omega)]
    exact ⟨rfl, rfl, hv⟩
  have hp := parse_cmp (N := N) (n := n) (by' := m_text_bytes) (tx := n_text) (tv := fun j => (m_text_bytes j).toNatClampNeg) (g := n_tongue) (f := n_fresh) (en := m_draft_ending) (m := m_draft_meaning) (c := m_draft_cost) (al := m_draft_alikeTo) (kd := m_draft_kind) (wt := m_draft_want) (sa := m_draft_saidAhead) (hw' := m_draft_heardWord) (ha := m_draft_heardAnswer) (it := m_text_items) (pl := m_text_place) (st := m_text_start) (tk := m_text_token) (num := m_text_number) (words := m_draft_words) (people := m_draft_people) (said := m_draft_said) (undos := m_draft_undos) (heard := m_draft_heard) (th := n_thrown) (at' := n_at) (st' := n_start) (tk' := n_token) (fa := n_faultAt) (val := n_value) hN hn hb2
  rcases hp with ⟨s', hs', ⟨it, pl, tk, num, st, w', p', sd, u', hd, e', m', c', al', k', wt', hPX⟩, at', st', tk', val', fa, f', hPM⟩ | ⟨it, pl, tk, num, st, w', p', e', m', c', al', k', wt', at', st', tk', val', fa, g', f', hPX, hPM, hRT, hg⟩
  · rw [← e1] at hPX
    rw [← e2] at hPM
    have z : ¬ nI s' = -1 := nI_nm1 (by omega)
    obtain ⟨rX, kX⟩ : ∃ r, fX10_read N m_now_words m_now_people m_now_said m_now_undos m_now_heard m_now_ending m_now_meaning m_now_cost m_now_alikeTo m_now_kind m_now_want m_now_saidAhead m_now_heardWord m_now_heardAnswer m_draft_words m_draft_people m_draft_said m_draft_undos m_draft_heard m_draft_ending m_draft_meaning m_draft_cost m_draft_alikeTo m_draft_kind m_draft_want m_draft_saidAhead m_draft_heardWord m_draft_heardAnswer m_text_length m_text_items m_text_place m_text_start m_text_token m_text_number m_text_bytes = r := ⟨_, rfl⟩
    have kX0 := kX
    unfold fX10_read at kX
    rw [hPX, gm_bind_s] at kX
    dsimp only at kX
    rw [if_neg z] at kX
    rw [← kX] at kX0
    exact ⟨_, _, kX0, hPM, rfl, hT, hX, hF, hA, hI, hC⟩
  · rw [← e1] at hPX
    rw [← e2] at hPM
    obtain ⟨rX, kX⟩ : ∃ r, fX10_read N m_now_words m_now_people m_now_said m_now_undos m_now_heard m_now_ending m_now_meaning m_now_cost m_now_alikeTo m_now_kind m_now_want m_now_saidAhead m_now_heardWord m_now_heardAnswer m_draft_words m_draft_people m_draft_said m_draft_undos m_draft_heard m_draft_ending m_draft_meaning m_draft_cost m_draft_alikeTo m_draft_kind m_draft_want m_draft_saidAhead m_draft_heardWord m_draft_heardAnswer m_text_length m_text_items m_text_place m_text_start m_text_token m_text_number m_text_bytes = r := ⟨_, rfl⟩
    have kX0 := kX
    unfold fX10_read at kX
    rw [hPX, gm_bind_s] at kX
    dsimp only at kX
    rw [if_pos rfl] at kX
    unfold fX9_copyFrom at kX
    rw [gm_bind_s] at kX
    dsimp only at kX
    rw [← kX] at kX0
    exact ⟨_, _, kX0, hPM, rfl, RT_cpy hRT hg, hX, hF, hA, hI, hC⟩
