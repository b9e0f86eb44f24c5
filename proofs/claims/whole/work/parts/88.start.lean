theorem gm_R0 : gm_R 0 0 0 0 0 1 0 0 0 0 0 (fun _ => 0) (fun _ => 0) (fun _ => 0) (fun _ => 0) (fun _ => 0) (fun _ => 0) (fun _ => 0) (fun _ => 0) (fun _ => 0) 0 0 0 0 0 (fun _ => 0) (fun _ => 0) (fun _ => 0) (fun _ => 0) (fun _ => 0) (fun _ => 0) (fun _ => 0) (fun _ => 0) (fun _ => 0) 0 0 0 0 0 (fun _ => 0) (fun _ => 0) (fun _ => 0) (fun _ => 0) (fun _ => 0) (fun _ => 0) (fun _ => 0) (fun _ => 0) (fun _ => 0) 0 0 0 0 0 (fun _ => 0) (fun _ => 0) (fun _ => 0) (fun _ => 0) (fun _ => 0) (fun _ => 0) (fun _ => 0) (fun _ => 0) (fun _ => 0) 0 0 0 0 0 0 (fun _ => 0) 0 0 0 0 0 (fun _ => 0) (fun _ => 0) (fun _ => 0) (fun _ => 0) (fun _ => 0) (fun _ => 0) (fun _ => 0) (fun _ => 0) (fun _ => 0) (fun _ => 0) (fun _ => 0) 0 0 0 0 0 0 0 0 0 0 0 1 (fun _ => 0) (fun _ => 0) (fun _ => 0) (fun _ => 0) (fun _ => 0) (fun _ => 0) (fun _ => 0) (fun _ => 0) := ⟨RT_0 (fun _ _ => rfl) (fun _ _ => rfl), ⟨0, by omega, rfl, rfl, fun j hj => absurd hj (Nat.not_lt_zero j)⟩, ⟨rfl, rfl, rfl⟩, ⟨rfl, rfl⟩, ⟨false, false, by decide, rfl, rfl, fun h => absurd h (by decide), fun h => absurd h (by decide)⟩, rfl, rfl⟩
theorem gm_all : S_all 3000 gm_R := ⟨sim_tongue (Nat.le_refl _), sim_word (Nat.le_refl _), sim_alike (Nat.le_refl _), sim_person (Nat.le_refl _), sim_type (Nat.le_refl _), sim_clear (Nat.le_refl _), sim_read (Nat.le_refl _), sim_ask (Nat.le_refl _), sim_rest (Nat.le_refl _), sim_undo (Nat.le_refl _), sim_of (Nat.le_refl _), sim_about (Nat.le_refl _), sim_answers (Nat.le_refl _), sim_asks (Nat.le_refl _), sim_fewest (Nat.le_refl _), sim_errand (Nat.le_refl _), sim_hear (Nat.le_refl _), sim_forget (Nat.le_refl _), sim_wants (Nat.le_refl _), sim_next (Nat.le_refl _), sim_two (Nat.le_refl _), sim_will (Nat.le_refl _), sim_worst (Nat.le_refl _), sim_allow (Nat.le_refl _), sim_misheard (Nat.le_refl _), sim_talks (Nat.le_refl _), sim_part (Nat.le_refl _), sim_image (Nat.le_refl _), sim_from (Nat.le_refl _), sim_status (Nat.le_refl _), sim_count (Nat.le_refl _), sim_digest (Nat.le_refl _)⟩
theorem gm_cls {s : State} {b : Nat} (hts : ∀ w ∈ lw_tbl, w.before #[Value.ref b] s = true) : ∃ (dC : Nat → ClassId) (dI : Nat → Nat → Nat), va_K (dC, dI) vwCl [] s := by
  obtain ⟨c0, i0, k0⟩ := u_known (C := RX0) (T := TX0) (N := 0) (n := 0) hts inX0 (gm_tb hts 222 (by decide +kernel))
  obtain ⟨c1, i1, k1⟩ := u_known (C := RX1) (T := TX1) (N := 4) (n := 4) hts inX1 (gm_tb hts 165 (by decide +kernel))
  obtain ⟨c2, i2, k2⟩ := u_known (C := RX2) (T := TX2) (N := 8) (n := 8) hts inX2 (gm_tb hts 130 (by decide +kernel))
  obtain ⟨c3, i3, k3⟩ := u_known (C := RX3) (T := TX3) (N := 0) (n := 0) hts inX3 (gm_tb hts 201 (by decide +kernel))
  obtain ⟨c4, i4, k4⟩ := u_known (C := RX4) (T := TX4) (N := 0) (n := 0) hts inX4 (gm_tb hts 194 (by decide +kernel))
  obtain ⟨c5, i5, k5⟩ := u_known (C := RX5) (T := TX5) (N := 0) (n := 0) hts inX5 (gm_tb hts 215 (by decide +kernel))
  obtain ⟨c6, i6, k6⟩ := u_known (C := RX6) (T := TX6) (N := 7) (n := 7) hts inX6 (gm_tb hts 100 (by decide +kernel))
  obtain ⟨c7, i7, k7⟩ := u_known (C := RX7) (T := TX7) (N := 0) (n := 0) hts inX7 (gm_tb hts 187 (by decide +kernel))
  obtain ⟨c8, i8, k8⟩ := u_known (C := RX8) (T := TX8) (N := 0) (n := 0) hts inX8 (gm_tb hts 208 (by decide +kernel))
  obtain ⟨c9, i9, k9⟩ := u_known (C := RX9) (T := TX9) (N := 14) (n := 14) hts inX9 (gm_tb hts 29 (by decide +kernel))
  obtain ⟨c10, i10, k10⟩ := u_known (C := RX10) (T := TX10) (N := 17) (n := 17) hts inX10 (gm_tb hts 21 (by decide +kernel))
  obtain ⟨c11, i11, k11⟩ := u_known (C := RX11) (T := TX11) (N := 20) (n := 20) hts inX11 (gm_tb hts 733 (by decide +kernel))
  refine ⟨fun k => ([c0, c1, c2, c3, c4, c5, c6, c7, c8, c9, c10, c11] : List ClassId).getD k c0, fun k => ([i0, i1, i2, i3, i4, i5, i6, i7, i8, i9, i10, i11] : List (Nat → Nat)).getD k i0, fun k q hq => ?_, fun k q hk => by simp at hk⟩
  have hk12 : k < 12 := (List.getElem?_eq_some_iff.mp hq).1
  rcases (show k = 0 ∨ k = 1 ∨ k = 2 ∨ k = 3 ∨ k = 4 ∨ k = 5 ∨ k = 6 ∨ k = 7 ∨ k = 8 ∨ k = 9 ∨ k = 10 ∨ k = 11 by omega) with rfl | rfl | rfl | rfl | rfl | rfl | rfl | rfl | rfl | rfl | rfl | rfl
  · obtain rfl := Option.some.inj hq
    exact k0
  · obtain rfl := Option.some.inj hq
    exact k1
  · obtain rfl := Option.some.inj hq
    exact k2
  · obtain rfl := Option.some.inj hq
    exact k3
  · obtain rfl := Option.some.inj hq
    exact k4
  · obtain rfl := Option.some.inj hq
    exact k5
  · obtain rfl := Option.some.inj hq
    exact k6
  · obtain rfl := Option.some.inj hq
    exact k7
  · obtain rfl := Option.some.inj hq
    exact k8
  · obtain rfl := Option.some.inj hq
    exact k9
  · obtain rfl := Option.some.inj hq
    exact k10
  · obtain rfl := Option.some.inj hq
    exact k11
set_option maxRecDepth 100000 in
set_option maxHeartbeats 8000000 in
/-- from the entry, for every script of at most 2560 ints, the law comes to its end with true -/
theorem whole_start {p : Program} {e : Env} {s : State} {m : MethodId} {below : List Frame} {meth : Method} {c : Code} (l : Launch) {b L : Nat} {xs : Nat → Int32} (hL : L ≤ 2560) (C0 : lw_At p s m meth c b L xs) : W p l e room_1 s m #[Value.ref b] below meth c s.heap [] 0 0 (lw_Z below #[Value.ref b] s) (entryFrame m ([Value.ref b] : List Value).toArray 4) := by
  obtain ⟨hx, hb, hr, hml, hown0, hts, hXs, hbl, hlocks, hgv⟩ := id C0
  have hown : s.vm.findClass RL = some m.cls := hown0
  have htl : ∀ w ∈ wsL_law, w.before #[Value.ref b] s = true := fun w h => hts w (wsL_law_in w h)
  have hA : ∀ q : Nat, s.heap.size ≤ q → (fun q : Nat => s.heap.size ≤ q) q := fun _ h => h
  obtain ⟨tP, adK, adV, hXL⟩ := gm_facts hts hgv
  obtain ⟨dC, dI, hK⟩ := gm_cls hts
  have hP : va_P (dC, dI) vwCl [] s.heap := fun k q h => by simp at h
  have hD : va_D (fun q : Nat => s.heap.size ≤ q) [] := ⟨fun i j p q h => by simp at h, fun k q h => by simp at h⟩
  have hS : va_S (fun q : Nat => s.heap.size ≤ q) s.heap s.heap [] := va_S.rf
  have hl := lv_entry ([.ref b]) (n := 4) (Nat.le_of_ble_eq_true rfl)
  rw [lg_entry_eq]
  generalize (lg_sl ([.ref b]) ++ List.replicate (4 - (lg_sl ([.ref b])).length) Slot.unset).toArray = ls at hl ⊢
  have hl : lv_has ls 4 [(0, .ref b)] := hl
  refine va_new (ci := 10) (fs := [.null, .null, .null, .int 0, .null, .null, .null, .null, .int 0, .int 0, .int 0, .long 0, .long 0, .null, .null, .null, .null]) (C := RX10) (T := TX10) (N := 17) hx hb hts inX10 tyX10 tyX10_ok hown (gm_tb hts 20 (by decide +kernel)) (gm_tb hts 21 (by decide +kernel)) (gm_tb hts 1 (by decide +kernel)) hK hP hD hS hA rfl (fun j hj => by rcases (show j = 0 ∨ j = 1 ∨ j = 2 ∨ j = 3 ∨ j = 4 ∨ j = 5 ∨ j = 6 ∨ j = 7 ∨ j = 8 ∨ j = 9 ∨ j = 10 ∨ j = 11 ∨ j = 12 ∨ j = 13 ∨ j = 14 ∨ j = 15 ∨ j = 16 by omega) with rfl | rfl | rfl | rfl | rfl | rfl | rfl | rfl | rfl | rfl | rfl | rfl | rfl | rfl | rfl | rfl | rfl <;> rfl) (show 0 + 1 ≤ 600000 by decide +kernel) (show 0 + 17 ≤ 7302249 by decide +kernel) dL_law_0 (fun q H hP hD hS => ?_)
  refine W.widen (k := 1) (n := 17) (by decide +kernel) (by decide +kernel) ?_
  have hP : va_P (dC, dI) vwCl [(q, .inr (10, [.null, .null, .null, .int 0, .null, .null, .null, .null, .int 0, .int 0, .int 0, .long 0, .long 0, .null, .null, .null, .null]))] H := hP
  have hD : va_D (fun q : Nat => s.heap.size ≤ q) [(q, .inr (10, [.null, .null, .null, .int 0, .null, .null, .null, .null, .int 0, .int 0, .int 0, .long 0, .long 0, .null, .null, .null, .null]))] := hD
  refine lv_dup hx hb dL_law_3 rfl ?_
  have hFc := va_free (wc := [(q, .inr (10, [.null, .null, .null, .int 0, .null, .null, .null, .null, .int 0, .int 0, .int 0, .long 0, .long 0, .null, .null, .null, .null]))]) hD hS hA [0] rfl
  have C1 : gm_C p s m #[Value.ref b] meth c (dC, dI) [] (fun q : Nat => s.heap.size ≤ q) (gm_XL tP adK adV) RL cL_law 4 ret wsL_law := ⟨hx, hb, hml, hr, hown, htl, hA, hK, hXL, hlocks⟩
  refine va_callv (va_runI (As := []) (rest := [.ref q]) ⟨hx, hb, hml, hown, htl⟩ (iX10 l dC dI q H.size tP) (cwI 0 htl gL_law_X10_init rfl rfl rfl (gm_tb hts 1 (by decide +kernel)) (gm_tb hts 22 (by decide +kernel)) (gm_tb hts 23 (by decide +kernel)) rfl (by decide +kernel) ⟨Nat.le_of_ble_eq_true rfl, Nat.le_of_ble_eq_true rfl⟩) ⟨gm_Pc_blind (gm_XI_ok tP), fun U hU hW => gm_pre C1 ⟨hP, hD, hS⟩ [0] rfl rfl [] rfl (gm_XI_ok tP) (fun h => h.1) U hU hW⟩ rfl rfl hl.1 rfl (lv_room (Nat.le_of_ble_eq_true rfl)) dL_law_4 ⟨(show 1 + 63 ≤ 600000 by decide +kernel), (show 17 + 3668 ≤ 7302249 by decide +kernel)⟩) hS (fun q _ h => hFc q h) hFc (fun u t H1 locs ht hvm hw hB hz1 hk1 hS => ?_)
  obtain ⟨cI, cT, cR, q_now, q_now_ending, q_now_meaning, q_now_cost, q_now_alikeTo, q_now_kind, q_now_want, q_now_saidAhead, q_now_heardWord, q_now_heardAnswer, q_draft, q_draft_ending, q_draft_meaning, q_draft_cost, q_draft_alikeTo, q_draft_kind, q_draft_want, q_draft_saidAhead, q_draft_heardWord, q_draft_heardAnswer, q_images, q_images_0, q_images_0_ending, q_images_0_meaning, q_images_0_cost, q_images_0_alikeTo, q_images_0_kind, q_images_0_want, q_images_0_saidAhead, q_images_0_heardWord, q_images_0_heardAnswer, q_images_1, q_images_1_ending, q_images_1_meaning, q_images_1_cost, q_images_1_alikeTo, q_images_1_kind, q_images_1_want, q_images_1_saidAhead, q_images_1_heardWord, q_images_1_heardAnswer, q_kinds, q_kinds_0, q_kinds_1, q_kinds_2, q_kinds_3, q_kinds_4, q_kinds_5, q_text, q_text_bytes, q_duel, q_duel_chimesOfFirst, q_duel_chimesOfSecond, q_duel_lasts, q_cover, q_cover_sayable, q_cover_price, q_cover_covered, q_cover_spent, q_clashes, q_tally, q_sayableByPair, q_chosenPairs, hP1, hK1, hD1⟩ := hB
  rw [ht] at hP1
  have hK1 := va_K.moved hvm.symm hK1
  obtain ⟨hP, hD⟩ := gm_joinH (x := (q, .inr (10, [.null, .null, .null, .int 0, .null, .null, .null, .null, .int 0, .int 0, .int 0, .long 0, .long 0, .null, .null, .null, .null]))) (R := []) (w1 := (wXALL cI cT cR q q_now q_now_ending q_now_meaning q_now_cost q_now_alikeTo q_now_kind q_now_want q_now_saidAhead q_now_heardWord q_now_heardAnswer q_draft q_draft_ending q_draft_meaning q_draft_cost q_draft_alikeTo q_draft_kind q_draft_want q_draft_saidAhead q_draft_heardWord q_draft_heardAnswer q_images q_images_0 q_images_0_ending q_images_0_meaning q_images_0_cost q_images_0_alikeTo q_images_0_kind q_images_0_want q_images_0_saidAhead q_images_0_heardWord q_images_0_heardAnswer q_images_1 q_images_1_ending q_images_1_meaning q_images_1_cost q_images_1_alikeTo q_images_1_kind q_images_1_want q_images_1_saidAhead q_images_1_heardWord q_images_1_heardAnswer q_kinds q_kinds_0 q_kinds_1 q_kinds_2 q_kinds_3 q_kinds_4 q_kinds_5 q_text q_text_bytes q_duel q_duel_chimesOfFirst q_duel_chimesOfSecond q_duel_lasts q_cover q_cover_sayable q_cover_price q_cover_covered q_cover_spent q_clashes q_tally q_sayableByPair q_chosenPairs 0 0 0 0 0 1 0 0 0 0 0 (fun _ => 0) (fun _ => 0) (fun _ => 0) (fun _ => 0) (fun _ => 0) (fun _ => 0) (fun _ => 0) (fun _ => 0) (fun _ => 0) 0 0 0 0 0 (fun _ => 0) (fun _ => 0) (fun _ => 0) (fun _ => 0) (fun _ => 0) (fun _ => 0) (fun _ => 0) (fun _ => 0) (fun _ => 0) 0 0 0 0 0 (fun _ => 0) (fun _ => 0) (fun _ => 0) (fun _ => 0) (fun _ => 0) (fun _ => 0) (fun _ => 0) (fun _ => 0) (fun _ => 0) 0 0 0 0 0 (fun _ => 0) (fun _ => 0) (fun _ => 0) (fun _ => 0) (fun _ => 0) (fun _ => 0) (fun _ => 0) (fun _ => 0) (fun _ => 0) 0 0 0 0 0 0 (fun _ => 0) 0 0 0 0 0 (fun _ => 0) (fun _ => 0) (fun _ => 0) (fun _ => 0) (fun _ => 0) (fun _ => 0) (fun _ => 0) (fun _ => 0) (fun _ => 0) (fun _ => 0) (fun _ => 0))) hP hD hk1 hFc hP1 hD1
  have hK := hK.app hK1
  have hK : va_K (dC, dI) vwCl [(cI, .int), (cT, .object "OnlyRhymes$Tongue"), (cR, .object "OnlyRhymes$Rhymer")] s := hK
  rw [List.append_nil] at hP hD
  refine W.widen (k := 64) (n := 3685) (by decide +kernel) (by decide +kernel) ?_
  refine lv_astore_n (lv' := [(1, .ref q), (0, .ref b)]) hx hb dL_law_7 rfl hl (by decide) rfl (fun ls hl => ?_)
  clear hP1 hD1 hk1 hFc
  generalize hZ : (wXALL cI cT cR q q_now q_now_ending q_now_meaning q_now_cost q_now_alikeTo q_now_kind q_now_want q_now_saidAhead q_now_heardWord q_now_heardAnswer q_draft q_draft_ending q_draft_meaning q_draft_cost q_draft_alikeTo q_draft_kind q_draft_want q_draft_saidAhead q_draft_heardWord q_draft_heardAnswer q_images q_images_0 q_images_0_ending q_images_0_meaning q_images_0_cost q_images_0_alikeTo q_images_0_kind q_images_0_want q_images_0_saidAhead q_images_0_heardWord q_images_0_heardAnswer q_images_1 q_images_1_ending q_images_1_meaning q_images_1_cost q_images_1_alikeTo q_images_1_kind q_images_1_want q_images_1_saidAhead q_images_1_heardWord q_images_1_heardAnswer q_kinds q_kinds_0 q_kinds_1 q_kinds_2 q_kinds_3 q_kinds_4 q_kinds_5 q_text q_text_bytes q_duel q_duel_chimesOfFirst q_duel_chimesOfSecond q_duel_lasts q_cover q_cover_sayable q_cover_price q_cover_covered q_cover_spent q_clashes q_tally q_sayableByPair q_chosenPairs 0 0 0 0 0 1 0 0 0 0 0 (fun _ => 0) (fun _ => 0) (fun _ => 0) (fun _ => 0) (fun _ => 0) (fun _ => 0) (fun _ => 0) (fun _ => 0) (fun _ => 0) 0 0 0 0 0 (fun _ => 0) (fun _ => 0) (fun _ => 0) (fun _ => 0) (fun _ => 0) (fun _ => 0) (fun _ => 0) (fun _ => 0) (fun _ => 0) 0 0 0 0 0 (fun _ => 0) (fun _ => 0) (fun _ => 0) (fun _ => 0) (fun _ => 0) (fun _ => 0) (fun _ => 0) (fun _ => 0) (fun _ => 0) 0 0 0 0 0 (fun _ => 0) (fun _ => 0) (fun _ => 0) (fun _ => 0) (fun _ => 0) (fun _ => 0) (fun _ => 0) (fun _ => 0) (fun _ => 0) 0 0 0 0 0 0 (fun _ => 0) 0 0 0 0 0 (fun _ => 0) (fun _ => 0) (fun _ => 0) (fun _ => 0) (fun _ => 0) (fun _ => 0) (fun _ => 0) (fun _ => 0) (fun _ => 0) (fun _ => 0) (fun _ => 0)) = Z at hP hD
  refine va_new (ci := 11) (fs := [.int 0, .null, .null, .null, .null, .null, .null, .int 0, .int 0, .int 0, .int 0, .long 0, .int 0, .null, .null, .int 0, .int 0, .int 0, .long 0, .long 0]) (C := RX11) (T := TX11) (N := 20) hx hb hts inX11 tyX11 tyX11_ok hown (gm_tb hts 732 (by decide +kernel)) (gm_tb hts 733 (by decide +kernel)) (gm_tb hts 12 (by decide +kernel)) hK hP hD hS hA rfl (fun j hj => by rcases (show j = 0 ∨ j = 1 ∨ j = 2 ∨ j = 3 ∨ j = 4 ∨ j = 5 ∨ j = 6 ∨ j = 7 ∨ j = 8 ∨ j = 9 ∨ j = 10 ∨ j = 11 ∨ j = 12 ∨ j = 13 ∨ j = 14 ∨ j = 15 ∨ j = 16 ∨ j = 17 ∨ j = 18 ∨ j = 19 by omega) with rfl | rfl | rfl | rfl | rfl | rfl | rfl | rfl | rfl | rfl | rfl | rfl | rfl | rfl | rfl | rfl | rfl | rfl | rfl | rfl <;> rfl) (show 64 + 1 ≤ 600000 by decide +kernel) (show 3685 + 20 ≤ 7302249 by decide +kernel) dL_law_8 (fun pa H hP hD hS => ?_)
  refine W.widen (k := 65) (n := 3705) (by decide +kernel) (by decide +kernel) ?_
  obtain ⟨hP, hD⟩ := gm_rot _ _ hP hD
  refine lv_dup hx hb dL_law_11 rfl ?_
  have hFc := va_free (wc := [(pa, .inr (11, [.int 0, .null, .null, .null, .null, .null, .null, .int 0, .int 0, .int 0, .int 0, .long 0, .int 0, .null, .null, .int 0, .int 0, .int 0, .long 0, .long 0]))]) hD hS hA [0] rfl
  have C2 : gm_C p s m #[Value.ref b] meth c (dC, dI) [(cI, .int), (cT, .object "OnlyRhymes$Tongue"), (cR, .object "OnlyRhymes$Rhymer")] (fun q : Nat => s.heap.size ≤ q) (gm_XL tP adK adV) RL cL_law 4 ret wsL_law := ⟨hx, hb, hml, hr, hown, htl, hA, hK, hXL, hlocks⟩
  refine va_callv (va_runI (As := []) (rest := [.ref pa]) ⟨hx, hb, hml, hown, htl⟩ (iX11 l dC dI pa H.size) (cwI 0 htl gL_law_X11_init rfl rfl rfl (gm_tb hts 12 (by decide +kernel)) (gm_tb hts 734 (by decide +kernel)) (gm_tb hts 735 (by decide +kernel)) rfl (by decide +kernel) ⟨Nat.le_of_ble_eq_true rfl, Nat.le_of_ble_eq_true rfl⟩) ⟨gm_Pc_blind gm_N_ok, fun U hU hW => gm_pre C2 ⟨hP, hD, hS⟩ [0] rfl rfl [] rfl gm_N_ok (fun h => h.1.2) U hU hW⟩ rfl rfl hl.1 rfl (lv_room (Nat.le_of_ble_eq_true rfl)) dL_law_12 ⟨(show 65 + 8 ≤ 600000 by decide +kernel), (show 3705 + 20937 ≤ 7302249 by decide +kernel)⟩) hS (fun q _ h => hFc q h) hFc (fun u t H1 locs ht hvm hw hB hz1 hk1 hS => ?_)
  obtain ⟨dI0, dZ0, p_refused, p_tongue, p_fresh, p_kept, p_isKept, p_text, p_said, p_talk, hP1, hK1, hD1⟩ := hB
  rw [ht] at hP1
  have hK1 := va_K.moved hvm.symm hK1
  obtain ⟨hP, hD⟩ := gm_joinH (x := (pa, .inr (11, [.int 0, .null, .null, .null, .null, .null, .null, .int 0, .int 0, .int 0, .int 0, .long 0, .int 0, .null, .null, .int 0, .int 0, .int 0, .long 0, .long 0]))) (R := Z) (w1 := (wMALL dI0 dZ0 pa p_refused p_tongue p_fresh p_kept p_isKept p_text p_said p_talk 0 0 0 0 0 0 0 0 0 0 0 1 (fun _ => 0) (fun _ => 0) (fun _ => 0) (fun _ => 0) (fun _ => 0) (fun _ => 0) (fun _ => 0) (fun _ => 0))) hP hD hk1 hFc hP1 hD1
  have hK := hK.app hK1
  have hK : va_K (dC, dI) vwCl [(cI, .int), (cT, .object "OnlyRhymes$Tongue"), (cR, .object "OnlyRhymes$Rhymer"), (dI0, .int), (dZ0, .boolean)] s := hK
  obtain ⟨hP, hD⟩ := gm_rot _ _ hP hD
  refine W.widen (k := 600000) (n := 7302249) (by decide +kernel) (by decide +kernel) ?_
  refine lv_astore_n (lv' := [(2, .ref pa), (1, .ref q), (0, .ref b)]) hx hb dL_law_15 rfl hl (by decide) rfl (fun ls hl => ?_)
  refine lv_iconst (v := 0) hx hb dL_law_16 (by decide) ?_
  refine lv_istore_n (lv' := [(3, .int 0), (2, .ref pa), (1, .ref q), (0, .ref b)]) hx hb dL_law_17 rfl hl (by decide) rfl (fun ls hl => ?_)
  have hl := lv_sub (l' := [(0, .ref b), (1, .ref q), (2, .ref pa), (3, .int 0)]) hl [3, 2, 1, 0] rfl
  subst hZ
  exact law_loop gm_all hL C0 hK hXL (L + 6) 0 0 0 0 0 0 0 1 0 0 0 0 0 (fun _ => 0) (fun _ => 0) (fun _ => 0) (fun _ => 0) (fun _ => 0) (fun _ => 0) (fun _ => 0) (fun _ => 0) (fun _ => 0) 0 0 0 0 0 (fun _ => 0) (fun _ => 0) (fun _ => 0) (fun _ => 0) (fun _ => 0) (fun _ => 0) (fun _ => 0) (fun _ => 0) (fun _ => 0) 0 0 0 0 0 (fun _ => 0) (fun _ => 0) (fun _ => 0) (fun _ => 0) (fun _ => 0) (fun _ => 0) (fun _ => 0) (fun _ => 0) (fun _ => 0) 0 0 0 0 0 (fun _ => 0) (fun _ => 0) (fun _ => 0) (fun _ => 0) (fun _ => 0) (fun _ => 0) (fun _ => 0) (fun _ => 0) (fun _ => 0) 0 0 0 0 0 0 (fun _ => 0) 0 0 0 0 0 (fun _ => 0) (fun _ => 0) (fun _ => 0) (fun _ => 0) (fun _ => 0) (fun _ => 0) (fun _ => 0) (fun _ => 0) (fun _ => 0) (fun _ => 0) (fun _ => 0) 0 0 0 0 0 0 0 0 0 0 0 1 (fun _ => 0) (fun _ => 0) (fun _ => 0) (fun _ => 0) (fun _ => 0) (fun _ => 0) (fun _ => 0) (fun _ => 0) _ _ ls (by omega) (by omega) rfl gm_R0 ⟨hP, hD, hS⟩ hl
