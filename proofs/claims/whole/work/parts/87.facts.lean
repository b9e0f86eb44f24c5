/-! ===== what the tables and the start give ===== -/
theorem gm_tb {args : Array Value} {s : State} (hts : ∀ w ∈ lw_tbl, w.before args s = true) (i : Nat) {w : Cond} (h : tables_1[i]? = some w) : w.before args s = true := hts w (List.mem_append_right _ (List.mem_of_getElem? h))
def gm_tm (i : Nat) : Term := Term.string RX6 (([30, 53, 61, 66] : List Nat).getD i 0)
theorem gm_el : ∀ j : Nat, j < 28 → (Cond.eq (.elem (.static "OnlyRhymes" "PAIRS" "[I") (.int (Int32.ofNat j))) (.int (gm_pairs j))) ∈ flatC (Jvm.Cond.and given_1 narrow_1) := by decide +kernel
theorem gm_s1 : ∀ i : Nat, i < 4 → (Cond.exactly (gm_tm i) "java/lang/String") ∈ flatC (Jvm.Cond.and given_1 narrow_1) ∧ (Cond.eq (.field (gm_tm i) "java/lang/String" "coder" "B") (.int 0)) ∈ flatC (Jvm.Cond.and given_1 narrow_1) ∧ (Cond.arrayOf (.field (gm_tm i) "java/lang/String" "value" "[B") .byte) ∈ flatC (Jvm.Cond.and given_1 narrow_1) ∧ (Cond.eq (.length (.field (gm_tm i) "java/lang/String" "value" "[B")) (.int (Int32.ofNat (gm_sl.getD i 0)))) ∈ flatC (Jvm.Cond.and given_1 narrow_1) ∧ ∀ j : Nat, j < gm_sl.getD i 0 → (Cond.eq (.elem (.field (gm_tm i) "java/lang/String" "value" "[B") (.int (Int32.ofNat j))) (.int ((gm_sb.getD i []).getD j 0))) ∈ flatC (Jvm.Cond.and given_1 narrow_1) := by decide +kernel
theorem gm_s2 : ∀ i : Nat, i < 4 → ∀ j : Nat, j < 4 → i < j → (Cond.not (Cond.eq (gm_tm i) (gm_tm j))) ∈ flatC (Jvm.Cond.and given_1 narrow_1) := by decide +kernel
theorem gm_facts {s : State} {b : Nat} (hts : ∀ w ∈ lw_tbl, w.before #[Value.ref b] s = true) (hgv : (Jvm.Cond.and given_1 narrow_1).before #[Value.ref b] s = true) : ∃ (tP : Nat) (adK adV : Nat → Nat), gm_XL tP adK adV (fun q : Nat => s.heap.size ≤ q) s s.heap := by
  have hs := flat_of_before _ hgv
  have hA : ∀ a : Nat, a < s.heap.size → ¬ (fun q : Nat => s.heap.size ≤ q) a := fun a h => Nat.not_le.mpr h
  obtain ⟨tP, hv, hT⟩ := va_Tof (tm := .static "OnlyRhymes" "PAIRS" "[I") (ty := .int) (N := 28) (f := fun j => .int (gm_pairs j)) (by decide) (hs _ (by decide +kernel)) (va_eqt (z := Int32.ofNat 28) (hs _ (by decide +kernel))) (fun j hj => va_eqt (hs _ (gm_el j hj))) hA
  obtain ⟨adK, adV, hS, hk⟩ := vk_Sof (N := 4) (tm := gm_tm) (len := gm_sl) (byt := gm_sb) (by decide +kernel) (fun i hi => hs _ (gm_s1 i hi).1) (fun i hi => hs _ (gm_s1 i hi).2.1) (fun i hi => hs _ (gm_s1 i hi).2.2.1) (fun i hi => hs _ (gm_s1 i hi).2.2.2.1) (fun i hi j hj => hs _ ((gm_s1 i hi).2.2.2.2 j hj)) (fun i j hi hj hne => by
    rcases Nat.lt_or_gt_of_ne hne with q | q
    · exact Or.inl (hs _ (gm_s2 i hi j hj q))
    · exact Or.inr (hs _ (gm_s2 j hj i hi q))) hA
  refine ⟨tP, adK, adV, ⟨⟨va_Zof (gm_tb hts 186 (by decide +kernel)) (gm_tb hts 1 (by decide +kernel)) hv hA, hT, va_Nw.of rfl (gm_tb hts 730 (by decide +kernel))⟩, ?_, va_AO.of (gm_tb hts 96 (by decide +kernel)), va_AO.of (gm_tb hts 98 (by decide +kernel)), ?_⟩, hS, ⟨vk_R.of (gm_tb hts 355 (by decide +kernel)) (hk 0 (by decide)), vk_R.of (gm_tb hts 416 (by decide +kernel)) (hk 1 (by decide)), vk_R.of (gm_tb hts 426 (by decide +kernel)) (hk 2 (by decide)), vk_R.of (gm_tb hts 432 (by decide +kernel)) (hk 3 (by decide))⟩, va_Zof (gm_tb hts 369 (by decide +kernel)) (gm_tb hts 13 (by decide +kernel)) (va_eqt (hs _ (by decide +kernel))) hA, va_Zqof (gm_tb hts 385 (by decide +kernel)) (gm_tb hts 15 (by decide +kernel)) (hs _ (by decide +kernel)) hA⟩
  · have h15 : gm_nestw.map (fun w => some w) = ([30, 101, 131, 166, 188, 195, 198, 202, 205, 209, 212, 216, 219, 223, 226] : List Nat).map (fun i => tables_1[i]?) := by decide +kernel
    intro w hw
    obtain ⟨k, hk1, hk2⟩ := List.mem_iff_getElem.mp hw
    have e := congrArg (fun l => l[k]?) h15
    simp only [List.getElem?_map, List.getElem?_eq_getElem hk1, Option.map_some, hk2] at e
    have hon : ∀ w ∈ gm_nestw, w.onTables = true := by decide +kernel
    cases hq : ([30, 101, 131, 166, 188, 195, 198, 202, 205, 209, 212, 216, 219, 223, 226] : List Nat)[k]? with
    | none => rw [hq] at e; simp at e
    | some i =>
      rw [hq] at e
      simp only [Option.map_some, Option.some.injEq] at e
      exact va_Nw.of (hon w hw) (gm_tb hts i e.symm)
  · have h5 : gm_castw.map (fun w => some w) = ([1137, 1138, 1139, 1140, 1141] : List Nat).map (fun i => tables_1[i]?) := by decide +kernel
    intro w hw
    obtain ⟨k, hk1, hk2⟩ := List.mem_iff_getElem.mp hw
    have e := congrArg (fun l => l[k]?) h5
    simp only [List.getElem?_map, List.getElem?_eq_getElem hk1, Option.map_some, hk2] at e
    have hon : ∀ w ∈ gm_castw, w.onTables = true := by decide +kernel
    cases hq : ([1137, 1138, 1139, 1140, 1141] : List Nat)[k]? with
    | none => rw [hq] at e; simp at e
    | some i =>
      rw [hq] at e
      simp only [Option.map_some, Option.some.injEq] at e
      exact va_Nw.of (hon w hw) (gm_tb hts i e.symm)
