/-! ===== the four String constants of the reader, and the JDK's own methods on them ===== -/
def gm_sl : List Nat := [6, 4, 5, 6]
def gm_sb : List (List Int32) := [[116, 111, 110, 103, 117, 101], [119, 111, 114, 100], [97, 108, 105, 107, 101], [112, 101, 114, 115, 111, 110]]
def gm_len (i : Nat) : Int32 := Int32.ofNat (gm_sl.getD i 0) >>> ((0 : Int32) &&& 31)
def gm_chr (i k : Nat) : Int32 := (((gm_sb.getD i []).getD k 0 &&& 255).toUInt32 % 65536).toInt32
def gm_XR (adK adV : Nat → Nat) : gm_Y := fun A U H => vk_S 4 gm_sl gm_sb adK adV A U H ∧ (vk_R RX6 30 "tongue" (adK 0) U ∧ vk_R RX6 53 "word" (adK 1) U ∧ vk_R RX6 61 "alike" (adK 2) U ∧ vk_R RX6 66 "person" (adK 3) U) ∧ va_Z "java/lang/String" "COMPACT_STRINGS" "Z" (.int 1) A U H ∧ va_Zq "jdk/internal/util/Preconditions" "SIOOBE_FORMATTER" "Ljava/util/function/BiFunction;" A U H
theorem gm_XR_ok (adK adV : Nat → Nat) : gm_Yok (gm_XR adK adV) := by
  refine ⟨fun A u U H h q => ?_, fun A U H H1 h q => ⟨q.1.kept h, q.2.1, q.2.2.1.kept h, q.2.2.2.kept h⟩, fun A B U H h q => ⟨q.1.narrow h, q.2.1, q.2.2.1.narrow h, q.2.2.2.narrow h⟩⟩
  have hv : u.vm.Alike U.vm := by
    rcases h with h | h
    · rw [h]; exact Vm.Alike.refl U.vm
    · exact h.alike
  have hr : ∀ (k : Nat) (tx : String) (a : Nat), vk_R RX6 k tx a u → vk_R RX6 k tx a U := by
    intro k tx a z
    rcases h with h | h
    · exact z.same h.symm
    · exact z.warm h
  exact ⟨q.1.moved hv, ⟨hr _ _ _ q.2.1.1, hr _ _ _ q.2.1.2.1, hr _ _ _ q.2.1.2.2.1, hr _ _ _ q.2.1.2.2.2⟩, q.2.2.1.moved hv, q.2.2.2.moved hv⟩
section GMS
variable {p : Program} {l : Launch} {e : Env} {R : Room} {s : State} {m : MethodId} {args : Array Value} {below : List Frame} {meth : Method} {c : Code} {H : Heap} {locs : List Loc} {cells slots : Nat} {Q : State → Prop}
variable {cc : ByteArray} {pc nL : Nat} {ls : Array Slot} {rest st0 : List Value} {D : va_G} {tys tys1 : List (ClassId × FieldType)} {A : Nat → Prop} {X X1 : gm_Y} {own : String} {ret : Option FieldType} {Ts : List Cond} {ws wc w1 : va_W}
theorem gm_callVr {y : MethodName} {wsY wsY' : List Cond} {rm : Room} {b : Nat} {As : List Value} {rv : Option Value} {Cn : String} {index maxL n : Nat} {bytes : ByteArray} {rety : Option FieldType} (C0 : gm_C p s m args meth c D tys A X own cc nL ret Ts) (hH : gm_H D A s ws H locs) (hM : gm_Met l y wsY rm D tys1 X1 (.ref b :: As) wc rv w1) (hG : GoodIn Ts (wsV own index Cn y wsY)) (hw : wsY = Cond.code y bytes maxL rety :: wsY') (hd : y.cls = Cn ∧ y.cls ≠ "java/lang/invoke/MethodHandle" ∧ y.cls ≠ "java/lang/invoke/VarHandle" ∧ (parseMethodDescriptor y.desc).map (fun d => d.parameters.length) = some n) (hrm : rm.cells = 0 ∧ rm.slots = 0 ∧ rm.frames + 1 ≤ R.frames ∧ 8 + (maxL + 11) + rm.locals ≤ R.locals)
    (hX1 : gm_Yok X1) (hXX : X A s s.heap → X1 A s s.heap) (isC : List Nat) (hC : isC.map (fun i => ws[i]?) = wc.map some) (hnd : va_nd isC = true) (hf : w1.map (fun q => q.1) = wc.map (fun q => q.1)) (isT : List Nat) (hT : isT.filterMap (fun i => tys[i]?) = tys1) (hrec : ∃ cell : Cell, H[b]? = some cell ∧ cell.vm.isStatics = false ∧ s.vm.findClass Cn = some cell.cls) (hn : As.length = n) (hsz : ls.size = nL) (hst : st0 = As.reverse ++ .ref b :: rest) (hrest : (rest.map fun v => v.category).sum ≤ 8) (hdg : decode cc pc = .ok (.invokevirtual index, 3)) (hcs : cells ≤ R.cells ∧ slots ≤ R.slots)
    (kk : ∀ (H1 : Heap) (locs1 : List Loc), gm_H D A s (gm_sets ws isC w1) H1 locs1 → W p l e R s m args below meth c H1 locs1 cells slots Q (F0 m (pc + 3) ls (rv.toList ++ rest))) : W p l e R s m args below meth c H locs cells slots Q (F0 m pc ls st0) := by
  obtain ⟨hx, hb, hml, hr, hown, hts, hA, hK, hX, hlocks⟩ := id C0
  refine gm_go (a := (Value.ref b :: As).toArray) (va_runV (As := As) (rest := rest) (b := b) ⟨hx, hb, hml, hown, hts⟩ (hM H.size) (cwV n hts hG hw hrm.1 hrm.2.1 hd hrm.2.2) ⟨gm_Pc_blind hX1, hrec, fun U hU hW => gm_pre C0 hH isC hC hnd isT hT hX1 hXX U hU hW⟩ rfl hn hsz hst (lv_room hrest) hdg ⟨hcs.1, hcs.2⟩) hA hH isC hC hf kk
end GMS
abbrev rJ0_coder : Room := { frames := 0, cells := 0, slots := 0, locals := 0 }
abbrev rJ0_length : Room := { frames := 1, cells := 0, slots := 0, locals := 20 }
abbrev rJ3_check : Room := { frames := 0, cells := 0, slots := 0, locals := 0 }
abbrev rJ0_check : Room := { frames := 1, cells := 0, slots := 0, locals := 22 }
abbrev rJ1_charAt : Room := { frames := 2, cells := 0, slots := 0, locals := 43 }
abbrev rJ0_charAt : Room := { frames := 3, cells := 0, slots := 0, locals := 64 }
set_option maxRecDepth 100000 in
set_option maxHeartbeats 4000000 in
theorem mJ0_coder (l : Launch) (dC : Nat → ClassId) (dI : Nat → Nat → Nat) (adK adV : Nat → Nat) (i : Nat) (hi : i < 4) : gm_Met l yJ0_coder_7d493 wsJ0_coder_7d493 rJ0_coder (dC, dI) [] (gm_XR adK adV) [.ref (adK i)] ([] : va_W) (some (.int 0)) ([] : va_W) := by
  refine gm_ofW (cc := cJ0_coder_7d493) (maxL := 1) (ret := (some .byte)) (by decide +kernel) rfl (Nat.le_of_ble_eq_true rfl) ?_
  intro p e s m below meth c A C0 hH ls hl
  have hl : lv_has ls 1 [(0, .ref (adK i))] := hl
  obtain ⟨hx, hb, hml, hr, hown, hts, hA, hK, hX, hlocks⟩ := id C0
  refine va_gets hx hb hX.2.2.1 hH.2.2 hown (gm_at C0 1 rfl) (fun _ h => h) dJ0_coder_7d493_0 ?_
  refine lv_if_eq (tgt := 13) hx hb dJ0_coder_7d493_3 (by decide) (fun hc => absurd hc (by decide)) (fun _ => ?_)
  refine lv_aload_n hx hb dJ0_coder_7d493_6 rfl (lv_at hl 0 rfl) ?_
  refine vk_getf hx hb (hX.1.1 i hi).2.1 hH.2.2 hown (gm_at C0 2 rfl) (fun _ h => h) dJ0_coder_7d493_7 ?_
  refine lv_goto (tgt := 14) hx hb dJ0_coder_7d493_10 (by decide) ?_
  exact gm_zret C0 hH (show narrow .byte (.int 0) = .int 0 by decide) dJ0_coder_7d493_14
set_option maxRecDepth 100000 in
set_option maxHeartbeats 4000000 in
theorem mJ0_isLatin1 (l : Launch) (dC : Nat → ClassId) (dI : Nat → Nat → Nat) (adK adV : Nat → Nat) (i : Nat) (hi : i < 4) : gm_Met l yJ0_isLatin1_aae02 wsJ0_isLatin1_aae02 rJ0_coder (dC, dI) [] (gm_XR adK adV) [.ref (adK i)] ([] : va_W) (some (.int 1)) ([] : va_W) := by
  refine gm_ofW (cc := cJ0_isLatin1_aae02) (maxL := 1) (ret := (some .boolean)) (by decide +kernel) rfl (Nat.le_of_ble_eq_true rfl) ?_
  intro p e s m below meth c A C0 hH ls hl
  have hl : lv_has ls 1 [(0, .ref (adK i))] := hl
  obtain ⟨hx, hb, hml, hr, hown, hts, hA, hK, hX, hlocks⟩ := id C0
  refine va_gets hx hb hX.2.2.1 hH.2.2 hown (gm_at C0 1 rfl) (fun _ h => h) dJ0_isLatin1_aae02_0 ?_
  refine lv_if_eq (tgt := 17) hx hb dJ0_isLatin1_aae02_3 (by decide) (fun hc => absurd hc (by decide)) (fun _ => ?_)
  refine lv_aload_n hx hb dJ0_isLatin1_aae02_6 rfl (lv_at hl 0 rfl) ?_
  refine vk_getf hx hb (hX.1.1 i hi).2.1 hH.2.2 hown (gm_at C0 2 rfl) (fun _ h => h) dJ0_isLatin1_aae02_7 ?_
  refine lv_if_ne (tgt := 17) hx hb dJ0_isLatin1_aae02_10 (by decide) (fun hc => absurd rfl hc) (fun _ => ?_)
  refine lv_iconst (v := 1) hx hb dJ0_isLatin1_aae02_13 (by decide) ?_
  refine lv_goto (tgt := 18) hx hb dJ0_isLatin1_aae02_14 (by decide) ?_
  exact gm_zret C0 hH (show narrow .boolean (.int 1) = .int 1 by decide) dJ0_isLatin1_aae02_18
set_option maxRecDepth 100000 in
set_option maxHeartbeats 4000000 in
theorem mJ0_length (l : Launch) (dC : Nat → ClassId) (dI : Nat → Nat → Nat) (adK adV : Nat → Nat) (i : Nat) (hi : i < 4) : gm_Met l yJ0_length_8abf5 wsJ0_length_8abf5 rJ0_length (dC, dI) [] (gm_XR adK adV) [.ref (adK i)] ([] : va_W) (some (.int (gm_len i))) ([] : va_W) := by
  refine gm_ofW (cc := cJ0_length_8abf5) (maxL := 1) (ret := (some .int)) (by decide +kernel) rfl (Nat.le_of_ble_eq_true rfl) ?_
  intro p e s m below meth c A C0 hH ls hl
  have hl : lv_has ls 1 [(0, .ref (adK i))] := hl
  obtain ⟨hx, hb, hml, hr, hown, hts, hA, hK, hX, hlocks⟩ := id C0
  refine lv_aload_n hx hb dJ0_length_8abf5_0 rfl (lv_at hl 0 rfl) ?_
  refine vk_getf hx hb (hX.1.1 i hi).2.2.1 hH.2.2 hown (gm_at C0 1 rfl) (fun _ h => h) dJ0_length_8abf5_1 ?_
  refine va_tlen (v := Int32.ofNat (gm_sl.getD i 0)) hx hb (hX.1.1 i hi).2.2.2 hH.2.2 rfl dJ0_length_8abf5_4 ?_
  refine lv_aload_n hx hb dJ0_length_8abf5_5 rfl (lv_at hl 0 rfl) ?_
  refine gm_callVr (As := []) (rest := [.int (Int32.ofNat (gm_sl.getD i 0))]) (n := 0) C0 hH (mJ0_coder l dC dI adK adV i hi) gJ0_length_8abf5_J0_coder_7d493 rfl (by decide +kernel) ⟨rfl, rfl, Nat.le_of_ble_eq_true rfl, Nat.le_of_ble_eq_true rfl⟩ (gm_XR_ok adK adV) (fun h => h) [] rfl rfl rfl [] rfl (vk_recv hX.1 hi hH.2.2) rfl hl.1 rfl (Nat.le_of_ble_eq_true rfl) dJ0_length_8abf5_6 ⟨Nat.zero_le _, Nat.zero_le _⟩ (fun H locs hH => ?_)
  have hH : gm_H (dC, dI) A s ([] : va_W) H locs := hH
  refine lv_ishr hx hb dJ0_length_8abf5_9 ?_
  exact gm_iret C0 hH dJ0_length_8abf5_10
set_option maxRecDepth 100000 in
set_option maxHeartbeats 4000000 in
theorem mJ3_checkN (l : Launch) (dC : Nat → ClassId) (dI : Nat → Nat → Nat) (x y : Int32) (h0 : ¬ x < 0) (h1 : x < y) : gm_Met l yJ3_checkIndex_8e157 wsJ3_checkIndex_8e157 rJ3_check (dC, dI) [] gm_T [.int x, .int y, .null] ([] : va_W) (some (.int x)) ([] : va_W) := by
  refine gm_ofW (cc := cJ3_checkIndex_8e157) (maxL := 3) (ret := (some .int)) (by decide +kernel) rfl (Nat.le_of_ble_eq_true rfl) ?_
  intro p e s m below meth c A C0 hH ls hl
  have hl : lv_has ls 3 [(0, .int x), (1, .int y), (2, .null)] := hl
  obtain ⟨hx, hb, hml, hr, hown, hts, hA, hK, hX, hlocks⟩ := id C0
  refine lv_iload_n hx hb dJ3_checkIndex_8e157_0 rfl (lv_at hl 0 rfl) ?_
  refine lv_if_lt (tgt := 9) hx hb dJ3_checkIndex_8e157_1 (by decide) (fun hc => absurd hc h0) (fun _ => ?_)
  refine lv_iload_n hx hb dJ3_checkIndex_8e157_4 rfl (lv_at hl 0 rfl) ?_
  refine lv_iload_n hx hb dJ3_checkIndex_8e157_5 rfl (lv_at hl 1 rfl) ?_
  refine lv_icmp_lt (tgt := 16) hx hb dJ3_checkIndex_8e157_6 (by decide) (fun _ => ?_) (fun hc => absurd h1 hc)
  refine lv_iload_n hx hb dJ3_checkIndex_8e157_16 rfl (lv_at hl 0 rfl) ?_
  exact gm_iret C0 hH dJ3_checkIndex_8e157_17
set_option maxRecDepth 100000 in
set_option maxHeartbeats 4000000 in
theorem mJ3_checkR (l : Launch) (dC : Nat → ClassId) (dI : Nat → Nat → Nat) (x y : Int32) (t : Nat) (h0 : ¬ x < 0) (h1 : x < y) : gm_Met l yJ3_checkIndex_8e157 wsJ3_checkIndex_8e157 rJ3_check (dC, dI) [] gm_T [.int x, .int y, .ref t] ([] : va_W) (some (.int x)) ([] : va_W) := by
  refine gm_ofW (cc := cJ3_checkIndex_8e157) (maxL := 3) (ret := (some .int)) (by decide +kernel) rfl (Nat.le_of_ble_eq_true rfl) ?_
  intro p e s m below meth c A C0 hH ls hl
  have hl : lv_has ls 3 [(0, .int x), (1, .int y), (2, .ref t)] := hl
  obtain ⟨hx, hb, hml, hr, hown, hts, hA, hK, hX, hlocks⟩ := id C0
  refine lv_iload_n hx hb dJ3_checkIndex_8e157_0 rfl (lv_at hl 0 rfl) ?_
  refine lv_if_lt (tgt := 9) hx hb dJ3_checkIndex_8e157_1 (by decide) (fun hc => absurd hc h0) (fun _ => ?_)
  refine lv_iload_n hx hb dJ3_checkIndex_8e157_4 rfl (lv_at hl 0 rfl) ?_
  refine lv_iload_n hx hb dJ3_checkIndex_8e157_5 rfl (lv_at hl 1 rfl) ?_
  refine lv_icmp_lt (tgt := 16) hx hb dJ3_checkIndex_8e157_6 (by decide) (fun _ => ?_) (fun hc => absurd h1 hc)
  refine lv_iload_n hx hb dJ3_checkIndex_8e157_16 rfl (lv_at hl 0 rfl) ?_
  exact gm_iret C0 hH dJ3_checkIndex_8e157_17
set_option maxRecDepth 100000 in
set_option maxHeartbeats 4000000 in
theorem mJ0_check (l : Launch) (dC : Nat → ClassId) (dI : Nat → Nat → Nat) (adK adV : Nat → Nat) (x y : Int32) (h0 : ¬ x < 0) (h1 : x < y) : gm_Met l yJ0_checkIndex_df160 wsJ0_checkIndex_df160 rJ0_check (dC, dI) [] (gm_XR adK adV) [.int x, .int y] ([] : va_W) none ([] : va_W) := by
  refine gm_ofW (cc := cJ0_checkIndex_df160) (maxL := 2) (ret := none) (by decide +kernel) rfl (Nat.le_of_ble_eq_true rfl) ?_
  intro p e s m below meth c A C0 hH ls hl
  have hl : lv_has ls 2 [(0, .int x), (1, .int y)] := hl
  obtain ⟨hx, hb, hml, hr, hown, hts, hA, hK, hX, hlocks⟩ := id C0
  refine lv_iload_n hx hb dJ0_checkIndex_df160_0 rfl (lv_at hl 0 rfl) ?_
  refine lv_iload_n hx hb dJ0_checkIndex_df160_1 rfl (lv_at hl 1 rfl) ?_
  rcases hX.2.2.2 with hZ | ⟨t, hZ⟩
  · refine va_gets hx hb hZ hH.2.2 hown (gm_at C0 1 rfl) (fun _ h => h) dJ0_checkIndex_df160_2 ?_
    refine gm_callS (As := [.int x, .int y, .null]) (rest := []) (n := 3) C0 hH (mJ3_checkN l dC dI x y h0 h1) gJ0_checkIndex_df160_J3_checkIndex_8e157 rfl (by decide +kernel) ⟨rfl, rfl, Nat.le_of_ble_eq_true rfl, Nat.le_of_ble_eq_true rfl⟩ gm_T_ok (fun _ => trivial) [] rfl rfl rfl [] rfl rfl hl.1 rfl (Nat.le_of_ble_eq_true rfl) dJ0_checkIndex_df160_5 ⟨Nat.zero_le _, Nat.zero_le _⟩ (fun H locs hH => ?_)
    have hH : gm_H (dC, dI) A s ([] : va_W) H locs := hH
    refine lv_pop hx hb dJ0_checkIndex_df160_8 rfl ?_
    exact gm_vret C0 hH dJ0_checkIndex_df160_9
  · refine va_gets hx hb hZ hH.2.2 hown (gm_at C0 1 rfl) (fun _ h => h) dJ0_checkIndex_df160_2 ?_
    refine gm_callS (As := [.int x, .int y, .ref t]) (rest := []) (n := 3) C0 hH (mJ3_checkR l dC dI x y t h0 h1) gJ0_checkIndex_df160_J3_checkIndex_8e157 rfl (by decide +kernel) ⟨rfl, rfl, Nat.le_of_ble_eq_true rfl, Nat.le_of_ble_eq_true rfl⟩ gm_T_ok (fun _ => trivial) [] rfl rfl rfl [] rfl rfl hl.1 rfl (Nat.le_of_ble_eq_true rfl) dJ0_checkIndex_df160_5 ⟨Nat.zero_le _, Nat.zero_le _⟩ (fun H locs hH => ?_)
    have hH : gm_H (dC, dI) A s ([] : va_W) H locs := hH
    refine lv_pop hx hb dJ0_checkIndex_df160_8 rfl ?_
    exact gm_vret C0 hH dJ0_checkIndex_df160_9
theorem gm_sl_small : ∀ i, i < 4 → gm_sl.getD i 0 < 2 ^ 31 := by decide
set_option maxRecDepth 100000 in
set_option maxHeartbeats 4000000 in
theorem mJ1_charAt (l : Launch) (dC : Nat → ClassId) (dI : Nat → Nat → Nat) (adK adV : Nat → Nat) (i : Nat) (hi : i < 4) (k : Int32) (hk : vp_in k (gm_sl.getD i 0)) : gm_Met l yJ1_charAt_3b067 wsJ1_charAt_3b067 rJ1_charAt (dC, dI) [] (gm_XR adK adV) [.ref (adV i), .int k] ([] : va_W) (some (.int (gm_chr i k.toNatClampNeg))) ([] : va_W) := by
  obtain ⟨j, hj, rfl⟩ := vp_in_of hk (gm_sl_small i hi)
  have hjs : j < 2 ^ 31 := Nat.lt_trans hj (gm_sl_small i hi)
  refine gm_ofW (cc := cJ1_charAt_3b067) (maxL := 2) (ret := (some .char)) (by decide +kernel) rfl (Nat.le_of_ble_eq_true rfl) ?_
  intro p e s m below meth c A C0 hH ls hl
  have hl : lv_has ls 2 [(0, .ref (adV i)), (1, .int (nI j))] := hl
  obtain ⟨hx, hb, hml, hr, hown, hts, hA, hK, hX, hlocks⟩ := id C0
  refine lv_iload_n hx hb dJ1_charAt_3b067_0 rfl (lv_at hl 1 rfl) ?_
  refine lv_aload_n hx hb dJ1_charAt_3b067_1 rfl (lv_at hl 0 rfl) ?_
  refine va_tlen (v := nI (gm_sl.getD i 0)) hx hb (hX.1.1 i hi).2.2.2 hH.2.2 rfl dJ1_charAt_3b067_2 ?_
  refine gm_callS (As := [.int (nI j), .int (nI (gm_sl.getD i 0))]) (rest := []) (n := 2) C0 hH (mJ0_check l dC dI adK adV (nI j) (nI (gm_sl.getD i 0)) (nI_pos hjs) (nI_lt hj (gm_sl_small i hi))) gJ1_charAt_3b067_J0_checkIndex_df160 rfl (by decide +kernel) ⟨rfl, rfl, Nat.le_of_ble_eq_true rfl, Nat.le_of_ble_eq_true rfl⟩ (gm_XR_ok adK adV) (fun h => h) [] rfl rfl rfl [] rfl rfl hl.1 rfl (Nat.le_of_ble_eq_true rfl) dJ1_charAt_3b067_3 ⟨Nat.zero_le _, Nat.zero_le _⟩ (fun H locs hH => ?_)
  have hH : gm_H (dC, dI) A s ([] : va_W) H locs := hH
  refine lv_aload_n hx hb dJ1_charAt_3b067_6 rfl (lv_at hl 0 rfl) ?_
  refine lv_iload_n hx hb dJ1_charAt_3b067_7 rfl (lv_at hl 1 rfl) ?_
  refine va_tb hx hb (hX.1.1 i hi).2.2.2 hH.2.2 hk rfl dJ1_charAt_3b067_8 ?_
  refine lv_sipush (v := 255) hx hb dJ1_charAt_3b067_9 (by decide) ?_
  refine lv_iand hx hb dJ1_charAt_3b067_12 ?_
  refine lv_i2c hx hb dJ1_charAt_3b067_13 rfl ?_
  exact gm_zret C0 hH (pk_nc _) dJ1_charAt_3b067_14
set_option maxRecDepth 100000 in
set_option maxHeartbeats 4000000 in
theorem mJ0_charAt (l : Launch) (dC : Nat → ClassId) (dI : Nat → Nat → Nat) (adK adV : Nat → Nat) (i : Nat) (hi : i < 4) (k : Int32) (hk : vp_in k (gm_sl.getD i 0)) : gm_Met l yJ0_charAt_5068e wsJ0_charAt_5068e rJ0_charAt (dC, dI) [] (gm_XR adK adV) [.ref (adK i), .int k] ([] : va_W) (some (.int (gm_chr i k.toNatClampNeg))) ([] : va_W) := by
  refine gm_ofW (cc := cJ0_charAt_5068e) (maxL := 2) (ret := (some .char)) (by decide +kernel) rfl (Nat.le_of_ble_eq_true rfl) ?_
  intro p e s m below meth c A C0 hH ls hl
  have hl : lv_has ls 2 [(0, .ref (adK i)), (1, .int k)] := hl
  obtain ⟨hx, hb, hml, hr, hown, hts, hA, hK, hX, hlocks⟩ := id C0
  refine lv_aload_n hx hb dJ0_charAt_5068e_0 rfl (lv_at hl 0 rfl) ?_
  refine gm_callVr (As := []) (rest := []) (n := 0) C0 hH (mJ0_isLatin1 l dC dI adK adV i hi) gJ0_charAt_5068e_J0_isLatin1_aae02 rfl (by decide +kernel) ⟨rfl, rfl, Nat.le_of_ble_eq_true rfl, Nat.le_of_ble_eq_true rfl⟩ (gm_XR_ok adK adV) (fun h => h) [] rfl rfl rfl [] rfl (vk_recv hX.1 hi hH.2.2) rfl hl.1 rfl (Nat.le_of_ble_eq_true rfl) dJ0_charAt_5068e_1 ⟨Nat.zero_le _, Nat.zero_le _⟩ (fun H locs hH => ?_)
  have hH : gm_H (dC, dI) A s ([] : va_W) H locs := hH
  refine lv_if_eq (tgt := 16) hx hb dJ0_charAt_5068e_4 (by decide) (fun hc => absurd hc (by decide)) (fun _ => ?_)
  refine lv_aload_n hx hb dJ0_charAt_5068e_7 rfl (lv_at hl 0 rfl) ?_
  refine vk_getf hx hb (hX.1.1 i hi).2.2.1 hH.2.2 hown (gm_at C0 1 rfl) (fun _ h => h) dJ0_charAt_5068e_8 ?_
  refine lv_iload_n hx hb dJ0_charAt_5068e_11 rfl (lv_at hl 1 rfl) ?_
  refine gm_callS (As := [.ref (adV i), .int k]) (rest := []) (n := 2) C0 hH (mJ1_charAt l dC dI adK adV i hi k hk) gJ0_charAt_5068e_J1_charAt_3b067 rfl (by decide +kernel) ⟨rfl, rfl, Nat.le_of_ble_eq_true rfl, Nat.le_of_ble_eq_true rfl⟩ (gm_XR_ok adK adV) (fun h => h) [] rfl rfl rfl [] rfl rfl hl.1 rfl (Nat.le_of_ble_eq_true rfl) dJ0_charAt_5068e_12 ⟨Nat.zero_le _, Nat.zero_le _⟩ (fun H locs hH => ?_)
  have hH : gm_H (dC, dI) A s ([] : va_W) H locs := hH
  exact gm_zret C0 hH (pk_nc _) dJ0_charAt_5068e_15
