/-! ===== worlds turned about ===== -/
theorem gm_pP {D : va_G} {cl : List vw_C} {a b : va_W} {H : Heap} (h : a.Perm b) (hP : va_P D cl a H) : va_P D cl b H := by
  intro k q hq
  have hm : q ∈ a := h.mem_iff.mpr (List.mem_of_getElem? hq)
  obtain ⟨i, hi⟩ := List.getElem?_of_mem hm
  exact hP i q hi
theorem gm_pD {A : Nat → Prop} {a b : va_W} (h : a.Perm b) (hD : va_D A a) : va_D A b := by
  have n1 : (a.map (fun q => q.1)).Nodup := by
    refine List.pairwise_iff_getElem.mpr (fun i j hi hj hij e => ?_)
    simp only [List.getElem_map] at e
    simp only [List.length_map] at hi hj
    have := hD.1 i j a[i] a[j] (List.getElem?_eq_getElem hi) (List.getElem?_eq_getElem hj) e
    omega
  have n2 : (b.map (fun q => q.1)).Nodup := (h.map _).nodup_iff.mp n1
  refine ⟨fun i j x y hx hy hxy => ?_, fun k q hq => ?_⟩
  · obtain ⟨hi, ex⟩ := List.getElem?_eq_some_iff.mp hx
    obtain ⟨hj, ey⟩ := List.getElem?_eq_some_iff.mp hy
    have key := List.pairwise_iff_getElem.mp n2
    rcases Nat.lt_trichotomy i j with hij | hij | hij
    · have e := key i j (by simpa using hi) (by simpa using hj) hij
      rw [List.getElem_map, List.getElem_map, ex, ey] at e
      exact absurd hxy e
    · exact hij
    · have e := key j i (by simpa using hj) (by simpa using hi) hij
      rw [List.getElem_map, List.getElem_map, ex, ey] at e
      exact absurd hxy.symm e
  · have hm : q ∈ a := h.mem_iff.mpr (List.mem_of_getElem? hq)
    obtain ⟨i, hi⟩ := List.getElem?_of_mem hm
    exact hD.2 i q hi
theorem gm_rot {D : va_G} {cl : List vw_C} {A : Nat → Prop} {H : Heap} (a b : va_W) (hP : va_P D cl (a ++ b) H) (hD : va_D A (a ++ b)) : va_P D cl (b ++ a) H ∧ va_D A (b ++ a) := ⟨gm_pP List.perm_append_comm hP, gm_pD List.perm_append_comm hD⟩
theorem gm_mid {D : va_G} {cl : List vw_C} {A : Nat → Prop} {H : Heap} (a b c : va_W) (hP : va_P D cl (a ++ (b ++ c)) H) (hD : va_D A (a ++ (b ++ c))) : va_P D cl (b ++ (a ++ c)) H ∧ va_D A (b ++ (a ++ c)) := by
  have h : (a ++ (b ++ c)).Perm (b ++ (a ++ c)) := by
    rw [← List.append_assoc, ← List.append_assoc]
    exact List.Perm.append_right c List.perm_append_comm
  exact ⟨gm_pP h hP, gm_pD h hD⟩
/-- behind a constructor's call: its object stood first -/
theorem gm_joinH {A0 : Nat → Prop} {D : va_G} {cl : List vw_C} {x : Nat × va_E} {R w1 : va_W} {H H1 : Heap} (hP : va_P D cl (x :: R) H) (hD : va_D A0 (x :: R)) (hk : ∀ q : Nat, q < H.size → ¬ va_A [x] H.size q → H1[q]? = H[q]?) (hF : ∀ q, va_A [x] H.size q → A0 q) (hP1 : va_P D cl w1 H1) (hD1 : va_D (va_A [x] H.size) w1) : va_P D cl (w1 ++ R) H1 ∧ va_D A0 (w1 ++ R) := by
  have apart : ∀ (k : Nat) (q : Nat × va_E), R[k]? = some q → q.1 < H.size ∧ ¬ va_A [x] H.size q.1 := by
    intro k q hq
    have hl := (hP (k + 1) q hq).lt
    refine ⟨hl, fun h => ?_⟩
    rcases h with ⟨k2, e, h⟩ | h
    · have hk2 : k2 = 0 := by
        have := (List.getElem?_eq_some_iff.mp h).1
        simp at this
        exact this
      subst hk2
      have hx : x = (q.1, e) := Option.some.inj h
      have := hD.1 0 (k + 1) x q rfl hq (by rw [hx])
      omega
    · omega
  refine ⟨va_P.app hP1 (fun k q hq => ?_), va_D.app (hD1.weaken (fun k q _ h => hF q.1 h)) ⟨fun i j y z hy hz hyz => ?_, fun k q hq => hD.2 (k + 1) q hq⟩ (fun i j y z hy hz hyz => ?_)⟩
  · obtain ⟨g1, g2⟩ := apart k q hq
    exact (hP (k + 1) q hq).kept (hk q.1 g1 g2)
  · have := hD.1 (i + 1) (j + 1) y z hy hz hyz
    omega
  · exact (apart j z hz).2 (by rw [← hyz]; exact hD1.2 i y hy)
