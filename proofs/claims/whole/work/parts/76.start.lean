/-! what the Statement gives at the law's entry, in the words of the base -/
theorem fp_arr1 {args : Array Value} {s : State} {ty : FieldType} (h : (Cond.arrayClass ty).before args s = true) (hp : ∀ C, ty ≠ .object C) : ∃ cA, ArrOfT s cA ty ∧ va_RA s cA ty := by
  obtain ⟨c, k, comp, h1, h2, h3⟩ := Cond.arrayClass_spec h
  refine ⟨c, fun N z => ⟨(fun k h => by cases h), k, h2, comp, h3⟩, ?_⟩
  cases ty with
  | object C => exact absurd rfl (hp C)
  | _ => exact h1
theorem fp_arr2 {args : Array Value} {s : State} {C : String} (h : (Cond.arrayOver (.object C)).before args s = true) : ∃ cA, ArrOfT s cA (.object C) ∧ va_RA s cA (.object C) := by
  obtain ⟨comp, c, k, h1, h2, h3, h4, h5⟩ := Cond.arrayOver_spec h
  exact ⟨c, fun N z => ⟨(fun k h => by cases h), k, h3, comp, h4⟩, k, comp, h3, h4, h1, h5⟩
theorem fp_mv_tabs {w : Cond} (h : fp_mv w = true) : w.onTables = true := by
  cases w <;> first | (simp [fp_mv] at h; done) | rfl
theorem fp_classes {args : Array Value} {s : State} (hts : ∀ w ∈ lw_tbl, w.before args s = true) : ∃ (dC : Nat → ClassId) (dI : Nat → Nat → Nat), ∀ (k : Nat) (q : vw_C), vwCl[k]? = some q → u_Kn s q.1 q.2.1 q.2.2 (dC k) (dI k) := by
  have hin : ∀ {C : String} {T : u_T} {N : Nat}, (∀ w ∈ u_ws C T N, w ∈ fp_tw) → ∀ w ∈ u_ws C T N, w ∈ lw_tbl := fun h w hw => (List.mem_filter.mp (h w hw)).1
  have key : ∀ k : Nat, ∃ (cC : ClassId) (iS : Nat → Nat), ∀ q : vw_C, vwCl[k]? = some q → u_Kn s q.1 q.2.1 q.2.2 cC iS := by
    intro k
    have use : ∀ (C : String) (T : u_T) (N n : Nat), vwCl[k]? = some (C, T, N) → (∀ w ∈ u_ws C T N, w ∈ fp_tw) → (Cond.instantiable C n).before args s = true → ∃ (cC : ClassId) (iS : Nat → Nat), ∀ q : vw_C, vwCl[k]? = some q → u_Kn s q.1 q.2.1 q.2.2 cC iS := by
      intro C T N n hq hw hi
      obtain ⟨cC, iS, hk⟩ := u_known hts (hin hw) hi
      refine ⟨cC, iS, fun q hq' => ?_⟩
      rw [hq] at hq'
      injection hq' with hq'
      subst hq'
      exact hk
    match k with
    | 0 => exact use _ _ _ 3 rfl cl_Jx4a65c.2.1 (hts _ (by decide +kernel))
    | 1 => exact use _ _ _ 2 rfl cl_X0.2.1 (hts _ (by decide +kernel))
    | 2 => exact use _ _ _ 2 rfl cl_X1.2.1 (hts _ (by decide +kernel))
    | 3 => exact use _ _ _ 9 rfl cl_X2.2.1 (hts _ (by decide +kernel))
    | 4 => exact use _ _ _ 3 rfl cl_X3.2.1 (hts _ (by decide +kernel))
    | 5 => exact use _ _ _ 5 rfl cl_X4.2.1 (hts _ (by decide +kernel))
    | 6 => exact use _ _ _ 3 rfl cl_X5.2.1 (hts _ (by decide +kernel))
    | 7 => exact use _ _ _ 4 rfl cl_X6.2.1 (hts _ (by decide +kernel))
    | 8 => exact use _ _ _ 3 rfl cl_X7.2.1 (hts _ (by decide +kernel))
    | 9 => exact use _ _ _ 7 rfl cl_X8.2.1 (hts _ (by decide +kernel))
    | 10 => exact use _ _ _ 2 rfl cl_X9.2.1 (hts _ (by decide +kernel))
    | 11 => exact use _ _ _ 7 rfl cl_X10.2.1 (hts _ (by decide +kernel))
    | 12 => exact use _ _ _ 46 rfl cl_X11.2.1 (hts _ (by decide +kernel))
    | k + 13 => exact ⟨0, fun _ => 0, fun q hq => by simp at hq⟩
  exact ⟨fun k => Classical.choose (key k), fun k => Classical.choose (Classical.choose_spec (key k)), fun k q hq => Classical.choose_spec (Classical.choose_spec (key k)) q hq⟩
theorem fp_types {args : Array Value} {s : State} (hts : ∀ w ∈ lw_tbl, w.before args s = true) : ∃ dT : Nat → ClassId, ∀ (k : Nat) (t : FieldType), fp_ty[k]? = some t → ArrOfT s (dT k) t ∧ va_RA s (dT k) t := by
  have key : ∀ k : Nat, ∃ cA : ClassId, ∀ t : FieldType, fp_ty[k]? = some t → ArrOfT s cA t ∧ va_RA s cA t := by
    intro k
    have use : ∀ (ty : FieldType), fp_ty[k]? = some ty → (∃ cA, ArrOfT s cA ty ∧ va_RA s cA ty) → ∃ cA, ∀ t, fp_ty[k]? = some t → ArrOfT s cA t ∧ va_RA s cA t := by
      intro ty hq hi
      obtain ⟨cA, h⟩ := hi
      refine ⟨cA, fun t ht => ?_⟩
      rw [hq] at ht
      injection ht with ht
      subst ht
      exact h
    match k with
    | 0 => exact use _ rfl (fp_arr1 (hts (.arrayClass .int) (List.mem_filter.mp ac_int).1) (fun C h => by cases h))
    | 1 => exact use _ rfl (fp_arr1 (hts (.arrayClass .long) (List.mem_filter.mp ac_long).1) (fun C h => by cases h))
    | 2 => exact use _ rfl (fp_arr1 (hts (.arrayClass .boolean) (List.mem_filter.mp ac_boolean).1) (fun C h => by cases h))
    | 3 => exact use _ rfl (fp_arr2 (hts (.arrayOver (.object "FieldPack$Lane")) (by decide +kernel)))
    | 4 => exact use _ rfl (fp_arr2 (hts (.arrayOver (.object "java/lang/Object")) (by decide +kernel)))
    | k + 5 => exact ⟨0, fun q hq => by simp at hq⟩
  exact ⟨fun k => Classical.choose (key k), fun k t ht => Classical.choose_spec (key k) t ht⟩
theorem fp_start {s : State} {b L : Nat} {xs : Nat → Int32} (hts : ∀ w ∈ lw_tbl, w.before #[Value.ref b] s = true) (hX : va_X b L xs s s.heap) (hb : b < s.heap.size) (hgv : (Jvm.Cond.and given_1 narrow_1).before #[Value.ref b] s = true) : ∃ G : fp_G, G.1 = s.heap ∧ fp_K G s ∧ G.2.2.2.1 2 = b ∧ G.2.2.2.1 3 = L := by
  have hs := flat_of_before _ hgv
  obtain ⟨dC, dI, hK⟩ := fp_classes hts
  obtain ⟨dT, hT⟩ := fp_types hts
  have hA : ∀ a : Nat, a < s.heap.size → ¬ (fun q : Nat => s.heap.size ≤ q) a := fun a ha z => by
    have : s.heap.size ≤ a := z
    omega
  have harr : (Cond.arrayOf (.static "java/util/ArrayList" "DEFAULTCAPACITY_EMPTY_ELEMENTDATA" "[Ljava/lang/Object;") (.object "java/lang/Object")).before #[Value.ref b] s = true := hs _ (by decide +kernel)
  have hlen : (Cond.eq (.length (.static "java/util/ArrayList" "DEFAULTCAPACITY_EMPTY_ELEMENTDATA" "[Ljava/lang/Object;")) (.int 0)).before #[Value.ref b] s = true := hs _ (by decide +kernel)
  have hmir : (Cond.isRef (.mirror "[Ljava/lang/Object;")).before #[Value.ref b] s = true := hs _ (by decide +kernel)
  obtain ⟨t, ht, hTT⟩ := va_Tof (N := 0) (f := fun _ => .null) (by decide) harr (va_eqt hlen) (fun j hj => absurd hj (Nat.not_lt_zero _)) hA
  obtain ⟨mi, hmi⟩ := va_Mi.of hmir
  have hZ := va_Zof (A := fun q : Nat => s.heap.size ≤ q) (hts (.laysStatic "java/util/ArrayList" "DEFAULTCAPACITY_EMPTY_ELEMENTDATA" "[Ljava/lang/Object;") (by decide +kernel)) (hts (.initialized "java/util/ArrayList") (by decide +kernel)) ht hA
  obtain ⟨scr, x1, x2, x3, x4, x5⟩ := hX
  refine ⟨(s.heap, (dC, dI), dT, (fun i => if i = 0 then t else if i = 1 then mi else if i = 2 then b else L), xs), rfl, ⟨⟨hK, fun k q hq => ?_⟩, ⟨hZ, hTT, hmi, ⟨scr, x1, x2, x3, ?_, ?_, x5, hA b hb⟩, va_AO.of (hts (.arrayOver (.object "FieldPack$Lane")) (by decide +kernel)), va_AO.of (hts (.arrayOver (.object "java/lang/Object")) (by decide +kernel))⟩, fun w hw => ?_⟩, rfl, rfl⟩
  · unfold fp_tys at hq
    rw [List.getElem?_map, List.getElem?_zipIdx] at hq
    cases hk : fp_ty[k]? with
    | none => rw [hk] at hq; simp at hq
    | some ty =>
      rw [hk] at hq
      simp at hq
      subst hq
      exact hT k ty hk
  · show L ≤ _
    rw [x4]
    exact Nat.le_refl _
  · show scr.slots.size.toInt32 = Int32.ofNat L
    rw [x4]
  · have h1 := List.mem_filter.mp hw
    exact va_tabs (fp_mv_tabs h1.2) rfl (hts w h1.1)
theorem room_le {s : State} {pl : Platform} {mc ms : Nat} (h : s.hasRoom pl room_1 = true) (h1 : mc ≤ 600000) (h2 : ms ≤ 7302250) : s.hasRoom pl (fp_rm (12, 462) mc ms) = true := by
  unfold State.hasRoom at *
  simp only [Bool.and_eq_true, decide_eq_true_eq] at *
  obtain ⟨⟨⟨⟨a, b⟩, c⟩, d⟩, e⟩ := h
  have e1 : room_1.cells = 600000 := rfl
  have e2 : room_1.slots = 7302250 := rfl
  rw [e1] at c
  rw [e2] at d
  exact ⟨⟨⟨⟨a, b⟩, by show s.heap.size + mc ≤ _; omega⟩, by show s.slotsUsed + ms ≤ _; omega⟩, e⟩
