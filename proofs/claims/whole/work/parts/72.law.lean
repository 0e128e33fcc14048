/-! the law: its calls, one by one -/
theorem told_uniq {x y : Int32} {f : Nat → Nat → Int32} {r r' : Option Value} (h : ((¬ ∃ e w, e ≤ 1 ∧ w ≤ 5 ∧ x = nI e ∧ y = nI w) ∧ r = some (.int (-1))) ∨ ∃ e w, e ≤ 1 ∧ w ≤ 5 ∧ x = nI e ∧ y = nI w ∧ r = some (.int (f e w))) (h' : ((¬ ∃ e w, e ≤ 1 ∧ w ≤ 5 ∧ x = nI e ∧ y = nI w) ∧ r' = some (.int (-1))) ∨ ∃ e w, e ≤ 1 ∧ w ≤ 5 ∧ x = nI e ∧ y = nI w ∧ r' = some (.int (f e w))) : ∃ v, r = some (.int v) ∧ r' = some (.int v) := by
  rcases h with ⟨a, rfl⟩ | ⟨e, w, a1, a2, a3, a4, rfl⟩
  · rcases h' with ⟨b, rfl⟩ | ⟨e', w', b1, b2, b3, b4, -⟩
    · exact ⟨_, rfl, rfl⟩
    · exact absurd ⟨e', w', b1, b2, b3, b4⟩ a
  · rcases h' with ⟨b, -⟩ | ⟨e', w', b1, b2, b3, b4, rfl⟩
    · exact absurd ⟨e, w, a1, a2, a3, a4⟩ b
    · have z1 : e = e' := (nI_eq (by omega) (by omega)).mp (a3.symm.trans b3)
      have z2 : w = w' := (nI_eq (by omega) (by omega)).mp (a4.symm.trans b4)
      subst z1; subst z2
      exact ⟨_, rfl, rfl⟩
theorem sec_uniq {x : Int32} {f : Nat → Int32} {r r' : Option Value} (h : ((¬ ∃ s, s < 8 ∧ x = nI s) ∧ r = some (.int (-1))) ∨ ∃ s, s < 8 ∧ x = nI s ∧ r = some (.int (f s))) (h' : ((¬ ∃ s, s < 8 ∧ x = nI s) ∧ r' = some (.int (-1))) ∨ ∃ s, s < 8 ∧ x = nI s ∧ r' = some (.int (f s))) : ∃ v, r = some (.int v) ∧ r' = some (.int v) := by
  rcases h with ⟨a, rfl⟩ | ⟨s, a1, a2, rfl⟩
  · rcases h' with ⟨b, rfl⟩ | ⟨s', b1, b2, -⟩
    · exact ⟨_, rfl, rfl⟩
    · exact absurd ⟨s', b1, b2⟩ a
  · rcases h' with ⟨b, -⟩ | ⟨s', b1, b2, rfl⟩
    · exact absurd ⟨s, a1, a2⟩ b
    · have z1 : s = s' := (nI_eq (by omega) (by omega)).mp (a2.symm.trans b2)
      subst z1
      exact ⟨_, rfl, rfl⟩
theorem ent_uniq {x y z : Int32} {P : Nat → Nat → Prop} {f : Nat → Nat → Int64} {r r' : Option Value} (h : ((¬ ∃ e j w, e ≤ 1 ∧ w ≤ 1 ∧ x = nI e ∧ y = nI j ∧ z = nI w ∧ j < 2 ^ 31 ∧ P e j) ∧ r = some (.long (-1))) ∨ ∃ e j w, e ≤ 1 ∧ w ≤ 1 ∧ x = nI e ∧ y = nI j ∧ z = nI w ∧ j < 2 ^ 31 ∧ P e j ∧ r = some (.long (f w j))) (h' : ((¬ ∃ e j w, e ≤ 1 ∧ w ≤ 1 ∧ x = nI e ∧ y = nI j ∧ z = nI w ∧ j < 2 ^ 31 ∧ P e j) ∧ r' = some (.long (-1))) ∨ ∃ e j w, e ≤ 1 ∧ w ≤ 1 ∧ x = nI e ∧ y = nI j ∧ z = nI w ∧ j < 2 ^ 31 ∧ P e j ∧ r' = some (.long (f w j))) : ∃ v, r = some (.long v) ∧ r' = some (.long v) := by
  rcases h with ⟨a, rfl⟩ | ⟨e, j, w, a1, a2, a3, a4, a5, a6, a7, rfl⟩
  · rcases h' with ⟨b, rfl⟩ | ⟨e', j', w', b1, b2, b3, b4, b5, b6, b7, -⟩
    · exact ⟨_, rfl, rfl⟩
    · exact absurd ⟨e', j', w', b1, b2, b3, b4, b5, b6, b7⟩ a
  · rcases h' with ⟨b, -⟩ | ⟨e', j', w', b1, b2, b3, b4, b5, b6, b7, rfl⟩
    · exact absurd ⟨e, j, w, a1, a2, a3, a4, a5, a6, a7⟩ b
    · have z2 : j = j' := (nI_eq a6 b6).mp (a4.symm.trans b4)
      have z3 : w = w' := (nI_eq (by omega) (by omega)).mp (a5.symm.trans b5)
      subst z2; subst z3
      exact ⟨_, rfl, rfl⟩
section LL
variable {G : fp_G} {h : fp_H} {o : Nat} {A la : Nat → Nat} {mm : Nat} {p : rs} {B NB SB c i : Nat} {Q : Option Value → fp_H → Prop}
/-- what is to come behind a call -/
def NX (G : fp_G) (o : Nat) (A la : Nat → Nat) (mm B NB SB c i : Nat) (Q : Option Value → fp_H → Prop) : Prop := ∀ (h : fp_H) (p : rs), ST G h o A la mm p B NB SB (c + 1) → fp_wp G rm_L_law M_L_law 560 [some (.ref (G.2.2.2.1 2)), some (.ref o), some (.ref mm), some (.int (nI i))] [] h Q
theorem vin {k : Nat} {x : Int32} (hx : nI i + x = nI (i + k)) (hL : i + 6 ≤ G.2.2.2.1 3) (hk : k < 6) (hG : G.2.2.2.1 3 ≤ 3074) : vp_in (nI i + x) (G.2.2.2.1 3) := by
  rw [hx]
  exact vp_in_nI (by omega) (by omega)
theorem n1 : nI i + 1 = nI (i + 1) := nI_add _ 1
theorem n2 : nI i + 2 = nI (i + 2) := nI_add _ 2
theorem n3 : nI i + 3 = nI (i + 3) := nI_add _ 3
theorem n4 : nI i + 4 = nI (i + 4) := nI_add _ 4
theorem n5 : nI i + 5 = nI (i + 5) := nI_add _ 5
theorem ST.obj (st : ST G h o A la mm p B NB SB c) : ∃ vs, h.1 o = some (2, .inr (11, vs)) := by
  obtain ⟨ba, sa, ra, fa, oa, K, c1, c2, c3, m, -⟩ := st.1
  exact ⟨_, m.1⟩
theorem ST.back (st : ST G h o A la mm p B NB SB c) : ST G (r_hp h mm p) o A la mm p B NB SB (c + 1) := by
  rw [← st.2.2.1]
  exact st.same
theorem l_waiting (st : ST G h o A la mm p B NB SB c) (hc : c ≤ 512) (hL : i + 6 ≤ G.2.2.2.1 3) (hG : G.2.2.2.1 3 ≤ 3074) (nx : NX G o A la mm B NB SB c i Q) : fp_wp G rm_L_law M_L_law 350 [some (.ref (G.2.2.2.1 2)), some (.ref o), some (.ref mm), some (.int (nI i))] [] h Q := by
  obtain ⟨vs, ho⟩ := st.obj
  have hkn := st.2.1.known
  have ri := st.2.1
  have ra := ri.1
  have ok : rok p := ra.1
  have hw := ri.wn (by omega)
  have h8 : ∀ k, k < p.1 28 → p.2.1 11 k < 8 := fun k hk => (ri.2.2.1.1 k hk).1.2.2.2.1
  have hm : ∀ k, k < p.1 28 → p.2.1 15 k ≤ 12 := fun k hk => (ri.2.2.1.1 k hk).1.2.2.1
  have h13 : p.1 13 ≤ 43200 := by have := ra.2.2.2.2.2.2.2.2.2.2; omega
  have i1 := vin (G := G) (n1 (i := i)) hL (by decide) hG
  obtain ⟨ba, sa, ra', fa, oa, K, c1, c2, c3, m, -⟩ := id st.1
  refine wp_aload_n dL_law_350 rfl ?_
  refine wp_aload_n dL_law_351 rfl ?_
  refine wp_iload_n dL_law_352 rfl ?_
  refine wp_iconst (v := 1) dL_law_353 rfl ?_
  refine wp_iadd dL_law_354 ?_
  refine wp_ialdS dL_law_355 i1 ?_
  refine wp_callV (As := [.int (G.2.2.2.2 (nI i + 1).toNatClampNeg)]) (rest := []) dL_law_356 me_X10_waiting cw_L_51 rfl ⟨(Nat.le_of_ble_eq_true rfl), (Nat.le_of_ble_eq_true rfl)⟩ rfl rfl rfl (Nat.le_of_ble_eq_true rfl) ho (cp_waiting m ok h8 ri.2.1.2.2.1 ri.2.2.2.1.2.2.1) (fun r h1 q => ?_)
  obtain ⟨q0, rfl⟩ := q
  subst q0
  refine fp_wp_h (h' := r_hp h1 mm p) st.2.2.1 ?_
  refine wp_aload_n dL_law_359 rfl ?_
  refine wp_aload_n dL_law_360 rfl ?_
  refine wp_iload_n dL_law_361 rfl ?_
  refine wp_iconst (v := 1) dL_law_362 rfl ?_
  refine wp_iadd dL_law_363 ?_
  refine wp_ialdS dL_law_364 i1 ?_
  refine wp_callV (As := [.int (G.2.2.2.2 (nI i + 1).toNatClampNeg)]) (rest := [_]) dL_law_365 me_X11_waiting cw_L_54 rfl ⟨(Nat.le_of_ble_eq_true rfl), (Nat.le_of_ble_eq_true rfl)⟩ rfl rfl rfl (Nat.le_of_ble_eq_true rfl) r_at_m (ct_waiting ok ra.2.1 ri.2.1.2.2.1 ri.2.2.2.1.2.2.1) (fun r h2 q => ?_)
  obtain ⟨q0, rfl⟩ := q
  subst q0
  refine wp_icmp_eq (tgt := 560) dL_law_368 rfl (fun c_368 => ?_) (fun c_368 => ?_)
  · exact nx _ p st.back
  · exact absurd rfl c_368
theorem l_look (st : ST G h o A la mm p B NB SB c) (hc : c ≤ 512) (hL : i + 6 ≤ G.2.2.2.1 3) (hG : G.2.2.2.1 3 ≤ 3074) (nx : NX G o A la mm B NB SB c i Q) : fp_wp G rm_L_law M_L_law 373 [some (.ref (G.2.2.2.1 2)), some (.ref o), some (.ref mm), some (.int (nI i))] [] h Q := by
  obtain ⟨vs, ho⟩ := st.obj
  have hkn := st.2.1.known
  have ri := st.2.1
  have ra := ri.1
  have ok : rok p := ra.1
  have hw := ri.wn (by omega)
  have h8 : ∀ k, k < p.1 28 → p.2.1 11 k < 8 := fun k hk => (ri.2.2.1.1 k hk).1.2.2.2.1
  have hm : ∀ k, k < p.1 28 → p.2.1 15 k ≤ 12 := fun k hk => (ri.2.2.1.1 k hk).1.2.2.1
  have h13 : p.1 13 ≤ 43200 := by have := ra.2.2.2.2.2.2.2.2.2.2; omega
  have i1 := vin (G := G) (n1 (i := i)) hL (by decide) hG
  have i2 := vin (G := G) (n2 (i := i)) hL (by decide) hG
  obtain ⟨ba, sa, ra', fa, oa, K, c1, c2, c3, m, -⟩ := id st.1
  refine wp_aload_n dL_law_373 rfl ?_
  refine wp_aload_n dL_law_374 rfl ?_
  refine wp_iload_n dL_law_375 rfl ?_
  refine wp_iconst (v := 1) dL_law_376 rfl ?_
  refine wp_iadd dL_law_377 ?_
  refine wp_ialdS dL_law_378 i1 ?_
  refine wp_aload_n dL_law_379 rfl ?_
  refine wp_iload_n dL_law_380 rfl ?_
  refine wp_iconst (v := 2) dL_law_381 rfl ?_
  refine wp_iadd dL_law_382 ?_
  refine wp_ialdS dL_law_383 i2 ?_
  refine wp_callV (As := [.int (G.2.2.2.2 (nI i + 1).toNatClampNeg), .int (G.2.2.2.2 (nI i + 2).toNatClampNeg)]) (rest := []) dL_law_384 me_X10_look cw_L_55 rfl ⟨(Nat.le_of_ble_eq_true rfl), (Nat.le_of_ble_eq_true rfl)⟩ rfl rfl rfl (Nat.le_of_ble_eq_true rfl) ho (cp_look m ok h8 ri.2.1.2.2.1 ri.2.2.2.1.2.2.1 (by omega) (by omega)) (fun r h1 q => ?_)
  obtain ⟨q0, rfl⟩ := q
  subst q0
  refine fp_wp_h (h' := r_hp h1 mm p) st.2.2.1 ?_
  refine wp_aload_n dL_law_387 rfl ?_
  refine wp_aload_n dL_law_388 rfl ?_
  refine wp_iload_n dL_law_389 rfl ?_
  refine wp_iconst (v := 1) dL_law_390 rfl ?_
  refine wp_iadd dL_law_391 ?_
  refine wp_ialdS dL_law_392 i1 ?_
  refine wp_aload_n dL_law_393 rfl ?_
  refine wp_iload_n dL_law_394 rfl ?_
  refine wp_iconst (v := 2) dL_law_395 rfl ?_
  refine wp_iadd dL_law_396 ?_
  refine wp_ialdS dL_law_397 i2 ?_
  refine wp_callV (As := [.int (G.2.2.2.2 (nI i + 1).toNatClampNeg), .int (G.2.2.2.2 (nI i + 2).toNatClampNeg)]) (rest := [_]) dL_law_398 me_X11_look cw_L_58 rfl ⟨(Nat.le_of_ble_eq_true rfl), (Nat.le_of_ble_eq_true rfl)⟩ rfl rfl rfl (Nat.le_of_ble_eq_true rfl) r_at_m (ct_look ok ra.2.1 ri.2.1.2.2.1 ri.2.2.2.1.2.2.1 (by omega) (by omega) (fun k hk => by have := (ri.2.2.1.1 k hk).2.2.2; have := ri.2.2.1.2; have := ra.2.1; omega)) (fun r h2 q => ?_)
  obtain ⟨q0, rfl⟩ := q
  subst q0
  refine wp_icmp_eq (tgt := 560) dL_law_401 rfl (fun c_401 => ?_) (fun c_401 => ?_)
  · exact nx _ p st.back
  · exact absurd rfl c_401
theorem l_told (st : ST G h o A la mm p B NB SB c) (hc : c ≤ 512) (hL : i + 6 ≤ G.2.2.2.1 3) (hG : G.2.2.2.1 3 ≤ 3074) (nx : NX G o A la mm B NB SB c i Q) : fp_wp G rm_L_law M_L_law 406 [some (.ref (G.2.2.2.1 2)), some (.ref o), some (.ref mm), some (.int (nI i))] [] h Q := by
  obtain ⟨vs, ho⟩ := st.obj
  have hkn := st.2.1.known
  have ri := st.2.1
  have ra := ri.1
  have ok : rok p := ra.1
  have hw := ri.wn (by omega)
  have h8 : ∀ k, k < p.1 28 → p.2.1 11 k < 8 := fun k hk => (ri.2.2.1.1 k hk).1.2.2.2.1
  have hm : ∀ k, k < p.1 28 → p.2.1 15 k ≤ 12 := fun k hk => (ri.2.2.1.1 k hk).1.2.2.1
  have h13 : p.1 13 ≤ 43200 := by have := ra.2.2.2.2.2.2.2.2.2.2; omega
  have i1 := vin (G := G) (n1 (i := i)) hL (by decide) hG
  have i2 := vin (G := G) (n2 (i := i)) hL (by decide) hG
  obtain ⟨ba, sa, ra', fa, oa, K, c1, c2, c3, m, -⟩ := id st.1
  refine wp_aload_n dL_law_406 rfl ?_
  refine wp_aload_n dL_law_407 rfl ?_
  refine wp_iload_n dL_law_408 rfl ?_
  refine wp_iconst (v := 1) dL_law_409 rfl ?_
  refine wp_iadd dL_law_410 ?_
  refine wp_ialdS dL_law_411 i1 ?_
  refine wp_aload_n dL_law_412 rfl ?_
  refine wp_iload_n dL_law_413 rfl ?_
  refine wp_iconst (v := 2) dL_law_414 rfl ?_
  refine wp_iadd dL_law_415 ?_
  refine wp_ialdS dL_law_416 i2 ?_
  refine wp_callV (As := [.int (G.2.2.2.2 (nI i + 1).toNatClampNeg), .int (G.2.2.2.2 (nI i + 2).toNatClampNeg)]) (rest := []) dL_law_417 me_X10_told cw_L_59 rfl ⟨(Nat.le_of_ble_eq_true rfl), (Nat.le_of_ble_eq_true rfl)⟩ rfl rfl rfl (Nat.le_of_ble_eq_true rfl) ho (cp_told m ok ra.2.1) (fun r h1 q => ?_)
  obtain ⟨q0, q1⟩ := q
  subst q0
  have rv : ∃ v, r = some (.int v) := by
    rcases q1 with ⟨-, rfl⟩ | q1
    · exact ⟨_, rfl⟩
    · obtain ⟨_, _, _, _, _, _, rfl⟩ := q1; exact ⟨_, rfl⟩
  obtain ⟨v, rfl⟩ := rv
  refine fp_wp_h (h' := r_hp h1 mm p) st.2.2.1 ?_
  refine wp_aload_n dL_law_420 rfl ?_
  refine wp_aload_n dL_law_421 rfl ?_
  refine wp_iload_n dL_law_422 rfl ?_
  refine wp_iconst (v := 1) dL_law_423 rfl ?_
  refine wp_iadd dL_law_424 ?_
  refine wp_ialdS dL_law_425 i1 ?_
  refine wp_aload_n dL_law_426 rfl ?_
  refine wp_iload_n dL_law_427 rfl ?_
  refine wp_iconst (v := 2) dL_law_428 rfl ?_
  refine wp_iadd dL_law_429 ?_
  refine wp_ialdS dL_law_430 i2 ?_
  refine wp_callV (As := [.int (G.2.2.2.2 (nI i + 1).toNatClampNeg), .int (G.2.2.2.2 (nI i + 2).toNatClampNeg)]) (rest := [.int v]) dL_law_431 me_X11_told cw_L_62 rfl ⟨(Nat.le_of_ble_eq_true rfl), (Nat.le_of_ble_eq_true rfl)⟩ rfl rfl rfl (Nat.le_of_ble_eq_true rfl) r_at_m (ct_told ok ra.2.1 ra.2.2.2.2.2.1 ri.2.1.2.2.2.2.1) (fun r h2 q => ?_)
  obtain ⟨q0, q2⟩ := q
  subst q0
  obtain ⟨v', hv, rfl⟩ := told_uniq q1 q2
  injection hv with hv
  injection hv with hv
  subst hv
  refine wp_icmp_eq (tgt := 560) dL_law_434 rfl (fun c_434 => ?_) (fun c_434 => ?_)
  · exact nx _ p st.back
  · exact absurd rfl c_434
theorem l_sections (st : ST G h o A la mm p B NB SB c) (hc : c ≤ 512) (hL : i + 6 ≤ G.2.2.2.1 3) (hG : G.2.2.2.1 3 ≤ 3074) (nx : NX G o A la mm B NB SB c i Q) : fp_wp G rm_L_law M_L_law 483 [some (.ref (G.2.2.2.1 2)), some (.ref o), some (.ref mm), some (.int (nI i))] [] h Q := by
  obtain ⟨vs, ho⟩ := st.obj
  have hkn := st.2.1.known
  have ri := st.2.1
  have ra := ri.1
  have ok : rok p := ra.1
  have hw := ri.wn (by omega)
  have h8 : ∀ k, k < p.1 28 → p.2.1 11 k < 8 := fun k hk => (ri.2.2.1.1 k hk).1.2.2.2.1
  have hm : ∀ k, k < p.1 28 → p.2.1 15 k ≤ 12 := fun k hk => (ri.2.2.1.1 k hk).1.2.2.1
  have h13 : p.1 13 ≤ 43200 := by have := ra.2.2.2.2.2.2.2.2.2.2; omega
  have i1 := vin (G := G) (n1 (i := i)) hL (by decide) hG
  obtain ⟨ba, sa, ra', fa, oa, K, c1, c2, c3, m, -⟩ := id st.1
  refine wp_aload_n dL_law_483 rfl ?_
  refine wp_aload_n dL_law_484 rfl ?_
  refine wp_iload_n dL_law_485 rfl ?_
  refine wp_iconst (v := 1) dL_law_486 rfl ?_
  refine wp_iadd dL_law_487 ?_
  refine wp_ialdS dL_law_488 i1 ?_
  refine wp_callV (As := [.int (G.2.2.2.2 (nI i + 1).toNatClampNeg)]) (rest := []) dL_law_489 me_X10_sections cw_L_68 rfl ⟨(Nat.le_of_ble_eq_true rfl), (Nat.le_of_ble_eq_true rfl)⟩ rfl rfl rfl (Nat.le_of_ble_eq_true rfl) ho (cp_sections m) (fun r h1 q => ?_)
  obtain ⟨q0, q1⟩ := q
  subst q0
  have rv : ∃ v, r = some (.int v) := by
    rcases q1 with ⟨-, rfl⟩ | q1
    · exact ⟨_, rfl⟩
    · obtain ⟨_, _, _, rfl⟩ := q1; exact ⟨_, rfl⟩
  obtain ⟨v, rfl⟩ := rv
  refine fp_wp_h (h' := r_hp h1 mm p) st.2.2.1 ?_
  refine wp_aload_n dL_law_492 rfl ?_
  refine wp_aload_n dL_law_493 rfl ?_
  refine wp_iload_n dL_law_494 rfl ?_
  refine wp_iconst (v := 1) dL_law_495 rfl ?_
  refine wp_iadd dL_law_496 ?_
  refine wp_ialdS dL_law_497 i1 ?_
  refine wp_callV (As := [.int (G.2.2.2.2 (nI i + 1).toNatClampNeg)]) (rest := [.int v]) dL_law_498 me_X11_sections cw_L_71 rfl ⟨(Nat.le_of_ble_eq_true rfl), (Nat.le_of_ble_eq_true rfl)⟩ rfl rfl rfl (Nat.le_of_ble_eq_true rfl) r_at_m (ct_sections ok ra.2.1) (fun r h2 q => ?_)
  obtain ⟨q0, q2⟩ := q
  subst q0
  obtain ⟨v', hv, rfl⟩ := sec_uniq q1 q2
  injection hv with hv
  injection hv with hv
  subst hv
  refine wp_icmp_eq (tgt := 560) dL_law_501 rfl (fun c_501 => ?_) (fun c_501 => ?_)
  · exact nx _ p st.back
  · exact absurd rfl c_501
theorem l_entry (st : ST G h o A la mm p B NB SB c) (hc : c ≤ 512) (hL : i + 6 ≤ G.2.2.2.1 3) (hG : G.2.2.2.1 3 ≤ 3074) (nx : NX G o A la mm B NB SB c i Q) : fp_wp G rm_L_law M_L_law 439 [some (.ref (G.2.2.2.1 2)), some (.ref o), some (.ref mm), some (.int (nI i))] [] h Q := by
  obtain ⟨vs, ho⟩ := st.obj
  have hkn := st.2.1.known
  have ri := st.2.1
  have ra := ri.1
  have ok : rok p := ra.1
  have hw := ri.wn (by omega)
  have h8 : ∀ k, k < p.1 28 → p.2.1 11 k < 8 := fun k hk => (ri.2.2.1.1 k hk).1.2.2.2.1
  have hm : ∀ k, k < p.1 28 → p.2.1 15 k ≤ 12 := fun k hk => (ri.2.2.1.1 k hk).1.2.2.1
  have h13 : p.1 13 ≤ 43200 := by have := ra.2.2.2.2.2.2.2.2.2.2; omega
  have i1 := vin (G := G) (n1 (i := i)) hL (by decide) hG
  have i2 := vin (G := G) (n2 (i := i)) hL (by decide) hG
  have i3 := vin (G := G) (n3 (i := i)) hL (by decide) hG
  obtain ⟨ba, sa, ra', fa, oa, K, c1, c2, c3, m, -⟩ := id st.1
  refine wp_aload_n dL_law_439 rfl ?_
  refine wp_aload_n dL_law_440 rfl ?_
  refine wp_iload_n dL_law_441 rfl ?_
  refine wp_iconst (v := 1) dL_law_442 rfl ?_
  refine wp_iadd dL_law_443 ?_
  refine wp_ialdS dL_law_444 i1 ?_
  refine wp_aload_n dL_law_445 rfl ?_
  refine wp_iload_n dL_law_446 rfl ?_
  refine wp_iconst (v := 2) dL_law_447 rfl ?_
  refine wp_iadd dL_law_448 ?_
  refine wp_ialdS dL_law_449 i2 ?_
  refine wp_aload_n dL_law_450 rfl ?_
  refine wp_iload_n dL_law_451 rfl ?_
  refine wp_iconst (v := 3) dL_law_452 rfl ?_
  refine wp_iadd dL_law_453 ?_
  refine wp_ialdS dL_law_454 i3 ?_
  refine wp_callV (As := [.int (G.2.2.2.2 (nI i + 1).toNatClampNeg), .int (G.2.2.2.2 (nI i + 2).toNatClampNeg), .int (G.2.2.2.2 (nI i + 3).toNatClampNeg)]) (rest := []) dL_law_455 me_X10_entry cw_L_63 rfl ⟨(Nat.le_of_ble_eq_true rfl), (Nat.le_of_ble_eq_true rfl)⟩ rfl rfl rfl (Nat.le_of_ble_eq_true rfl) ho (cp_entry m) (fun r h1 q => ?_)
  obtain ⟨q0, q1⟩ := q
  subst q0
  have rv : ∃ v, r = some (.long v) := by
    rcases q1 with ⟨-, rfl⟩ | q1
    · exact ⟨_, rfl⟩
    · obtain ⟨_, _, _, _, _, _, _, _, _, _, rfl⟩ := q1; exact ⟨_, rfl⟩
  obtain ⟨v, rfl⟩ := rv
  refine fp_wp_h (h' := r_hp h1 mm p) st.2.2.1 ?_
  refine wp_aload_n dL_law_458 rfl ?_
  refine wp_aload_n dL_law_459 rfl ?_
  refine wp_iload_n dL_law_460 rfl ?_
  refine wp_iconst (v := 1) dL_law_461 rfl ?_
  refine wp_iadd dL_law_462 ?_
  refine wp_ialdS dL_law_463 i1 ?_
  refine wp_aload_n dL_law_464 rfl ?_
  refine wp_iload_n dL_law_465 rfl ?_
  refine wp_iconst (v := 2) dL_law_466 rfl ?_
  refine wp_iadd dL_law_467 ?_
  refine wp_ialdS dL_law_468 i2 ?_
  refine wp_aload_n dL_law_469 rfl ?_
  refine wp_iload_n dL_law_470 rfl ?_
  refine wp_iconst (v := 3) dL_law_471 rfl ?_
  refine wp_iadd dL_law_472 ?_
  refine wp_ialdS dL_law_473 i3 ?_
  refine wp_callV (As := [.int (G.2.2.2.2 (nI i + 1).toNatClampNeg), .int (G.2.2.2.2 (nI i + 2).toNatClampNeg), .int (G.2.2.2.2 (nI i + 3).toNatClampNeg)]) (rest := [.long v]) dL_law_474 me_X11_entry cw_L_67 rfl ⟨(Nat.le_of_ble_eq_true rfl), (Nat.le_of_ble_eq_true rfl)⟩ rfl rfl rfl (Nat.le_of_ble_eq_true rfl) r_at_m (ct_entry ok hkn.2.2.2 hkn.2.2.1) (fun r h2 q => ?_)
  obtain ⟨q0, q2⟩ := q
  subst q0
  obtain ⟨v', hv, rfl⟩ := ent_uniq q1 q2
  injection hv with hv
  injection hv with hv
  subst hv
  refine wp_lcmp dL_law_477 ?_
  refine wp_if_eq (tgt := 560) dL_law_478 rfl (fun c_478 => ?_) (fun c_478 => ?_)
  · exact nx _ p st.back
  · exact absurd (by unfold lg_cmp; simp) c_478
end LL
