/-! FieldPack: field, increment, cancel -/
def sum8 (c : Nat → Nat) : Nat := c 0 + c 1 + c 2 + c 3 + c 4 + c 5 + c 6 + c 7
theorem sum8_upd {c : Nat → Nat} {s v : Nat} (hs : s < 8) : sum8 (upd1 c s v) + c s = sum8 c + v := by
  unfold sum8 upd1
  rcases (show s = 0 ∨ s = 1 ∨ s = 2 ∨ s = 3 ∨ s = 4 ∨ s = 5 ∨ s = 6 ∨ s = 7 by omega) with rfl | rfl | rfl | rfl | rfl | rfl | rfl | rfl <;> simp <;> omega
/-- sections on their wires -/
def r_zn (p : rs) : Nat := ((List.range (p.1 28)).filter (fun k => p.2.1 14 k == 0)).length
def KB (K : Nat → Nat) (p : rs) : Prop := K 0 ≤ max 64 (2 * p.1 13 + 8) ∧ K 1 ≤ 464 ∧ (K 2 ≤ 410 ∧ K 2 ≠ 1) ∧ K 3 ≤ max 64 (2 * p.1 16 + 8) ∧ K 4 ≤ 34 ∧ K 4 ≠ 1
def CX (h : fp_H) (K c1 c2 c3 : Nat → Nat) (p : rs) (B c : Nat) : Prop := h.2.2 + 260 * r_zn p + 250 * r_wn p ≤ B + 2 * (K 0 + K 1 + K 3) + 4 * (K 2 + K 4 + sum8 c1 + sum8 c2 + sum8 c3) + 1400 * p.1 28 + 3 * c
def CC (G : fp_G) (h : fp_H) (o : Nat) (A la : Nat → Nat) (p : rs) (B c : Nat) : Prop := ∃ ba sa ra fa oa K c1 c2 c3, CI G h o A la ba sa ra fa oa K c1 c2 c3 p ∧ KB K p ∧ CX h K c1 c2 c3 p B c
def nR : Nat → Prop := fun t => t ≠ 1
theorem CI.wf {G : fp_G} {h : fp_H} {o : Nat} {A la ba sa ra fa oa K c1 c2 c3 : Nat → Nat} {p : rs} (m : CI G h o A la ba sa ra fa oa K c1 c2 c3 p) : fp_wf h := m.2.2.1.2.2.2.2.2.2
theorem CC.mono {G : fp_G} {h : fp_H} {o : Nat} {A la : Nat → Nat} {p : rs} {B c c' : Nat} (m : CC G h o A la p B c) (hc : c ≤ c') : CC G h o A la p B c' := by
  obtain ⟨ba, sa, ra, fa, oa, K, c1, c2, c3, a, b, d⟩ := m
  exact ⟨ba, sa, ra, fa, oa, K, c1, c2, c3, a, b, by unfold CX at *; omega⟩
def dEq (p p' : rs) : Prop := (p'.1 0 = p.1 0 ∧ p'.1 16 = p.1 16 ∧ p'.1 24 = p.1 24 ∧ p'.1 25 = p.1 25 ∧ p'.1 26 = p.1 26 ∧ p'.1 27 = p.1 27 ∧ p'.1 28 = p.1 28) ∧ (p'.2.1 7 = p.2.1 7 ∧ p'.2.1 11 = p.2.1 11 ∧ p'.2.1 12 = p.2.1 12 ∧ p'.2.1 14 = p.2.1 14 ∧ p'.2.1 15 = p.2.1 15 ∧ p'.2.1 18 = p.2.1 18 ∧ p'.2.1 21 = p.2.1 21 ∧ p'.2.1 22 = p.2.1 22 ∧ p'.2.1 23 = p.2.1 23 ∧ p'.2.1 24 = p.2.1 24) ∧ p'.2.2 3 = p.2.2 3 ∧ p'.2.2 4 = p.2.2 4 ∧ p'.2.2 16 = p.2.2 16 ∧ p'.2.2 17 = p.2.2 17
theorem DI.eq {G : fp_G} {h : fp_H} {de td bk cB : Nat} {la ba sa ra fa c1 c2 c3 : Nat → Nat} {p p' : rs} (d : DI G h de td bk cB la ba sa ra fa c1 c2 c3 p) (e : dEq p p') : DI G h de td bk cB la ba sa ra fa c1 c2 c3 p' := by
  obtain ⟨⟨e0, e16, e24, e25, e26, e27, e28⟩, ⟨a7, a11, a12, a14, a15, a18, a21, a22, a23, a24⟩, l3, l4, l16, l17⟩ := e
  have el : ∀ s w, lyl p' s w = lyl p s w := fun s w => lyl_eq e28 (fun k _ => by rw [a11, a14])
  obtain ⟨d1, d2, d3, d4, d5⟩ := d
  refine ⟨d1.eq e0 e24 e25 e26 e27 l3 l4, by unfold wlx; rw [e16, a7]; exact d2, fun s hs => (d3 s hs).eq (by rw [a24]) (by rw [el]) (by rw [el]) (by rw [el]) rfl rfl rfl, fun k hk => ?_, d5⟩
  rw [e28] at hk
  have es : sbt p' k = sbt p k := by unfold sbt; rw [a22, a21, a23]
  have ec : cdo p' k = cdo p k := by unfold cdo; rw [a12, e0]
  have x := d4 k hk
  unfold SK fdS at *
  rw [a14, es, ec, a12, a15, a18, l16, l17]
  exact x
theorem DI.kept {G : fp_G} {h h' : fp_H} {S : Nat → Prop} {de td bk cB : Nat} {la ba sa ra fa c1 c2 c3 : Nat → Nat} {p : rs} (d : DI G h de td bk cB la ba sa ra fa c1 c2 c3 p) (c : cf S h h') (hS : ∀ t, S t → t = 2 ∨ t = 3 ∨ t = 10 ∨ t = 11 ∨ t = 13 ∨ t = 14 ∨ t = 15 ∨ t = 17 ∨ t = 18) : DI G h' de td bk cB la ba sa ra fa c1 c2 c3 p := by
  have n : ∀ t, (t = 4 ∨ t = 9 ∨ t = 12 ∨ t = 16 ∨ 20 ≤ t) → ¬ S t := fun t ht z => by have := hS t z; omega
  obtain ⟨d1, d2, d3, d4, d5⟩ := d
  exact ⟨d1.kept c (n 4 (by omega)) (n 16 (by omega)), d2.kept c (n 12 (by omega)), fun s hs => (d3 s hs).kept c (n _ (by omega)) (n _ (by omega)) (n _ (by omega)) (n _ (by omega)), fun k hk => (d4 k hk).kept c (n 9 (by omega)) (n _ (by omega)) (n _ (by omega)) (n _ (by omega)), c.wf d5⟩
theorem EN.keptA {G : fp_G} {h h' : fp_H} {en tb op ln wr cO : Nat} {oa : Nat → Nat} {p : rs} {cW cL : Nat} {S : Nat → Prop} (m : EN G h en tb op ln wr cO oa p cW cL) (c : cf S h h') (hS : ∀ t, S t → t = 2 ∨ t = 4 ∨ t = 11 ∨ t = 12 ∨ t = 13 ∨ t = 16 ∨ 18 ≤ t) : EN G h' en tb op ln wr cO oa p cW cL :=
  m.kept c (fun z => by have := hS _ z; omega) (fun z => by have := hS _ z; omega) (fun z => by have := hS _ z; omega) (fun z => by have := hS _ z; omega) (fun z => by have := hS _ z; omega) (fun z => by have := hS _ z; omega)
theorem kEq.of {p p' : rs} {k : Nat} (e0 : p'.1 0 = p.1 0) (a14 : p'.2.1 14 k = p.2.1 14 k) (a12 : p'.2.1 12 k = p.2.1 12 k) (a15 : p'.2.1 15 k = p.2.1 15 k) (a18 : p'.2.1 18 = p.2.1 18) (a21 : p'.2.1 21 = p.2.1 21) (a22 : p'.2.1 22 = p.2.1 22) (a23 : p'.2.1 23 = p.2.1 23) (l : p'.2.2 = p.2.2) : kEq p p' k := by
  refine ⟨e0, a14, a12, a15, by unfold sbt; rw [a21, a22, a23], fun f _ => ⟨by rw [l], by rw [l], by rw [a18]⟩⟩
theorem fLs.eq {h : fp_H} {p p' : rs} {fs : List Nat} (f : fLs h p fs) (e2 : p'.1 2 = p.1 2) (a2 : p'.2.1 2 = p.2.1 2) (l0 : p'.2.2 0 = p.2.2 0) (l1 : p'.2.2 1 = p.2.2 1) : fLs h p' fs := by
  unfold fLs at *
  rw [e2, a2, l0, l1]
  exact f
theorem wn_eq {p p' : rs} (e28 : p'.1 28 = p.1 28) (a14 : p'.2.1 14 = p.2.1 14) : r_wn p' = r_wn p ∧ r_zn p' = r_zn p := by
  unfold r_wn r_zn
  rw [e28, a14]
  exact ⟨rfl, rfl⟩
theorem dX10_field_0 : decode cX10_field 0 = .ok (.aload_n 0, 1) := by decide +kernel
theorem dX10_field_1 : decode cX10_field 1 = .ok (.getfield 56, 3) := by decide +kernel
theorem dX10_field_4 : decode cX10_field 4 = .ok (.invokevirtual 60, 3) := by decide +kernel
theorem dX10_field_7 : decode cX10_field 7 = .ok (.bipush 12, 2) := by decide +kernel
theorem dX10_field_9 : decode cX10_field 9 = .ok (.if_icmp .ge 23, 3) := by decide +kernel
theorem dX10_field_12 : decode cX10_field 12 = .ok (.lload_n 1, 1) := by decide +kernel
theorem dX10_field_13 : decode cX10_field 13 = .ok (.lconst 0, 1) := by decide +kernel
theorem dX10_field_14 : decode cX10_field 14 = .ok (.lcmp, 1) := by decide +kernel
theorem dX10_field_15 : decode cX10_field 15 = .ok (.ifCond .eq 17, 3) := by decide +kernel
theorem dX10_field_18 : decode cX10_field 18 = .ok (.lload_n 1, 1) := by decide +kernel
theorem dX10_field_19 : decode cX10_field 19 = .ok (.invokestatic 64, 3) := by decide +kernel
theorem dX10_field_22 : decode cX10_field 22 = .ok (.ifCond .eq 10, 3) := by decide +kernel
theorem dX10_field_25 : decode cX10_field 25 = .ok (.lload_n 3, 1) := by decide +kernel
theorem dX10_field_26 : decode cX10_field 26 = .ok (.invokestatic 64, 3) := by decide +kernel
theorem dX10_field_29 : decode cX10_field 29 = .ok (.ifCond .ne 5, 3) := by decide +kernel
theorem dX10_field_32 : decode cX10_field 32 = .ok (.iconst (-1), 1) := by decide +kernel
theorem dX10_field_33 : decode cX10_field 33 = .ok (.ireturn, 1) := by decide +kernel
theorem dX10_field_34 : decode cX10_field 34 = .ok (.aload_n 0, 1) := by decide +kernel
theorem dX10_field_35 : decode cX10_field 35 = .ok (.getfield 56, 3) := by decide +kernel
theorem dX10_field_38 : decode cX10_field 38 = .ok (.new 68, 3) := by decide +kernel
theorem dX10_field_41 : decode cX10_field 41 = .ok (.dup, 1) := by decide +kernel
theorem dX10_field_42 : decode cX10_field 42 = .ok (.lload_n 1, 1) := by decide +kernel
theorem dX10_field_43 : decode cX10_field 43 = .ok (.lload_n 3, 1) := by decide +kernel
theorem dX10_field_44 : decode cX10_field 44 = .ok (.iload 5, 2) := by decide +kernel
theorem dX10_field_46 : decode cX10_field 46 = .ok (.invokespecial 70, 3) := by decide +kernel
theorem dX10_field_49 : decode cX10_field 49 = .ok (.invokevirtual 73, 3) := by decide +kernel
theorem dX10_field_52 : decode cX10_field 52 = .ok (.pop, 1) := by decide +kernel
theorem dX10_field_53 : decode cX10_field 53 = .ok (.aload_n 0, 1) := by decide +kernel
theorem dX10_field_54 : decode cX10_field 54 = .ok (.getfield 56, 3) := by decide +kernel
theorem dX10_field_57 : decode cX10_field 57 = .ok (.invokevirtual 60, 3) := by decide +kernel
theorem dX10_field_60 : decode cX10_field 60 = .ok (.ireturn, 1) := by decide +kernel
theorem dX10_increment_0 : decode cX10_increment 0 = .ok (.aload_n 0, 1) := by decide +kernel
theorem dX10_increment_1 : decode cX10_increment 1 = .ok (.getfield 42, 3) := by decide +kernel
theorem dX10_increment_4 : decode cX10_increment 4 = .ok (.aload_n 0, 1) := by decide +kernel
theorem dX10_increment_5 : decode cX10_increment 5 = .ok (.getfield 25, 3) := by decide +kernel
theorem dX10_increment_8 : decode cX10_increment 8 = .ok (.getfield 95, 3) := by decide +kernel
theorem dX10_increment_11 : decode cX10_increment 11 = .ok (.invokevirtual 144, 3) := by decide +kernel
theorem dX10_increment_14 : decode cX10_increment 14 = .ok (.ireturn, 1) := by decide +kernel
theorem dX10_cancel_0 : decode cX10_cancel 0 = .ok (.aload_n 0, 1) := by decide +kernel
theorem dX10_cancel_1 : decode cX10_cancel 1 = .ok (.iload_n 1, 1) := by decide +kernel
theorem dX10_cancel_2 : decode cX10_cancel 2 = .ok (.invokevirtual 77, 3) := by decide +kernel
theorem dX10_cancel_5 : decode cX10_cancel 5 = .ok (.astore_n 2, 1) := by decide +kernel
theorem dX10_cancel_6 : decode cX10_cancel 6 = .ok (.aload_n 2, 1) := by decide +kernel
theorem dX10_cancel_7 : decode cX10_cancel 7 = .ok (.ifnull 10, 3) := by decide +kernel
theorem dX10_cancel_10 : decode cX10_cancel 10 = .ok (.aload_n 2, 1) := by decide +kernel
theorem dX10_cancel_11 : decode cX10_cancel 11 = .ok (.getfield 81, 3) := by decide +kernel
theorem dX10_cancel_14 : decode cX10_cancel 14 = .ok (.ifCond .eq 5, 3) := by decide +kernel
theorem dX10_cancel_17 : decode cX10_cancel 17 = .ok (.iconst (-1), 1) := by decide +kernel
theorem dX10_cancel_18 : decode cX10_cancel 18 = .ok (.ireturn, 1) := by decide +kernel
theorem dX10_cancel_19 : decode cX10_cancel 19 = .ok (.aload_n 2, 1) := by decide +kernel
theorem dX10_cancel_20 : decode cX10_cancel 20 = .ok (.getfield 85, 3) := by decide +kernel
theorem dX10_cancel_23 : decode cX10_cancel 23 = .ok (.invokevirtual 60, 3) := by decide +kernel
theorem dX10_cancel_26 : decode cX10_cancel 26 = .ok (.aload_n 2, 1) := by decide +kernel
theorem dX10_cancel_27 : decode cX10_cancel 27 = .ok (.getfield 133, 3) := by decide +kernel
theorem dX10_cancel_30 : decode cX10_cancel 30 = .ok (.invokevirtual 60, 3) := by decide +kernel
theorem dX10_cancel_33 : decode cX10_cancel 33 = .ok (.iadd, 1) := by decide +kernel
theorem dX10_cancel_34 : decode cX10_cancel 34 = .ok (.istore_n 3, 1) := by decide +kernel
theorem dX10_cancel_35 : decode cX10_cancel 35 = .ok (.aload_n 2, 1) := by decide +kernel
theorem dX10_cancel_36 : decode cX10_cancel 36 = .ok (.getfield 85, 3) := by decide +kernel
theorem dX10_cancel_39 : decode cX10_cancel 39 = .ok (.invokevirtual 103, 3) := by decide +kernel
theorem dX10_cancel_42 : decode cX10_cancel 42 = .ok (.aload_n 2, 1) := by decide +kernel
theorem dX10_cancel_43 : decode cX10_cancel 43 = .ok (.getfield 133, 3) := by decide +kernel
theorem dX10_cancel_46 : decode cX10_cancel 46 = .ok (.invokevirtual 103, 3) := by decide +kernel
theorem dX10_cancel_49 : decode cX10_cancel 49 = .ok (.aload_n 2, 1) := by decide +kernel
theorem dX10_cancel_50 : decode cX10_cancel 50 = .ok (.iconst 1, 1) := by decide +kernel
theorem dX10_cancel_51 : decode cX10_cancel 51 = .ok (.putfield 81, 3) := by decide +kernel
theorem dX10_cancel_54 : decode cX10_cancel 54 = .ok (.aload_n 0, 1) := by decide +kernel
theorem dX10_cancel_55 : decode cX10_cancel 55 = .ok (.getfield 25, 3) := by decide +kernel
theorem dX10_cancel_58 : decode cX10_cancel 58 = .ok (.getfield 95, 3) := by decide +kernel
theorem dX10_cancel_61 : decode cX10_cancel 61 = .ok (.bipush 64, 2) := by decide +kernel
theorem dX10_cancel_63 : decode cX10_cancel 63 = .ok (.bipush 6, 2) := by decide +kernel
theorem dX10_cancel_65 : decode cX10_cancel 65 = .ok (.iload_n 1, 1) := by decide +kernel
theorem dX10_cancel_66 : decode cX10_cancel 66 = .ok (.invokevirtual 148, 3) := by decide +kernel
theorem dX10_cancel_69 : decode cX10_cancel 69 = .ok (.iload_n 3, 1) := by decide +kernel
theorem dX10_cancel_70 : decode cX10_cancel 70 = .ok (.ireturn, 1) := by decide +kernel
section CP
variable {G : fp_G} {h : fp_H} {o : Nat} {A la : Nat → Nat} {p : rs} {B c : Nat}
theorem cp_field {u v s : Nat} (m : CC G h o A la p B c) (hu : u < 2 ^ 64) (hv : v < 2 ^ 64) (hs : s ≤ 1) (hf : p.1 2 ≤ 12) : fp_ct G rm_X10_field M_X10_field [.ref o, .long (lN u), .long (lN v), .int (nI s)] h (fun r h' => (r_fieldNo p u v ∧ r = some (.int (-1)) ∧ h' = h) ∨ (¬ r_fieldNo p u v ∧ r = some (.int (nI (p.1 2 + 1))) ∧ CC G h' o A la (r_field p u v s) B (c + 1) ∧ cf nR h h')) := by
  obtain ⟨ba, sa, ra, fa, oa, K, c1, c2, c3, m, kb, cx⟩ := m
  have w := m.wf
  obtain ⟨m1, ⟨m2, m3, fl, m4, m5⟩, m6, m7, m8, m9, fs, m10, m11⟩ := id m
  obtain ⟨mc, ed, l1, l2⟩ := id m10
  have hfl := m11.1
  have no : r_fieldNo p u v → fp_wp G rm_X10_field M_X10_field 32 [some (.ref o), some (.long (lN u)), none, some (.long (lN v)), none, some (.int (nI s))] [] h (fun r h' => (r_fieldNo p u v ∧ r = some (.int (-1)) ∧ h' = h) ∨ (¬ r_fieldNo p u v ∧ r = some (.int (nI (p.1 2 + 1))) ∧ CC G h' o A la (r_field p u v s) B (c + 1) ∧ cf nR h h')) := by
    intro hn
    refine wp_iconst (v := (-1)) dX10_field_32 rfl ?_
    refine wp_iret dX10_field_33 rfl rfl ?_
    exact Or.inl ⟨hn, rfl, rfl⟩
  refine fp_meth pn_X10 (Nat.le_of_ble_eq_true rfl) rfl ?_
  refine wp_aload_n dX10_field_0 rfl ?_
  refine wp_getf dX10_field_1 fl_X10_56 m1 rfl ?_
  refine wp_callV (As := []) (rest := []) dX10_field_4 me_Jx4a65c_size_8abf5 cw_X10_60 rfl ⟨(Nat.le_of_ble_eq_true rfl), (Nat.le_of_ble_eq_true rfl)⟩ rfl rfl rfl (Nat.le_of_ble_eq_true rfl) l1 (ct_lsize m10) (fun r h1 q => ?_)
  obtain ⟨q0, rfl⟩ := q
  rw [q0, hfl]
  refine wp_bipush (v := 12) dX10_field_7 rfl ?_
  refine wp_icmp_ge (tgt := 32) dX10_field_9 rfl (fun c_9 => ?_) (fun c_9 => ?_)
  · have : 12 ≤ p.1 2 := (nI_leI (a := 12) (by decide) (by omega)).mp c_9
    exact no (Or.inl (by omega))
  · have h12 : ¬ 12 ≤ p.1 2 := fun z => c_9 (nI_le (a := 12) z (by omega))
    refine wp_lload_n dX10_field_12 rfl ?_
    refine wp_lconst (v := 0) dX10_field_13 rfl ?_
    refine wp_lcmp dX10_field_14 ?_
    refine wp_if_eq (tgt := 32) dX10_field_15 rfl (fun c_15 => ?_) (fun c_15 => ?_)
    · rw [cmp0] at c_15
      have : u = 0 := (lN_inj (b := 0) hu (by decide)).mp c_15
      exact no (Or.inr (Or.inl this))
    · rw [cmp0] at c_15
      have hu0 : ¬ u = 0 := fun z => c_15 (by rw [z]; rfl)
      refine wp_lload_n dX10_field_18 rfl ?_
      refine wp_callS (As := [.long (lN u)]) (rest := []) dX10_field_19 me_X10_isText cw_X10_64 ⟨(Nat.le_of_ble_eq_true rfl), (Nat.le_of_ble_eq_true rfl)⟩ rfl rfl rfl (Nat.le_of_ble_eq_true rfl) (cc_isText hu) (fun r h2 q => ?_)
      obtain ⟨q0, rfl⟩ := q
      rw [q0]
      refine wp_if_eq (tgt := 32) dX10_field_22 rfl (fun c_22 => ?_) (fun c_22 => ?_)
      · exact no (Or.inr (Or.inr (Or.inl (b2n_0.mp c_22))))
      · have hwu : whl u = true := by
          cases hd : whl u with
          | true => rfl
          | false => rw [hd] at c_22; exact absurd rfl c_22
        refine wp_lload_n dX10_field_25 rfl ?_
        refine wp_callS (As := [.long (lN v)]) (rest := []) dX10_field_26 me_X10_isText cw_X10_64 ⟨(Nat.le_of_ble_eq_true rfl), (Nat.le_of_ble_eq_true rfl)⟩ rfl rfl rfl (Nat.le_of_ble_eq_true rfl) (cc_isText hv) (fun r h3 q => ?_)
        obtain ⟨q0, rfl⟩ := q
        rw [q0]
        refine wp_if_ne (tgt := 34) dX10_field_29 rfl (fun c_29 => ?_) (fun c_29 => ?_)
        · have hwv : whl v = true := by
            cases hd : whl v with
            | true => rfl
            | false => rw [hd] at c_29; exact absurd rfl c_29
          have hno : ¬ r_fieldNo p u v := by
            rintro (z | z | z | z)
            · omega
            · exact hu0 z
            · rw [hwu] at z; cases z
            · rw [hwv] at z; cases z
          have cn : cf (fun _ => False) h (fp_new h 9 (fO u v s) 3) := cf.new w (by decide)
          refine wp_aload_n dX10_field_34 rfl ?_
          refine wp_getf dX10_field_35 fl_X10_56 m1 rfl ?_
          refine wp_new 9 dX10_field_38 nw_X10_68 ?_
          refine wp_dup dX10_field_41 rfl ?_
          refine wp_lload_n dX10_field_42 rfl ?_
          refine wp_lload_n dX10_field_43 rfl ?_
          refine wp_iload dX10_field_44 rfl ?_
          refine wp_callI (As := [.long (lN u), .long (lN v), .int (nI s)]) (rest := [.ref h.2.1, .ref (A 5)]) dX10_field_46 me_X3_init rfl cw_X10_70 rfl ⟨(Nat.le_of_ble_eq_true rfl), (Nat.le_of_ble_eq_true rfl)⟩ rfl rfl rfl (Nat.le_of_ble_eq_true rfl) (cc_fnew hs fp_new_eq) (fun r h4 q => ?_)
          obtain ⟨rfl, rfl⟩ := q
          rw [fp_put_new]
          have en : (fp_new h 9 (fO u v s) 3).1 h.2.1 = some (9, fO u v s) := fp_new_eq
          have zn : (fp_new h 9 (fO u v s) 3).2.2 = h.2.2 + 3 := rfl
          refine fp_wp_h (h' := fp_new h 9 (fO u v s) 3) rfl ?_
          generalize fp_new h 9 (fO u v s) 3 = h4 at cn en zn ⊢
          generalize h.2.1 = a at en ⊢
          have ff : ∀ t : Nat, ¬ (fun _ : Nat => False) t := fun t z => z
          have hel : ∀ y ∈ fs, el h4 y := fun y hy => by
            obtain ⟨f, hf', rfl⟩ := List.mem_iff_getElem.mp hy
            obtain ⟨a', b1, b2⟩ := m11.2 f (by omega)
            rw [List.getElem?_eq_getElem hf'] at b1
            injection b1 with b1
            rw [b1]
            exact ⟨9, 4, _, _, cn.at b2 (ff 9), rfl, ca_X3_Object⟩
          refine wp_callV (As := [.ref a]) (rest := []) dX10_field_49 me_Jx4a65c_add_9ea2d cw_X10_73 rfl ⟨(Nat.le_of_ble_eq_true rfl), (Nat.le_of_ble_eq_true rfl)⟩ rfl rfl rfl (Nat.le_of_ble_eq_true rfl) (cn.at l1 (ff 18)) (ct_ladd (cn.wf w) (m10.kept cn (ff 18)) (by have := kb.2.2.2.2.1; omega) kb.2.2.2.2.2 hel en (by decide) rfl ca_X3_Object) (fun r h5 q => ?_)
          obtain ⟨cN, rfl, y1, y2, y3, y4, y5, y6⟩ := q
          have c5 : cf (fun x => x = 18) h h5 := (cn.mono (fun _ z => z.elim)).trans y5
          have m15 := c5.at m1 (by decide)
          obtain ⟨mc5, ed5, l15, -⟩ := id y1
          refine wp_pop dX10_field_52 rfl ?_
          refine wp_aload_n dX10_field_53 rfl ?_
          refine wp_getf dX10_field_54 fl_X10_56 m15 rfl ?_
          refine wp_callV (As := []) (rest := []) dX10_field_57 me_Jx4a65c_size_8abf5 cw_X10_60 rfl ⟨(Nat.le_of_ble_eq_true rfl), (Nat.le_of_ble_eq_true rfl)⟩ rfl rfl rfl (Nat.le_of_ble_eq_true rfl) l15 (ct_lsize y1) (fun r h6 q => ?_)
          obtain ⟨q0, rfl⟩ := q
          rw [q0, List.length_append, hfl]
          refine wp_iret dX10_field_60 rfl rfl ?_
          refine Or.inr ⟨hno, rfl, ⟨ba, sa, ra, fa, oa, (fun i => if i = 4 then cN else K i), c1, c2, c3, ?_, ?_, ?_⟩, c5.mono (fun t z => by show t ≠ 1; omega)⟩
          · have ea : ∀ j, j ≠ 2 → (r_field p u v s).2.1 j = p.2.1 j := fun j hj => by funext i; simp [r_field, r_si, r_sa, r_sl, hj]
            have el : ∀ j, j ≠ 0 → j ≠ 1 → (r_field p u v s).2.2 j = p.2.2 j := fun j h0 h1 => by funext i; simp [r_field, r_si, r_sa, r_sl, h0, h1]
            have e1 : ∀ x, x ≠ 2 → (r_field p u v s).1 x = p.1 x := fun x hx => by simp [r_field, r_si, r_sa, r_sl, hx]
            refine ⟨by rw [e1 28 (by decide)]; exact m15, ⟨c5.at m2 (by decide), c5.at m3 (by decide), fl, c5.at m4 (by decide), m5⟩, ?_, ?_, ?_, ?_, fs ++ [a], y1, ?_⟩
            · refine (m6.keptA c5 (fun t z => by omega)).eq ⟨e1 0 (by decide), e1 1 (by decide), e1 6 (by decide), e1 10 (by decide), e1 11 (by decide), e1 12 (by decide), e1 28 (by decide), ea 11 (by decide), ea 12 (by decide), ea 13 (by decide), ea 19 (by decide), ea 20 (by decide), el 3 (by decide) (by decide), el 4 (by decide) (by decide)⟩ ?_
              unfold wlx; rw [e1 13 (by decide), ea 6 (by decide)]
            · refine (m7.kept c5 (fun t z => by omega)).eq ⟨⟨e1 0 (by decide), e1 16 (by decide), e1 24 (by decide), e1 25 (by decide), e1 26 (by decide), e1 27 (by decide), e1 28 (by decide)⟩, ⟨ea 7 (by decide), ea 11 (by decide), ea 12 (by decide), ea 14 (by decide), ea 15 (by decide), ea 18 (by decide), ea 21 (by decide), ea 22 (by decide), ea 23 (by decide), ea 24 (by decide)⟩, el 3 (by decide) (by decide), el 4 (by decide) (by decide), el 16 (by decide) (by decide), el 17 (by decide) (by decide)⟩
            · have : r_is (r_field p u v s) ((r_field p u v s).1 24) = r_is p (p.1 24) := by unfold r_is; rw [e1 24 (by decide), ea 5 (by decide)]
              rw [this, e1 15 (by decide)]
              exact c5.at m8 (by decide)
            · have : r_st (r_field p u v s) ((r_field p u v s).1 23) = r_st p (p.1 23) := by unfold r_st; rw [e1 23 (by decide), ea 10 (by decide)]
              rw [this, e1 18 (by decide)]
              exact c5.at m9 (by decide)
            · have e2 : (r_field p u v s).1 2 = p.1 2 + 1 := by simp [r_field, r_si]
              refine ⟨by rw [List.length_append, hfl, e2]; rfl, fun f hlt => ?_⟩
              rw [e2] at hlt
              by_cases e : f = p.1 2
              · subst e
                refine ⟨a, by rw [List.getElem?_append_right (by omega), hfl, Nat.sub_self]; rfl, ?_⟩
                have : fO ((r_field p u v s).2.2 0 (p.1 2)) ((r_field p u v s).2.2 1 (p.1 2)) ((r_field p u v s).2.1 2 (p.1 2)) = fO u v s := by simp [r_field, r_si, r_sa, r_sl]
                rw [this]
                exact y5.at en (by decide)
              · obtain ⟨a', b1, b2⟩ := m11.2 f (by omega)
                refine ⟨a', by rw [List.getElem?_append_left (by omega)]; exact b1, ?_⟩
                have : fO ((r_field p u v s).2.2 0 f) ((r_field p u v s).2.2 1 f) ((r_field p u v s).2.1 2 f) = fO (p.2.2 0 f) (p.2.2 1 f) (p.2.1 2 f) := by simp [r_field, r_si, r_sa, r_sl, e]
                rw [this]
                exact c5.at b2 (by decide)
          · obtain ⟨k0, k1, k2, k3, k4, k5⟩ := kb
            refine ⟨?_, k1, k2, ?_, ?_, y2⟩
            · show K 0 ≤ max 64 (2 * (r_field p u v s).1 13 + 8)
              simp [r_field, r_si, r_sa, r_sl]
              omega
            · show K 3 ≤ max 64 (2 * (r_field p u v s).1 16 + 8)
              simp [r_field, r_si, r_sa, r_sl]
              omega
            · show cN ≤ 34
              omega
          · unfold CX at *
            show h5.2.2 + 260 * r_zn p + 250 * r_wn p ≤ B + 2 * (K 0 + K 1 + K 3) + 4 * (K 2 + cN + sum8 c1 + sum8 c2 + sum8 c3) + 1400 * p.1 28 + 3 * (c + 1)
            omega
        · have hwv : whl v = false := b2n_0.mp c_29
          exact no (Or.inr (Or.inr (Or.inr hwv)))
theorem cp_inc (m : CC G h o A la p B c) (ok : rok p) (h24 : p.1 24 ≤ 2400) (h27 : p.1 27 ≤ p.1 24) (h16 : p.1 16 + 6 ≤ 4000) (hm : ∀ k, k < p.1 28 → p.2.1 15 k ≤ 12) (h23 : p.1 23 ≤ p.1 19) : fp_ct G rm_X10_increment M_X10_increment [.ref o] h (fun r h' => (p.1 24 ≤ p.1 27 ∧ r = some (.int 0) ∧ h' = h) ∨ (p.1 27 < p.1 24 ∧ r = some (.int (nI (p.1 24 - p.1 27))) ∧ CC G h' o A la (r_inc p) B (c + 1) ∧ cf nR h h')) := by
  obtain ⟨ba, sa, ra, fa, oa, K, c1, c2, c3, m, kb, cx⟩ := m
  have w := m.wf
  obtain ⟨m1, ⟨m2, m3, fl, m4, m5⟩, m6, m7, m8, m9, fs, m10, m11⟩ := id m
  obtain ⟨⟨d1, d2⟩, d3, d4, d5, d6⟩ := id m7
  obtain ⟨n1, n2, n3, f1, f2, f3, a1, -⟩ := d2.ex
  obtain ⟨rb, fb, b1, -⟩ := id d3
  have tell : fp_ct G rm_X1_tellCome M_X1_tellCome [.ref (A 3), .ref (A 11)] h (fun r h' => (p.1 24 ≤ p.1 27 ∧ r = some (.int 0) ∧ h' = h) ∨ (p.1 27 < p.1 24 ∧ r = some (.int (nI (p.1 24 - p.1 27))) ∧ CC G h' o A la (r_inc p) B (c + 1) ∧ cf nR h h')) := by
    refine fp_meth pn_X1 (Nat.le_of_ble_eq_true rfl) rfl ?_
    refine wp_aload_n dX1_tellCome_0 rfl ?_
    refine wp_getf dX1_tellCome_1 fl_X1_14 d1 rfl ?_
    refine wp_getf dX1_tellCome_4 fl_X1_60 a1 rfl ?_
    refine wp_aload_n dX1_tellCome_7 rfl ?_
    refine wp_getf dX1_tellCome_8 fl_X1_129 d1 rfl ?_
    refine wp_isub dX1_tellCome_11 ?_
    rw [pk_sub h27]
    refine wp_istore_n dX1_tellCome_12 (Nat.le_of_ble_eq_true rfl) rfl ?_
    refine wp_iload_n dX1_tellCome_13 rfl ?_
    refine wp_if_le (tgt := 36) dX1_tellCome_14 rfl (fun c_14 => ?_) (fun c_14 => ?_)
    · have hz : p.1 24 - p.1 27 = 0 := by
        have := (nI_leI (b := 0) (by omega) (by decide)).mp c_14
        omega
      refine wp_iload_n dX1_tellCome_36 rfl ?_
      refine wp_iret dX1_tellCome_37 rfl rfl ?_
      exact Or.inl ⟨by omega, by rw [hz]; rfl, rfl⟩
    · have hz : 0 < p.1 24 - p.1 27 := by
        rcases Nat.eq_zero_or_pos (p.1 24 - p.1 27) with q | q
        · exact absurd (by rw [q]; decide) c_14
        · exact q
      refine wp_aload_n dX1_tellCome_17 rfl ?_
      refine wp_iconst (v := 0) dX1_tellCome_18 rfl ?_
      refine wp_bipush (v := 6) dX1_tellCome_19 rfl ?_
      refine wp_iload_n dX1_tellCome_21 rfl ?_
      refine wp_callV (As := [.int (nI 0), .int (nI 6), .int (nI (p.1 24 - p.1 27))]) (rest := []) dX1_tellCome_22 me_X0_putNumber cw_X1_125 rfl ⟨(Nat.le_of_ble_eq_true rfl), (Nat.le_of_ble_eq_true rfl)⟩ rfl rfl rfl (Nat.le_of_ble_eq_true rfl) b1 (cc_putNumber w d3 (by rw [wlx_len]; omega) (by decide) (or0 6) (by omega)) (fun r h2 q => ?_)
      obtain ⟨rfl, cB, q1, q2, q3, q4, q5⟩ := q
      have d12 := q4.at d1 (by decide)
      refine wp_aload_n dX1_tellCome_25 rfl ?_
      refine wp_aload_n dX1_tellCome_26 rfl ?_
      refine wp_getf dX1_tellCome_27 fl_X1_14 d12 rfl ?_
      refine wp_getf dX1_tellCome_30 fl_X1_60 (q4.at a1 (by decide)) rfl ?_
      refine wp_putf dX1_tellCome_33 (fs_X1_129 _) d12 (Nat.le_of_ble_eq_true rfl) rfl rfl ?_
      refine wp_iload_n dX1_tellCome_36 rfl ?_
      refine wp_iret dX1_tellCome_37 rfl rfl ?_
      refine Or.inr ⟨by omega, rfl, ?_⟩
      have c3' : cf (fun x => x = 4) h2 (fp_put h2 (A 3) 4 (.inr (2, [.ref (A 13), .int (nI (p.1 24))]))) := cf.put1 d12
      have c4 : cf (fun x => x = 4 ∨ x = 12) h (fp_put h2 (A 3) 4 (.inr (2, [.ref (A 13), .int (nI (p.1 24))]))) := (q4.mono (fun _ z => Or.inr z)).trans (c3'.mono (fun _ z => Or.inl z))
      have e1 : ∀ x, x ≠ 16 → x ≠ 19 → x ≠ 27 → (r_inc p).1 x = p.1 x := fun x h1 h2 h3 => by
        show (if x = 27 then p.1 24 else (r_tell p 3 (p.1 24 - p.1 27)).1 x) = p.1 x
        rw [if_neg h3, r_tell_k h1 h2]
      have ea : ∀ j, j ≠ 7 → j ≠ 8 → j ≠ 9 → j ≠ 10 → (r_inc p).2.1 j = p.2.1 j := fun j h1 h2 h3 h4 => r_tell_a h1 h2 h3 h4
      have el : (r_inc p).2.2 = p.2.2 := r_tell_l
      have e27 : (r_inc p).1 27 = p.1 24 := by simp [r_inc, r_si]
      have ewl : wlx (r_inc p) 16 7 = wlx p 16 7 ++ nb 0 6 (p.1 24 - p.1 27) := by
        have : wlx (r_inc p) 16 7 = wlx (r_tell p 3 (p.1 24 - p.1 27)) 16 7 := rfl
        rw [this, wlx_told]
        rfl
      have e16 : (r_inc p).1 16 = p.1 16 + (nb 0 6 (p.1 24 - p.1 27)).length := by
        have := congrArg List.length ewl
        rw [wlx_len, List.length_append, wlx_len] at this
        exact this
      have elyl : ∀ s w, lyl (r_inc p) s w = lyl p s w := fun s w => lyl_eq (e1 28 (by decide) (by decide) (by decide)) (fun k _ => by rw [ea 11 (by decide) (by decide) (by decide) (by decide), ea 14 (by decide) (by decide) (by decide) (by decide)])
      have t4 : ∀ t, t ≠ 4 → t ≠ 12 → ¬ (fun x => x = 4 ∨ x = 12) t := fun t h1 h2 z => z.elim h1 h2
      have g4 : (fp_put h2 (A 3) 4 (.inr (2, [.ref (A 13), .int (nI (p.1 24))]))).1 (A 3) = some (4, .inr (2, [.ref (A 13), .int (nI (p.1 24))])) := fp_put_eq
      have z4 : (fp_put h2 (A 3) 4 (.inr (2, [.ref (A 13), .int (nI (p.1 24))]))).2.2 = h2.2.2 := rfl
      refine ⟨?_, c4.mono (fun t z => by show t ≠ 1; omega)⟩
      show CC G (fp_put h2 (A 3) 4 (.inr (2, [.ref (A 13), .int (nI (p.1 24))]))) o A la (r_inc p) B (c + 1)
      generalize fp_put h2 (A 3) 4 (.inr (2, [.ref (A 13), .int (nI (p.1 24))])) = h3 at c3' c4 g4 z4 ⊢
      have d28 := e1 28 (by decide) (by decide) (by decide)
      have a11 := ea 11 (by decide) (by decide) (by decide) (by decide)
      have a12 := ea 12 (by decide) (by decide) (by decide) (by decide)
      have a14 := ea 14 (by decide) (by decide) (by decide) (by decide)
      refine ⟨ba, sa, ra, fa, oa, (fun i => if i = 3 then cB else K i), c1, c2, c3, ⟨by rw [d28]; exact c4.at m1 (t4 2 (by decide) (by decide)), ⟨c4.at m2 (t4 9 (by decide) (by decide)), c4.at m3 (t4 9 (by decide) (by decide)), fl, c4.at m4 (t4 9 (by decide) (by decide)), m5⟩, ?_, ⟨⟨by rw [e27]; exact g4, ?_⟩, by rw [ewl]; exact q1.kept c3' (by decide), fun s hs => ?_, fun k hk => ?_, c4.wf w⟩, ?_, ?_, fs, m10.kept c4 (t4 18 (by decide) (by decide)), (m11.kept c4 (t4 9 (by decide) (by decide))).eq (e1 2 (by decide) (by decide) (by decide)) (ea 2 (by decide) (by decide) (by decide) (by decide)) (by rw [el]) (by rw [el])⟩, ?_, ?_⟩
      · refine (m6.keptA c4 (fun t z => by omega)).eq ⟨e1 0 (by decide) (by decide) (by decide), e1 1 (by decide) (by decide) (by decide), e1 6 (by decide) (by decide) (by decide), e1 10 (by decide) (by decide) (by decide), e1 11 (by decide) (by decide) (by decide), e1 12 (by decide) (by decide) (by decide), d28, a11, a12, ea 13 (by decide) (by decide) (by decide) (by decide), ea 19 (by decide) (by decide) (by decide) (by decide), ea 20 (by decide) (by decide) (by decide) (by decide), by rw [el], by rw [el]⟩ ?_
        unfold wlx; rw [e1 13 (by decide) (by decide) (by decide), ea 6 (by decide) (by decide) (by decide) (by decide)]
      · rw [el, e1 0 (by decide) (by decide) (by decide), e1 24 (by decide) (by decide) (by decide), e1 25 (by decide) (by decide) (by decide), e1 26 (by decide) (by decide) (by decide)]
        exact d2.kept c4 (t4 16 (by decide) (by decide))
      · exact ((d4 s hs).kept c4 (t4 _ (by omega) (by omega)) (t4 _ (by omega) (by omega)) (t4 _ (by omega) (by omega)) (t4 _ (by omega) (by omega))).eq (by rw [ea 24 (by decide) (by decide) (by decide) (by decide)]) (by rw [elyl]) (by rw [elyl]) (by rw [elyl]) rfl rfl rfl
      · rw [d28] at hk
        exact ((d5 k hk).kept c4 (t4 9 (by omega) (by omega)) (t4 _ (by omega) (by omega)) (t4 _ (by omega) (by omega)) (t4 _ (by omega) (by omega))).eq (kEq.of (e1 0 (by decide) (by decide) (by decide)) (by rw [a14]) (by rw [a12]) (by rw [ea 15 (by decide) (by decide) (by decide) (by decide)]) (ea 18 (by decide) (by decide) (by decide) (by decide)) (ea 21 (by decide) (by decide) (by decide) (by decide)) (ea 22 (by decide) (by decide) (by decide) (by decide)) (ea 23 (by decide) (by decide) (by decide) (by decide)) el) (hm k hk) rfl rfl rfl rfl
      · have : r_is (r_inc p) ((r_inc p).1 24) = r_is p (p.1 24) := by unfold r_is; rw [e1 24 (by decide) (by decide) (by decide), ea 5 (by decide) (by decide) (by decide) (by decide)]
        rw [this, e1 15 (by decide) (by decide) (by decide)]
        exact c4.at m8 (t4 11 (by decide) (by decide))
      · have : r_st (r_inc p) ((r_inc p).1 23) = r_st p (p.1 23) := by
          rw [e1 23 (by decide) (by decide) (by decide)]
          unfold r_st
          split
          · rfl
          · show (r_tell p 3 (p.1 24 - p.1 27)).2.1 10 (p.1 23 - 1) = _
            unfold r_tell
            simp only [r_told, r_si, r_sa]
            rw [if_neg (by rw [r_lays_k (show 19 ≠ r_wc 1 by decide)]; rintro ⟨-, z⟩; omega)]
            simp [r_lays_a (show 10 ≠ r_wa 1 by decide)]
        rw [this, e1 18 (by decide) (by decide) (by decide)]
        exact c4.at m9 (t4 13 (by decide) (by decide))
      · obtain ⟨k0, k1, k2, k3, k4, k5⟩ := kb
        rw [List.length_append, wlx_len] at q3
        refine ⟨?_, k1, k2, ?_, k4, k5⟩
        · show K 0 ≤ max 64 (2 * (r_inc p).1 13 + 8)
          rw [e1 13 (by decide) (by decide) (by decide)]
          exact k0
        · show cB ≤ max 64 (2 * (r_inc p).1 16 + 8)
          rw [e16]
          omega
      · have wz := wn_eq (p' := r_inc p) d28 a14
        unfold CX at *
        rw [wz.1, wz.2, d28]
        show h3.2.2 + 260 * r_zn p + 250 * r_wn p ≤ B + 2 * (K 0 + K 1 + cB) + 4 * (K 2 + K 4 + sum8 c1 + sum8 c2 + sum8 c3) + 1400 * p.1 28 + 3 * (c + 1)
        omega
  refine fp_meth pn_X10 (Nat.le_of_ble_eq_true rfl) rfl ?_
  refine wp_aload_n dX10_increment_0 rfl ?_
  refine wp_getf dX10_increment_1 fl_X10_42 m1 rfl ?_
  refine wp_aload_n dX10_increment_4 rfl ?_
  refine wp_getf dX10_increment_5 fl_X10_25 m1 rfl ?_
  refine wp_getf dX10_increment_8 fl_X10_95 m3 rfl ?_
  refine wp_callV (As := [.ref (A 11)]) (rest := []) dX10_increment_11 me_X1_tellCome cw_X10_144 rfl ⟨(Nat.le_of_ble_eq_true rfl), (Nat.le_of_ble_eq_true rfl)⟩ rfl rfl rfl (Nat.le_of_ble_eq_true rfl) d1 (tell) (fun r h2 q => ?_)
  rcases q with ⟨q1, rfl, q2⟩ | ⟨q1, rfl, q2⟩
  · refine wp_iret dX10_increment_14 rfl rfl ?_
    exact Or.inl ⟨q1, rfl, q2⟩
  · refine wp_iret dX10_increment_14 rfl rfl ?_
    exact Or.inr ⟨q1, rfl, q2⟩
end CP
