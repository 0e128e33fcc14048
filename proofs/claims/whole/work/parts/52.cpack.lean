/-! FieldPack: the whole object; what only reads -/
/-- A: the fixed addresses; K: capacities -/
def CI (G : fp_G) (h : fp_H) (o : Nat) (A la ba sa ra fa oa K c1 c2 c3 : Nat → Nat) (p : rs) : Prop :=
  h.1 o = some (2, .inr (11, [.ref (A 0), .ref (A 1), .ref (A 2), .ref (A 3), .ref (A 4), .ref (A 5), .int (nI (p.1 28))])) ∧
  (h.1 (A 0) = some (9, .inr (10, [.ref (A 9), .ref (A 10)])) ∧ h.1 (A 1) = some (9, .inr (10, [.ref (A 11), .ref (A 12)])) ∧ ∃ f, h.1 (A 4) = some (9, .inl (3, 8, .inr (.inr (.inr (.inr f))))) ∧ ∀ s, s < 8 → f s = some (la s)) ∧
  EN G h (A 2) (A 6) (A 7) (A 8) (A 9) (K 2) oa p (K 0) (K 1) ∧
  DI G h (A 3) (A 13) (A 11) (K 3) la ba sa ra fa c1 c2 c3 p ∧
  h.1 (A 10) = some (11, rc (A 9) (p.1 15) (r_is p (p.1 24), false)) ∧
  h.1 (A 12) = some (13, rc (A 11) (p.1 18) (r_st p (p.1 23), false)) ∧
  ∃ fs, lst G h 18 (A 5) fs (K 4) ∧ fLs h p fs
theorem flt_get (P : Nat → Bool) : ∀ (n k i : Nat), ((List.range n).filter P)[k]? = some i ↔ i < n ∧ P i = true ∧ ((List.range i).filter P).length = k := by
  intro n
  induction n with
  | zero => intro k i; simp
  | succ n ih =>
    intro k i
    rw [List.range_succ, List.filter_append]
    rcases Nat.lt_or_ge k ((List.range n).filter P).length with q | q
    · rw [List.getElem?_append_left q, ih]
      constructor
      · rintro ⟨a, b, c⟩; exact ⟨by omega, b, c⟩
      · rintro ⟨a, b, c⟩
        refine ⟨?_, b, c⟩
        rcases Nat.lt_or_ge i n with z | z
        · exact z
        · have : i = n := by omega
          subst this
          omega
    · rw [List.getElem?_append_right q]
      cases hp : P n with
      | true =>
        simp only [List.filter_cons, hp, if_pos, List.filter_nil]
        constructor
        · intro z
          have hk : k - ((List.range n).filter P).length = 0 := by
            rcases Nat.eq_zero_or_pos (k - ((List.range n).filter P).length) with y | y
            · exact y
            · rw [List.getElem?_eq_none (by simp; omega)] at z; cases z
          rw [hk] at z
          injection z with z
          subst z
          exact ⟨by omega, hp, by omega⟩
        · rintro ⟨a, b, c⟩
          have : i = n := by
            rcases Nat.lt_or_ge i n with z | z
            · exfalso
              have h1 := (ih ((List.range i).filter P).length i).mpr ⟨z, b, rfl⟩
              have := (List.getElem?_eq_some_iff.mp h1).1
              omega
            · omega
          subst this
          rw [show k - ((List.range i).filter P).length = 0 by omega]
          rfl
      | false =>
        simp only [List.filter_cons, hp, List.filter_nil]
        constructor
        · intro z; simp at z
        · rintro ⟨a, b, c⟩
          exfalso
          have : i ≠ n := fun e => by rw [e, hp] at b; cases b
          have h1 := (ih ((List.range i).filter P).length i).mpr ⟨by omega, b, rfl⟩
          have := (List.getElem?_eq_some_iff.mp h1).1
          omega
theorem find_head (P : Nat → Bool) (l : List Nat) : l.find? P = (l.filter P).head? := by
  induction l with
  | nil => rfl
  | cons a l ih =>
    rw [List.find?_cons, List.filter_cons]
    cases P a with
    | true => rfl
    | false => exact ih
theorem dX10_laneOf_0 : decode cX10_laneOf 0 = .ok (.iload_n 1, 1) := by decide +kernel
theorem dX10_laneOf_1 : decode cX10_laneOf 1 = .ok (.ifCond .lt 9, 3) := by decide +kernel
theorem dX10_laneOf_4 : decode cX10_laneOf 4 = .ok (.iload_n 1, 1) := by decide +kernel
theorem dX10_laneOf_5 : decode cX10_laneOf 5 = .ok (.bipush 8, 2) := by decide +kernel
theorem dX10_laneOf_7 : decode cX10_laneOf 7 = .ok (.if_icmp .lt 7, 3) := by decide +kernel
theorem dX10_laneOf_10 : decode cX10_laneOf 10 = .ok (.aconst_null, 1) := by decide +kernel
theorem dX10_laneOf_11 : decode cX10_laneOf 11 = .ok (.goto 9, 3) := by decide +kernel
theorem dX10_laneOf_14 : decode cX10_laneOf 14 = .ok (.aload_n 0, 1) := by decide +kernel
theorem dX10_laneOf_15 : decode cX10_laneOf 15 = .ok (.getfield 48, 3) := by decide +kernel
theorem dX10_laneOf_18 : decode cX10_laneOf 18 = .ok (.iload_n 1, 1) := by decide +kernel
theorem dX10_laneOf_19 : decode cX10_laneOf 19 = .ok (.aaload, 1) := by decide +kernel
theorem dX10_laneOf_20 : decode cX10_laneOf 20 = .ok (.areturn, 1) := by decide +kernel
theorem dX10_nextSection_0 : decode cX10_nextSection 0 = .ok (.iload_n 1, 1) := by decide +kernel
theorem dX10_nextSection_1 : decode cX10_nextSection 1 = .ok (.iconst 2, 1) := by decide +kernel
theorem dX10_nextSection_2 : decode cX10_nextSection 2 = .ok (.if_icmp .ge 7, 3) := by decide +kernel
theorem dX10_nextSection_5 : decode cX10_nextSection 5 = .ok (.aconst_null, 1) := by decide +kernel
theorem dX10_nextSection_6 : decode cX10_nextSection 6 = .ok (.goto 10, 3) := by decide +kernel
theorem dX10_nextSection_9 : decode cX10_nextSection 9 = .ok (.aload_n 0, 1) := by decide +kernel
theorem dX10_nextSection_10 : decode cX10_nextSection 10 = .ok (.iload_n 1, 1) := by decide +kernel
theorem dX10_nextSection_11 : decode cX10_nextSection 11 = .ok (.iconst 2, 1) := by decide +kernel
theorem dX10_nextSection_12 : decode cX10_nextSection 12 = .ok (.isub, 1) := by decide +kernel
theorem dX10_nextSection_13 : decode cX10_nextSection 13 = .ok (.invokevirtual 77, 3) := by decide +kernel
theorem dX10_nextSection_16 : decode cX10_nextSection 16 = .ok (.astore_n 2, 1) := by decide +kernel
theorem dX10_nextSection_17 : decode cX10_nextSection 17 = .ok (.aload_n 2, 1) := by decide +kernel
theorem dX10_nextSection_18 : decode cX10_nextSection 18 = .ok (.ifnull 13, 3) := by decide +kernel
theorem dX10_nextSection_21 : decode cX10_nextSection 21 = .ok (.aload_n 2, 1) := by decide +kernel
theorem dX10_nextSection_22 : decode cX10_nextSection 22 = .ok (.getfield 85, 3) := by decide +kernel
theorem dX10_nextSection_25 : decode cX10_nextSection 25 = .ok (.invokevirtual 129, 3) := by decide +kernel
theorem dX10_nextSection_28 : decode cX10_nextSection 28 = .ok (.ifCond .eq 7, 3) := by decide +kernel
theorem dX10_nextSection_31 : decode cX10_nextSection 31 = .ok (.aconst_null, 1) := by decide +kernel
theorem dX10_nextSection_32 : decode cX10_nextSection 32 = .ok (.goto 14, 3) := by decide +kernel
theorem dX10_nextSection_35 : decode cX10_nextSection 35 = .ok (.aload_n 2, 1) := by decide +kernel
theorem dX10_nextSection_36 : decode cX10_nextSection 36 = .ok (.getfield 85, 3) := by decide +kernel
theorem dX10_nextSection_39 : decode cX10_nextSection 39 = .ok (.iconst 0, 1) := by decide +kernel
theorem dX10_nextSection_40 : decode cX10_nextSection 40 = .ok (.invokevirtual 191, 3) := by decide +kernel
theorem dX10_nextSection_43 : decode cX10_nextSection 43 = .ok (.checkcast 107, 3) := by decide +kernel
theorem dX10_nextSection_46 : decode cX10_nextSection 46 = .ok (.areturn, 1) := by decide +kernel
theorem dX10_waiting_0 : decode cX10_waiting 0 = .ok (.iload_n 1, 1) := by decide +kernel
theorem dX10_waiting_1 : decode cX10_waiting 1 = .ok (.ifCond .ne 11, 3) := by decide +kernel
theorem dX10_waiting_4 : decode cX10_waiting 4 = .ok (.aload_n 0, 1) := by decide +kernel
theorem dX10_waiting_5 : decode cX10_waiting 5 = .ok (.getfield 21, 3) := by decide +kernel
theorem dX10_waiting_8 : decode cX10_waiting 8 = .ok (.invokevirtual 92, 3) := by decide +kernel
theorem dX10_waiting_11 : decode cX10_waiting 11 = .ok (.ireturn, 1) := by decide +kernel
theorem dX10_waiting_12 : decode cX10_waiting 12 = .ok (.iload_n 1, 1) := by decide +kernel
theorem dX10_waiting_13 : decode cX10_waiting 13 = .ok (.iconst 1, 1) := by decide +kernel
theorem dX10_waiting_14 : decode cX10_waiting 14 = .ok (.if_icmp .ne 11, 3) := by decide +kernel
theorem dX10_waiting_17 : decode cX10_waiting 17 = .ok (.aload_n 0, 1) := by decide +kernel
theorem dX10_waiting_18 : decode cX10_waiting 18 = .ok (.getfield 25, 3) := by decide +kernel
theorem dX10_waiting_21 : decode cX10_waiting 21 = .ok (.invokevirtual 92, 3) := by decide +kernel
theorem dX10_waiting_24 : decode cX10_waiting 24 = .ok (.ireturn, 1) := by decide +kernel
theorem dX10_waiting_25 : decode cX10_waiting 25 = .ok (.aload_n 0, 1) := by decide +kernel
theorem dX10_waiting_26 : decode cX10_waiting 26 = .ok (.iload_n 1, 1) := by decide +kernel
theorem dX10_waiting_27 : decode cX10_waiting 27 = .ok (.invokevirtual 152, 3) := by decide +kernel
theorem dX10_waiting_30 : decode cX10_waiting 30 = .ok (.astore_n 2, 1) := by decide +kernel
theorem dX10_waiting_31 : decode cX10_waiting 31 = .ok (.aload_n 2, 1) := by decide +kernel
theorem dX10_waiting_32 : decode cX10_waiting 32 = .ok (.ifnonnull 7, 3) := by decide +kernel
theorem dX10_waiting_35 : decode cX10_waiting 35 = .ok (.iconst (-1), 1) := by decide +kernel
theorem dX10_waiting_36 : decode cX10_waiting 36 = .ok (.goto 7, 3) := by decide +kernel
theorem dX10_waiting_39 : decode cX10_waiting 39 = .ok (.aload_n 2, 1) := by decide +kernel
theorem dX10_waiting_40 : decode cX10_waiting 40 = .ok (.getfield 106, 3) := by decide +kernel
theorem dX10_waiting_43 : decode cX10_waiting 43 = .ok (.ireturn, 1) := by decide +kernel
theorem dX10_look_0 : decode cX10_look 0 = .ok (.iload_n 1, 1) := by decide +kernel
theorem dX10_look_1 : decode cX10_look 1 = .ok (.ifCond .ne 12, 3) := by decide +kernel
theorem dX10_look_4 : decode cX10_look 4 = .ok (.aload_n 0, 1) := by decide +kernel
theorem dX10_look_5 : decode cX10_look 5 = .ok (.getfield 21, 3) := by decide +kernel
theorem dX10_look_8 : decode cX10_look 8 = .ok (.iload_n 2, 1) := by decide +kernel
theorem dX10_look_9 : decode cX10_look 9 = .ok (.invokevirtual 156, 3) := by decide +kernel
theorem dX10_look_12 : decode cX10_look 12 = .ok (.ireturn, 1) := by decide +kernel
theorem dX10_look_13 : decode cX10_look 13 = .ok (.iload_n 1, 1) := by decide +kernel
theorem dX10_look_14 : decode cX10_look 14 = .ok (.iconst 1, 1) := by decide +kernel
theorem dX10_look_15 : decode cX10_look 15 = .ok (.if_icmp .ne 12, 3) := by decide +kernel
theorem dX10_look_18 : decode cX10_look 18 = .ok (.aload_n 0, 1) := by decide +kernel
theorem dX10_look_19 : decode cX10_look 19 = .ok (.getfield 25, 3) := by decide +kernel
theorem dX10_look_22 : decode cX10_look 22 = .ok (.iload_n 2, 1) := by decide +kernel
theorem dX10_look_23 : decode cX10_look 23 = .ok (.invokevirtual 156, 3) := by decide +kernel
theorem dX10_look_26 : decode cX10_look 26 = .ok (.ireturn, 1) := by decide +kernel
theorem dX10_look_27 : decode cX10_look 27 = .ok (.aload_n 0, 1) := by decide +kernel
theorem dX10_look_28 : decode cX10_look 28 = .ok (.iload_n 1, 1) := by decide +kernel
theorem dX10_look_29 : decode cX10_look 29 = .ok (.invokevirtual 152, 3) := by decide +kernel
theorem dX10_look_32 : decode cX10_look 32 = .ok (.astore_n 3, 1) := by decide +kernel
theorem dX10_look_33 : decode cX10_look 33 = .ok (.aload_n 3, 1) := by decide +kernel
theorem dX10_look_34 : decode cX10_look 34 = .ok (.ifnonnull 7, 3) := by decide +kernel
theorem dX10_look_37 : decode cX10_look 37 = .ok (.iconst (-1), 1) := by decide +kernel
theorem dX10_look_38 : decode cX10_look 38 = .ok (.goto 8, 3) := by decide +kernel
theorem dX10_look_41 : decode cX10_look 41 = .ok (.aload_n 3, 1) := by decide +kernel
theorem dX10_look_42 : decode cX10_look 42 = .ok (.iload_n 2, 1) := by decide +kernel
theorem dX10_look_43 : decode cX10_look 43 = .ok (.invokevirtual 159, 3) := by decide +kernel
theorem dX10_look_46 : decode cX10_look 46 = .ok (.ireturn, 1) := by decide +kernel
theorem dX10_tableOf_0 : decode cX10_tableOf 0 = .ok (.iload_n 1, 1) := by decide +kernel
theorem dX10_tableOf_1 : decode cX10_tableOf 1 = .ok (.ifCond .ne 13, 3) := by decide +kernel
theorem dX10_tableOf_4 : decode cX10_tableOf 4 = .ok (.aload_n 0, 1) := by decide +kernel
theorem dX10_tableOf_5 : decode cX10_tableOf 5 = .ok (.getfield 33, 3) := by decide +kernel
theorem dX10_tableOf_8 : decode cX10_tableOf 8 = .ok (.getfield 209, 3) := by decide +kernel
theorem dX10_tableOf_11 : decode cX10_tableOf 11 = .ok (.goto 10, 3) := by decide +kernel
theorem dX10_tableOf_14 : decode cX10_tableOf 14 = .ok (.aload_n 0, 1) := by decide +kernel
theorem dX10_tableOf_15 : decode cX10_tableOf 15 = .ok (.getfield 42, 3) := by decide +kernel
theorem dX10_tableOf_18 : decode cX10_tableOf 18 = .ok (.getfield 213, 3) := by decide +kernel
theorem dX10_tableOf_21 : decode cX10_tableOf 21 = .ok (.areturn, 1) := by decide +kernel
theorem dX10_entry_0 : decode cX10_entry 0 = .ok (.iload_n 1, 1) := by decide +kernel
theorem dX10_entry_1 : decode cX10_entry 1 = .ok (.ifCond .eq 12, 3) := by decide +kernel
theorem dX10_entry_4 : decode cX10_entry 4 = .ok (.iload_n 1, 1) := by decide +kernel
theorem dX10_entry_5 : decode cX10_entry 5 = .ok (.iconst 1, 1) := by decide +kernel
theorem dX10_entry_6 : decode cX10_entry 6 = .ok (.if_icmp .eq 7, 3) := by decide +kernel
theorem dX10_entry_9 : decode cX10_entry 9 = .ok (.ldc2_w 179, 3) := by decide +kernel
theorem dX10_entry_12 : decode cX10_entry 12 = .ok (.lreturn, 1) := by decide +kernel
theorem dX10_entry_13 : decode cX10_entry 13 = .ok (.iload_n 3, 1) := by decide +kernel
theorem dX10_entry_14 : decode cX10_entry 14 = .ok (.ifCond .ne 13, 3) := by decide +kernel
theorem dX10_entry_17 : decode cX10_entry 17 = .ok (.aload_n 0, 1) := by decide +kernel
theorem dX10_entry_18 : decode cX10_entry 18 = .ok (.iload_n 1, 1) := by decide +kernel
theorem dX10_entry_19 : decode cX10_entry 19 = .ok (.invokevirtual 160, 3) := by decide +kernel
theorem dX10_entry_22 : decode cX10_entry 22 = .ok (.iload_n 2, 1) := by decide +kernel
theorem dX10_entry_23 : decode cX10_entry 23 = .ok (.invokevirtual 181, 3) := by decide +kernel
theorem dX10_entry_26 : decode cX10_entry 26 = .ok (.lreturn, 1) := by decide +kernel
theorem dX10_entry_27 : decode cX10_entry 27 = .ok (.iload_n 3, 1) := by decide +kernel
theorem dX10_entry_28 : decode cX10_entry 28 = .ok (.iconst 1, 1) := by decide +kernel
theorem dX10_entry_29 : decode cX10_entry 29 = .ok (.if_icmp .ne 15, 3) := by decide +kernel
theorem dX10_entry_32 : decode cX10_entry 32 = .ok (.aload_n 0, 1) := by decide +kernel
theorem dX10_entry_33 : decode cX10_entry 33 = .ok (.iload_n 1, 1) := by decide +kernel
theorem dX10_entry_34 : decode cX10_entry 34 = .ok (.invokevirtual 160, 3) := by decide +kernel
theorem dX10_entry_37 : decode cX10_entry 37 = .ok (.iload_n 2, 1) := by decide +kernel
theorem dX10_entry_38 : decode cX10_entry 38 = .ok (.invokevirtual 185, 3) := by decide +kernel
theorem dX10_entry_41 : decode cX10_entry 41 = .ok (.goto 6, 3) := by decide +kernel
theorem dX10_entry_44 : decode cX10_entry 44 = .ok (.ldc2_w 179, 3) := by decide +kernel
theorem dX10_entry_47 : decode cX10_entry 47 = .ok (.lreturn, 1) := by decide +kernel
theorem dX10_sections_0 : decode cX10_sections 0 = .ok (.aload_n 0, 1) := by decide +kernel
theorem dX10_sections_1 : decode cX10_sections 1 = .ok (.iload_n 1, 1) := by decide +kernel
theorem dX10_sections_2 : decode cX10_sections 2 = .ok (.invokevirtual 77, 3) := by decide +kernel
theorem dX10_sections_5 : decode cX10_sections 5 = .ok (.astore_n 2, 1) := by decide +kernel
theorem dX10_sections_6 : decode cX10_sections 6 = .ok (.aload_n 2, 1) := by decide +kernel
theorem dX10_sections_7 : decode cX10_sections 7 = .ok (.ifnonnull 7, 3) := by decide +kernel
theorem dX10_sections_10 : decode cX10_sections 10 = .ok (.iconst (-1), 1) := by decide +kernel
theorem dX10_sections_11 : decode cX10_sections 11 = .ok (.goto 10, 3) := by decide +kernel
theorem dX10_sections_14 : decode cX10_sections 14 = .ok (.aload_n 2, 1) := by decide +kernel
theorem dX10_sections_15 : decode cX10_sections 15 = .ok (.getfield 188, 3) := by decide +kernel
theorem dX10_sections_18 : decode cX10_sections 18 = .ok (.invokevirtual 60, 3) := by decide +kernel
theorem dX10_sections_21 : decode cX10_sections 21 = .ok (.ireturn, 1) := by decide +kernel
section CP
variable {G : fp_G} {h : fp_H} {o : Nat} {A la ba sa ra fa oa K c1 c2 c3 : Nat → Nat} {p : rs}
theorem cp_lane {x : Int32} (m : CI G h o A la ba sa ra fa oa K c1 c2 c3 p) : fp_ct G rm_X10_laneOf M_X10_laneOf [.ref o, .int x] h (fun r h' => h' = h ∧ (((¬ ∃ s, s < 8 ∧ x = nI s) ∧ r = some .null) ∨ ∃ s, s < 8 ∧ x = nI s ∧ r = some (.ref (la s)))) := by
  obtain ⟨m1, ⟨-, -, f, m2, m3⟩, -⟩ := m
  refine fp_meth pn_X10 (Nat.le_of_ble_eq_true rfl) rfl ?_
  refine wp_iload_n dX10_laneOf_0 rfl ?_
  refine wp_if_lt (tgt := 10) dX10_laneOf_1 rfl (fun c_1 => ?_) (fun c_1 => ?_)
  · refine wp_null dX10_laneOf_10 ?_
    refine wp_goto (tgt := 20) dX10_laneOf_11 rfl ?_
    refine wp_aret dX10_laneOf_20 rfl (by first | exact Or.inl ⟨_, rfl⟩ | exact Or.inr ⟨_, rfl⟩) (Or.inl rfl) ?_
    refine ⟨rfl, Or.inl ⟨?_, rfl⟩⟩
    rintro ⟨s, hs, rfl⟩
    exact nI_pos (by omega) c_1
  · obtain ⟨n, hn, rfl⟩ := nI_of c_1
    refine wp_iload_n dX10_laneOf_4 rfl ?_
    refine wp_bipush (v := 8) dX10_laneOf_5 rfl ?_
    refine wp_icmp_lt (tgt := 14) dX10_laneOf_7 rfl (fun c_7 => ?_) (fun c_7 => ?_)
    · have hlt : n < 8 := (nI_ltI (b := 8) hn (by decide)).mp c_7
      refine wp_aload_n dX10_laneOf_14 rfl ?_
      refine wp_getf dX10_laneOf_15 fl_X10_48 m1 rfl ?_
      refine wp_iload_n dX10_laneOf_18 rfl ?_
      refine wp_aaldR dX10_laneOf_19 rfl m2 (vp_in_nI hlt (by decide)) (show f (nI n).toNatClampNeg = some (la n) by rw [nI_clamp (by omega), m3 n hlt]) ?_
      refine wp_aret dX10_laneOf_20 rfl (by first | exact Or.inl ⟨_, rfl⟩ | exact Or.inr ⟨_, rfl⟩) (Or.inr ⟨_, rfl⟩) ?_
      exact ⟨rfl, Or.inr ⟨n, hlt, rfl, rfl⟩⟩
    · refine wp_null dX10_laneOf_10 ?_
      refine wp_goto (tgt := 20) dX10_laneOf_11 rfl ?_
      refine wp_aret dX10_laneOf_20 rfl (by first | exact Or.inl ⟨_, rfl⟩ | exact Or.inr ⟨_, rfl⟩) (Or.inl rfl) ?_
      refine ⟨rfl, Or.inl ⟨?_, rfl⟩⟩
      rintro ⟨s, hs, e⟩
      exact c_7 (by rw [e]; exact nI_lt (b := 8) hs (by decide))
theorem r_next_head {p : rs} {s : Nat} (ok : rok p) (hs : s < 2 ^ 30) : r_next p (nI s) = (lyl p s 0).head? := by
  unfold r_next lyl
  rw [find_head]
  congr 1
  apply List.filter_congr
  intro k _
  unfold r_nx r_lies
  congr 1
  have := ok.2.1 11 k
  rw [Bool.eq_iff_iff, beq_iff_eq, beq_iff_eq]
  exact nI_eq (by omega) (by omega)
theorem cp_next {x : Int32} (m : CI G h o A la ba sa ra fa oa K c1 c2 c3 p) (ok : rok p) (h8 : ∀ i, i < p.1 28 → p.2.1 11 i < 8) : fp_ct G rm_X10_nextSection M_X10_nextSection [.ref o, .int x] h (fun r h' => h' = h ∧ ((r = some .null ∧ (if 2 ≤ x ∧ x ≤ 9 then r_next p (x - 2) else none) = none) ∨ ∃ k, k < p.1 28 ∧ p.2.1 14 k = 0 ∧ r = some (.ref (ba k)) ∧ (if 2 ≤ x ∧ x ≤ 9 then r_next p (x - 2) else none) = some k)) := by
  refine fp_meth pn_X10 (Nat.le_of_ble_eq_true rfl) rfl ?_
  refine wp_iload_n dX10_nextSection_0 rfl ?_
  refine wp_iconst (v := 2) dX10_nextSection_1 rfl ?_
  refine wp_icmp_ge (tgt := 9) dX10_nextSection_2 rfl (fun c_2 => ?_) (fun c_2 => ?_)
  · obtain ⟨n, hn, rfl⟩ := nI_of (x := x) (fun q => by
      have h1 := Int32.lt_iff_toInt_lt.mp q
      have h2 := Int32.le_iff_toInt_le.mp c_2
      have e1 : (0 : Int32).toInt = 0 := rfl
      have e2 : (2 : Int32).toInt = 2 := rfl
      omega)
    have hn2 : 2 ≤ n := (nI_leI (a := 2) (by decide) hn).mp c_2
    have h2x : (2 : Int32) ≤ nI n := c_2
    have e9 : (nI n ≤ 9) ↔ n ≤ 9 := nI_leI (b := 9) hn (by decide)
    refine wp_aload_n dX10_nextSection_9 rfl ?_
    refine wp_iload_n dX10_nextSection_10 rfl ?_
    refine wp_iconst (v := 2) dX10_nextSection_11 rfl ?_
    refine wp_isub dX10_nextSection_12 ?_
    rw [show nI n - 2 = nI (n - 2) from pk_sub (b := 2) hn2]
    refine wp_callV (As := [.int (nI (n - 2))]) (rest := []) dX10_nextSection_13 me_X10_laneOf cw_X10_77 rfl ⟨(Nat.le_of_ble_eq_true rfl), (Nat.le_of_ble_eq_true rfl)⟩ rfl rfl rfl (Nat.le_of_ble_eq_true rfl) m.1 (cp_lane m) (fun r h1 q => ?_)
    obtain ⟨q0, q⟩ := q
    rw [q0]
    rcases q with ⟨q1, rfl⟩ | ⟨s, hs, hse, rfl⟩
    · have hgt : ¬ n ≤ 9 := fun z => q1 ⟨n - 2, by omega, rfl⟩
      refine wp_astore_nN dX10_nextSection_16 (Nat.le_of_ble_eq_true rfl) rfl ?_
      refine wp_aload_nN dX10_nextSection_17 rfl ?_
      refine wp_ifnullN (tgt := 31) dX10_nextSection_18 rfl ?_
      refine wp_null dX10_nextSection_31 ?_
      refine wp_goto (tgt := 46) dX10_nextSection_32 rfl ?_
      refine wp_aret dX10_nextSection_46 rfl (by first | exact Or.inl ⟨_, rfl⟩ | exact Or.inr ⟨_, rfl⟩) (Or.inl rfl) ?_
      exact ⟨rfl, Or.inl ⟨rfl, by rw [if_neg (fun z => hgt (e9.mp z.2))]⟩⟩
    · have hns : n - 2 = s := (nI_eq (by omega) (by omega)).mp hse
      rw [if_pos ⟨h2x, e9.mpr (by omega)⟩, hns, r_next_head ok (by omega)]
      obtain ⟨onw, wai, red, e1, e2, -⟩ := m.2.2.2.1.2.2.1 s hs
      obtain ⟨mc, ed, l1, -⟩ := id e2
      refine wp_astore_n dX10_nextSection_16 (Nat.le_of_ble_eq_true rfl) rfl ?_
      refine wp_aload_n dX10_nextSection_17 rfl ?_
      refine wp_ifnull dX10_nextSection_18 ?_
      refine wp_aload_n dX10_nextSection_21 rfl ?_
      refine wp_getf dX10_nextSection_22 fl_X10_85 e1 rfl ?_
      refine wp_callV (As := []) (rest := []) dX10_nextSection_25 me_Jx4a65c_isEmpty_aae02 cw_X10_129 rfl ⟨(Nat.le_of_ble_eq_true rfl), (Nat.le_of_ble_eq_true rfl)⟩ rfl rfl rfl (Nat.le_of_ble_eq_true rfl) l1 (ct_lempty e2) (fun r h2 q => ?_)
      obtain ⟨q0, rfl⟩ := q
      rw [q0]
      cases hl : lyl p s 0 with
      | nil =>
        refine wp_if_eq (tgt := 35) dX10_nextSection_28 rfl (fun c_28 => ?_) (fun c_28 => ?_)
        · exact absurd c_28 (show ¬ nI 1 = 0 by decide)
        · refine wp_null dX10_nextSection_31 ?_
          refine wp_goto (tgt := 46) dX10_nextSection_32 rfl ?_
          refine wp_aret dX10_nextSection_46 rfl (by first | exact Or.inl ⟨_, rfl⟩ | exact Or.inr ⟨_, rfl⟩) (Or.inl rfl) ?_
          exact ⟨rfl, Or.inl ⟨rfl, rfl⟩⟩
      | cons k l =>
        have hk := lyl_rest hl
        rw [hl] at e2
        obtain ⟨cap, rb, fb, hb, -⟩ := (m.2.2.2.1.2.2.2.1 k hk.1).1 hk.2.2.1
        refine wp_if_eq (tgt := 35) dX10_nextSection_28 rfl (fun c_28 => ?_) (fun c_28 => ?_)
        · refine wp_aload_n dX10_nextSection_35 rfl ?_
          refine wp_getf dX10_nextSection_36 fl_X10_85 e1 rfl ?_
          refine wp_iconst (v := 0) dX10_nextSection_39 rfl ?_
          refine wp_callV (As := [.int (nI 0)]) (rest := []) dX10_nextSection_40 me_Jx4a65c_get_915e3 cw_X10_191 rfl ⟨(Nat.le_of_ble_eq_true rfl), (Nat.le_of_ble_eq_true rfl)⟩ rfl rfl rfl (Nat.le_of_ble_eq_true rfl) l1 (ct_lget e2 rfl) (fun r h2 q => ?_)
          obtain ⟨q0, rfl⟩ := q
          rw [q0]
          refine wp_cast dX10_nextSection_43 ck_X10_107 hb rfl ca_X0_X0 ?_
          refine wp_aret dX10_nextSection_46 rfl (by first | exact Or.inl ⟨_, rfl⟩ | exact Or.inr ⟨_, rfl⟩) (Or.inr ⟨_, rfl⟩) ?_
          exact ⟨rfl, Or.inr ⟨k, hk.1, hk.2.2.1, rfl, rfl⟩⟩
        · exact absurd rfl c_28
  · refine wp_null dX10_nextSection_5 ?_
    refine wp_goto (tgt := 16) dX10_nextSection_6 rfl ?_
    refine wp_astore_nN dX10_nextSection_16 (Nat.le_of_ble_eq_true rfl) rfl ?_
    refine wp_aload_nN dX10_nextSection_17 rfl ?_
    refine wp_ifnullN (tgt := 31) dX10_nextSection_18 rfl ?_
    refine wp_null dX10_nextSection_31 ?_
    refine wp_goto (tgt := 46) dX10_nextSection_32 rfl ?_
    refine wp_aret dX10_nextSection_46 rfl (by first | exact Or.inl ⟨_, rfl⟩ | exact Or.inr ⟨_, rfl⟩) (Or.inl rfl) ?_
    exact ⟨rfl, Or.inl ⟨rfl, by rw [if_neg (fun z => c_2 z.1)]⟩⟩
end CP
