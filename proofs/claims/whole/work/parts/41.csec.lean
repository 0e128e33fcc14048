/-! Encoder: who is at risk; a section's front -/
def eN (p : rs) (tb op ln : Nat) (x5 x6 x7 x8 : Int32) : fp_E := .inr (3, [.ref tb, .int (nI (p.1 1)), .ref op, .int (nI (p.1 12)), .ref ln, .int x5, .int x6, .int x7, .int x8])
theorem any_filter (P Q : Nat → Bool) : ∀ l : List Nat, (l.filter P).any Q = l.any (fun k => P k && Q k) := by
  intro l
  induction l with
  | nil => rfl
  | cons a l ih =>
    rw [List.filter_cons]
    by_cases c : P a = true
    · rw [if_pos c, List.any_cons, List.any_cons, ih, c, Bool.true_and]
    · rw [if_neg c, ih, List.any_cons]
      simp only [Bool.not_eq_true] at c
      rw [c, Bool.false_and, Bool.false_or]
theorem r_risk_opn (p : rs) (s : Nat) : r_risk p s = (opn p).any (fun k => p.2.1 11 k == s && decide (p.1 12 < p.2.1 12 k)) := by
  unfold r_risk opn
  rw [any_filter]
  congr 1
  funext k
  unfold r_isRisk
  cases (p.2.1 11 k == s) <;> cases (p.2.1 13 k != 0) <;> simp
theorem dX2_isAtRisk_0 : decode cX2_isAtRisk 0 = .ok (.iconst 0, 1) := by decide +kernel
theorem dX2_isAtRisk_1 : decode cX2_isAtRisk 1 = .ok (.istore_n 2, 1) := by decide +kernel
theorem dX2_isAtRisk_2 : decode cX2_isAtRisk 2 = .ok (.iload_n 2, 1) := by decide +kernel
theorem dX2_isAtRisk_3 : decode cX2_isAtRisk 3 = .ok (.aload_n 0, 1) := by decide +kernel
theorem dX2_isAtRisk_4 : decode cX2_isAtRisk 4 = .ok (.getfield 27, 3) := by decide +kernel
theorem dX2_isAtRisk_7 : decode cX2_isAtRisk 7 = .ok (.invokevirtual 66, 3) := by decide +kernel
theorem dX2_isAtRisk_10 : decode cX2_isAtRisk 10 = .ok (.if_icmp .ge 50, 3) := by decide +kernel
theorem dX2_isAtRisk_13 : decode cX2_isAtRisk 13 = .ok (.aload_n 0, 1) := by decide +kernel
theorem dX2_isAtRisk_14 : decode cX2_isAtRisk 14 = .ok (.getfield 27, 3) := by decide +kernel
theorem dX2_isAtRisk_17 : decode cX2_isAtRisk 17 = .ok (.iload_n 2, 1) := by decide +kernel
theorem dX2_isAtRisk_18 : decode cX2_isAtRisk 18 = .ok (.invokevirtual 68, 3) := by decide +kernel
theorem dX2_isAtRisk_21 : decode cX2_isAtRisk 21 = .ok (.checkcast 78, 3) := by decide +kernel
theorem dX2_isAtRisk_24 : decode cX2_isAtRisk 24 = .ok (.getfield 180, 3) := by decide +kernel
theorem dX2_isAtRisk_27 : decode cX2_isAtRisk 27 = .ok (.iload_n 1, 1) := by decide +kernel
theorem dX2_isAtRisk_28 : decode cX2_isAtRisk 28 = .ok (.if_icmp .ne 26, 3) := by decide +kernel
theorem dX2_isAtRisk_31 : decode cX2_isAtRisk 31 = .ok (.aload_n 0, 1) := by decide +kernel
theorem dX2_isAtRisk_32 : decode cX2_isAtRisk 32 = .ok (.getfield 27, 3) := by decide +kernel
theorem dX2_isAtRisk_35 : decode cX2_isAtRisk 35 = .ok (.iload_n 2, 1) := by decide +kernel
theorem dX2_isAtRisk_36 : decode cX2_isAtRisk 36 = .ok (.invokevirtual 68, 3) := by decide +kernel
theorem dX2_isAtRisk_39 : decode cX2_isAtRisk 39 = .ok (.checkcast 78, 3) := by decide +kernel
theorem dX2_isAtRisk_42 : decode cX2_isAtRisk 42 = .ok (.getfield 183, 3) := by decide +kernel
theorem dX2_isAtRisk_45 : decode cX2_isAtRisk 45 = .ok (.aload_n 0, 1) := by decide +kernel
theorem dX2_isAtRisk_46 : decode cX2_isAtRisk 46 = .ok (.getfield 163, 3) := by decide +kernel
theorem dX2_isAtRisk_49 : decode cX2_isAtRisk 49 = .ok (.if_icmp .le 5, 3) := by decide +kernel
theorem dX2_isAtRisk_52 : decode cX2_isAtRisk 52 = .ok (.iconst 1, 1) := by decide +kernel
theorem dX2_isAtRisk_53 : decode cX2_isAtRisk 53 = .ok (.ireturn, 1) := by decide +kernel
theorem dX2_isAtRisk_54 : decode cX2_isAtRisk 54 = .ok (.iinc 2 1, 3) := by decide +kernel
theorem dX2_isAtRisk_57 : decode cX2_isAtRisk 57 = .ok (.goto (-55), 3) := by decide +kernel
theorem dX2_isAtRisk_60 : decode cX2_isAtRisk 60 = .ok (.iconst 0, 1) := by decide +kernel
theorem dX2_isAtRisk_61 : decode cX2_isAtRisk 61 = .ok (.ireturn, 1) := by decide +kernel
theorem dX2_streamsAtRisk_0 : decode cX2_streamsAtRisk 0 = .ok (.iconst 0, 1) := by decide +kernel
theorem dX2_streamsAtRisk_1 : decode cX2_streamsAtRisk 1 = .ok (.istore_n 1, 1) := by decide +kernel
theorem dX2_streamsAtRisk_2 : decode cX2_streamsAtRisk 2 = .ok (.iconst 0, 1) := by decide +kernel
theorem dX2_streamsAtRisk_3 : decode cX2_streamsAtRisk 3 = .ok (.istore_n 2, 1) := by decide +kernel
theorem dX2_streamsAtRisk_4 : decode cX2_streamsAtRisk 4 = .ok (.iload_n 2, 1) := by decide +kernel
theorem dX2_streamsAtRisk_5 : decode cX2_streamsAtRisk 5 = .ok (.bipush 8, 2) := by decide +kernel
theorem dX2_streamsAtRisk_7 : decode cX2_streamsAtRisk 7 = .ok (.if_icmp .ge 25, 3) := by decide +kernel
theorem dX2_streamsAtRisk_10 : decode cX2_streamsAtRisk 10 = .ok (.iload_n 1, 1) := by decide +kernel
theorem dX2_streamsAtRisk_11 : decode cX2_streamsAtRisk 11 = .ok (.aload_n 0, 1) := by decide +kernel
theorem dX2_streamsAtRisk_12 : decode cX2_streamsAtRisk 12 = .ok (.iload_n 2, 1) := by decide +kernel
theorem dX2_streamsAtRisk_13 : decode cX2_streamsAtRisk 13 = .ok (.invokevirtual 54, 3) := by decide +kernel
theorem dX2_streamsAtRisk_16 : decode cX2_streamsAtRisk 16 = .ok (.ifCond .eq 7, 3) := by decide +kernel
theorem dX2_streamsAtRisk_19 : decode cX2_streamsAtRisk 19 = .ok (.iconst 1, 1) := by decide +kernel
theorem dX2_streamsAtRisk_20 : decode cX2_streamsAtRisk 20 = .ok (.goto 4, 3) := by decide +kernel
theorem dX2_streamsAtRisk_23 : decode cX2_streamsAtRisk 23 = .ok (.iconst 0, 1) := by decide +kernel
theorem dX2_streamsAtRisk_24 : decode cX2_streamsAtRisk 24 = .ok (.iadd, 1) := by decide +kernel
theorem dX2_streamsAtRisk_25 : decode cX2_streamsAtRisk 25 = .ok (.istore_n 1, 1) := by decide +kernel
theorem dX2_streamsAtRisk_26 : decode cX2_streamsAtRisk 26 = .ok (.iinc 2 1, 3) := by decide +kernel
theorem dX2_streamsAtRisk_29 : decode cX2_streamsAtRisk 29 = .ok (.goto (-25), 3) := by decide +kernel
theorem dX2_streamsAtRisk_32 : decode cX2_streamsAtRisk 32 = .ok (.iload_n 1, 1) := by decide +kernel
theorem dX2_streamsAtRisk_33 : decode cX2_streamsAtRisk 33 = .ok (.ireturn, 1) := by decide +kernel
theorem dX2_putFront_0 : decode cX2_putFront 0 = .ok (.iconst 2, 1) := by decide +kernel
theorem dX2_putFront_1 : decode cX2_putFront 1 = .ok (.aload_n 0, 1) := by decide +kernel
theorem dX2_putFront_2 : decode cX2_putFront 2 = .ok (.getfield 14, 3) := by decide +kernel
theorem dX2_putFront_5 : decode cX2_putFront 5 = .ok (.getfield 94, 3) := by decide +kernel
theorem dX2_putFront_8 : decode cX2_putFront 8 = .ok (.bipush 32, 2) := by decide +kernel
theorem dX2_putFront_10 : decode cX2_putFront 10 = .ok (.idiv, 1) := by decide +kernel
theorem dX2_putFront_11 : decode cX2_putFront 11 = .ok (.imul, 1) := by decide +kernel
theorem dX2_putFront_12 : decode cX2_putFront 12 = .ok (.istore_n 2, 1) := by decide +kernel
theorem dX2_putFront_13 : decode cX2_putFront 13 = .ok (.aload_n 1, 1) := by decide +kernel
theorem dX2_putFront_14 : decode cX2_putFront 14 = .ok (.iconst 0, 1) := by decide +kernel
theorem dX2_putFront_15 : decode cX2_putFront 15 = .ok (.bipush 8, 2) := by decide +kernel
theorem dX2_putFront_17 : decode cX2_putFront 17 = .ok (.aload_n 0, 1) := by decide +kernel
theorem dX2_putFront_18 : decode cX2_putFront 18 = .ok (.getfield 47, 3) := by decide +kernel
theorem dX2_putFront_21 : decode cX2_putFront 21 = .ok (.ifCond .eq 7, 3) := by decide +kernel
theorem dX2_putFront_24 : decode cX2_putFront 24 = .ok (.iload_n 2, 1) := by decide +kernel
theorem dX2_putFront_25 : decode cX2_putFront 25 = .ok (.ifCond .ne 7, 3) := by decide +kernel
theorem dX2_putFront_28 : decode cX2_putFront 28 = .ok (.iconst 0, 1) := by decide +kernel
theorem dX2_putFront_29 : decode cX2_putFront 29 = .ok (.goto 11, 3) := by decide +kernel
theorem dX2_putFront_32 : decode cX2_putFront 32 = .ok (.aload_n 0, 1) := by decide +kernel
theorem dX2_putFront_33 : decode cX2_putFront 33 = .ok (.getfield 47, 3) := by decide +kernel
theorem dX2_putFront_36 : decode cX2_putFront 36 = .ok (.iload_n 2, 1) := by decide +kernel
theorem dX2_putFront_37 : decode cX2_putFront 37 = .ok (.irem, 1) := by decide +kernel
theorem dX2_putFront_38 : decode cX2_putFront 38 = .ok (.iconst 1, 1) := by decide +kernel
theorem dX2_putFront_39 : decode cX2_putFront 39 = .ok (.iadd, 1) := by decide +kernel
theorem dX2_putFront_40 : decode cX2_putFront 40 = .ok (.invokevirtual 97, 3) := by decide +kernel
theorem dX2_putFront_43 : decode cX2_putFront 43 = .ok (.aload_n 0, 1) := by decide +kernel
theorem dX2_putFront_44 : decode cX2_putFront 44 = .ok (.getfield 44, 3) := by decide +kernel
theorem dX2_putFront_47 : decode cX2_putFront 47 = .ok (.aload_n 0, 1) := by decide +kernel
theorem dX2_putFront_48 : decode cX2_putFront 48 = .ok (.getfield 47, 3) := by decide +kernel
theorem dX2_putFront_51 : decode cX2_putFront 51 = .ok (.if_icmp .lt 22, 3) := by decide +kernel
theorem dX2_putFront_54 : decode cX2_putFront 54 = .ok (.aload_n 1, 1) := by decide +kernel
theorem dX2_putFront_55 : decode cX2_putFront 55 = .ok (.iconst 0, 1) := by decide +kernel
theorem dX2_putFront_56 : decode cX2_putFront 56 = .ok (.bipush 7, 2) := by decide +kernel
theorem dX2_putFront_58 : decode cX2_putFront 58 = .ok (.aload_n 0, 1) := by decide +kernel
theorem dX2_putFront_59 : decode cX2_putFront 59 = .ok (.getfield 44, 3) := by decide +kernel
theorem dX2_putFront_62 : decode cX2_putFront 62 = .ok (.aload_n 0, 1) := by decide +kernel
theorem dX2_putFront_63 : decode cX2_putFront 63 = .ok (.getfield 47, 3) := by decide +kernel
theorem dX2_putFront_66 : decode cX2_putFront 66 = .ok (.isub, 1) := by decide +kernel
theorem dX2_putFront_67 : decode cX2_putFront 67 = .ok (.invokevirtual 97, 3) := by decide +kernel
theorem dX2_putFront_70 : decode cX2_putFront 70 = .ok (.goto 23, 3) := by decide +kernel
theorem dX2_putFront_73 : decode cX2_putFront 73 = .ok (.aload_n 1, 1) := by decide +kernel
theorem dX2_putFront_74 : decode cX2_putFront 74 = .ok (.sipush 128, 3) := by decide +kernel
theorem dX2_putFront_77 : decode cX2_putFront 77 = .ok (.bipush 7, 2) := by decide +kernel
theorem dX2_putFront_79 : decode cX2_putFront 79 = .ok (.aload_n 0, 1) := by decide +kernel
theorem dX2_putFront_80 : decode cX2_putFront 80 = .ok (.getfield 47, 3) := by decide +kernel
theorem dX2_putFront_83 : decode cX2_putFront 83 = .ok (.aload_n 0, 1) := by decide +kernel
theorem dX2_putFront_84 : decode cX2_putFront 84 = .ok (.getfield 44, 3) := by decide +kernel
theorem dX2_putFront_87 : decode cX2_putFront 87 = .ok (.isub, 1) := by decide +kernel
theorem dX2_putFront_88 : decode cX2_putFront 88 = .ok (.iconst 1, 1) := by decide +kernel
theorem dX2_putFront_89 : decode cX2_putFront 89 = .ok (.isub, 1) := by decide +kernel
theorem dX2_putFront_90 : decode cX2_putFront 90 = .ok (.invokevirtual 97, 3) := by decide +kernel
theorem dX2_putFront_93 : decode cX2_putFront 93 = .ok (.return_, 1) := by decide +kernel
section CS
variable {G : fp_G} {h : fp_H} {en tb op ln wr cO : Nat} {oa : Nat → Nat} {p : rs} {x5 x6 x7 x8 : Int32}
theorem cs_isAtRisk {s : Nat} (he : h.1 en = some (3, eN p tb op ln x5 x6 x7 x8)) (hl : lst G h 17 op ((opn p).map oa) cO) (ho : ∀ k ∈ opn p, h.1 (oa k) = some (9, oO p k)) (ok : rok p) (hs : s < 2 ^ 30) : fp_ct G rm_X2_isAtRisk M_X2_isAtRisk [.ref en, .int (nI s)] h (fun r h' => h' = h ∧ r = some (.int (nI (b2n (r_risk p s))))) := by
  obtain ⟨mc, ed, l1, l2⟩ := id hl
  have hlen := l2.lt
  rw [List.length_map] at hlen
  rw [r_risk_opn]
  refine fp_meth pn_X2 (Nat.le_of_ble_eq_true rfl) rfl ?_
  refine wp_iconst (v := 0) dX2_isAtRisk_0 rfl ?_
  refine wp_istore_n dX2_isAtRisk_1 (Nat.le_of_ble_eq_true rfl) rfl ?_
  have loop : ∀ (l pre : List Nat), opn p = pre ++ l → fp_wp G rm_X2_isAtRisk M_X2_isAtRisk 2 [some (.ref en), some (.int (nI s)), some (.int (nI pre.length))] [] h (fun r h' => h' = h ∧ r = some (.int (nI (b2n (l.any (fun k => p.2.1 11 k == s && decide (p.1 12 < p.2.1 12 k))))))) := by
    intro l
    induction l with
    | nil =>
      intro pre hpre
      rw [List.append_nil] at hpre
      refine wp_iload_n dX2_isAtRisk_2 rfl ?_
      refine wp_aload_n dX2_isAtRisk_3 rfl ?_
      refine wp_getf dX2_isAtRisk_4 fl_X2_27 he rfl ?_
      refine wp_callV (As := []) (rest := [.int (nI pre.length)]) dX2_isAtRisk_7 me_Jx4a65c_size_8abf5 cw_X2_66 rfl ⟨(Nat.le_of_ble_eq_true rfl), (Nat.le_of_ble_eq_true rfl)⟩ rfl rfl rfl (Nat.le_of_ble_eq_true rfl) l1 (ct_lsize hl) (fun r h2 q => ?_)
      obtain ⟨q0, rfl⟩ := q
      rw [q0]
      refine wp_icmp_ge (tgt := 60) dX2_isAtRisk_10 rfl (fun c_10 => ?_) (fun c_10 => ?_)
      · refine wp_iconst (v := 0) dX2_isAtRisk_60 rfl ?_
        refine wp_iret dX2_isAtRisk_61 rfl rfl ?_
        exact ⟨rfl, rfl⟩
      · rw [List.length_map, hpre] at c_10
        rw [hpre] at hlen
        exact absurd (nI_le (Nat.le_refl _) (by omega)) c_10
    | cons k l ih =>
      intro pre hpre
      have hk : k ∈ opn p := by rw [hpre]; simp
      have hget : ((opn p).map oa)[pre.length]? = some (oa k) := by rw [hpre]; simp
      have hlp : (opn p).length = pre.length + (l.length + 1) := by rw [hpre]; simp
      have o11 := ok.2.1 11 k
      have o12 := ok.2.1 12 k
      have o1 := ok.1 12
      have next : ((p.2.1 11 k == s && decide (p.1 12 < p.2.1 12 k)) = false) → fp_wp G rm_X2_isAtRisk M_X2_isAtRisk 54 [some (.ref en), some (.int (nI s)), some (.int (nI pre.length))] [] h (fun r h' => h' = h ∧ r = some (.int (nI (b2n ((k :: l).any (fun k => p.2.1 11 k == s && decide (p.1 12 < p.2.1 12 k))))))) := by
        intro hf
        rw [List.any_cons, hf, Bool.false_or]
        refine wp_iinc dX2_isAtRisk_54 rfl rfl ?_
        refine wp_goto (tgt := 2) dX2_isAtRisk_57 rfl ?_
        rw [show nI pre.length + Int32.ofInt 1 = nI (pre ++ [k]).length by rw [List.length_append]; exact nI_1 _]
        exact ih (pre ++ [k]) (by rw [hpre]; simp)
      refine wp_iload_n dX2_isAtRisk_2 rfl ?_
      refine wp_aload_n dX2_isAtRisk_3 rfl ?_
      refine wp_getf dX2_isAtRisk_4 fl_X2_27 he rfl ?_
      refine wp_callV (As := []) (rest := [.int (nI pre.length)]) dX2_isAtRisk_7 me_Jx4a65c_size_8abf5 cw_X2_66 rfl ⟨(Nat.le_of_ble_eq_true rfl), (Nat.le_of_ble_eq_true rfl)⟩ rfl rfl rfl (Nat.le_of_ble_eq_true rfl) l1 (ct_lsize hl) (fun r h2 q => ?_)
      obtain ⟨q0, rfl⟩ := q
      rw [q0]
      refine wp_icmp_ge (tgt := 60) dX2_isAtRisk_10 rfl (fun c_10 => ?_) (fun c_10 => ?_)
      · rw [List.length_map] at c_10
        have := (nI_leI (by omega) (by omega)).mp c_10
        omega
      · refine wp_aload_n dX2_isAtRisk_13 rfl ?_
        refine wp_getf dX2_isAtRisk_14 fl_X2_27 he rfl ?_
        refine wp_iload_n dX2_isAtRisk_17 rfl ?_
        refine wp_callV (As := [.int (nI pre.length)]) (rest := []) dX2_isAtRisk_18 me_Jx4a65c_get_915e3 cw_X2_68 rfl ⟨(Nat.le_of_ble_eq_true rfl), (Nat.le_of_ble_eq_true rfl)⟩ rfl rfl rfl (Nat.le_of_ble_eq_true rfl) l1 (ct_lget hl hget) (fun r h3 q => ?_)
        obtain ⟨q0, rfl⟩ := q
        rw [q0]
        refine wp_cast dX2_isAtRisk_21 ck_X2_78 (ho k hk) rfl ca_X5_X5 ?_
        refine wp_getf dX2_isAtRisk_24 fl_X2_180 (ho k hk) rfl ?_
        refine wp_iload_n dX2_isAtRisk_27 rfl ?_
        refine wp_icmp_ne (tgt := 54) dX2_isAtRisk_28 rfl (fun c_28 => ?_) (fun c_28 => ?_)
        · have : ¬ p.2.1 11 k = s := fun e => c_28 (by rw [e])
          exact next (by simp [this])
        · have : p.2.1 11 k = s := (nI_eq (by omega) (by omega)).mp c_28
          refine wp_aload_n dX2_isAtRisk_31 rfl ?_
          refine wp_getf dX2_isAtRisk_32 fl_X2_27 he rfl ?_
          refine wp_iload_n dX2_isAtRisk_35 rfl ?_
          refine wp_callV (As := [.int (nI pre.length)]) (rest := []) dX2_isAtRisk_36 me_Jx4a65c_get_915e3 cw_X2_68 rfl ⟨(Nat.le_of_ble_eq_true rfl), (Nat.le_of_ble_eq_true rfl)⟩ rfl rfl rfl (Nat.le_of_ble_eq_true rfl) l1 (ct_lget hl hget) (fun r h4 q => ?_)
          obtain ⟨q0, rfl⟩ := q
          rw [q0]
          refine wp_cast dX2_isAtRisk_39 ck_X2_78 (ho k hk) rfl ca_X5_X5 ?_
          refine wp_getf dX2_isAtRisk_42 fl_X2_183 (ho k hk) rfl ?_
          refine wp_aload_n dX2_isAtRisk_45 rfl ?_
          refine wp_getf dX2_isAtRisk_46 fl_X2_163 he rfl ?_
          refine wp_icmp_le (tgt := 54) dX2_isAtRisk_49 rfl (fun c_49 => ?_) (fun c_49 => ?_)
          · have : p.2.1 12 k ≤ p.1 12 := (nI_leI (by omega) (by omega)).mp c_49
            exact next (by simp; intro _; exact this)
          · have h3 : p.1 12 < p.2.1 12 k := by
              rcases Nat.lt_or_ge (p.1 12) (p.2.1 12 k) with q | q
              · exact q
              · exact absurd (nI_le q (by omega)) c_49
            refine wp_iconst (v := 1) dX2_isAtRisk_52 rfl ?_
            refine wp_iret dX2_isAtRisk_53 rfl rfl ?_
            refine ⟨rfl, ?_⟩
            rw [List.any_cons]
            simp [this, h3, b2n]
            rfl
  exact loop (opn p) [] rfl
theorem cs_streams (he : h.1 en = some (3, eN p tb op ln x5 x6 x7 x8)) (hl : lst G h 17 op ((opn p).map oa) cO) (ho : ∀ k ∈ opn p, h.1 (oa k) = some (9, oO p k)) (ok : rok p) : fp_ct G rm_X2_streamsAtRisk M_X2_streamsAtRisk [.ref en] h (fun r h' => h' = h ∧ r = some (.int (nI (r_atRisk p)))) := by
  refine fp_meth pn_X2 (Nat.le_of_ble_eq_true rfl) rfl ?_
  refine wp_iconst (v := 0) dX2_streamsAtRisk_0 rfl ?_
  refine wp_istore_n dX2_streamsAtRisk_1 (Nat.le_of_ble_eq_true rfl) rfl ?_
  refine wp_iconst (v := 0) dX2_streamsAtRisk_2 rfl ?_
  refine wp_istore_n dX2_streamsAtRisk_3 (Nat.le_of_ble_eq_true rfl) rfl ?_
  have loop : ∀ (g s : Nat), g + s = 8 → fp_wp G rm_X2_streamsAtRisk M_X2_streamsAtRisk 4 [some (.ref en), some (.int (nI (r_riskTo p s))), some (.int (nI s))] [] h (fun r h' => h' = h ∧ r = some (.int (nI (r_atRisk p)))) := by
    intro g
    induction g with
    | zero =>
      intro s hs
      have : s = 8 := by omega
      subst this
      refine wp_iload_n dX2_streamsAtRisk_4 rfl ?_
      refine wp_bipush (v := 8) dX2_streamsAtRisk_5 rfl ?_
      refine wp_icmp_ge (tgt := 32) dX2_streamsAtRisk_7 rfl (fun c_7 => ?_) (fun c_7 => ?_)
      · refine wp_iload_n dX2_streamsAtRisk_32 rfl ?_
        refine wp_iret dX2_streamsAtRisk_33 rfl rfl ?_
        exact ⟨rfl, rfl⟩
      · exact absurd (by decide) c_7
    | succ g ih =>
      intro s hs
      have hi := ih (s + 1) (by omega)
      have er : r_riskTo p (s + 1) = r_riskTo p s + b2n (r_risk p s) := cnt_s _ _
      rw [er] at hi
      refine wp_iload_n dX2_streamsAtRisk_4 rfl ?_
      refine wp_bipush (v := 8) dX2_streamsAtRisk_5 rfl ?_
      refine wp_icmp_ge (tgt := 32) dX2_streamsAtRisk_7 rfl (fun c_7 => ?_) (fun c_7 => ?_)
      · have := (nI_leI (a := 8) (by decide) (by omega)).mp c_7
        omega
      · refine wp_iload_n dX2_streamsAtRisk_10 rfl ?_
        refine wp_aload_n dX2_streamsAtRisk_11 rfl ?_
        refine wp_iload_n dX2_streamsAtRisk_12 rfl ?_
        refine wp_callV (As := [.int (nI s)]) (rest := [.int (nI (r_riskTo p s))]) dX2_streamsAtRisk_13 me_X2_isAtRisk cw_X2_54 rfl ⟨(Nat.le_of_ble_eq_true rfl), (Nat.le_of_ble_eq_true rfl)⟩ rfl rfl rfl (Nat.le_of_ble_eq_true rfl) he (cs_isAtRisk he hl ho ok (by omega)) (fun r h2 q => ?_)
        obtain ⟨q0, rfl⟩ := q
        rw [q0]
        cases hr : r_risk p s with
        | false =>
          rw [hr] at hi
          refine wp_if_eq (tgt := 23) dX2_streamsAtRisk_16 rfl (fun c_16 => ?_) (fun c_16 => ?_)
          · refine wp_iconst (v := 0) dX2_streamsAtRisk_23 rfl ?_
            refine wp_iadd dX2_streamsAtRisk_24 ?_
            rw [show nI (r_riskTo p s) + 0 = nI (r_riskTo p s + b2n false) from nI_add _ 0]
            refine wp_istore_n dX2_streamsAtRisk_25 (Nat.le_of_ble_eq_true rfl) rfl ?_
            refine wp_iinc dX2_streamsAtRisk_26 rfl rfl ?_
            refine wp_goto (tgt := 4) dX2_streamsAtRisk_29 rfl ?_
            rw [show nI s + Int32.ofInt 1 = nI (s + 1) from nI_1 s]
            exact hi
          · exact absurd rfl c_16
        | true =>
          rw [hr] at hi
          refine wp_if_eq (tgt := 23) dX2_streamsAtRisk_16 rfl (fun c_16 => ?_) (fun c_16 => ?_)
          · exact absurd c_16 (by decide)
          · refine wp_iconst (v := 1) dX2_streamsAtRisk_19 rfl ?_
            refine wp_goto (tgt := 24) dX2_streamsAtRisk_20 rfl ?_
            refine wp_iadd dX2_streamsAtRisk_24 ?_
            rw [show nI (r_riskTo p s) + 1 = nI (r_riskTo p s + b2n true) from nI_add _ 1]
            refine wp_istore_n dX2_streamsAtRisk_25 (Nat.le_of_ble_eq_true rfl) rfl ?_
            refine wp_iinc dX2_streamsAtRisk_26 rfl rfl ?_
            refine wp_goto (tgt := 4) dX2_streamsAtRisk_29 rfl ?_
            rw [show nI s + Int32.ofInt 1 = nI (s + 1) from nI_1 s]
            exact hi
  exact loop 8 0 rfl
theorem cs_front {sa t cS : Nat} {base : Nat} {rk : Bool} (m1 : h.1 en = some (3, eO p base rk tb op ln)) (m2 : tbl h 15 tb (p.1 0) (p.2.2 3) (p.2.2 4) (p.1 10) (p.1 6) (p.1 11)) (m7 : fp_wf h) (hb : byt h t sa [] cS) (ht : t ≠ 3 ∧ t ≠ 15) (ok : rok p) (hbase : base < 2 ^ 28) (hcap : p.2.1 12 (p.1 28) ≠ 0 → 32 ≤ p.1 0) : fp_ct G rm_X2_putFront M_X2_putFront [.ref en, .ref sa] h (bP h t sa (r_front p base) cS) := by
  obtain ⟨n1, n2, n3, f1, f2, f3, a1, -⟩ := m2.ex
  obtain ⟨r0, f0, k1, -⟩ := id hb
  have h400 := m2.hcap
  have hne := ok.2.1 12 (p.1 28)
  unfold r_front
  generalize hR : p.2.1 12 (p.1 28) = R at hne hcap ⊢
  refine fp_meth pn_X2 (Nat.le_of_ble_eq_true rfl) rfl ?_
  refine wp_iconst (v := 2) dX2_putFront_0 rfl ?_
  refine wp_aload_n dX2_putFront_1 rfl ?_
  refine wp_getf dX2_putFront_2 fl_X2_14 m1 rfl ?_
  refine wp_getf dX2_putFront_5 fl_X2_94 a1 rfl ?_
  refine wp_bipush (v := 32) dX2_putFront_8 rfl ?_
  refine wp_idiv dX2_putFront_10 (by decide) ?_
  rw [show nI (p.1 0) / 32 = nI (p.1 0 / 32) from pk_div (d := 32) (by omega) (by decide) (by decide)]
  refine wp_imul dX2_putFront_11 ?_
  rw [show (2 : Int32) * nI (p.1 0 / 32) = nI (2 * (p.1 0 / 32)) from pk_mul 2 _]
  refine wp_istore_n dX2_putFront_12 (Nat.le_of_ble_eq_true rfl) rfl ?_
  refine wp_aload_n dX2_putFront_13 rfl ?_
  refine wp_iconst (v := 0) dX2_putFront_14 rfl ?_
  refine wp_bipush (v := 8) dX2_putFront_15 rfl ?_
  -- behind the code
  have fin : ∀ (c : Nat), c ≤ 30 → c = (if R = 0 then 0 else R % (2 * (p.1 0 / 32)) + 1) → fp_wp G rm_X2_putFront M_X2_putFront 40 [some (.ref en), some (.ref sa), some (.int (nI (2 * (p.1 0 / 32))))] [.int (nI c), .int (nI 8), .int (nI 0), .ref sa] h (bP h t sa (nb 0 8 (if R = 0 then 0 else R % (2 * (p.1 0 / 32)) + 1) ++ (if R ≤ base then nb 0 7 (base - R) else nb 128 7 (R - base - 1))) cS) := by
    intro c hc ec
    rw [← ec]
    refine wp_callV (As := [.int (nI 0), .int (nI 8), .int (nI c)]) (rest := []) dX2_putFront_40 me_X0_putNumber cw_X2_97 rfl ⟨(Nat.le_of_ble_eq_true rfl), (Nat.le_of_ble_eq_true rfl)⟩ rfl rfl rfl (Nat.le_of_ble_eq_true rfl) k1 (cc_putNumber m7 hb (by decide) (by decide) (or0 8) (by omega)) (fun r h2 q => ?_)
    obtain ⟨rfl, cap1, q1, q2, q3, q4, q5⟩ := q
    have m1' := q4.at m1 (fun e => ht.1 e.symm)
    obtain ⟨r1, f1, k2, -⟩ := id q1
    have hl := nb_len 0 8 c
    have m1R : h2.1 en = some (3, .inr (3, [.ref tb, .int (nI (p.1 1)), .ref op, .int (nI (p.1 12)), .ref ln, .int (nI base), .int (nI R), .int (nI (lea p (p.1 28))), .int (nI (b2n rk))])) := by rw [← hR]; exact m1'
    rw [List.nil_append] at q1
    refine wp_aload_n dX2_putFront_43 rfl ?_
    refine wp_getf dX2_putFront_44 fl_X2_44 m1R rfl ?_
    refine wp_aload_n dX2_putFront_47 rfl ?_
    refine wp_getf dX2_putFront_48 fl_X2_47 m1R rfl ?_
    refine wp_icmp_lt (tgt := 73) dX2_putFront_51 rfl (fun c_51 => ?_) (fun c_51 => ?_)
    · have hlt : base < R := (nI_ltI (by omega) (by omega)).mp c_51
      rw [if_neg (by omega)]
      refine wp_aload_n dX2_putFront_73 rfl ?_
      refine wp_sipush (v := 128) dX2_putFront_74 rfl ?_
      refine wp_bipush (v := 7) dX2_putFront_77 rfl ?_
      refine wp_aload_n dX2_putFront_79 rfl ?_
      refine wp_getf dX2_putFront_80 fl_X2_47 m1R rfl ?_
      refine wp_aload_n dX2_putFront_83 rfl ?_
      refine wp_getf dX2_putFront_84 fl_X2_44 m1R rfl ?_
      refine wp_isub dX2_putFront_87 ?_
      refine wp_iconst (v := 1) dX2_putFront_88 rfl ?_
      refine wp_isub dX2_putFront_89 ?_
      rw [pk_sub (by omega), nI_sub1 (by omega)]
      refine wp_callV (As := [.int (nI 128), .int (nI 7), .int (nI (R - base - 1))]) (rest := []) dX2_putFront_90 me_X0_putNumber cw_X2_97 rfl ⟨(Nat.le_of_ble_eq_true rfl), (Nat.le_of_ble_eq_true rfl)⟩ rfl rfl rfl (Nat.le_of_ble_eq_true rfl) k2 (cc_putNumber (q4.wf m7) q1 (by omega) (by decide) (by decide +kernel) (by omega)) (fun r h3 z => ?_)
      obtain ⟨rfl, -⟩ := id z
      refine wp_vret dX2_putFront_93 rfl ?_
      exact bP.step (xs := nb 0 8 c) q2 q3 q4 q5 (by rw [List.length_append]; omega) z
    · have hle : R ≤ base := by
        rcases Nat.lt_or_ge base R with q | q
        · exact absurd (nI_lt q (by omega)) c_51
        · exact q
      rw [if_pos hle]
      refine wp_aload_n dX2_putFront_54 rfl ?_
      refine wp_iconst (v := 0) dX2_putFront_55 rfl ?_
      refine wp_bipush (v := 7) dX2_putFront_56 rfl ?_
      refine wp_aload_n dX2_putFront_58 rfl ?_
      refine wp_getf dX2_putFront_59 fl_X2_44 m1R rfl ?_
      refine wp_aload_n dX2_putFront_62 rfl ?_
      refine wp_getf dX2_putFront_63 fl_X2_47 m1R rfl ?_
      refine wp_isub dX2_putFront_66 ?_
      rw [pk_sub (by omega)]
      refine wp_callV (As := [.int (nI 0), .int (nI 7), .int (nI (base - R))]) (rest := []) dX2_putFront_67 me_X0_putNumber cw_X2_97 rfl ⟨(Nat.le_of_ble_eq_true rfl), (Nat.le_of_ble_eq_true rfl)⟩ rfl rfl rfl (Nat.le_of_ble_eq_true rfl) k2 (cc_putNumber (q4.wf m7) q1 (by omega) (by decide) (or0 7) (by omega)) (fun r h3 z => ?_)
      obtain ⟨rfl, -⟩ := id z
      refine wp_goto (tgt := 93) dX2_putFront_70 rfl ?_
      refine wp_vret dX2_putFront_93 rfl ?_
      exact bP.step (xs := nb 0 8 c) q2 q3 q4 q5 (by rw [List.length_append]; omega) z
  have m1R : h.1 en = some (3, .inr (3, [.ref tb, .int (nI (p.1 1)), .ref op, .int (nI (p.1 12)), .ref ln, .int (nI base), .int (nI R), .int (nI (lea p (p.1 28))), .int (nI (b2n rk))])) := by rw [← hR]; exact m1
  refine wp_aload_n dX2_putFront_17 rfl ?_
  refine wp_getf dX2_putFront_18 fl_X2_47 m1R rfl ?_
  refine wp_if_eq (tgt := 28) dX2_putFront_21 rfl (fun c_21 => ?_) (fun c_21 => ?_)
  · have : R = 0 := (nI_eq (b := 0) (by omega) (by decide)).mp c_21
    refine wp_iconst (v := 0) dX2_putFront_28 rfl ?_
    refine wp_goto (tgt := 40) dX2_putFront_29 rfl ?_
    exact fin 0 (by decide) (by rw [if_pos this])
  · have hR0 : R ≠ 0 := fun e => c_21 (by rw [e]; rfl)
    have h32 := hcap hR0
    have hrg : 0 < 2 * (p.1 0 / 32) ∧ 2 * (p.1 0 / 32) ≤ 24 := by omega
    refine wp_iload_n dX2_putFront_24 rfl ?_
    refine wp_if_ne (tgt := 32) dX2_putFront_25 rfl (fun c_25 => ?_) (fun c_25 => ?_)
    · refine wp_aload_n dX2_putFront_32 rfl ?_
      refine wp_getf dX2_putFront_33 fl_X2_47 m1R rfl ?_
      refine wp_iload_n dX2_putFront_36 rfl ?_
      refine wp_irem dX2_putFront_37 (nI_ne0 hrg.1 (by omega)) ?_
      rw [pk_rem (by omega) hrg.1 (by omega)]
      refine wp_iconst (v := 1) dX2_putFront_38 rfl ?_
      refine wp_iadd dX2_putFront_39 ?_
      rw [nI_1]
      have hm := Nat.mod_lt R hrg.1
      exact fin (R % (2 * (p.1 0 / 32)) + 1) (by omega) (by rw [if_neg hR0])
    · exact absurd c_25 (nI_ne0 hrg.1 (by omega))
end CS
