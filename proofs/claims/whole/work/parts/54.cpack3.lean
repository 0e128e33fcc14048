/-! FieldPack: told, decoded -/
theorem r_wt_f (p : rs) (s : Nat) : r_wt p false s = r_lying p s 1 := rfl
theorem r_wt_t (p : rs) (s : Nat) : r_wt p true s = b2n (decide (0 < r_lying p s 1)) := rfl
theorem r_wtTo_le (p : rs) (hc : p.1 28 ≤ 200) (b : Bool) : ∀ s, r_wtTo p b s ≤ 200 * s := by
  intro s
  induction s with
  | zero => exact Nat.le_refl _
  | succ s ih =>
    have h1 : r_lying p s 1 ≤ p.1 28 := cnt_le _ _
    have : r_wt p b s ≤ 200 := by
      cases b
      · rw [r_wt_f]; omega
      · rw [r_wt_t]; unfold b2n; split <;> omega
    rw [r_wtTo]
    omega
section CP
variable {G : fp_G} {h : fp_H} {o : Nat} {A la ba sa ra fa oa K c1 c2 c3 : Nat → Nat} {p : rs}
theorem cp_toldE {y : Int32} (m : CI G h o A la ba sa ra fa oa K c1 c2 c3 p) (ok : rok p) : fp_ct G rm_X10_toldByEncoder M_X10_toldByEncoder [.ref o, .int y] h (fun r h' => h' = h ∧ r = some (.int (if y = nI 3 then nI (p.1 12) else if y = nI 4 then nI (r_opTo p (p.1 28)) else if y = nI 5 then nI (r_atRisk p) else -1))) := by
  obtain ⟨m1, -, ⟨⟨x5, x6, x7, x8, m2⟩, -, -, -, m5, m6, -⟩, -⟩ := m
  obtain ⟨mc, ed, l1, -⟩ := id m5
  refine fp_meth pn_X10 (Nat.le_of_ble_eq_true rfl) rfl ?_
  refine wp_iload_n dX10_toldByEncoder_0 rfl ?_
  by_cases e3 : y = nI 3
  · rw [if_pos e3, e3]
    refine wp_tableIn (off := 27) (tgt := 28) dX10_toldByEncoder_1 (by decide) (by decide) rfl rfl ?_
    refine wp_aload_n dX10_toldByEncoder_28 rfl ?_
    refine wp_getf dX10_toldByEncoder_29 fl_X10_33 m1 rfl ?_
    refine wp_getf dX10_toldByEncoder_32 fl_X10_214 m2 rfl ?_
    refine wp_iret dX10_toldByEncoder_35 rfl rfl ?_
    exact ⟨rfl, rfl⟩
  · rw [if_neg e3]
    by_cases e4 : y = nI 4
    · rw [if_pos e4, e4]
      refine wp_tableIn (off := 35) (tgt := 36) dX10_toldByEncoder_1 (by decide) (by decide) rfl rfl ?_
      refine wp_aload_n dX10_toldByEncoder_36 rfl ?_
      refine wp_getf dX10_toldByEncoder_37 fl_X10_33 m1 rfl ?_
      refine wp_getf dX10_toldByEncoder_40 fl_X10_217 m2 rfl ?_
      refine wp_callV (As := []) (rest := []) dX10_toldByEncoder_43 me_Jx4a65c_size_8abf5 cw_X10_60 rfl ⟨(Nat.le_of_ble_eq_true rfl), (Nat.le_of_ble_eq_true rfl)⟩ rfl rfl rfl (Nat.le_of_ble_eq_true rfl) l1 (ct_lsize m5) (fun r h1 q => ?_)
      obtain ⟨q0, rfl⟩ := q
      rw [q0, List.length_map]
      refine wp_iret dX10_toldByEncoder_46 rfl rfl ?_
      exact ⟨rfl, rfl⟩
    · rw [if_neg e4]
      by_cases e5 : y = nI 5
      · rw [if_pos e5, e5]
        refine wp_tableIn (off := 46) (tgt := 47) dX10_toldByEncoder_1 (by decide) (by decide) rfl rfl ?_
        refine wp_aload_n dX10_toldByEncoder_47 rfl ?_
        refine wp_getf dX10_toldByEncoder_48 fl_X10_33 m1 rfl ?_
        refine wp_callV (As := []) (rest := []) dX10_toldByEncoder_51 me_X2_streamsAtRisk cw_X10_220 rfl ⟨(Nat.le_of_ble_eq_true rfl), (Nat.le_of_ble_eq_true rfl)⟩ rfl rfl rfl (Nat.le_of_ble_eq_true rfl) m2 (cs_streams m2 m5 m6 ok) (fun r h1 q => ?_)
        obtain ⟨q0, rfl⟩ := q
        rw [q0]
        refine wp_iret dX10_toldByEncoder_54 rfl rfl ?_
        exact ⟨rfl, rfl⟩
      · rw [if_neg e5]
        refine wp_tableOut (tgt := 55) dX10_toldByEncoder_1 ?_ rfl ?_
        · rcases Int.lt_or_le y.toInt 3 with q | q
          · exact Or.inl q
          · rcases Int.lt_or_le 5 y.toInt with q2 | q2
            · exact Or.inr q2
            · exfalso
              rcases (show y.toInt = 3 ∨ y.toInt = 4 ∨ y.toInt = 5 by omega) with z | z | z
              · exact e3 (Int32.toInt_inj.mp z)
              · exact e4 (Int32.toInt_inj.mp z)
              · exact e5 (Int32.toInt_inj.mp z)
        refine wp_iconst (v := (-1)) dX10_toldByEncoder_55 rfl ?_
        refine wp_iret dX10_toldByEncoder_56 rfl rfl ?_
        exact ⟨rfl, rfl⟩
theorem cp_toldD {y : Int32} (m : CI G h o A la ba sa ra fa oa K c1 c2 c3 p) (hc : p.1 28 ≤ 200) : fp_ct G rm_X10_toldByDecoder M_X10_toldByDecoder [.ref o, .int y] h (fun r h' => h' = h ∧ r = some (.int (if y = nI 3 then nI (r_wtTo p false 8) else if y = nI 4 then nI (r_wtTo p true 8) else -1))) := by
  obtain ⟨m1, ⟨-, -, f, m2, m3⟩, -, ⟨-, -, m4, -⟩, -⟩ := m
  refine fp_meth pn_X10 (Nat.le_of_ble_eq_true rfl) rfl ?_
  refine wp_iconst (v := 0) dX10_toldByDecoder_0 rfl ?_
  refine wp_istore_n dX10_toldByDecoder_1 (Nat.le_of_ble_eq_true rfl) rfl ?_
  refine wp_iconst (v := 0) dX10_toldByDecoder_2 rfl ?_
  refine wp_istore_n dX10_toldByDecoder_3 (Nat.le_of_ble_eq_true rfl) rfl ?_
  refine wp_iconst (v := 0) dX10_toldByDecoder_4 rfl ?_
  refine wp_istore dX10_toldByDecoder_5 (Nat.le_of_ble_eq_true rfl) rfl ?_
  have loop : ∀ (g s : Nat) (z : Option Value), g + s = 8 → fp_wp G rm_X10_toldByDecoder M_X10_toldByDecoder 7 [some (.ref o), some (.int y), some (.int (nI (r_wtTo p false s))), some (.int (nI (r_wtTo p true s))), some (.int (nI s)), z] [] h (fun r h' => h' = h ∧ r = some (.int (if y = nI 3 then nI (r_wtTo p false 8) else if y = nI 4 then nI (r_wtTo p true 8) else -1))) := by
    intro g
    induction g with
    | zero =>
      intro s z hs
      have : s = 8 := by omega
      subst this
      refine wp_iload dX10_toldByDecoder_7 rfl ?_
      refine wp_bipush (v := 8) dX10_toldByDecoder_9 rfl ?_
      refine wp_icmp_ge (tgt := 53) dX10_toldByDecoder_11 rfl (fun c_11 => ?_) (fun c_11 => ?_)
      · refine wp_iload_n dX10_toldByDecoder_53 rfl ?_
        refine wp_iconst (v := 3) dX10_toldByDecoder_54 rfl ?_
        refine wp_icmp_ne (tgt := 60) dX10_toldByDecoder_55 rfl (fun c_55 => ?_) (fun c_55 => ?_)
        · have e3 : ¬ y = nI 3 := c_55
          rw [if_neg e3]
          refine wp_iload_n dX10_toldByDecoder_60 rfl ?_
          refine wp_iconst (v := 4) dX10_toldByDecoder_61 rfl ?_
          refine wp_icmp_ne (tgt := 69) dX10_toldByDecoder_62 rfl (fun c_62 => ?_) (fun c_62 => ?_)
          · have e4 : ¬ y = nI 4 := c_62
            rw [if_neg e4]
            refine wp_iconst (v := (-1)) dX10_toldByDecoder_69 rfl ?_
            refine wp_iret dX10_toldByDecoder_70 rfl rfl ?_
            exact ⟨rfl, rfl⟩
          · have e4 : y = nI 4 := c_62
            rw [if_pos e4]
            refine wp_iload_n dX10_toldByDecoder_65 rfl ?_
            refine wp_goto (tgt := 70) dX10_toldByDecoder_66 rfl ?_
            refine wp_iret dX10_toldByDecoder_70 rfl rfl ?_
            exact ⟨rfl, rfl⟩
        · have e3 : y = nI 3 := c_55
          rw [if_pos e3]
          refine wp_iload_n dX10_toldByDecoder_58 rfl ?_
          refine wp_iret dX10_toldByDecoder_59 rfl rfl ?_
          exact ⟨rfl, rfl⟩
      · exact absurd (by decide) c_11
    | succ g ih =>
      intro s z hs
      have hs8 : s < 8 := by omega
      obtain ⟨onw, wai, red, e1, e2, e3, -⟩ := m4 s hs8
      obtain ⟨mc, ed, l1, -⟩ := id e3
      have hll : r_lying p s 1 ≤ p.1 28 := cnt_le _ _
      have hi := ih (s + 1)
      have u0 : r_wtTo p false (s + 1) = r_wtTo p false s + r_lying p s 1 := by rw [r_wtTo, r_wt_f]
      have u1 : r_wtTo p true (s + 1) = r_wtTo p true s + b2n (decide (0 < r_lying p s 1)) := by rw [r_wtTo, r_wt_t]
      rw [u0, u1] at hi
      refine wp_iload dX10_toldByDecoder_7 rfl ?_
      refine wp_bipush (v := 8) dX10_toldByDecoder_9 rfl ?_
      refine wp_icmp_ge (tgt := 53) dX10_toldByDecoder_11 rfl (fun c_11 => ?_) (fun c_11 => ?_)
      · have := (nI_leI (a := 8) (by decide) (by omega)).mp c_11
        omega
      · refine wp_aload_n dX10_toldByDecoder_14 rfl ?_
        refine wp_getf dX10_toldByDecoder_15 fl_X10_48 m1 rfl ?_
        refine wp_iload dX10_toldByDecoder_18 rfl ?_
        refine wp_aaldR dX10_toldByDecoder_20 rfl m2 (vp_in_nI hs8 (by decide)) (show f (nI s).toNatClampNeg = some (la s) by rw [nI_clamp (by omega), m3 s hs8]) ?_
        refine wp_getf dX10_toldByDecoder_21 fl_X10_133 e1 rfl ?_
        refine wp_callV (As := []) (rest := []) dX10_toldByDecoder_24 me_Jx4a65c_size_8abf5 cw_X10_60 rfl ⟨(Nat.le_of_ble_eq_true rfl), (Nat.le_of_ble_eq_true rfl)⟩ rfl rfl rfl (Nat.le_of_ble_eq_true rfl) l1 (ct_lsize e3) (fun r h2 q => ?_)
        obtain ⟨q0, rfl⟩ := q
        rw [q0, List.length_map, lyl_len]
        refine wp_istore dX10_toldByDecoder_27 (Nat.le_of_ble_eq_true rfl) rfl ?_
        refine wp_iload_n dX10_toldByDecoder_29 rfl ?_
        refine wp_iload dX10_toldByDecoder_30 rfl ?_
        refine wp_iadd dX10_toldByDecoder_32 ?_
        rw [nI_add]
        refine wp_istore_n dX10_toldByDecoder_33 (Nat.le_of_ble_eq_true rfl) rfl ?_
        refine wp_iload_n dX10_toldByDecoder_34 rfl ?_
        refine wp_iload dX10_toldByDecoder_35 rfl ?_
        refine wp_if_le (tgt := 44) dX10_toldByDecoder_37 rfl (fun c_37 => ?_) (fun c_37 => ?_)
        · have hz : ¬ 0 < r_lying p s 1 := by
            have := (nI_leI (b := 0) (by omega) (by decide)).mp c_37
            omega
          rw [decide_eq_false hz] at hi
          refine wp_iconst (v := 0) dX10_toldByDecoder_44 rfl ?_
          refine wp_iadd dX10_toldByDecoder_45 ?_
          rw [show nI (r_wtTo p true s) + 0 = nI (r_wtTo p true s + b2n false) from nI_add _ 0]
          refine wp_istore_n dX10_toldByDecoder_46 (Nat.le_of_ble_eq_true rfl) rfl ?_
          refine wp_iinc dX10_toldByDecoder_47 rfl rfl ?_
          refine wp_goto (tgt := 7) dX10_toldByDecoder_50 rfl ?_
          rw [show nI s + Int32.ofInt 1 = nI (s + 1) from nI_1 s]
          exact hi _ (by omega)
        · have hz : 0 < r_lying p s 1 := by
            rcases Nat.eq_zero_or_pos (r_lying p s 1) with q | q
            · exact absurd (by rw [q]; decide) c_37
            · exact q
          rw [decide_eq_true hz] at hi
          refine wp_iconst (v := 1) dX10_toldByDecoder_40 rfl ?_
          refine wp_goto (tgt := 45) dX10_toldByDecoder_41 rfl ?_
          refine wp_iadd dX10_toldByDecoder_45 ?_
          rw [show nI (r_wtTo p true s) + 1 = nI (r_wtTo p true s + b2n true) from nI_add _ 1]
          refine wp_istore_n dX10_toldByDecoder_46 (Nat.le_of_ble_eq_true rfl) rfl ?_
          refine wp_iinc dX10_toldByDecoder_47 rfl rfl ?_
          refine wp_goto (tgt := 7) dX10_toldByDecoder_50 rfl ?_
          rw [show nI s + Int32.ofInt 1 = nI (s + 1) from nI_1 s]
          exact hi _ (by omega)
  exact loop 8 0 none rfl
theorem cp_told {x y : Int32} (m : CI G h o A la ba sa ra fa oa K c1 c2 c3 p) (ok : rok p) (hc : p.1 28 ≤ 200) : fp_ct G rm_X10_told M_X10_told [.ref o, .int x, .int y] h (fun r h' => h' = h ∧ (((¬ ∃ e w, e ≤ 1 ∧ w ≤ 5 ∧ x = nI e ∧ y = nI w) ∧ r = some (.int (-1))) ∨ ∃ e w, e ≤ 1 ∧ w ≤ 5 ∧ x = nI e ∧ y = nI w ∧ r = some (.int (r_says1 p e w)))) := by
  have main : ∀ e, e ≤ 1 → x = nI e → fp_wp G rm_X10_told M_X10_told 11 [some (.ref o), some (.int x), some (.int y), none] [] h (fun r h' => h' = h ∧ (((¬ ∃ e w, e ≤ 1 ∧ w ≤ 5 ∧ x = nI e ∧ y = nI w) ∧ r = some (.int (-1))) ∨ ∃ e w, e ≤ 1 ∧ w ≤ 5 ∧ x = nI e ∧ y = nI w ∧ r = some (.int (r_says1 p e w)))) := by
    intro e he hx
    obtain ⟨t, tb⟩ := m.tbl e
    obtain ⟨n1, n2, n3, f1, f2, f3, a1, -⟩ := tb.ex
    have hF := tb.hF
    rw [hx]
    refine wp_aload_n dX10_told_11 rfl ?_
    refine wp_iload_n dX10_told_12 rfl ?_
    refine wp_callV (As := [.int (nI e)]) (rest := []) dX10_told_13 me_X10_tableOf cw_X10_160 rfl ⟨(Nat.le_of_ble_eq_true rfl), (Nat.le_of_ble_eq_true rfl)⟩ rfl rfl rfl (Nat.le_of_ble_eq_true rfl) m.1 (cp_table m he) (fun r h1 q => ?_)
    obtain ⟨q0, rfl⟩ := q
    rw [q0]
    refine wp_astore_n dX10_told_16 (Nat.le_of_ble_eq_true rfl) rfl ?_
    refine wp_iload_n dX10_told_17 rfl ?_
    by_cases e0 : y = nI 0
    · rw [e0]
      refine wp_tableIn (off := 26) (tgt := 44) dX10_told_18 (by decide) (by decide) rfl rfl ?_
      refine wp_aload_n dX10_told_44 rfl ?_
      refine wp_getf dX10_told_45 fl_X10_164 a1 rfl ?_
      refine wp_iret dX10_told_48 rfl rfl ?_
      refine ⟨rfl, Or.inr ⟨e, 0, he, by decide, rfl, rfl, ?_⟩⟩
      unfold r_says1
      by_cases c : e = 0 <;> simp [c]
    · by_cases e1 : y = nI 1
      · rw [e1]
        refine wp_tableIn (off := 31) (tgt := 49) dX10_told_18 (by decide) (by decide) rfl rfl ?_
        refine wp_aload_n dX10_told_49 rfl ?_
        refine wp_getf dX10_told_50 fl_X10_164 a1 rfl ?_
        refine wp_aload_n dX10_told_53 rfl ?_
        refine wp_getf dX10_told_54 fl_X10_169 a1 rfl ?_
        refine wp_isub dX10_told_57 ?_
        refine wp_iret dX10_told_58 rfl rfl ?_
        refine ⟨rfl, Or.inr ⟨e, 1, he, by decide, rfl, rfl, ?_⟩⟩
        rw [pk_sub hF]
        unfold r_says1
        by_cases c : e = 0 <;> simp [c]
      · by_cases e2 : y = nI 2
        · rw [e2]
          refine wp_tableIn (off := 41) (tgt := 59) dX10_told_18 (by decide) (by decide) rfl rfl ?_
          refine wp_aload_n dX10_told_59 rfl ?_
          refine wp_getf dX10_told_60 fl_X10_172 a1 rfl ?_
          refine wp_iret dX10_told_63 rfl rfl ?_
          refine ⟨rfl, Or.inr ⟨e, 2, he, by decide, rfl, rfl, ?_⟩⟩
          unfold r_says1
          by_cases c : e = 0 <;> simp [c]
        · refine wp_tableOut (tgt := 64) dX10_told_18 ?_ rfl ?_
          · rcases Int.lt_or_le y.toInt 0 with q | q
            · exact Or.inl q
            · rcases Int.lt_or_le 2 y.toInt with q2 | q2
              · exact Or.inr q2
              · exfalso
                rcases (show y.toInt = 0 ∨ y.toInt = 1 ∨ y.toInt = 2 by omega) with z | z | z
                · exact e0 (Int32.toInt_inj.mp z)
                · exact e1 (Int32.toInt_inj.mp z)
                · exact e2 (Int32.toInt_inj.mp z)
          have no : ∀ v : Int32, (∃ w, w ≤ 5 ∧ y = nI w ∧ v = r_says1 p e w) ∨ ((¬ ∃ w, w ≤ 5 ∧ y = nI w) ∧ v = -1) → (fun r h' => h' = h ∧ (((¬ ∃ e' w, e' ≤ 1 ∧ w ≤ 5 ∧ nI e = nI e' ∧ y = nI w) ∧ r = some (Value.int (-1))) ∨ ∃ e' w, e' ≤ 1 ∧ w ≤ 5 ∧ nI e = nI e' ∧ y = nI w ∧ r = some (Value.int (r_says1 p e' w)))) (some (.int v)) h := by
            intro v hv
            rcases hv with ⟨w, h1, h2, h3⟩ | ⟨h1, h2⟩
            · exact ⟨rfl, Or.inr ⟨e, w, he, h1, rfl, h2, by rw [h3]⟩⟩
            · exact ⟨rfl, Or.inl ⟨fun ⟨e', w, g1, g2, g3, g4⟩ => h1 ⟨w, g2, g4⟩, by rw [h2]⟩⟩
          have six : ∀ w, w ≤ 5 → y = nI w → w = 3 ∨ w = 4 ∨ w = 5 := fun w h1 h2 => by
            rcases (show w = 0 ∨ w = 1 ∨ w = 2 ∨ w = 3 ∨ w = 4 ∨ w = 5 by omega) with rfl | rfl | rfl | z
            · exact absurd h2 e0
            · exact absurd h2 e1
            · exact absurd h2 e2
            · exact z
          refine wp_iload_n dX10_told_64 rfl ?_
          refine wp_if_ne (tgt := 76) dX10_told_65 rfl (fun c_65 => ?_) (fun c_65 => ?_)
          · have hne : ¬ e = 0 := fun z => c_65 (by rw [z]; rfl)
            refine wp_aload_n dX10_told_76 rfl ?_
            refine wp_iload_n dX10_told_77 rfl ?_
            refine wp_callV (As := [.int y]) (rest := []) dX10_told_78 me_X10_toldByDecoder cw_X10_176 rfl ⟨(Nat.le_of_ble_eq_true rfl), (Nat.le_of_ble_eq_true rfl)⟩ rfl rfl rfl (Nat.le_of_ble_eq_true rfl) m.1 (cp_toldD m hc) (fun r h2 q => ?_)
            obtain ⟨q0, rfl⟩ := q
            rw [q0]
            refine wp_iret dX10_told_81 rfl rfl ?_
            refine no _ ?_
            by_cases k3 : y = nI 3
            · rw [if_pos k3]
              exact Or.inl ⟨3, by decide, k3, by unfold r_says1; simp [hne]⟩
            · rw [if_neg k3]
              by_cases k4 : y = nI 4
              · rw [if_pos k4]
                exact Or.inl ⟨4, by decide, k4, by unfold r_says1; simp [hne]⟩
              · rw [if_neg k4]
                by_cases k5 : y = nI 5
                · exact Or.inl ⟨5, by decide, k5, by unfold r_says1; simp [hne]⟩
                · refine Or.inr ⟨fun ⟨w, g1, g2⟩ => ?_, rfl⟩
                  rcases six w g1 g2 with rfl | rfl | rfl
                  · exact k3 g2
                  · exact k4 g2
                  · exact k5 g2
          · have hz : e = 0 := (nI_eq (b := 0) (by omega) (by decide)).mp c_65
            refine wp_aload_n dX10_told_68 rfl ?_
            refine wp_iload_n dX10_told_69 rfl ?_
            refine wp_callV (As := [.int y]) (rest := []) dX10_told_70 me_X10_toldByEncoder cw_X10_173 rfl ⟨(Nat.le_of_ble_eq_true rfl), (Nat.le_of_ble_eq_true rfl)⟩ rfl rfl rfl (Nat.le_of_ble_eq_true rfl) m.1 (cp_toldE m ok) (fun r h2 q => ?_)
            obtain ⟨q0, rfl⟩ := q
            rw [q0]
            refine wp_goto (tgt := 81) dX10_told_73 rfl ?_
            refine wp_iret dX10_told_81 rfl rfl ?_
            refine no _ ?_
            by_cases k3 : y = nI 3
            · rw [if_pos k3]
              exact Or.inl ⟨3, by decide, k3, by unfold r_says1; simp [hz]⟩
            · rw [if_neg k3]
              by_cases k4 : y = nI 4
              · rw [if_pos k4]
                exact Or.inl ⟨4, by decide, k4, by unfold r_says1; simp [hz]⟩
              · rw [if_neg k4]
                by_cases k5 : y = nI 5
                · rw [if_pos k5]
                  exact Or.inl ⟨5, by decide, k5, by unfold r_says1; simp [hz]⟩
                · rw [if_neg k5]
                  refine Or.inr ⟨fun ⟨w, g1, g2⟩ => ?_, rfl⟩
                  rcases six w g1 g2 with rfl | rfl | rfl
                  · exact k3 g2
                  · exact k4 g2
                  · exact k5 g2
  refine fp_meth pn_X10 (Nat.le_of_ble_eq_true rfl) rfl ?_
  refine wp_iload_n dX10_told_0 rfl ?_
  refine wp_if_eq (tgt := 11) dX10_told_1 rfl (fun c_1 => ?_) (fun c_1 => ?_)
  · exact main 0 (by decide) c_1
  · refine wp_iload_n dX10_told_4 rfl ?_
    refine wp_iconst (v := 1) dX10_told_5 rfl ?_
    refine wp_icmp_eq (tgt := 11) dX10_told_6 rfl (fun c_6 => ?_) (fun c_6 => ?_)
    · exact main 1 (by decide) c_6
    · refine wp_iconst (v := (-1)) dX10_told_9 rfl ?_
      refine wp_iret dX10_told_10 rfl rfl ?_
      refine ⟨rfl, Or.inl ⟨?_, rfl⟩⟩
      rintro ⟨e', w, h1, h2, h3, -⟩
      rcases (show e' = 0 ∨ e' = 1 by omega) with rfl | rfl
      · exact c_1 h3
      · exact c_6 h3
theorem r_kth_lyl {p : rs} {s k i : Nat} (ok : rok p) (hs : s < 8) : r_kth p (nI s) k i ↔ (lyl p s 2)[k]? = some i := by
  have e : r_mt p (nI s) = r_lies p s 2 := by
    funext j
    unfold r_mt r_lies
    congr 1
    have := ok.2.1 11 j
    rw [Bool.eq_iff_iff, beq_iff_eq, beq_iff_eq]
    exact nI_eq (by omega) (by omega)
  unfold r_kth r_mc lyl
  rw [e, flt_get]
theorem cp_decoded {x y z w : Int32} (m : CI G h o A la ba sa ra fa oa K c1 c2 c3 p) (ok : rok p) (hc : p.1 28 ≤ 200) (h8 : ∀ i, i < p.1 28 → p.2.1 11 i < 8) (hm : ∀ i, i < p.1 28 → p.2.1 15 i ≤ 12) (h18 : ∀ i, i < p.1 28 → ∀ f, f < p.2.1 15 i → p.2.1 18 (12 * i + f) ≤ 1) : fp_ct G rm_X10_decoded M_X10_decoded [.ref o, .int x, .int y, .int z, .int w] h (fun r h' => h' = h ∧ (((¬ ∃ k i f v, r_dok p x y z w k i f v) ∧ r = some (.long (-1))) ∨ ∃ k i f v, r_dok p x y z w k i f v ∧ r = some (.long (lN (r_dv p i f v))))) := by
  refine fp_meth pn_X10 (Nat.le_of_ble_eq_true rfl) rfl ?_
  refine wp_aload_n dX10_decoded_0 rfl ?_
  refine wp_iload_n dX10_decoded_1 rfl ?_
  refine wp_callV (As := [.int x]) (rest := []) dX10_decoded_2 me_X10_laneOf cw_X10_77 rfl ⟨(Nat.le_of_ble_eq_true rfl), (Nat.le_of_ble_eq_true rfl)⟩ rfl rfl rfl (Nat.le_of_ble_eq_true rfl) m.1 (cp_lane m) (fun r h1 q => ?_)
  obtain ⟨q0, q⟩ := q
  rw [q0]
  rcases q with ⟨q1, rfl⟩ | ⟨s, hs, rfl, rfl⟩
  · refine wp_astoreN dX10_decoded_5 (Nat.le_of_ble_eq_true rfl) rfl ?_
    refine wp_aloadN dX10_decoded_7 rfl ?_
    refine wp_ifnullN (tgt := 28) dX10_decoded_9 rfl ?_
    refine wp_ldc2 dX10_decoded_28 kc_X10_179 ?_
    refine wp_lret dX10_decoded_31 rfl ?_
    refine ⟨rfl, Or.inl ⟨?_, rfl⟩⟩
    rintro ⟨k, i, f, v, -, -, ⟨g1, g2, -⟩, -⟩
    refine q1 ⟨p.2.1 11 i, h8 i g1, ?_⟩
    unfold r_mt at g2
    rw [Bool.and_eq_true, beq_iff_eq] at g2
    exact g2.1.symm
  · obtain ⟨onw, wai, red, e1, e2, e3, e4, -⟩ := m.2.2.2.1.2.2.1 s hs
    obtain ⟨mc, ed, l1, l2⟩ := id e4
    have hl2 := l2.lt
    rw [List.length_map] at hl2
    have hll : (lyl p s 2).length ≤ p.1 28 := cnt_le _ _
    have noK : ∀ (Q : Prop), (∀ k, k < 2 ^ 31 → y = nI k → ¬ k < (lyl p s 2).length) → ¬ ∃ k i f v, r_dok p (nI s) y z w k i f v := by
      rintro - hno ⟨k, i, f, v, g1, g2, g3, -⟩
      have := (r_kth_lyl ok hs).mp g3
      exact hno k g2 g1 (List.getElem?_eq_some_iff.mp this).1
    refine wp_astore dX10_decoded_5 (Nat.le_of_ble_eq_true rfl) rfl ?_
    refine wp_aload dX10_decoded_7 rfl ?_
    refine wp_ifnull dX10_decoded_9 ?_
    refine wp_iload_n dX10_decoded_12 rfl ?_
    refine wp_if_lt (tgt := 28) dX10_decoded_13 rfl (fun c_13 => ?_) (fun c_13 => ?_)
    · refine wp_ldc2 dX10_decoded_28 kc_X10_179 ?_
      refine wp_lret dX10_decoded_31 rfl ?_
      refine ⟨rfl, Or.inl ⟨noK True (fun k hk e _ => ?_), rfl⟩⟩
      rw [e] at c_13
      exact nI_pos hk c_13
    · obtain ⟨k, hk, rfl⟩ := nI_of c_13
      refine wp_iload_n dX10_decoded_16 rfl ?_
      refine wp_aload dX10_decoded_17 rfl ?_
      refine wp_getf dX10_decoded_19 fl_X10_188 e1 rfl ?_
      refine wp_callV (As := []) (rest := [.int (nI k)]) dX10_decoded_22 me_Jx4a65c_size_8abf5 cw_X10_60 rfl ⟨(Nat.le_of_ble_eq_true rfl), (Nat.le_of_ble_eq_true rfl)⟩ rfl rfl rfl (Nat.le_of_ble_eq_true rfl) l1 (ct_lsize e4) (fun r h2 q => ?_)
      obtain ⟨q0, rfl⟩ := q
      rw [q0, List.length_map]
      refine wp_icmp_lt (tgt := 32) dX10_decoded_25 rfl (fun c_25 => ?_) (fun c_25 => ?_)
      · have hklt : k < (lyl p s 2).length := (nI_ltI hk (by omega)).mp c_25
        have hgk : (lyl p s 2)[k]? = some ((lyl p s 2)[k]) := List.getElem?_eq_getElem hklt
        generalize (lyl p s 2)[k] = i at hgk
        have hget : ((lyl p s 2).map sa)[k]? = some (sa i) := by rw [List.getElem?_map, hgk]; rfl
        have hkth := (r_kth_lyl ok hs).mpr hgk
        have hmem := lyl_mem.mp (List.mem_of_getElem? hgk)
        obtain ⟨s1, as, cF, s2, s3, s4⟩ := (m.2.2.2.1.2.2.2.1 i hmem.1).2.2 hmem.2.2
        obtain ⟨mcf, edf, f1, f2⟩ := id s2
        have hm12 := hm i hmem.1
        have noF : (∀ f, f < 2 ^ 31 → z = nI f → ¬ f < p.2.1 15 i) → ¬ ∃ k' i' f v, r_dok p (nI s) (nI k) z w k' i' f v := by
          rintro hno ⟨k', i', f, v, g1, g2, g3, g4, g5, -⟩
          have hkk : k = k' := (nI_eq hk g2).mp g1
          subst hkk
          have := (r_kth_lyl ok hs).mp g3
          rw [hgk] at this
          injection this with this
          subst this
          exact hno f (by omega) g4 g5
        refine wp_aload dX10_decoded_32 rfl ?_
        refine wp_getf dX10_decoded_34 fl_X10_188 e1 rfl ?_
        refine wp_iload_n dX10_decoded_37 rfl ?_
        refine wp_callV (As := [.int (nI k)]) (rest := []) dX10_decoded_38 me_Jx4a65c_get_915e3 cw_X10_191 rfl ⟨(Nat.le_of_ble_eq_true rfl), (Nat.le_of_ble_eq_true rfl)⟩ rfl rfl rfl (Nat.le_of_ble_eq_true rfl) l1 (ct_lget e4 hget) (fun r h3 q => ?_)
        obtain ⟨q0, rfl⟩ := q
        rw [q0]
        refine wp_cast dX10_decoded_41 ck_X10_194 s1 rfl ca_X7_X7 ?_
        refine wp_getf dX10_decoded_44 fl_X10_196 s1 rfl ?_
        refine wp_astore dX10_decoded_47 (Nat.le_of_ble_eq_true rfl) rfl ?_
        refine wp_iload_n dX10_decoded_49 rfl ?_
        refine wp_if_lt (tgt := 62) dX10_decoded_50 rfl (fun c_50 => ?_) (fun c_50 => ?_)
        · refine wp_ldc2 dX10_decoded_62 kc_X10_179 ?_
          refine wp_lret dX10_decoded_65 rfl ?_
          refine ⟨rfl, Or.inl ⟨noF (fun f hf e _ => ?_), rfl⟩⟩
          rw [e] at c_50
          exact nI_pos hf c_50
        · obtain ⟨f, hf, rfl⟩ := nI_of c_50
          refine wp_iload_n dX10_decoded_53 rfl ?_
          refine wp_aload dX10_decoded_54 rfl ?_
          refine wp_callV (As := []) (rest := [.int (nI f)]) dX10_decoded_56 me_Jx4a65c_size_8abf5 cw_X10_60 rfl ⟨(Nat.le_of_ble_eq_true rfl), (Nat.le_of_ble_eq_true rfl)⟩ rfl rfl rfl (Nat.le_of_ble_eq_true rfl) f1 (ct_lsize s2) (fun r h4 q => ?_)
          obtain ⟨q0, rfl⟩ := q
          rw [q0, s3]
          refine wp_icmp_lt (tgt := 66) dX10_decoded_59 rfl (fun c_59 => ?_) (fun c_59 => ?_)
          · have hflt : f < p.2.1 15 i := (nI_ltI hf (by omega)).mp c_59
            obtain ⟨a, b1, b2⟩ := s4 f hflt
            have hb18 := h18 i hmem.1 f hflt
            have yes : ∀ v, v ≤ 2 → w = nI v → r_dok p (nI s) (nI k) (nI f) w k i f v := fun v h1 h2 => ⟨rfl, hk, hkth, rfl, hflt, h2, h1⟩
            refine wp_iload dX10_decoded_66 rfl ?_
            by_cases w0 : w = nI 0
            · have := yes 0 (by decide) w0
              rw [w0] at this ⊢
              refine wp_tableIn (off := 28) (tgt := 96) dX10_decoded_68 (by decide) (by decide) rfl rfl ?_
              refine wp_aload dX10_decoded_96 rfl ?_
              refine wp_iload_n dX10_decoded_98 rfl ?_
              refine wp_callV (As := [.int (nI f)]) (rest := []) dX10_decoded_99 me_Jx4a65c_get_915e3 cw_X10_191 rfl ⟨(Nat.le_of_ble_eq_true rfl), (Nat.le_of_ble_eq_true rfl)⟩ rfl rfl rfl (Nat.le_of_ble_eq_true rfl) f1 (ct_lget s2 b1) (fun r h5 q => ?_)
              obtain ⟨q0, rfl⟩ := q
              rw [q0]
              refine wp_cast dX10_decoded_102 ck_X10_68 b2 rfl ca_X3_X3 ?_
              refine wp_getf dX10_decoded_105 fl_X10_199 b2 rfl ?_
              refine wp_lret dX10_decoded_108 rfl ?_
              exact ⟨rfl, Or.inr ⟨k, i, f, 0, this, rfl⟩⟩
            · by_cases w1 : w = nI 1
              · have := yes 1 (by decide) w1
                rw [w1] at this ⊢
                refine wp_tableIn (off := 41) (tgt := 109) dX10_decoded_68 (by decide) (by decide) rfl rfl ?_
                refine wp_aload dX10_decoded_109 rfl ?_
                refine wp_iload_n dX10_decoded_111 rfl ?_
                refine wp_callV (As := [.int (nI f)]) (rest := []) dX10_decoded_112 me_Jx4a65c_get_915e3 cw_X10_191 rfl ⟨(Nat.le_of_ble_eq_true rfl), (Nat.le_of_ble_eq_true rfl)⟩ rfl rfl rfl (Nat.le_of_ble_eq_true rfl) f1 (ct_lget s2 b1) (fun r h5 q => ?_)
                obtain ⟨q0, rfl⟩ := q
                rw [q0]
                refine wp_cast dX10_decoded_115 ck_X10_68 b2 rfl ca_X3_X3 ?_
                refine wp_getf dX10_decoded_118 fl_X10_203 b2 rfl ?_
                refine wp_lret dX10_decoded_121 rfl ?_
                exact ⟨rfl, Or.inr ⟨k, i, f, 1, this, rfl⟩⟩
              · by_cases w2 : w = nI 2
                · have := yes 2 (by decide) w2
                  rw [w2] at this ⊢
                  refine wp_tableIn (off := 54) (tgt := 122) dX10_decoded_68 (by decide) (by decide) rfl rfl ?_
                  refine wp_aload dX10_decoded_122 rfl ?_
                  refine wp_iload_n dX10_decoded_124 rfl ?_
                  refine wp_callV (As := [.int (nI f)]) (rest := []) dX10_decoded_125 me_Jx4a65c_get_915e3 cw_X10_191 rfl ⟨(Nat.le_of_ble_eq_true rfl), (Nat.le_of_ble_eq_true rfl)⟩ rfl rfl rfl (Nat.le_of_ble_eq_true rfl) f1 (ct_lget s2 b1) (fun r h5 q => ?_)
                  obtain ⟨q0, rfl⟩ := q
                  rw [q0]
                  refine wp_cast dX10_decoded_128 ck_X10_68 b2 rfl ca_X3_X3 ?_
                  refine wp_getf dX10_decoded_131 fl_X10_206 b2 rfl ?_
                  refine wp_if_eq (tgt := 141) dX10_decoded_134 rfl (fun c_134 => ?_) (fun c_134 => ?_)
                  · have e0 : p.2.1 18 (12 * i + f) = 0 := (nI_eq (b := 0) (by omega) (by decide)).mp c_134
                    refine wp_lconst (v := 0) dX10_decoded_141 rfl ?_
                    refine wp_lret dX10_decoded_142 rfl ?_
                    refine ⟨rfl, Or.inr ⟨k, i, f, 2, this, ?_⟩⟩
                    unfold r_dv
                    rw [if_neg (by decide), if_neg (by decide), e0]
                    rfl
                  · have e0 : p.2.1 18 (12 * i + f) ≠ 0 := fun e => c_134 (by rw [e]; rfl)
                    refine wp_lconst (v := 1) dX10_decoded_137 rfl ?_
                    refine wp_goto (tgt := 142) dX10_decoded_138 rfl ?_
                    refine wp_lret dX10_decoded_142 rfl ?_
                    refine ⟨rfl, Or.inr ⟨k, i, f, 2, this, ?_⟩⟩
                    unfold r_dv
                    rw [if_neg (by decide), if_neg (by decide), show p.2.1 18 (12 * i + f) = 1 by omega]
                    rfl
                · refine wp_tableOut (tgt := 143) dX10_decoded_68 ?_ rfl ?_
                  · rcases Int.lt_or_le w.toInt 0 with q | q
                    · exact Or.inl q
                    · rcases Int.lt_or_le 2 w.toInt with q2 | q2
                      · exact Or.inr q2
                      · exfalso
                        rcases (show w.toInt = 0 ∨ w.toInt = 1 ∨ w.toInt = 2 by omega) with z | z | z
                        · exact w0 (Int32.toInt_inj.mp z)
                        · exact w1 (Int32.toInt_inj.mp z)
                        · exact w2 (Int32.toInt_inj.mp z)
                  refine wp_ldc2 dX10_decoded_143 kc_X10_179 ?_
                  refine wp_lret dX10_decoded_146 rfl ?_
                  refine ⟨rfl, Or.inl ⟨?_, rfl⟩⟩
                  rintro ⟨k', i', f', v, -, -, -, -, -, g6, g7⟩
                  rcases (show v = 0 ∨ v = 1 ∨ v = 2 by omega) with rfl | rfl | rfl
                  · exact w0 g6
                  · exact w1 g6
                  · exact w2 g6
          · refine wp_ldc2 dX10_decoded_62 kc_X10_179 ?_
            refine wp_lret dX10_decoded_65 rfl ?_
            refine ⟨rfl, Or.inl ⟨noF (fun f' hf' e hlt => ?_), rfl⟩⟩
            have : f = f' := (nI_eq hf hf').mp e
            subst this
            exact c_59 (nI_lt hlt (by omega))
      · refine wp_ldc2 dX10_decoded_28 kc_X10_179 ?_
        refine wp_lret dX10_decoded_31 rfl ?_
        refine ⟨rfl, Or.inl ⟨noK True (fun k' hk' e hlt => ?_), rfl⟩⟩
        have : k = k' := (nI_eq hk hk').mp e
        subst this
        exact c_25 (nI_lt hlt (by omega))
end CP
