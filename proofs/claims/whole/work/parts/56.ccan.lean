/-! FieldPack: cancel -/
theorem r_cn_14 {s : Nat} : ∀ (n k : Nat) (p : rs) (i : Nat), (r_cn s n k p).2.1 14 i = if k ≤ i ∧ i < k + n ∧ p.2.1 11 i = s ∧ p.2.1 14 i < 2 then 3 else p.2.1 14 i := by
  intro n
  induction n with
  | zero => intro k p i; rw [if_neg (by omega)]; rfl
  | succ n ih =>
    intro k p i
    rw [r_cn, ih]
    by_cases c : p.2.1 11 k = s ∧ p.2.1 14 k < 2
    · rw [if_pos c]
      have e11 : (r_sa p 14 k 3).2.1 11 = p.2.1 11 := by funext x; simp [r_sa]
      rw [e11]
      by_cases e : i = k
      · subst e
        simp [r_sa]
        intro z
        have := z c.1
        omega
      · have e14 : (r_sa p 14 k 3).2.1 14 i = p.2.1 14 i := by simp [r_sa, e]
        rw [e14]
        by_cases c2 : k + 1 ≤ i ∧ i < k + 1 + n ∧ p.2.1 11 i = s ∧ p.2.1 14 i < 2
        · rw [if_pos c2, if_pos ⟨by omega, by omega, c2.2.2⟩]
        · rw [if_neg c2, if_neg (fun z => c2 ⟨by omega, by omega, z.2.2⟩)]
    · rw [if_neg c]
      by_cases c2 : k + 1 ≤ i ∧ i < k + 1 + n ∧ p.2.1 11 i = s ∧ p.2.1 14 i < 2
      · rw [if_pos c2, if_pos ⟨by omega, by omega, c2.2.2⟩]
      · rw [if_neg c2, if_neg]
        intro z
        by_cases e : i = k
        · subst e; exact c z.2.2
        · exact c2 ⟨by omega, by omega, z.2.2⟩
theorem r_can_1 {p : rs} {s x : Nat} (h16 : x ≠ 16) (h19 : x ≠ 19) : (r_can p s).1 x = p.1 x := by
  unfold r_can
  rw [r_tell_k h16 h19, (r_cn_k _ _ _).1]
  rfl
theorem r_can_a {p : rs} {s j : Nat} (h7 : j ≠ 7) (h8 : j ≠ 8) (h9 : j ≠ 9) (h10 : j ≠ 10) (h14 : j ≠ 14) (h24 : j ≠ 24) : (r_can p s).2.1 j = p.2.1 j := by
  unfold r_can
  rw [r_tell_a h7 h8 h9 h10, (r_cn_k _ _ _).2.1 j h14]
  funext i
  simp [r_sa, h24]
theorem r_can_l {p : rs} {s : Nat} : (r_can p s).2.2 = p.2.2 := by
  unfold r_can
  rw [r_tell_l, (r_cn_k _ _ _).2.2.1]
  rfl
theorem r_can_24 {p : rs} {s i : Nat} : (r_can p s).2.1 24 i = if i = s then 1 else p.2.1 24 i := by
  unfold r_can
  rw [r_tell_a (by decide) (by decide) (by decide) (by decide), (r_cn_k _ _ _).2.1 24 (by decide)]
  simp [r_sa]
theorem r_can_14 {p : rs} {s i : Nat} : (r_can p s).2.1 14 i = if i < p.1 28 ∧ p.2.1 11 i = s ∧ p.2.1 14 i < 2 then 3 else p.2.1 14 i := by
  unfold r_can
  rw [r_tell_a (by decide) (by decide) (by decide) (by decide), r_cn_14]
  have e11 : (r_sa p 24 s 1).2.1 11 = p.2.1 11 := by funext x; simp [r_sa]
  have e14 : (r_sa p 24 s 1).2.1 14 = p.2.1 14 := by funext x; simp [r_sa]
  rw [e11, e14]
  by_cases c : i < p.1 28 ∧ p.2.1 11 i = s ∧ p.2.1 14 i < 2
  · rw [if_pos c, if_pos ⟨Nat.zero_le _, by omega, c.2⟩]
  · rw [if_neg c, if_neg (fun z => c ⟨by have := z.2.1; omega, z.2.2⟩)]
theorem cnt_or (P Q R : Nat → Bool) (h : ∀ i, R i = (P i || Q i)) (hd : ∀ i, ¬ (P i = true ∧ Q i = true)) : ∀ n, ((List.range n).filter R).length = ((List.range n).filter P).length + ((List.range n).filter Q).length := by
  intro n
  induction n with
  | zero => rfl
  | succ n ih =>
    rw [cnt_s, cnt_s, cnt_s, ih, h]
    have := hd n
    cases hp : P n <;> cases hq : Q n <;> simp [b2n, hp, hq] at * <;> omega
theorem cnt_imp {P Q : Nat → Bool} (n : Nat) (h : ∀ i, i < n → P i = true → Q i = true) : ((List.range n).filter P).length ≤ ((List.range n).filter Q).length := by
  induction n with
  | zero => exact Nat.le_refl _
  | succ n ih =>
    rw [cnt_s, cnt_s]
    have h1 := ih (fun i hi => h i (by omega))
    have h2 := h n (by omega)
    cases hp : P n with
    | false => simp [b2n]; omega
    | true => rw [h2 hp]; simp [b2n]; omega
theorem r_cnN_eq (p : rs) (s : Nat) : r_cnN p s (p.1 28) = r_lying p s 0 + r_lying p s 1 := by
  unfold r_cnN r_lying r_lyTo
  refine cnt_or _ _ _ (fun i => ?_) (fun i => ?_) _
  · unfold r_lies
    rw [Bool.eq_iff_iff]
    simp only [Bool.and_eq_true, Bool.or_eq_true, beq_iff_eq, decide_eq_true_eq]
    omega
  · unfold r_lies
    simp only [Bool.and_eq_true, beq_iff_eq]
    omega
section CP
variable {G : fp_G} {h : fp_H} {o : Nat} {A la : Nat → Nat} {p : rs} {B c : Nat}
set_option maxHeartbeats 1000000 in
theorem cp_cancel {x : Int32} (m : CC G h o A la p B c) (ok : rok p) (hc : p.1 28 ≤ 200) (h16 : p.1 16 + 6 ≤ 4000) (hm : ∀ k, k < p.1 28 → p.2.1 15 k ≤ 12) (h23 : p.1 23 ≤ p.1 19) : fp_ct G rm_X10_cancel M_X10_cancel [.ref o, .int x] h (fun r h' => ((¬ ∃ s, s < 8 ∧ x = nI s ∧ p.2.1 24 s = 0) ∧ r = some (.int (-1)) ∧ h' = h) ∨ ∃ s, s < 8 ∧ x = nI s ∧ p.2.1 24 s = 0 ∧ r = some (.int (nI (r_cnN p s (p.1 28)))) ∧ CC G h' o A la (r_can p s) B (c + 1) ∧ cf nR h h') := by
  obtain ⟨ba, sa, ra, fa, oa, K, c1, c2, c3, m, kb, cx⟩ := m
  have w := m.wf
  obtain ⟨m1, ⟨m2, m3, fl, m4, m5⟩, m6, m7, m8, m9, fs, m10, m11⟩ := id m
  obtain ⟨⟨d1, d2⟩, d3, d4, d5, d6⟩ := id m7
  refine fp_meth pn_X10 (Nat.le_of_ble_eq_true rfl) rfl ?_
  refine wp_aload_n dX10_cancel_0 rfl ?_
  refine wp_iload_n dX10_cancel_1 rfl ?_
  refine wp_callV (As := [.int x]) (rest := []) dX10_cancel_2 me_X10_laneOf cw_X10_77 rfl ⟨(Nat.le_of_ble_eq_true rfl), (Nat.le_of_ble_eq_true rfl)⟩ rfl rfl rfl (Nat.le_of_ble_eq_true rfl) m1 (cp_lane m) (fun r h1 q => ?_)
  obtain ⟨q0, q⟩ := q
  rw [q0]
  rcases q with ⟨q1, rfl⟩ | ⟨s, hs, rfl, rfl⟩
  · refine wp_astore_nN dX10_cancel_5 (Nat.le_of_ble_eq_true rfl) rfl ?_
    refine wp_aload_nN dX10_cancel_6 rfl ?_
    refine wp_ifnullN (tgt := 17) dX10_cancel_7 rfl ?_
    refine wp_iconst (v := (-1)) dX10_cancel_17 rfl ?_
    refine wp_iret dX10_cancel_18 rfl rfl ?_
    refine Or.inl ⟨?_, rfl, rfl⟩
    rintro ⟨s, h1, h2, -⟩
    exact q1 ⟨s, h1, h2⟩
  · have uniq : ∀ s', s' < 8 → nI s = nI s' → s' = s := fun s' h1 h2 => ((nI_eq (by omega) (by omega)).mp h2).symm
    obtain ⟨onw, wai, red, e1, e2, e3, e4, e5⟩ := d4 s hs
    obtain ⟨mc1, ed1, l1, -⟩ := id e2
    obtain ⟨mc2, ed2, l2, -⟩ := id e3
    have o24 := ok.2.1 24 s
    refine wp_astore_n dX10_cancel_5 (Nat.le_of_ble_eq_true rfl) rfl ?_
    refine wp_aload_n dX10_cancel_6 rfl ?_
    refine wp_ifnull dX10_cancel_7 ?_
    refine wp_aload_n dX10_cancel_10 rfl ?_
    refine wp_getf dX10_cancel_11 fl_X10_81 e1 rfl ?_
    refine wp_if_eq (tgt := 19) dX10_cancel_14 rfl (fun c_14 => ?_) (fun c_14 => ?_)
    · have hz : p.2.1 24 s = 0 := (nI_eq (b := 0) (by omega) (by decide)).mp c_14
      have hl0 : r_lying p s 0 ≤ p.1 28 := cnt_le _ _
      have hl1 : r_lying p s 1 ≤ p.1 28 := cnt_le _ _
      refine wp_aload_n dX10_cancel_19 rfl ?_
      refine wp_getf dX10_cancel_20 fl_X10_85 e1 rfl ?_
      refine wp_callV (As := []) (rest := []) dX10_cancel_23 me_Jx4a65c_size_8abf5 cw_X10_60 rfl ⟨(Nat.le_of_ble_eq_true rfl), (Nat.le_of_ble_eq_true rfl)⟩ rfl rfl rfl (Nat.le_of_ble_eq_true rfl) l1 (ct_lsize e2) (fun r h2 q => ?_)
      obtain ⟨q0, rfl⟩ := q
      rw [q0, List.length_map, lyl_len]
      refine wp_aload_n dX10_cancel_26 rfl ?_
      refine wp_getf dX10_cancel_27 fl_X10_133 e1 rfl ?_
      refine wp_callV (As := []) (rest := [.int (nI (r_lying p s 0))]) dX10_cancel_30 me_Jx4a65c_size_8abf5 cw_X10_60 rfl ⟨(Nat.le_of_ble_eq_true rfl), (Nat.le_of_ble_eq_true rfl)⟩ rfl rfl rfl (Nat.le_of_ble_eq_true rfl) l2 (ct_lsize e3) (fun r h3 q => ?_)
      obtain ⟨q0, rfl⟩ := q
      rw [q0, List.length_map, lyl_len]
      refine wp_iadd dX10_cancel_33 ?_
      rw [nI_add, ← r_cnN_eq]
      refine wp_istore_n dX10_cancel_34 (Nat.le_of_ble_eq_true rfl) rfl ?_
      refine wp_aload_n dX10_cancel_35 rfl ?_
      refine wp_getf dX10_cancel_36 fl_X10_85 e1 rfl ?_
      refine wp_callV (As := []) (rest := []) dX10_cancel_39 me_Jx4a65c_clear_da8c8 cw_X10_103 rfl ⟨(Nat.le_of_ble_eq_true rfl), (Nat.le_of_ble_eq_true rfl)⟩ rfl rfl rfl (Nat.le_of_ble_eq_true rfl) l1 (ct_lclear e2) (fun r h4 q => ?_)
      obtain ⟨rfl, q1, q2, q3⟩ := q
      have t2 : ∀ t, t ≠ 20 + s → ¬ (fun x => x = 20 + s) t := fun t h1 z => h1 z
      refine wp_aload_n dX10_cancel_42 rfl ?_
      refine wp_getf dX10_cancel_43 fl_X10_133 (q2.at e1 (t2 _ (by omega))) rfl ?_
      refine wp_callV (As := []) (rest := []) dX10_cancel_46 me_Jx4a65c_clear_da8c8 cw_X10_103 rfl ⟨(Nat.le_of_ble_eq_true rfl), (Nat.le_of_ble_eq_true rfl)⟩ rfl rfl rfl (Nat.le_of_ble_eq_true rfl) (q2.at l2 (t2 _ (by omega))) (ct_lclear (e3.kept q2 (t2 _ (by omega)))) (fun r h5 y => ?_)
      obtain ⟨rfl, y1, y2, y3⟩ := y
      have c5 : cf (fun x => x = 20 + s ∨ x = 30 + s) h h5 := (q2.mono (fun _ z => Or.inl z)).trans (y2.mono (fun _ z => Or.inr z))
      have t5 : ∀ t, t ≠ 20 + s → t ≠ 30 + s → ¬ (fun x => x = 20 + s ∨ x = 30 + s) t := fun t h1 h2 z => z.elim h1 h2
      have e15 := c5.at e1 (t5 _ (by omega) (by omega))
      have c6 : cf (fun x => x = 50 + s) h5 (fp_put h5 (la s) (50 + s) (.inr (5, [.int (nI s), .ref onw, .ref wai, .ref red, .int 1]))) := cf.put1 e15
      have g6 : (fp_put h5 (la s) (50 + s) (.inr (5, [.int (nI s), .ref onw, .ref wai, .ref red, .int 1]))).1 (la s) = some (50 + s, .inr (5, [.int (nI s), .ref onw, .ref wai, .ref red, .int 1])) := fp_put_eq
      have z6 : (fp_put h5 (la s) (50 + s) (.inr (5, [.int (nI s), .ref onw, .ref wai, .ref red, .int 1]))).2.2 = h.2.2 := by show h5.2.2 = _; rw [y3, q3]
      have c56 : cf (fun x => x = 20 + s ∨ x = 30 + s ∨ x = 50 + s) h (fp_put h5 (la s) (50 + s) (.inr (5, [.int (nI s), .ref onw, .ref wai, .ref red, .int 1]))) := (c5.mono (fun _ z => by rcases z with z | z; exact Or.inl z; exact Or.inr (Or.inl z))).trans (c6.mono (fun _ z => Or.inr (Or.inr z)))
      have t6 : ∀ t, t ≠ 20 + s → t ≠ 30 + s → t ≠ 50 + s → ¬ (fun x => x = 20 + s ∨ x = 30 + s ∨ x = 50 + s) t := fun t h1 h2 h3 z => by rcases z with z | z | z; exact h1 z; exact h2 z; exact h3 z
      have q16 := (q1.kept y2 (fun z => by omega)).kept c6 (fun z => by omega)
      have y16 := y1.kept c6 (fun z => by omega)
      have m16 := c56.at m1 (t6 2 (by omega) (by omega) (by omega))
      have m36 := c56.at m3 (t6 9 (by omega) (by omega) (by omega))
      have w6 := c56.wf w
      have d36 := d3.kept c56 (t6 12 (by omega) (by omega) (by omega))
      refine wp_aload_n dX10_cancel_49 rfl ?_
      refine wp_iconst (v := 1) dX10_cancel_50 rfl ?_
      refine wp_putf dX10_cancel_51 (fs_X10_81 _) e15 (Nat.le_of_ble_eq_true rfl) rfl rfl ?_
      refine fp_wp_h (h' := fp_put h5 (la s) (50 + s) (.inr (5, [.int (nI s), .ref onw, .ref wai, .ref red, .int 1]))) rfl ?_
      generalize fp_put h5 (la s) (50 + s) (.inr (5, [.int (nI s), .ref onw, .ref wai, .ref red, .int 1])) = h6 at c6 g6 z6 c56 q16 y16 m16 m36 w6 d36 ⊢
      obtain ⟨rb, fb, b1, -⟩ := id d36
      refine wp_aload_n dX10_cancel_54 rfl ?_
      refine wp_getf dX10_cancel_55 fl_X10_25 m16 rfl ?_
      refine wp_getf dX10_cancel_58 fl_X10_95 m36 rfl ?_
      refine wp_bipush (v := 64) dX10_cancel_61 rfl ?_
      refine wp_bipush (v := 6) dX10_cancel_63 rfl ?_
      refine wp_iload_n dX10_cancel_65 rfl ?_
      refine wp_callV (As := [.int (nI 64), .int (nI 6), .int (nI s)]) (rest := []) dX10_cancel_66 me_X0_putNumber cw_X10_148 rfl ⟨(Nat.le_of_ble_eq_true rfl), (Nat.le_of_ble_eq_true rfl)⟩ rfl rfl rfl (Nat.le_of_ble_eq_true rfl) b1 (cc_putNumber w6 d36 (by rw [wlx_len]; omega) (by decide) (by decide +kernel) (by omega)) (fun r h7 b => ?_)
      obtain ⟨rfl, cB, b1, b2, b3, b4, b5⟩ := b
      refine wp_iload_n dX10_cancel_69 rfl ?_
      refine wp_iret dX10_cancel_70 rfl rfl ?_
      have c7 : cf (fun x => x = 20 + s ∨ x = 30 + s ∨ x = 50 + s ∨ x = 12) h h7 := (c56.mono (fun _ z => by rcases z with z | z | z; exact Or.inl z; exact Or.inr (Or.inl z); exact Or.inr (Or.inr (Or.inl z)))).trans (b4.mono (fun _ z => Or.inr (Or.inr (Or.inr z))))
      have t7 : ∀ t, t ≠ 20 + s → t ≠ 30 + s → t ≠ 50 + s → t ≠ 12 → ¬ (fun x => x = 20 + s ∨ x = 30 + s ∨ x = 50 + s ∨ x = 12) t := fun t h1 h2 h3 h4 z => by rcases z with z | z | z | z; exact h1 z; exact h2 z; exact h3 z; exact h4 z
      refine Or.inr ⟨s, hs, rfl, hz, rfl, ?_, c7.mono (fun t z => by show t ≠ 1; omega)⟩
      have d28 : (r_can p s).1 28 = p.1 28 := r_can_1 (by decide) (by decide)
      have a11 : (r_can p s).2.1 11 = p.2.1 11 := r_can_a (by decide) (by decide) (by decide) (by decide) (by decide) (by decide)
      have ewl : wlx (r_can p s) 16 7 = wlx p 16 7 ++ nb 64 6 s := by
        have e1 : wlx (r_cn s (p.1 28) 0 (r_sa p 24 s 1)) 16 7 = wlx p 16 7 := by
          unfold wlx
          rw [(r_cn_k _ _ _).1, (r_cn_k _ _ _).2.1 7 (by decide)]
          simp [r_sa]
        unfold r_can
        rw [wlx_told, e1]
        rfl
      have elo : ∀ s' w, s' ≠ s ∨ w = 2 → lyl (r_can p s) s' w = lyl p s' w := fun s' w hh => by
        refine lyl_eq d28 (fun k hk => ?_)
        rw [a11, r_can_14]
        split
        · rename_i z
          constructor
          · rintro ⟨y1, y2⟩
            rcases hh with hh | hh
            · exact absurd (by rw [← y1, z.2.1]) hh
            · omega
          · rintro ⟨y1, y2⟩
            rcases hh with hh | hh
            · exact absurd (by rw [← y1, z.2.1]) hh
            · omega
        · exact Iff.rfl
      have els : ∀ w, w < 2 → lyl (r_can p s) s w = [] := fun w hw => by
        unfold lyl
        rw [List.filter_eq_nil_iff]
        intro k hk hl
        rw [d28] at hk
        have hk' := List.mem_range.mp hk
        unfold r_lies at hl
        rw [Bool.and_eq_true, beq_iff_eq, beq_iff_eq, a11, r_can_14] at hl
        obtain ⟨y1, y2⟩ := hl
        split at y2
        · omega
        · rename_i z; exact z ⟨hk', y1, by omega⟩
      refine ⟨ba, sa, ra, fa, oa, (fun i => if i = 3 then cB else K i), c1, c2, c3, ⟨by rw [d28]; exact c7.at m1 (t7 2 (by omega) (by omega) (by omega) (by omega)), ⟨c7.at m2 (t7 9 (by omega) (by omega) (by omega) (by omega)), c7.at m3 (t7 9 (by omega) (by omega) (by omega) (by omega)), fl, c7.at m4 (t7 9 (by omega) (by omega) (by omega) (by omega)), m5⟩, ?_, ⟨⟨?_, ?_⟩, by rw [ewl]; exact b1, fun s' hs' => ?_, fun k hk => ?_, c7.wf w⟩, ?_, ?_, fs, m10.kept c7 (t7 18 (by omega) (by omega) (by omega) (by omega)), (m11.kept c7 (t7 9 (by omega) (by omega) (by omega) (by omega))).eq (r_can_1 (by decide) (by decide)) (r_can_a (by decide) (by decide) (by decide) (by decide) (by decide) (by decide)) (by rw [r_can_l]) (by rw [r_can_l])⟩, ?_, ?_⟩
      · refine (m6.keptA c7 (fun t z => by omega)).eq ⟨r_can_1 (by decide) (by decide), r_can_1 (by decide) (by decide), r_can_1 (by decide) (by decide), r_can_1 (by decide) (by decide), r_can_1 (by decide) (by decide), r_can_1 (by decide) (by decide), d28, a11, r_can_a (by decide) (by decide) (by decide) (by decide) (by decide) (by decide), r_can_a (by decide) (by decide) (by decide) (by decide) (by decide) (by decide), r_can_a (by decide) (by decide) (by decide) (by decide) (by decide) (by decide), r_can_a (by decide) (by decide) (by decide) (by decide) (by decide) (by decide), by rw [r_can_l], by rw [r_can_l]⟩ ?_
        unfold wlx; rw [r_can_1 (by decide) (by decide), r_can_a (by decide) (by decide) (by decide) (by decide) (by decide) (by decide)]
      · rw [r_can_1 (by decide) (by decide)]
        exact c7.at d1 (t7 4 (by omega) (by omega) (by omega) (by omega))
      · rw [r_can_l, r_can_1 (show 0 ≠ 16 by decide) (by decide), r_can_1 (show 24 ≠ 16 by decide) (by decide), r_can_1 (show 25 ≠ 16 by decide) (by decide), r_can_1 (show 26 ≠ 16 by decide) (by decide)]
        exact d2.kept c7 (t7 16 (by omega) (by omega) (by omega) (by omega))
      · by_cases e : s' = s
        · subst e
          refine ⟨onw, wai, red, ?_, by rw [els 0 (by decide)]; exact q16.kept b4 (fun z => by omega), by rw [els 1 (by decide)]; exact y16.kept b4 (fun z => by omega), ?_, e5⟩
          · rw [r_can_24, if_pos rfl]
            exact b4.at g6 (fun z => by omega)
          · rw [elo s' 2 (Or.inr rfl)]
            exact e4.kept c7 (t7 _ (by omega) (by omega) (by omega) (by omega))
        · exact ((d4 s' hs').kept c7 (t7 _ (by omega) (by omega) (by omega) (by omega)) (t7 _ (by omega) (by omega) (by omega) (by omega)) (t7 _ (by omega) (by omega) (by omega) (by omega)) (t7 _ (by omega) (by omega) (by omega) (by omega))).eq (by rw [r_can_24, if_neg e]) (by rw [elo s' 0 (Or.inl e)]) (by rw [elo s' 1 (Or.inl e)]) (by rw [elo s' 2 (Or.inl e)]) rfl rfl rfl
      · rw [d28] at hk
        by_cases z : k < p.1 28 ∧ p.2.1 11 k = s ∧ p.2.1 14 k < 2
        · have e14 : (r_can p s).2.1 14 k = 3 := by rw [r_can_14, if_pos z]
          refine ⟨fun y => ?_, fun y => ?_, fun y => ?_⟩ <;> rw [e14] at y <;> cases y
        · exact ((d5 k hk).kept c7 (t7 9 (by omega) (by omega) (by omega) (by omega)) (t7 _ (by omega) (by omega) (by omega) (by omega)) (t7 _ (by omega) (by omega) (by omega) (by omega)) (t7 _ (by omega) (by omega) (by omega) (by omega))).eq (kEq.of (r_can_1 (by decide) (by decide)) (by rw [r_can_14, if_neg z]) (by rw [r_can_a (by decide) (by decide) (by decide) (by decide) (by decide) (by decide)]) (by rw [r_can_a (by decide) (by decide) (by decide) (by decide) (by decide) (by decide)]) (r_can_a (by decide) (by decide) (by decide) (by decide) (by decide) (by decide)) (r_can_a (by decide) (by decide) (by decide) (by decide) (by decide) (by decide)) (r_can_a (by decide) (by decide) (by decide) (by decide) (by decide) (by decide)) (r_can_a (by decide) (by decide) (by decide) (by decide) (by decide) (by decide)) r_can_l) (hm k hk) rfl rfl rfl rfl
      · have : r_is (r_can p s) ((r_can p s).1 24) = r_is p (p.1 24) := by unfold r_is; rw [r_can_1 (by decide) (by decide), r_can_a (by decide) (by decide) (by decide) (by decide) (by decide) (by decide)]
        rw [this, r_can_1 (by decide) (by decide)]
        exact c7.at m8 (t7 11 (by omega) (by omega) (by omega) (by omega))
      · have : r_st (r_can p s) ((r_can p s).1 23) = r_st p (p.1 23) := by
          rw [r_can_1 (by decide) (by decide)]
          unfold r_st
          split
          · rfl
          · show (r_tell (r_cn s (p.1 28) 0 (r_sa p 24 s 1)) 2 s).2.1 10 (p.1 23 - 1) = _
            unfold r_tell
            simp only [r_told, r_si, r_sa]
            rw [if_neg (by rw [r_lays_k (show 19 ≠ r_wc 1 by decide), (r_cn_k _ _ _).1]; rintro ⟨-, z⟩; change p.1 23 - 1 = p.1 19 at z; omega)]
            simp [r_lays_a (show 10 ≠ r_wa 1 by decide)]
            rw [(r_cn_k _ _ _).2.1 10 (by decide)]
            simp
        rw [this, r_can_1 (by decide) (by decide)]
        exact c7.at m9 (t7 13 (by omega) (by omega) (by omega) (by omega))
      · have e16 : (r_can p s).1 16 = p.1 16 + (nb 64 6 s).length := by
          have := congrArg List.length ewl
          rw [wlx_len, List.length_append, wlx_len] at this
          exact this
        obtain ⟨k0, k1, k2, k3, k4, k5⟩ := kb
        rw [List.length_append, wlx_len] at b3
        refine ⟨?_, k1, k2, ?_, k4, k5⟩
        · show K 0 ≤ max 64 (2 * (r_can p s).1 13 + 8)
          rw [r_can_1 (by decide) (by decide)]
          exact k0
        · show cB ≤ max 64 (2 * (r_can p s).1 16 + 8)
          rw [e16]
          omega
      · have w1 : r_wn (r_can p s) ≤ r_wn p := by
          unfold r_wn
          rw [d28]
          refine cnt_imp _ (fun i _ hi => ?_)
          rw [beq_iff_eq, r_can_14] at hi
          rw [beq_iff_eq]
          split at hi
          · omega
          · exact hi
        have w2 : r_zn (r_can p s) ≤ r_zn p := by
          unfold r_zn
          rw [d28]
          refine cnt_imp _ (fun i _ hi => ?_)
          rw [beq_iff_eq, r_can_14] at hi
          rw [beq_iff_eq]
          split at hi
          · omega
          · exact hi
        unfold CX at *
        rw [d28]
        show h7.2.2 + 260 * r_zn (r_can p s) + 250 * r_wn (r_can p s) ≤ B + 2 * (K 0 + K 1 + cB) + 4 * (K 2 + K 4 + sum8 c1 + sum8 c2 + sum8 c3) + 1400 * p.1 28 + 3 * (c + 1)
        omega
    · refine wp_iconst (v := (-1)) dX10_cancel_17 rfl ?_
      refine wp_iret dX10_cancel_18 rfl rfl ?_
      refine Or.inl ⟨?_, rfl, rfl⟩
      rintro ⟨s', h1, h2, h3⟩
      rw [uniq s' h1 h2] at h3
      exact c_14 (by rw [h3]; rfl)
end CP
