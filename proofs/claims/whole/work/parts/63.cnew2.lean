/-! FieldPack: its constructor -/
theorem pos_eq (k : Nat) (hk : k < 2 ^ 31) : (if (0 : Int32) < nI k then nI k else 0) = nI k := by
  by_cases h2 : k = 0
  · subst h2; rfl
  · rw [if_pos (show (0 : Int32) < nI k from nI_lt (a := 0) (b := k) (by omega) hk)]
theorem cl_eq (x : Int32) (n : Nat) (hn : n < 2 ^ 20) : (if (0 : Int32) < (if x < nI n then x else nI n) then (if x < nI n then x else nI n) else 0) = nI (r_cl x n) := by
  unfold r_cl
  by_cases h0 : x < 0
  · rw [if_pos h0]
    have h1 : x < nI n := by
      have := nI_pos (n := n) (by omega)
      rw [Int32.lt_iff_toInt_lt] at *
      have e0 : (0 : Int32).toInt = 0 := rfl
      omega
    rw [if_pos h1, if_neg]
    · rfl
    · intro z
      rw [Int32.lt_iff_toInt_lt] at *
      omega
  · obtain ⟨k, hk, rfl⟩ := nI_of h0
    rw [if_neg h0]
    by_cases h1 : k < n
    · rw [if_pos (show nI k < nI n from nI_lt h1 (by omega)), if_pos (show nI k ≤ nI n from nI_le (by omega) (by omega)), nI_clamp (by omega), pos_eq k hk]
    · rw [if_neg (fun z => h1 ((nI_ltI (by omega) (by omega)).mp z)), pos_eq n (by omega)]
      by_cases h2 : k = n
      · subst h2
        rw [if_pos (show nI k ≤ nI k from nI_le (Nat.le_refl _) (by omega)), nI_clamp (by omega)]
      · rw [if_neg (show ¬ nI k ≤ nI n from fun z => h2 (by have := (nI_leI (by omega) (by omega)).mp z; omega))]
theorem dX10_init_0 : decode cX10_init 0 = .ok (.aload_n 0, 1) := by decide +kernel
theorem dX10_init_1 : decode cX10_init 1 = .ok (.invokespecial 1, 3) := by decide +kernel
theorem dX10_init_4 : decode cX10_init 4 = .ok (.iconst 0, 1) := by decide +kernel
theorem dX10_init_5 : decode cX10_init 5 = .ok (.sipush 400, 3) := by decide +kernel
theorem dX10_init_8 : decode cX10_init 8 = .ok (.iload_n 1, 1) := by decide +kernel
theorem dX10_init_9 : decode cX10_init 9 = .ok (.invokestatic 9, 3) := by decide +kernel
theorem dX10_init_12 : decode cX10_init 12 = .ok (.invokestatic 15, 3) := by decide +kernel
theorem dX10_init_15 : decode cX10_init 15 = .ok (.istore_n 3, 1) := by decide +kernel
theorem dX10_init_16 : decode cX10_init 16 = .ok (.aload_n 0, 1) := by decide +kernel
theorem dX10_init_17 : decode cX10_init 17 = .ok (.new 18, 3) := by decide +kernel
theorem dX10_init_20 : decode cX10_init 20 = .ok (.dup, 1) := by decide +kernel
theorem dX10_init_21 : decode cX10_init 21 = .ok (.invokespecial 20, 3) := by decide +kernel
theorem dX10_init_24 : decode cX10_init 24 = .ok (.putfield 21, 3) := by decide +kernel
theorem dX10_init_27 : decode cX10_init 27 = .ok (.aload_n 0, 1) := by decide +kernel
theorem dX10_init_28 : decode cX10_init 28 = .ok (.new 18, 3) := by decide +kernel
theorem dX10_init_31 : decode cX10_init 31 = .ok (.dup, 1) := by decide +kernel
theorem dX10_init_32 : decode cX10_init 32 = .ok (.invokespecial 20, 3) := by decide +kernel
theorem dX10_init_35 : decode cX10_init 35 = .ok (.putfield 25, 3) := by decide +kernel
theorem dX10_init_38 : decode cX10_init 38 = .ok (.aload_n 0, 1) := by decide +kernel
theorem dX10_init_39 : decode cX10_init 39 = .ok (.new 28, 3) := by decide +kernel
theorem dX10_init_42 : decode cX10_init 42 = .ok (.dup, 1) := by decide +kernel
theorem dX10_init_43 : decode cX10_init 43 = .ok (.iload_n 3, 1) := by decide +kernel
theorem dX10_init_44 : decode cX10_init 44 = .ok (.iconst 0, 1) := by decide +kernel
theorem dX10_init_45 : decode cX10_init 45 = .ok (.iconst 4, 1) := by decide +kernel
theorem dX10_init_46 : decode cX10_init 46 = .ok (.iload_n 2, 1) := by decide +kernel
theorem dX10_init_47 : decode cX10_init 47 = .ok (.invokestatic 9, 3) := by decide +kernel
theorem dX10_init_50 : decode cX10_init 50 = .ok (.invokestatic 15, 3) := by decide +kernel
theorem dX10_init_53 : decode cX10_init 53 = .ok (.invokespecial 30, 3) := by decide +kernel
theorem dX10_init_56 : decode cX10_init 56 = .ok (.putfield 33, 3) := by decide +kernel
theorem dX10_init_59 : decode cX10_init 59 = .ok (.aload_n 0, 1) := by decide +kernel
theorem dX10_init_60 : decode cX10_init 60 = .ok (.new 37, 3) := by decide +kernel
theorem dX10_init_63 : decode cX10_init 63 = .ok (.dup, 1) := by decide +kernel
theorem dX10_init_64 : decode cX10_init 64 = .ok (.iload_n 3, 1) := by decide +kernel
theorem dX10_init_65 : decode cX10_init 65 = .ok (.invokespecial 39, 3) := by decide +kernel
theorem dX10_init_68 : decode cX10_init 68 = .ok (.putfield 42, 3) := by decide +kernel
theorem dX10_init_71 : decode cX10_init 71 = .ok (.aload_n 0, 1) := by decide +kernel
theorem dX10_init_72 : decode cX10_init 72 = .ok (.bipush 8, 2) := by decide +kernel
theorem dX10_init_74 : decode cX10_init 74 = .ok (.anewarray 46, 3) := by decide +kernel
theorem dX10_init_77 : decode cX10_init 77 = .ok (.putfield 48, 3) := by decide +kernel
theorem dX10_init_80 : decode cX10_init 80 = .ok (.iconst 0, 1) := by decide +kernel
theorem dX10_init_81 : decode cX10_init 81 = .ok (.istore 4, 2) := by decide +kernel
theorem dX10_init_83 : decode cX10_init 83 = .ok (.iload 4, 2) := by decide +kernel
theorem dX10_init_85 : decode cX10_init 85 = .ok (.bipush 8, 2) := by decide +kernel
theorem dX10_init_87 : decode cX10_init 87 = .ok (.if_icmp .ge 25, 3) := by decide +kernel
theorem dX10_init_90 : decode cX10_init 90 = .ok (.aload_n 0, 1) := by decide +kernel
theorem dX10_init_91 : decode cX10_init 91 = .ok (.getfield 48, 3) := by decide +kernel
theorem dX10_init_94 : decode cX10_init 94 = .ok (.iload 4, 2) := by decide +kernel
theorem dX10_init_96 : decode cX10_init 96 = .ok (.new 46, 3) := by decide +kernel
theorem dX10_init_99 : decode cX10_init 99 = .ok (.dup, 1) := by decide +kernel
theorem dX10_init_100 : decode cX10_init 100 = .ok (.iload 4, 2) := by decide +kernel
theorem dX10_init_102 : decode cX10_init 102 = .ok (.invokespecial 52, 3) := by decide +kernel
theorem dX10_init_105 : decode cX10_init 105 = .ok (.aastore, 1) := by decide +kernel
theorem dX10_init_106 : decode cX10_init 106 = .ok (.iinc 4 1, 3) := by decide +kernel
theorem dX10_init_109 : decode cX10_init 109 = .ok (.goto (-26), 3) := by decide +kernel
theorem dX10_init_112 : decode cX10_init 112 = .ok (.aload_n 0, 1) := by decide +kernel
theorem dX10_init_113 : decode cX10_init 113 = .ok (.new 53, 3) := by decide +kernel
theorem dX10_init_116 : decode cX10_init 116 = .ok (.dup, 1) := by decide +kernel
theorem dX10_init_117 : decode cX10_init 117 = .ok (.invokespecial 55, 3) := by decide +kernel
theorem dX10_init_120 : decode cX10_init 120 = .ok (.putfield 56, 3) := by decide +kernel
theorem dX10_init_123 : decode cX10_init 123 = .ok (.return_, 1) := by decide +kernel
section CN
variable {G : fp_G} {h : fp_H} {o : Nat}
def lnO (G : fp_G) (h : fp_H) (la : Nat → Nat) (s : Nat) : Prop := ∃ onw wai red, h.1 (la s) = some (50 + s, .inr (5, [.int (nI s), .ref onw, .ref wai, .ref red, .int 0])) ∧ lst G h (20 + s) onw [] 0 ∧ lst G h (30 + s) wai [] 0 ∧ lst G h (40 + s) red [] 0
theorem lnO.kept {h' : fp_H} {la : Nat → Nat} {s : Nat} {S : Nat → Prop} (x : lnO G h la s) (c : cf S h h') (h2 : ¬ S (20 + s)) (h3 : ¬ S (30 + s)) (h4 : ¬ S (40 + s)) (h5 : ¬ S (50 + s)) : lnO G h' la s := by
  obtain ⟨onw, wai, red, a, b, d, e⟩ := x
  exact ⟨onw, wai, red, c.at a h5, b.kept c h2, d.kept c h3, e.kept c h4⟩
set_option maxHeartbeats 2000000 in
theorem cp_new {x y : Int32} (w : fp_wf h) (ho : h.1 o = some (2, .inr (11, [.null, .null, .null, .null, .null, .null, .int 0]))) : fp_ct G rm_X10_init M_X10_init [.ref o, .int x, .int y] h (fun r h' => r = none ∧ ∃ A la, CC G h' o A la (r_new x y) (h.2.2 + 457) 0 ∧ cf nR h h') := by
  have hx4 := r_cl_spec x 400 (by decide)
  have hy4 := r_cl_spec y 4 (by decide)
  refine fp_meth pn_X10 (Nat.le_of_ble_eq_true rfl) rfl ?_
  refine wp_aload_n dX10_init_0 rfl ?_
  refine wp_objInit dX10_init_1 cw_X10_1 ⟨(Nat.le_of_ble_eq_true rfl), (Nat.le_of_ble_eq_true rfl)⟩ rfl (Nat.le_of_ble_eq_true rfl) ?_
  refine wp_iconst (v := 0) dX10_init_4 rfl ?_
  refine wp_sipush (v := 400) dX10_init_5 rfl ?_
  refine wp_iload_n dX10_init_8 rfl ?_
  refine wp_callS (As := [.int (nI 400), .int x]) (rest := [.int 0]) dX10_init_9 me_J9_min_7cf53 cw_X10_9 ⟨(Nat.le_of_ble_eq_true rfl), (Nat.le_of_ble_eq_true rfl)⟩ rfl rfl rfl (Nat.le_of_ble_eq_true rfl) (ct_min _ _) (fun r h1 q => ?_)
  obtain ⟨q0, rfl⟩ := q
  rw [q0]
  refine wp_callS (As := [.int 0, .int (if x < nI 400 then x else nI 400)]) (rest := []) dX10_init_12 me_J9_max_7cf53 cw_X10_15 ⟨(Nat.le_of_ble_eq_true rfl), (Nat.le_of_ble_eq_true rfl)⟩ rfl rfl rfl (Nat.le_of_ble_eq_true rfl) (ct_max _ _) (fun r h1 q => ?_)
  obtain ⟨q0, rfl⟩ := q
  rw [q0, cl_eq x 400 (by decide)]
  generalize hcx : r_cl x 400 = cx at hx4
  -- the wires
  refine wp_istore_n dX10_init_15 (Nat.le_of_ble_eq_true rfl) rfl ?_
  refine wp_aload_n dX10_init_16 rfl ?_
  refine wp_new 60 dX10_init_17 nw_X10_18 ?_
  refine wp_dup dX10_init_20 rfl ?_
  refine wp_callI (As := []) (rest := [.ref h.2.1, .ref o]) dX10_init_21 me_X9_init rfl cw_X10_20 rfl ⟨(Nat.le_of_ble_eq_true rfl), (Nat.le_of_ble_eq_true rfl)⟩ rfl rfl rfl (Nat.le_of_ble_eq_true rfl) (cn_wire (tb := 10) (tr := 11) (w.new) fp_new_eq (by decide) (by decide) (by decide)) (fun r h1 q => ?_)
  obtain ⟨rfl, b0, r0, q1, q2, q3, q4, q5⟩ := q
  have g1 : h1.1 o = some (2, .inr (11, [.null, .null, .null, .null, .null, .null, .int 0])) := q4.at ((fp_new_ne (w.ne ho)).trans ho) (by decide)
  have k1 : cf (fun z => z = 60 ∨ z = 10 ∨ z = 11) h h1 := (cf.new w (by decide)).trans q4
  have w1 := k1.wf w
  have s1 : h1.2.2 = h.2.2 + 72 := by rw [q5]; rfl
  generalize h.2.1 = w0 at q1 ⊢
  refine wp_tag 9 q1 ?_
  have c2 : cf (fun z => z = 60) h1 (fp_put h1 w0 9 (.inr (10, [.ref b0, .ref r0]))) := cf.put1 q1
  have e2 : (fp_put h1 w0 9 (.inr (10, [.ref b0, .ref r0]))).1 w0 = some (9, .inr (10, [.ref b0, .ref r0])) := fp_put_eq
  have s2 : (fp_put h1 w0 9 (.inr (10, [.ref b0, .ref r0]))).2 = h1.2 := rfl
  generalize fp_put h1 w0 9 (.inr (10, [.ref b0, .ref r0])) = h2 at c2 e2 s2 ⊢
  have g2 := c2.at g1 (by decide)
  have q22 := q2.kept c2 (by decide)
  have q32 := c2.at q3 (by decide)
  have k2 : cf (fun z => z = 60 ∨ z = 10 ∨ z = 11) h h2 := k1.trans (c2.mono (fun _ z => Or.inl z))
  have c3 : cf (fun z => z = 2) h2 (fp_put h2 o 2 (.inr (11, [.ref w0, .null, .null, .null, .null, .null, .int 0]))) := cf.put1 g2
  have g3 : (fp_put h2 o 2 (.inr (11, [.ref w0, .null, .null, .null, .null, .null, .int 0]))).1 o = some (2, .inr (11, [.ref w0, .null, .null, .null, .null, .null, .int 0])) := fp_put_eq
  have s3 : (fp_put h2 o 2 (.inr (11, [.ref w0, .null, .null, .null, .null, .null, .int 0]))).2 = h2.2 := rfl
  refine wp_putf dX10_init_24 fs_X10_21 g2 (Nat.le_of_ble_eq_true rfl) rfl rfl ?_
  refine fp_wp_h (h' := fp_put h2 o 2 (.inr (11, [.ref w0, .null, .null, .null, .null, .null, .int 0]))) rfl ?_
  generalize fp_put h2 o 2 (.inr (11, [.ref w0, .null, .null, .null, .null, .null, .int 0])) = h3 at c3 g3 s3 ⊢
  have k3 : cf (fun z => z = 2 ∨ z = 60 ∨ z = 10 ∨ z = 11) h h3 := (k2.mono (fun _ z => Or.inr z)).trans (c3.mono (fun _ z => Or.inl z))
  have w3 := k3.wf w
  have e3 := c3.at e2 (by decide)
  have q23 := q22.kept c3 (by decide)
  have q33 := c3.at q32 (by decide)
  have t3 : h3.2.2 = h.2.2 + 72 := by rw [s3, s2, s1]
  refine wp_aload_n dX10_init_27 rfl ?_
  refine wp_new 60 dX10_init_28 nw_X10_18 ?_
  refine wp_dup dX10_init_31 rfl ?_
  refine wp_callI (As := []) (rest := [.ref h3.2.1, .ref o]) dX10_init_32 me_X9_init rfl cw_X10_20 rfl ⟨(Nat.le_of_ble_eq_true rfl), (Nat.le_of_ble_eq_true rfl)⟩ rfl rfl rfl (Nat.le_of_ble_eq_true rfl) (cn_wire (tb := 12) (tr := 13) (w3.new) fp_new_eq (by decide) (by decide) (by decide)) (fun r h4 q => ?_)
  obtain ⟨rfl, b1, r1, u1, u2, u3, u4, u5⟩ := q
  have k4 : cf (fun z => z = 60 ∨ z = 12 ∨ z = 13) h3 h4 := (cf.new w3 (by decide)).trans u4
  have s4 : h4.2.2 = h.2.2 + 144 := by rw [u5]; show h3.2.2 + 2 + 70 = _; rw [t3]
  have g4 := k4.at g3 (by decide)
  generalize h3.2.1 = w1' at u1 ⊢
  refine wp_tag 9 u1 ?_
  have c5 : cf (fun z => z = 60) h4 (fp_put h4 w1' 9 (.inr (10, [.ref b1, .ref r1]))) := cf.put1 u1
  have e5 : (fp_put h4 w1' 9 (.inr (10, [.ref b1, .ref r1]))).1 w1' = some (9, .inr (10, [.ref b1, .ref r1])) := fp_put_eq
  have s5 : (fp_put h4 w1' 9 (.inr (10, [.ref b1, .ref r1]))).2 = h4.2 := rfl
  generalize fp_put h4 w1' 9 (.inr (10, [.ref b1, .ref r1])) = h5 at c5 e5 s5 ⊢
  have k5 : cf (fun z => z = 60 ∨ z = 12 ∨ z = 13) h3 h5 := k4.trans (c5.mono (fun _ z => Or.inl z))
  have g5 := c5.at g4 (by decide)
  have u25 := u2.kept c5 (by decide)
  have u35 := c5.at u3 (by decide)
  have c6 : cf (fun z => z = 2) h5 (fp_put h5 o 2 (.inr (11, [.ref w0, .ref w1', .null, .null, .null, .null, .int 0]))) := cf.put1 g5
  have g6 : (fp_put h5 o 2 (.inr (11, [.ref w0, .ref w1', .null, .null, .null, .null, .int 0]))).1 o = some (2, .inr (11, [.ref w0, .ref w1', .null, .null, .null, .null, .int 0])) := fp_put_eq
  have s6 : (fp_put h5 o 2 (.inr (11, [.ref w0, .ref w1', .null, .null, .null, .null, .int 0]))).2 = h5.2 := rfl
  refine wp_putf dX10_init_35 fs_X10_25 g5 (Nat.le_of_ble_eq_true rfl) rfl rfl ?_
  refine fp_wp_h (h' := fp_put h5 o 2 (.inr (11, [.ref w0, .ref w1', .null, .null, .null, .null, .int 0]))) rfl ?_
  generalize fp_put h5 o 2 (.inr (11, [.ref w0, .ref w1', .null, .null, .null, .null, .int 0])) = h6 at c6 g6 s6 ⊢
  have k6 : cf (fun z => z = 2 ∨ z = 60 ∨ z = 12 ∨ z = 13) h3 h6 := (k5.mono (fun _ z => Or.inr z)).trans (c6.mono (fun _ z => Or.inl z))
  have w6 := k6.wf w3
  have e06 := k6.at e3 (by decide)
  have q26 := q23.kept k6 (by decide)
  have q36 := k6.at q33 (by decide)
  have e16 := c6.at e5 (by decide)
  have u26 := u25.kept c6 (by decide)
  have u36 := c6.at u35 (by decide)
  have t6 : h6.2.2 = h.2.2 + 144 := by rw [s6, s5, s4]
  -- the encoder
  refine wp_aload_n dX10_init_38 rfl ?_
  refine wp_new 3 dX10_init_39 nw_X10_28 ?_
  refine wp_dup dX10_init_42 rfl ?_
  refine wp_iload_n dX10_init_43 rfl ?_
  refine wp_iconst (v := 0) dX10_init_44 rfl ?_
  refine wp_iconst (v := 4) dX10_init_45 rfl ?_
  refine wp_iload_n dX10_init_46 rfl ?_
  refine wp_callS (As := [.int (nI 4), .int y]) (rest := [.int 0, .int (nI cx), .ref h6.2.1, .ref h6.2.1, .ref o]) dX10_init_47 me_J9_min_7cf53 cw_X10_9 ⟨(Nat.le_of_ble_eq_true rfl), (Nat.le_of_ble_eq_true rfl)⟩ rfl rfl rfl (Nat.le_of_ble_eq_true rfl) (ct_min _ _) (fun r h7 q => ?_)
  obtain ⟨q0, rfl⟩ := q
  rw [q0]
  refine wp_callS (As := [.int 0, .int (if y < nI 4 then y else nI 4)]) (rest := [.int (nI cx), .ref h6.2.1, .ref h6.2.1, .ref o]) dX10_init_50 me_J9_max_7cf53 cw_X10_15 ⟨(Nat.le_of_ble_eq_true rfl), (Nat.le_of_ble_eq_true rfl)⟩ rfl rfl rfl (Nat.le_of_ble_eq_true rfl) (ct_max _ _) (fun r h7 q => ?_)
  obtain ⟨q0, rfl⟩ := q
  rw [q0, cl_eq y 4 (by decide)]
  generalize hcy : r_cl y 4 = cy at hy4
  refine wp_callI (As := [.int (nI cx), .int (nI cy)]) (rest := [.ref h6.2.1, .ref o]) dX10_init_53 me_X2_init rfl cw_X10_30 rfl ⟨(Nat.le_of_ble_eq_true rfl), (Nat.le_of_ble_eq_true rfl)⟩ rfl rfl rfl (Nat.le_of_ble_eq_true rfl) (cn_enc (nm := (r_new x y).2.2 3) (vl := (r_new x y).2.2 4) (w6.new) fp_new_eq hx4) (fun r h7 q => ?_)
  obtain ⟨rfl, tb, op, ln, v1, v2, v3, v4, v5, v6⟩ := q
  obtain ⟨f1, f2, f3, f4, f5, f6⟩ := mk_fr (ea' := .inr (11, [.ref w0, .ref w1', .ref h6.2.1, .null, .null, .null, .int 0])) w6 g6 (by decide) v5 (by decide)
  have v17 := f4.at v1 (by decide)
  have v27 := v2.kept f4 (by decide)
  have v37 := v3.kept f4 (by decide)
  have v47 := v4.kept f4 (by decide)
  have t8 : (fp_put h7 o 2 (.inr (11, [.ref w0, .ref w1', .ref h6.2.1, .null, .null, .null, .int 0]))).2.2 = h.2.2 + 277 := by rw [f6, v6]; show h6.2.2 + 9 + 124 = _; rw [t6]
  refine wp_putf dX10_init_56 fs_X10_33 f1 (Nat.le_of_ble_eq_true rfl) rfl rfl ?_
  refine fp_wp_h (h' := fp_put h7 o 2 (.inr (11, [.ref w0, .ref w1', .ref h6.2.1, .null, .null, .null, .int 0]))) rfl ?_
  generalize fp_put h7 o 2 (.inr (11, [.ref w0, .ref w1', .ref h6.2.1, .null, .null, .null, .int 0])) = h8 at f2 f3 f4 f5 v17 v27 v37 v47 t8 ⊢
  generalize h6.2.1 = en at v17 f3 ⊢
  have e08 := f2.at e06 (by decide)
  have q28 := q26.kept f2 (by decide)
  have q38 := f2.at q36 (by decide)
  have e18 := f2.at e16 (by decide)
  have u28 := u26.kept f2 (by decide)
  have u38 := f2.at u36 (by decide)
  -- the decoder
  refine wp_aload_n dX10_init_59 rfl ?_
  refine wp_new 4 dX10_init_60 nw_X10_37 ?_
  refine wp_dup dX10_init_63 rfl ?_
  refine wp_iload_n dX10_init_64 rfl ?_
  refine wp_callI (As := [.int (nI cx)]) (rest := [.ref h8.2.1, .ref o]) dX10_init_65 me_X1_init rfl cw_X10_39 rfl ⟨(Nat.le_of_ble_eq_true rfl), (Nat.le_of_ble_eq_true rfl)⟩ rfl rfl rfl (Nat.le_of_ble_eq_true rfl) (cn_dec (nm := (r_new x y).2.2 3) (vl := (r_new x y).2.2 4) (f5.new) fp_new_eq hx4) (fun r h9 q => ?_)
  obtain ⟨rfl, td, x1, x2, x3, x4⟩ := q
  obtain ⟨i1, i2, i3, i4, i5, i6⟩ := mk_fr (ea' := .inr (11, [.ref w0, .ref w1', .ref en, .ref h8.2.1, .null, .null, .int 0])) f5 f3 (by decide) x3 (by decide)
  have x19 := i4.at x1 (by decide)
  have x29 := x2.kept i4 (by decide)
  have t10 : (fp_put h9 o 2 (.inr (11, [.ref w0, .ref w1', .ref en, .ref h8.2.1, .null, .null, .int 0]))).2.2 = h.2.2 + 334 := by rw [i6, x4]; show h8.2.2 + 2 + 55 = _; rw [t8]
  refine wp_putf dX10_init_68 fs_X10_42 i1 (Nat.le_of_ble_eq_true rfl) rfl rfl ?_
  refine fp_wp_h (h' := fp_put h9 o 2 (.inr (11, [.ref w0, .ref w1', .ref en, .ref h8.2.1, .null, .null, .int 0]))) rfl ?_
  generalize fp_put h9 o 2 (.inr (11, [.ref w0, .ref w1', .ref en, .ref h8.2.1, .null, .null, .int 0])) = h10 at i2 i3 i4 i5 x19 x29 t10 ⊢
  generalize h8.2.1 = de at x19 i3 ⊢
  have e0a := i2.at e08 (by decide)
  have q2a := q28.kept i2 (by decide)
  have q3a := i2.at q38 (by decide)
  have e1a := i2.at e18 (by decide)
  have u2a := u28.kept i2 (by decide)
  have u3a := i2.at u38 (by decide)
  have v1a := i2.at v17 (by decide)
  have v2a := v27.kept i2 (by decide)
  have v3a := v37.kept i2 (by decide)
  have v4a := v47.kept i2 (by decide)
  -- the lanes
  refine wp_aload_n dX10_init_71 rfl ?_
  refine wp_bipush (v := 8) dX10_init_72 rfl ?_
  refine wp_anew 61 dX10_init_74 (kd := 3) (N := 8) rfl ck_X10_46 (Or.inl rfl) (by decide) (by decide) (by decide) ?_
  have cn : cf (fun z => z = 61) (fp_new h10 61 (.inl (3, 8, .inr (.inr (.inr (.inr (fun _ => none)))))) 8) (fp_new h10 61 (.inl (3, 8, .inr (.inr (.inr (.inr (fun _ => none)))))) 8) := cf.refl
  obtain ⟨j1, j2, j3, j4, j5, j6⟩ := mk_fr (ea' := .inr (11, [.ref w0, .ref w1', .ref en, .ref de, .ref h10.2.1, .null, .int 0])) i5 i3 (by decide) cn (by decide)
  have ar := j4.at (fp_new_eq (h := h10) (t := 61) (e := .inl (3, 8, .inr (.inr (.inr (.inr (fun _ => none)))))) (k := 8)) (by decide)
  have t11 : (fp_put (fp_new h10 61 (.inl (3, 8, .inr (.inr (.inr (.inr (fun _ => none)))))) 8) o 2 (.inr (11, [.ref w0, .ref w1', .ref en, .ref de, .ref h10.2.1, .null, .int 0]))).2.2 = h.2.2 + 342 := by show h10.2.2 + 8 = _; rw [t10]
  refine wp_putf dX10_init_77 fs_X10_48 j1 (Nat.le_of_ble_eq_true rfl) rfl rfl ?_
  refine wp_iconst (v := 0) dX10_init_80 rfl ?_
  refine wp_istore dX10_init_81 (Nat.le_of_ble_eq_true rfl) rfl ?_
  refine fp_wp_h (h' := fp_put (fp_new h10 61 (.inl (3, 8, .inr (.inr (.inr (.inr (fun _ => none)))))) 8) o 2 (.inr (11, [.ref w0, .ref w1', .ref en, .ref de, .ref h10.2.1, .null, .int 0]))) rfl ?_
  generalize fp_put (fp_new h10 61 (.inl (3, 8, .inr (.inr (.inr (.inr (fun _ => none)))))) 8) o 2 (.inr (11, [.ref w0, .ref w1', .ref en, .ref de, .ref h10.2.1, .null, .int 0])) = h11 at j2 j3 j4 j5 ar t11 ⊢
  generalize h10.2.1 = la0 at ar j3 ⊢
  have loop : ∀ (g s : Nat) (h12 : fp_H) (la : Nat → Nat) (f : Nat → Option Nat), s + g = 8 → cf (fun z => z = 61 ∨ (20 ≤ z ∧ z < 60)) h11 h12 → h12.1 la0 = some (61, .inl (3, 8, .inr (.inr (.inr (.inr f))))) → (∀ i, i < s → f i = some (la i) ∧ lnO G h12 la i) → h12.2.2 = h.2.2 + 342 + 14 * s → fp_wp G rm_X10_init M_X10_init 83 [some (.ref o), some (.int x), some (.int y), some (.int (nI cx)), some (.int (nI s))] [] h12 (fun r h' => r = none ∧ ∃ A la, CC G h' o A la (r_new x y) (h.2.2 + 457) 0 ∧ cf nR h h') := by
    intro g
    induction g with
    | zero =>
      intro s h12 la f hsg cc har hla hsz
      have : s = 8 := by omega
      subst this
      have g12 := cc.at j3 (by decide)
      have w12 := cc.wf j5
      refine wp_tag 9 har ?_
      have c13 : cf (fun z => z = 61) h12 (fp_put h12 la0 9 (.inl (3, 8, .inr (.inr (.inr (.inr f)))))) := cf.put1 har
      have e13 : (fp_put h12 la0 9 (.inl (3, 8, .inr (.inr (.inr (.inr f)))))).1 la0 = some (9, .inl (3, 8, .inr (.inr (.inr (.inr f))))) := fp_put_eq
      have s13 : (fp_put h12 la0 9 (.inl (3, 8, .inr (.inr (.inr (.inr f)))))).2 = h12.2 := rfl
      generalize fp_put h12 la0 9 (.inl (3, 8, .inr (.inr (.inr (.inr f))))) = h13 at c13 e13 s13 ⊢
      have g13 := c13.at g12 (by decide)
      have w13 := c13.wf w12
      refine wp_iload dX10_init_83 rfl ?_
      refine wp_bipush (v := 8) dX10_init_85 rfl ?_
      refine wp_icmp_ge (tgt := 112) dX10_init_87 rfl (fun c_87 => ?_) (fun c_87 => ?_)
      · refine wp_aload_n dX10_init_112 rfl ?_
        refine wp_new 18 dX10_init_113 nw_X10_53 ?_
        refine wp_dup dX10_init_116 rfl ?_
        refine wp_callI (As := []) (rest := [.ref h13.2.1, .ref o]) dX10_init_117 me_Jx4a65c_init_da8c8 rfl cw_X10_55 rfl ⟨(Nat.le_of_ble_eq_true rfl), (Nat.le_of_ble_eq_true rfl)⟩ rfl rfl rfl (Nat.le_of_ble_eq_true rfl) (ct_lnew fp_new_eq) (fun r h14 q => ?_)
        obtain ⟨rfl, y1, y2, y3⟩ := q
        obtain ⟨m1, m2, m3, m4, m5, m6⟩ := mk_fr (ea' := .inr (11, [.ref w0, .ref w1', .ref en, .ref de, .ref la0, .ref h13.2.1, .int 0])) w13 g13 (by decide) y2 (by decide)
        have y1' := y1.kept m4 (by decide)
        have t14 : (fp_put h14 o 2 (.inr (11, [.ref w0, .ref w1', .ref en, .ref de, .ref la0, .ref h13.2.1, .int 0]))).2.2 = h.2.2 + 457 := by rw [m6, y3]; show h13.2.2 + 3 = _; rw [s13, hsz]
        refine wp_putf dX10_init_120 fs_X10_56 m1 (Nat.le_of_ble_eq_true rfl) rfl rfl ?_
        refine wp_vret dX10_init_123 rfl ?_
        show none = none ∧ ∃ A la, CC G (fp_put h14 o 2 (.inr (11, [.ref w0, .ref w1', .ref en, .ref de, .ref la0, .ref h13.2.1, .int 0]))) o A la (r_new x y) (h.2.2 + 457) 0 ∧ cf nR h (fp_put h14 o 2 (.inr (11, [.ref w0, .ref w1', .ref en, .ref de, .ref la0, .ref h13.2.1, .int 0])))
        generalize fp_put h14 o 2 (.inr (11, [.ref w0, .ref w1', .ref en, .ref de, .ref la0, .ref h13.2.1, .int 0])) = h15 at m2 m3 m4 m5 y1' t14 ⊢
        generalize h13.2.1 = nx at m3 y1' ⊢
        have ch : cf (fun z => z = 2 ∨ z = 18 ∨ z = 61 ∨ (20 ≤ z ∧ z < 60)) h10 h15 := (j2.mono (fun z y => by omega)).trans ((cc.mono (fun z y => by omega)).trans ((c13.mono (fun z y => by omega)).trans (m2.mono (fun z y => by omega))))
        have call : cf nR h h15 := (k3.mono (fun z y => by show z ≠ 1; omega)).trans ((k6.mono (fun z y => by show z ≠ 1; omega)).trans ((f2.mono (fun z y => by show z ≠ 1; omega)).trans ((i2.mono (fun z y => by show z ≠ 1; omega)).trans (ch.mono (fun z y => by show z ≠ 1; omega)))))
        have th : ∀ t, (t = 3 ∨ t = 4 ∨ t = 9 ∨ t = 10 ∨ t = 11 ∨ t = 12 ∨ t = 13 ∨ t = 14 ∨ t = 15 ∨ t = 16 ∨ t = 17) → ¬ (fun z => z = 2 ∨ z = 18 ∨ z = 61 ∨ (20 ≤ z ∧ z < 60)) t := fun t ht z => by omega
        have ear := m2.at e13 (by decide)
        have hl15 : ∀ i, i < 8 → f i = some (la i) ∧ lnO G h15 la i := fun i hi => ⟨(hla i hi).1, ((hla i hi).2.kept c13 (fun z => by omega) (fun z => by omega) (fun z => by omega) (fun z => by omega)).kept m2 (fun z => by omega) (fun z => by omega) (fun z => by omega) (fun z => by omega)⟩
        obtain ⟨A, A0, A1, A2, A3, A4, A5, A6, A7, A8, A9, A10, A11, A12, A13⟩ : ∃ A : Nat → Nat, A 0 = w0 ∧ A 1 = w1' ∧ A 2 = en ∧ A 3 = de ∧ A 4 = la0 ∧ A 5 = nx ∧ A 6 = tb ∧ A 7 = op ∧ A 8 = ln ∧ A 9 = b0 ∧ A 10 = r0 ∧ A 11 = b1 ∧ A 12 = r1 ∧ A 13 = td := ⟨fun i => [w0, w1', en, de, la0, nx, tb, op, ln, b0, r0, b1, r1, td].getD i 0, rfl, rfl, rfl, rfl, rfl, rfl, rfl, rfl, rfl, rfl, rfl, rfl, rfl, rfl⟩
        have p0 : (r_new x y).1 0 = cx := by rw [← hcx]; rfl
        have p1 : (r_new x y).1 1 = cy := by rw [← hcy]; rfl
        have pz : ∀ i, i ≠ 0 → i ≠ 1 → (r_new x y).1 i = 0 := fun i h0 h1 => by simp [r_new, r_si, r_p0, h0, h1]
        have pa : ∀ j i, (r_new x y).2.1 j i = 0 := fun j i => rfl
        refine ⟨rfl, A, la, ⟨fun _ => 0, fun _ => 0, fun _ => 0, fun _ => 0, fun _ => 0, (fun i => if i = 0 ∨ i = 1 ∨ i = 3 then 64 else 0), fun _ => 0, fun _ => 0, fun _ => 0, ⟨?_, ⟨?_, ?_, f, ?_, fun s hs => (hl15 s hs).1⟩, ⟨⟨0, 0, 0, 0, ?_⟩, ?_, ?_, ⟨[], ?_⟩, ?_, ?_, m5⟩, ⟨⟨?_, ?_⟩, ?_, fun s hs => ?_, fun k hk => ?_, m5⟩, ?_, ?_, [], ?_, ?_, ?_⟩, ?_, ?_⟩, call⟩
        · rw [A0, A1, A2, A3, A4, A5, pz 28 (by decide) (by decide)]; exact m3
        · rw [A0, A9, A10]; exact ch.at e0a (th 9 (by omega))
        · rw [A1, A11, A12]; exact ch.at e1a (th 9 (by omega))
        · rw [A4]; exact ear
        · unfold eN
          rw [A2, A6, A7, A8, p1, pz 12 (by decide) (by decide)]
          exact ch.at v1a (th 3 (by omega))
        · rw [A6, p0, pz 10 (by decide) (by decide), pz 6 (by decide) (by decide), pz 11 (by decide) (by decide)]
          exact v2a.kept ch (th 15 (by omega))
        · unfold wlx
          rw [A9, pz 13 (by decide) (by decide)]
          exact q2a.kept ch (th 10 (by omega))
        · rw [A8]; exact v4a.kept ch (th 14 (by omega))
        · unfold opn
          rw [A7, pz 28 (by decide) (by decide)]
          exact v3a.kept ch (th 17 (by omega))
        · intro k hk
          have := (opn_mem.mp hk).1
          rw [pz 28 (by decide) (by decide)] at this
          omega
        · rw [A3, A13, pz 27 (by decide) (by decide)]
          exact ch.at x19 (th 4 (by omega))
        · rw [A13, p0, pz 24 (by decide) (by decide), pz 25 (by decide) (by decide), pz 26 (by decide) (by decide)]
          exact x29.kept ch (th 16 (by omega))
        · unfold wlx
          rw [A11, pz 16 (by decide) (by decide)]
          exact u2a.kept ch (th 12 (by omega))
        · obtain ⟨onw, wai, red, a1, a2, a3, a4⟩ := (hl15 s hs).2
          have l0 : ∀ w, lyl (r_new x y) s w = [] := fun w => by unfold lyl; rw [pz 28 (by decide) (by decide)]; rfl
          refine ⟨onw, wai, red, a1, ?_, ?_, ?_, Nat.zero_ne_one, Nat.zero_ne_one, Nat.zero_ne_one, Nat.zero_le _, Nat.zero_le _, Nat.zero_le _⟩
          · rw [l0]; exact a2
          · rw [l0]; exact a3
          · rw [l0]; exact a4
        · rw [pz 28 (by decide) (by decide)] at hk; omega
        · rw [A9, A10, pz 15 (by decide) (by decide), pz 24 (by decide) (by decide)]
          exact ch.at q3a (th 11 (by omega))
        · rw [A11, A12, pz 18 (by decide) (by decide), pz 23 (by decide) (by decide)]
          exact ch.at u3a (th 13 (by omega))
        · rw [A5]; exact y1'
        · rw [pz 2 (by decide) (by decide)]; rfl
        · intro f hf; rw [pz 2 (by decide) (by decide)] at hf; omega
        · refine ⟨?_, by decide, ⟨by decide, by decide⟩, ?_, by decide, by decide⟩
          · show 64 ≤ max 64 _; omega
          · show 64 ≤ max 64 _; omega
        · unfold CX r_zn r_wn
          rw [pz 28 (by decide) (by decide)]
          show h15.2.2 + 260 * 0 + 250 * 0 ≤ _
          omega
      · exact absurd (show (8 : Int32) ≤ nI 8 by decide) c_87
    | succ g ih =>
      intro s h12 la f hsg cc har hla hsz
      have hs8 : s < 8 := by omega
      have g12 := cc.at j3 (by decide)
      have w12 := cc.wf j5
      refine wp_iload dX10_init_83 rfl ?_
      refine wp_bipush (v := 8) dX10_init_85 rfl ?_
      refine wp_icmp_ge (tgt := 112) dX10_init_87 rfl (fun c_87 => ?_) (fun c_87 => ?_)
      · exact absurd ((nI_leI (a := 8) (by decide) (by omega)).mp c_87) (by omega)
      · refine wp_aload_n dX10_init_90 rfl ?_
        refine wp_getf dX10_init_91 fl_X10_48 g12 rfl ?_
        refine wp_iload dX10_init_94 rfl ?_
        refine wp_new (50 + s) dX10_init_96 nw_X10_46 ?_
        refine wp_dup dX10_init_99 rfl ?_
        refine wp_iload dX10_init_100 rfl ?_
        refine wp_callI (As := [.int (nI s)]) (rest := [.ref h12.2.1, .int (nI s), .ref la0]) dX10_init_102 me_X4_init rfl cw_X10_52 rfl ⟨(Nat.le_of_ble_eq_true rfl), (Nat.le_of_ble_eq_true rfl)⟩ rfl rfl rfl (Nat.le_of_ble_eq_true rfl) (cn_lane hs8 (w12.new) fp_new_eq) (fun r h13 q => ?_)
        obtain ⟨rfl, onw, wai, red, a1, a2, a3, a4, a5, a6⟩ := q
        have c13 : cf (fun z => z = 20 + s ∨ z = 30 + s ∨ z = 40 + s ∨ z = 50 + s) h12 h13 := (cf.new w12 (by decide)).trans a5
        have har3 := c13.at har (fun z => by omega)
        refine wp_aast dX10_init_105 rfl har3 (vp_in_nI hs8 (by decide)) a1 rfl (Or.inr rfl) ?_
        rw [nI_clamp (by omega)]
        have c14 : cf (fun z => z = 61) h13 (fp_put h13 la0 61 (.inl (3, 8, .inr (.inr (.inr (.inr (va_up f s (some h12.2.1)))))))) := cf.put1 har3
        refine wp_iinc dX10_init_106 rfl rfl ?_
        refine wp_goto (tgt := 83) dX10_init_109 rfl ?_
        rw [show nI s + Int32.ofInt 1 = nI (s + 1) from nI_add _ 1]
        refine ih (s + 1) _ (upd1 la s h12.2.1) (va_up f s (some h12.2.1)) (by omega) (cc.trans ((c13.mono (fun z y => by omega)).trans (c14.mono (fun z y => by omega)))) fp_put_eq (fun i hi => ?_) ?_
        · by_cases e : i = s
          · subst e
            refine ⟨by rw [va_up_self]; simp [upd1], onw, wai, red, ?_, a2.kept c14 (fun z => by omega), a3.kept c14 (fun z => by omega), a4.kept c14 (fun z => by omega)⟩
            simp only [upd1, if_pos]
            exact c14.at a1 (fun z => by omega)
          · obtain ⟨y1, y2⟩ := hla i (by omega)
            refine ⟨by rw [va_up_ne _ _ e, y1]; simp [upd1, e], ?_⟩
            have y3 := (y2.kept c13 (fun z => by omega) (fun z => by omega) (fun z => by omega) (fun z => by omega)).kept c14 (fun z => by omega) (fun z => by omega) (fun z => by omega) (fun z => by omega)
            unfold lnO at *
            simp only [upd1, if_neg e]
            exact y3
        · show h13.2.2 = _
          rw [a6]
          show h12.2.2 + 5 + 9 = _
          rw [hsz]
          omega
  exact loop 8 0 h11 (fun _ => 0) (fun _ => none) rfl cf.refl ar (fun i hi => absurd hi (Nat.not_lt_zero _)) t11
end CN
