/-! constructors of the class's parts -/
theorem mk_fr {S : Nat → Prop} {h1 h2 : fp_H} {a t T k : Nat} {e ea ea' : fp_E} (w : fp_wf h1) (ha : h1.1 a = some (t, ea)) (hk : 1 ≤ k) (c : cf S (fp_new h1 T e k) h2) (hS : ¬ S t) : h2.1 a = some (t, ea) ∧ cf (fun x => S x ∨ x = t) h1 (fp_put h2 a t ea') ∧ (fp_put h2 a t ea').1 a = some (t, ea') ∧ cf (fun x => x = t) h2 (fp_put h2 a t ea') ∧ fp_wf (fp_put h2 a t ea') ∧ (fp_put h2 a t ea').2 = h2.2 := by
  have c0 : cf S h1 h2 := (cf.new w hk).trans c
  have h2a := c0.at ha hS
  have c1 : cf (fun x => x = t) h2 (fp_put h2 a t ea') := cf.put1 h2a
  have c2 : cf (fun x => S x ∨ x = t) h1 (fp_put h2 a t ea') := (c0.mono (fun _ z => Or.inl z)).trans (c1.mono (fun _ z => Or.inr z))
  exact ⟨h2a, c2, fp_put_eq, c1, c2.wf w, rfl⟩
theorem dX2_init_0 : decode cX2_init 0 = .ok (.aload_n 0, 1) := by decide +kernel
theorem dX2_init_1 : decode cX2_init 1 = .ok (.invokespecial 3, 3) := by decide +kernel
theorem dX2_init_4 : decode cX2_init 4 = .ok (.aload_n 0, 1) := by decide +kernel
theorem dX2_init_5 : decode cX2_init 5 = .ok (.new 9, 3) := by decide +kernel
theorem dX2_init_8 : decode cX2_init 8 = .ok (.dup, 1) := by decide +kernel
theorem dX2_init_9 : decode cX2_init 9 = .ok (.iload_n 1, 1) := by decide +kernel
theorem dX2_init_10 : decode cX2_init 10 = .ok (.invokespecial 11, 3) := by decide +kernel
theorem dX2_init_13 : decode cX2_init 13 = .ok (.putfield 14, 3) := by decide +kernel
theorem dX2_init_16 : decode cX2_init 16 = .ok (.aload_n 0, 1) := by decide +kernel
theorem dX2_init_17 : decode cX2_init 17 = .ok (.iload_n 2, 1) := by decide +kernel
theorem dX2_init_18 : decode cX2_init 18 = .ok (.putfield 20, 3) := by decide +kernel
theorem dX2_init_21 : decode cX2_init 21 = .ok (.aload_n 0, 1) := by decide +kernel
theorem dX2_init_22 : decode cX2_init 22 = .ok (.new 24, 3) := by decide +kernel
theorem dX2_init_25 : decode cX2_init 25 = .ok (.dup, 1) := by decide +kernel
theorem dX2_init_26 : decode cX2_init 26 = .ok (.invokespecial 26, 3) := by decide +kernel
theorem dX2_init_29 : decode cX2_init 29 = .ok (.putfield 27, 3) := by decide +kernel
theorem dX2_init_32 : decode cX2_init 32 = .ok (.aload_n 0, 1) := by decide +kernel
theorem dX2_init_33 : decode cX2_init 33 = .ok (.new 31, 3) := by decide +kernel
theorem dX2_init_36 : decode cX2_init 36 = .ok (.dup, 1) := by decide +kernel
theorem dX2_init_37 : decode cX2_init 37 = .ok (.bipush 64, 2) := by decide +kernel
theorem dX2_init_39 : decode cX2_init 39 = .ok (.invokespecial 33, 3) := by decide +kernel
theorem dX2_init_42 : decode cX2_init 42 = .ok (.putfield 34, 3) := by decide +kernel
theorem dX2_init_45 : decode cX2_init 45 = .ok (.return_, 1) := by decide +kernel
theorem dX1_init_0 : decode cX1_init 0 = .ok (.aload_n 0, 1) := by decide +kernel
theorem dX1_init_1 : decode cX1_init 1 = .ok (.invokespecial 3, 3) := by decide +kernel
theorem dX1_init_4 : decode cX1_init 4 = .ok (.aload_n 0, 1) := by decide +kernel
theorem dX1_init_5 : decode cX1_init 5 = .ok (.new 9, 3) := by decide +kernel
theorem dX1_init_8 : decode cX1_init 8 = .ok (.dup, 1) := by decide +kernel
theorem dX1_init_9 : decode cX1_init 9 = .ok (.iload_n 1, 1) := by decide +kernel
theorem dX1_init_10 : decode cX1_init 10 = .ok (.invokespecial 11, 3) := by decide +kernel
theorem dX1_init_13 : decode cX1_init 13 = .ok (.putfield 14, 3) := by decide +kernel
theorem dX1_init_16 : decode cX1_init 16 = .ok (.return_, 1) := by decide +kernel
theorem dX4_init_0 : decode cX4_init 0 = .ok (.aload_n 0, 1) := by decide +kernel
theorem dX4_init_1 : decode cX4_init 1 = .ok (.invokespecial 1, 3) := by decide +kernel
theorem dX4_init_4 : decode cX4_init 4 = .ok (.aload_n 0, 1) := by decide +kernel
theorem dX4_init_5 : decode cX4_init 5 = .ok (.iload_n 1, 1) := by decide +kernel
theorem dX4_init_6 : decode cX4_init 6 = .ok (.putfield 7, 3) := by decide +kernel
theorem dX4_init_9 : decode cX4_init 9 = .ok (.aload_n 0, 1) := by decide +kernel
theorem dX4_init_10 : decode cX4_init 10 = .ok (.new 13, 3) := by decide +kernel
theorem dX4_init_13 : decode cX4_init 13 = .ok (.dup, 1) := by decide +kernel
theorem dX4_init_14 : decode cX4_init 14 = .ok (.invokespecial 15, 3) := by decide +kernel
theorem dX4_init_17 : decode cX4_init 17 = .ok (.putfield 16, 3) := by decide +kernel
theorem dX4_init_20 : decode cX4_init 20 = .ok (.aload_n 0, 1) := by decide +kernel
theorem dX4_init_21 : decode cX4_init 21 = .ok (.new 13, 3) := by decide +kernel
theorem dX4_init_24 : decode cX4_init 24 = .ok (.dup, 1) := by decide +kernel
theorem dX4_init_25 : decode cX4_init 25 = .ok (.invokespecial 15, 3) := by decide +kernel
theorem dX4_init_28 : decode cX4_init 28 = .ok (.putfield 20, 3) := by decide +kernel
theorem dX4_init_31 : decode cX4_init 31 = .ok (.aload_n 0, 1) := by decide +kernel
theorem dX4_init_32 : decode cX4_init 32 = .ok (.new 13, 3) := by decide +kernel
theorem dX4_init_35 : decode cX4_init 35 = .ok (.dup, 1) := by decide +kernel
theorem dX4_init_36 : decode cX4_init 36 = .ok (.invokespecial 15, 3) := by decide +kernel
theorem dX4_init_39 : decode cX4_init 39 = .ok (.putfield 23, 3) := by decide +kernel
theorem dX4_init_42 : decode cX4_init 42 = .ok (.return_, 1) := by decide +kernel
section CN
variable {G : fp_G} {h : fp_H} {a t : Nat}
theorem cn_wire {tb tr : Nat} {x y : Value} (w : fp_wf h) (ha : h.1 a = some (t, .inr (10, [x, y]))) (h1 : tb ≠ t) (h2 : tr ≠ t) (h3 : tr ≠ tb) : fp_ct G rm_X9_init M_X9_init [.ref a] h (fun r h' => r = none ∧ ∃ b rd, h'.1 a = some (t, .inr (10, [.ref b, .ref rd])) ∧ byt h' tb b [] 64 ∧ h'.1 rd = some (tr, rc b 0 (0, false)) ∧ cf (fun z => z = t ∨ z = tb ∨ z = tr) h h' ∧ h'.2.2 = h.2.2 + 70) := by
  refine fp_meth pn_X9 (Nat.le_of_ble_eq_true rfl) rfl ?_
  refine wp_aload_n dX9_init_0 rfl ?_
  refine wp_objInit dX9_init_1 cw_X9_3 ⟨(Nat.le_of_ble_eq_true rfl), (Nat.le_of_ble_eq_true rfl)⟩ rfl (Nat.le_of_ble_eq_true rfl) ?_
  refine wp_aload_n dX9_init_4 rfl ?_
  refine wp_new tb dX9_init_5 nw_X9_9 ?_
  refine wp_dup dX9_init_8 rfl ?_
  refine wp_bipush (v := 64) dX9_init_9 rfl ?_
  refine wp_callI (As := [.int (nI 64)]) (rest := [.ref h.2.1, .ref a]) dX9_init_11 me_X0_init rfl cw_X9_11 rfl ⟨(Nat.le_of_ble_eq_true rfl), (Nat.le_of_ble_eq_true rfl)⟩ rfl rfl rfl (Nat.le_of_ble_eq_true rfl) (cc_bnew (w.new) fp_new_eq (by decide) (by decide)) (fun r h1' q => ?_)
  obtain ⟨rfl, q1, q2, q3⟩ := q
  obtain ⟨f1, f2, f3, f4, f5, f6⟩ := mk_fr (ea' := .inr (10, [.ref h.2.1, y])) w ha (by decide) q2 (fun z => h1 z.symm)
  have q1' := q1.kept f4 (fun z => h1 z)
  have z1 : (fp_put h1' a t (.inr (10, [.ref h.2.1, y]))).2.2 = h.2.2 + 66 := by rw [f6, q3]; rfl
  refine wp_putf dX9_init_14 fs_X9_14 f1 (Nat.le_of_ble_eq_true rfl) rfl rfl ?_
  refine fp_wp_h (h' := fp_put h1' a t (.inr (10, [.ref h.2.1, y]))) rfl ?_
  generalize fp_put h1' a t (.inr (10, [.ref h.2.1, y])) = h2' at f2 f3 f4 f5 f6 q1' z1 ⊢
  generalize h.2.1 = b at f3 q1' ⊢
  refine wp_aload_n dX9_init_17 rfl ?_
  refine wp_new tr dX9_init_18 nw_X9_20 ?_
  refine wp_dup dX9_init_21 rfl ?_
  refine wp_aload_n dX9_init_22 rfl ?_
  refine wp_getf dX9_init_23 fl_X9_14 ((fp_new_ne (f5.ne f3)).trans f3) rfl ?_
  refine wp_iconst (v := 0) dX9_init_26 rfl ?_
  refine wp_callI (As := [.ref b, .int (nI 0)]) (rest := [.ref h2'.2.1, .ref a]) dX9_init_27 me_X6_init rfl cw_X9_22 rfl ⟨(Nat.le_of_ble_eq_true rfl), (Nat.le_of_ble_eq_true rfl)⟩ rfl rfl rfl (Nat.le_of_ble_eq_true rfl) (cr_new fp_new_eq) (fun r h3' q => ?_)
  obtain ⟨rfl, rfl⟩ := q
  rw [fp_put_new]
  have cn : cf (fun z => z = tr) (fp_new h2' tr (rc b 0 (0, false)) 4) (fp_new h2' tr (rc b 0 (0, false)) 4) := cf.refl
  obtain ⟨g1, g2, g3, g4, g5, g6⟩ := mk_fr (ea' := .inr (10, [.ref b, .ref h2'.2.1])) f5 f3 (by decide) cn (fun z => h2 z.symm)
  refine wp_putf dX9_init_30 fs_X9_25 g1 (Nat.le_of_ble_eq_true rfl) rfl rfl ?_
  refine wp_vret dX9_init_33 rfl ?_
  refine ⟨rfl, b, h2'.2.1, g3, (q1'.kept ((cf.new f5 (by decide) : cf (fun _ => False) h2' (fp_new h2' tr (rc b 0 (0, false)) 4))) id).kept g4 (fun z => h1 z), g4.at fp_new_eq (fun z => h2 z), ?_, ?_⟩
  · exact (f2.mono (fun z y => by rcases y with y | y; exact Or.inr (Or.inl y); exact Or.inl y)).trans (g2.mono (fun z y => by rcases y with y | y; exact Or.inr (Or.inr y); exact Or.inl y))
  · show h2'.2.2 + 4 = _
    rw [z1]
theorem cn_enc {cap b : Nat} {nm vl : Nat → Nat} {x y z : Value} (w : fp_wf h) (ha : h.1 a = some (3, .inr (3, [x, .int 0, y, .int 0, z, .int 0, .int 0, .int 0, .int 0]))) (hcap : cap ≤ 400) : fp_ct G rm_X2_init M_X2_init [.ref a, .int (nI cap), .int (nI b)] h (fun r h' => r = none ∧ ∃ tb op ln, h'.1 a = some (3, .inr (3, [.ref tb, .int (nI b), .ref op, .int 0, .ref ln, .int 0, .int 0, .int 0, .int 0])) ∧ tbl h' 15 tb cap nm vl 0 0 0 ∧ lst G h' 17 op [] 0 ∧ byt h' 14 ln [] 64 ∧ cf (fun z => z = 3 ∨ z = 14 ∨ z = 15 ∨ z = 17) h h' ∧ h'.2.2 = h.2.2 + 124) := by
  refine fp_meth pn_X2 (Nat.le_of_ble_eq_true rfl) rfl ?_
  refine wp_aload_n dX2_init_0 rfl ?_
  refine wp_objInit dX2_init_1 cw_X2_3 ⟨(Nat.le_of_ble_eq_true rfl), (Nat.le_of_ble_eq_true rfl)⟩ rfl (Nat.le_of_ble_eq_true rfl) ?_
  refine wp_aload_n dX2_init_4 rfl ?_
  refine wp_new 15 dX2_init_5 nw_X2_9 ?_
  refine wp_dup dX2_init_8 rfl ?_
  refine wp_iload_n dX2_init_9 rfl ?_
  refine wp_callI (As := [.int (nI cap)]) (rest := [.ref h.2.1, .ref a]) dX2_init_10 me_X8_init rfl cw_X2_11 rfl ⟨(Nat.le_of_ble_eq_true rfl), (Nat.le_of_ble_eq_true rfl)⟩ rfl rfl rfl (Nat.le_of_ble_eq_true rfl) (cc_tnew (nm := nm) (vl := vl) (w.new) fp_new_eq hcap) (fun r h1' q => ?_)
  obtain ⟨rfl, q1, q2, q3⟩ := q
  obtain ⟨f1, f2, f3, f4, f5, f6⟩ := mk_fr (ea' := .inr (3, [.ref h.2.1, .int 0, y, .int 0, z, .int 0, .int 0, .int 0, .int 0])) w ha (by decide) q2 (by decide)
  have q1' := q1.kept f4 (by decide)
  have z1 : (fp_put h1' a 3 (.inr (3, [.ref h.2.1, .int 0, y, .int 0, z, .int 0, .int 0, .int 0, .int 0]))).2.2 = h.2.2 + 55 := by rw [f6, q3]; rfl
  refine wp_putf dX2_init_13 fs_X2_14 f1 (Nat.le_of_ble_eq_true rfl) rfl rfl ?_
  refine fp_wp_h (h' := fp_put h1' a 3 (.inr (3, [.ref h.2.1, .int 0, y, .int 0, z, .int 0, .int 0, .int 0, .int 0]))) rfl ?_
  generalize fp_put h1' a 3 (.inr (3, [.ref h.2.1, .int 0, y, .int 0, z, .int 0, .int 0, .int 0, .int 0])) = h2' at f2 f3 f4 f5 f6 q1' z1 ⊢
  generalize h.2.1 = tb at f3 q1' ⊢
  have i1 : cf (fun x => x = 3) h2' (fp_put h2' a 3 (.inr (3, [.ref tb, .int (nI b), y, .int 0, z, .int 0, .int 0, .int 0, .int 0]))) := cf.put1 f3
  have i2 : (fp_put h2' a 3 (.inr (3, [.ref tb, .int (nI b), y, .int 0, z, .int 0, .int 0, .int 0, .int 0]))).1 a = some (3, .inr (3, [.ref tb, .int (nI b), y, .int 0, z, .int 0, .int 0, .int 0, .int 0])) := fp_put_eq
  have i3 := i1.wf f5
  have i4 : (fp_put h2' a 3 (.inr (3, [.ref tb, .int (nI b), y, .int 0, z, .int 0, .int 0, .int 0, .int 0]))).2 = h2'.2 := rfl
  have q2' := q1'.kept i1 (by decide)
  refine wp_aload_n dX2_init_16 rfl ?_
  refine wp_iload_n dX2_init_17 rfl ?_
  refine wp_putf dX2_init_18 fs_X2_20 f3 (Nat.le_of_ble_eq_true rfl) rfl rfl ?_
  refine fp_wp_h (h' := fp_put h2' a 3 (.inr (3, [.ref tb, .int (nI b), y, .int 0, z, .int 0, .int 0, .int 0, .int 0]))) rfl ?_
  generalize fp_put h2' a 3 (.inr (3, [.ref tb, .int (nI b), y, .int 0, z, .int 0, .int 0, .int 0, .int 0])) = h3' at i1 i2 i3 i4 q2' ⊢
  refine wp_aload_n dX2_init_21 rfl ?_
  refine wp_new 17 dX2_init_22 nw_X2_24 ?_
  refine wp_dup dX2_init_25 rfl ?_
  refine wp_callI (As := []) (rest := [.ref h3'.2.1, .ref a]) dX2_init_26 me_Jx4a65c_init_da8c8 rfl cw_X2_26 rfl ⟨(Nat.le_of_ble_eq_true rfl), (Nat.le_of_ble_eq_true rfl)⟩ rfl rfl rfl (Nat.le_of_ble_eq_true rfl) (ct_lnew fp_new_eq) (fun r h4' v => ?_)
  obtain ⟨rfl, v1, v2, v3⟩ := v
  obtain ⟨g1, g2, g3, g4, g5, g6⟩ := mk_fr (ea' := .inr (3, [.ref tb, .int (nI b), .ref h3'.2.1, .int 0, z, .int 0, .int 0, .int 0, .int 0])) i3 i2 (by decide) v2 (by decide)
  have v1' := v1.kept g4 (by decide)
  have q3' := q2'.kept g2 (by decide)
  have z2 : (fp_put h4' a 3 (.inr (3, [.ref tb, .int (nI b), .ref h3'.2.1, .int 0, z, .int 0, .int 0, .int 0, .int 0]))).2.2 = h.2.2 + 58 := by rw [g6, v3]; show h3'.2.2 + 3 = _; rw [i4, z1]
  refine wp_putf dX2_init_29 fs_X2_27 g1 (Nat.le_of_ble_eq_true rfl) rfl rfl ?_
  refine fp_wp_h (h' := fp_put h4' a 3 (.inr (3, [.ref tb, .int (nI b), .ref h3'.2.1, .int 0, z, .int 0, .int 0, .int 0, .int 0]))) rfl ?_
  generalize fp_put h4' a 3 (.inr (3, [.ref tb, .int (nI b), .ref h3'.2.1, .int 0, z, .int 0, .int 0, .int 0, .int 0])) = h5' at g2 g3 g4 g5 g6 v1' q3' z2 ⊢
  generalize h3'.2.1 = op at g3 v1' ⊢
  refine wp_aload_n dX2_init_32 rfl ?_
  refine wp_new 14 dX2_init_33 nw_X2_31 ?_
  refine wp_dup dX2_init_36 rfl ?_
  refine wp_bipush (v := 64) dX2_init_37 rfl ?_
  refine wp_callI (As := [.int (nI 64)]) (rest := [.ref h5'.2.1, .ref a]) dX2_init_39 me_X0_init rfl cw_X2_33 rfl ⟨(Nat.le_of_ble_eq_true rfl), (Nat.le_of_ble_eq_true rfl)⟩ rfl rfl rfl (Nat.le_of_ble_eq_true rfl) (cc_bnew (g5.new) fp_new_eq (by decide) (by decide)) (fun r h6' u => ?_)
  obtain ⟨rfl, u1, u2, u3⟩ := u
  obtain ⟨k1, k2, k3, k4, k5, k6⟩ := mk_fr (ea' := .inr (3, [.ref tb, .int (nI b), .ref op, .int 0, .ref h5'.2.1, .int 0, .int 0, .int 0, .int 0])) g5 g3 (by decide) u2 (by decide)
  refine wp_putf dX2_init_42 fs_X2_34 k1 (Nat.le_of_ble_eq_true rfl) rfl rfl ?_
  refine wp_vret dX2_init_45 rfl ?_
  refine ⟨rfl, tb, op, h5'.2.1, k3, q3'.kept k2 (by decide), v1'.kept k2 (by decide), u1.kept k4 (by decide), ?_, ?_⟩
  · exact (f2.mono (fun z y => by omega)).trans ((i1.mono (fun z y => by omega)).trans ((g2.mono (fun z y => by omega)).trans (k2.mono (fun z y => by omega))))
  · show h6'.2.2 = _
    rw [u3]
    show h5'.2.2 + 2 + 64 = _
    rw [z2]
theorem cn_dec {cap : Nat} {nm vl : Nat → Nat} {x : Value} (w : fp_wf h) (ha : h.1 a = some (4, .inr (2, [x, .int 0]))) (hcap : cap ≤ 400) : fp_ct G rm_X1_init M_X1_init [.ref a, .int (nI cap)] h (fun r h' => r = none ∧ ∃ td, h'.1 a = some (4, .inr (2, [.ref td, .int 0])) ∧ tbl h' 16 td cap nm vl 0 0 0 ∧ cf (fun z => z = 4 ∨ z = 16) h h' ∧ h'.2.2 = h.2.2 + 55) := by
  refine fp_meth pn_X1 (Nat.le_of_ble_eq_true rfl) rfl ?_
  refine wp_aload_n dX1_init_0 rfl ?_
  refine wp_objInit dX1_init_1 cw_X1_3 ⟨(Nat.le_of_ble_eq_true rfl), (Nat.le_of_ble_eq_true rfl)⟩ rfl (Nat.le_of_ble_eq_true rfl) ?_
  refine wp_aload_n dX1_init_4 rfl ?_
  refine wp_new 16 dX1_init_5 nw_X1_9 ?_
  refine wp_dup dX1_init_8 rfl ?_
  refine wp_iload_n dX1_init_9 rfl ?_
  refine wp_callI (As := [.int (nI cap)]) (rest := [.ref h.2.1, .ref a]) dX1_init_10 me_X8_init rfl cw_X1_11 rfl ⟨(Nat.le_of_ble_eq_true rfl), (Nat.le_of_ble_eq_true rfl)⟩ rfl rfl rfl (Nat.le_of_ble_eq_true rfl) (cc_tnew (nm := nm) (vl := vl) (w.new) fp_new_eq hcap) (fun r h1' q => ?_)
  obtain ⟨rfl, q1, q2, q3⟩ := q
  obtain ⟨f1, f2, f3, f4, f5, f6⟩ := mk_fr (ea' := .inr (2, [.ref h.2.1, .int 0])) w ha (by decide) q2 (by decide)
  refine wp_putf dX1_init_13 fs_X1_14 f1 (Nat.le_of_ble_eq_true rfl) rfl rfl ?_
  refine wp_vret dX1_init_16 rfl ?_
  refine ⟨rfl, h.2.1, f3, q1.kept f4 (by decide), f2.mono (fun z y => by omega), ?_⟩
  show h1'.2.2 = _
  rw [q3]
  rfl
theorem cn_lane {s : Nat} {x y z : Value} (hs : s < 8) (w : fp_wf h) (ha : h.1 a = some (50 + s, .inr (5, [.int 0, x, y, z, .int 0]))) : fp_ct G rm_X4_init M_X4_init [.ref a, .int (nI s)] h (fun r h' => r = none ∧ ∃ onw wai red, h'.1 a = some (50 + s, .inr (5, [.int (nI s), .ref onw, .ref wai, .ref red, .int 0])) ∧ lst G h' (20 + s) onw [] 0 ∧ lst G h' (30 + s) wai [] 0 ∧ lst G h' (40 + s) red [] 0 ∧ cf (fun z => z = 20 + s ∨ z = 30 + s ∨ z = 40 + s ∨ z = 50 + s) h h' ∧ h'.2.2 = h.2.2 + 9) := by
  refine fp_meth pn_X4 (Nat.le_of_ble_eq_true rfl) rfl ?_
  have i1 : cf (fun x => x = 50 + s) h (fp_put h a (50 + s) (.inr (5, [.int (nI s), x, y, z, .int 0]))) := cf.put1 ha
  have i2 : (fp_put h a (50 + s) (.inr (5, [.int (nI s), x, y, z, .int 0]))).1 a = some (50 + s, .inr (5, [.int (nI s), x, y, z, .int 0])) := fp_put_eq
  have i3 := i1.wf w
  have i4 : (fp_put h a (50 + s) (.inr (5, [.int (nI s), x, y, z, .int 0]))).2 = h.2 := rfl
  refine wp_aload_n dX4_init_0 rfl ?_
  refine wp_objInit dX4_init_1 cw_X4_1 ⟨(Nat.le_of_ble_eq_true rfl), (Nat.le_of_ble_eq_true rfl)⟩ rfl (Nat.le_of_ble_eq_true rfl) ?_
  refine wp_aload_n dX4_init_4 rfl ?_
  refine wp_iload_n dX4_init_5 rfl ?_
  refine wp_putf dX4_init_6 fs_X4_7 ha (Nat.le_of_ble_eq_true rfl) rfl rfl ?_
  refine fp_wp_h (h' := fp_put h a (50 + s) (.inr (5, [.int (nI s), x, y, z, .int 0]))) rfl ?_
  generalize fp_put h a (50 + s) (.inr (5, [.int (nI s), x, y, z, .int 0])) = h1 at i1 i2 i3 i4 ⊢
  refine wp_aload_n dX4_init_9 rfl ?_
  refine wp_new (20 + s) dX4_init_10 nw_X4_13 ?_
  refine wp_dup dX4_init_13 rfl ?_
  refine wp_callI (As := []) (rest := [.ref h1.2.1, .ref a]) dX4_init_14 me_Jx4a65c_init_da8c8 rfl cw_X4_15 rfl ⟨(Nat.le_of_ble_eq_true rfl), (Nat.le_of_ble_eq_true rfl)⟩ rfl rfl rfl (Nat.le_of_ble_eq_true rfl) (ct_lnew fp_new_eq) (fun r h2 v => ?_)
  obtain ⟨rfl, v1, v2, v3⟩ := v
  obtain ⟨f1, f2, f3, f4, f5, f6⟩ := mk_fr (ea' := .inr (5, [.int (nI s), .ref h1.2.1, y, z, .int 0])) i3 i2 (by decide) v2 (fun z => by omega)
  have v1' := v1.kept f4 (fun z => by omega)
  have z1 : (fp_put h2 a (50 + s) (.inr (5, [.int (nI s), .ref h1.2.1, y, z, .int 0]))).2.2 = h.2.2 + 3 := by rw [f6, v3]; show h1.2.2 + 3 = _; rw [i4]
  refine wp_putf dX4_init_17 fs_X4_16 f1 (Nat.le_of_ble_eq_true rfl) rfl rfl ?_
  refine fp_wp_h (h' := fp_put h2 a (50 + s) (.inr (5, [.int (nI s), .ref h1.2.1, y, z, .int 0]))) rfl ?_
  generalize fp_put h2 a (50 + s) (.inr (5, [.int (nI s), .ref h1.2.1, y, z, .int 0])) = h3 at f2 f3 f4 f5 f6 v1' z1 ⊢
  generalize h1.2.1 = onw at f3 v1' ⊢
  refine wp_aload_n dX4_init_20 rfl ?_
  refine wp_new (30 + s) dX4_init_21 nw_X4_13 ?_
  refine wp_dup dX4_init_24 rfl ?_
  refine wp_callI (As := []) (rest := [.ref h3.2.1, .ref a]) dX4_init_25 me_Jx4a65c_init_da8c8 rfl cw_X4_15 rfl ⟨(Nat.le_of_ble_eq_true rfl), (Nat.le_of_ble_eq_true rfl)⟩ rfl rfl rfl (Nat.le_of_ble_eq_true rfl) (ct_lnew fp_new_eq) (fun r h4 u => ?_)
  obtain ⟨rfl, u1, u2, u3⟩ := u
  obtain ⟨g1, g2, g3, g4, g5, g6⟩ := mk_fr (ea' := .inr (5, [.int (nI s), .ref onw, .ref h3.2.1, z, .int 0])) f5 f3 (by decide) u2 (fun z => by omega)
  have u1' := u1.kept g4 (fun z => by omega)
  have v2' := v1'.kept g2 (fun z => by omega)
  have z2 : (fp_put h4 a (50 + s) (.inr (5, [.int (nI s), .ref onw, .ref h3.2.1, z, .int 0]))).2.2 = h.2.2 + 6 := by rw [g6, u3]; show h3.2.2 + 3 = _; rw [z1]
  refine wp_putf dX4_init_28 fs_X4_20 g1 (Nat.le_of_ble_eq_true rfl) rfl rfl ?_
  refine fp_wp_h (h' := fp_put h4 a (50 + s) (.inr (5, [.int (nI s), .ref onw, .ref h3.2.1, z, .int 0]))) rfl ?_
  generalize fp_put h4 a (50 + s) (.inr (5, [.int (nI s), .ref onw, .ref h3.2.1, z, .int 0])) = h5 at g2 g3 g4 g5 g6 u1' v2' z2 ⊢
  generalize h3.2.1 = wai at g3 u1' ⊢
  refine wp_aload_n dX4_init_31 rfl ?_
  refine wp_new (40 + s) dX4_init_32 nw_X4_13 ?_
  refine wp_dup dX4_init_35 rfl ?_
  refine wp_callI (As := []) (rest := [.ref h5.2.1, .ref a]) dX4_init_36 me_Jx4a65c_init_da8c8 rfl cw_X4_15 rfl ⟨(Nat.le_of_ble_eq_true rfl), (Nat.le_of_ble_eq_true rfl)⟩ rfl rfl rfl (Nat.le_of_ble_eq_true rfl) (ct_lnew fp_new_eq) (fun r h6 u => ?_)
  obtain ⟨rfl, w1, w2, w3⟩ := u
  obtain ⟨k1, k2, k3, k4, k5, k6⟩ := mk_fr (ea' := .inr (5, [.int (nI s), .ref onw, .ref wai, .ref h5.2.1, .int 0])) g5 g3 (by decide) w2 (fun z => by omega)
  refine wp_putf dX4_init_39 fs_X4_23 k1 (Nat.le_of_ble_eq_true rfl) rfl rfl ?_
  refine wp_vret dX4_init_42 rfl ?_
  refine ⟨rfl, onw, wai, h5.2.1, k3, v2'.kept k2 (fun z => by omega), u1'.kept k2 (fun z => by omega), w1.kept k4 (fun z => by omega), ?_, ?_⟩
  · exact (i1.mono (fun z y => by omega)).trans ((f2.mono (fun z y => by omega)).trans ((g2.mono (fun z y => by omega)).trans (k2.mono (fun z y => by omega))))
  · show h6.2.2 = _
    rw [w3]
    show h5.2.2 + 3 = _
    rw [z2]
end CN
