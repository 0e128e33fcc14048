/-! the law: decoded, and the calls that change something -/
theorem dec_uniq {p : rs} {x y z w : Int32} {r r' : Option Value} (hm : ∀ k, k < p.1 28 → p.2.1 15 k ≤ 12) (h : ((¬ ∃ k i f v, r_dok p x y z w k i f v) ∧ r = some (.long (-1))) ∨ ∃ k i f v, r_dok p x y z w k i f v ∧ r = some (.long (lN (r_dv p i f v)))) (h' : ((¬ ∃ k i f v, r_dok p x y z w k i f v) ∧ r' = some (.long (-1))) ∨ ∃ k i f v, r_dok p x y z w k i f v ∧ r' = some (.long (lN (r_dv p i f v)))) : ∃ v, r = some (.long v) ∧ r' = some (.long v) := by
  rcases h with ⟨a, rfl⟩ | ⟨k, i, f, v, a1, rfl⟩
  · rcases h' with ⟨b, rfl⟩ | ⟨k', i', f', v', b1, -⟩
    · exact ⟨_, rfl, rfl⟩
    · exact absurd ⟨k', i', f', v', b1⟩ a
  · rcases h' with ⟨b, -⟩ | ⟨k', i', f', v', b1, rfl⟩
    · exact absurd ⟨k, i, f, v, a1⟩ b
    · obtain ⟨a1, a2, a3, a4, a5, a6, a7⟩ := a1
      obtain ⟨b1, b2, b3, b4, b5, b6, b7⟩ := b1
      have z1 : k = k' := (nI_eq a2 b2).mp (a1.symm.trans b1)
      subst z1
      have z2 := r_kth_uni a3 b3
      subst z2
      have h12 := hm i a3.1
      have z3 : f = f' := (nI_eq (by omega) (by omega)).mp (a4.symm.trans b4)
      have z4 : v = v' := (nI_eq (by omega) (by omega)).mp (a6.symm.trans b6)
      subst z3; subst z4
      exact ⟨_, rfl, rfl⟩
theorem obey_rd {p : rs} {c n k : Nat} (h : RI p c) (hk : k < p.1 28) (h1 : p.2.1 14 k = 1) : RD (r_gots (p.1 6 - p.1 24) (r_si p 15 (p.1 15 + min (p.1 13 - p.1 15) n))) k := by
  have h13 := h.2.1.2.2.1
  have h24 := h.known.2.2.1
  have hm : min (p.1 13 - p.1 15) n ≤ p.1 13 - p.1 15 := Nat.min_le_left _ _
  have hD := (h.si15 (v := p.1 15 + min (p.1 13 - p.1 15) n) (by omega) (by omega)).D
  obtain ⟨-, g2, gx, -⟩ := hD.gots (p.1 6 - p.1 24) _ (show p.1 24 + (p.1 6 - p.1 24) = p.1 6 by omega)
  refine (h.obey (n := n)).RD ?_ ?_
  · rw [gx 28 (by decide) (by decide) (by decide)]; exact hk
  · rw [g2]; show p.2.1 14 k < 2; omega
section LL
variable {G : fp_G} {h : fp_H} {o : Nat} {A la : Nat → Nat} {mm : Nat} {p : rs} {B NB SB c i : Nat} {Q : Option Value → fp_H → Prop}
theorem l_decoded (st : ST G h o A la mm p B NB SB c) (hc : c ≤ 512) (hL : i + 6 ≤ G.2.2.2.1 3) (hG : G.2.2.2.1 3 ≤ 3074) (nx : NX G o A la mm B NB SB c i Q) : fp_wp G rm_L_law M_L_law 506 [some (.ref (G.2.2.2.1 2)), some (.ref o), some (.ref mm), some (.int (nI i))] [] h Q := by
  obtain ⟨vs, ho⟩ := st.obj
  have ri := st.2.1
  have ra := ri.1
  have ok : rok p := ra.1
  have h8 : ∀ k, k < p.1 28 → p.2.1 11 k < 8 := fun k hk => (ri.2.2.1.1 k hk).1.2.2.2.1
  have hm : ∀ k, k < p.1 28 → p.2.1 15 k ≤ 12 := fun k hk => (ri.2.2.1.1 k hk).1.2.2.1
  have h18 : ∀ i, i < p.1 28 → ∀ f, f < p.2.1 15 i → p.2.1 18 (12 * i + f) ≤ 1 := fun k hk f hf => by
    obtain ⟨⟨base, ls, -, -, s3⟩, -⟩ := (ri.2.2.1.1 k hk).1
    exact (s3 f hf).2
  have i1 := vin (G := G) (n1 (i := i)) hL (by decide) hG
  have i2 := vin (G := G) (n2 (i := i)) hL (by decide) hG
  have i3 := vin (G := G) (n3 (i := i)) hL (by decide) hG
  have i4 := vin (G := G) (n4 (i := i)) hL (by decide) hG
  obtain ⟨ba, sa, ra', fa, oa, K, c1, c2, c3, m, -⟩ := id st.1
  refine wp_aload_n dL_law_506 rfl ?_
  refine wp_aload_n dL_law_507 rfl ?_
  refine wp_iload_n dL_law_508 rfl ?_
  refine wp_iconst (v := 1) dL_law_509 rfl ?_
  refine wp_iadd dL_law_510 ?_
  refine wp_ialdS dL_law_511 i1 ?_
  refine wp_aload_n dL_law_512 rfl ?_
  refine wp_iload_n dL_law_513 rfl ?_
  refine wp_iconst (v := 2) dL_law_514 rfl ?_
  refine wp_iadd dL_law_515 ?_
  refine wp_ialdS dL_law_516 i2 ?_
  refine wp_aload_n dL_law_517 rfl ?_
  refine wp_iload_n dL_law_518 rfl ?_
  refine wp_iconst (v := 3) dL_law_519 rfl ?_
  refine wp_iadd dL_law_520 ?_
  refine wp_ialdS dL_law_521 i3 ?_
  refine wp_aload_n dL_law_522 rfl ?_
  refine wp_iload_n dL_law_523 rfl ?_
  refine wp_iconst (v := 4) dL_law_524 rfl ?_
  refine wp_iadd dL_law_525 ?_
  refine wp_ialdS dL_law_526 i4 ?_
  refine wp_callV (As := [.int (G.2.2.2.2 (nI i + 1).toNatClampNeg), .int (G.2.2.2.2 (nI i + 2).toNatClampNeg), .int (G.2.2.2.2 (nI i + 3).toNatClampNeg), .int (G.2.2.2.2 (nI i + 4).toNatClampNeg)]) (rest := []) dL_law_527 me_X10_decoded cw_L_72 rfl ⟨(Nat.le_of_ble_eq_true rfl), (Nat.le_of_ble_eq_true rfl)⟩ rfl rfl rfl (Nat.le_of_ble_eq_true rfl) ho (cp_decoded m ok ra.2.1 h8 hm h18) (fun r h1 q => ?_)
  obtain ⟨q0, q1⟩ := q
  subst q0
  have rv : ∃ v, r = some (.long v) := by
    rcases q1 with ⟨-, rfl⟩ | q1
    · exact ⟨_, rfl⟩
    · obtain ⟨_, _, _, _, _, rfl⟩ := q1; exact ⟨_, rfl⟩
  obtain ⟨v, rfl⟩ := rv
  refine fp_wp_h (h' := r_hp h1 mm p) st.2.2.1 ?_
  refine wp_aload_n dL_law_530 rfl ?_
  refine wp_aload_n dL_law_531 rfl ?_
  refine wp_iload_n dL_law_532 rfl ?_
  refine wp_iconst (v := 1) dL_law_533 rfl ?_
  refine wp_iadd dL_law_534 ?_
  refine wp_ialdS dL_law_535 i1 ?_
  refine wp_aload_n dL_law_536 rfl ?_
  refine wp_iload_n dL_law_537 rfl ?_
  refine wp_iconst (v := 2) dL_law_538 rfl ?_
  refine wp_iadd dL_law_539 ?_
  refine wp_ialdS dL_law_540 i2 ?_
  refine wp_aload_n dL_law_541 rfl ?_
  refine wp_iload_n dL_law_542 rfl ?_
  refine wp_iconst (v := 3) dL_law_543 rfl ?_
  refine wp_iadd dL_law_544 ?_
  refine wp_ialdS dL_law_545 i3 ?_
  refine wp_aload_n dL_law_546 rfl ?_
  refine wp_iload_n dL_law_547 rfl ?_
  refine wp_iconst (v := 4) dL_law_548 rfl ?_
  refine wp_iadd dL_law_549 ?_
  refine wp_ialdS dL_law_550 i4 ?_
  refine wp_callV (As := [.int (G.2.2.2.2 (nI i + 1).toNatClampNeg), .int (G.2.2.2.2 (nI i + 2).toNatClampNeg), .int (G.2.2.2.2 (nI i + 3).toNatClampNeg), .int (G.2.2.2.2 (nI i + 4).toNatClampNeg)]) (rest := [.long v]) dL_law_551 me_X11_decoded cw_L_76 rfl ⟨(Nat.le_of_ble_eq_true rfl), (Nat.le_of_ble_eq_true rfl)⟩ rfl rfl rfl (Nat.le_of_ble_eq_true rfl) r_at_m (ct_decoded ok ra.2.1 hm) (fun r h2 q => ?_)
  obtain ⟨q0, q2⟩ := q
  subst q0
  obtain ⟨v', hv, rfl⟩ := dec_uniq hm q1 q2
  injection hv with hv
  injection hv with hv
  subst hv
  refine wp_lcmp dL_law_554 ?_
  refine wp_if_eq (tgt := 560) dL_law_555 rfl (fun c_555 => ?_) (fun c_555 => ?_)
  · exact nx _ p st.back
  · exact absurd (by unfold lg_cmp; simp) c_555
theorem l_encode (st : ST G h o A la mm p B NB SB c) (hc : c ≤ 512) (hL : i + 6 ≤ G.2.2.2.1 3) (hG : G.2.2.2.1 3 ≤ 3074) (nx : NX G o A la mm B NB SB c i Q) : fp_wp G rm_L_law M_L_law 235 [some (.ref (G.2.2.2.1 2)), some (.ref o), some (.ref mm), some (.int (nI i))] [] h Q := by
  obtain ⟨vs, ho⟩ := st.obj
  have hkn := st.2.1.known
  have ri := st.2.1
  have ra := ri.1
  have ok : rok p := ra.1
  have i1 := vin (G := G) (n1 (i := i)) hL (by decide) hG
  refine wp_aload_n dL_law_235 rfl ?_
  refine wp_aload_n dL_law_236 rfl ?_
  refine wp_iload_n dL_law_237 rfl ?_
  refine wp_iconst (v := 1) dL_law_238 rfl ?_
  refine wp_iadd dL_law_239 ?_
  refine wp_ialdS dL_law_240 i1 ?_
  refine wp_callV (As := [.int (G.2.2.2.2 (nI i + 1).toNatClampNeg)]) (rest := []) dL_law_241 me_X10_encode cw_L_28 rfl ⟨(Nat.le_of_ble_eq_true rfl), (Nat.le_of_ble_eq_true rfl)⟩ rfl rfl rfl (Nat.le_of_ble_eq_true rfl) ho (cp_encode st.1 ok ra.2.1 ri.2.1.2.2.1 ra.J0 (fun _ => ri.I0) ra.2.2.1 ri.capA (fun s hs => (ri.2.2.2.2.2.1 s hs).1) (fun k hk => (ri.2.2.1.1 k hk).2.2.2) hkn.2.2.1 hkn.2.2.2 (fun k hk => (ri.2.2.1.1 k hk).1.2.2.1)) (fun r h1 q => ?_)
  rcases q with ⟨q1, rfl, q2⟩ | ⟨s, hs, hx, hn, rfl, q2, q3⟩
  · subst q2
    refine fp_wp_h (h' := r_hp h1 mm p) st.2.2.1 ?_
    refine wp_aload_n dL_law_244 rfl ?_
    refine wp_aload_n dL_law_245 rfl ?_
    refine wp_iload_n dL_law_246 rfl ?_
    refine wp_iconst (v := 1) dL_law_247 rfl ?_
    refine wp_iadd dL_law_248 ?_
    refine wp_ialdS dL_law_249 i1 ?_
    refine wp_callV (As := [.int (G.2.2.2.2 (nI i + 1).toNatClampNeg)]) (rest := [_]) dL_law_250 me_X11_encode cw_L_32 rfl ⟨(Nat.le_of_ble_eq_true rfl), (Nat.le_of_ble_eq_true rfl)⟩ rfl rfl rfl (Nat.le_of_ble_eq_true rfl) r_at_m (ct_encode ok ra.2.1 ri.2.1.2.2.1 ra.J0 ra.2.2.1 ri.2.2.1.2 ri.capA) (fun r h2 q => ?_)
    rcases q with ⟨-, rfl, rfl⟩ | ⟨s, hs, hx, hn, -⟩
    · refine wp_icmp_eq (tgt := 560) dL_law_253 rfl (fun c_253 => ?_) (fun c_253 => ?_)
      · exact nx _ p st.back
      · exact absurd rfl c_253
    · exact absurd ⟨s, hs, hx, hn⟩ q1
  · obtain ⟨e1, e2⟩ := st.mid q3
    refine fp_wp_h (h' := r_hp h1 mm p) e1 ?_
    refine wp_aload_n dL_law_244 rfl ?_
    refine wp_aload_n dL_law_245 rfl ?_
    refine wp_iload_n dL_law_246 rfl ?_
    refine wp_iconst (v := 1) dL_law_247 rfl ?_
    refine wp_iadd dL_law_248 ?_
    refine wp_ialdS dL_law_249 i1 ?_
    refine wp_callV (As := [.int (G.2.2.2.2 (nI i + 1).toNatClampNeg)]) (rest := [_]) dL_law_250 me_X11_encode cw_L_32 rfl ⟨(Nat.le_of_ble_eq_true rfl), (Nat.le_of_ble_eq_true rfl)⟩ rfl rfl rfl (Nat.le_of_ble_eq_true rfl) r_at_m (ct_encode ok ra.2.1 ri.2.1.2.2.1 ra.J0 ra.2.2.1 ri.2.2.1.2 ri.capA) (fun r h2 q => ?_)
    rcases q with ⟨q1, -⟩ | ⟨s', hs', hx', hn', rfl, rfl⟩
    · exact absurd ⟨s, hs, hx, hn⟩ q1
    · have z : s = s' := (nI_eq (by omega) (by omega)).mp (hx.symm.trans hx')
      subst z
      refine wp_icmp_eq (tgt := 560) dL_law_253 rfl (fun c_253 => ?_) (fun c_253 => ?_)
      · exact nx _ _ (ST.fin e1 e2 q2 (ri.enc hs hn))
      · exact absurd rfl c_253
theorem l_cancel (st : ST G h o A la mm p B NB SB c) (hc : c ≤ 512) (hL : i + 6 ≤ G.2.2.2.1 3) (hG : G.2.2.2.1 3 ≤ 3074) (nx : NX G o A la mm B NB SB c i Q) : fp_wp G rm_L_law M_L_law 327 [some (.ref (G.2.2.2.1 2)), some (.ref o), some (.ref mm), some (.int (nI i))] [] h Q := by
  obtain ⟨vs, ho⟩ := st.obj
  have hkn := st.2.1.known
  have ri := st.2.1
  have ra := ri.1
  have ok : rok p := ra.1
  have hw := ri.wn (by omega)
  have hm : ∀ k, k < p.1 28 → p.2.1 15 k ≤ 12 := fun k hk => (ri.2.2.1.1 k hk).1.2.2.1
  have i1 := vin (G := G) (n1 (i := i)) hL (by decide) hG
  refine wp_aload_n dL_law_327 rfl ?_
  refine wp_aload_n dL_law_328 rfl ?_
  refine wp_iload_n dL_law_329 rfl ?_
  refine wp_iconst (v := 1) dL_law_330 rfl ?_
  refine wp_iadd dL_law_331 ?_
  refine wp_ialdS dL_law_332 i1 ?_
  refine wp_callV (As := [.int (G.2.2.2.2 (nI i + 1).toNatClampNeg)]) (rest := []) dL_law_333 me_X10_cancel cw_L_47 rfl ⟨(Nat.le_of_ble_eq_true rfl), (Nat.le_of_ble_eq_true rfl)⟩ rfl rfl rfl (Nat.le_of_ble_eq_true rfl) ho (cp_cancel st.1 ok ra.2.1 (by omega) hm ri.2.2.2.1.2.1) (fun r h1 q => ?_)
  rcases q with ⟨q1, rfl, q2⟩ | ⟨s, hs, hx, hn, rfl, q2, q3⟩
  · subst q2
    refine fp_wp_h (h' := r_hp h1 mm p) st.2.2.1 ?_
    refine wp_aload_n dL_law_336 rfl ?_
    refine wp_aload_n dL_law_337 rfl ?_
    refine wp_iload_n dL_law_338 rfl ?_
    refine wp_iconst (v := 1) dL_law_339 rfl ?_
    refine wp_iadd dL_law_340 ?_
    refine wp_ialdS dL_law_341 i1 ?_
    refine wp_callV (As := [.int (G.2.2.2.2 (nI i + 1).toNatClampNeg)]) (rest := [_]) dL_law_342 me_X11_cancel cw_L_50 rfl ⟨(Nat.le_of_ble_eq_true rfl), (Nat.le_of_ble_eq_true rfl)⟩ rfl rfl rfl (Nat.le_of_ble_eq_true rfl) r_at_m (ct_cancel ok ra.2.1 (by omega) (by omega)) (fun r h2 q => ?_)
    rcases q with ⟨-, rfl, rfl⟩ | ⟨s, hs, hx, hn, -⟩
    · refine wp_icmp_eq (tgt := 560) dL_law_345 rfl (fun c_345 => ?_) (fun c_345 => ?_)
      · exact nx _ p st.back
      · exact absurd rfl c_345
    · exact absurd ⟨s, hs, hx, hn⟩ q1
  · obtain ⟨e1, e2⟩ := st.mid q3
    refine fp_wp_h (h' := r_hp h1 mm p) e1 ?_
    refine wp_aload_n dL_law_336 rfl ?_
    refine wp_aload_n dL_law_337 rfl ?_
    refine wp_iload_n dL_law_338 rfl ?_
    refine wp_iconst (v := 1) dL_law_339 rfl ?_
    refine wp_iadd dL_law_340 ?_
    refine wp_ialdS dL_law_341 i1 ?_
    refine wp_callV (As := [.int (G.2.2.2.2 (nI i + 1).toNatClampNeg)]) (rest := [_]) dL_law_342 me_X11_cancel cw_L_50 rfl ⟨(Nat.le_of_ble_eq_true rfl), (Nat.le_of_ble_eq_true rfl)⟩ rfl rfl rfl (Nat.le_of_ble_eq_true rfl) r_at_m (ct_cancel ok ra.2.1 (by omega) (by omega)) (fun r h2 q => ?_)
    rcases q with ⟨q1, -⟩ | ⟨s', hs', hx', hn', rfl, rfl⟩
    · exact absurd ⟨s, hs, hx, hn⟩ q1
    · have z : s = s' := (nI_eq (by omega) (by omega)).mp (hx.symm.trans hx')
      subst z
      refine wp_icmp_eq (tgt := 560) dL_law_345 rfl (fun c_345 => ?_) (fun c_345 => ?_)
      · exact nx _ _ (ST.fin e1 e2 q2 (ri.can (by omega) hs))
      · exact absurd rfl c_345
theorem l_increment (st : ST G h o A la mm p B NB SB c) (hc : c ≤ 512) (nx : NX G o A la mm B NB SB c i Q) : fp_wp G rm_L_law M_L_law 314 [some (.ref (G.2.2.2.1 2)), some (.ref o), some (.ref mm), some (.int (nI i))] [] h Q := by
  obtain ⟨vs, ho⟩ := st.obj
  have hkn := st.2.1.known
  have ri := st.2.1
  have ra := ri.1
  have ok : rok p := ra.1
  have hw := ri.wn (by omega)
  have hm : ∀ k, k < p.1 28 → p.2.1 15 k ≤ 12 := fun k hk => (ri.2.2.1.1 k hk).1.2.2.1
  refine wp_aload_n dL_law_314 rfl ?_
  refine wp_callV (As := []) (rest := []) dL_law_315 me_X10_increment cw_L_42 rfl ⟨(Nat.le_of_ble_eq_true rfl), (Nat.le_of_ble_eq_true rfl)⟩ rfl rfl rfl (Nat.le_of_ble_eq_true rfl) ho (cp_inc st.1 ok (by omega) hkn.2.1 (by omega) hm ri.2.2.2.1.2.1) (fun r h1 q => ?_)
  rcases q with ⟨q1, rfl, q2⟩ | ⟨q1, rfl, q2, q3⟩
  · subst q2
    refine fp_wp_h (h' := r_hp h1 mm p) st.2.2.1 ?_
    refine wp_aload_n dL_law_318 rfl ?_
    refine wp_callV (As := []) (rest := [_]) dL_law_319 me_X11_increment cw_L_46 rfl ⟨(Nat.le_of_ble_eq_true rfl), (Nat.le_of_ble_eq_true rfl)⟩ rfl rfl rfl (Nat.le_of_ble_eq_true rfl) r_at_m (ct_increment ok (by omega) (by omega) (by omega)) (fun r h2 q => ?_)
    rcases q with ⟨-, rfl, rfl⟩ | ⟨q3, -⟩
    · refine wp_icmp_eq (tgt := 560) dL_law_322 rfl (fun c_322 => ?_) (fun c_322 => ?_)
      · exact nx _ p st.back
      · exact absurd rfl c_322
    · omega
  · obtain ⟨e1, e2⟩ := st.mid q3
    refine fp_wp_h (h' := r_hp h1 mm p) e1 ?_
    refine wp_aload_n dL_law_318 rfl ?_
    refine wp_callV (As := []) (rest := [_]) dL_law_319 me_X11_increment cw_L_46 rfl ⟨(Nat.le_of_ble_eq_true rfl), (Nat.le_of_ble_eq_true rfl)⟩ rfl rfl rfl (Nat.le_of_ble_eq_true rfl) r_at_m (ct_increment ok (by omega) (by omega) (by omega)) (fun r h2 q => ?_)
    rcases q with ⟨q4, -⟩ | ⟨-, rfl, rfl⟩
    · omega
    · refine wp_icmp_eq (tgt := 560) dL_law_322 rfl (fun c_322 => ?_) (fun c_322 => ?_)
      · exact nx _ _ (ST.fin e1 e2 q2 (ri.inc (by omega) q1))
      · exact absurd rfl c_322
theorem l_deliver (st : ST G h o A la mm p B NB SB c) (hc : c ≤ 512) (hL : i + 6 ≤ G.2.2.2.1 3) (hG : G.2.2.2.1 3 ≤ 3074) (nx : NX G o A la mm B NB SB c i Q) : fp_wp G rm_L_law M_L_law 291 [some (.ref (G.2.2.2.1 2)), some (.ref o), some (.ref mm), some (.int (nI i))] [] h Q := by
  obtain ⟨vs, ho⟩ := st.obj
  have ri := st.2.1
  have ra := ri.1
  have ok : rok p := ra.1
  have hw := ri.wn (by omega)
  have h8 : ∀ k, k < p.1 28 → p.2.1 11 k < 8 := fun k hk => (ri.2.2.1.1 k hk).1.2.2.2.1
  have hm : ∀ k, k < p.1 28 → p.2.1 15 k ≤ 12 := fun k hk => (ri.2.2.1.1 k hk).1.2.2.1
  have i1 := vin (G := G) (n1 (i := i)) hL (by decide) hG
  refine wp_aload_n dL_law_291 rfl ?_
  refine wp_aload_n dL_law_292 rfl ?_
  refine wp_iload_n dL_law_293 rfl ?_
  refine wp_iconst (v := 1) dL_law_294 rfl ?_
  refine wp_iadd dL_law_295 ?_
  refine wp_ialdS dL_law_296 i1 ?_
  refine wp_callV (As := [.int (G.2.2.2.2 (nI i + 1).toNatClampNeg)]) (rest := []) dL_law_297 me_X10_deliver cw_L_38 rfl ⟨(Nat.le_of_ble_eq_true rfl), (Nat.le_of_ble_eq_true rfl)⟩ rfl rfl rfl (Nat.le_of_ble_eq_true rfl) ho (cp_deliver st.1 ok ra.2.1 h8 (by omega) (by omega) (fun k hk hk2 => ⟨(ri.2.2.1.1 k hk).1, ri.RD hk hk2⟩) hm ri.2.2.2.2.1.1 (fun s hs => (ri.2.2.2.2.2.1 s hs).2) (fun k hk h0 hn => ri.R hk h0 hn) ri.2.2.2.1.2.1 ra.2.2.2.2.2.2.2.2.2.1) (fun r h1 q => ?_)
  rcases q with ⟨q1, rfl, q2⟩ | ⟨k, hx, hn, rfl, q2, q3⟩
  · subst q2
    refine fp_wp_h (h' := r_hp h1 mm p) st.2.2.1 ?_
    refine wp_aload_n dL_law_300 rfl ?_
    refine wp_aload_n dL_law_301 rfl ?_
    refine wp_iload_n dL_law_302 rfl ?_
    refine wp_iconst (v := 1) dL_law_303 rfl ?_
    refine wp_iadd dL_law_304 ?_
    refine wp_ialdS dL_law_305 i1 ?_
    refine wp_callV (As := [.int (G.2.2.2.2 (nI i + 1).toNatClampNeg)]) (rest := [_]) dL_law_306 me_X11_deliver cw_L_41 rfl ⟨(Nat.le_of_ble_eq_true rfl), (Nat.le_of_ble_eq_true rfl)⟩ rfl rfl rfl (Nat.le_of_ble_eq_true rfl) r_at_m (ct_deliver ok ra.2.1 h8 (by omega) (by omega)) (fun r h2 q => ?_)
    rcases q with ⟨-, rfl, rfl⟩ | ⟨k, hx, hn, -⟩
    · refine wp_icmp_eq (tgt := 560) dL_law_309 rfl (fun c_309 => ?_) (fun c_309 => ?_)
      · exact nx _ p st.back
      · exact absurd rfl c_309
    · exact absurd ⟨k, hx, hn⟩ q1
  · obtain ⟨e1, e2⟩ := st.mid q3
    refine fp_wp_h (h' := r_hp h1 mm p) e1 ?_
    refine wp_aload_n dL_law_300 rfl ?_
    refine wp_aload_n dL_law_301 rfl ?_
    refine wp_iload_n dL_law_302 rfl ?_
    refine wp_iconst (v := 1) dL_law_303 rfl ?_
    refine wp_iadd dL_law_304 ?_
    refine wp_ialdS dL_law_305 i1 ?_
    refine wp_callV (As := [.int (G.2.2.2.2 (nI i + 1).toNatClampNeg)]) (rest := [_]) dL_law_306 me_X11_deliver cw_L_41 rfl ⟨(Nat.le_of_ble_eq_true rfl), (Nat.le_of_ble_eq_true rfl)⟩ rfl rfl rfl (Nat.le_of_ble_eq_true rfl) r_at_m (ct_deliver ok ra.2.1 h8 (by omega) (by omega)) (fun r h2 q => ?_)
    rcases q with ⟨q1, -⟩ | ⟨k', hx', hn', rfl, rfl⟩
    · exact absurd ⟨k, hx, hn⟩ q1
    · have z : k = k' := Option.some.inj (hx.symm.trans hx')
      subst z
      refine wp_icmp_eq (tgt := 560) dL_law_309 rfl (fun c_309 => ?_) (fun c_309 => ?_)
      · exact nx _ _ (ST.fin e1 e2 q2 ((ri.del (by omega) hx hn).mono (by omega)))
      · exact absurd rfl c_309
theorem l_move (st : ST G h o A la mm p B NB SB c) (hc : c ≤ 512) (hL : i + 6 ≤ G.2.2.2.1 3) (hG : G.2.2.2.1 3 ≤ 3074) (nx : NX G o A la mm B NB SB c i Q) : fp_wp G rm_L_law M_L_law 258 [some (.ref (G.2.2.2.1 2)), some (.ref o), some (.ref mm), some (.int (nI i))] [] h Q := by
  obtain ⟨vs, ho⟩ := st.obj
  have hkn := st.2.1.known
  have ri := st.2.1
  have ra := ri.1
  have hw := ri.wn (by omega)
  have h8 : ∀ k, k < p.1 28 → p.2.1 11 k < 8 := fun k hk => (ri.2.2.1.1 k hk).1.2.2.2.1
  have hm : ∀ k, k < p.1 28 → p.2.1 15 k ≤ 12 := fun k hk => (ri.2.2.1.1 k hk).1.2.2.1
  have h13 : p.1 13 ≤ 43200 := by have := ra.2.2.2.2.2.2.2.2.2.2; omega
  have i1 := vin (G := G) (n1 (i := i)) hL (by decide) hG
  have i2 := vin (G := G) (n2 (i := i)) hL (by decide) hG
  refine wp_aload_n dL_law_258 rfl ?_
  refine wp_aload_n dL_law_259 rfl ?_
  refine wp_iload_n dL_law_260 rfl ?_
  refine wp_iconst (v := 1) dL_law_261 rfl ?_
  refine wp_iadd dL_law_262 ?_
  refine wp_ialdS dL_law_263 i1 ?_
  refine wp_aload_n dL_law_264 rfl ?_
  refine wp_iload_n dL_law_265 rfl ?_
  refine wp_iconst (v := 2) dL_law_266 rfl ?_
  refine wp_iadd dL_law_267 ?_
  refine wp_ialdS dL_law_268 i2 ?_
  refine wp_callV (As := [.int (G.2.2.2.2 (nI i + 1).toNatClampNeg), .int (G.2.2.2.2 (nI i + 2).toNatClampNeg)]) (rest := []) dL_law_269 me_X10_move cw_L_33 rfl ⟨(Nat.le_of_ble_eq_true rfl), (Nat.le_of_ble_eq_true rfl)⟩ rfl rfl rfl (Nat.le_of_ble_eq_true rfl) ho (cp_move st.1 ri.D (ri.B (by omega)) ri.2.1.2.2.1 (by omega) h8 ri.2.2.2.1.2.2.1 (by omega) (by omega) ri.2.1.2.1 ri.2.1.1.1 ri.2.2.2.1.1 ri.2.1.1.2.2.1 ri.2.2.2.1.2.2.2.2 ri.2.1.2.2.2.2.2.2.2 ri.2.2.2.1.2.2.2.1 ri.2.2.2.2.1.1 hm (fun k hk _ => (ri.2.2.1.1 k hk).1) (fun n k hk h1 => obey_rd ri hk h1)) (fun r h1 q => ?_)
  rcases q with ⟨q1, rfl, q2⟩ | ⟨n, hn, hy, hx, rfl, q2, q3⟩ | ⟨n, hn, hy, hx, rfl, q2, q3⟩
  · subst q2
    refine fp_wp_h (h' := r_hp h1 mm p) st.2.2.1 ?_
    refine wp_aload_n dL_law_272 rfl ?_
    refine wp_aload_n dL_law_273 rfl ?_
    refine wp_iload_n dL_law_274 rfl ?_
    refine wp_iconst (v := 1) dL_law_275 rfl ?_
    refine wp_iadd dL_law_276 ?_
    refine wp_ialdS dL_law_277 i1 ?_
    refine wp_aload_n dL_law_278 rfl ?_
    refine wp_iload_n dL_law_279 rfl ?_
    refine wp_iconst (v := 2) dL_law_280 rfl ?_
    refine wp_iadd dL_law_281 ?_
    refine wp_ialdS dL_law_282 i2 ?_
    refine wp_callV (As := [.int (G.2.2.2.2 (nI i + 1).toNatClampNeg), .int (G.2.2.2.2 (nI i + 2).toNatClampNeg)]) (rest := [_]) dL_law_283 me_X11_move cw_L_37 rfl ⟨(Nat.le_of_ble_eq_true rfl), (Nat.le_of_ble_eq_true rfl)⟩ rfl rfl rfl (Nat.le_of_ble_eq_true rfl) r_at_m (ct_move ri.D (ri.B (by omega)) ri.2.1.2.2.1 (by omega) h8 ri.2.2.2.1.2.2.1 (by omega) (by omega)) (fun r h2 q => ?_)
    rcases q with ⟨-, rfl, rfl⟩ | ⟨n, hn, hy, hx, -⟩ | ⟨n, hn, hy, hx, -⟩
    · refine wp_icmp_eq (tgt := 560) dL_law_286 rfl (fun c_286 => ?_) (fun c_286 => ?_)
      · exact nx _ p st.back
      · exact absurd rfl c_286
    · exact absurd ⟨Or.inl hx, n, hn, hy⟩ q1
    · exact absurd ⟨Or.inr hx, n, hn, hy⟩ q1
  · obtain ⟨e1, e2⟩ := st.mid q3
    refine fp_wp_h (h' := r_hp h1 mm p) e1 ?_
    refine wp_aload_n dL_law_272 rfl ?_
    refine wp_aload_n dL_law_273 rfl ?_
    refine wp_iload_n dL_law_274 rfl ?_
    refine wp_iconst (v := 1) dL_law_275 rfl ?_
    refine wp_iadd dL_law_276 ?_
    refine wp_ialdS dL_law_277 i1 ?_
    refine wp_aload_n dL_law_278 rfl ?_
    refine wp_iload_n dL_law_279 rfl ?_
    refine wp_iconst (v := 2) dL_law_280 rfl ?_
    refine wp_iadd dL_law_281 ?_
    refine wp_ialdS dL_law_282 i2 ?_
    refine wp_callV (As := [.int (G.2.2.2.2 (nI i + 1).toNatClampNeg), .int (G.2.2.2.2 (nI i + 2).toNatClampNeg)]) (rest := [_]) dL_law_283 me_X11_move cw_L_37 rfl ⟨(Nat.le_of_ble_eq_true rfl), (Nat.le_of_ble_eq_true rfl)⟩ rfl rfl rfl (Nat.le_of_ble_eq_true rfl) r_at_m (ct_move ri.D (ri.B (by omega)) ri.2.1.2.2.1 (by omega) h8 ri.2.2.2.1.2.2.1 (by omega) (by omega)) (fun r h2 q => ?_)
    rcases q with ⟨q1, -⟩ | ⟨n', hn', hy', hx', rfl, rfl⟩ | ⟨n', hn', hy', hx', -⟩
    · exact absurd ⟨Or.inl hx, n, hn, hy⟩ q1
    · have z : n = n' := (nI_eq (by omega) (by omega)).mp (hy.symm.trans hy')
      subst z
      refine wp_icmp_eq (tgt := 560) dL_law_286 rfl (fun c_286 => ?_) (fun c_286 => ?_)
      · exact nx _ _ (ST.fin e1 e2 q2 ((ri.mv0 (by omega)).mono (by omega)))
      · exact absurd rfl c_286
    · exact absurd (hx.symm.trans hx') (by decide)
  · obtain ⟨e1, e2⟩ := st.mid q3
    refine fp_wp_h (h' := r_hp h1 mm p) e1 ?_
    refine wp_aload_n dL_law_272 rfl ?_
    refine wp_aload_n dL_law_273 rfl ?_
    refine wp_iload_n dL_law_274 rfl ?_
    refine wp_iconst (v := 1) dL_law_275 rfl ?_
    refine wp_iadd dL_law_276 ?_
    refine wp_ialdS dL_law_277 i1 ?_
    refine wp_aload_n dL_law_278 rfl ?_
    refine wp_iload_n dL_law_279 rfl ?_
    refine wp_iconst (v := 2) dL_law_280 rfl ?_
    refine wp_iadd dL_law_281 ?_
    refine wp_ialdS dL_law_282 i2 ?_
    refine wp_callV (As := [.int (G.2.2.2.2 (nI i + 1).toNatClampNeg), .int (G.2.2.2.2 (nI i + 2).toNatClampNeg)]) (rest := [_]) dL_law_283 me_X11_move cw_L_37 rfl ⟨(Nat.le_of_ble_eq_true rfl), (Nat.le_of_ble_eq_true rfl)⟩ rfl rfl rfl (Nat.le_of_ble_eq_true rfl) r_at_m (ct_move ri.D (ri.B (by omega)) ri.2.1.2.2.1 (by omega) h8 ri.2.2.2.1.2.2.1 (by omega) (by omega)) (fun r h2 q => ?_)
    rcases q with ⟨q1, -⟩ | ⟨n', hn', hy', hx', -⟩ | ⟨n', hn', hy', hx', rfl, rfl⟩
    · exact absurd ⟨Or.inr hx, n, hn, hy⟩ q1
    · exact absurd (hx.symm.trans hx') (by decide)
    · have z : n = n' := (nI_eq (by omega) (by omega)).mp (hy.symm.trans hy')
      subst z
      refine wp_icmp_eq (tgt := 560) dL_law_286 rfl (fun c_286 => ?_) (fun c_286 => ?_)
      · exact nx _ _ (ST.fin e1 e2 q2 ((ri.mv1 (by omega)).mono (by omega)))
      · exact absurd rfl c_286
theorem l_field (st : ST G h o A la mm p B NB SB c) (hL : i + 6 ≤ G.2.2.2.1 3) (hG : G.2.2.2.1 3 ≤ 3074) (nx : NX G o A la mm B NB SB c i Q) : fp_wp G rm_L_law M_L_law 116 [some (.ref (G.2.2.2.1 2)), some (.ref o), some (.ref mm), some (.int (nI i))] [] h Q := by
  obtain ⟨vs, ho⟩ := st.obj
  have ri := st.2.1
  have ra := ri.1
  have i1 := vin (G := G) (n1 (i := i)) hL (by decide) hG
  have i2 := vin (G := G) (n2 (i := i)) hL (by decide) hG
  have i3 := vin (G := G) (n3 (i := i)) hL (by decide) hG
  have i4 := vin (G := G) (n4 (i := i)) hL (by decide) hG
  have i5 := vin (G := G) (n5 (i := i)) hL (by decide) hG
  have key : ∀ (u v s : Nat), u < 2 ^ 64 → v < 2 ^ 64 → s ≤ 1 → (∀ (h' : fp_H) (r : Int32), fp_wp G rm_L_law M_L_law 227 [some (.ref (G.2.2.2.1 2)), some (.ref o), some (.ref mm), some (.int (nI i))] [.int (nI s), .long (lN v), .long (lN u), .ref mm, .int r] h' Q → fp_wp G rm_L_law M_L_law 173 [some (.ref (G.2.2.2.1 2)), some (.ref o), some (.ref mm), some (.int (nI i))] [.int r] h' Q) → fp_wp G rm_L_law M_L_law 170 [some (.ref (G.2.2.2.1 2)), some (.ref o), some (.ref mm), some (.int (nI i))] [.int (nI s), .long (lN v), .long (lN u), .ref o] h Q := by
    intro u v s hu hv hs again
    refine wp_callV (As := [.long (lN u), .long (lN v), .int (nI s)]) (rest := []) dL_law_170 me_X10_field cw_L_23 rfl ⟨(Nat.le_of_ble_eq_true rfl), (Nat.le_of_ble_eq_true rfl)⟩ rfl rfl rfl (Nat.le_of_ble_eq_true rfl) ho (cp_field st.1 hu hv hs ra.2.2.1) (fun r h1 q => ?_)
    rcases q with ⟨q1, rfl, q2⟩ | ⟨q1, rfl, q2, q3⟩
    · subst q2
      refine fp_wp_h (h' := r_hp h1 mm p) st.2.2.1 ?_
      refine again _ _ ?_
      refine wp_callV (As := [.long (lN u), .long (lN v), .int (nI s)]) (rest := [_]) dL_law_227 me_X11_field cw_L_27 rfl ⟨(Nat.le_of_ble_eq_true rfl), (Nat.le_of_ble_eq_true rfl)⟩ rfl rfl rfl (Nat.le_of_ble_eq_true rfl) r_at_m (ct_field hu hv hs ra.2.2.1) (fun r h2 q => ?_)
      rcases q with ⟨-, rfl, rfl⟩ | ⟨q3, -⟩
      · refine wp_icmp_eq (tgt := 560) dL_law_230 rfl (fun c_230 => ?_) (fun c_230 => ?_)
        · exact nx _ p st.back
        · exact absurd rfl c_230
      · exact absurd q1 q3
    · obtain ⟨e1, e2⟩ := st.mid q3
      refine fp_wp_h (h' := r_hp h1 mm p) e1 ?_
      refine again _ _ ?_
      refine wp_callV (As := [.long (lN u), .long (lN v), .int (nI s)]) (rest := [_]) dL_law_227 me_X11_field cw_L_27 rfl ⟨(Nat.le_of_ble_eq_true rfl), (Nat.le_of_ble_eq_true rfl)⟩ rfl rfl rfl (Nat.le_of_ble_eq_true rfl) r_at_m (ct_field hu hv hs ra.2.2.1) (fun r h2 q => ?_)
      rcases q with ⟨q4, -⟩ | ⟨-, rfl, rfl⟩
      · exact absurd q4 q1
      · refine wp_icmp_eq (tgt := 560) dL_law_230 rfl (fun c_230 => ?_) (fun c_230 => ?_)
        · exact nx _ _ (ST.fin e1 e2 q2 (ri.field hu hv hs q1))
        · exact absurd rfl c_230
  refine wp_aload_n dL_law_116 rfl ?_
  refine wp_aload_n dL_law_117 rfl ?_
  refine wp_iload_n dL_law_118 rfl ?_
  refine wp_iconst (v := 1) dL_law_119 rfl ?_
  refine wp_iadd dL_law_120 ?_
  refine wp_ialdS dL_law_121 i1 ?_
  refine wp_i2l dL_law_122 ?_
  refine wp_bipush (v := 32) dL_law_123 rfl ?_
  refine wp_lshl dL_law_125 ?_
  refine wp_aload_n dL_law_126 rfl ?_
  refine wp_iload_n dL_law_127 rfl ?_
  refine wp_iconst (v := 2) dL_law_128 rfl ?_
  refine wp_iadd dL_law_129 ?_
  refine wp_ialdS dL_law_130 i2 ?_
  refine wp_i2l dL_law_131 ?_
  refine wp_ldc2 dL_law_132 kc_L_21 ?_
  refine wp_land dL_law_135 ?_
  refine wp_lor dL_law_136 ?_
  obtain ⟨u, hu, eu⟩ := lN_of ((G.2.2.2.2 (nI i + 1).toNatClampNeg).toInt64 <<< ((32 : Int32).toInt64 &&& 63) ||| (G.2.2.2.2 (nI i + 2).toNatClampNeg).toInt64 &&& 4294967295)
  rw [eu]
  refine wp_aload_n dL_law_137 rfl ?_
  refine wp_iload_n dL_law_138 rfl ?_
  refine wp_iconst (v := 3) dL_law_139 rfl ?_
  refine wp_iadd dL_law_140 ?_
  refine wp_ialdS dL_law_141 i3 ?_
  refine wp_i2l dL_law_142 ?_
  refine wp_bipush (v := 32) dL_law_143 rfl ?_
  refine wp_lshl dL_law_145 ?_
  refine wp_aload_n dL_law_146 rfl ?_
  refine wp_iload_n dL_law_147 rfl ?_
  refine wp_iconst (v := 4) dL_law_148 rfl ?_
  refine wp_iadd dL_law_149 ?_
  refine wp_ialdS dL_law_150 i4 ?_
  refine wp_i2l dL_law_151 ?_
  refine wp_ldc2 dL_law_152 kc_L_21 ?_
  refine wp_land dL_law_155 ?_
  refine wp_lor dL_law_156 ?_
  obtain ⟨v, hv, ev⟩ := lN_of ((G.2.2.2.2 (nI i + 3).toNatClampNeg).toInt64 <<< ((32 : Int32).toInt64 &&& 63) ||| (G.2.2.2.2 (nI i + 4).toNatClampNeg).toInt64 &&& 4294967295)
  rw [ev]
  refine wp_aload_n dL_law_157 rfl ?_
  refine wp_iload_n dL_law_158 rfl ?_
  refine wp_iconst (v := 5) dL_law_159 rfl ?_
  refine wp_iadd dL_law_160 ?_
  refine wp_ialdS dL_law_161 i5 ?_
  refine wp_if_eq (tgt := 169) dL_law_162 rfl (fun c_162 => ?_) (fun c_162 => ?_)
  · refine wp_iconst (v := 0) dL_law_169 rfl ?_
    refine key u v 0 hu hv (by decide) (fun h' r k => ?_)
    refine wp_aload_n dL_law_173 rfl ?_
    refine wp_aload_n dL_law_174 rfl ?_
    refine wp_iload_n dL_law_175 rfl ?_
    refine wp_iconst (v := 1) dL_law_176 rfl ?_
    refine wp_iadd dL_law_177 ?_
    refine wp_ialdS dL_law_178 i1 ?_
    refine wp_i2l dL_law_179 ?_
    refine wp_bipush (v := 32) dL_law_180 rfl ?_
    refine wp_lshl dL_law_182 ?_
    refine wp_aload_n dL_law_183 rfl ?_
    refine wp_iload_n dL_law_184 rfl ?_
    refine wp_iconst (v := 2) dL_law_185 rfl ?_
    refine wp_iadd dL_law_186 ?_
    refine wp_ialdS dL_law_187 i2 ?_
    refine wp_i2l dL_law_188 ?_
    refine wp_ldc2 dL_law_189 kc_L_21 ?_
    refine wp_land dL_law_192 ?_
    refine wp_lor dL_law_193 ?_
    rw [eu]
    refine wp_aload_n dL_law_194 rfl ?_
    refine wp_iload_n dL_law_195 rfl ?_
    refine wp_iconst (v := 3) dL_law_196 rfl ?_
    refine wp_iadd dL_law_197 ?_
    refine wp_ialdS dL_law_198 i3 ?_
    refine wp_i2l dL_law_199 ?_
    refine wp_bipush (v := 32) dL_law_200 rfl ?_
    refine wp_lshl dL_law_202 ?_
    refine wp_aload_n dL_law_203 rfl ?_
    refine wp_iload_n dL_law_204 rfl ?_
    refine wp_iconst (v := 4) dL_law_205 rfl ?_
    refine wp_iadd dL_law_206 ?_
    refine wp_ialdS dL_law_207 i4 ?_
    refine wp_i2l dL_law_208 ?_
    refine wp_ldc2 dL_law_209 kc_L_21 ?_
    refine wp_land dL_law_212 ?_
    refine wp_lor dL_law_213 ?_
    rw [ev]
    refine wp_aload_n dL_law_214 rfl ?_
    refine wp_iload_n dL_law_215 rfl ?_
    refine wp_iconst (v := 5) dL_law_216 rfl ?_
    refine wp_iadd dL_law_217 ?_
    refine wp_ialdS dL_law_218 i5 ?_
    refine wp_if_eq (tgt := 226) dL_law_219 rfl (fun c_219 => ?_) (fun c_219 => ?_)
    · refine wp_iconst (v := 0) dL_law_226 rfl ?_
      exact k
    · exact absurd c_162 c_219
  · refine wp_iconst (v := 1) dL_law_165 rfl ?_
    refine wp_goto (tgt := 170) dL_law_166 rfl ?_
    refine key u v 1 hu hv (by decide) (fun h' r k => ?_)
    refine wp_aload_n dL_law_173 rfl ?_
    refine wp_aload_n dL_law_174 rfl ?_
    refine wp_iload_n dL_law_175 rfl ?_
    refine wp_iconst (v := 1) dL_law_176 rfl ?_
    refine wp_iadd dL_law_177 ?_
    refine wp_ialdS dL_law_178 i1 ?_
    refine wp_i2l dL_law_179 ?_
    refine wp_bipush (v := 32) dL_law_180 rfl ?_
    refine wp_lshl dL_law_182 ?_
    refine wp_aload_n dL_law_183 rfl ?_
    refine wp_iload_n dL_law_184 rfl ?_
    refine wp_iconst (v := 2) dL_law_185 rfl ?_
    refine wp_iadd dL_law_186 ?_
    refine wp_ialdS dL_law_187 i2 ?_
    refine wp_i2l dL_law_188 ?_
    refine wp_ldc2 dL_law_189 kc_L_21 ?_
    refine wp_land dL_law_192 ?_
    refine wp_lor dL_law_193 ?_
    rw [eu]
    refine wp_aload_n dL_law_194 rfl ?_
    refine wp_iload_n dL_law_195 rfl ?_
    refine wp_iconst (v := 3) dL_law_196 rfl ?_
    refine wp_iadd dL_law_197 ?_
    refine wp_ialdS dL_law_198 i3 ?_
    refine wp_i2l dL_law_199 ?_
    refine wp_bipush (v := 32) dL_law_200 rfl ?_
    refine wp_lshl dL_law_202 ?_
    refine wp_aload_n dL_law_203 rfl ?_
    refine wp_iload_n dL_law_204 rfl ?_
    refine wp_iconst (v := 4) dL_law_205 rfl ?_
    refine wp_iadd dL_law_206 ?_
    refine wp_ialdS dL_law_207 i4 ?_
    refine wp_i2l dL_law_208 ?_
    refine wp_ldc2 dL_law_209 kc_L_21 ?_
    refine wp_land dL_law_212 ?_
    refine wp_lor dL_law_213 ?_
    rw [ev]
    refine wp_aload_n dL_law_214 rfl ?_
    refine wp_iload_n dL_law_215 rfl ?_
    refine wp_iconst (v := 5) dL_law_216 rfl ?_
    refine wp_iadd dL_law_217 ?_
    refine wp_ialdS dL_law_218 i5 ?_
    refine wp_if_eq (tgt := 226) dL_law_219 rfl (fun c_219 => ?_) (fun c_219 => ?_)
    · exact absurd c_219 c_162
    · refine wp_iconst (v := 1) dL_law_222 rfl ?_
      refine wp_goto (tgt := 227) dL_law_223 rfl ?_
      exact k
end LL
