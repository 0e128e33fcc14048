/-! Encoder: canInsert, insert, putField -/
theorem r_ev_tbes : ∀ (n : Nat) (p : rs) (size : Nat), (r_ev p size n).1 10 = tbes (p.2.2 3) (p.2.2 4) (p.1 0) size n (p.1 11) (p.1 10) := by
  intro n
  induction n with
  | zero => intro p size; rfl
  | succ n ih =>
    intro p size
    rw [r_ev, tbes]
    by_cases c : p.1 11 + size ≤ p.1 0
    · rw [if_pos c, if_pos c]
    · rw [if_neg c, if_neg c, ih]
      rfl
theorem r_ins_3 (p : rs) (u v i : Nat) : (r_ins p u v).2.2 3 i = if i = p.1 6 then u else p.2.2 3 i := by
  have e6 : (r_ev (r_lays p 0 (r_ib p u v)) (32 + bln u + bln v) (p.1 6 - p.1 10)).1 6 = p.1 6 := by rw [r_ev_k (by decide) (by decide), r_lays_k (by decide)]
  have : (r_ins p u v).2.2 3 i = if i = (r_ev (r_lays p 0 (r_ib p u v)) (32 + bln u + bln v) (p.1 6 - p.1 10)).1 6 then u else (r_ev (r_lays p 0 (r_ib p u v)) (32 + bln u + bln v) (p.1 6 - p.1 10)).2.2 3 i := by simp [r_ins, r_app, r_si, r_sa, r_sl]
  rw [this, e6, r_ev_a, r_lays_l]
theorem r_ins_4 (p : rs) (u v i : Nat) : (r_ins p u v).2.2 4 i = if i = p.1 6 then v else p.2.2 4 i := by
  have e6 : (r_ev (r_lays p 0 (r_ib p u v)) (32 + bln u + bln v) (p.1 6 - p.1 10)).1 6 = p.1 6 := by rw [r_ev_k (by decide) (by decide), r_lays_k (by decide)]
  have : (r_ins p u v).2.2 4 i = if i = (r_ev (r_lays p 0 (r_ib p u v)) (32 + bln u + bln v) (p.1 6 - p.1 10)).1 6 then v else (r_ev (r_lays p 0 (r_ib p u v)) (32 + bln u + bln v) (p.1 6 - p.1 10)).2.2 4 i := by simp [r_ins, r_app, r_si, r_sa, r_sl]
  rw [this, e6, r_ev_a, r_lays_l]
theorem r_ins_10 (p : rs) (u v : Nat) : (r_ins p u v).1 10 = tbes (p.2.2 3) (p.2.2 4) (p.1 0) (32 + bln u + bln v) (p.1 6 - p.1 10) (p.1 11) (p.1 10) := by
  have : (r_ins p u v).1 10 = (r_ev (r_lays p 0 (r_ib p u v)) (32 + bln u + bln v) (p.1 6 - p.1 10)).1 10 := by simp [r_ins, r_app, r_si, r_sa, r_sl]
  rw [this, r_ev_tbes, r_lays_l, r_lays_k (show 0 ≠ r_wc 0 by decide), r_lays_k (show 11 ≠ r_wc 0 by decide), r_lays_k (show 10 ≠ r_wc 0 by decide)]
theorem r_ins_w (p : rs) (u v : Nat) : wlx (r_ins p u v) 13 6 = wlx p 13 6 ++ r_ib p u v := by
  have e : wlx (r_ins p u v) 13 6 = wlx (r_lays p 0 (r_ib p u v)) 13 6 := by
    unfold wlx
    have e1 : (r_ins p u v).1 13 = (r_lays p 0 (r_ib p u v)).1 13 := by
      have : (r_ins p u v).1 13 = (r_ev (r_lays p 0 (r_ib p u v)) (32 + bln u + bln v) (p.1 6 - p.1 10)).1 13 := by simp [r_ins, r_app, r_si, r_sa, r_sl]
      rw [this, r_ev_k (by decide) (by decide)]
    have e2 : (r_ins p u v).2.1 6 = (r_lays p 0 (r_ib p u v)).2.1 6 := by
      have : (r_ins p u v).2.1 6 = (r_ev (r_lays p 0 (r_ib p u v)) (32 + bln u + bln v) (p.1 6 - p.1 10)).2.1 6 := by funext i; simp [r_ins, r_app, r_si, r_sa, r_sl]
      rw [this, r_ev_a]
    rw [e1, e2]
  rw [e]
  exact wlx_lays 0 _ p
theorem r_ins_13 (p : rs) (u v : Nat) : (r_ins p u v).1 13 = p.1 13 + (r_ib p u v).length := by
  have := congrArg List.length (r_ins_w p u v)
  rw [wlx_len, List.length_append, wlx_len] at this
  exact this
section CE
variable {G : fp_G} {h : fp_H} {en tb op ln wr cO : Nat} {oa : Nat → Nat} {p : rs} {base : Nat} {rk : Bool} {cW cL : Nat}
theorem ce_can {fa u v s : Nat} (m : EM G h en tb op ln wr cO oa p base rk cW cL) (hfa : h.1 fa = some (9, fO u v s)) (ok : rok p) (hu : u < 2 ^ 64) (hv : v < 2 ^ 64) (hI : r_I p) (hc : p.1 28 < 200) : fp_ct G rm_X2_canInsert M_X2_canInsert [.ref en, .ref fa] h (fun r h' => h' = h ∧ r = some (.int (nI (b2n (r_may p (32 + bln u + bln v)))))) := by
  have m1 := m.1
  obtain ⟨n1, n2, n3, f1, f2, f3, a1, -⟩ := m.2.1.ex
  have hcap := m.2.1.hcap
  have hF := m.2.1.hF
  have hC := m.2.1.hC
  have iff := r_may_iff (size := 32 + bln u + bln v) hI hc hF hC (by rw [r_sum_tsum]; exact m.2.1.hS)
  have bu := bln_le u
  have bv := bln_le v
  refine fp_meth pn_X2 (Nat.le_of_ble_eq_true rfl) rfl ?_
  refine wp_aload_n dX2_canInsert_0 rfl ?_
  refine wp_getf dX2_canInsert_1 fl_X2_100 hfa rfl ?_
  refine wp_aload_n dX2_canInsert_4 rfl ?_
  refine wp_getf dX2_canInsert_5 fl_X2_112 hfa rfl ?_
  refine wp_callSN (As := [.long (lN u), .long (lN v)]) (rest := []) dX2_canInsert_8 me_X10_sizeOf cw_X2_166 ⟨(Nat.le_of_ble_eq_true rfl), (Nat.le_of_ble_eq_true rfl)⟩ rfl rfl rfl (Nat.le_of_ble_eq_true rfl) (cc_sizeOf hu hv) (fun r h1 q => ?_)
  obtain ⟨rfl, rfl⟩ := q
  refine wp_istore_n dX2_canInsert_11 (Nat.le_of_ble_eq_true rfl) rfl ?_
  refine wp_iload_n dX2_canInsert_12 rfl ?_
  refine wp_aload_n dX2_canInsert_13 rfl ?_
  refine wp_getf dX2_canInsert_14 fl_X2_14 m1 rfl ?_
  refine wp_getf dX2_canInsert_17 fl_X2_94 a1 rfl ?_
  refine wp_icmp_gt (tgt := 42) dX2_canInsert_20 rfl (fun c_20 => ?_) (fun c_20 => ?_)
  · have hgt : p.1 0 < 32 + bln u + bln v := (nI_ltI (by omega) (by omega)).mp c_20
    refine wp_iconst (v := 0) dX2_canInsert_42 rfl ?_
    refine wp_iret dX2_canInsert_43 rfl rfl ?_
    refine ⟨rfl, ?_⟩
    cases hm : r_may p (32 + bln u + bln v) with
    | false => rfl
    | true => have := (iff.mp hm).1; omega
  · have hle : 32 + bln u + bln v ≤ p.1 0 := by
      rcases Nat.lt_or_ge (p.1 0) (32 + bln u + bln v) with q | q
      · exact absurd (nI_lt q (by omega)) c_20
      · exact q
    have hK := (tbes_spec (p.2.2 3) (p.2.2 4) (p.1 0) (32 + bln u + bln v) (p.1 6 - p.1 10) (p.1 10) (p.1 11) m.2.1.hS).2.1
    refine wp_aload_n dX2_canInsert_23 rfl ?_
    refine wp_getf dX2_canInsert_24 fl_X2_14 m1 rfl ?_
    refine wp_iload_n dX2_canInsert_27 rfl ?_
    refine wp_callV (As := [.int (nI (32 + bln u + bln v))]) (rest := []) dX2_canInsert_28 me_X8_firstBeside cw_X2_169 rfl ⟨(Nat.le_of_ble_eq_true rfl), (Nat.le_of_ble_eq_true rfl)⟩ rfl rfl rfl (Nat.le_of_ble_eq_true rfl) a1 (cc_beside m.2.1 (by omega)) (fun r h2 q => ?_)
    obtain ⟨rfl, rfl⟩ := q
    generalize tbes (p.2.2 3) (p.2.2 4) (p.1 0) (32 + bln u + bln v) (p.1 6 - p.1 10) (p.1 11) (p.1 10) = K at iff hK ⊢
    refine wp_aload_n dX2_canInsert_31 rfl ?_
    refine wp_callV (As := []) (rest := [.int (nI K)]) dX2_canInsert_32 me_X2_firstBusy cw_X2_173 rfl ⟨(Nat.le_of_ble_eq_true rfl), (Nat.le_of_ble_eq_true rfl)⟩ rfl rfl rfl (Nat.le_of_ble_eq_true rfl) m1 (ce_busy m ok) (fun r h3 q => ?_)
    obtain ⟨rfl, rfl⟩ := q
    have hfb : r_fb p < 2 ^ 31 := fmin_lt (by have := ok.1 12; omega)
    refine wp_icmp_gt (tgt := 42) dX2_canInsert_35 rfl (fun c_35 => ?_) (fun c_35 => ?_)
    · have hgt : r_fb p < K := (nI_ltI hfb (by omega)).mp c_35
      refine wp_iconst (v := 0) dX2_canInsert_42 rfl ?_
      refine wp_iret dX2_canInsert_43 rfl rfl ?_
      refine ⟨rfl, ?_⟩
      cases hm : r_may p (32 + bln u + bln v) with
      | false => rfl
      | true => have := (iff.mp hm).2; omega
    · have hle2 : K ≤ r_fb p := by
        rcases Nat.lt_or_ge (r_fb p) K with q | q
        · exact absurd (nI_lt q (by omega)) c_35
        · exact q
      refine wp_iconst (v := 1) dX2_canInsert_38 rfl ?_
      refine wp_goto (tgt := 43) dX2_canInsert_39 rfl ?_
      refine wp_iret dX2_canInsert_43 rfl rfl ?_
      refine ⟨rfl, ?_⟩
      rw [iff.mpr ⟨hle, hle2⟩]
      rfl
theorem ce_ins {fa u v s a b : Nat} (m : EM G h en tb op ln wr cO oa p base rk cW cL) (hfa : h.1 fa = some (9, fO u v s)) (hJ : r_J p a b) (ha : a < 12) (hu : u < 2 ^ 64) (hv : v < 2 ^ 64) (hfit : 32 + bln u + bln v ≤ p.1 0) : fp_ct G rm_X2_insert M_X2_insert [.ref en, .ref fa, .int (oI (fxn u)), .ref wr] h (eP G h en tb op ln wr cO oa (r_ins p u v) base rk cW cL) := by
  obtain ⟨m1, m2, m3, m4, m5, m6, m7⟩ := m
  obtain ⟨n1, n2, n3, f1, f2, f3, a1, -⟩ := m2.ex
  obtain ⟨r0, f0, k1, -⟩ := id m3
  have hC := m2.hC
  obtain ⟨ok, j28, -, -, j10, j6, j11, -, -, j13, -⟩ := id hJ
  have hJ' := hJ.ins ha hu hv hfit
  have hw13 : p.1 13 ≤ 50000 := by omega
  have hil := r_ib_len p u v
  have bu := bln_le u
  -- the last two steps
  have fin : ∀ (A : List Nat) (h1 : fp_H) (x : Int32) (r1 : Option Value), bP h 10 wr (wlx p 13 6 ++ A) cW r1 h1 → A ++ (nb 0 7 (bln v) ++ txb v) = r_ib p u v → fp_wp G rm_X2_insert M_X2_insert 72 [some (.ref en), some (.ref fa), some (.int (oI (fxn u))), some (.ref wr), some (.int x)] [] h1 (eP G h en tb op ln wr cO oa (r_ins p u v) base rk cW cL) := by
    intro A h1 x r1 b1 hA
    obtain ⟨-, cW1, q1, q2, q3, q4, q5⟩ := b1
    obtain ⟨r2, f2', g1, -⟩ := id q1
    have hAl : A.length ≤ 18 := by have := congrArg List.length hA; rw [List.length_append] at this; omega
    refine wp_aload_n dX2_insert_72 rfl ?_
    refine wp_iconst (v := 0) dX2_insert_73 rfl ?_
    refine wp_bipush (v := 7) dX2_insert_74 rfl ?_
    refine wp_aload_n dX2_insert_76 rfl ?_
    refine wp_getf dX2_insert_77 fl_X2_112 (q4.at hfa (by decide)) rfl ?_
    refine wp_callV (As := [.int (nI 0), .int (nI 7), .long (lN v)]) (rest := []) dX2_insert_80 me_X0_putText cw_X2_150 rfl ⟨(Nat.le_of_ble_eq_true rfl), (Nat.le_of_ble_eq_true rfl)⟩ rfl rfl rfl (Nat.le_of_ble_eq_true rfl) g1 (cc_putText (q4.wf m7) q1 (by rw [List.length_append, wlx_len]; omega) (by decide) (or0 7) hv) (fun r h2 z => ?_)
    rw [List.append_assoc, hA] at z
    obtain ⟨rfl, cW2, z1, z2, z3, z4, z5⟩ := z
    have c2 : cf (fun x => x = 10) h h2 := q4.trans z4
    have t2 := m2.kept c2 (by decide)
    have hfa2 := c2.at hfa (by decide)
    refine wp_aload_n dX2_insert_83 rfl ?_
    refine wp_getf dX2_insert_84 fl_X2_14 (c2.at m1 (by decide)) rfl ?_
    refine wp_aload_n dX2_insert_87 rfl ?_
    refine wp_getf dX2_insert_88 fl_X2_100 hfa2 rfl ?_
    refine wp_aload_n dX2_insert_91 rfl ?_
    refine wp_getf dX2_insert_92 fl_X2_112 hfa2 rfl ?_
    refine wp_callV (As := [.long (lN u), .long (lN v)]) (rest := []) dX2_insert_95 me_X8_insert cw_X2_177 rfl ⟨(Nat.le_of_ble_eq_true rfl), (Nat.le_of_ble_eq_true rfl)⟩ rfl rfl rfl (Nat.le_of_ble_eq_true rfl) (c2.at a1 (by decide)) (cc_insert (nm' := (r_ins p u v).2.2 3) (vl' := (r_ins p u v).2.2 4) t2 hu hv hfit (by omega) ⟨by rw [r_ins_3, if_pos rfl], by rw [r_ins_4, if_pos rfl]⟩ (fun j hj => ⟨by rw [r_ins_3, if_neg (by omega)], by rw [r_ins_4, if_neg (by omega)]⟩)) (fun r h3 y => ?_)
    obtain ⟨rfl, y1, y2, y3⟩ := y
    refine wp_vret dX2_insert_98 rfl ?_
    have c3 : cf eS h h3 := (c2.mono (fun t ht => Or.inr (Or.inl ht))).trans (y2.mono (fun t ht => Or.inr (Or.inr (Or.inr ht))))
    have c3' : cf (fun x => x = 10 ∨ x = 15) h h3 := (c2.mono (fun t ht => Or.inl ht)).trans (y2.mono (fun t ht => Or.inr ht))
    have k0 : (r_ins p u v).1 0 = p.1 0 := r_ins_k (by decide) (by decide) (by decide) (by decide)
    have k1' : (r_ins p u v).1 1 = p.1 1 := r_ins_k (by decide) (by decide) (by decide) (by decide)
    have k12 : (r_ins p u v).1 12 = p.1 12 := r_ins_k (by decide) (by decide) (by decide) (by decide)
    have k28 : (r_ins p u v).1 28 = p.1 28 := r_ins_k (by decide) (by decide) (by decide) (by decide)
    have k44 : (r_ins p u v).1 44 = p.1 44 := r_ins_k (by decide) (by decide) (by decide) (by decide)
    have i11 : (r_ins p u v).2.1 11 = p.2.1 11 := r_ins_a (by decide) (by decide)
    have i12 : (r_ins p u v).2.1 12 = p.2.1 12 := r_ins_a (by decide) (by decide)
    have i13 : (r_ins p u v).2.1 13 = p.2.1 13 := r_ins_a (by decide) (by decide)
    have i19 : (r_ins p u v).2.1 19 = p.2.1 19 := r_ins_a (by decide) (by decide)
    have i20 : (r_ins p u v).2.1 20 = p.2.1 20 := r_ins_a (by decide) (by decide)
    have i25 : (r_ins p u v).2.1 25 = p.2.1 25 := r_ins_a (by decide) (by decide)
    have eop : opn (r_ins p u v) = opn p := by simp only [opn, k28, i13]
    have eo : eO (r_ins p u v) base rk tb op ln = eO p base rk tb op ln := by simp only [eO, lea, k1', k12, k28, i12, i19, i20]
    have eoo : ∀ k, oO (r_ins p u v) k = oO p k := fun k => by simp only [oO, lea, i11, i12, i19, i20]
    have ew : wlx (r_ins p u v) 44 25 = wlx p 44 25 := by simp only [wlx, k44, i25]
    refine ⟨rfl, cW2, cL, ⟨by rw [eo]; exact c3'.at m1 (by decide), ?_, by rw [r_ins_w]; exact z1.kept y2 (by decide), by rw [ew]; exact m4.kept c3' (by decide), by rw [eop]; exact m5.kept c3' (by decide), fun k hk => by rw [eoo]; rw [eop] at hk; exact c3'.at (m6 k hk) (by decide), c3.wf m7⟩, by omega, Nat.le_refl _, ?_, Nat.le_max_left _ _, c3, ?_⟩
    · have e7 := hJ'.2.2.2.2.2.2.1
      rw [r_sum_tsum] at e7
      rw [k0, e7, r_ins_10, r_ins_6]
      exact y1
    · rw [List.length_append, wlx_len] at z3 q3
      rw [r_ins_13]
      have := congrArg List.length hA
      rw [List.length_append] at this
      omega
    · rw [y3]
      omega
  refine fp_meth pn_X2 (Nat.le_of_ble_eq_true rfl) rfl ?_
  have hoI : oI (fxn u) = -1 ↔ fxn u = none := oI_m1 (fun k hk => by have := fxn_some hk; omega)
  have hoL : oI (r_last p u 0 false) = -1 ↔ r_last p u 0 false = none := oI_m1 (fun k hk => by have := r_lastTo_some hk; omega)
  have el := fun c => (r_last_tlast p u 0 false c)
  refine wp_aload_n dX2_insert_0 rfl ?_
  refine wp_getf dX2_insert_1 fl_X2_14 m1 rfl ?_
  refine wp_aload_n dX2_insert_4 rfl ?_
  refine wp_getf dX2_insert_5 fl_X2_100 hfa rfl ?_
  refine wp_callV (As := [.long (lN u)]) (rest := []) dX2_insert_8 me_X8_lastNamed cw_X2_143 rfl ⟨(Nat.le_of_ble_eq_true rfl), (Nat.le_of_ble_eq_true rfl)⟩ rfl rfl rfl (Nat.le_of_ble_eq_true rfl) a1 (cc_lastNamed m2 hu) (fun r h1 q => ?_)
  obtain ⟨q0, rfl⟩ := q
  rw [q0, ← el]
  refine wp_istore dX2_insert_11 (Nat.le_of_ble_eq_true rfl) rfl ?_
  refine wp_iload_n dX2_insert_13 rfl ?_
  refine wp_iconst (v := (-1)) dX2_insert_14 rfl ?_
  refine wp_icmp_eq (tgt := 31) dX2_insert_15 rfl (fun c_15 => ?_) (fun c_15 => ?_)
  · have hx := hoI.mp c_15
    rw [hx] at fin ⊢
    refine wp_iload dX2_insert_31 rfl ?_
    refine wp_iconst (v := (-1)) dX2_insert_33 rfl ?_
    refine wp_icmp_eq (tgt := 61) dX2_insert_34 rfl (fun c_34 => ?_) (fun c_34 => ?_)
    · have hy : r_last p u 0 false = none := hoL.mp c_34
      refine wp_aload_n dX2_insert_61 rfl ?_
      refine wp_bipush (v := 64) dX2_insert_62 rfl ?_
      refine wp_iconst (v := 5) dX2_insert_64 rfl ?_
      refine wp_aload_n dX2_insert_65 rfl ?_
      refine wp_getf dX2_insert_66 fl_X2_100 hfa rfl ?_
      refine wp_callV (As := [.int (nI 64), .int (nI 5), .long (lN u)]) (rest := []) dX2_insert_69 me_X0_putText cw_X2_150 rfl ⟨(Nat.le_of_ble_eq_true rfl), (Nat.le_of_ble_eq_true rfl)⟩ rfl rfl rfl (Nat.le_of_ble_eq_true rfl) k1 (cc_putText m7 m3 (by rw [wlx_len]; omega) (by decide) (by decide +kernel) hu) (fun r h2 z => ?_)
      obtain ⟨rfl, -⟩ := id z
      exact fin _ h2 _ none z (by rw [r_ib, hx, hy])
    · cases hy : r_last p u 0 false with
      | none =>
        have : oI (r_lastTo p u 0 false (p.1 6)) = -1 := hoL.mpr hy
        exact absurd this c_34
      | some j =>
        have hj := r_lastTo_some hy
        have hy2 : r_lastTo p u 0 false (p.1 6) = some j := hy
        rw [hy2]
        refine wp_aload_n dX2_insert_37 rfl ?_
        refine wp_sipush (v := 128) dX2_insert_38 rfl ?_
        refine wp_bipush (v := 6) dX2_insert_41 rfl ?_
        refine wp_aload_n dX2_insert_43 rfl ?_
        refine wp_getf dX2_insert_44 fl_X2_14 m1 rfl ?_
        refine wp_getf dX2_insert_47 fl_X2_41 a1 rfl ?_
        refine wp_iconst (v := 1) dX2_insert_50 rfl ?_
        refine wp_isub dX2_insert_51 ?_
        refine wp_iload dX2_insert_52 rfl ?_
        refine wp_isub dX2_insert_54 ?_
        rw [nI_sub1 (by omega)]
        rw [show nI (p.1 6 - 1) - oI (some j) = nI (p.1 6 - 1 - j) from pk_sub (by omega)]
        refine wp_callV (As := [.int (nI 128), .int (nI 6), .int (nI (p.1 6 - 1 - j))]) (rest := []) dX2_insert_55 me_X0_putNumber cw_X2_97 rfl ⟨(Nat.le_of_ble_eq_true rfl), (Nat.le_of_ble_eq_true rfl)⟩ rfl rfl rfl (Nat.le_of_ble_eq_true rfl) k1 (cc_putNumber m7 m3 (by rw [wlx_len]; omega) (by decide) (by decide +kernel) (by omega)) (fun r h2 z => ?_)
        obtain ⟨rfl, -⟩ := id z
        refine wp_goto (tgt := 72) dX2_insert_58 rfl ?_
        exact fin _ h2 _ none z (by rw [r_ib, hx, hy])
  · cases hx : fxn u with
    | none => rw [hx] at c_15; exact absurd rfl c_15
    | some k =>
      have hk := fxn_some hx
      rw [hx] at fin
      refine wp_aload_n dX2_insert_18 rfl ?_
      refine wp_sipush (v := 192) dX2_insert_19 rfl ?_
      refine wp_bipush (v := 6) dX2_insert_22 rfl ?_
      refine wp_iload_n dX2_insert_24 rfl ?_
      refine wp_callV (As := [.int (nI 192), .int (nI 6), .int (nI k)]) (rest := []) dX2_insert_25 me_X0_putNumber cw_X2_97 rfl ⟨(Nat.le_of_ble_eq_true rfl), (Nat.le_of_ble_eq_true rfl)⟩ rfl rfl rfl (Nat.le_of_ble_eq_true rfl) k1 (cc_putNumber m7 m3 (by rw [wlx_len]; omega) (by decide) (by decide +kernel) (by omega)) (fun r h2 z => ?_)
      obtain ⟨rfl, -⟩ := id z
      refine wp_goto (tgt := 72) dX2_insert_28 rfl ?_
      exact fin _ h2 _ none z (by rw [r_ib, hx])
end CE
