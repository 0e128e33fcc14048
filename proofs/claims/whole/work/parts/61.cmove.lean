/-! FieldPack: move -/
theorem lyl_dec {p : rs} {s k : Nat} {l : List Nat} (hl : lyl p s 1 = k :: l) : lyl (r_dec p k) s 1 = l := by
  refine lyl_drop hl (r_dec_k (by decide) (by decide) (by decide)) (fun i hi => ?_)
  rw [r_dec_a (show 11 ≠ 7 by decide) (by decide) (by decide) (by decide) (by decide), r_dec_14]
  by_cases e : i = k
  · subst e; simp
  · simp only [if_neg e]; exact ⟨fun z => ⟨z, e⟩, fun z => z.1⟩
theorem OR.low {p : rs} {s k : Nat} {l : List Nat} (o : OR p) (hl : lyl p s 1 = k :: l) : ∀ j, j < k → p.2.1 11 j = p.2.1 11 k → 2 ≤ p.2.1 14 j := by
  obtain ⟨hk, hks, hk1, hkm⟩ := lyl_rest hl
  intro j hj hjs
  rcases Nat.lt_or_ge (p.2.1 14 j) 2 with q | q
  · have h1 := o j k hj hk hjs q
    have : p.2.1 14 j = 1 := by omega
    have := hkm j (by omega) (by rw [hjs, hks]) this
    omega
  · exact q
theorem OR.rel {s : Nat} : ∀ (l : List Nat) (p : rs), lyl p s 1 = l → OR p → OR (r_rel l p) := by
  intro l
  induction l with
  | nil => intro p _ o; exact o
  | cons k l ih =>
    intro p hl o
    rw [r_rel]
    split
    · exact o
    · obtain ⟨hk, hks, hk1, hkm⟩ := lyl_rest hl
      exact ih _ (lyl_dec hl) (o.dec hk hk1 (o.low hl))
theorem OR.goOn {p : rs} {s : Nat} (o : OR p) : OR (r_goOn p s) := by
  rw [r_goOn_rel]
  exact OR.rel _ p rfl o
theorem SEC.eqs {p q : rs} {k : Nat} (x : SEC p k) (e0 : q.1 0 = p.1 0) (ea : ∀ j, (j = 11 ∨ j = 12 ∨ j = 15 ∨ j = 18 ∨ j = 19 ∨ j = 20 ∨ j = 21 ∨ j = 22 ∨ j = 23) → q.2.1 j = p.2.1 j) (el : q.2.2 = p.2.2) : SEC q k := by
  have es : sbt q k = sbt p k := by unfold sbt; rw [ea 22 (by omega), ea 21 (by omega), ea 23 (by omega)]
  have ec : cdo q k = cdo p k := by unfold cdo; rw [ea 12 (by omega), e0]
  have er : isref q k = isref p k := by unfold isref; rw [ea 19 (by omega), ea 20 (by omega)]
  unfold SEC at *
  rw [es, ec, er, e0, el, ea 12 (by omega), ea 15 (by omega), ea 18 (by omega), ea 11 (by omega)]
  exact x
theorem RD.eqs {p q : rs} {k : Nat} (x : RD p k) (e25 : q.1 25 = p.1 25) (ea : ∀ j, (j = 12 ∨ j = 19 ∨ j = 20) → q.2.1 j = p.2.1 j) : RD q k := by
  unfold RD isref at *
  rw [e25, ea 12 (by omega), ea 19 (by omega), ea 20 (by omega)]
  exact x
theorem r_hears_k : ∀ (n : Nat) (p : rs), (∀ x, x ≠ 12 → x ≠ 23 → (r_hears n p).1 x = p.1 x) ∧ (∀ j, j ≠ 13 → (r_hears n p).2.1 j = p.2.1 j) ∧ (r_hears n p).2.2 = p.2.2 := by
  intro n
  induction n with
  | zero => intro p; exact ⟨fun _ _ _ => rfl, fun _ _ => rfl, rfl⟩
  | succ n ih =>
    intro p
    rw [r_hears]
    split
    · obtain ⟨a, b, c⟩ := r_hear_hk p (p.2.1 8 (p.1 23)) (p.2.1 9 (p.1 23))
      obtain ⟨a', b', c'⟩ := ih (r_hear1 p)
      refine ⟨fun x h1 h2 => (a' x h1 h2).trans ?_, fun j hj => (b' j hj).trans (b j hj), c'.trans c⟩
      have : (r_hear1 p).1 x = (r_hear p (p.2.1 8 (p.1 23)) (p.2.1 9 (p.1 23))).1 x := by simp [r_hear1, r_si, h2]
      rw [this]
      exact a x h1
    · exact ⟨fun _ _ _ => rfl, fun _ _ => rfl, rfl⟩
theorem dX10_move_0 : decode cX10_move 0 = .ok (.iload_n 1, 1) := by decide +kernel
theorem dX10_move_1 : decode cX10_move 1 = .ok (.ifCond .lt 19, 3) := by decide +kernel
theorem dX10_move_4 : decode cX10_move 4 = .ok (.iload_n 1, 1) := by decide +kernel
theorem dX10_move_5 : decode cX10_move 5 = .ok (.iconst 1, 1) := by decide +kernel
theorem dX10_move_6 : decode cX10_move 6 = .ok (.if_icmp .gt 14, 3) := by decide +kernel
theorem dX10_move_9 : decode cX10_move 9 = .ok (.iload_n 2, 1) := by decide +kernel
theorem dX10_move_10 : decode cX10_move 10 = .ok (.ifCond .lt 10, 3) := by decide +kernel
theorem dX10_move_13 : decode cX10_move 13 = .ok (.iload_n 2, 1) := by decide +kernel
theorem dX10_move_14 : decode cX10_move 14 = .ok (.sipush 6000, 3) := by decide +kernel
theorem dX10_move_17 : decode cX10_move 17 = .ok (.if_icmp .le 5, 3) := by decide +kernel
theorem dX10_move_20 : decode cX10_move 20 = .ok (.iconst (-1), 1) := by decide +kernel
theorem dX10_move_21 : decode cX10_move 21 = .ok (.ireturn, 1) := by decide +kernel
theorem dX10_move_22 : decode cX10_move 22 = .ok (.iload_n 1, 1) := by decide +kernel
theorem dX10_move_23 : decode cX10_move 23 = .ok (.ifCond .ne 14, 3) := by decide +kernel
theorem dX10_move_26 : decode cX10_move 26 = .ok (.aload_n 0, 1) := by decide +kernel
theorem dX10_move_27 : decode cX10_move 27 = .ok (.getfield 21, 3) := by decide +kernel
theorem dX10_move_30 : decode cX10_move 30 = .ok (.iload_n 2, 1) := by decide +kernel
theorem dX10_move_31 : decode cX10_move 31 = .ok (.invokevirtual 110, 3) := by decide +kernel
theorem dX10_move_34 : decode cX10_move 34 = .ok (.goto 11, 3) := by decide +kernel
theorem dX10_move_37 : decode cX10_move 37 = .ok (.aload_n 0, 1) := by decide +kernel
theorem dX10_move_38 : decode cX10_move 38 = .ok (.getfield 25, 3) := by decide +kernel
theorem dX10_move_41 : decode cX10_move 41 = .ok (.iload_n 2, 1) := by decide +kernel
theorem dX10_move_42 : decode cX10_move 42 = .ok (.invokevirtual 110, 3) := by decide +kernel
theorem dX10_move_45 : decode cX10_move 45 = .ok (.istore_n 3, 1) := by decide +kernel
theorem dX10_move_46 : decode cX10_move 46 = .ok (.iload_n 1, 1) := by decide +kernel
theorem dX10_move_47 : decode cX10_move 47 = .ok (.iconst 1, 1) := by decide +kernel
theorem dX10_move_48 : decode cX10_move 48 = .ok (.if_icmp .ne 19, 3) := by decide +kernel
theorem dX10_move_51 : decode cX10_move 51 = .ok (.aload_n 0, 1) := by decide +kernel
theorem dX10_move_52 : decode cX10_move 52 = .ok (.getfield 33, 3) := by decide +kernel
theorem dX10_move_55 : decode cX10_move 55 = .ok (.aload_n 0, 1) := by decide +kernel
theorem dX10_move_56 : decode cX10_move 56 = .ok (.getfield 25, 3) := by decide +kernel
theorem dX10_move_59 : decode cX10_move 59 = .ok (.getfield 114, 3) := by decide +kernel
theorem dX10_move_62 : decode cX10_move 62 = .ok (.invokevirtual 118, 3) := by decide +kernel
theorem dX10_move_65 : decode cX10_move 65 = .ok (.iload_n 3, 1) := by decide +kernel
theorem dX10_move_66 : decode cX10_move 66 = .ok (.ireturn, 1) := by decide +kernel
theorem dX10_move_67 : decode cX10_move 67 = .ok (.aload_n 0, 1) := by decide +kernel
theorem dX10_move_68 : decode cX10_move 68 = .ok (.getfield 42, 3) := by decide +kernel
theorem dX10_move_71 : decode cX10_move 71 = .ok (.aload_n 0, 1) := by decide +kernel
theorem dX10_move_72 : decode cX10_move 72 = .ok (.getfield 21, 3) := by decide +kernel
theorem dX10_move_75 : decode cX10_move 75 = .ok (.getfield 114, 3) := by decide +kernel
theorem dX10_move_78 : decode cX10_move 78 = .ok (.invokevirtual 122, 3) := by decide +kernel
theorem dX10_move_81 : decode cX10_move 81 = .ok (.iconst 0, 1) := by decide +kernel
theorem dX10_move_82 : decode cX10_move 82 = .ok (.istore 4, 2) := by decide +kernel
theorem dX10_move_84 : decode cX10_move 84 = .ok (.iload 4, 2) := by decide +kernel
theorem dX10_move_86 : decode cX10_move 86 = .ok (.bipush 8, 2) := by decide +kernel
theorem dX10_move_88 : decode cX10_move 88 = .ok (.if_icmp .ge 30, 3) := by decide +kernel
theorem dX10_move_91 : decode cX10_move 91 = .ok (.aload_n 0, 1) := by decide +kernel
theorem dX10_move_92 : decode cX10_move 92 = .ok (.getfield 42, 3) := by decide +kernel
theorem dX10_move_95 : decode cX10_move 95 = .ok (.aload_n 0, 1) := by decide +kernel
theorem dX10_move_96 : decode cX10_move 96 = .ok (.getfield 48, 3) := by decide +kernel
theorem dX10_move_99 : decode cX10_move 99 = .ok (.iload 4, 2) := by decide +kernel
theorem dX10_move_101 : decode cX10_move 101 = .ok (.aaload, 1) := by decide +kernel
theorem dX10_move_102 : decode cX10_move 102 = .ok (.aload_n 0, 1) := by decide +kernel
theorem dX10_move_103 : decode cX10_move 103 = .ok (.getfield 25, 3) := by decide +kernel
theorem dX10_move_106 : decode cX10_move 106 = .ok (.getfield 95, 3) := by decide +kernel
theorem dX10_move_109 : decode cX10_move 109 = .ok (.invokevirtual 125, 3) := by decide +kernel
theorem dX10_move_112 : decode cX10_move 112 = .ok (.iinc 4 1, 3) := by decide +kernel
theorem dX10_move_115 : decode cX10_move 115 = .ok (.goto (-31), 3) := by decide +kernel
theorem dX10_move_118 : decode cX10_move 118 = .ok (.iload_n 3, 1) := by decide +kernel
theorem dX10_move_119 : decode cX10_move 119 = .ok (.ireturn, 1) := by decide +kernel
section CP
variable {G : fp_G} {h : fp_H} {o : Nat} {A la : Nat → Nat} {p : rs} {B c : Nat}
theorem cw_bring {w b r t tb e cap n : Nat} {xs : List Nat} {s : Nat × Bool} (hw : h.1 w = some (9, .inr (10, [.ref b, .ref r]))) (hb : byt h tb b xs cap) (hr : h.1 r = some (t, rc b e s)) (he : e ≤ xs.length) (hl : xs.length < 2 ^ 20) (hn : n < 2 ^ 30) : fp_ct G rm_X9_bring M_X9_bring [.ref w, .int (nI n)] h (fun r' h' => r' = some (.int (nI (min (xs.length - e) n))) ∧ h' = fp_put h r t (rc b (e + min (xs.length - e) n) s)) := by
  refine fp_meth pn_X9 (Nat.le_of_ble_eq_true rfl) rfl ?_
  refine wp_iload_n dX9_bring_0 rfl ?_
  refine wp_aload_n dX9_bring_1 rfl ?_
  refine wp_callV (As := []) (rest := [.int (nI n)]) dX9_bring_2 me_X9_left cw_X9_36 rfl ⟨(Nat.le_of_ble_eq_true rfl), (Nat.le_of_ble_eq_true rfl)⟩ rfl rfl rfl (Nat.le_of_ble_eq_true rfl) hw (cw_left hw hb hr he) (fun r1 h1 q => ?_)
  obtain ⟨q0, rfl⟩ := q
  rw [q0]
  refine wp_callS (As := [.int (nI n), .int (nI (xs.length - e))]) (rest := []) dX9_bring_5 me_J9_min_7cf53 cw_X9_44 ⟨(Nat.le_of_ble_eq_true rfl), (Nat.le_of_ble_eq_true rfl)⟩ rfl rfl rfl (Nat.le_of_ble_eq_true rfl) (ct_min _ _) (fun r1 h1 q => ?_)
  obtain ⟨q0, rfl⟩ := q
  rw [q0, minI (by omega) (by omega), Nat.min_comm]
  refine wp_istore_n dX9_bring_8 (Nat.le_of_ble_eq_true rfl) rfl ?_
  refine wp_aload_n dX9_bring_9 rfl ?_
  refine wp_getf dX9_bring_10 fl_X9_25 hw rfl ?_
  refine wp_dup dX9_bring_13 rfl ?_
  refine wp_getf dX9_bring_14 fl_X9_33 hr rfl ?_
  refine wp_iload_n dX9_bring_17 rfl ?_
  refine wp_iadd dX9_bring_18 ?_
  rw [nI_add]
  refine wp_putf dX9_bring_19 (fs_X9_33 _) hr (Nat.le_of_ble_eq_true rfl) rfl rfl ?_
  refine wp_iload_n dX9_bring_22 rfl ?_
  refine wp_iret dX9_bring_23 rfl rfl ?_
  exact ⟨rfl, rfl⟩
def mvP (G : fp_G) (h : fp_H) (o : Nat) (A la : Nat → Nat) (p : rs) (B c : Nat) (x y : Int32) : Option Value → fp_H → Prop := fun r h' => (r_mvNo x y ∧ r = some (.int (-1)) ∧ h' = h) ∨ (∃ n, n ≤ 6000 ∧ y = nI n ∧ x = nI 0 ∧ r = some (.int (nI (min (p.1 13 - p.1 15) n))) ∧ CC G h' o A la (r_mv0 p n) B (c + 1) ∧ cf nR h h') ∨ (∃ n, n ≤ 6000 ∧ y = nI n ∧ x = nI 1 ∧ r = some (.int (nI (min (p.1 16 - p.1 18) n))) ∧ CC G h' o A la (r_mv1 p n) B (c + 1) ∧ cf nR h h')
def mvS : Nat → Prop := fun t => t = 4 ∨ t = 11 ∨ t = 12 ∨ t = 16 ∨ (30 ≤ t ∧ t < 50) ∨ 2000 ≤ t
set_option maxHeartbeats 2000000 in
theorem cp_move {x y : Int32} (m : CC G h o A la p B c) (hD : r_D p) (hB : r_B p) (hcs : p.1 15 ≤ p.1 13) (hs : p.1 13 ≤ 60000) (h8 : ∀ i, i < p.1 28 → p.2.1 11 i < 8) (hht : p.1 18 ≤ p.1 16) (h16 : p.1 16 + r_wn p ≤ 4000) (h19 : p.1 19 + r_wn p ≤ 2000) (hmd : MD p) (hib : IB p) (htb : TB p) (hx0 : ∀ x ∈ wlx p 13 6, x < 256) (hx1 : ∀ x ∈ wlx p 16 7, x < 256) (hp0 : r_is p (p.1 24) ≤ p.1 15) (hp1 : r_st p (p.1 23) ≤ p.1 18) (hor : OR p) (hm : ∀ k, k < p.1 28 → p.2.1 15 k ≤ 12) (hsec : ∀ k, k < p.1 28 → p.2.1 14 k = 1 → SEC p k) (hrd : ∀ n k, k < p.1 28 → p.2.1 14 k = 1 → RD (r_gots (p.1 6 - p.1 24) (r_si p 15 (p.1 15 + min (p.1 13 - p.1 15) n))) k) : fp_ct G rm_X10_move M_X10_move [.ref o, .int x, .int y] h (mvP G h o A la p B c x y) := by
  obtain ⟨ba, sa, ra, fa, oa, K, c1, c2, c3, m, kb, cx⟩ := m
  have w := m.wf
  obtain ⟨m1, ⟨m2, m3, fl, m4, m5⟩, m6, m7, m8, m9, fs, m10, m11⟩ := id m
  obtain ⟨⟨d1, d2⟩, d3, d4, d5, d6⟩ := id m7
  obtain ⟨n1, n2, n3, n4, n5, n6, n7⟩ := id m6
  refine fp_meth pn_X10 (Nat.le_of_ble_eq_true rfl) rfl ?_
  refine wp_eqL (L' := [some (.ref o), some (.int x), some (.int y), none, none]) rfl ?_
  have no : r_mvNo x y → fp_wp G rm_X10_move M_X10_move 20 [some (.ref o), some (.int x), some (.int y), none, none] [] h (mvP G h o A la p B c x y) := by
    intro hn
    refine wp_iconst (v := (-1)) dX10_move_20 rfl ?_
    refine wp_iret dX10_move_21 rfl rfl ?_
    exact Or.inl ⟨hn, rfl, rfl⟩
  refine wp_iload_n dX10_move_0 rfl ?_
  refine wp_if_lt (tgt := 20) dX10_move_1 rfl (fun c_1 => ?_) (fun c_1 => ?_)
  · refine no ?_
    rintro ⟨rfl | rfl, -⟩
    · exact absurd c_1 (by decide)
    · exact absurd c_1 (by decide)
  · refine wp_iload_n dX10_move_4 rfl ?_
    refine wp_iconst (v := 1) dX10_move_5 rfl ?_
    refine wp_icmp_gt (tgt := 20) dX10_move_6 rfl (fun c_6 => ?_) (fun c_6 => ?_)
    · refine no ?_
      rintro ⟨rfl | rfl, -⟩
      · exact absurd c_6 (by decide)
      · exact absurd c_6 (by decide)
    · have hx : x = nI 0 ∨ x = nI 1 := by
        obtain ⟨j, hj, rfl⟩ := nI_of c_1
        have : j ≤ 1 := by
          rcases Nat.lt_or_ge 1 j with q | q
          · exact absurd (nI_lt (a := 1) q hj) c_6
          · exact q
        rcases (show j = 0 ∨ j = 1 by omega) with rfl | rfl
        · exact Or.inl rfl
        · exact Or.inr rfl
      refine wp_iload_n dX10_move_9 rfl ?_
      refine wp_if_lt (tgt := 20) dX10_move_10 rfl (fun c_10 => ?_) (fun c_10 => ?_)
      · refine no ?_
        rintro ⟨-, n, hn, rfl⟩
        exact nI_pos (by omega) c_10
      · refine wp_iload_n dX10_move_13 rfl ?_
        refine wp_sipush (v := 6000) dX10_move_14 rfl ?_
        refine wp_icmp_le (tgt := 22) dX10_move_17 rfl (fun c_17 => ?_) (fun c_17 => ?_)
        · obtain ⟨n, hn, rfl⟩ : ∃ n : Nat, n ≤ 6000 ∧ y = nI n := by
            obtain ⟨j, hj, rfl⟩ := nI_of c_10
            exact ⟨j, (nI_leI (b := 6000) hj (by decide)).mp c_17, rfl⟩
          rcases hx with rfl | rfl
          · refine wp_iload_n dX10_move_22 rfl ?_
            refine wp_if_ne (tgt := 37) dX10_move_23 rfl (fun c_23 => ?_) (fun c_23 => ?_)
            · exact absurd rfl c_23
            · have mvle : min (p.1 13 - p.1 15) n ≤ p.1 13 - p.1 15 := Nat.min_le_left _ _
              refine wp_aload_n dX10_move_26 rfl ?_
              refine wp_getf dX10_move_27 fl_X10_21 m1 rfl ?_
              refine wp_iload_n dX10_move_30 rfl ?_
              refine wp_callV (As := [.int (nI n)]) (rest := []) dX10_move_31 me_X9_bring cw_X10_110 rfl ⟨(Nat.le_of_ble_eq_true rfl), (Nat.le_of_ble_eq_true rfl)⟩ rfl rfl rfl (Nat.le_of_ble_eq_true rfl) m2 (cw_bring m2 n3 m8 (by rw [wlx_len]; omega) (by rw [wlx_len]; omega) (by omega)) (fun r h1 q => ?_)
              rw [wlx_len] at q
              obtain ⟨rfl, rfl⟩ := q
              have dp1 : r_D (r_si p 15 (p.1 15 + min (p.1 13 - p.1 15) n)) := by
                obtain ⟨a, b, c, d, e, f, g, i⟩ := hD
                exact ⟨a.si (by omega), b, c, d, e.trans (r_sum_l (p := p) (q := r_si p 15 (p.1 15 + min (p.1 13 - p.1 15) n)) rfl _ _), f, g, i⟩
              have hrd' := hrd n
              have hfin : r_mv0 p n = r_goTo (r_gots (p.1 6 - p.1 24) (r_si p 15 (p.1 15 + min (p.1 13 - p.1 15) n))) 8 := rfl
              have ex1 : ∀ x, x ≠ 15 → (r_si p 15 (p.1 15 + min (p.1 13 - p.1 15) n)).1 x = p.1 x := fun x hx => by simp [r_si, hx]
              have e15 : (r_si p 15 (p.1 15 + min (p.1 13 - p.1 15) n)).1 15 = p.1 15 + min (p.1 13 - p.1 15) n := by simp [r_si]
              have el1 : (r_si p 15 (p.1 15 + min (p.1 13 - p.1 15) n)).2 = p.2 := rfl
              generalize r_si p 15 (p.1 15 + min (p.1 13 - p.1 15) n) = p1 at dp1 hrd' hfin ex1 e15 el1
              rw [← e15]
              generalize hmv : min (p.1 13 - p.1 15) n = mv at mvle e15 ⊢
              have c1' : cf (fun x => x = 11) h (fp_put h (A 10) 11 (rc (A 9) (p1.1 15) (r_is p (p.1 24), false))) := cf.put1 m8
              have g1 : (fp_put h (A 10) 11 (rc (A 9) (p1.1 15) (r_is p (p.1 24), false))).1 (A 10) = some (11, rc (A 9) (p1.1 15) (r_is p (p.1 24), false)) := fp_put_eq
              have s1 : (fp_put h (A 10) 11 (rc (A 9) (p1.1 15) (r_is p (p.1 24), false))).2 = h.2 := rfl
              refine fp_wp_h (h' := fp_put h (A 10) 11 (rc (A 9) (p1.1 15) (r_is p (p.1 24), false))) rfl ?_
              generalize fp_put h (A 10) 11 (rc (A 9) (p1.1 15) (r_is p (p.1 24), false)) = h1 at c1' g1 s1 ⊢
              have t1 : ∀ t, t ≠ 11 → ¬ (fun x => x = 11) t := fun t a z => a z
              have eis : r_is p1 (p1.1 24) = r_is p (p.1 24) := by unfold r_is; rw [ex1 24 (by decide), el1]
              have ewl : wlx p1 13 6 = wlx p 13 6 := by unfold wlx; rw [ex1 13 (by decide), el1]
              have DN1 : DN h1 (A 3) (A 13) p1 := (m7.1.kept c1' (t1 4 (by decide)) (t1 16 (by decide))).eq (ex1 0 (by decide)) (ex1 24 (by decide)) (ex1 25 (by decide)) (ex1 26 (by decide)) (ex1 27 (by decide)) (by rw [el1]) (by rw [el1])
              have R1 : rdr h1 11 (A 10) 10 (A 9) (wlx p1 13 6) (p1.1 15) (r_is p1 (p1.1 24), false) := by
                rw [eis, ewl]
                exact ⟨g1, ⟨K 0, n3.kept c1' (t1 10 (by decide))⟩, by rw [wlx_len]; omega, hx0, by show r_is p (p.1 24) ≤ p1.1 15; omega, by omega⟩
              have m11' := c1'.at m1 (t1 2 (by decide))
              have m21' := c1'.at m2 (t1 9 (by decide))
              refine wp_goto (tgt := 45) dX10_move_34 rfl ?_
              refine wp_istore_n dX10_move_45 (Nat.le_of_ble_eq_true rfl) rfl ?_
              refine wp_iload_n dX10_move_46 rfl ?_
              refine wp_iconst (v := 1) dX10_move_47 rfl ?_
              refine wp_icmp_ne (tgt := 67) dX10_move_48 rfl (fun c_48 => ?_) (fun c_48 => ?_)
              · refine wp_aload_n dX10_move_67 rfl ?_
                refine wp_getf dX10_move_68 fl_X10_42 m11' rfl ?_
                refine wp_aload_n dX10_move_71 rfl ?_
                refine wp_getf dX10_move_72 fl_X10_21 m11' rfl ?_
                refine wp_getf dX10_move_75 fl_X10_114 m21' rfl ?_
                refine wp_callV (As := [.ref (A 10)]) (rest := []) dX10_move_78 me_X1_obey cw_X10_122 rfl ⟨(Nat.le_of_ble_eq_true rfl), (Nat.le_of_ble_eq_true rfl)⟩ rfl rfl rfl (Nat.le_of_ble_eq_true rfl) DN1.1 (co_obey DN1 R1 dp1 (by unfold MD at *; rw [ex1 25 (by decide), ex1 0 (by decide), ex1 24 (by decide), el1]; exact hmd) (hib.eq (ex1 0 (by decide)) (ex1 6 (by decide)) (ex1 13 (by decide)) (by rw [el1]) (by rw [el1]) (by rw [el1]))) (fun r h2 q => ?_)
                obtain ⟨rfl, q1, -, q2, q3, q4⟩ := q
                obtain ⟨gd, g2, gx, g24⟩ := dp1.gots (p1.1 6 - p1.1 24) p1 (by have := dp1.2.2.1; omega)
                rw [ex1 6 (by decide), ex1 24 (by decide)] at q1 q2 gd g2 gx
                generalize r_gots (p.1 6 - p.1 24) p1 = q0 at hrd' hfin q1 q2 gd g2 gx ⊢
                have qx : ∀ x, x ≠ 15 → x ≠ 24 → x ≠ 25 → x ≠ 26 → q0.1 x = p.1 x := fun x a b c d => (gx x b c d).trans (ex1 x a)
                have q2' : q0.2 = p.2 := g2.trans el1
                have c2' : cf (fun t => t = 11 ∨ t = 16) h h2 := (c1'.mono (fun _ z => Or.inl z)).trans (q3.mono (fun t z => by unfold oS at z; exact z))
                have t2 : ∀ t, t ≠ 11 → t ≠ 16 → ¬ (fun t => t = 11 ∨ t = 16) t := fun t a b z => z.elim a b
                have s2 : h2.2 = h.2 := by rw [q4, s1]
                have ely : ∀ s w, lyl q0 s w = lyl p s w := fun s w => lyl_eq (qx 28 (by decide) (by decide) (by decide) (by decide)) (fun k _ => by rw [q2'])
                have wn0 : r_wn q0 = r_wn p := by unfold r_wn; rw [qx 28 (by decide) (by decide) (by decide) (by decide), q2']
                have DI0 : DI G h2 (A 3) (A 13) (A 11) (K 3) la ba sa ra fa c1 c2 c3 q0 := by
                  refine ⟨q1, ?_, fun s hs => ?_, fun k hk => ?_, c2'.wf w⟩
                  · have : wlx q0 16 7 = wlx p 16 7 := by unfold wlx; rw [qx 16 (by decide) (by decide) (by decide) (by decide), q2']
                    rw [this]
                    exact d3.kept c2' (t2 _ (by decide) (by decide))
                  · exact ((d4 s hs).kept c2' (t2 _ (by omega) (by omega)) (t2 _ (by omega) (by omega)) (t2 _ (by omega) (by omega)) (t2 _ (by omega) (by omega))).eq (by rw [q2']) (by rw [ely]) (by rw [ely]) (by rw [ely]) rfl rfl rfl
                  · rw [qx 28 (by decide) (by decide) (by decide) (by decide)] at hk
                    exact ((d5 k hk).kept c2' (t2 _ (by omega) (by omega)) (t2 _ (by omega) (by omega)) (t2 _ (by omega) (by omega)) (t2 _ (by omega) (by omega))).eq (kEq.of (qx 0 (by decide) (by decide) (by decide) (by decide)) (by rw [q2']) (by rw [q2']) (by rw [q2']) (by rw [q2']) (by rw [q2']) (by rw [q2']) (by rw [q2']) (by rw [q2'])) (hm k hk) rfl rfl rfl rfl
                have er10 : h2.1 (A 10) = some (11, rc (A 9) (q0.1 15) (r_is q0 (q0.1 24), false)) := by
                  have : r_is q0 (q0.1 24) = r_is p1 (q0.1 24) := by unfold r_is; rw [g2]
                  rw [this, gx 15 (by decide) (by decide) (by decide)]
                  exact q2
                refine wp_iconst (v := 0) dX10_move_81 rfl ?_
                refine wp_istore dX10_move_82 (Nat.le_of_ble_eq_true rfl) rfl ?_
                -- the streams in turn
                have loop : ∀ (g s : Nat) (h3 : fp_H) (cB : Nat) (c3' : Nat → Nat), s + g = 8 → DI G h3 (A 3) (A 13) (A 11) cB la ba sa ra fa c1 c2 c3' (r_goTo q0 s) → OR (r_goTo q0 s) → cf (fun t => t = 4 ∨ t = 12 ∨ (30 ≤ t ∧ t < 50) ∨ 2000 ≤ t) h2 h3 → K 3 ≤ cB → cB ≤ max (K 3) (2 * (r_goTo q0 s).1 16 + 8) → h3.2.2 + 250 * r_wn (r_goTo q0 s) + 2 * K 3 + 4 * sum8 c3 ≤ h2.2.2 + 250 * r_wn p + 2 * cB + 4 * sum8 c3' → fp_wp G rm_X10_move M_X10_move 84 [some (.ref o), some (.int (nI 0)), some (.int (nI n)), some (.int (nI mv)), some (.int (nI s))] [] h3 (mvP G h o A la p B c (nI 0) (nI n)) := by
                  intro g
                  induction g with
                  | zero =>
                    intro s h3 cB c3' hsg dd oo cc k1 k2 k3
                    have : s = 8 := by omega
                    subst this
                    have c3h : cf mvS h h3 := (c2'.mono (fun t z => by unfold mvS; omega)).trans (cc.mono (fun t z => by unfold mvS; omega))
                    have g := rg.goTo q0 8
                    refine wp_iload dX10_move_84 rfl ?_
                    refine wp_bipush (v := 8) dX10_move_86 rfl ?_
                    refine wp_icmp_ge (tgt := 118) dX10_move_88 rfl (fun c_88 => ?_) (fun c_88 => ?_)
                    · refine wp_iload_n dX10_move_118 rfl ?_
                      refine wp_iret dX10_move_119 rfl rfl ?_
                      refine Or.inr (Or.inl ⟨n, hn, rfl, rfl, by rw [hmv], ?_, c3h.mono (fun t z => by show t ≠ 1; unfold mvS at z; omega)⟩)
                      rw [hfin]
                      refine ⟨ba, sa, ra, fa, oa, (fun i => if i = 3 then cB else K i), c1, c2, c3', ?_, ?_, ?_⟩
                      · refine m.go c3h (fun t z => by unfold mvS at z; omega) dd (fun x a b c d e f g' => (g.2.2.2.2.2.2.1 x b c g').trans (qx x a d e f)) (fun j a b c d e => (g.2.2.2.2.2.2.2.1 j a b c d e).trans (by rw [q2'])) (g.2.2.2.2.2.2.2.2.trans (by rw [q2'])) (fun i hi => ?_) hB.2.2.2.1 ?_
                        · have h19q : i < q0.1 19 := by rw [qx 19 (by decide) (by decide) (by decide) (by decide)]; exact hi
                          rw [(g.2.1 i h19q).2.2, q2']
                        · have : r_is (r_goTo q0 8) ((r_goTo q0 8).1 24) = r_is q0 (q0.1 24) := by
                            unfold r_is
                            rw [g.2.2.2.2.2.2.1 24 (by decide) (by decide) (by decide), g.2.2.2.2.2.2.2.1 5 (by decide) (by decide) (by decide) (by decide) (by decide)]
                          rw [this, g.2.2.2.2.2.2.1 15 (by decide) (by decide) (by decide)]
                          exact cc.at er10 (fun z => by omega)
                      · obtain ⟨k0, k1', k2', k3', k4, k5⟩ := kb
                        have hh16 : p.1 16 ≤ (r_goTo q0 8).1 16 := by have := g.2.2.2.1; rw [qx 16 (by decide) (by decide) (by decide) (by decide)] at this; exact this
                        refine ⟨?_, k1', k2', ?_, k4, k5⟩
                        · show K 0 ≤ max 64 (2 * (r_goTo q0 8).1 13 + 8)
                          rw [g.2.2.2.2.2.2.1 13 (by decide) (by decide) (by decide), qx 13 (by decide) (by decide) (by decide) (by decide)]
                          exact k0
                        · show cB ≤ max 64 (2 * (r_goTo q0 8).1 16 + 8)
                          omega
                      · have hz := r_wn_rg g
                        have hz0 : r_zn q0 = r_zn p := by unfold r_zn; rw [qx 28 (by decide) (by decide) (by decide) (by decide), q2']
                        have s2' : h2.2.2 = h.2.2 := by rw [s2]
                        unfold CX at *
                        rw [g.2.2.2.2.2.2.1 28 (by decide) (by decide) (by decide), qx 28 (by decide) (by decide) (by decide) (by decide)]
                        show h3.2.2 + 260 * r_zn (r_goTo q0 8) + 250 * r_wn (r_goTo q0 8) ≤ B + 2 * (K 0 + K 1 + cB) + 4 * (K 2 + K 4 + sum8 c1 + sum8 c2 + sum8 c3') + 1400 * p.1 28 + 3 * (c + 1)
                        omega
                    · exact absurd (show (8 : Int32) ≤ nI 8 by decide) c_88
                  | succ g ih =>
                    intro s h3 cB c3' hsg dd oo cc k1 k2 k3
                    have hs8 : s < 8 := by omega
                    have g := rg.goTo q0 s
                    have gk := r_goTo_gk (p := q0) (by rw [qx 28 (by decide) (by decide) (by decide) (by decide), q2']; exact h8) s
                    have g28 : (r_goTo q0 s).1 28 = p.1 28 := by rw [g.2.2.2.2.2.2.1 28 (by decide) (by decide) (by decide), qx 28 (by decide) (by decide) (by decide) (by decide)]
                    have ga : ∀ j, j ≠ 7 → j ≠ 8 → j ≠ 9 → j ≠ 10 → j ≠ 14 → (r_goTo q0 s).2.1 j = p.2.1 j := fun j a b c d e => (g.2.2.2.2.2.2.2.1 j a b c d e).trans (by rw [q2'])
                    have hst : ∀ k, (r_goTo q0 s).2.1 14 k = 1 → p.2.1 14 k = 1 := fun k hk => by
                      have := g.1 k
                      rw [q2'] at this
                      omega
                    have hw16 : (r_goTo q0 s).1 16 + r_wn (r_goTo q0 s) ≤ 4000 := by
                      have := gk.2.2.2.1
                      rw [wn0, qx 16 (by decide) (by decide) (by decide) (by decide)] at this
                      omega
                    have hw19 : (r_goTo q0 s).1 19 + r_wn (r_goTo q0 s) ≤ 2000 := by
                      have := gk.2.2.2.2.1
                      rw [wn0, qx 19 (by decide) (by decide) (by decide) (by decide)] at this
                      omega
                    have okq : rok (r_goTo q0 s) := gk.2.2.2.2.2 gd.1 (by rw [wn0, qx 16 (by decide) (by decide) (by decide) (by decide)]; exact h16) (by rw [wn0, qx 19 (by decide) (by decide) (by decide) (by decide)]; exact h19) (by rw [qx 28 (by decide) (by decide) (by decide) (by decide), q2']; exact h8)
                    have c3h : cf mvS h h3 := (c2'.mono (fun t z => by unfold mvS; omega)).trans (cc.mono (fun t z => by unfold mvS; omega))
                    have t3 : ∀ t, (t = 2 ∨ t = 9) → ¬ mvS t := fun t ht z => by unfold mvS at z; omega
                    have m13 := c3h.at m1 (t3 2 (by omega))
                    have m33 := c3h.at m3 (t3 9 (by omega))
                    have m43 := c3h.at m4 (t3 9 (by omega))
                    refine wp_iload dX10_move_84 rfl ?_
                    refine wp_bipush (v := 8) dX10_move_86 rfl ?_
                    refine wp_icmp_ge (tgt := 118) dX10_move_88 rfl (fun c_88 => ?_) (fun c_88 => ?_)
                    · exact absurd ((nI_leI (a := 8) (by decide) (by omega)).mp c_88) (by omega)
                    · refine wp_aload_n dX10_move_91 rfl ?_
                      refine wp_getf dX10_move_92 fl_X10_42 m13 rfl ?_
                      refine wp_aload_n dX10_move_95 rfl ?_
                      refine wp_getf dX10_move_96 fl_X10_48 m13 rfl ?_
                      refine wp_iload dX10_move_99 rfl ?_
                      refine wp_aaldR dX10_move_101 rfl m43 (vp_in_nI hs8 (by decide)) (show fl (nI s).toNatClampNeg = some (la s) by rw [nI_clamp (by omega), m5 s hs8]) ?_
                      refine wp_aload_n dX10_move_102 rfl ?_
                      refine wp_getf dX10_move_103 fl_X10_25 m13 rfl ?_
                      refine wp_getf dX10_move_106 fl_X10_95 m33 rfl ?_
                      refine wp_callV (As := [.ref (la s), .ref (A 11)]) (rest := []) dX10_move_109 me_X1_release cw_X10_125 rfl ⟨(Nat.le_of_ble_eq_true rfl), (Nat.le_of_ble_eq_true rfl)⟩ rfl rfl rfl (Nat.le_of_ble_eq_true rfl) dd.1.1 (cd_release dd hs8 okq (by rw [g28]; exact hB.2.1) (fun k hk hk1 => ⟨(hsec k (by rw [← g28]; exact hk) (hst k hk1)).eqs (by rw [g.2.2.2.2.2.2.1 0 (by decide) (by decide) (by decide), qx 0 (by decide) (by decide) (by decide) (by decide)]) (fun j hj => ga j (by omega) (by omega) (by omega) (by omega) (by omega)) (g.2.2.2.2.2.2.2.2.trans (by rw [q2'])), (hrd' k (by rw [← g28]; exact hk) (hst k hk1)).eqs (g.2.2.2.2.2.2.1 25 (by decide) (by decide) (by decide)) (fun j hj => g.2.2.2.2.2.2.2.1 j (by omega) (by omega) (by omega) (by omega) (by omega))⟩) (by rw [g28, ga 15 (by decide) (by decide) (by decide) (by decide) (by decide)]; exact hm) oo (by rw [g28, ga 11 (by decide) (by decide) (by decide) (by decide) (by decide)]; exact h8) hw16 hw19) (fun r h4 v => ?_)
                      obtain ⟨rfl, cB', cR, v1, v2, v3, v4, v5, v6⟩ := v
                      have g16 : (r_goTo q0 s).1 16 ≤ (r_goOn (r_goTo q0 s) s).1 16 := (rg.goOn (r_goTo q0 s) s).2.2.2.1
                      have ss := sum8_upd (c := c3') (v := cR) hs8
                      refine wp_iinc dX10_move_112 rfl rfl ?_
                      refine wp_goto (tgt := 84) dX10_move_115 rfl ?_
                      rw [show nI s + Int32.ofInt 1 = nI (s + 1) from nI_add _ 1]
                      exact ih (s + 1) h4 cB' (upd1 c3' s cR) (by omega) v1 oo.goOn (cc.trans (v2.mono (fun t z => by unfold rlS at z; omega))) (by omega) (by rw [r_goTo]; omega) (by rw [r_goTo]; omega)
                refine loop 8 0 h2 (K 3) c3 rfl DI0 ?_ cf.refl (Nat.le_refl _) (Nat.le_max_left _ _) (by rw [show r_goTo q0 0 = q0 from rfl, wn0]; omega)
                show OR q0
                unfold OR at *
                rw [q2', qx 28 (by decide) (by decide) (by decide) (by decide)]
                exact hor
              · exact absurd c_48 (by decide)
          · refine wp_iload_n dX10_move_22 rfl ?_
            refine wp_if_ne (tgt := 37) dX10_move_23 rfl (fun c_23 => ?_) (fun c_23 => ?_)
            · have mvle : min (p.1 16 - p.1 18) n ≤ p.1 16 - p.1 18 := Nat.min_le_left _ _
              refine wp_aload_n dX10_move_37 rfl ?_
              refine wp_getf dX10_move_38 fl_X10_25 m1 rfl ?_
              refine wp_iload_n dX10_move_41 rfl ?_
              refine wp_callV (As := [.int (nI n)]) (rest := []) dX10_move_42 me_X9_bring cw_X10_110 rfl ⟨(Nat.le_of_ble_eq_true rfl), (Nat.le_of_ble_eq_true rfl)⟩ rfl rfl rfl (Nat.le_of_ble_eq_true rfl) m3 (cw_bring m3 d3 m9 (by rw [wlx_len]; omega) (by rw [wlx_len]; omega) (by omega)) (fun r h1 q => ?_)
              rw [wlx_len] at q
              obtain ⟨rfl, rfl⟩ := q
              have hfin : r_mv1 p n = r_hears (p.1 19 - p.1 23) (r_si p 18 (p.1 18 + min (p.1 16 - p.1 18) n)) := rfl
              have ex1 : ∀ x, x ≠ 18 → (r_si p 18 (p.1 18 + min (p.1 16 - p.1 18) n)).1 x = p.1 x := fun x hx => by simp [r_si, hx]
              have e15 : (r_si p 18 (p.1 18 + min (p.1 16 - p.1 18) n)).1 18 = p.1 18 + min (p.1 16 - p.1 18) n := by simp [r_si]
              have el1 : (r_si p 18 (p.1 18 + min (p.1 16 - p.1 18) n)).2 = p.2 := rfl
              have B1 : r_B (r_si p 18 (p.1 18 + min (p.1 16 - p.1 18) n)) := by
                obtain ⟨a, b, c, d, e, f, g⟩ := hB
                exact ⟨a.si (by omega), b, c, d, e, f, g⟩
              generalize r_si p 18 (p.1 18 + min (p.1 16 - p.1 18) n) = p1 at hfin ex1 e15 el1 B1
              rw [← e15]
              generalize hmv : min (p.1 16 - p.1 18) n = mv at mvle e15 ⊢
              have c1' : cf (fun x => x = 13) h (fp_put h (A 12) 13 (rc (A 11) (p1.1 18) (r_st p (p.1 23), false))) := cf.put1 m9
              have g1 : (fp_put h (A 12) 13 (rc (A 11) (p1.1 18) (r_st p (p.1 23), false))).1 (A 12) = some (13, rc (A 11) (p1.1 18) (r_st p (p.1 23), false)) := fp_put_eq
              have s1 : (fp_put h (A 12) 13 (rc (A 11) (p1.1 18) (r_st p (p.1 23), false))).2 = h.2 := rfl
              refine fp_wp_h (h' := fp_put h (A 12) 13 (rc (A 11) (p1.1 18) (r_st p (p.1 23), false))) rfl ?_
              generalize fp_put h (A 12) 13 (rc (A 11) (p1.1 18) (r_st p (p.1 23), false)) = h1 at c1' g1 s1 ⊢
              have t1 : ∀ t, t ≠ 13 → ¬ (fun x => x = 13) t := fun t a z => a z
              have eis : r_st p1 (p1.1 23) = r_st p (p.1 23) := by unfold r_st; rw [ex1 23 (by decide), el1]
              have ewl : wlx p1 16 7 = wlx p 16 7 := by unfold wlx; rw [ex1 16 (by decide), el1]
              have R1 : rdr h1 13 (A 12) 12 (A 11) (wlx p1 16 7) (p1.1 18) (r_st p1 (p1.1 23), false) := by
                rw [eis, ewl]
                exact ⟨g1, ⟨K 3, d3.kept c1' (t1 12 (by decide))⟩, by rw [wlx_len]; omega, hx1, by show r_st p (p.1 23) ≤ p1.1 18; omega, by omega⟩
              have EN1 : EN G h1 (A 2) (A 6) (A 7) (A 8) (A 9) (K 2) oa p1 (K 0) (K 1) := by
                refine (m6.keptA c1' (fun t z => by omega)).eq ⟨ex1 0 (by decide), ex1 1 (by decide), ex1 6 (by decide), ex1 10 (by decide), ex1 11 (by decide), ex1 12 (by decide), ex1 28 (by decide), by rw [el1], by rw [el1], by rw [el1], by rw [el1], by rw [el1], by rw [el1], by rw [el1]⟩ ?_
                unfold wlx; rw [ex1 13 (by decide), el1]
              obtain ⟨x5, x6, x7, x8, en1⟩ := id EN1.1
              have m11' := c1'.at m1 (t1 2 (by decide))
              have m31' := c1'.at m3 (t1 9 (by decide))
              refine wp_istore_n dX10_move_45 (Nat.le_of_ble_eq_true rfl) rfl ?_
              refine wp_iload_n dX10_move_46 rfl ?_
              refine wp_iconst (v := 1) dX10_move_47 rfl ?_
              refine wp_icmp_ne (tgt := 67) dX10_move_48 rfl (fun c_48 => ?_) (fun c_48 => ?_)
              · exact absurd (show nI 1 = 1 from rfl) c_48
              · refine wp_aload_n dX10_move_51 rfl ?_
                refine wp_getf dX10_move_52 fl_X10_33 m11' rfl ?_
                refine wp_aload_n dX10_move_55 rfl ?_
                refine wp_getf dX10_move_56 fl_X10_25 m11' rfl ?_
                refine wp_getf dX10_move_59 fl_X10_114 m31' rfl ?_
                refine wp_callV (As := [.ref (A 12)]) (rest := []) dX10_move_62 me_X2_hear cw_X10_118 rfl ⟨(Nat.le_of_ble_eq_true rfl), (Nat.le_of_ble_eq_true rfl)⟩ rfl rfl rfl (Nat.le_of_ble_eq_true rfl) en1 (ch_hear EN1 R1 B1 (htb.eq (ex1 16 (by decide)) (ex1 19 (by decide)) (by rw [el1]) (by rw [el1]) (by rw [el1]) (by rw [el1]))) (fun r h2 q => ?_)
                obtain ⟨rfl, q1, q2, q3, q4⟩ := q
                rw [ex1 19 (by decide), ex1 23 (by decide), ← hfin] at q1 q2
                obtain ⟨kx, ka, kl⟩ := r_hears_k (p.1 19 - p.1 23) p1
                rw [← hfin] at kx ka kl
                have qx : ∀ x, x ≠ 12 → x ≠ 18 → x ≠ 23 → (r_mv1 p n).1 x = p.1 x := fun x a b c => (kx x a c).trans (ex1 x b)
                have qa : ∀ j, j ≠ 13 → (r_mv1 p n).2.1 j = p.2.1 j := fun j a => (ka j a).trans (by rw [el1])
                have ql : (r_mv1 p n).2.2 = p.2.2 := kl.trans (by rw [el1])
                have c2' : cf (fun t => t = 3 ∨ t = 13 ∨ t = 17) h h2 := (c1'.mono (fun _ z => Or.inr (Or.inl z))).trans (q3.mono (fun t z => by unfold hS2 at z; omega))
                have t2 : ∀ t, t ≠ 3 → t ≠ 13 → t ≠ 17 → ¬ (fun t => t = 3 ∨ t = 13 ∨ t = 17) t := fun t a b c z => by rcases z with z | z | z; exact a z; exact b z; exact c z
                refine wp_iload_n dX10_move_65 rfl ?_
                refine wp_iret dX10_move_66 rfl rfl ?_
                refine Or.inr (Or.inr ⟨n, hn, rfl, rfl, by rw [hmv], ⟨ba, sa, ra, fa, oa, K, c1, c2, c3, ⟨?_, ⟨c2'.at m2 (t2 9 (by decide) (by decide) (by decide)), c2'.at m3 (t2 9 (by decide) (by decide) (by decide)), fl, c2'.at m4 (t2 9 (by decide) (by decide) (by decide)), m5⟩, q1, ?_, ?_, ?_, fs, m10.kept c2' (t2 18 (by decide) (by decide) (by decide)), (m11.kept c2' (t2 9 (by decide) (by decide) (by decide))).eq (qx 2 (by decide) (by decide) (by decide)) (qa 2 (by decide)) (by rw [ql]) (by rw [ql])⟩, ?_, ?_⟩, c2'.mono (fun t z => by show t ≠ 1; omega)⟩)
                · rw [qx 28 (by decide) (by decide) (by decide)]
                  exact c2'.at m1 (t2 2 (by decide) (by decide) (by decide))
                · exact (m7.kept c2' (fun t z => by omega)).eq ⟨⟨qx 0 (by decide) (by decide) (by decide), qx 16 (by decide) (by decide) (by decide), qx 24 (by decide) (by decide) (by decide), qx 25 (by decide) (by decide) (by decide), qx 26 (by decide) (by decide) (by decide), qx 27 (by decide) (by decide) (by decide), qx 28 (by decide) (by decide) (by decide)⟩, ⟨qa 7 (by decide), qa 11 (by decide), qa 12 (by decide), qa 14 (by decide), qa 15 (by decide), qa 18 (by decide), qa 21 (by decide), qa 22 (by decide), qa 23 (by decide), qa 24 (by decide)⟩, by rw [ql], by rw [ql], by rw [ql], by rw [ql]⟩
                · have : r_is (r_mv1 p n) ((r_mv1 p n).1 24) = r_is p (p.1 24) := by unfold r_is; rw [qx 24 (by decide) (by decide) (by decide), qa 5 (by decide)]
                  rw [this, qx 15 (by decide) (by decide) (by decide)]
                  exact c2'.at m8 (t2 11 (by decide) (by decide) (by decide))
                · have : r_st (r_mv1 p n) ((r_mv1 p n).1 23) = r_st p1 ((r_mv1 p n).1 23) := by unfold r_st; rw [ka 10 (by decide)]
                  rw [this, kx 18 (by decide) (by decide)]
                  exact q2
                · unfold KB at *
                  rw [qx 13 (by decide) (by decide) (by decide), qx 16 (by decide) (by decide) (by decide)]
                  exact kb
                · have wz := wn_eq (p' := r_mv1 p n) (qx 28 (by decide) (by decide) (by decide)) (qa 14 (by decide))
                  have s2 : h2.2.2 = h.2.2 := by rw [q4, s1]
                  unfold CX at *
                  rw [wz.1, wz.2, qx 28 (by decide) (by decide) (by decide), s2]
                  omega
            · exact absurd c_23 (by decide)
        · refine no ?_
          rintro ⟨-, n, hn, rfl⟩
          exact c_17 (nI_le (b := 6000) hn (by decide))
end CP
