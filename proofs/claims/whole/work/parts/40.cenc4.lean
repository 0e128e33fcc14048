/-! Encoder: putField; what is referred to stays in the table -/
theorem r_I.eq {p p' : rs} (hI : r_I p) (e6 : p'.1 6 = p.1 6) (e10 : p'.1 10 = p.1 10) (e12 : p'.1 12 = p.1 12) (e28 : p'.1 28 = p.1 28) (a13 : p'.2.1 13 = p.2.1 13) (a19 : p'.2.1 19 = p.2.1 19) (a20 : p'.2.1 20 = p.2.1 20) : r_I p' := by
  unfold r_I r_act at *
  rw [e6, e10, e12, e28, a13, a19, a20]
  exact hI
theorem r_I.says {p : rs} {f : Nat} (hI : r_I p) : r_I (r_says p f) := hI.eq rfl rfl rfl rfl (by funext i; simp [r_says, r_sa, r_sl]) (by funext i; simp [r_says, r_sa, r_sl]) (by funext i; simp [r_says, r_sa, r_sl])
theorem r_I.lays2 {p : rs} {l : List Nat} (hI : r_I p) : r_I (r_lays p 2 l) :=
  hI.eq (r_lays_k (by decide) _ _) (r_lays_k (by decide) _ _) (r_lays_k (by decide) _ _) (r_lays_k (by decide) _ _) (r_lays_a (by decide) _ _) (r_lays_a (by decide) _ _) (r_lays_a (by decide) _ _)
theorem r_I.ref {p : rs} {j : Nat} (hI : r_I p) (h1 : p.1 10 ≤ j) (h2 : j < p.1 6) (h12 : ∀ k, k < 200 → p.2.1 20 k ≤ 12) (hc : p.1 28 < 200) (hr : p.2.1 20 (p.1 28) < 12) : r_I (r_ref p j) := by
  refine ⟨hI.1, fun k hk i hi => ?_⟩
  have hk' : r_act p k := hk
  show p.1 10 ≤ (r_ref p j).2.1 19 (12 * k + i) ∧ (r_ref p j).2.1 19 (12 * k + i) < p.1 6
  by_cases e : k = p.1 28
  · subst e
    have e20 : (r_ref p j).2.1 20 (p.1 28) = p.2.1 20 (p.1 28) + 1 := by simp [r_ref, r_sa]
    rw [e20] at hi
    by_cases ei : i = p.2.1 20 (p.1 28)
    · subst ei
      simp only [r_ref, r_sa]
      simp
      exact ⟨h1, h2⟩
    · have := hI.2 _ hk' i (by omega)
      simp only [r_ref, r_sa]
      simp [ei]
      exact this
  · have e20 : (r_ref p j).2.1 20 k = p.2.1 20 k := by simp [r_ref, r_sa, e]
    rw [e20] at hi
    have hkl : k < 200 := by rcases hk' with z | z <;> omega
    have := h12 k hkl
    have hne : 12 * k + i ≠ 12 * p.1 28 + p.2.1 20 (p.1 28) := by omega
    have := hI.2 k hk' i hi
    simp only [r_ref, r_sa]
    simp [hne]
    exact this
theorem r_fb_le {p : rs} : r_fb p ≤ p.1 12 ∧ ∀ k, r_act p k → ∀ i, i < p.2.1 20 k → r_fb p ≤ p.2.1 19 (12 * k + i) := by
  have f1 := fmin_le (g := lea p) (opn p) (min (p.1 12) (lea p (p.1 28)))
  refine ⟨Nat.le_trans f1.1 (Nat.min_le_left _ _), fun k hk i hi => ?_⟩
  have hle := leaTo_le (p.2.1 19) k (p.2.1 20 k) i hi
  rcases hk with rfl | hk
  · exact Nat.le_trans f1.1 (Nat.le_trans (Nat.min_le_right _ _) hle)
  · exact Nat.le_trans (f1.2 k (opn_mem.mpr hk)) hle
theorem r_I.ins {p : rs} {u v a b : Nat} (hI : r_I p) (hJ : r_J p a b) (ha : a < 12) (hm : r_may p (32 + bln u + bln v) = true) : r_I (r_ins p u v) := by
  obtain ⟨ok, j28, -, -, j10, j6, j11, -, -, j13, -⟩ := hJ
  have hK := ((r_may_iff hI j28 j10 (by omega) j11).mp hm).2
  have hfb := r_fb_le (p := p)
  have k12 : (r_ins p u v).1 12 = p.1 12 := r_ins_k (by decide) (by decide) (by decide) (by decide)
  have k28 : (r_ins p u v).1 28 = p.1 28 := r_ins_k (by decide) (by decide) (by decide) (by decide)
  have i13 : (r_ins p u v).2.1 13 = p.2.1 13 := r_ins_a (by decide) (by decide)
  have i19 : (r_ins p u v).2.1 19 = p.2.1 19 := r_ins_a (by decide) (by decide)
  have i20 : (r_ins p u v).2.1 20 = p.2.1 20 := r_ins_a (by decide) (by decide)
  have h6 := hI.1.2
  refine ⟨by rw [r_ins_10, k12, r_ins_6]; omega, fun k hk i hi => ?_⟩
  have hk' : r_act p k := by unfold r_act at *; rw [k28, i13] at hk; exact hk
  rw [i20] at hi
  rw [i19, r_ins_10, r_ins_6]
  have h1 := hfb.2 k hk' i hi
  have h2 := hI.2 k hk' i hi
  omega
theorem r_I.lb {p : rs} {a b u v s base : Nat} {risk : Bool} (hI : r_I p) (hJ : r_J p a b) (hb : b < 12) : r_I (r_lb p u v s base risk) := by
  obtain ⟨ok, j28, j12, jb, j10, j6, j11, -⟩ := hJ
  unfold r_lb
  refine r_I.lays2 ?_
  cases hx : fxn u with
  | some k => exact hI.lays2
  | none =>
    cases hj : r_last p u 0 false with
    | none => exact hI.lays2
    | some j =>
      have := r_lastTo_some hj
      simp only
      split
      · exact (hI.ref this.2.1 this.1 j12 j28 (by omega)).lays2
      · exact hI.lays2
theorem r_I.whole {p : rs} {a b j base : Nat} (hI : r_I p) (hJ : r_J p a b) (hb : b < 12) (h1 : p.1 10 ≤ j) (h2 : j < p.1 6) : r_I (r_whole p j base) := by
  obtain ⟨ok, j28, j12, jb, j10, j6, j11, -⟩ := hJ
  exact (hI.ref h1 h2 j12 j28 (by omega)).lays2
theorem r_I.one {p : rs} {f base : Nat} {risk : Bool} (hI : r_I p) (h : r_J p f f) (hf : f < 12) : r_I (r_one p f base risk) := by
  have hs := h.says hf
  have hIs := hI.says (f := f)
  have hu := h.1.2.2 0 f
  have hv := h.1.2.2 1 f
  unfold r_one
  split
  · exact (hIs.eq (p' := r_sa (r_says p f) 18 (12 * p.1 28 + f) 0) rfl rfl rfl rfl (by funext i; simp [r_sa]) (by funext i; simp [r_sa]) (by funext i; simp [r_sa])).lays2
  · split
    · unfold r_oneV
      cases hj : r_last (r_says p f) (p.2.2 0 f) (p.2.2 1 f) true with
      | some j =>
        have hjc := r_lastTo_some hj
        simp only
        split
        · exact hIs.whole hs hf hjc.2.1 hjc.1
        · exact hIs.lb hs hf
      | none =>
        simp only
        split
        · rename_i hmy
          have hfit : 32 + bln (p.2.2 0 f) + bln (p.2.2 1 f) ≤ p.1 0 := by
            rw [r_may, Bool.and_eq_true] at hmy
            have h3 : 32 + bln (p.2.2 0 f) + bln (p.2.2 1 f) ≤ (r_says p f).1 0 := by simpa using hmy.1
            exact h3
          have hi := hs.ins hf hu hv hfit
          have hIi := hIs.ins hs hf hmy
          split
          · refine hIi.whole hi hf ?_ (by rw [r_ins_6]; omega)
            have := (tbes_spec ((r_says p f).2.2 3) ((r_says p f).2.2 4) ((r_says p f).1 0) (32 + bln (p.2.2 0 f) + bln (p.2.2 1 f)) ((r_says p f).1 6 - (r_says p f).1 10) ((r_says p f).1 10) ((r_says p f).1 11) (by rw [← r_sum_tsum]; exact hs.2.2.2.2.2.2.1)).2.1
            rw [r_ins_10]
            have h10 := hs.2.2.2.2.1
            omega
          · exact hIi.lb hi hf
        · exact hIs.lb hs hf
    · exact hIs.lb hs hf
theorem r_lays2_13 (q : rs) (l : List Nat) : (r_lays q 2 l).1 13 = q.1 13 := r_lays_k (show 13 ≠ r_wc 2 by decide) l q
theorem r_lays2_44 (q : rs) (l : List Nat) : q.1 44 ≤ (r_lays q 2 l).1 44 := by rw [r_lays_44]; omega
theorem r_lb_13 (q : rs) (u v s base : Nat) (risk : Bool) : q.1 13 ≤ (r_lb q u v s base risk).1 13 ∧ q.1 44 ≤ (r_lb q u v s base risk).1 44 := by
  unfold r_lb
  refine ⟨?_, Nat.le_trans ?_ (r_lays2_44 _ _)⟩
  · rw [r_lays2_13]
    cases fxn u with
    | some x => simp only [r_lays2_13]; exact Nat.le_refl _
    | none =>
      cases r_last q u 0 false with
      | none => simp only [r_lays2_13]; exact Nat.le_refl _
      | some j =>
        simp only
        split
        · rw [r_lays2_13]; exact Nat.le_refl _
        · rw [r_lays2_13]; exact Nat.le_refl _
  · cases fxn u with
    | some x => exact r_lays2_44 _ _
    | none =>
      cases r_last q u 0 false with
      | none => exact r_lays2_44 _ _
      | some j =>
        simp only
        split
        · exact r_lays2_44 (r_ref q j) _
        · exact r_lays2_44 _ _
theorem r_whole_13 (q : rs) (j base : Nat) : q.1 13 ≤ (r_whole q j base).1 13 ∧ q.1 44 ≤ (r_whole q j base).1 44 := ⟨by unfold r_whole; rw [r_lays2_13]; exact Nat.le_refl _, r_lays2_44 (r_ref q j) _⟩
theorem r_one_13 {p : rs} {f base : Nat} {risk : Bool} : p.1 13 ≤ (r_one p f base risk).1 13 ∧ p.1 44 ≤ (r_one p f base risk).1 44 := by
  have i13 : ∀ u v, p.1 13 ≤ (r_ins (r_says p f) u v).1 13 := fun u v => by rw [r_ins_13]; show p.1 13 ≤ p.1 13 + _; omega
  have i44 : ∀ u v, p.1 44 ≤ (r_ins (r_says p f) u v).1 44 := fun u v => Nat.le_of_eq (Eq.symm (r_ins_k (p := r_says p f) (by decide) (by decide) (by decide) (by decide)))
  unfold r_one
  split
  · exact ⟨by rw [r_lays2_13]; exact Nat.le_refl _, r_lays2_44 (r_sa (r_says p f) 18 (12 * p.1 28 + f) 0) _⟩
  · split
    · unfold r_oneV
      cases r_last (r_says p f) (p.2.2 0 f) (p.2.2 1 f) true with
      | some j =>
        simp only
        split
        · exact r_whole_13 (r_says p f) _ _
        · exact r_lb_13 (r_says p f) _ _ _ _ _
      | none =>
        simp only
        split
        · split
          · exact ⟨Nat.le_trans (i13 _ _) (r_whole_13 _ _ _).1, Nat.le_trans (i44 _ _) (r_whole_13 _ _ _).2⟩
          · exact ⟨Nat.le_trans (i13 _ _) (r_lb_13 _ _ _ _ _ _).1, Nat.le_trans (i44 _ _) (r_lb_13 _ _ _ _ _ _).2⟩
        · exact r_lb_13 (r_says p f) _ _ _ _ _
    · exact r_lb_13 (r_says p f) _ _ _ _ _
section CE
variable {G : fp_G} {h : fp_H} {en tb op ln wr cO : Nat} {oa : Nat → Nat} {p : rs} {base : Nat} {rk : Bool} {cW cL : Nat}
theorem EM.says {f : Nat} (m : EM G h en tb op ln wr cO oa p base rk cW cL) : EM G h en tb op ln wr cO oa (r_says p f) base rk cW cL :=
  m.eq ⟨rfl, rfl, rfl, rfl, rfl, rfl, rfl, by funext i; simp [r_says, r_sa, r_sl], by funext i; simp [r_says, r_sa, r_sl], by funext i; simp [r_says, r_sa, r_sl], by funext i; simp [r_says, r_sa, r_sl], by funext i; simp [r_says, r_sa, r_sl], by funext i; simp [r_says, r_sa, r_sl], by funext i; simp [r_says, r_sa, r_sl]⟩ (by unfold wlx; rw [show (r_says p f).2.1 6 = p.2.1 6 by funext i; simp [r_says, r_sa, r_sl]]; rfl) (by unfold wlx; rw [show (r_says p f).2.1 25 = p.2.1 25 by funext i; simp [r_says, r_sa, r_sl]]; rfl)
theorem EM.sa18 {i v : Nat} (m : EM G h en tb op ln wr cO oa p base rk cW cL) : EM G h en tb op ln wr cO oa (r_sa p 18 i v) base rk cW cL :=
  m.eq ⟨rfl, rfl, rfl, rfl, rfl, rfl, rfl, by funext i; simp [r_sa], by funext i; simp [r_sa], by funext i; simp [r_sa], by funext i; simp [r_sa], by funext i; simp [r_sa], rfl, rfl⟩ (by unfold wlx; rw [show (r_sa p 18 i v).2.1 6 = p.2.1 6 by funext i; simp [r_sa]]; rfl) (by unfold wlx; rw [show (r_sa p 18 i v).2.1 25 = p.2.1 25 by funext i; simp [r_sa]]; rfl)
set_option maxHeartbeats 4000000 in
theorem ce_field {fa f : Nat} (m0 : EM G h en tb op ln wr cO oa p base rk cW cL) (hfa : h.1 fa = some (9, fO (p.2.2 0 f) (p.2.2 1 f) (p.2.1 2 f))) (hI0 : r_I p) (hJ0 : r_J p f f) (hf : f < 12) (hb : base < 2 ^ 28) (h44 : p.1 44 ≤ 19 * f) : fp_ct G rm_X2_putField M_X2_putField [.ref en, .ref fa, .ref wr] h (eP G h en tb op ln wr cO oa (r_one p f base rk) base rk cW cL) := by
  have m := m0.says (f := f)
  have hI := hI0.says (f := f)
  have hJ := hJ0.says hf
  have hs44 : (r_says p f).1 44 ≤ 19 * f := h44
  have hu := hJ0.1.2.2 0 f
  have hv := hJ0.1.2.2 1 f
  have hs := hJ0.2.2.2.2.2.2.2.2.2.2 f hf
  rw [r_one]
  generalize eu : p.2.2 0 f = u at hfa hu ⊢
  generalize ev : p.2.2 1 f = v at hfa hv ⊢
  generalize es : p.2.1 2 f = s at hfa hs ⊢
  rw [show (12 * p.1 28 + f) = 12 * (r_says p f).1 28 + f from rfl]
  generalize r_says p f = p1 at m hI hJ hs44 ⊢
  have m1 := m.1
  obtain ⟨ok, j28, j12, jb, j10, j6, j11, -, -, -, -⟩ := id hJ
  obtain ⟨n1, n2, n3, f1, f2, f3, a1, -⟩ := m.2.1.ex
  obtain ⟨xl, hln⟩ := m.hln
  have hfx : ∀ k, fxn u = some k → k < 8 := fun k hk => (fxn_some hk).1
  have hoI : oI (fxn u) = -1 ↔ fxn u = none := oI_m1 (fun k hk => by have := hfx k hk; omega)
  have hoV : oI (r_last p1 u v true) = -1 ↔ r_last p1 u v true = none := oI_m1 (fun k hk => by have := r_lastTo_some hk; omega)
  -- behind the fixed table
  have rest : r_fixed u v = false → fp_wp G rm_X2_putField M_X2_putField 39 [some (.ref en), some (.ref fa), some (.ref wr), some (.int (oI (fxn u))), none] [] h (eP G h en tb op ln wr cO oa (if s = 0 then r_oneV p1 u v base rk else r_lb p1 u v 1 base rk) base rk cW cL) := by
    intro _
    have lit : ∀ (q : rs) (h1 : fp_H) (cW1 cL1 x s : Nat) (z : Option Value), s ≤ 1 → h1.1 fa = some (9, fO u v s) → r_J q x f → x ≤ 12 → q.1 44 ≤ 19 * f → EM G h1 en tb op ln wr cO oa q base rk cW1 cL1 → fp_wp G rm_X2_putField M_X2_putField 126 [some (.ref en), some (.ref fa), some (.ref wr), some (.int (oI (fxn u))), z] [] h1 (eP G h1 en tb op ln wr cO oa (r_lb q u v s base rk) base rk cW1 cL1) := by
      intro q h1 cW1 cL1 x s z hs hfa1 hq hx hq44 mq
      obtain ⟨ok, j28, j12, jb, j10, j6, j11, -, -, -, -⟩ := hq
      refine wp_aload_n dX2_putField_126 rfl ?_
      refine wp_aload_n dX2_putField_127 rfl ?_
      refine wp_iload_n dX2_putField_128 rfl ?_
      refine wp_callV (As := [.ref fa, .int (oI (fxn u))]) (rest := []) dX2_putField_129 me_X2_putLiteral cw_X2_118 rfl ⟨(Nat.le_of_ble_eq_true rfl), (Nat.le_of_ble_eq_true rfl)⟩ rfl rfl rfl (Nat.le_of_ble_eq_true rfl) mq.1 (ce_lit mq hfa1 ok hu hv hs hb j12 j28 (by omega) (by omega) (by omega)) (fun r h2 y => ?_)
      obtain ⟨rfl, -⟩ := id y
      refine wp_vret dX2_putField_132 rfl ?_
      exact y
    refine wp_aload_n dX2_putField_39 rfl ?_
    refine wp_getf dX2_putField_40 fl_X2_115 hfa rfl ?_
    refine wp_if_eq (tgt := 53) dX2_putField_43 rfl (fun c_43 => ?_) (fun c_43 => ?_)
    · have : s = 0 := (nI_eq (b := 0) (by omega) (by decide)).mp c_43
      subst this
      rw [if_pos rfl]
      refine wp_aload_n dX2_putField_53 rfl ?_
      refine wp_getf dX2_putField_54 fl_X2_14 m1 rfl ?_
      refine wp_aload_n dX2_putField_57 rfl ?_
      refine wp_getf dX2_putField_58 fl_X2_100 hfa rfl ?_
      refine wp_aload_n dX2_putField_61 rfl ?_
      refine wp_getf dX2_putField_62 fl_X2_112 hfa rfl ?_
      refine wp_callV (As := [.long (lN u), .long (lN v)]) (rest := []) dX2_putField_65 me_X8_lastOf cw_X2_122 rfl ⟨(Nat.le_of_ble_eq_true rfl), (Nat.le_of_ble_eq_true rfl)⟩ rfl rfl rfl (Nat.le_of_ble_eq_true rfl) a1 (cc_lastOf m.2.1 hu hv) (fun r h1 q => ?_)
      obtain ⟨rfl, rfl⟩ := q
      rw [← r_last_tlast]
      -- the end: is the entry referred to
      have last : ∀ (q : rs) (h2 : fp_H) (cW1 cL1 x j : Nat), h2.1 fa = some (9, fO u v 0) → r_J q x f → x ≤ 12 → q.1 44 ≤ 19 * f → j < q.1 6 → EM G h2 en tb op ln wr cO oa q base rk cW1 cL1 → fp_wp G rm_X2_putField M_X2_putField 102 [some (.ref en), some (.ref fa), some (.ref wr), some (.int (oI (fxn u))), some (.int (nI j))] [] h2 (eP G h2 en tb op ln wr cO oa (if j < q.1 12 ∨ rk = true then r_whole q j base else r_lb q u v 0 base rk) base rk cW1 cL1) := by
        intro q h2 cW1 cL1 x j hfa2 hq hx hq44 hj mq
        obtain ⟨ok, j28, j12, jb, j10, j6, j11, -, -, -, -⟩ := id hq
        refine wp_iload dX2_putField_102 rfl ?_
        refine wp_iconst (v := (-1)) dX2_putField_104 rfl ?_
        refine wp_icmp_eq (tgt := 126) dX2_putField_105 rfl (fun c_105 => ?_) (fun c_105 => ?_)
        · exact absurd c_105 (nI_m1 (by omega))
        · refine wp_aload_n dX2_putField_108 rfl ?_
          refine wp_iload dX2_putField_109 rfl ?_
          refine wp_callV (As := [.int (nI j)]) (rest := []) dX2_putField_111 me_X2_mayReferTo cw_X2_134 rfl ⟨(Nat.le_of_ble_eq_true rfl), (Nat.le_of_ble_eq_true rfl)⟩ rfl rfl rfl (Nat.le_of_ble_eq_true rfl) mq.1 (ce_may mq (by omega) (ok.1 12)) (fun r h3 y => ?_)
          obtain ⟨rfl, rfl⟩ := y
          refine wp_if_eq (tgt := 126) dX2_putField_114 rfl (fun c_114 => ?_) (fun c_114 => ?_)
          · have : ¬ (j < q.1 12 ∨ rk = true) := by have := b2n_0.mp c_114; simpa using this
            rw [if_neg this]
            exact lit q h3 cW1 cL1 x 0 _ (by decide) hfa2 hq hx hq44 mq
          · have : j < q.1 12 ∨ rk = true := by
              cases hd : decide (j < q.1 12 ∨ rk = true) with
              | true => exact of_decide_eq_true hd
              | false => rw [hd] at c_114; exact absurd rfl c_114
            rw [if_pos this]
            refine wp_aload_n dX2_putField_117 rfl ?_
            refine wp_iload dX2_putField_118 rfl ?_
            refine wp_callV (As := [.int (nI j)]) (rest := []) dX2_putField_120 me_X2_putEntry cw_X2_137 rfl ⟨(Nat.le_of_ble_eq_true rfl), (Nat.le_of_ble_eq_true rfl)⟩ rfl rfl rfl (Nat.le_of_ble_eq_true rfl) mq.1 (ce_entry mq ok (by omega) hb j12 j28 (by omega) (by omega)) (fun r h4 y => ?_)
            obtain ⟨rfl, -⟩ := id y
            refine wp_goto (tgt := 132) dX2_putField_123 rfl ?_
            refine wp_vret dX2_putField_132 rfl ?_
            exact y
      unfold r_oneV
      refine wp_istore dX2_putField_68 (Nat.le_of_ble_eq_true rfl) rfl ?_
      refine wp_iload dX2_putField_70 rfl ?_
      refine wp_iconst (v := (-1)) dX2_putField_72 rfl ?_
      refine wp_icmp_ne (tgt := 102) dX2_putField_73 rfl (fun c_73 => ?_) (fun c_73 => ?_)
      · cases hj : r_last p1 u v true with
        | none =>
          have : oI (r_lastTo p1 u v true (p1.1 6)) = -1 := hoV.mpr hj
          exact absurd this c_73
        | some j =>
          have hj2 : r_lastTo p1 u v true (p1.1 6) = some j := hj
          rw [hj2]
          exact last p1 h1 cW cL f j hfa hJ (by omega) hs44 (r_lastTo_some hj).1 m
      · have hj : r_last p1 u v true = none := hoV.mp c_73
        have hj2 : r_lastTo p1 u v true (p1.1 6) = none := hj
        rw [hj, hj2]
        simp only
        refine wp_aload_n dX2_putField_76 rfl ?_
        refine wp_aload_n dX2_putField_77 rfl ?_
        refine wp_callV (As := [.ref fa]) (rest := []) dX2_putField_78 me_X2_canInsert cw_X2_126 rfl ⟨(Nat.le_of_ble_eq_true rfl), (Nat.le_of_ble_eq_true rfl)⟩ rfl rfl rfl (Nat.le_of_ble_eq_true rfl) m1 (ce_can m hfa ok hu hv hI j28) (fun r h2 q => ?_)
        obtain ⟨rfl, rfl⟩ := q
        refine wp_if_eq (tgt := 102) dX2_putField_81 rfl (fun c_81 => ?_) (fun c_81 => ?_)
        · have hm : r_may p1 (32 + bln u + bln v) = false := b2n_0.mp c_81
          rw [hm, if_neg (by decide)]
          refine wp_iload dX2_putField_102 rfl ?_
          refine wp_iconst (v := (-1)) dX2_putField_104 rfl ?_
          refine wp_icmp_eq (tgt := 126) dX2_putField_105 rfl (fun c_105 => ?_) (fun c_105 => ?_)
          · exact lit p1 h2 cW cL f 0 _ (by decide) hfa hJ (by omega) hs44 m
          · exact absurd rfl c_105
        · have hm : r_may p1 (32 + bln u + bln v) = true := by
            cases hd : r_may p1 (32 + bln u + bln v) with
            | true => rfl
            | false => rw [hd] at c_81; exact absurd rfl c_81
          rw [hm, if_pos rfl]
          have hfit : 32 + bln u + bln v ≤ p1.1 0 := by
            rw [r_may, Bool.and_eq_true] at hm
            simpa using hm.1
          have hJi := hJ.ins hf hu hv hfit
          have i44 : (r_ins p1 u v).1 44 = p1.1 44 := r_ins_k (by decide) (by decide) (by decide) (by decide)
          have i12 : (r_ins p1 u v).1 12 = p1.1 12 := r_ins_k (by decide) (by decide) (by decide) (by decide)
          refine wp_aload_n dX2_putField_84 rfl ?_
          refine wp_aload_n dX2_putField_85 rfl ?_
          refine wp_iload_n dX2_putField_86 rfl ?_
          refine wp_aload_n dX2_putField_87 rfl ?_
          refine wp_callV (As := [.ref fa, .int (oI (fxn u)), .ref wr]) (rest := []) dX2_putField_88 me_X2_insert cw_X2_130 rfl ⟨(Nat.le_of_ble_eq_true rfl), (Nat.le_of_ble_eq_true rfl)⟩ rfl rfl rfl (Nat.le_of_ble_eq_true rfl) m1 (ce_ins m hfa hJ hf hu hv hfit) (fun r h3 q => ?_)
          obtain ⟨rfl, cW1, cL1, mi, qi⟩ := q
          obtain ⟨n1', n2', n3', f1', f2', f3', a1', -⟩ := mi.2.1.ex
          refine wp_aload_n dX2_putField_91 rfl ?_
          refine wp_getf dX2_putField_92 fl_X2_14 mi.1 rfl ?_
          refine wp_getf dX2_putField_95 fl_X2_41 a1' rfl ?_
          refine wp_iconst (v := 1) dX2_putField_98 rfl ?_
          refine wp_isub dX2_putField_99 ?_
          rw [show nI ((r_ins p1 u v).1 6) - 1 = nI (p1.1 6) by rw [r_ins_6]; exact nI_pred _]
          refine wp_istore dX2_putField_100 (Nat.le_of_ble_eq_true rfl) rfl ?_
          have kk := last (r_ins p1 u v) h3 cW1 cL1 (f + 1) (p1.1 6) (qi.2.2.2.2.1.at hfa (by simp [eS])) hJi (by omega) (by omega) (by rw [r_ins_6]; omega) mi
          have h12' := hI.1.2
          have e0 : (p1.1 6 < (r_ins p1 u v).1 12 ∨ rk = true) ↔ rk = true := ⟨fun z => z.elim (fun z => by omega) id, Or.inr⟩
          simp only [e0] at kk
          refine kk.mono (fun r h4 y => qi.step ?_ ?_ y)
          · split
            · exact (r_whole_13 _ _ _).1
            · exact (r_lb_13 _ _ _ _ _ _).1
          · split
            · exact (r_whole_13 _ _ _).2
            · exact (r_lb_13 _ _ _ _ _ _).2
    · have : s = 1 := by
        rcases (show s = 0 ∨ s = 1 by omega) with rfl | rfl
        · exact absurd rfl c_43
        · rfl
      subst this
      rw [if_neg (by decide)]
      refine wp_aload_n dX2_putField_46 rfl ?_
      refine wp_aload_n dX2_putField_47 rfl ?_
      refine wp_iload_n dX2_putField_48 rfl ?_
      refine wp_callV (As := [.ref fa, .int (oI (fxn u))]) (rest := []) dX2_putField_49 me_X2_putLiteral cw_X2_118 rfl ⟨(Nat.le_of_ble_eq_true rfl), (Nat.le_of_ble_eq_true rfl)⟩ rfl rfl rfl (Nat.le_of_ble_eq_true rfl) m1 (ce_lit m hfa ok hu hv (by decide) hb j12 j28 (by omega) (by omega) (by omega)) (fun r h2 y => ?_)
      obtain ⟨rfl, -⟩ := id y
      refine wp_vret dX2_putField_52 rfl ?_
      exact y
  refine fp_meth pn_X2 (Nat.le_of_ble_eq_true rfl) rfl ?_
  refine wp_aload_n dX2_putField_0 rfl ?_
  refine wp_getf dX2_putField_1 fl_X2_100 hfa rfl ?_
  refine wp_callSN (As := [.long (lN u)]) (rest := []) dX2_putField_4 me_X10_fixedNamed cw_X2_104 ⟨(Nat.le_of_ble_eq_true rfl), (Nat.le_of_ble_eq_true rfl)⟩ rfl rfl rfl (Nat.le_of_ble_eq_true rfl) (cc_fixedNamed hu) (fun r h1 q => ?_)
  obtain ⟨q0, rfl⟩ := q
  rw [q0]
  refine wp_istore_n dX2_putField_7 (Nat.le_of_ble_eq_true rfl) rfl ?_
  refine wp_iload_n dX2_putField_8 rfl ?_
  refine wp_iconst (v := (-1)) dX2_putField_9 rfl ?_
  refine wp_icmp_eq (tgt := 39) dX2_putField_10 rfl (fun c_10 => ?_) (fun c_10 => ?_)
  · have hx := hoI.mp c_10
    have hr : r_fixed u v = false := by rw [r_fixed, hx]
    rw [hr, if_neg (by decide)]
    exact rest hr
  · cases hx : fxn u with
    | none => rw [hx] at c_10; exact absurd rfl c_10
    | some k =>
      have hk := fxn_some hx
      refine wp_iload_n dX2_putField_13 rfl ?_
      refine wp_callSN (As := [.int (nI k)]) (rest := []) dX2_putField_14 me_X10_fixedValue cw_X2_108 ⟨(Nat.le_of_ble_eq_true rfl), (Nat.le_of_ble_eq_true rfl)⟩ rfl rfl rfl (Nat.le_of_ble_eq_true rfl) (cc_fixedValue (by omega)) (fun r h2 q => ?_)
      obtain ⟨q0, rfl⟩ := q
      rw [q0]
      have hvk : fxv k < 2 ^ 64 := by unfold fxv; split <;> decide
      refine wp_aload_n dX2_putField_17 rfl ?_
      refine wp_getf dX2_putField_18 fl_X2_112 hfa rfl ?_
      refine wp_lcmp dX2_putField_21 ?_
      refine wp_if_ne (tgt := 39) dX2_putField_22 rfl (fun c_22 => ?_) (fun c_22 => ?_)
      · rw [cmp0, lN_inj hvk hv] at c_22
        have hr : r_fixed u v = false := by rw [r_fixed, hx]; simp; exact c_22
        rw [hr, if_neg (by decide)]
        have := rest hr
        rw [hx] at this
        exact this
      · rw [cmp0, lN_inj hvk hv] at c_22
        have hr : r_fixed u v = true := by rw [r_fixed, hx]; simp; exact c_22
        rw [hr, if_pos rfl]
        refine wp_aload_n dX2_putField_25 rfl ?_
        refine wp_getf dX2_putField_26 fl_X2_34 m1 rfl ?_
        refine wp_sipush (v := 192) dX2_putField_29 rfl ?_
        refine wp_bipush (v := 6) dX2_putField_32 rfl ?_
        refine wp_iload_n dX2_putField_34 rfl ?_
        rw [← hk.2]
        refine wp_callV (As := [.int (nI 192), .int (nI 6), .int (nI k)]) (rest := []) dX2_putField_35 me_X0_putNumber cw_X2_97 rfl ⟨(Nat.le_of_ble_eq_true rfl), (Nat.le_of_ble_eq_true rfl)⟩ rfl rfl rfl (Nat.le_of_ble_eq_true rfl) hln (ce_line (m.sa18 (i := 12 * p1.1 28 + f) (v := 0)) (show p1.1 44 ≤ 1000 by omega) (by decide) (by decide +kernel) (by omega)) (fun r h3 y => ?_)
        obtain ⟨rfl, -⟩ := id y
        refine wp_vret dX2_putField_38 rfl ?_
        exact y
end CE
