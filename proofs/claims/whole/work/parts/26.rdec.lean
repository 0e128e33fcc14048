/-! the reference: decoded -/
def r_mt (p : rs) (x : Int32) (i : Nat) : Bool := nI (p.2.1 11 i) == x && p.2.1 14 i == 2
def r_mc (p : rs) (x : Int32) (i : Nat) : Nat := ((List.range i).filter (r_mt p x)).length
/-- section i is the k-th of stream x that was decoded -/
def r_kth (p : rs) (x : Int32) (k i : Nat) : Prop := i < p.1 28 ∧ r_mt p x i = true ∧ r_mc p x i = k
def r_dv (p : rs) (i f v : Nat) : Nat := if v = 0 then p.2.2 16 (12 * i + f) else if v = 1 then p.2.2 17 (12 * i + f) else b2n (p.2.1 18 (12 * i + f) != 0)
def r_dok (p : rs) (x y z w : Int32) (k i f v : Nat) : Prop := y = nI k ∧ k < 2 ^ 31 ∧ r_kth p x k i ∧ z = nI f ∧ f < p.2.1 15 i ∧ w = nI v ∧ v ≤ 2
theorem r_mc_s (p : rs) (x : Int32) (i : Nat) : r_mc p x (i + 1) = r_mc p x i + b2n (r_mt p x i) := cnt_s _ _
theorem r_mc_mono (p : rs) (x : Int32) (i : Nat) : ∀ n, r_mc p x i ≤ r_mc p x (i + n) := by
  intro n
  induction n with
  | zero => exact Nat.le_refl _
  | succ n ih => rw [show i + (n + 1) = (i + n) + 1 by omega, r_mc_s]; omega
theorem r_kth_uni {p : rs} {x : Int32} {k i j : Nat} (hi : r_kth p x k i) (hj : r_kth p x k j) : i = j := by
  obtain ⟨-, a2, a3⟩ := hi
  obtain ⟨-, b2, b3⟩ := hj
  rcases Nat.lt_trichotomy i j with h | h | h
  · have := r_mc_mono p x (i + 1) (j - (i + 1))
    rw [show i + 1 + (j - (i + 1)) = j by omega, r_mc_s, a2] at this
    simp [b2n] at this
    omega
  · exact h
  · have := r_mc_mono p x (j + 1) (i - (j + 1))
    rw [show j + 1 + (i - (j + 1)) = i by omega, r_mc_s, b2] at this
    simp [b2n] at this
    omega
section RD
variable {G : fp_G} {h0 : fp_H} {m : Nat}
theorem ct_decoded {p : rs} {x y z w : Int32} (ok : rok p) (hc : p.1 28 ≤ 200) (hm : ∀ i, i < p.1 28 → p.2.1 15 i ≤ 12) : fp_ct G rm_X11_decoded M_X11_decoded [.ref m, .int x, .int y, .int z, .int w] (r_hp h0 m p) (fun r h' => h' = r_hp h0 m p ∧ (((¬ ∃ k i f v, r_dok p x y z w k i f v) ∧ r = some (.long (-1))) ∨ ∃ k i f v, r_dok p x y z w k i f v ∧ r = some (.long (lN (r_dv p i f v))))) := by
  refine fp_meth pn_X11 (Nat.le_of_ble_eq_true rfl) rfl ?_
  refine wp_iload_n dX11_decoded_0 rfl ?_
  refine wp_istore dX11_decoded_1 (Nat.le_of_ble_eq_true rfl) rfl ?_
  refine wp_iconst (v := 0) dX11_decoded_3 rfl ?_
  refine wp_istore dX11_decoded_4 (Nat.le_of_ble_eq_true rfl) rfl ?_
  refine wp_eqL (L' := [some (.ref m), some (.int x), some (.int y), some (.int z), some (.int w), some (.int y), some (.int 0), none]) rfl ?_
  have no : ∀ (L2 : List (Option Value)), (¬ ∃ k i f v, r_dok p x y z w k i f v) → fp_wp G rm_X11_decoded M_X11_decoded 143 L2 [] (r_hp h0 m p) (fun r h' => h' = r_hp h0 m p ∧ (((¬ ∃ k i f v, r_dok p x y z w k i f v) ∧ r = some (.long (-1))) ∨ ∃ k i f v, r_dok p x y z w k i f v ∧ r = some (.long (lN (r_dv p i f v))))) := by
    intro L2 hn
    refine wp_ldc2 dX11_decoded_143 kc_X11_254 ?_
    refine wp_lret dX11_decoded_146 rfl ?_
    exact ⟨rfl, Or.inl ⟨hn, rfl⟩⟩
  by_cases hy0 : y < 0
  · have hn : ¬ ∃ k i f v, r_dok p x y z w k i f v := by
      rintro ⟨k, i, f, v, rfl, hk, -⟩
      exact nI_pos hk hy0
    refine wp_iload dX11_decoded_6 rfl ?_
    refine wp_aload_n dX11_decoded_8 rfl ?_
    refine wr_geti 28 dX11_decoded_9 fl_X11_143 ⟨by decide, rfl⟩ ?_
    refine wp_icmp_ge (tgt := 143) dX11_decoded_12 rfl (fun c_12 => ?_) (fun c_12 => ?_)
    · exact no _ hn
    · refine wp_iload_n dX11_decoded_15 rfl ?_
      refine wp_if_lt (tgt := 143) dX11_decoded_16 rfl (fun c_16 => ?_) (fun c_16 => ?_)
      · exact no _ hn
      · exact absurd hy0 c_16
  · obtain ⟨k, hk, rfl⟩ := nI_of hy0
    have loop : ∀ (n i : Nat) (o7 : Option Value), i ≤ p.1 28 → p.1 28 - i < n → r_mc p x i ≤ k → (∀ j, j < i → ¬ r_kth p x k j) → fp_wp G rm_X11_decoded M_X11_decoded 6 [some (.ref m), some (.int x), some (.int (nI k)), some (.int z), some (.int w), some (.int (nI (k - r_mc p x i))), some (.int (nI i)), o7] [] (r_hp h0 m p) (fun r h' => h' = r_hp h0 m p ∧ (((¬ ∃ k' i f v, r_dok p x (nI k) z w k' i f v) ∧ r = some (.long (-1))) ∨ ∃ k' i f v, r_dok p x (nI k) z w k' i f v ∧ r = some (.long (lN (r_dv p i f v))))) := by
      intro n
      induction n with
      | zero => intro i _ _ h2 _ _; omega
      | succ n ih =>
        intro i o7 hi hn hmc hno
        refine wp_iload dX11_decoded_6 rfl ?_
        refine wp_aload_n dX11_decoded_8 rfl ?_
        refine wr_geti 28 dX11_decoded_9 fl_X11_143 ⟨by decide, rfl⟩ ?_
        refine wp_icmp_ge (tgt := 143) dX11_decoded_12 rfl (fun c_12 => ?_) (fun c_12 => ?_)
        · have e : i = p.1 28 := by
            have := (nI_leI (by omega) (by omega)).mp c_12
            omega
          refine no _ ?_
          rintro ⟨k', j, f, v, h1, h2, h3, -⟩
          have := (nI_eq hk h2).mp h1
          subst this
          exact hno j (by rw [e]; exact h3.1) h3
        · have hlt : i < p.1 28 := by
            rcases Nat.lt_or_ge i (p.1 28) with q | q
            · exact q
            · exact absurd (nI_le q (by omega)) c_12
          have hi200 : i < 200 := by omega
          have h14 := ok.2.1 14 i
          have h15 := ok.2.1 15 i
          have hm15 := hm i hlt
          have skip : ∀ o7 : Option Value, r_mt p x i = false → fp_wp G rm_X11_decoded M_X11_decoded 137 [some (.ref m), some (.int x), some (.int (nI k)), some (.int z), some (.int w), some (.int (nI (k - r_mc p x i))), some (.int (nI i)), o7] [] (r_hp h0 m p) (fun r h' => h' = r_hp h0 m p ∧ (((¬ ∃ k' i f v, r_dok p x (nI k) z w k' i f v) ∧ r = some (.long (-1))) ∨ ∃ k' i f v, r_dok p x (nI k) z w k' i f v ∧ r = some (.long (lN (r_dv p i f v))))) := by
            intro o7 hz
            refine wp_iinc dX11_decoded_137 rfl rfl ?_
            refine wp_goto (tgt := 6) dX11_decoded_140 rfl ?_
            rw [show nI i + Int32.ofInt 1 = nI (i + 1) from nI_1 i]
            have e : r_mc p x (i + 1) = r_mc p x i := by rw [r_mc_s, hz]; rfl
            have := ih (i + 1) o7 (by omega) (by omega) (by omega) (fun j hj => by
              rcases (show j < i ∨ j = i by omega) with q | q
              · exact hno j q
              · subst q; intro hkt; rw [hkt.2.1] at hz; cases hz)
            rw [e] at this
            exact this
          refine wp_iload_n dX11_decoded_15 rfl ?_
          refine wp_if_lt (tgt := 143) dX11_decoded_16 rfl (fun c_16 => ?_) (fun c_16 => ?_)
          · exact absurd c_16 hy0
          · refine wp_aload_n dX11_decoded_19 rfl ?_
            refine wr_geta 29 11 dX11_decoded_20 fl_X11_46 ⟨by decide, rfl⟩ ?_
            refine wp_iload dX11_decoded_23 rfl ?_
            refine wr_iald dX11_decoded_25 ⟨by decide, rfl⟩ rfl hi200 (by decide) ?_
            refine wp_iload_n dX11_decoded_26 rfl ?_
            refine wp_icmp_ne (tgt := 137) dX11_decoded_27 rfl (fun c_27 => ?_) (fun c_27 => ?_)
            · exact skip _ (by simp [r_mt, c_27])
            · refine wp_aload_n dX11_decoded_30 rfl ?_
              refine wr_geta 32 14 dX11_decoded_31 fl_X11_55 ⟨by decide, rfl⟩ ?_
              refine wp_iload dX11_decoded_34 rfl ?_
              refine wr_iald dX11_decoded_36 ⟨by decide, rfl⟩ rfl hi200 (by decide) ?_
              refine wp_iconst (v := 2) dX11_decoded_37 rfl ?_
              refine wp_icmp_ne (tgt := 137) dX11_decoded_38 rfl (fun c_38 => ?_) (fun c_38 => ?_)
              · have : p.2.1 14 i ≠ 2 := fun e => c_38 (by rw [e]; rfl)
                exact skip _ (by simp [r_mt, this])
              · have e14 : p.2.1 14 i = 2 := (nI_eq (b := 2) (by omega) (by decide)).mp c_38
                have hmt : r_mt p x i = true := by simp [r_mt, c_27, e14]
                refine wp_iload dX11_decoded_41 rfl ?_
                refine wp_if_ne (tgt := 134) dX11_decoded_43 rfl (fun c_43 => ?_) (fun c_43 => ?_)
                · have hne : k - r_mc p x i ≠ 0 := fun e => c_43 (by rw [e]; rfl)
                  have e : r_mc p x (i + 1) = r_mc p x i + 1 := by rw [r_mc_s, hmt]; rfl
                  refine wp_iinc dX11_decoded_134 rfl rfl ?_
                  refine wp_iinc dX11_decoded_137 rfl rfl ?_
                  refine wp_goto (tgt := 6) dX11_decoded_140 rfl ?_
                  rw [show nI i + Int32.ofInt 1 = nI (i + 1) from nI_1 i, dec1, nI_sub1 (by omega)]
                  have := ih (i + 1) o7 (by omega) (by omega) (by omega) (fun j hj => by
                    rcases (show j < i ∨ j = i by omega) with q | q
                    · exact hno j q
                    · subst q; intro hkt; have := hkt.2.2; omega)
                  rw [e, show k - (r_mc p x i + 1) = k - r_mc p x i - 1 by omega] at this
                  exact this
                · have he : k - r_mc p x i = 0 := (nI_eq (b := 0) (by omega) (by decide)).mp c_43
                  have hkt : r_kth p x k i := ⟨hlt, hmt, by omega⟩
                  have uni : ∀ k' j f v, r_dok p x (nI k) z w k' j f v → k' = k ∧ j = i := by
                    rintro k' j f v ⟨h1, h2, h3, -⟩
                    have := (nI_eq hk h2).mp h1
                    subst this
                    exact ⟨rfl, r_kth_uni h3 hkt⟩
                  have hno2 : ∀ (L2 : List (Option Value)), (¬ ∃ f v, z = nI f ∧ f < p.2.1 15 i ∧ w = nI v ∧ v ≤ 2) → fp_wp G rm_X11_decoded M_X11_decoded 81 L2 [] (r_hp h0 m p) (fun r h' => h' = r_hp h0 m p ∧ (((¬ ∃ k' i f v, r_dok p x (nI k) z w k' i f v) ∧ r = some (.long (-1))) ∨ ∃ k' i f v, r_dok p x (nI k) z w k' i f v ∧ r = some (.long (lN (r_dv p i f v))))) := by
                    intro L2 hn2
                    refine wp_ldc2 dX11_decoded_81 kc_X11_254 ?_
                    refine wp_goto (tgt := 133) dX11_decoded_84 rfl ?_
                    refine wp_lret dX11_decoded_133 rfl ?_
                    refine ⟨rfl, Or.inl ⟨?_, rfl⟩⟩
                    rintro ⟨k', j, f, v, hd⟩
                    obtain ⟨-, rfl⟩ := uni k' j f v hd
                    obtain ⟨-, -, -, h4, h5, h6, h7⟩ := hd
                    exact hn2 ⟨f, v, h4, h5, h6, h7⟩
                  refine wp_bipush (v := 12) dX11_decoded_46 rfl ?_
                  refine wp_iload dX11_decoded_48 rfl ?_
                  refine wp_imul dX11_decoded_50 ?_
                  refine wp_iload_n dX11_decoded_51 rfl ?_
                  refine wp_iadd dX11_decoded_52 ?_
                  refine wp_istore dX11_decoded_53 (Nat.le_of_ble_eq_true rfl) rfl ?_
                  refine wp_iload_n dX11_decoded_55 rfl ?_
                  refine wp_if_lt (tgt := 81) dX11_decoded_56 rfl (fun c_56 => ?_) (fun c_56 => ?_)
                  · refine hno2 _ ?_
                    rintro ⟨f, v, rfl, h5, -⟩
                    exact nI_pos (by omega) c_56
                  · refine wp_iload_n dX11_decoded_59 rfl ?_
                    refine wp_aload_n dX11_decoded_60 rfl ?_
                    refine wr_geta 33 15 dX11_decoded_61 fl_X11_58 ⟨by decide, rfl⟩ ?_
                    refine wp_iload dX11_decoded_64 rfl ?_
                    refine wr_iald dX11_decoded_66 ⟨by decide, rfl⟩ rfl hi200 (by decide) ?_
                    refine wp_icmp_ge (tgt := 81) dX11_decoded_67 rfl (fun c_67 => ?_) (fun c_67 => ?_)
                    · refine hno2 _ ?_
                      rintro ⟨f, v, rfl, h5, -⟩
                      have := (nI_leI (by omega) (by omega)).mp c_67
                      omega
                    · obtain ⟨f, hf, rfl⟩ : ∃ f : Nat, f < p.2.1 15 i ∧ z = nI f := by
                        obtain ⟨j, hj, rfl⟩ := nI_of c_56
                        refine ⟨j, ?_, rfl⟩
                        rcases Nat.lt_or_ge j (p.2.1 15 i) with q | q
                        · exact q
                        · exact absurd (nI_le q hj) c_67
                      have e1 : (12 : Int32) * nI i + nI f = nI (12 * i + f) := by rw [show (12 : Int32) * nI i = nI (12 * i) from pk_mul 12 _, nI_add]
                      refine wp_iload dX11_decoded_70 rfl ?_
                      refine wp_if_lt (tgt := 81) dX11_decoded_72 rfl (fun c_72 => ?_) (fun c_72 => ?_)
                      · refine hno2 _ ?_
                        rintro ⟨f', v, -, -, rfl, h7⟩
                        exact nI_pos (by omega) c_72
                      · refine wp_iload dX11_decoded_75 rfl ?_
                        refine wp_iconst (v := 2) dX11_decoded_77 rfl ?_
                        refine wp_icmp_le (tgt := 87) dX11_decoded_78 rfl (fun c_78 => ?_) (fun c_78 => ?_)
                        · obtain ⟨v, hv, rfl⟩ : ∃ v : Nat, v ≤ 2 ∧ w = nI v := by
                            obtain ⟨j, hj, rfl⟩ := nI_of c_72
                            exact ⟨j, (nI_leI (b := 2) hj (by decide)).mp c_78, rfl⟩
                          have good : ∀ q : Int64, q = lN (r_dv p i f v) → (fun r h' => h' = r_hp h0 m p ∧ (((¬ ∃ k' i' f' v', r_dok p x (nI k) (nI f) (nI v) k' i' f' v') ∧ r = some (.long (-1))) ∨ ∃ k' i' f' v', r_dok p x (nI k) (nI f) (nI v) k' i' f' v' ∧ r = some (Value.long (lN (r_dv p i' f' v'))))) (some (Value.long q)) (r_hp h0 m p) := by
                            intro q hq
                            exact ⟨rfl, Or.inr ⟨k, i, f, v, ⟨rfl, hk, hkt, rfl, hf, rfl, hv⟩, by rw [hq]⟩⟩
                          rcases (show v = 0 ∨ v = 1 ∨ v = 2 by omega) with rfl | rfl | rfl
                          · refine wp_iload dX11_decoded_87 rfl ?_
                            refine wp_if_ne (tgt := 102) dX11_decoded_89 rfl (fun c_89 => ?_) (fun c_89 => ?_)
                            · exact absurd rfl c_89
                            · refine wp_aload_n dX11_decoded_92 rfl ?_
                              refine wr_geta 34 16 dX11_decoded_93 fl_X11_61 ⟨by decide, rfl⟩ ?_
                              refine wp_iload dX11_decoded_96 rfl ?_
                              refine wr_lald dX11_decoded_98 ⟨by decide, rfl⟩ e1 (by show 12 * i + f < 2400; omega) (by decide) ?_
                              refine wp_goto (tgt := 133) dX11_decoded_99 rfl ?_
                              refine wp_lret dX11_decoded_133 rfl ?_
                              exact good _ rfl
                          · refine wp_iload dX11_decoded_87 rfl ?_
                            refine wp_if_ne (tgt := 102) dX11_decoded_89 rfl (fun c_89 => ?_) (fun c_89 => ?_)
                            · refine wp_iload dX11_decoded_102 rfl ?_
                              refine wp_iconst (v := 1) dX11_decoded_104 rfl ?_
                              refine wp_icmp_ne (tgt := 118) dX11_decoded_105 rfl (fun c_105 => ?_) (fun c_105 => ?_)
                              · exact absurd rfl c_105
                              · refine wp_aload_n dX11_decoded_108 rfl ?_
                                refine wr_geta 35 17 dX11_decoded_109 fl_X11_64 ⟨by decide, rfl⟩ ?_
                                refine wp_iload dX11_decoded_112 rfl ?_
                                refine wr_lald dX11_decoded_114 ⟨by decide, rfl⟩ e1 (by show 12 * i + f < 2400; omega) (by decide) ?_
                                refine wp_goto (tgt := 133) dX11_decoded_115 rfl ?_
                                refine wp_lret dX11_decoded_133 rfl ?_
                                exact good _ rfl
                            · exact absurd c_89 (by decide)
                          · have h18 := ok.2.1 18 (12 * i + f)
                            refine wp_iload dX11_decoded_87 rfl ?_
                            refine wp_if_ne (tgt := 102) dX11_decoded_89 rfl (fun c_89 => ?_) (fun c_89 => ?_)
                            · refine wp_iload dX11_decoded_102 rfl ?_
                              refine wp_iconst (v := 1) dX11_decoded_104 rfl ?_
                              refine wp_icmp_ne (tgt := 118) dX11_decoded_105 rfl (fun c_105 => ?_) (fun c_105 => ?_)
                              · refine wp_aload_n dX11_decoded_118 rfl ?_
                                refine wr_geta 36 18 dX11_decoded_119 fl_X11_67 ⟨by decide, rfl⟩ ?_
                                refine wp_iload dX11_decoded_122 rfl ?_
                                refine wr_zald dX11_decoded_124 ⟨by decide, rfl⟩ e1 (by show 12 * i + f < 2400; omega) (by decide) ?_
                                refine wp_if_eq (tgt := 132) dX11_decoded_125 rfl (fun c_125 => ?_) (fun c_125 => ?_)
                                · have : p.2.1 18 (12 * i + f) = 0 := (nI_eq (b := 0) (by omega) (by decide)).mp c_125
                                  refine wp_lconst (v := 0) dX11_decoded_132 rfl ?_
                                  refine wp_lret dX11_decoded_133 rfl ?_
                                  exact good _ (by rw [r_dv, if_neg (by decide), if_neg (by decide), this]; rfl)
                                · have : p.2.1 18 (12 * i + f) ≠ 0 := fun e => c_125 (by rw [e]; rfl)
                                  refine wp_lconst (v := 1) dX11_decoded_128 rfl ?_
                                  refine wp_goto (tgt := 133) dX11_decoded_129 rfl ?_
                                  refine wp_lret dX11_decoded_133 rfl ?_
                                  exact good _ (by rw [r_dv, if_neg (by decide), if_neg (by decide), show (p.2.1 18 (12 * i + f) != 0) = true by simp [this]]; rfl)
                              · exact absurd c_105 (by decide)
                            · exact absurd c_89 (by decide)
                        · refine hno2 _ ?_
                          rintro ⟨f', v, -, -, rfl, h7⟩
                          exact c_78 (nI_le (b := 2) h7 (by decide))
    have := loop (p.1 28 + 1) 0 none (by omega) (by omega) (by simp [r_mc]) (fun j hj => by omega)
    rw [show k - r_mc p x 0 = k by simp [r_mc]] at this
    exact this
end RD
