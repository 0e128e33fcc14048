/-! Encoder.makeSection, the whole -/
theorem byt.cut {h : fp_H} {t a cap : Nat} {xs : List Nat} (hb : byt h t a xs cap) : ∃ r, h.1 a = some (t, .inr (1, [.ref r, .int (nI xs.length)])) ∧ byt (fp_put h a t (.inr (1, [.ref r, .int 0]))) t a [] cap := by
  obtain ⟨r, f, h1, h2, h3, h4, h5⟩ := hb
  refine ⟨r, h1, r, f, fp_put_eq, ?_, Nat.zero_le _, h4, fun i hi => absurd hi (Nat.not_lt_zero _)⟩
  rw [fp_put_ne (kind_ne h2 h1)]
  exact h2
theorem lea0 (p : rs) : lea (r_enc0 p) (p.1 28) = 1073741824 := by
  have : (r_enc0 p).2.1 20 (p.1 28) = 0 := by simp [r_enc0, r_sa]
  unfold lea
  rw [this]
  rfl
theorem oO0 {p : rs} {k : Nat} (hk : k < p.1 28) : oO (r_enc0 p) k = oO p k := by
  have hne : k ≠ p.1 28 := by omega
  have e20 : (r_enc0 p).2.1 20 k = p.2.1 20 k := by simp [r_enc0, r_sa, r_si, hne]
  have e12 : (r_enc0 p).2.1 12 k = p.2.1 12 k := by simp [r_enc0, r_sa, r_si, hne]
  unfold oO lea
  rw [e20, e12, r_enc0_a (show 11 ≠ 12 by decide) (by decide), r_enc0_a (show 19 ≠ 12 by decide) (by decide)]
def mS (T : Nat) : Nat → Prop := fun t => t = 3 ∨ t = 10 ∨ t = 14 ∨ t = 15 ∨ t = 17 ∨ t = T
section CM
variable {G : fp_G} {h : fp_H} {en tb op ln wr cO : Nat} {oa : Nat → Nat} {p : rs} {cW cL : Nat}
/-- the fields that the next section shall have -/
def fLs (h : fp_H) (p : rs) (fs : List Nat) : Prop := fs.length = p.1 2 ∧ ∀ f, f < p.1 2 → ∃ a, fs[f]? = some a ∧ h.1 a = some (9, fO (p.2.2 0 f) (p.2.2 1 f) (p.2.1 2 f))
theorem fLs.kept {h h' : fp_H} {S : Nat → Prop} {p : rs} {fs : List Nat} (hf : fLs h p fs) (hc : cf S h h') (hn : ¬ S 9) : fLs h' p fs := by
  refine ⟨hf.1, fun f hlt => ?_⟩
  obtain ⟨a, h1, h2⟩ := hf.2 f hlt
  exact ⟨a, h1, hc.at h2 hn⟩
set_option maxHeartbeats 4000000 in
theorem cs_make {s T nx cN : Nat} {fs : List Nat} (m : EN G h en tb op ln wr cO oa p cW cL) (hT : T ≠ 3 ∧ T ≠ 10 ∧ T ≠ 14 ∧ T ≠ 15 ∧ T ≠ 17 ∧ T ≠ 9) (ok : rok p) (hs : s < 8) (hnx : lst G h 18 nx fs cN) (hfs : fLs h p fs) (hp2 : p.1 2 ≤ 12) (hJ : r_J (r_enc0 p) 0 0) (hI : r_I (r_enc0 p)) (hcap : (r_mk p s).2.1 12 (p.1 28) ≠ 0 → 32 ≤ p.1 0) (h6 : p.1 6 ≤ 2400) (hcO : cO < 2 ^ 18) (hcO1 : cO ≠ 1) : fp_ct G rm_X2_makeSection M_X2_makeSection [.ref en, .int (nI s), .ref nx, .ref wr] h (fun r h' => ∃ sa cS cW' cL' cO' oa', r = some (.ref sa) ∧ byt h' T sa (r_front (r_mk p s) (p.1 6) ++ wlx (r_mk p s) 44 25) cS ∧ EN G h' en tb op ln wr cO' oa' (r_enc p s) cW' cL' ∧ cf (mS T) h h' ∧ cO' ≠ 1 ∧ cO ≤ cO' ∧ cO' ≤ max cO (2 * (opn p).length + 10) ∧ cW ≤ cW' ∧ cW' ≤ max cW (2 * (r_enc p s).1 13 + 8) ∧ cL' ≤ max cL (2 * 228 + 8) ∧ cL ≤ cL' ∧ h'.2.2 + 2 * cW + 2 * cL + 4 * cO ≤ h.2.2 + 2 * cW' + 2 * cL' + 4 * cO' + 1100) := by
  obtain ⟨⟨x5, x6, x7, x8, m1⟩, m2, m3, ⟨xs, m4⟩, m5, m6, m7⟩ := m
  obtain ⟨n1, n2, n3, f1, f2, f3, a1, -⟩ := m2.ex
  obtain ⟨rl, hl1, hl2⟩ := m4.cut
  have hlen := (show fs.length ≤ cN ∧ cN < 2 ^ 20 by obtain ⟨_, _, _, l2⟩ := id hnx; exact l2.lt)
  refine fp_meth pn_X2 (Nat.le_of_ble_eq_true rfl) rfl ?_
  have c0 : cf (fun x => x = 14) h (fp_put h ln 14 (.inr (1, [.ref rl, .int 0]))) := cf.put1 hl1
  have w0 := c0.wf m7
  have s0 : (fp_put h ln 14 (.inr (1, [.ref rl, .int 0]))).2 = h.2 := rfl
  have b0 : ∀ q, q ≠ ln → (fp_put h ln 14 (.inr (1, [.ref rl, .int 0]))).1 q = h.1 q := fun q hq => fp_put_ne hq
  refine wp_aload_n dX2_makeSection_0 rfl ?_
  refine wp_getf dX2_makeSection_1 fl_X2_34 m1 rfl ?_
  refine wp_iconst (v := 0) dX2_makeSection_4 rfl ?_
  refine wp_putf dX2_makeSection_5 (fs_X2_38 _) hl1 (Nat.le_of_ble_eq_true rfl) rfl rfl ?_
  refine fp_wp_h (h' := fp_put h ln 14 (.inr (1, [.ref rl, .int 0]))) rfl ?_
  generalize fp_put h ln 14 (.inr (1, [.ref rl, .int 0])) = h1 at hl2 c0 w0 s0 b0 ⊢
  have e1 : h1.1 en = some (3, .inr (3, [.ref tb, .int (nI (p.1 1)), .ref op, .int (nI (p.1 12)), .ref ln, .int x5, .int x6, .int x7, .int x8])) := c0.at m1 (by decide)
  refine wp_aload_n dX2_makeSection_8 rfl ?_
  refine wp_aload_n dX2_makeSection_9 rfl ?_
  refine wp_getf dX2_makeSection_10 fl_X2_14 e1 rfl ?_
  refine wp_getf dX2_makeSection_13 fl_X2_41 (c0.at a1 (by decide)) rfl ?_
  refine wp_putf dX2_makeSection_16 (fs_X2_44 _) e1 (Nat.le_of_ble_eq_true rfl) rfl rfl ?_
  refine wp_aload_n dX2_makeSection_19 rfl ?_
  refine wp_iconst (v := 0) dX2_makeSection_20 rfl ?_
  refine wp_putf dX2_makeSection_21 (fs_X2_47 _) fp_put_eq (Nat.le_of_ble_eq_true rfl) rfl rfl ?_
  refine wp_aload_n dX2_makeSection_24 rfl ?_
  refine wp_ldc dX2_makeSection_25 kc_X2_50 ?_
  refine wp_putf dX2_makeSection_27 (fs_X2_51 _) fp_put_eq (Nat.le_of_ble_eq_true rfl) rfl rfl ?_
  refine wp_aload_n dX2_makeSection_30 rfl ?_
  rw [fp_put_put, fp_put_put]
  have c1 : cf (fun x => x = 3) h1 (fp_put h1 en 3 (.inr (3, [.ref tb, .int (nI (p.1 1)), .ref op, .int (nI (p.1 12)), .ref ln, .int (nI (p.1 6)), .int 0, .int 1073741824, .int x8]))) := cf.put1 e1
  have e2 : (fp_put h1 en 3 (.inr (3, [.ref tb, .int (nI (p.1 1)), .ref op, .int (nI (p.1 12)), .ref ln, .int (nI (p.1 6)), .int 0, .int 1073741824, .int x8]))).1 en = some (3, eN p tb op ln (nI (p.1 6)) 0 1073741824 x8) := fp_put_eq
  have s1 : (fp_put h1 en 3 (.inr (3, [.ref tb, .int (nI (p.1 1)), .ref op, .int (nI (p.1 12)), .ref ln, .int (nI (p.1 6)), .int 0, .int 1073741824, .int x8]))).2 = h.2 := s0
  refine fp_wp_h (h' := fp_put h1 en 3 (.inr (3, [.ref tb, .int (nI (p.1 1)), .ref op, .int (nI (p.1 12)), .ref ln, .int (nI (p.1 6)), .int 0, .int 1073741824, .int x8]))) rfl ?_
  generalize fp_put h1 en 3 (.inr (3, [.ref tb, .int (nI (p.1 1)), .ref op, .int (nI (p.1 12)), .ref ln, .int (nI (p.1 6)), .int 0, .int 1073741824, .int x8])) = h2 at c1 e2 s1 ⊢
  have c2 : cf eS h h2 := (c0.mono (fun t ht => Or.inr (Or.inr (Or.inl ht)))).trans (c1.mono (fun t ht => Or.inl ht))
  have hl3 := hl2.kept c1 (by decide)
  have hop : lst G h2 17 op ((opn p).map oa) cO := m5.kept c2 (by simp [eS])
  have hoo : ∀ k ∈ opn p, h2.1 (oa k) = some (9, oO p k) := fun k hk => c2.at (m6 k hk) (by simp [eS])
  -- behind the risk
  have main : fp_wp G rm_X2_makeSection M_X2_makeSection 55 [some (.ref en), some (.int (nI s)), some (.ref nx), some (.ref wr), none] [.int (nI (b2n (r_rk1 p s))), .ref en] h2 (fun r h' => ∃ sa cS cW' cL' cO' oa', r = some (.ref sa) ∧ byt h' T sa (r_front (r_mk p s) (p.1 6) ++ wlx (r_mk p s) 44 25) cS ∧ EN G h' en tb op ln wr cO' oa' (r_enc p s) cW' cL' ∧ cf (mS T) h h' ∧ cO' ≠ 1 ∧ cO ≤ cO' ∧ cO' ≤ max cO (2 * (opn p).length + 10) ∧ cW ≤ cW' ∧ cW' ≤ max cW (2 * (r_enc p s).1 13 + 8) ∧ cL' ≤ max cL (2 * 228 + 8) ∧ cL ≤ cL' ∧ h'.2.2 + 2 * cW + 2 * cL + 4 * cO ≤ h.2.2 + 2 * cW' + 2 * cL' + 4 * cO' + 1100) := by
    have hz : narrow .boolean (.int (nI (b2n (r_rk1 p s)))) = .int (nI (b2n (r_rk1 p s))) := by cases r_rk1 p s <;> rfl
    have hft : fits .boolean (.int (nI (b2n (r_rk1 p s)))) = true := by cases r_rk1 p s <;> rfl
    have rkI : r_mk p s = r_ones (r_enc0 p) (p.1 6) (r_rk1 p s) (p.1 2) := rfl
    generalize r_rk1 p s = rk at hz hft rkI ⊢
    refine wp_putf dX2_makeSection_55 (fs_X2_62 _) e2 (Nat.le_of_ble_eq_true rfl) hz hft ?_
    refine wp_iconst (v := 0) dX2_makeSection_58 rfl ?_
    refine wp_istore dX2_makeSection_59 (Nat.le_of_ble_eq_true rfl) rfl ?_
    have ee : eO (r_enc0 p) (p.1 6) rk tb op ln = .inr (3, [.ref tb, .int (nI (p.1 1)), .ref op, .int (nI (p.1 12)), .ref ln, .int (nI (p.1 6)), .int 0, .int 1073741824, .int (nI (b2n rk))]) := by
      unfold eO
      rw [r_enc0_1 (show 1 ≠ 44 by decide), r_enc0_1 (show 12 ≠ 44 by decide), r_enc0_1 (show 28 ≠ 44 by decide), lea0, show (r_enc0 p).2.1 12 (p.1 28) = 0 by simp [r_enc0, r_sa]]
      rfl
    have c3 : cf (fun x => x = 3) h2 (fp_put h2 en 3 (eO (r_enc0 p) (p.1 6) rk tb op ln)) := cf.put1 e2
    have eop : opn (r_enc0 p) = opn p := by simp only [opn, r_enc0_1 (show 28 ≠ 44 by decide), r_enc0_a (show 13 ≠ 12 by decide) (show 13 ≠ 20 by decide)]
    have em0 : EM G (fp_put h2 en 3 (eO (r_enc0 p) (p.1 6) rk tb op ln)) en tb op ln wr cO oa (r_enc0 p) (p.1 6) rk cW cL := by
      refine ⟨fp_put_eq, ?_, ?_, ?_, by rw [eop]; exact hop.kept c3 (by decide), fun k hk => ?_, c3.wf (c2.wf m7)⟩
      · have := (m2.kept (c0.trans (cf.refl)) (by decide)).kept c1 (by decide)
        rw [r_enc0_l, r_enc0_1 (show 0 ≠ 44 by decide), r_enc0_1 (show 10 ≠ 44 by decide), r_enc0_1 (show 6 ≠ 44 by decide), r_enc0_1 (show 11 ≠ 44 by decide)]
        exact this.kept c3 (by decide)
      · have : wlx (r_enc0 p) 13 6 = wlx p 13 6 := by simp only [wlx, r_enc0_1 (show 13 ≠ 44 by decide), r_enc0_a (show 6 ≠ 12 by decide) (show 6 ≠ 20 by decide)]
        rw [this]
        exact ((m3.kept c0 (by decide)).kept c1 (by decide)).kept c3 (by decide)
      · have : wlx (r_enc0 p) 44 25 = [] := by simp [wlx, r_enc0, r_si, r_sa]
        rw [this]
        exact hl3.kept c3 (by decide)
      · rw [eop] at hk
        rw [oO0 (opn_mem.mp hk).1]
        exact c3.at (hoo k hk) (by decide)
    have s3 : (fp_put h2 en 3 (eO (r_enc0 p) (p.1 6) rk tb op ln)).2 = h.2 := s1
    have c4 : cf eS h (fp_put h2 en 3 (eO (r_enc0 p) (p.1 6) rk tb op ln)) := c2.trans (c3.mono (fun t ht => Or.inl ht))
    rw [ee] at em0 s3 c4
    refine fp_wp_h (h' := fp_put h2 en 3 (.inr (3, [.ref tb, .int (nI (p.1 1)), .ref op, .int (nI (p.1 12)), .ref ln, .int (nI (p.1 6)), .int 0, .int 1073741824, .int (nI (b2n rk))]))) rfl ?_
    generalize fp_put h2 en 3 (.inr (3, [.ref tb, .int (nI (p.1 1)), .ref op, .int (nI (p.1 12)), .ref ln, .int (nI (p.1 6)), .int 0, .int 1073741824, .int (nI (b2n rk))])) = h3 at em0 s3 c4 ⊢
    have e44 : (r_enc0 p).1 44 = 0 := by simp [r_enc0, r_si, r_sa]
    have q0 : eQ h h3 (r_enc0 p) cW cL cW cL := ⟨Nat.le_refl _, Nat.le_refl _, Nat.le_max_left _ _, Nat.le_max_left _ _, c4, by rw [s3]; exact Nat.le_refl _⟩
    -- the loop over the fields
    have loop : ∀ (g f : Nat) (h4 : fp_H) (cW1 cL1 : Nat), g + f = p.1 2 → EM G h4 en tb op ln wr cO oa (r_ones (r_enc0 p) (p.1 6) rk f) (p.1 6) rk cW1 cL1 → eQ h h4 (r_ones (r_enc0 p) (p.1 6) rk f) cW cL cW1 cL1 → fp_wp G rm_X2_makeSection M_X2_makeSection 61 [some (.ref en), some (.int (nI s)), some (.ref nx), some (.ref wr), some (.int (nI f))] [] h4 (fun r h' => ∃ sa cS cW' cL' cO' oa', r = some (.ref sa) ∧ byt h' T sa (r_front (r_mk p s) (p.1 6) ++ wlx (r_mk p s) 44 25) cS ∧ EN G h' en tb op ln wr cO' oa' (r_enc p s) cW' cL' ∧ cf (mS T) h h' ∧ cO' ≠ 1 ∧ cO ≤ cO' ∧ cO' ≤ max cO (2 * (opn p).length + 10) ∧ cW ≤ cW' ∧ cW' ≤ max cW (2 * (r_enc p s).1 13 + 8) ∧ cL' ≤ max cL (2 * 228 + 8) ∧ cL ≤ cL' ∧ h'.2.2 + 2 * cW + 2 * cL + 4 * cO ≤ h.2.2 + 2 * cW' + 2 * cL' + 4 * cO' + 1100) := by
      intro g
      induction g with
      | zero =>
        intro f h4 cW1 cL1 hf em eq
        have : f = p.1 2 := by omega
        subst this
        rw [← rkI] at em eq
        have hJf := r_ones_J (base := p.1 6) (risk := rk) hJ (by omega) e44 (p.1 2) hp2
        rw [← rkI] at hJf
        have cnx := eq.2.2.2.2.1
        have hnx4 := hnx.kept cnx (by simp [eS])
        obtain ⟨mc, ed, l1, -⟩ := id hnx4
        have m28 := r_mk_28 p s
        have e13 : (r_enc p s).1 13 = (r_mk p s).1 13 := r_enc_1 (by decide) (by decide) (by decide)
        have opm : opn (r_mk p s) = opn p := by
          unfold opn
          rw [m28, rkI, r_ones_a (by decide) (by decide) (by decide) (by decide) (by decide) (by decide) (by decide), r_enc0_a (by decide) (by decide)]
        have e1' : (r_enc p s).1 1 = (r_mk p s).1 1 := r_enc_1 (by decide) (by decide) (by decide)
        have e12' : (r_enc p s).1 12 = (r_mk p s).1 12 := r_enc_1 (by decide) (by decide) (by decide)
        have ewl : wlx (r_enc p s) 13 6 = wlx (r_mk p s) 13 6 := by unfold wlx; rw [e13, r_enc_a (by decide) (by decide) (by decide) (by decide) (by decide) (by decide) (by decide)]
        have leq : ∀ k, lea (r_enc p s) k = lea (r_mk p s) k := fun k => by unfold lea; rw [r_enc_a (show 19 ≠ 11 by decide) (by decide) (by decide) (by decide) (by decide) (by decide) (by decide), r_enc_a (show 20 ≠ 11 by decide) (by decide) (by decide) (by decide) (by decide) (by decide) (by decide)]
        have a12 : (r_enc p s).2.1 12 = (r_mk p s).2.1 12 := r_enc_a (by decide) (by decide) (by decide) (by decide) (by decide) (by decide) (by decide)
        have oeq : ∀ k, k ≠ p.1 28 → oO (r_enc p s) k = oO (r_mk p s) k := fun k hk => by unfold oO; rw [leq, a12, r_enc_11, if_neg hk]
        obtain ⟨k1, k2, k3, k4, k5, k6, k7⟩ := em
        obtain ⟨y1, y2, y3, y4, y5, y6⟩ := eq
        have tb' : tbl h4 15 tb ((r_enc p s).1 0) ((r_enc p s).2.2 3) ((r_enc p s).2.2 4) ((r_enc p s).1 10) ((r_enc p s).1 6) ((r_enc p s).1 11) := by
          rw [r_enc_l, r_enc_1 (show 0 ≠ 2 by decide) (by decide) (by decide), r_enc_1 (show 10 ≠ 2 by decide) (by decide) (by decide), r_enc_1 (show 6 ≠ 2 by decide) (by decide) (by decide), r_enc_1 (show 11 ≠ 2 by decide) (by decide) (by decide)]
          exact k2
        have hlenO : (opn p).length ≤ 200 := by
          have := cnt_le (fun k => p.2.1 13 k != 0) (p.1 28)
          have := hJ.2.1
          rw [r_enc0_1 (show 28 ≠ 44 by decide)] at this
          show ((List.range (p.1 28)).filter (fun k => p.2.1 13 k != 0)).length ≤ 200
          omega
        refine wp_iload dX2_makeSection_61 rfl ?_
        refine wp_aload_n dX2_makeSection_63 rfl ?_
        refine wp_callV (As := []) (rest := [.int (nI (p.1 2))]) dX2_makeSection_64 me_Jx4a65c_size_8abf5 cw_X2_66 rfl ⟨(Nat.le_of_ble_eq_true rfl), (Nat.le_of_ble_eq_true rfl)⟩ rfl rfl rfl (Nat.le_of_ble_eq_true rfl) l1 (ct_lsize hnx4) (fun r h5 q => ?_)
        obtain ⟨q0, rfl⟩ := q
        rw [q0, hfs.1]
        refine wp_icmp_ge (tgt := 90) dX2_makeSection_67 rfl (fun c_67 => ?_) (fun c_67 => ?_)
        · -- behind the fields
          have hneed := hJf.1.1.2.1 12 (p.1 28)
          have k1R : h4.1 en = some (3, .inr (3, [.ref tb, .int (nI ((r_mk p s).1 1)), .ref op, .int (nI ((r_mk p s).1 12)), .ref ln, .int (nI (p.1 6)), .int (nI ((r_mk p s).2.1 12 (p.1 28))), .int (nI (lea (r_mk p s) (p.1 28))), .int (nI (b2n rk))])) := by rw [k1]; unfold eO; rw [m28]
          have tail : ∀ (h5 : fp_H) (cO' : Nat) (oa' : Nat → Nat), cf (mS T) h h5 → cf (fun x => x = 17) h4 h5 → lst G h5 17 op ((opn (r_enc p s)).map oa') cO' → (∀ k ∈ opn (r_enc p s), h5.1 (oa' k) = some (9, oO (r_enc p s) k)) → cO' ≠ 1 → cO ≤ cO' → cO' ≤ max cO (2 * (opn p).length + 10) → h5.2.2 + 2 * cW + 2 * cL + 4 * cO ≤ h.2.2 + 2 * cW1 + 2 * cL1 + 4 * cO' + 3 → fp_wp G rm_X2_makeSection M_X2_makeSection 121 [some (.ref en), some (.int (nI s)), some (.ref nx), some (.ref wr), some (.int (nI (p.1 2)))] [] h5 (fun r h' => ∃ sa cS cW' cL' cO' oa', r = some (.ref sa) ∧ byt h' T sa (r_front (r_mk p s) (p.1 6) ++ wlx (r_mk p s) 44 25) cS ∧ EN G h' en tb op ln wr cO' oa' (r_enc p s) cW' cL' ∧ cf (mS T) h h' ∧ cO' ≠ 1 ∧ cO ≤ cO' ∧ cO' ≤ max cO (2 * (opn p).length + 10) ∧ cW ≤ cW' ∧ cW' ≤ max cW (2 * (r_enc p s).1 13 + 8) ∧ cL' ≤ max cL (2 * 228 + 8) ∧ cL ≤ cL' ∧ h'.2.2 + 2 * cW + 2 * cL + 4 * cO ≤ h.2.2 + 2 * cW' + 2 * cL' + 4 * cO' + 1100) := by
            intro h5 cO' oa' d0 d1 d2 d3 d4 d5 d6 d7
            have hT3 : ∀ t, t ≠ T → ¬ (fun x => x = T) t := fun t ht e => ht e
            refine (cs_tail (T := T) (d1.at k1 (by decide)) (k2.kept d1 (by decide)) (k4.kept d1 (by decide)) (d1.wf k7) ⟨hT.1, hT.2.2.2.1, hT.2.2.1⟩ hJf.1.1 (by omega) (by rw [m28]; intro z; rw [rkI, r_ones_k (by decide) (by decide) (by decide) (by decide) (by decide), r_enc0_1 (by decide)]; exact hcap z) (by omega)).mono (fun r h' z => ?_)
            obtain ⟨sa, cS, z1, z2, z3, z4, z5⟩ := z
            have n9 := hT3 9 (Ne.symm hT.2.2.2.2.2)
            refine ⟨sa, cS, cW1, cL1, cO', oa', z1, z2, ⟨⟨nI (p.1 6), nI ((r_mk p s).2.1 12 (p.1 28)), nI (lea (r_mk p s) (p.1 28)), nI (b2n rk), ?_⟩, (tb'.kept d1 (by decide)).kept z3 (hT3 15 (Ne.symm hT.2.2.2.1)), ?_, ⟨_, (k4.kept d1 (by decide)).kept z3 (hT3 14 (Ne.symm hT.2.2.1))⟩, d2.kept z3 (hT3 17 (Ne.symm hT.2.2.2.2.1)), fun k hk => z3.at (d3 k hk) n9, z3.wf (d1.wf k7)⟩, ?_, d4, d5, d6, y1, by rw [e13]; exact y3, ?_, y2, ?_⟩
            · have := z3.at (d1.at k1R (by decide)) (hT3 3 (Ne.symm hT.1))
              rw [this]
              unfold eN
              rw [e1', e12']
            · rw [ewl]
              exact (k3.kept d1 (by decide)).kept z3 (hT3 10 (Ne.symm hT.2.1))
            · exact d0.trans (z3.mono (fun t ht => Or.inr (Or.inr (Or.inr (Or.inr (Or.inr ht))))))
            · have := hJf.2
              omega
            · have := hJf.2
              omega
          refine wp_aload_n dX2_makeSection_90 rfl ?_
          refine wp_getf dX2_makeSection_91 fl_X2_47 k1R rfl ?_
          refine wp_if_le (tgt := 121) dX2_makeSection_94 rfl (fun c_94 => ?_) (fun c_94 => ?_)
          · have hz : (r_mk p s).2.1 12 (p.1 28) = 0 := by
              have := (nI_leI (b := 0) (by omega) (by decide)).mp c_94
              omega
            have eO1 : opn (r_enc p s) = opn p := by rw [opn_enc, opm, if_neg (by omega), List.append_nil]
            refine tail h4 cO oa (y5.mono (fun t ht => by rcases ht with z | z | z | z; exact Or.inl z; exact Or.inr (Or.inl z); exact Or.inr (Or.inr (Or.inl z)); exact Or.inr (Or.inr (Or.inr (Or.inl z))))) cf.refl (by rw [eO1, ← opm]; exact k5) (fun k hk => ?_) hcO1 (Nat.le_refl _) (Nat.le_max_left _ _) (by omega)
            rw [eO1] at hk
            rw [oeq k (by have := (opn_mem.mp hk).1; omega)]
            exact k6 k (by rw [opm]; exact hk)
          · have hz : 0 < (r_mk p s).2.1 12 (p.1 28) := by
              rcases Nat.eq_zero_or_pos ((r_mk p s).2.1 12 (p.1 28)) with q | q
              · exact absurd (by rw [q]; decide) c_94
              · exact q
            obtain ⟨mc5, ed5, l5, -⟩ := id k5
            have en1 := (fp_new_ne (t := 9) (k := 3) (e := .inr (6, [.int 0, .int 0, .int 0])) (k7.ne k1R)).trans k1R
            refine wp_aload_n dX2_makeSection_97 rfl ?_
            refine wp_getf dX2_makeSection_98 fl_X2_27 k1R rfl ?_
            refine wp_new 9 dX2_makeSection_101 nw_X2_78 ?_
            refine wp_dup dX2_makeSection_104 rfl ?_
            refine wp_iload_n dX2_makeSection_105 rfl ?_
            refine wp_aload_n dX2_makeSection_106 rfl ?_
            refine wp_getf dX2_makeSection_107 fl_X2_47 en1 rfl ?_
            refine wp_aload_n dX2_makeSection_110 rfl ?_
            refine wp_getf dX2_makeSection_111 fl_X2_51 en1 rfl ?_
            refine wp_callI (As := [.int (nI s), .int (nI ((r_mk p s).2.1 12 (p.1 28))), .int (nI (lea (r_mk p s) (p.1 28)))]) (rest := [.ref h4.2.1, .ref op]) dX2_makeSection_114 me_X5_init rfl cw_X2_80 rfl ⟨(Nat.le_of_ble_eq_true rfl), (Nat.le_of_ble_eq_true rfl)⟩ rfl rfl rfl (Nat.le_of_ble_eq_true rfl) (cc_onew fp_new_eq) (fun r h6 q => ?_)
            obtain ⟨rfl, rfl⟩ := q
            have d1 : cf (fun x => False) h4 (fp_put (fp_new h4 9 (.inr (6, [.int 0, .int 0, .int 0])) 3) h4.2.1 9 (.inr (6, [.int (nI s), .int (nI ((r_mk p s).2.1 12 (p.1 28))), .int (nI (lea (r_mk p s) (p.1 28)))]))) := by
              refine ⟨⟨Nat.le_succ _, Nat.le_add_right _ _, fun w => (w.new).put fp_new_eq, fun q t e hq _ => ?_⟩, by show h4.2.1 + 1 + h4.2.2 ≤ h4.2.1 + (h4.2.2 + 3); omega⟩
              rw [fp_put_ne (k7.ne hq), fp_new_ne (k7.ne hq)]
              exact hq
            have d2 : (fp_put (fp_new h4 9 (.inr (6, [.int 0, .int 0, .int 0])) 3) h4.2.1 9 (.inr (6, [.int (nI s), .int (nI ((r_mk p s).2.1 12 (p.1 28))), .int (nI (lea (r_mk p s) (p.1 28)))]))).1 h4.2.1 = some (9, .inr (6, [.int (nI s), .int (nI ((r_mk p s).2.1 12 (p.1 28))), .int (nI (lea (r_mk p s) (p.1 28)))])) := fp_put_eq
            have d3 : (fp_put (fp_new h4 9 (.inr (6, [.int 0, .int 0, .int 0])) 3) h4.2.1 9 (.inr (6, [.int (nI s), .int (nI ((r_mk p s).2.1 12 (p.1 28))), .int (nI (lea (r_mk p s) (p.1 28)))]))).2.2 = h4.2.2 + 3 := rfl
            generalize fp_put (fp_new h4 9 (.inr (6, [.int 0, .int 0, .int 0])) 3) h4.2.1 9 (.inr (6, [.int (nI s), .int (nI ((r_mk p s).2.1 12 (p.1 28))), .int (nI (lea (r_mk p s) (p.1 28)))])) = h6 at d1 d2 d3 ⊢
            generalize h4.2.1 = na at d2 ⊢
            have ff : ∀ t : Nat, ¬ (fun x : Nat => False) t := fun t z => z
            refine wp_callV (As := [.ref na]) (rest := []) dX2_makeSection_117 me_Jx4a65c_add_9ea2d cw_X2_83 rfl ⟨(Nat.le_of_ble_eq_true rfl), (Nat.le_of_ble_eq_true rfl)⟩ rfl rfl rfl (Nat.le_of_ble_eq_true rfl) (d1.at l5 (ff 17)) (ct_ladd (d1.wf k7) (k5.kept d1 (ff 17)) hcO hcO1 (fun y hy => ?hel) d2 (by decide) rfl ca_X5_Object) (fun r h7 q => ?_)
            case hel =>
              obtain ⟨k, hk, rfl⟩ := List.mem_map.mp hy
              exact ⟨9, 6, _, _, d1.at (k6 k hk) (ff 9), rfl, ca_X5_Object⟩
            obtain ⟨cO', rfl, g1, g2, g3, g4, g5, g6⟩ := q
            refine wp_pop dX2_makeSection_120 rfl ?_
            rw [List.length_map, opm] at g4
            have d17 : cf (fun x => x = 17) h4 h7 := (d1.mono (fun t z => z.elim)).trans g5
            have eO1 : opn (r_enc p s) = opn p ++ [p.1 28] := by rw [opn_enc, opm, if_pos hz]
            have hmem : ∀ k ∈ opn p, k ≠ p.1 28 := fun k hk => by have := (opn_mem.mp hk).1; omega
            refine tail h7 cO' (fun k => if k = p.1 28 then na else oa k) ?_ d17 ?_ (fun k hk => ?_) g2 g3 g4 (by omega)
            · exact (y5.mono (fun t ht => by rcases ht with z | z | z | z; exact Or.inl z; exact Or.inr (Or.inl z); exact Or.inr (Or.inr (Or.inl z)); exact Or.inr (Or.inr (Or.inr (Or.inl z))))).trans (d17.mono (fun t z => Or.inr (Or.inr (Or.inr (Or.inr (Or.inl z))))))
            · rw [eO1, List.map_append]
              have e9 : (opn p).map (fun k => if k = p.1 28 then na else oa k) = (opn (r_mk p s)).map oa := by
                rw [opm]
                apply List.map_congr_left
                intro k hk
                rw [if_neg (hmem k hk)]
              rw [e9]
              simp only [List.map_cons, List.map_nil, if_pos]
              exact g1
            · rw [eO1] at hk
              rcases List.mem_append.mp hk with hk | hk
              · show h7.1 (if k = p.1 28 then na else oa k) = _
                rw [if_neg (hmem k hk), oeq k (hmem k hk)]
                exact d17.at (k6 k (by rw [opm]; exact hk)) (by decide)
              · rw [List.mem_singleton] at hk
                subst hk
                show h7.1 (if p.1 28 = p.1 28 then na else oa (p.1 28)) = _
                rw [if_pos rfl]
                have := g5.at d2 (by decide)
                rw [this]
                unfold oO
                rw [leq, a12, r_enc_11, if_pos rfl]
        · exact absurd (nI_le (Nat.le_refl _) (by omega)) c_67
      | succ g ih =>
        intro f h4 cW1 cL1 hf em eq
        have cnx := eq.2.2.2.2.1
        have hnx4 := hnx.kept cnx (by simp [eS])
        obtain ⟨mc, ed, l1, -⟩ := id hnx4
        obtain ⟨fa, hfa1, hfa2⟩ := hfs.2 f (by omega)
        have hfa3 := cnx.at hfa2 (by simp [eS])
        have hJf := r_ones_J (base := p.1 6) (risk := rk) hJ (by omega) e44 f (by omega)
        have hIf := r_ones_I (base := p.1 6) (risk := rk) hJ hI (by omega) e44 f (by omega)
        refine wp_iload dX2_makeSection_61 rfl ?_
        refine wp_aload_n dX2_makeSection_63 rfl ?_
        refine wp_callV (As := []) (rest := [.int (nI f)]) dX2_makeSection_64 me_Jx4a65c_size_8abf5 cw_X2_66 rfl ⟨(Nat.le_of_ble_eq_true rfl), (Nat.le_of_ble_eq_true rfl)⟩ rfl rfl rfl (Nat.le_of_ble_eq_true rfl) l1 (ct_lsize hnx4) (fun r h5 q => ?_)
        obtain ⟨q0, rfl⟩ := q
        rw [q0, hfs.1]
        refine wp_icmp_ge (tgt := 90) dX2_makeSection_67 rfl (fun c_67 => ?_) (fun c_67 => ?_)
        · have := (nI_leI (by omega) (by omega)).mp c_67
          omega
        · refine wp_aload_n dX2_makeSection_70 rfl ?_
          refine wp_aload_n dX2_makeSection_71 rfl ?_
          refine wp_iload dX2_makeSection_72 rfl ?_
          refine wp_callV (As := [.int (nI f)]) (rest := [.ref en]) dX2_makeSection_74 me_Jx4a65c_get_915e3 cw_X2_68 rfl ⟨(Nat.le_of_ble_eq_true rfl), (Nat.le_of_ble_eq_true rfl)⟩ rfl rfl rfl (Nat.le_of_ble_eq_true rfl) l1 (ct_lget hnx4 hfa1) (fun r h6 q => ?_)
          obtain ⟨q0, rfl⟩ := q
          rw [q0]
          refine wp_cast dX2_makeSection_77 ck_X2_72 hfa3 rfl ca_X3_X3 ?_
          refine wp_aload_n dX2_makeSection_80 rfl ?_
          have e0 : (r_ones (r_enc0 p) (p.1 6) rk f).2.2 0 = p.2.2 0 := by rw [r_ones_l (by decide) (by decide) (by decide) (by decide), r_enc0_l]
          have e1 : (r_ones (r_enc0 p) (p.1 6) rk f).2.2 1 = p.2.2 1 := by rw [r_ones_l (by decide) (by decide) (by decide) (by decide), r_enc0_l]
          have e2 : (r_ones (r_enc0 p) (p.1 6) rk f).2.1 2 = p.2.1 2 := by rw [r_ones_a (by decide) (by decide) (by decide) (by decide) (by decide) (by decide) (by decide), r_enc0_a (by decide) (by decide)]
          refine wp_callV (As := [.ref fa, .ref wr]) (rest := []) dX2_makeSection_81 me_X2_putField cw_X2_74 rfl ⟨(Nat.le_of_ble_eq_true rfl), (Nat.le_of_ble_eq_true rfl)⟩ rfl rfl rfl (Nat.le_of_ble_eq_true rfl) em.1 (ce_field em (by rw [e0, e1, e2]; exact hfa3) hIf hJf.1 (by omega) (by omega) hJf.2) (fun r h7 z => ?_)
          obtain ⟨rfl, cW2, cL2, z1, z2⟩ := z
          refine wp_iinc dX2_makeSection_84 rfl rfl ?_
          refine wp_goto (tgt := 61) dX2_makeSection_87 rfl ?_
          rw [show nI f + Int32.ofInt 1 = nI (f + 1) from nI_1 f]
          refine ih (f + 1) h7 cW2 cL2 (by omega) z1 ?_
          have st := r_one_13 (p := r_ones (r_enc0 p) (p.1 6) rk f) (f := f) (base := p.1 6) (risk := rk)
          obtain ⟨y1, y2, y3, y4, y5, y6⟩ := eq
          obtain ⟨v1, v2, v3, v4, v5, v6⟩ := z2
          rw [r_ones]
          exact ⟨by omega, by omega, by omega, by omega, y5.trans v5, by omega⟩
    exact loop (p.1 2) 0 h3 cW cL rfl em0 q0
  refine wp_aload_n dX2_makeSection_31 rfl ?_
  refine wp_iload_n dX2_makeSection_32 rfl ?_
  refine wp_callV (As := [.int (nI s)]) (rest := [.ref en]) dX2_makeSection_33 me_X2_isAtRisk cw_X2_54 rfl ⟨(Nat.le_of_ble_eq_true rfl), (Nat.le_of_ble_eq_true rfl)⟩ rfl rfl rfl (Nat.le_of_ble_eq_true rfl) e2 (cs_isAtRisk e2 hop hoo ok (by omega)) (fun r h3 q => ?_)
  obtain ⟨q0, rfl⟩ := q
  rw [q0]
  refine wp_if_ne (tgt := 50) dX2_makeSection_36 rfl (fun c_36 => ?_) (fun c_36 => ?_)
  · have hr : r_risk p s = true := by
      cases hd : r_risk p s with
      | true => rfl
      | false => rw [hd] at c_36; exact absurd rfl c_36
    refine wp_iconst (v := 1) dX2_makeSection_50 rfl ?_
    refine wp_goto (tgt := 55) dX2_makeSection_51 rfl ?_
    rw [show r_rk1 p s = true by rw [r_rk1, hr, Bool.true_or]] at main
    exact main
  · have hr : r_risk p s = false := by
      cases hd : r_risk p s with
      | false => rfl
      | true => rw [hd] at c_36; exact absurd c_36 (by decide)
    refine wp_aload_n dX2_makeSection_39 rfl ?_
    refine wp_callV (As := []) (rest := [.ref en]) dX2_makeSection_40 me_X2_streamsAtRisk cw_X2_58 rfl ⟨(Nat.le_of_ble_eq_true rfl), (Nat.le_of_ble_eq_true rfl)⟩ rfl rfl rfl (Nat.le_of_ble_eq_true rfl) e2 (cs_streams e2 hop hoo ok) (fun r h4 q => ?_)
    obtain ⟨q0, rfl⟩ := q
    rw [q0]
    have hr8 : r_atRisk p ≤ 8 := cnt_le _ _
    have o1 := ok.1 1
    refine wp_aload_n dX2_makeSection_43 rfl ?_
    refine wp_getf dX2_makeSection_44 fl_X2_20 e2 rfl ?_
    refine wp_icmp_ge (tgt := 54) dX2_makeSection_47 rfl (fun c_47 => ?_) (fun c_47 => ?_)
    · have hge : p.1 1 ≤ r_atRisk p := (nI_leI (by omega) (by omega)).mp c_47
      refine wp_iconst (v := 0) dX2_makeSection_54 rfl ?_
      rw [show r_rk1 p s = false by rw [r_rk1, hr, Bool.false_or]; exact decide_eq_false (by omega)] at main
      exact main
    · have hlt : r_atRisk p < p.1 1 := by
        rcases Nat.lt_or_ge (r_atRisk p) (p.1 1) with q | q
        · exact q
        · exact absurd (nI_le q (by omega)) c_47
      refine wp_iconst (v := 1) dX2_makeSection_50 rfl ?_
      refine wp_goto (tgt := 55) dX2_makeSection_51 rfl ?_
      rw [show r_rk1 p s = true by rw [r_rk1, hr, Bool.false_or]; exact decide_eq_true hlt] at main
      exact main
end CM
