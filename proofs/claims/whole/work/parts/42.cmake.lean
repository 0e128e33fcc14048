/-! Encoder.makeSection -/
theorem r_ins_l {p : rs} {u v j : Nat} (h3 : j ≠ 3) (h4 : j ≠ 4) : (r_ins p u v).2.2 j = p.2.2 j := by
  have : (r_ins p u v).2.2 j = (r_ev (r_lays p 0 (r_ib p u v)) (32 + bln u + bln v) (p.1 6 - p.1 10)).2.2 j := by funext i; simp [r_ins, r_app, r_si, r_sa, r_sl, h3, h4]
  rw [this, r_ev_a, r_lays_l]
theorem r_lb_a {q : rs} {u v s base j : Nat} {risk : Bool} (h12 : j ≠ 12) (h19 : j ≠ 19) (h20 : j ≠ 20) (h25 : j ≠ 25) : (r_lb q u v s base risk).2.1 j = q.2.1 j := by
  have l2 : ∀ (q : rs) (l : List Nat), (r_lays q 2 l).2.1 j = q.2.1 j := fun q l => r_lays_a (show j ≠ r_wa 2 from h25) l q
  unfold r_lb
  rw [l2]
  cases fxn u with
  | some x => simp only [l2]
  | none =>
    cases r_last q u 0 false with
    | none => simp only [l2]
    | some i =>
      simp only
      split
      · rw [l2]; funext y; simp [r_ref, r_sa, h12, h19, h20]
      · rw [l2]
theorem r_lb_l {q : rs} {u v s base : Nat} {risk : Bool} : (r_lb q u v s base risk).2.2 = q.2.2 := by
  unfold r_lb
  rw [r_lays_l]
  cases fxn u with
  | some x => simp only [r_lays_l]
  | none =>
    cases r_last q u 0 false with
    | none => simp only [r_lays_l]
    | some i =>
      simp only
      split
      · rw [r_lays_l]; rfl
      · rw [r_lays_l]
theorem r_whole_a {q : rs} {i base j : Nat} (h12 : j ≠ 12) (h19 : j ≠ 19) (h20 : j ≠ 20) (h25 : j ≠ 25) : (r_whole q i base).2.1 j = q.2.1 j := by
  unfold r_whole
  rw [r_lays_a (show j ≠ r_wa 2 from h25)]
  funext y
  simp [r_ref, r_sa, h12, h19, h20]
theorem r_whole_l {q : rs} {i base : Nat} : (r_whole q i base).2.2 = q.2.2 := by
  unfold r_whole
  rw [r_lays_l]
  rfl
theorem r_says_a {p : rs} {f j : Nat} (h18 : j ≠ 18) : (r_says p f).2.1 j = p.2.1 j := by funext i; simp [r_says, r_sa, r_sl, h18]
theorem r_says_l {p : rs} {f j : Nat} (h16 : j ≠ 16) (h17 : j ≠ 17) : (r_says p f).2.2 j = p.2.2 j := by funext i; simp [r_says, r_sa, r_sl, h16, h17]
theorem r_one_a {p : rs} {f base j : Nat} {risk : Bool} (h5 : j ≠ 5) (h6 : j ≠ 6) (h12 : j ≠ 12) (h18 : j ≠ 18) (h19 : j ≠ 19) (h20 : j ≠ 20) (h25 : j ≠ 25) : (r_one p f base risk).2.1 j = p.2.1 j := by
  unfold r_one
  split
  · rw [r_lays_a (show j ≠ r_wa 2 from h25), ← r_says_a (p := p) (f := f) h18]; funext i; simp [r_sa, h18]
  · split
    · unfold r_oneV
      cases r_last (r_says p f) (p.2.2 0 f) (p.2.2 1 f) true with
      | some i =>
        simp only
        split
        · rw [r_whole_a h12 h19 h20 h25, r_says_a h18]
        · rw [r_lb_a h12 h19 h20 h25, r_says_a h18]
      | none =>
        simp only
        split
        · split
          · rw [r_whole_a h12 h19 h20 h25, r_ins_a h5 h6, r_says_a h18]
          · rw [r_lb_a h12 h19 h20 h25, r_ins_a h5 h6, r_says_a h18]
        · rw [r_lb_a h12 h19 h20 h25, r_says_a h18]
    · rw [r_lb_a h12 h19 h20 h25, r_says_a h18]
theorem r_one_l {p : rs} {f base j : Nat} {risk : Bool} (h3 : j ≠ 3) (h4 : j ≠ 4) (h16 : j ≠ 16) (h17 : j ≠ 17) : (r_one p f base risk).2.2 j = p.2.2 j := by
  unfold r_one
  split
  · rw [r_lays_l]; exact r_says_l h16 h17
  · split
    · unfold r_oneV
      cases r_last (r_says p f) (p.2.2 0 f) (p.2.2 1 f) true with
      | some i =>
        simp only
        split
        · rw [r_whole_l, r_says_l h16 h17]
        · rw [r_lb_l, r_says_l h16 h17]
      | none =>
        simp only
        split
        · split
          · rw [r_whole_l, r_ins_l h3 h4, r_says_l h16 h17]
          · rw [r_lb_l, r_ins_l h3 h4, r_says_l h16 h17]
        · rw [r_lb_l, r_says_l h16 h17]
    · rw [r_lb_l, r_says_l h16 h17]
theorem r_ones_a {p : rs} {base j : Nat} {risk : Bool} (h5 : j ≠ 5) (h6 : j ≠ 6) (h12 : j ≠ 12) (h18 : j ≠ 18) (h19 : j ≠ 19) (h20 : j ≠ 20) (h25 : j ≠ 25) : ∀ f, (r_ones p base risk f).2.1 j = p.2.1 j := by
  intro f
  induction f with
  | zero => rfl
  | succ f ih => rw [r_ones, r_one_a h5 h6 h12 h18 h19 h20 h25, ih]
theorem r_ones_l {p : rs} {base j : Nat} {risk : Bool} (h3 : j ≠ 3) (h4 : j ≠ 4) (h16 : j ≠ 16) (h17 : j ≠ 17) : ∀ f, (r_ones p base risk f).2.2 j = p.2.2 j := by
  intro f
  induction f with
  | zero => rfl
  | succ f ih => rw [r_ones, r_one_l h3 h4 h16 h17, ih]
theorem r_ones_13 {p : rs} {base : Nat} {risk : Bool} : ∀ f, p.1 13 ≤ (r_ones p base risk f).1 13 ∧ p.1 44 ≤ (r_ones p base risk f).1 44 := by
  intro f
  induction f with
  | zero => exact ⟨Nat.le_refl _, Nat.le_refl _⟩
  | succ f ih => exact ⟨Nat.le_trans ih.1 r_one_13.1, Nat.le_trans ih.2 r_one_13.2⟩
theorem r_ones_I {p : rs} {base : Nat} {risk : Bool} (h : r_J p 0 0) (hI : r_I p) (hb : base < 2 ^ 28) (h44 : p.1 44 = 0) : ∀ f, f ≤ 12 → r_I (r_ones p base risk f) := by
  intro f
  induction f with
  | zero => intro _; exact hI
  | succ f ih => intro hf; exact (ih (by omega)).one (r_ones_J h hb h44 f (by omega)).1 (by omega)
theorem r_enc0_1 {p : rs} {x : Nat} (h : x ≠ 44) : (r_enc0 p).1 x = p.1 x := by simp [r_enc0, r_si, r_sa, h]
theorem r_enc0_a {p : rs} {j : Nat} (h12 : j ≠ 12) (h20 : j ≠ 20) : (r_enc0 p).2.1 j = p.2.1 j := by funext i; simp [r_enc0, r_si, r_sa, h12, h20]
theorem r_enc0_l {p : rs} : (r_enc0 p).2.2 = p.2.2 := rfl
theorem r_mk_28 (p : rs) (s : Nat) : (r_mk p s).1 28 = p.1 28 := by rw [r_mk, r_ones_k (by decide) (by decide) (by decide) (by decide) (by decide), r_enc0_1 (by decide)]
theorem r_enc_1 {p : rs} {s x : Nat} (h2 : x ≠ 2) (h28 : x ≠ 28) (h41 : x ≠ 41) : (r_enc p s).1 x = (r_mk p s).1 x := by
  unfold r_enc r_enc3
  simp only [r_si, r_sa, if_neg h2, if_neg h28]
  rw [r_lays_k (show x ≠ r_wc 3 from h41)]
  rfl
theorem r_enc_28 {p : rs} {s : Nat} : (r_enc p s).1 28 = p.1 28 + 1 := by
  unfold r_enc r_enc3
  simp only [r_si, r_sa, if_neg (show (28 : Nat) ≠ 2 by decide)]
  rw [if_pos trivial, r_lays_k (show 28 ≠ r_wc 3 by decide)]
  show (r_mk p s).1 28 + 1 = _
  rw [r_mk_28]
theorem r_enc_l {p : rs} {s : Nat} : (r_enc p s).2.2 = (r_mk p s).2.2 := by
  unfold r_enc r_enc3
  show (r_lays (r_enc2 (r_mk p s) s) 3 _).2.2 = _
  rw [r_lays_l]
  rfl
theorem r_enc_a {p : rs} {s j : Nat} (h11 : j ≠ 11) (h13 : j ≠ 13) (h14 : j ≠ 14) (h15 : j ≠ 15) (h21 : j ≠ 21) (h22 : j ≠ 22) (h23 : j ≠ 23) : (r_enc p s).2.1 j = (r_mk p s).2.1 j := by
  have e : (r_enc p s).2.1 j = (r_lays (r_enc2 (r_mk p s) s) 3 (r_front (r_mk p s) (p.1 6) ++ r_lines (r_mk p s) ((r_mk p s).1 44))).2.1 j := by
    funext i
    unfold r_enc r_enc3
    simp [r_si, r_sa, h22]
  rw [e, r_lays_a (show j ≠ r_wa 3 from h23)]
  funext i
  simp [r_enc2, r_sa, h11, h13, h14, h15, h21]
theorem r_enc_lay {p : rs} {s j : Nat} (h22 : j ≠ 22) (h23 : j ≠ 23) : (r_enc p s).2.1 j = (r_enc2 (r_mk p s) s).2.1 j := by
  have e : (r_enc p s).2.1 j = (r_lays (r_enc2 (r_mk p s) s) 3 (r_front (r_mk p s) (p.1 6) ++ r_lines (r_mk p s) ((r_mk p s).1 44))).2.1 j := by
    funext i
    unfold r_enc r_enc3
    simp [r_si, r_sa, h22]
  rw [e, r_lays_a (show j ≠ r_wa 3 from h23)]
theorem r_enc_11 {p : rs} {s k : Nat} : (r_enc p s).2.1 11 k = if k = p.1 28 then s else (r_mk p s).2.1 11 k := by
  rw [r_enc_lay (by decide) (by decide)]
  simp [r_enc2, r_sa, r_mk_28]
theorem r_enc_13 {p : rs} {s k : Nat} : (r_enc p s).2.1 13 k = if k = p.1 28 then b2n (decide (0 < (r_mk p s).2.1 12 (p.1 28))) else (r_mk p s).2.1 13 k := by
  rw [r_enc_lay (by decide) (by decide)]
  simp [r_enc2, r_sa, r_mk_28]
theorem opn_enc (p : rs) (s : Nat) : opn (r_enc p s) = opn (r_mk p s) ++ (if 0 < (r_mk p s).2.1 12 (p.1 28) then [p.1 28] else []) := by
  unfold opn
  rw [r_enc_28, List.range_succ, List.filter_append, r_mk_28]
  congr 1
  · apply List.filter_congr
    intro k hk
    have : k ≠ p.1 28 := by have := List.mem_range.mp hk; omega
    rw [r_enc_13, if_neg this]
  · rw [List.filter_cons, r_enc_13, if_pos rfl]
    by_cases c : 0 < (r_mk p s).2.1 12 (p.1 28)
    · simp [c, b2n]
    · simp [c, b2n]
/-- the encoder between calls -/
def EN (G : fp_G) (h : fp_H) (en tb op ln wr cO : Nat) (oa : Nat → Nat) (p : rs) (cW cL : Nat) : Prop := (∃ x5 x6 x7 x8, h.1 en = some (3, eN p tb op ln x5 x6 x7 x8)) ∧ tbl h 15 tb (p.1 0) (p.2.2 3) (p.2.2 4) (p.1 10) (p.1 6) (p.1 11) ∧ byt h 10 wr (wlx p 13 6) cW ∧ (∃ xs, byt h 14 ln xs cL) ∧ lst G h 17 op ((opn p).map oa) cO ∧ (∀ k ∈ opn p, h.1 (oa k) = some (9, oO p k)) ∧ fp_wf h
theorem dX2_makeSection_0 : decode cX2_makeSection 0 = .ok (.aload_n 0, 1) := by decide +kernel
theorem dX2_makeSection_1 : decode cX2_makeSection 1 = .ok (.getfield 34, 3) := by decide +kernel
theorem dX2_makeSection_4 : decode cX2_makeSection 4 = .ok (.iconst 0, 1) := by decide +kernel
theorem dX2_makeSection_5 : decode cX2_makeSection 5 = .ok (.putfield 38, 3) := by decide +kernel
theorem dX2_makeSection_8 : decode cX2_makeSection 8 = .ok (.aload_n 0, 1) := by decide +kernel
theorem dX2_makeSection_9 : decode cX2_makeSection 9 = .ok (.aload_n 0, 1) := by decide +kernel
theorem dX2_makeSection_10 : decode cX2_makeSection 10 = .ok (.getfield 14, 3) := by decide +kernel
theorem dX2_makeSection_13 : decode cX2_makeSection 13 = .ok (.getfield 41, 3) := by decide +kernel
theorem dX2_makeSection_16 : decode cX2_makeSection 16 = .ok (.putfield 44, 3) := by decide +kernel
theorem dX2_makeSection_19 : decode cX2_makeSection 19 = .ok (.aload_n 0, 1) := by decide +kernel
theorem dX2_makeSection_20 : decode cX2_makeSection 20 = .ok (.iconst 0, 1) := by decide +kernel
theorem dX2_makeSection_21 : decode cX2_makeSection 21 = .ok (.putfield 47, 3) := by decide +kernel
theorem dX2_makeSection_24 : decode cX2_makeSection 24 = .ok (.aload_n 0, 1) := by decide +kernel
theorem dX2_makeSection_25 : decode cX2_makeSection 25 = .ok (.ldc 50, 2) := by decide +kernel
theorem dX2_makeSection_27 : decode cX2_makeSection 27 = .ok (.putfield 51, 3) := by decide +kernel
theorem dX2_makeSection_30 : decode cX2_makeSection 30 = .ok (.aload_n 0, 1) := by decide +kernel
theorem dX2_makeSection_31 : decode cX2_makeSection 31 = .ok (.aload_n 0, 1) := by decide +kernel
theorem dX2_makeSection_32 : decode cX2_makeSection 32 = .ok (.iload_n 1, 1) := by decide +kernel
theorem dX2_makeSection_33 : decode cX2_makeSection 33 = .ok (.invokevirtual 54, 3) := by decide +kernel
theorem dX2_makeSection_36 : decode cX2_makeSection 36 = .ok (.ifCond .ne 14, 3) := by decide +kernel
theorem dX2_makeSection_39 : decode cX2_makeSection 39 = .ok (.aload_n 0, 1) := by decide +kernel
theorem dX2_makeSection_40 : decode cX2_makeSection 40 = .ok (.invokevirtual 58, 3) := by decide +kernel
theorem dX2_makeSection_43 : decode cX2_makeSection 43 = .ok (.aload_n 0, 1) := by decide +kernel
theorem dX2_makeSection_44 : decode cX2_makeSection 44 = .ok (.getfield 20, 3) := by decide +kernel
theorem dX2_makeSection_47 : decode cX2_makeSection 47 = .ok (.if_icmp .ge 7, 3) := by decide +kernel
theorem dX2_makeSection_50 : decode cX2_makeSection 50 = .ok (.iconst 1, 1) := by decide +kernel
theorem dX2_makeSection_51 : decode cX2_makeSection 51 = .ok (.goto 4, 3) := by decide +kernel
theorem dX2_makeSection_54 : decode cX2_makeSection 54 = .ok (.iconst 0, 1) := by decide +kernel
theorem dX2_makeSection_55 : decode cX2_makeSection 55 = .ok (.putfield 62, 3) := by decide +kernel
theorem dX2_makeSection_58 : decode cX2_makeSection 58 = .ok (.iconst 0, 1) := by decide +kernel
theorem dX2_makeSection_59 : decode cX2_makeSection 59 = .ok (.istore 4, 2) := by decide +kernel
theorem dX2_makeSection_61 : decode cX2_makeSection 61 = .ok (.iload 4, 2) := by decide +kernel
theorem dX2_makeSection_63 : decode cX2_makeSection 63 = .ok (.aload_n 2, 1) := by decide +kernel
theorem dX2_makeSection_64 : decode cX2_makeSection 64 = .ok (.invokevirtual 66, 3) := by decide +kernel
theorem dX2_makeSection_67 : decode cX2_makeSection 67 = .ok (.if_icmp .ge 23, 3) := by decide +kernel
theorem dX2_makeSection_70 : decode cX2_makeSection 70 = .ok (.aload_n 0, 1) := by decide +kernel
theorem dX2_makeSection_71 : decode cX2_makeSection 71 = .ok (.aload_n 2, 1) := by decide +kernel
theorem dX2_makeSection_72 : decode cX2_makeSection 72 = .ok (.iload 4, 2) := by decide +kernel
theorem dX2_makeSection_74 : decode cX2_makeSection 74 = .ok (.invokevirtual 68, 3) := by decide +kernel
theorem dX2_makeSection_77 : decode cX2_makeSection 77 = .ok (.checkcast 72, 3) := by decide +kernel
theorem dX2_makeSection_80 : decode cX2_makeSection 80 = .ok (.aload_n 3, 1) := by decide +kernel
theorem dX2_makeSection_81 : decode cX2_makeSection 81 = .ok (.invokevirtual 74, 3) := by decide +kernel
theorem dX2_makeSection_84 : decode cX2_makeSection 84 = .ok (.iinc 4 1, 3) := by decide +kernel
theorem dX2_makeSection_87 : decode cX2_makeSection 87 = .ok (.goto (-26), 3) := by decide +kernel
theorem dX2_makeSection_90 : decode cX2_makeSection 90 = .ok (.aload_n 0, 1) := by decide +kernel
theorem dX2_makeSection_91 : decode cX2_makeSection 91 = .ok (.getfield 47, 3) := by decide +kernel
theorem dX2_makeSection_94 : decode cX2_makeSection 94 = .ok (.ifCond .le 27, 3) := by decide +kernel
theorem dX2_makeSection_97 : decode cX2_makeSection 97 = .ok (.aload_n 0, 1) := by decide +kernel
theorem dX2_makeSection_98 : decode cX2_makeSection 98 = .ok (.getfield 27, 3) := by decide +kernel
theorem dX2_makeSection_101 : decode cX2_makeSection 101 = .ok (.new 78, 3) := by decide +kernel
theorem dX2_makeSection_104 : decode cX2_makeSection 104 = .ok (.dup, 1) := by decide +kernel
theorem dX2_makeSection_105 : decode cX2_makeSection 105 = .ok (.iload_n 1, 1) := by decide +kernel
theorem dX2_makeSection_106 : decode cX2_makeSection 106 = .ok (.aload_n 0, 1) := by decide +kernel
theorem dX2_makeSection_107 : decode cX2_makeSection 107 = .ok (.getfield 47, 3) := by decide +kernel
theorem dX2_makeSection_110 : decode cX2_makeSection 110 = .ok (.aload_n 0, 1) := by decide +kernel
theorem dX2_makeSection_111 : decode cX2_makeSection 111 = .ok (.getfield 51, 3) := by decide +kernel
theorem dX2_makeSection_114 : decode cX2_makeSection 114 = .ok (.invokespecial 80, 3) := by decide +kernel
theorem dX2_makeSection_117 : decode cX2_makeSection 117 = .ok (.invokevirtual 83, 3) := by decide +kernel
theorem dX2_makeSection_120 : decode cX2_makeSection 120 = .ok (.pop, 1) := by decide +kernel
theorem dX2_makeSection_121 : decode cX2_makeSection 121 = .ok (.new 31, 3) := by decide +kernel
theorem dX2_makeSection_124 : decode cX2_makeSection 124 = .ok (.dup, 1) := by decide +kernel
theorem dX2_makeSection_125 : decode cX2_makeSection 125 = .ok (.aload_n 0, 1) := by decide +kernel
theorem dX2_makeSection_126 : decode cX2_makeSection 126 = .ok (.getfield 34, 3) := by decide +kernel
theorem dX2_makeSection_129 : decode cX2_makeSection 129 = .ok (.getfield 38, 3) := by decide +kernel
theorem dX2_makeSection_132 : decode cX2_makeSection 132 = .ok (.iconst 4, 1) := by decide +kernel
theorem dX2_makeSection_133 : decode cX2_makeSection 133 = .ok (.iadd, 1) := by decide +kernel
theorem dX2_makeSection_134 : decode cX2_makeSection 134 = .ok (.invokespecial 33, 3) := by decide +kernel
theorem dX2_makeSection_137 : decode cX2_makeSection 137 = .ok (.astore 4, 2) := by decide +kernel
theorem dX2_makeSection_139 : decode cX2_makeSection 139 = .ok (.aload_n 0, 1) := by decide +kernel
theorem dX2_makeSection_140 : decode cX2_makeSection 140 = .ok (.aload 4, 2) := by decide +kernel
theorem dX2_makeSection_142 : decode cX2_makeSection 142 = .ok (.invokevirtual 87, 3) := by decide +kernel
theorem dX2_makeSection_145 : decode cX2_makeSection 145 = .ok (.aload 4, 2) := by decide +kernel
theorem dX2_makeSection_147 : decode cX2_makeSection 147 = .ok (.aload_n 0, 1) := by decide +kernel
theorem dX2_makeSection_148 : decode cX2_makeSection 148 = .ok (.getfield 34, 3) := by decide +kernel
theorem dX2_makeSection_151 : decode cX2_makeSection 151 = .ok (.invokevirtual 91, 3) := by decide +kernel
theorem dX2_makeSection_154 : decode cX2_makeSection 154 = .ok (.aload 4, 2) := by decide +kernel
theorem dX2_makeSection_156 : decode cX2_makeSection 156 = .ok (.areturn, 1) := by decide +kernel
section CM
variable {G : fp_G} {h : fp_H} {en tb op ln wr cO : Nat} {oa : Nat → Nat} {p : rs} {base : Nat} {rk : Bool} {cW cL : Nat}
theorem cs_tail {T : Nat} {x1 x2 x4 : Option Value} (m1 : h.1 en = some (3, eO p base rk tb op ln)) (m2 : tbl h 15 tb (p.1 0) (p.2.2 3) (p.2.2 4) (p.1 10) (p.1 6) (p.1 11)) (m4 : byt h 14 ln (wlx p 44 25) cL) (m7 : fp_wf h) (hT : T ≠ 3 ∧ T ≠ 15 ∧ T ≠ 14) (ok : rok p) (hb : base < 2 ^ 28) (hcap : p.2.1 12 (p.1 28) ≠ 0 → 32 ≤ p.1 0) (h44 : p.1 44 ≤ 300) : fp_wp G rm_X2_makeSection M_X2_makeSection 121 [some (.ref en), x1, x2, some (.ref wr), x4] [] h (fun r h' => ∃ sa cS, r = some (.ref sa) ∧ byt h' T sa (r_front p base ++ wlx p 44 25) cS ∧ cf (fun x => x = T) h h' ∧ h'.2.2 ≤ h.2.2 + 2 + 2 * cS ∧ cS ≤ 2 * p.1 44 + 40) := by
  obtain ⟨r4, f4, g4, -⟩ := id m4
  have hfl := r_front_len p base
  refine wp_new T dX2_makeSection_121 nw_X2_31 ?_
  refine wp_dup dX2_makeSection_124 rfl ?_
  refine wp_aload_n dX2_makeSection_125 rfl ?_
  refine wp_getf dX2_makeSection_126 fl_X2_34 (fp_new_ne (m7.ne m1) |>.trans m1) rfl ?_
  refine wp_getf dX2_makeSection_129 fl_X2_38 (fp_new_ne (m7.ne g4) |>.trans g4) rfl ?_
  rw [wlx_len]
  refine wp_iconst (v := 4) dX2_makeSection_132 rfl ?_
  refine wp_iadd dX2_makeSection_133 ?_
  rw [show nI (p.1 44) + 4 = nI (p.1 44 + 4) from nI_add _ 4]
  have w1 := m7.new (t := T) (e := .inr (1, [.null, .int 0])) (k := 2)
  have c1 : cf (fun x => x = T) h (fp_new h T (.inr (1, [.null, .int 0])) 2) := cf.new m7 (by decide)
  have e1 : (fp_new h T (.inr (1, [.null, .int 0])) 2).1 h.2.1 = some (T, .inr (1, [.null, .int 0])) := fp_new_eq
  have s1 : (fp_new h T (.inr (1, [.null, .int 0])) 2).2.2 = h.2.2 + 2 := rfl
  refine fp_wp_h (h' := fp_new h T (.inr (1, [.null, .int 0])) 2) rfl ?_
  generalize fp_new h T (.inr (1, [.null, .int 0])) 2 = h1 at w1 c1 e1 s1 ⊢
  generalize h.2.1 = sa at e1 ⊢
  refine wp_callI (As := [.int (nI (p.1 44 + 4))]) (rest := [.ref sa]) dX2_makeSection_134 me_X0_init rfl cw_X2_33 rfl ⟨(Nat.le_of_ble_eq_true rfl), (Nat.le_of_ble_eq_true rfl)⟩ rfl rfl rfl (Nat.le_of_ble_eq_true rfl) (cc_bnew w1 e1 (by omega) (by omega)) (fun r h2 q => ?_)
  obtain ⟨rfl, q1, q2, q3⟩ := q
  have c2 := c1.trans q2
  have hk : ∀ t, t ≠ T → ¬ (fun x => x = T) t := fun t ht e => ht e
  refine wp_astore dX2_makeSection_137 (Nat.le_of_ble_eq_true rfl) rfl ?_
  refine wp_aload_n dX2_makeSection_139 rfl ?_
  refine wp_aload dX2_makeSection_140 rfl ?_
  refine wp_callV (As := [.ref sa]) (rest := []) dX2_makeSection_142 me_X2_putFront cw_X2_87 rfl ⟨(Nat.le_of_ble_eq_true rfl), (Nat.le_of_ble_eq_true rfl)⟩ rfl rfl rfl (Nat.le_of_ble_eq_true rfl) (c2.at m1 (hk 3 (Ne.symm hT.1))) (cs_front (c2.at m1 (hk 3 (Ne.symm hT.1))) (m2.kept c2 (hk 15 (Ne.symm hT.2.1))) (q2.wf w1) q1 ⟨hT.1, hT.2.1⟩ ok hb hcap) (fun r h3 z => ?_)
  obtain ⟨rfl, cS, z1, z2, z3, z4, z5⟩ := z
  have c3 := c2.trans z4
  have m1' := c3.at m1 (hk 3 (Ne.symm hT.1))
  have m4' := m4.kept c3 (hk 14 (Ne.symm hT.2.2))
  obtain ⟨r5, f5, g5, -⟩ := id z1
  refine wp_aload dX2_makeSection_145 rfl ?_
  refine wp_aload_n dX2_makeSection_147 rfl ?_
  refine wp_getf dX2_makeSection_148 fl_X2_34 m1' rfl ?_
  refine wp_callV (As := [.ref ln]) (rest := []) dX2_makeSection_151 me_X0_putAll cw_X2_91 rfl ⟨(Nat.le_of_ble_eq_true rfl), (Nat.le_of_ble_eq_true rfl)⟩ rfl rfl rfl (Nat.le_of_ble_eq_true rfl) g5 (cc_putAll (z4.wf (q2.wf w1)) z1 m4' (Ne.symm hT.2.2) (by rw [wlx_len]; omega)) (fun r h4 y => ?_)
  obtain ⟨rfl, cS2, y1, y2, y3, y4, y5⟩ := y
  refine wp_aload dX2_makeSection_154 rfl ?_
  refine wp_aret dX2_makeSection_156 rfl (by first | exact Or.inl ⟨_, rfl⟩ | exact Or.inr ⟨_, rfl⟩) (Or.inr ⟨_, rfl⟩) ?_
  refine ⟨sa, cS2, rfl, y1, c3.trans y4, by omega, ?_⟩
  rw [List.length_append, wlx_len] at y3
  omega
end CM
