/-! Encoder: literal lines, may a field come in, insert -/
theorem ori : (∀ s, s < 2 → (80 : Int32) ||| (nI s <<< ((5 : Int32) &&& 31)) = nI (80 + 32 * s)) ∧ (∀ s, s < 2 → (64 : Int32) ||| (nI s <<< ((5 : Int32) &&& 31)) = nI (64 + 32 * s)) ∧ (∀ s, s < 2 → (32 : Int32) ||| (nI s <<< ((4 : Int32) &&& 31)) = nI (32 + 16 * s)) ∧ ∀ s, s < 2 → nI s <<< ((3 : Int32) &&& 31) = nI (8 * s) := by decide +kernel
theorem orF {F n : Nat} (h : ∀ s, s < 2 → ∀ x, x < 2 ^ n → (F + 0 * s) ||| x = F + x) : True := trivial
theorem or80 : ∀ s, s < 2 → ∀ x, x < 2 ^ 4 → (80 + 32 * s) ||| x = (80 + 32 * s) + x := by decide +kernel
theorem or64 : ∀ s, s < 2 → ∀ x, x < 2 ^ 4 → (64 + 32 * s) ||| x = (64 + 32 * s) + x := by decide +kernel
theorem or32 : ∀ s, s < 2 → ∀ x, x < 2 ^ 3 → (32 + 16 * s) ||| x = (32 + 16 * s) + x := by decide +kernel
theorem or8s : ∀ s, s < 2 → ∀ x, x < 2 ^ 3 → (8 * s) ||| x = (8 * s) + x := by decide +kernel
theorem or0 (n : Nat) : ∀ x, x < 2 ^ n → 0 ||| x = 0 + x := fun x _ => by simp
/-- a Field's cell -/
def fO (u v s : Nat) : fp_E := .inr (4, [.long (lN u), .long (lN v), .int (nI s)])
section CE
variable {G : fp_G} {h : fp_H} {en tb op ln wr cO : Nat} {oa : Nat → Nat} {p : rs} {base : Nat} {rk : Bool} {cW cL : Nat}
theorem ce_nameOf {j s : Nat} (m : EM G h en tb op ln wr cO oa p base rk cW cL) (ok : rok p) (hj : j < 2 ^ 29) (hs : s ≤ 1) (hb : base < 2 ^ 28) (h12 : ∀ k, k < 200 → p.2.1 20 k ≤ 12) (hc : p.1 28 < 200) (hr : p.2.1 20 (p.1 28) < 12) (h44 : p.1 44 ≤ 300) : fp_ct G rm_X2_putNameOf M_X2_putNameOf [.ref en, .int (nI j), .int (nI s)] h (eP G h en tb op ln wr cO oa (r_lays (r_ref p j) 2 (if j < base then nb (64 + 32 * s) 4 (base - 1 - j) else nb (8 * s) 3 (j - base))) base rk cW cL) := by
  obtain ⟨xl, hln⟩ := m.hln
  have m1 := m.1
  have fin : ∀ (l : List Nat) (h1 : fp_H) (r0 : Option Value), (∀ b ∈ l, b < 2 ^ 30) → l.length ≤ 6 → eP G h en tb op ln wr cO oa (r_lays p 2 l) base rk cW cL r0 h1 → fp_wp G rm_X2_putNameOf M_X2_putNameOf 50 [some (.ref en), some (.int (nI j)), some (.int (nI s))] [] h1 (eP G h en tb op ln wr cO oa (r_lays (r_ref p j) 2 l) base rk cW cL) := by
    intro l h1 r0 hl hlen e
    obtain ⟨-, cW1, cL1, mm, eq⟩ := e
    have e20 : (r_lays p 2 l).2.1 20 = p.2.1 20 := r_lays_a (by decide) _ _
    have e28 : (r_lays p 2 l).1 28 = p.1 28 := r_lays_k (by decide) _ _
    refine wp_aload_n dX2_putNameOf_50 rfl ?_
    refine wp_iload_n dX2_putNameOf_51 rfl ?_
    refine wp_callV (As := [.int (nI j)]) (rest := []) dX2_putNameOf_52 me_X2_noteReference cw_X2_140 rfl ⟨(Nat.le_of_ble_eq_true rfl), (Nat.le_of_ble_eq_true rfl)⟩ rfl rfl rfl (Nat.le_of_ble_eq_true rfl) mm.1 (ce_note mm (rok.lays (w := 2) l p ok hl (by show p.1 44 + _ < _; omega)) hj (by rw [e20]; exact h12) (by rw [e28]; exact hc) (by rw [e20, e28]; exact hr)) (fun r h2 q => ?_)
    obtain ⟨rfl, -⟩ := id q
    refine wp_vret dX2_putNameOf_55 rfl ?_
    rw [← r_ref_lays]
    exact eq.step (Nat.le_refl _) (Nat.le_refl _) q
  refine fp_meth pn_X2 (Nat.le_of_ble_eq_true rfl) rfl ?_
  refine wp_iload_n dX2_putNameOf_0 rfl ?_
  refine wp_aload_n dX2_putNameOf_1 rfl ?_
  refine wp_getf dX2_putNameOf_2 fl_X2_44 m1 rfl ?_
  refine wp_icmp_ge (tgt := 33) dX2_putNameOf_5 rfl (fun c_5 => ?_) (fun c_5 => ?_)
  · have hge : ¬ j < base := fun q => nI_ge q (by omega) c_5
    rw [if_neg hge]
    refine wp_aload_n dX2_putNameOf_33 rfl ?_
    refine wp_getf dX2_putNameOf_34 fl_X2_34 m1 rfl ?_
    refine wp_iload_n dX2_putNameOf_37 rfl ?_
    refine wp_iconst (v := 3) dX2_putNameOf_38 rfl ?_
    refine wp_ishl dX2_putNameOf_39 ?_
    refine wp_iconst (v := 3) dX2_putNameOf_40 rfl ?_
    refine wp_iload_n dX2_putNameOf_41 rfl ?_
    refine wp_aload_n dX2_putNameOf_42 rfl ?_
    refine wp_getf dX2_putNameOf_43 fl_X2_44 m1 rfl ?_
    refine wp_isub dX2_putNameOf_46 ?_
    rw [pk_sub (by omega), ori.2.2.2 s (by omega)]
    refine wp_callV (As := [.int (nI (8 * s)), .int (nI 3), .int (nI (j - base))]) (rest := []) dX2_putNameOf_47 me_X0_putNumber cw_X2_97 rfl ⟨(Nat.le_of_ble_eq_true rfl), (Nat.le_of_ble_eq_true rfl)⟩ rfl rfl rfl (Nat.le_of_ble_eq_true rfl) hln (ce_line m (by omega) (by decide) (or8s s (by omega)) (by omega)) (fun r h1 q => ?_)
    obtain ⟨rfl, -⟩ := id q
    exact fin _ h1 none (nb_lt (by omega) (by decide) (by omega)) (nb_len _ _ _) q
  · have hlt : j < base := by
      rcases Nat.lt_or_ge j base with q | q
      · exact q
      · exact absurd (nI_le q (by omega)) c_5
    rw [if_pos hlt]
    refine wp_aload_n dX2_putNameOf_8 rfl ?_
    refine wp_getf dX2_putNameOf_9 fl_X2_34 m1 rfl ?_
    refine wp_bipush (v := 64) dX2_putNameOf_12 rfl ?_
    refine wp_iload_n dX2_putNameOf_14 rfl ?_
    refine wp_iconst (v := 5) dX2_putNameOf_15 rfl ?_
    refine wp_ishl dX2_putNameOf_16 ?_
    refine wp_ior dX2_putNameOf_17 ?_
    refine wp_iconst (v := 4) dX2_putNameOf_18 rfl ?_
    refine wp_aload_n dX2_putNameOf_19 rfl ?_
    refine wp_getf dX2_putNameOf_20 fl_X2_44 m1 rfl ?_
    refine wp_iconst (v := 1) dX2_putNameOf_23 rfl ?_
    refine wp_isub dX2_putNameOf_24 ?_
    refine wp_iload_n dX2_putNameOf_25 rfl ?_
    refine wp_isub dX2_putNameOf_26 ?_
    rw [nI_sub1 (by omega), pk_sub (by omega), ori.2.1 s (by omega)]
    refine wp_callV (As := [.int (nI (64 + 32 * s)), .int (nI 4), .int (nI (base - 1 - j))]) (rest := []) dX2_putNameOf_27 me_X0_putNumber cw_X2_97 rfl ⟨(Nat.le_of_ble_eq_true rfl), (Nat.le_of_ble_eq_true rfl)⟩ rfl rfl rfl (Nat.le_of_ble_eq_true rfl) hln (ce_line m (by omega) (by decide) (or64 s (by omega)) (by omega)) (fun r h1 q => ?_)
    obtain ⟨rfl, -⟩ := id q
    refine wp_goto (tgt := 50) dX2_putNameOf_30 rfl ?_
    exact fin _ h1 none (nb_lt (by omega) (by decide) (by omega)) (nb_len _ _ _) q
theorem oI_m1 {o : Option Nat} (ho : ∀ k, o = some k → k < 2 ^ 30) : oI o = -1 ↔ o = none := by
  cases o with
  | none => exact ⟨fun _ => rfl, fun _ => rfl⟩
  | some k => exact ⟨fun e => absurd e (nI_m1 (by have := ho k rfl; omega)), fun e => by cases e⟩
theorem ce_lit {fa u v s : Nat} (m : EM G h en tb op ln wr cO oa p base rk cW cL) (hfa : h.1 fa = some (9, fO u v s)) (ok : rok p) (hu : u < 2 ^ 64) (hv : v < 2 ^ 64) (hs : s ≤ 1) (hb : base < 2 ^ 28) (h12 : ∀ k, k < 200 → p.2.1 20 k ≤ 12) (hc : p.1 28 < 200) (hr : p.2.1 20 (p.1 28) < 12) (h6 : p.1 6 ≤ 2400) (h44 : p.1 44 ≤ 300) : fp_ct G rm_X2_putLiteral M_X2_putLiteral [.ref en, .ref fa, .int (oI (fxn u))] h (eP G h en tb op ln wr cO oa (r_lb p u v s base rk) base rk cW cL) := by
  obtain ⟨xl, hln⟩ := m.hln
  obtain ⟨n1, n2, n3, f1, f2, f3, a1, -⟩ := m.2.1.ex
  have m1 := m.1
  have bv := bln_le v
  have fin : ∀ (p1 : rs) (h1 : fp_H) (r0 : Option Value) (x4 : Value), p1.1 44 ≤ 900 → x4 = .int (nI s) → eP G h en tb op ln wr cO oa p1 base rk cW cL r0 h1 → fp_wp G rm_X2_putLiteral M_X2_putLiteral 92 [some (.ref en), some (.ref fa), some (.int (oI (fxn u))), some (.int (oI (r_last p u 0 false))), some x4] [] h1 (eP G h en tb op ln wr cO oa (r_lays p1 2 (nb 0 7 (bln v) ++ txb v)) base rk cW cL) := by
    intro p1 h1 r0 x4 hp1 _ e
    obtain ⟨-, cW1, cL1, mm, eq⟩ := e
    have hfa1 := eq.2.2.2.2.1.at hfa (by simp [eS])
    obtain ⟨xl1, hln1⟩ := mm.hln
    refine wp_aload_n dX2_putLiteral_92 rfl ?_
    refine wp_getf dX2_putLiteral_93 fl_X2_34 mm.1 rfl ?_
    refine wp_iconst (v := 0) dX2_putLiteral_96 rfl ?_
    refine wp_bipush (v := 7) dX2_putLiteral_97 rfl ?_
    refine wp_aload_n dX2_putLiteral_99 rfl ?_
    refine wp_getf dX2_putLiteral_100 fl_X2_112 hfa1 rfl ?_
    refine wp_callV (As := [.int (nI 0), .int (nI 7), .long (lN v)]) (rest := []) dX2_putLiteral_103 me_X0_putText cw_X2_150 rfl ⟨(Nat.le_of_ble_eq_true rfl), (Nat.le_of_ble_eq_true rfl)⟩ rfl rfl rfl (Nat.le_of_ble_eq_true rfl) hln1 (ce_lineT mm (by omega) (by decide) (or0 7) hv) (fun r h2 q => ?_)
    obtain ⟨rfl, -⟩ := id q
    refine wp_vret dX2_putLiteral_106 rfl ?_
    exact eq.step (by rw [r_lays_k (show 13 ≠ r_wc 2 by decide)]; exact Nat.le_refl _) (by rw [r_lays_44]; omega) q
  have hsen : narrow .boolean (.int (nI s)) = .int (nI s) := by rcases (show s = 0 ∨ s = 1 by omega) with rfl | rfl <;> rfl
  have hl1 := nb_len (80 + 32 * s) 4
  have bu := bln_le u
  refine fp_meth pn_X2 (Nat.le_of_ble_eq_true rfl) rfl ?_
  refine wp_aload_n dX2_putLiteral_0 rfl ?_
  refine wp_getf dX2_putLiteral_1 fl_X2_14 m1 rfl ?_
  refine wp_aload_n dX2_putLiteral_4 rfl ?_
  refine wp_getf dX2_putLiteral_5 fl_X2_100 hfa rfl ?_
  refine wp_callV (As := [.long (lN u)]) (rest := []) dX2_putLiteral_8 me_X8_lastNamed cw_X2_143 rfl ⟨(Nat.le_of_ble_eq_true rfl), (Nat.le_of_ble_eq_true rfl)⟩ rfl rfl rfl (Nat.le_of_ble_eq_true rfl) a1 (cc_lastNamed m.2.1 hu) (fun r h1 q => ?_)
  obtain ⟨rfl, rfl⟩ := q
  rw [← r_last_tlast]
  have main : fp_wp G rm_X2_putLiteral M_X2_putLiteral 26 [some (.ref en), some (.ref fa), some (.int (oI (fxn u))), some (.int (oI (r_last p u 0 false))), some (.int (nI s))] [] h1 (eP G h1 en tb op ln wr cO oa (r_lb p u v s base rk) base rk cW cL) := by
    unfold r_lb
    have hoI : oI (fxn u) = -1 ↔ fxn u = none := oI_m1 (fun k hk => by have := fxn_some hk; omega)
    have hoL : oI (r_last p u 0 false) = -1 ↔ r_last p u 0 false = none := oI_m1 (fun k hk => by have := r_lastTo_some hk; omega)
    have texts : fp_wp G rm_X2_putLiteral M_X2_putLiteral 73 [some (.ref en), some (.ref fa), some (.int (oI (fxn u))), some (.int (oI (r_last p u 0 false))), some (.int (nI s))] [] h1 (eP G h1 en tb op ln wr cO oa (r_lays (r_lays p 2 (nb (32 + 16 * s) 3 (bln u) ++ txb u)) 2 (nb 0 7 (bln v) ++ txb v)) base rk cW cL) := by
      refine wp_aload_n dX2_putLiteral_73 rfl ?_
      refine wp_getf dX2_putLiteral_74 fl_X2_34 m1 rfl ?_
      refine wp_bipush (v := 32) dX2_putLiteral_77 rfl ?_
      refine wp_iload dX2_putLiteral_79 rfl ?_
      refine wp_iconst (v := 4) dX2_putLiteral_81 rfl ?_
      refine wp_ishl dX2_putLiteral_82 ?_
      refine wp_ior dX2_putLiteral_83 ?_
      rw [ori.2.2.1 s (by omega)]
      refine wp_iconst (v := 3) dX2_putLiteral_84 rfl ?_
      refine wp_aload_n dX2_putLiteral_85 rfl ?_
      refine wp_getf dX2_putLiteral_86 fl_X2_100 hfa rfl ?_
      refine wp_callV (As := [.int (nI (32 + 16 * s)), .int (nI 3), .long (lN u)]) (rest := []) dX2_putLiteral_89 me_X0_putText cw_X2_150 rfl ⟨(Nat.le_of_ble_eq_true rfl), (Nat.le_of_ble_eq_true rfl)⟩ rfl rfl rfl (Nat.le_of_ble_eq_true rfl) hln (ce_lineT m (by omega) (by decide) (or32 s (by omega)) hu) (fun r h2 q => ?_)
      obtain ⟨rfl, -⟩ := id q
      have hn3 := nb_len (32 + 16 * s) 3 (bln u)
      exact fin _ h2 none _ (by rw [r_lays_44, List.length_append, txb_len]; omega) rfl q
    refine wp_iload_n dX2_putLiteral_26 rfl ?_
    refine wp_iconst (v := (-1)) dX2_putLiteral_27 rfl ?_
    refine wp_icmp_eq (tgt := 50) dX2_putLiteral_28 rfl (fun c_28 => ?_) (fun c_28 => ?_)
    · have hx := hoI.mp c_28
      rw [hx]
      simp only
      refine wp_iload_n dX2_putLiteral_50 rfl ?_
      refine wp_iconst (v := (-1)) dX2_putLiteral_51 rfl ?_
      refine wp_icmp_eq (tgt := 73) dX2_putLiteral_52 rfl (fun c_52 => ?_) (fun c_52 => ?_)
      · have hy := hoL.mp c_52
        rw [hx] at texts
        rw [hy] at texts ⊢
        exact texts
      · cases hy : r_last p u 0 false with
        | none => rw [hy] at c_52; exact absurd rfl c_52
        | some j =>
          have hj := r_lastTo_some hy
          simp only
          refine wp_aload_n dX2_putLiteral_55 rfl ?_
          refine wp_iload_n dX2_putLiteral_56 rfl ?_
          refine wp_callV (As := [.int (nI j)]) (rest := []) dX2_putLiteral_57 me_X2_mayReferTo cw_X2_134 rfl ⟨(Nat.le_of_ble_eq_true rfl), (Nat.le_of_ble_eq_true rfl)⟩ rfl rfl rfl (Nat.le_of_ble_eq_true rfl) m1 (ce_may m (by omega) (ok.1 12)) (fun r h2 q => ?_)
          obtain ⟨rfl, rfl⟩ := q
          refine wp_if_eq (tgt := 73) dX2_putLiteral_60 rfl (fun c_60 => ?_) (fun c_60 => ?_)
          · have : ¬ (j < p.1 12 ∨ rk = true) := by have := b2n_0.mp c_60; simpa using this
            rw [if_neg this]
            rw [hx, hy] at texts
            exact texts
          · have : j < p.1 12 ∨ rk = true := by
              cases hd : decide (j < p.1 12 ∨ rk = true) with
              | true => exact of_decide_eq_true hd
              | false => rw [hd] at c_60; exact absurd rfl c_60
            rw [if_pos this]
            refine wp_aload_n dX2_putLiteral_63 rfl ?_
            refine wp_iload_n dX2_putLiteral_64 rfl ?_
            refine wp_iload dX2_putLiteral_65 rfl ?_
            refine wp_callV (As := [.int (nI j), .int (nI s)]) (rest := []) dX2_putLiteral_67 me_X2_putNameOf cw_X2_146 rfl ⟨(Nat.le_of_ble_eq_true rfl), (Nat.le_of_ble_eq_true rfl)⟩ rfl rfl rfl (Nat.le_of_ble_eq_true rfl) m1 (ce_nameOf m ok (by omega) hs hb h12 hc hr h44) (fun r h3 q => ?_)
            obtain ⟨rfl, -⟩ := id q
            refine wp_goto (tgt := 92) dX2_putLiteral_70 rfl ?_
            rw [hx, hy] at fin
            refine fin _ h3 none _ ?_ rfl q
            rw [r_lays_44]
            show p.1 44 + _ ≤ _
            have : (if j < base then nb (64 + 32 * s) 4 (base - 1 - j) else nb (8 * s) 3 (j - base)).length ≤ 6 := by split <;> exact nb_len _ _ _
            omega
    · cases hx : fxn u with
      | none => rw [hx] at c_28; exact absurd rfl c_28
      | some k =>
        have hk := fxn_some hx
        simp only
        refine wp_aload_n dX2_putLiteral_31 rfl ?_
        refine wp_getf dX2_putLiteral_32 fl_X2_34 m1 rfl ?_
        refine wp_bipush (v := 80) dX2_putLiteral_35 rfl ?_
        refine wp_iload dX2_putLiteral_37 rfl ?_
        refine wp_iconst (v := 5) dX2_putLiteral_39 rfl ?_
        refine wp_ishl dX2_putLiteral_40 ?_
        refine wp_ior dX2_putLiteral_41 ?_
        rw [ori.1 s (by omega)]
        refine wp_iconst (v := 4) dX2_putLiteral_42 rfl ?_
        refine wp_iload_n dX2_putLiteral_43 rfl ?_
        refine wp_callV (As := [.int (nI (80 + 32 * s)), .int (nI 4), .int (nI k)]) (rest := []) dX2_putLiteral_44 me_X0_putNumber cw_X2_97 rfl ⟨(Nat.le_of_ble_eq_true rfl), (Nat.le_of_ble_eq_true rfl)⟩ rfl rfl rfl (Nat.le_of_ble_eq_true rfl) hln (ce_line m (by omega) (by decide) (or80 s (by omega)) (by omega)) (fun r h2 q => ?_)
        obtain ⟨rfl, -⟩ := id q
        refine wp_goto (tgt := 92) dX2_putLiteral_47 rfl ?_
        rw [hx] at fin
        have := hl1 k
        exact fin _ h2 none _ (by rw [r_lays_44]; omega) rfl q
  refine wp_istore_n dX2_putLiteral_11 (Nat.le_of_ble_eq_true rfl) rfl ?_
  refine wp_aload_n dX2_putLiteral_12 rfl ?_
  refine wp_getf dX2_putLiteral_13 fl_X2_115 hfa rfl ?_
  refine wp_if_eq (tgt := 23) dX2_putLiteral_16 rfl (fun c_16 => ?_) (fun c_16 => ?_)
  · have : s = 0 := (nI_eq (b := 0) (by omega) (by decide)).mp c_16
    subst this
    refine wp_iconst (v := 0) dX2_putLiteral_23 rfl ?_
    refine wp_istore dX2_putLiteral_24 (Nat.le_of_ble_eq_true rfl) rfl ?_
    exact main
  · have : s = 1 := by
      rcases (show s = 0 ∨ s = 1 by omega) with rfl | rfl
      · exact absurd rfl c_16
      · rfl
    subst this
    refine wp_iconst (v := 1) dX2_putLiteral_19 rfl ?_
    refine wp_goto (tgt := 24) dX2_putLiteral_20 rfl ?_
    refine wp_istore dX2_putLiteral_24 (Nat.le_of_ble_eq_true rfl) rfl ?_
    exact main
theorem ce_busy (m : EM G h en tb op ln wr cO oa p base rk cW cL) (ok : rok p) : fp_ct G rm_X2_firstBusy M_X2_firstBusy [.ref en] h (fun r h' => h' = h ∧ r = some (.int (nI (r_fb p)))) := by
  obtain ⟨m1, -, -, -, m5, m6, -⟩ := m
  have o12 := ok.1 12
  obtain ⟨mc, ed, l1, l2⟩ := id m5
  have hlen := l2.lt
  rw [List.length_map] at hlen
  refine fp_meth pn_X2 (Nat.le_of_ble_eq_true rfl) rfl ?_
  refine wp_aload_n dX2_firstBusy_0 rfl ?_
  refine wp_getf dX2_firstBusy_1 fl_X2_163 m1 rfl ?_
  refine wp_aload_n dX2_firstBusy_4 rfl ?_
  refine wp_getf dX2_firstBusy_5 fl_X2_51 m1 rfl ?_
  refine wp_callS (As := [.int (nI (p.1 12)), .int (nI (lea p (p.1 28)))]) (rest := []) dX2_firstBusy_8 me_J9_min_7cf53 cw_X2_160 ⟨(Nat.le_of_ble_eq_true rfl), (Nat.le_of_ble_eq_true rfl)⟩ rfl rfl rfl (Nat.le_of_ble_eq_true rfl) (ct_min _ _) (fun r h1 q => ?_)
  obtain ⟨rfl, rfl⟩ := q
  rw [minI (by omega) (lea_lt _ _)]
  refine wp_istore_n dX2_firstBusy_11 (Nat.le_of_ble_eq_true rfl) rfl ?_
  refine wp_iconst (v := 0) dX2_firstBusy_12 rfl ?_
  refine wp_istore_n dX2_firstBusy_13 (Nat.le_of_ble_eq_true rfl) rfl ?_
  have loop : ∀ (l pre : List Nat) (x : Nat), opn p = pre ++ l → x < 2 ^ 31 → fp_wp G rm_X2_firstBusy M_X2_firstBusy 14 [some (.ref en), some (.int (nI x)), some (.int (nI pre.length))] [] h1 (fun r h' => h' = h1 ∧ r = some (.int (nI (l.foldl (fun m k => min m (lea p k)) x)))) := by
    intro l
    induction l with
    | nil =>
      intro pre x hpre hx
      rw [List.append_nil] at hpre
      refine wp_iload_n dX2_firstBusy_14 rfl ?_
      refine wp_aload_n dX2_firstBusy_15 rfl ?_
      refine wp_getf dX2_firstBusy_16 fl_X2_27 m1 rfl ?_
      refine wp_callV (As := []) (rest := [.int (nI pre.length)]) dX2_firstBusy_19 me_Jx4a65c_size_8abf5 cw_X2_66 rfl ⟨(Nat.le_of_ble_eq_true rfl), (Nat.le_of_ble_eq_true rfl)⟩ rfl rfl rfl (Nat.le_of_ble_eq_true rfl) l1 (ct_lsize m5) (fun r h2 q => ?_)
      obtain ⟨rfl, rfl⟩ := q
      refine wp_icmp_ge (tgt := 50) dX2_firstBusy_22 rfl (fun c_22 => ?_) (fun c_22 => ?_)
      · refine wp_iload_n dX2_firstBusy_50 rfl ?_
        refine wp_iret dX2_firstBusy_51 rfl rfl ?_
        exact ⟨rfl, rfl⟩
      · rw [List.length_map, hpre] at c_22
        rw [hpre] at hlen
        exact absurd (nI_le (Nat.le_refl _) (by omega)) c_22
    | cons k l ih =>
      intro pre x hpre hx
      have hk : k ∈ opn p := by rw [hpre]; simp
      have hget : ((opn p).map oa)[pre.length]? = some (oa k) := by rw [hpre]; simp
      have hlp : (opn p).length = pre.length + (l.length + 1) := by rw [hpre]; simp
      refine wp_iload_n dX2_firstBusy_14 rfl ?_
      refine wp_aload_n dX2_firstBusy_15 rfl ?_
      refine wp_getf dX2_firstBusy_16 fl_X2_27 m1 rfl ?_
      refine wp_callV (As := []) (rest := [.int (nI pre.length)]) dX2_firstBusy_19 me_Jx4a65c_size_8abf5 cw_X2_66 rfl ⟨(Nat.le_of_ble_eq_true rfl), (Nat.le_of_ble_eq_true rfl)⟩ rfl rfl rfl (Nat.le_of_ble_eq_true rfl) l1 (ct_lsize m5) (fun r h2 q => ?_)
      obtain ⟨rfl, rfl⟩ := q
      refine wp_icmp_ge (tgt := 50) dX2_firstBusy_22 rfl (fun c_22 => ?_) (fun c_22 => ?_)
      · rw [List.length_map] at c_22
        have := (nI_leI (by omega) (by omega)).mp c_22
        omega
      · refine wp_iload_n dX2_firstBusy_25 rfl ?_
        refine wp_aload_n dX2_firstBusy_26 rfl ?_
        refine wp_getf dX2_firstBusy_27 fl_X2_27 m1 rfl ?_
        refine wp_iload_n dX2_firstBusy_30 rfl ?_
        refine wp_callV (As := [.int (nI pre.length)]) (rest := [.int (nI x)]) dX2_firstBusy_31 me_Jx4a65c_get_915e3 cw_X2_68 rfl ⟨(Nat.le_of_ble_eq_true rfl), (Nat.le_of_ble_eq_true rfl)⟩ rfl rfl rfl (Nat.le_of_ble_eq_true rfl) l1 (ct_lget m5 hget) (fun r h3 q => ?_)
        obtain ⟨rfl, rfl⟩ := q
        refine wp_cast dX2_firstBusy_34 ck_X2_78 (m6 k hk) rfl ca_X5_X5 ?_
        refine wp_getf dX2_firstBusy_37 fl_X2_176 (m6 k hk) rfl ?_
        refine wp_callS (As := [.int (nI x), .int (nI (lea p k))]) (rest := []) dX2_firstBusy_40 me_J9_min_7cf53 cw_X2_160 ⟨(Nat.le_of_ble_eq_true rfl), (Nat.le_of_ble_eq_true rfl)⟩ rfl rfl rfl (Nat.le_of_ble_eq_true rfl) (ct_min _ _) (fun r h4 q => ?_)
        obtain ⟨rfl, rfl⟩ := q
        rw [minI hx (lea_lt _ _)]
        refine wp_istore_n dX2_firstBusy_43 (Nat.le_of_ble_eq_true rfl) rfl ?_
        refine wp_iinc dX2_firstBusy_44 rfl rfl ?_
        refine wp_goto (tgt := 14) dX2_firstBusy_47 rfl ?_
        rw [show nI pre.length + Int32.ofInt 1 = nI (pre ++ [k]).length by rw [List.length_append]; exact nI_1 _]
        exact ih (pre ++ [k]) (min x (lea p k)) (by rw [hpre]; simp) (by omega)
  exact loop (opn p) [] (min (p.1 12) (lea p (p.1 28))) rfl (by omega)
end CE
