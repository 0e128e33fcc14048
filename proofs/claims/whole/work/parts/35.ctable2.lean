/-! Table: insert, init; Wire; Field, Open -/
theorem tbes_spec (nm vl : Nat → Nat) (cap size : Nat) : ∀ (n j now : Nat), now = tsum nm vl j n → j ≤ tbes nm vl cap size n now j ∧ tbes nm vl cap size n now j ≤ j + n ∧ (size ≤ cap → tsum nm vl (tbes nm vl cap size n now j) (j + n - tbes nm vl cap size n now j) + size ≤ cap) ∧ ∀ i, j ≤ i → i < tbes nm vl cap size n now j → cap < tsum nm vl i (j + n - i) + size := by
  intro n
  induction n with
  | zero =>
    intro j now hnow
    refine ⟨Nat.le_refl _, Nat.le_refl _, fun h => ?_, fun i h1 h2 => ?_⟩
    · show tsum nm vl j (j + 0 - j) + size ≤ cap
      rw [show j + 0 - j = 0 by omega]
      show 0 + size ≤ cap
      omega
    · have : i < j := h2
      omega
  | succ n ih =>
    intro j now hnow
    rw [tbes]
    by_cases c : now + size ≤ cap
    · rw [if_pos c]
      refine ⟨Nat.le_refl _, by omega, fun _ => ?_, fun i h1 h2 => by omega⟩
      rw [show j + (n + 1) - j = n + 1 by omega, ← hnow]
      exact c
    · rw [if_neg c]
      rw [tsum] at hnow
      have := ih (j + 1) (now - tsz nm vl j) (by omega)
      obtain ⟨h1, h2, h3, h4⟩ := this
      rw [show j + 1 + n = j + (n + 1) by omega] at h2 h3 h4
      refine ⟨by omega, h2, h3, fun i hi1 hi2 => ?_⟩
      by_cases e : i = j
      · subst e
        rw [show i + (n + 1) - i = n + 1 by omega, tsum]
        omega
      · exact h4 i (by omega) hi2
theorem tsum_congr {nm vl nm' vl' : Nat → Nat} : ∀ (n a : Nat), (∀ j, a ≤ j → j < a + n → nm' j = nm j ∧ vl' j = vl j) → tsum nm' vl' a n = tsum nm vl a n := by
  intro n
  induction n with
  | zero => intro a _; rfl
  | succ n ih =>
    intro a hj
    rw [tsum, tsum, ih (a + 1) (fun j h1 h2 => hj j (by omega) (by omega))]
    have := hj a (Nat.le_refl _) (by omega)
    rw [tsz, tsz, this.1, this.2]
theorem tsum_snoc (nm vl : Nat → Nat) : ∀ (n a : Nat), tsum nm vl a (n + 1) = tsum nm vl a n + tsz nm vl (a + n) := by
  intro n
  induction n with
  | zero => intro a; simp [tsum]
  | succ n ih =>
    intro a
    rw [tsum, ih (a + 1), tsum, show a + 1 + n = a + (n + 1) by omega]
    omega
theorem dX3_init_0 : decode cX3_init 0 = .ok (.aload_n 0, 1) := by decide +kernel
theorem dX3_init_1 : decode cX3_init 1 = .ok (.invokespecial 1, 3) := by decide +kernel
theorem dX3_init_4 : decode cX3_init 4 = .ok (.aload_n 0, 1) := by decide +kernel
theorem dX3_init_5 : decode cX3_init 5 = .ok (.lload_n 1, 1) := by decide +kernel
theorem dX3_init_6 : decode cX3_init 6 = .ok (.putfield 7, 3) := by decide +kernel
theorem dX3_init_9 : decode cX3_init 9 = .ok (.aload_n 0, 1) := by decide +kernel
theorem dX3_init_10 : decode cX3_init 10 = .ok (.lload_n 3, 1) := by decide +kernel
theorem dX3_init_11 : decode cX3_init 11 = .ok (.putfield 13, 3) := by decide +kernel
theorem dX3_init_14 : decode cX3_init 14 = .ok (.aload_n 0, 1) := by decide +kernel
theorem dX3_init_15 : decode cX3_init 15 = .ok (.iload 5, 2) := by decide +kernel
theorem dX3_init_17 : decode cX3_init 17 = .ok (.putfield 16, 3) := by decide +kernel
theorem dX3_init_20 : decode cX3_init 20 = .ok (.return_, 1) := by decide +kernel
theorem dX5_init_0 : decode cX5_init 0 = .ok (.aload_n 0, 1) := by decide +kernel
theorem dX5_init_1 : decode cX5_init 1 = .ok (.invokespecial 1, 3) := by decide +kernel
theorem dX5_init_4 : decode cX5_init 4 = .ok (.aload_n 0, 1) := by decide +kernel
theorem dX5_init_5 : decode cX5_init 5 = .ok (.iload_n 1, 1) := by decide +kernel
theorem dX5_init_6 : decode cX5_init 6 = .ok (.putfield 7, 3) := by decide +kernel
theorem dX5_init_9 : decode cX5_init 9 = .ok (.aload_n 0, 1) := by decide +kernel
theorem dX5_init_10 : decode cX5_init 10 = .ok (.iload_n 2, 1) := by decide +kernel
theorem dX5_init_11 : decode cX5_init 11 = .ok (.putfield 13, 3) := by decide +kernel
theorem dX5_init_14 : decode cX5_init 14 = .ok (.aload_n 0, 1) := by decide +kernel
theorem dX5_init_15 : decode cX5_init 15 = .ok (.iload_n 3, 1) := by decide +kernel
theorem dX5_init_16 : decode cX5_init 16 = .ok (.putfield 16, 3) := by decide +kernel
theorem dX5_init_19 : decode cX5_init 19 = .ok (.return_, 1) := by decide +kernel
section CU
variable {G : fp_G} {h : fp_H} {t a cap F C S : Nat} {nm vl : Nat → Nat}
theorem cc_insert {u v : Nat} {nm' vl' : Nat → Nat} (b : tbl h t a cap nm vl F C S) (hu : u < 2 ^ 64) (hv : v < 2 ^ 64) (hfit : 32 + bln u + bln v ≤ cap) (hC1 : C < 2400) (hnew : nm' C = u ∧ vl' C = v) (hold : ∀ j, j < C → nm' j = nm j ∧ vl' j = vl j) :
    fp_ct G rm_X8_insert M_X8_insert [.ref a, .long (lN u), .long (lN v)] h (fun r h' => r = none ∧ tbl h' t a cap nm' vl' (tbes nm vl cap (32 + bln u + bln v) (C - F) S F) (C + 1) (tsum nm' vl' (tbes nm vl cap (32 + bln u + bln v) (C - F) S F) (C + 1 - tbes nm vl cap (32 + bln u + bln v) (C - F) S F)) ∧ cf (fun x => x = t) h h' ∧ h'.2 = h.2) := by
  obtain ⟨n1, n2, n3, f1, f2, f3, a1, a2, a3, a4, d12, d13, d23, a5⟩ := b.ex
  have hC := b.hC
  have hF := b.hF
  have hcap := b.hcap
  have hS := b.hS
  have hsz := b.hsz
  have hfew := b.few
  have ne1 : n1 ≠ a := kind_ne a2 a1
  have ne2 : n2 ≠ a := kind_ne a3 a1
  have ne3 : n3 ≠ a := kind_ne a4 a1
  obtain ⟨k1, k2, k3, k4⟩ := tbes_spec nm vl cap (32 + bln u + bln v) (C - F) F S hS
  have bu := bln_le u
  have bv := bln_le v
  refine fp_meth pn_X8 (Nat.le_of_ble_eq_true rfl) rfl ?_
  refine wp_lload_n dX8_insert_0 rfl ?_
  refine wp_lload_n dX8_insert_1 rfl ?_
  refine wp_callSN (As := [.long (lN u), .long (lN v)]) (rest := []) dX8_insert_2 me_X10_sizeOf cw_X8_48 ⟨(Nat.le_of_ble_eq_true rfl), (Nat.le_of_ble_eq_true rfl)⟩ rfl rfl rfl (Nat.le_of_ble_eq_true rfl) (cc_sizeOf hu hv) (fun r h1 q => ?_)
  obtain ⟨q0, rfl⟩ := q
  rw [q0]
  refine wp_istore dX8_insert_5 (Nat.le_of_ble_eq_true rfl) rfl ?_
  refine wp_aload_n dX8_insert_7 rfl ?_
  refine wp_iload dX8_insert_8 rfl ?_
  refine wp_callV (As := [.int (nI (32 + bln u + bln v))]) (rest := []) dX8_insert_10 me_X8_firstBeside cw_X8_52 rfl ⟨(Nat.le_of_ble_eq_true rfl), (Nat.le_of_ble_eq_true rfl)⟩ rfl rfl rfl (Nat.le_of_ble_eq_true rfl) a1 (cc_beside b (by omega)) (fun r h2 q => ?_)
  obtain ⟨q0, rfl⟩ := q
  rw [q0]
  generalize hK : tbes nm vl cap (32 + bln u + bln v) (C - F) S F = K at k1 k2 k3 k4 ⊢
  rw [show F + (C - F) = C by omega] at k2 k3 k4
  have k3 := k3 hfit
  refine wp_istore dX8_insert_13 (Nat.le_of_ble_eq_true rfl) rfl ?_
  refine wp_aload_n dX8_insert_15 rfl ?_
  refine wp_getf dX8_insert_16 fl_X8_26 a1 rfl ?_
  refine wp_istore dX8_insert_19 (Nat.le_of_ble_eq_true rfl) rfl ?_
  have loop : ∀ (n j : Nat), n + j = K → F ≤ j → fp_wp G rm_X8_insert M_X8_insert 21 [some (.ref a), some (.long (lN u)), none, some (.long (lN v)), none, some (.int (nI (32 + bln u + bln v))), some (.int (nI K)), some (.int (nI j))] [] (fp_put h a t (.inr (9, [.int (nI cap), .ref n1, .ref n2, .ref n3, .int (nI F), .int (nI C), .int (nI (tsum nm vl j (C - j)))]))) (fun r h' => r = none ∧ tbl h' t a cap nm' vl' K (C + 1) (tsum nm' vl' K (C + 1 - K)) ∧ cf (fun x => x = t) h h' ∧ h'.2 = h.2) := by
    intro n
    induction n with
    | zero =>
      intro j hj hFj
      have : j = K := by omega
      subst this
      generalize hS2 : tsum nm vl j (C - j) = S2 at k3 ⊢
      have e1 : (fp_put h a t (.inr (9, [.int (nI cap), .ref n1, .ref n2, .ref n3, .int (nI F), .int (nI C), .int (nI S2)]))).1 a = some (t, .inr (9, [.int (nI cap), .ref n1, .ref n2, .ref n3, .int (nI F), .int (nI C), .int (nI S2)])) := fp_put_eq
      have e2 := (fp_put_ne (h := h) (t := t) (e := .inr (9, [.int (nI cap), .ref n1, .ref n2, .ref n3, .int (nI F), .int (nI C), .int (nI S2)])) ne1).trans a2
      have e3 := (fp_put_ne (h := h) (t := t) (e := .inr (9, [.int (nI cap), .ref n1, .ref n2, .ref n3, .int (nI F), .int (nI C), .int (nI S2)])) ne2).trans a3
      have e4 := (fp_put_ne (h := h) (t := t) (e := .inr (9, [.int (nI cap), .ref n1, .ref n2, .ref n3, .int (nI F), .int (nI C), .int (nI S2)])) ne3).trans a4
      have e5 : cf (fun x => x = t) h (fp_put h a t (.inr (9, [.int (nI cap), .ref n1, .ref n2, .ref n3, .int (nI F), .int (nI C), .int (nI S2)]))) := cf.put1 a1
      have e6 : (fp_put h a t (.inr (9, [.int (nI cap), .ref n1, .ref n2, .ref n3, .int (nI F), .int (nI C), .int (nI S2)]))).2 = h.2 := rfl
      generalize fp_put h a t (.inr (9, [.int (nI cap), .ref n1, .ref n2, .ref n3, .int (nI F), .int (nI C), .int (nI S2)])) = h2 at e1 e2 e3 e4 e5 e6 ⊢
      refine wp_iload dX8_insert_21 rfl ?_
      refine wp_iload dX8_insert_23 rfl ?_
      refine wp_icmp_ge (tgt := 53) dX8_insert_25 rfl (fun c_25 => ?_) (fun c_25 => ?_)
      · have g1 : (fp_put h2 a t (.inr (9, [.int (nI cap), .ref n1, .ref n2, .ref n3, .int (nI j), .int (nI C), .int (nI S2)]))).1 a = some (t, .inr (9, [.int (nI cap), .ref n1, .ref n2, .ref n3, .int (nI j), .int (nI C), .int (nI S2)])) := fp_put_eq
        have g2 := (fp_put_ne (h := h2) (t := t) (e := .inr (9, [.int (nI cap), .ref n1, .ref n2, .ref n3, .int (nI j), .int (nI C), .int (nI S2)])) ne1).trans e2
        have g3 := (fp_put_ne (h := h2) (t := t) (e := .inr (9, [.int (nI cap), .ref n1, .ref n2, .ref n3, .int (nI j), .int (nI C), .int (nI S2)])) ne2).trans e3
        have g4 := (fp_put_ne (h := h2) (t := t) (e := .inr (9, [.int (nI cap), .ref n1, .ref n2, .ref n3, .int (nI j), .int (nI C), .int (nI S2)])) ne3).trans e4
        have g5 : cf (fun x => x = t) h (fp_put h2 a t (.inr (9, [.int (nI cap), .ref n1, .ref n2, .ref n3, .int (nI j), .int (nI C), .int (nI S2)]))) := e5.trans (cf.put1 e1)
        have g6 : (fp_put h2 a t (.inr (9, [.int (nI cap), .ref n1, .ref n2, .ref n3, .int (nI j), .int (nI C), .int (nI S2)]))).2 = h.2 := e6
        refine wp_aload_n dX8_insert_53 rfl ?_
        refine wp_iload dX8_insert_54 rfl ?_
        refine wp_putf dX8_insert_56 (fs_X8_26 _) e1 (Nat.le_of_ble_eq_true rfl) rfl rfl ?_
        refine fp_wp_h (h' := fp_put h2 a t (.inr (9, [.int (nI cap), .ref n1, .ref n2, .ref n3, .int (nI j), .int (nI C), .int (nI S2)]))) rfl ?_
        generalize fp_put h2 a t (.inr (9, [.int (nI cap), .ref n1, .ref n2, .ref n3, .int (nI j), .int (nI C), .int (nI S2)])) = h3 at g1 g2 g3 g4 g5 g6 ⊢
        have w1 : ∀ e : fp_E, (fp_put h3 n1 t e).1 a = some (t, .inr (9, [.int (nI cap), .ref n1, .ref n2, .ref n3, .int (nI j), .int (nI C), .int (nI S2)])) := fun e => (fp_put_ne (Ne.symm ne1)).trans g1
        have w2 : ∀ e : fp_E, (fp_put h3 n1 t e).1 n2 = some (t, .inl (1, 16, .inr (.inl f2))) := fun e => (fp_put_ne (Ne.symm d12)).trans g3
        have w3 : ∀ e e2 : fp_E, (fp_put (fp_put h3 n1 t e) n2 t e2).1 a = some (t, .inr (9, [.int (nI cap), .ref n1, .ref n2, .ref n3, .int (nI j), .int (nI C), .int (nI S2)])) := fun e e2 => (fp_put_ne (Ne.symm ne2)).trans (w1 e)
        have w4 : ∀ e e2 : fp_E, (fp_put (fp_put h3 n1 t e) n2 t e2).1 n3 = some (t, .inl (0, 16, .inl f3)) := fun e e2 => (fp_put_ne (Ne.symm d23)).trans ((fp_put_ne (Ne.symm d13)).trans g4)
        have w5 : ∀ e e2 e3 : fp_E, (fp_put (fp_put (fp_put h3 n1 t e) n2 t e2) n3 t e3).1 a = some (t, .inr (9, [.int (nI cap), .ref n1, .ref n2, .ref n3, .int (nI j), .int (nI C), .int (nI S2)])) := fun e e2 e3 => (fp_put_ne (Ne.symm ne3)).trans (w3 e e2)
        refine wp_aload_n dX8_insert_59 rfl ?_
        refine wp_getf dX8_insert_60 fl_X8_29 g1 rfl ?_
        refine wp_bipush (v := 15) dX8_insert_63 rfl ?_
        refine wp_iand dX8_insert_65 ?_
        rw [and15]
        have hin : vp_in (nI (C % 16)) 16 := vp_in_nI (by omega) (by omega)
        have hcl : (nI (C % 16)).toNatClampNeg = C % 16 := nI_clamp (by omega)
        refine wp_istore dX8_insert_66 (Nat.le_of_ble_eq_true rfl) rfl ?_
        refine wp_aload_n dX8_insert_68 rfl ?_
        refine wp_getf dX8_insert_69 fl_X8_15 g1 rfl ?_
        refine wp_iload dX8_insert_72 rfl ?_
        refine wp_lload_n dX8_insert_74 rfl ?_
        refine wp_last dX8_insert_75 rfl g2 hin ?_
        refine wp_aload_n dX8_insert_76 rfl ?_
        refine wp_getf dX8_insert_77 fl_X8_19 (w1 _) rfl ?_
        refine wp_iload dX8_insert_80 rfl ?_
        refine wp_lload_n dX8_insert_82 rfl ?_
        refine wp_last dX8_insert_83 rfl (w2 _) hin ?_
        refine wp_aload_n dX8_insert_84 rfl ?_
        refine wp_getf dX8_insert_85 fl_X8_22 (w3 _ _) rfl ?_
        refine wp_iload dX8_insert_88 rfl ?_
        refine wp_iload dX8_insert_90 rfl ?_
        refine wp_iast dX8_insert_92 rfl (w4 _ _) hin ?_
        refine wp_aload_n dX8_insert_93 rfl ?_
        refine wp_dup dX8_insert_94 rfl ?_
        refine wp_getf dX8_insert_95 fl_X8_29 (w5 _ _ _) rfl ?_
        refine wp_iconst (v := 1) dX8_insert_98 rfl ?_
        refine wp_iadd dX8_insert_99 ?_
        refine wp_putf dX8_insert_100 (fs_X8_29 _) (w5 _ _ _) (Nat.le_of_ble_eq_true rfl) rfl rfl ?_
        refine wp_aload_n dX8_insert_103 rfl ?_
        refine wp_dup dX8_insert_104 rfl ?_
        refine wp_getf dX8_insert_105 fl_X8_45 fp_put_eq rfl ?_
        refine wp_iload dX8_insert_108 rfl ?_
        refine wp_iadd dX8_insert_110 ?_
        refine wp_putf dX8_insert_111 (fs_X8_45 _) fp_put_eq (Nat.le_of_ble_eq_true rfl) rfl rfl ?_
        refine wp_vret dX8_insert_114 rfl ?_
        rw [hcl]
        have hsz' : tsz nm' vl' C = 32 + bln u + bln v := by rw [tsz, hnew.1, hnew.2]
        have es : tsum nm' vl' j (C + 1 - j) = S2 + (32 + bln u + bln v) := by
          rw [show C + 1 - j = (C - j) + 1 by omega, tsum_snoc, show j + (C - j) = C by omega, hsz', tsum_congr (C - j) j (fun i h1 h2 => hold i (by omega)), hS2]
        refine ⟨rfl, ⟨⟨n1, n2, n3, vp_updL f1 (C % 16) (lN u), vp_updL f2 (C % 16) (lN v), upd f3 (C % 16) (nI (32 + bln u + bln v)), ?_, ?_, ?_, ?_, d12, d13, d23, ?_⟩, hcap, by omega, by omega, rfl, by omega, ?_⟩, ?_, g6⟩
        · rw [fp_put_eq, es, ← nI_add S2, ← nI_1]
          rfl
        · rw [fp_put_ne ne1, fp_put_ne ne1, fp_put_ne d13, fp_put_ne d12]; exact fp_put_eq
        · rw [fp_put_ne ne2, fp_put_ne ne2, fp_put_ne d23]; exact fp_put_eq
        · rw [fp_put_ne ne3, fp_put_ne ne3]; exact fp_put_eq
        · intro i hi1 hi2
          by_cases ei : i = C
          · subst ei
            rw [hsz', hnew.1, hnew.2]
            simp [vp_updL, upd]
          · have hmod : i % 16 ≠ C % 16 := by omega
            have hio := hold i (by omega)
            have := a5 i (by omega) (by omega)
            simp only [vp_updL, upd, if_neg hmod]
            rw [hio.1, hio.2, show tsz nm' vl' i = tsz nm vl i by rw [tsz, tsz, hio.1, hio.2]]
            exact this
        · intro i hi
          by_cases ei : i = C
          · subst ei
            rw [hnew.1, hnew.2]
            exact ⟨hu, hv⟩
          · rw [(hold i (by omega)).1, (hold i (by omega)).2]
            exact b.hnm i (by omega)
        · exact ((((g5.trans (cf.put1 g2)).trans (cf.put1 (w2 _))).trans (cf.put1 (w4 _ _))).trans (cf.put1 (w5 _ _ _))).trans (cf.put1 fp_put_eq)
      · exact absurd (nI_le (Nat.le_refl _) (by omega)) c_25
    | succ n ih =>
      intro j hj hFj
      have hlt : j < K := by omega
      have es : tsum nm vl j (C - j) = tsz nm vl j + tsum nm vl (j + 1) (C - (j + 1)) := by
        rw [show C - j = (C - (j + 1)) + 1 by omega, tsum]
      refine wp_iload dX8_insert_21 rfl ?_
      refine wp_iload dX8_insert_23 rfl ?_
      refine wp_icmp_ge (tgt := 53) dX8_insert_25 rfl (fun c_25 => ?_) (fun c_25 => ?_)
      · have := (nI_leI (by omega) (by omega)).mp c_25
        omega
      · have e4 := (fp_put_ne (h := h) (t := t) (e := .inr (9, [.int (nI cap), .ref n1, .ref n2, .ref n3, .int (nI F), .int (nI C), .int (nI (tsum nm vl j (C - j)))])) ne3).trans a4
        refine wp_aload_n dX8_insert_28 rfl ?_
        refine wp_dup dX8_insert_29 rfl ?_
        refine wp_getf dX8_insert_30 fl_X8_45 fp_put_eq rfl ?_
        refine wp_aload_n dX8_insert_33 rfl ?_
        refine wp_getf dX8_insert_34 fl_X8_22 fp_put_eq rfl ?_
        refine wp_iload dX8_insert_37 rfl ?_
        refine wp_bipush (v := 15) dX8_insert_39 rfl ?_
        refine wp_iand dX8_insert_41 ?_
        rw [and15]
        refine wp_iald dX8_insert_42 rfl e4 (vp_in_nI (by omega) (by omega)) ?_
        rw [nI_clamp (by omega), (a5 j hFj (by omega)).2.2]
        refine wp_isub dX8_insert_43 ?_
        rw [pk_sub (by omega)]
        refine wp_putf dX8_insert_44 (fs_X8_45 _) fp_put_eq (Nat.le_of_ble_eq_true rfl) rfl rfl ?_
        refine wp_iinc dX8_insert_47 rfl rfl ?_
        refine wp_goto (tgt := 21) dX8_insert_50 rfl ?_
        rw [show nI j + Int32.ofInt 1 = nI (j + 1) from nI_1 j, fp_put_put]
        have := ih (j + 1) (by omega) (by omega)
        rw [show tsum nm vl (j + 1) (C - (j + 1)) = tsum nm vl j (C - j) - tsz nm vl j by omega] at this
        exact this
  have := loop (K - F) F (by omega) (Nat.le_refl _)
  rw [← hS, fp_put_self a1] at this
  exact this
theorem cc_tnew {x1 x2 x3 : Value} (w : fp_wf h) (ha : h.1 a = some (t, .inr (9, [.int 0, x1, x2, x3, .int 0, .int 0, .int 0]))) (hcap : cap ≤ 400) : fp_ct G rm_X8_init M_X8_init [.ref a, .int (nI cap)] h (fun r h' => r = none ∧ tbl h' t a cap nm vl 0 0 0 ∧ cf (fun x => x = t) h h' ∧ h'.2.2 = h.2.2 + 48) := by
  have hna := w.ne ha
  refine fp_meth pn_X8 (Nat.le_of_ble_eq_true rfl) rfl ?_
  refine wp_aload_n dX8_init_0 rfl ?_
  refine wp_objInit dX8_init_1 cw_X8_3 ⟨(Nat.le_of_ble_eq_true rfl), (Nat.le_of_ble_eq_true rfl)⟩ rfl (Nat.le_of_ble_eq_true rfl) ?_
  refine wp_aload_n dX8_init_4 rfl ?_
  refine wp_iload_n dX8_init_5 rfl ?_
  refine wp_putf dX8_init_6 fs_X8_9 ha (Nat.le_of_ble_eq_true rfl) rfl rfl ?_
  have w1 := w.put (t := t) (e := .inr (9, [.int (nI cap), x1, x2, x3, .int 0, .int 0, .int 0])) ha
  have e1 : (fp_put h a t (.inr (9, [.int (nI cap), x1, x2, x3, .int 0, .int 0, .int 0]))).1 a = some (t, .inr (9, [.int (nI cap), x1, x2, x3, .int 0, .int 0, .int 0])) := fp_put_eq
  have c1 : cf (fun x => x = t) h (fp_put h a t (.inr (9, [.int (nI cap), x1, x2, x3, .int 0, .int 0, .int 0]))) := cf.put1 ha
  have z1 : (fp_put h a t (.inr (9, [.int (nI cap), x1, x2, x3, .int 0, .int 0, .int 0]))).2 = h.2 := rfl
  refine fp_wp_h (h' := fp_put h a t (.inr (9, [.int (nI cap), x1, x2, x3, .int 0, .int 0, .int 0]))) rfl ?_
  generalize fp_put h a t (.inr (9, [.int (nI cap), x1, x2, x3, .int 0, .int 0, .int 0])) = h1 at w1 e1 c1 z1 ⊢
  refine wp_aload_n dX8_init_9 rfl ?_
  refine wp_bipush (v := 16) dX8_init_10 rfl ?_
  refine wp_newa (a0 := (_, .inr (.inl (fun _ => 0)))) t dX8_init_12 (kd := 1) rfl ac_long (fun _ => rfl) (by decide) rfl (by decide) ?_
  refine wp_putf dX8_init_14 fs_X8_15 ((fp_new_ne (w1.ne e1)).trans e1) (Nat.le_of_ble_eq_true rfl) rfl rfl ?_
  have w2 := (w1.new (t := t) (k := 16) (e := .inl (1, 16, .inr (.inl fun _ => 0)))).put (t := t) (e := .inr (9, [.int (nI cap), .ref h1.2.1, x2, x3, .int 0, .int 0, .int 0])) ((fp_new_ne (w1.ne e1)).trans e1)
  have e2 : (fp_put (fp_new h1 t (.inl (1, 16, .inr (.inl fun _ => 0))) 16) a t (.inr (9, [.int (nI cap), .ref h1.2.1, x2, x3, .int 0, .int 0, .int 0]))).1 a = some (t, .inr (9, [.int (nI cap), .ref h1.2.1, x2, x3, .int 0, .int 0, .int 0])) := fp_put_eq
  have p2 : (fp_put (fp_new h1 t (.inl (1, 16, .inr (.inl fun _ => 0))) 16) a t (.inr (9, [.int (nI cap), .ref h1.2.1, x2, x3, .int 0, .int 0, .int 0]))).1 h1.2.1 = some (t, .inl (1, 16, .inr (.inl fun _ => 0))) := by rw [fp_put_ne (Ne.symm (w1.ne e1))]; exact fp_new_eq
  have c2 : cf (fun x => x = t) h (fp_put (fp_new h1 t (.inl (1, 16, .inr (.inl fun _ => 0))) 16) a t (.inr (9, [.int (nI cap), .ref h1.2.1, x2, x3, .int 0, .int 0, .int 0]))) := (c1.trans (cf.new w1 (by decide))).trans (cf.put1 ((fp_new_ne (w1.ne e1)).trans e1))
  have z2 : (fp_put (fp_new h1 t (.inl (1, 16, .inr (.inl fun _ => 0))) 16) a t (.inr (9, [.int (nI cap), .ref h1.2.1, x2, x3, .int 0, .int 0, .int 0]))).2 = (h1.2.1 + 1, h.2.2 + 16) := by rw [← z1]; rfl
  refine fp_wp_h (h' := fp_put (fp_new h1 t (.inl (1, 16, .inr (.inl fun _ => 0))) 16) a t (.inr (9, [.int (nI cap), .ref h1.2.1, x2, x3, .int 0, .int 0, .int 0]))) rfl ?_
  generalize fp_put (fp_new h1 t (.inl (1, 16, .inr (.inl fun _ => 0))) 16) a t (.inr (9, [.int (nI cap), .ref h1.2.1, x2, x3, .int 0, .int 0, .int 0])) = h2 at w2 e2 p2 c2 z2 ⊢
  refine wp_aload_n dX8_init_17 rfl ?_
  refine wp_bipush (v := 16) dX8_init_18 rfl ?_
  refine wp_newa (a0 := (_, .inr (.inl (fun _ => 0)))) t dX8_init_20 (kd := 1) rfl ac_long (fun _ => rfl) (by decide) rfl (by decide) ?_
  refine wp_putf dX8_init_22 fs_X8_19 ((fp_new_ne (w2.ne e2)).trans e2) (Nat.le_of_ble_eq_true rfl) rfl rfl ?_
  have w3 := (w2.new (t := t) (k := 16) (e := .inl (1, 16, .inr (.inl fun _ => 0)))).put (t := t) (e := .inr (9, [.int (nI cap), .ref h1.2.1, .ref h2.2.1, x3, .int 0, .int 0, .int 0])) ((fp_new_ne (w2.ne e2)).trans e2)
  have e3 : (fp_put (fp_new h2 t (.inl (1, 16, .inr (.inl fun _ => 0))) 16) a t (.inr (9, [.int (nI cap), .ref h1.2.1, .ref h2.2.1, x3, .int 0, .int 0, .int 0]))).1 a = some (t, .inr (9, [.int (nI cap), .ref h1.2.1, .ref h2.2.1, x3, .int 0, .int 0, .int 0])) := fp_put_eq
  have p3 : (fp_put (fp_new h2 t (.inl (1, 16, .inr (.inl fun _ => 0))) 16) a t (.inr (9, [.int (nI cap), .ref h1.2.1, .ref h2.2.1, x3, .int 0, .int 0, .int 0]))).1 h1.2.1 = some (t, .inl (1, 16, .inr (.inl fun _ => 0))) := by rw [fp_put_ne (kind_ne p2 e2), fp_new_ne (w2.ne p2)]; exact p2
  have q3 : (fp_put (fp_new h2 t (.inl (1, 16, .inr (.inl fun _ => 0))) 16) a t (.inr (9, [.int (nI cap), .ref h1.2.1, .ref h2.2.1, x3, .int 0, .int 0, .int 0]))).1 h2.2.1 = some (t, .inl (1, 16, .inr (.inl fun _ => 0))) := by rw [fp_put_ne (Ne.symm (w2.ne e2))]; exact fp_new_eq
  have c3 : cf (fun x => x = t) h (fp_put (fp_new h2 t (.inl (1, 16, .inr (.inl fun _ => 0))) 16) a t (.inr (9, [.int (nI cap), .ref h1.2.1, .ref h2.2.1, x3, .int 0, .int 0, .int 0]))) := (c2.trans (cf.new w2 (by decide))).trans (cf.put1 ((fp_new_ne (w2.ne e2)).trans e2))
  have z3 : (fp_put (fp_new h2 t (.inl (1, 16, .inr (.inl fun _ => 0))) 16) a t (.inr (9, [.int (nI cap), .ref h1.2.1, .ref h2.2.1, x3, .int 0, .int 0, .int 0]))).2 = (h2.2.1 + 1, h.2.2 + 32) := by show (h2.2.1 + 1, h2.2.2 + 16) = _; rw [z2]
  have d12 : h1.2.1 ≠ h2.2.1 := w2.ne p2
  refine fp_wp_h (h' := fp_put (fp_new h2 t (.inl (1, 16, .inr (.inl fun _ => 0))) 16) a t (.inr (9, [.int (nI cap), .ref h1.2.1, .ref h2.2.1, x3, .int 0, .int 0, .int 0]))) rfl ?_
  generalize fp_put (fp_new h2 t (.inl (1, 16, .inr (.inl fun _ => 0))) 16) a t (.inr (9, [.int (nI cap), .ref h1.2.1, .ref h2.2.1, x3, .int 0, .int 0, .int 0])) = h3 at w3 e3 p3 q3 c3 z3 ⊢
  refine wp_aload_n dX8_init_25 rfl ?_
  refine wp_bipush (v := 16) dX8_init_26 rfl ?_
  refine wp_newa (a0 := (_, .inl (fun _ => 0))) t dX8_init_28 (kd := 0) rfl ac_int (fun _ => rfl) (by decide) rfl (by decide) ?_
  refine wp_putf dX8_init_30 fs_X8_22 ((fp_new_ne (w3.ne e3)).trans e3) (Nat.le_of_ble_eq_true rfl) rfl rfl ?_
  refine wp_vret dX8_init_33 rfl ?_
  refine ⟨rfl, ⟨⟨h1.2.1, h2.2.1, h3.2.1, fun _ => 0, fun _ => 0, fun _ => 0, fp_put_eq, ?_, ?_, ?_, d12, w3.ne p3, w3.ne q3, fun j _ h2 => absurd h2 (Nat.not_lt_zero _)⟩, hcap, Nat.le_refl _, by decide, rfl, Nat.zero_le _, fun j h2 => absurd h2 (Nat.not_lt_zero _)⟩, ?_, ?_⟩
  · rw [fp_put_ne (kind_ne p3 e3), fp_new_ne (w3.ne p3)]; exact p3
  · rw [fp_put_ne (kind_ne q3 e3), fp_new_ne (w3.ne q3)]; exact q3
  · rw [fp_put_ne (Ne.symm (w3.ne e3))]; exact fp_new_eq
  · exact (c3.trans (cf.new w3 (by decide))).trans (cf.put1 ((fp_new_ne (w3.ne e3)).trans e3))
  · show h3.2.2 + 16 = h.2.2 + 48
    rw [z3]
theorem cc_fnew {x y : Int64} {s : Nat} {z1 z2 z3 : Value} (hs : s ≤ 1) (ha : h.1 a = some (t, .inr (4, [z1, z2, z3]))) : fp_ct G rm_X3_init M_X3_init [.ref a, .long x, .long y, .int (nI s)] h (fun r h' => r = none ∧ h' = fp_put h a t (.inr (4, [.long x, .long y, .int (nI s)]))) := by
  have hz : narrow .boolean (.int (nI s)) = .int (nI s) := by rcases (show s = 0 ∨ s = 1 by omega) with rfl | rfl <;> rfl
  have hf : fits .boolean (.int (nI s)) = true := by rcases (show s = 0 ∨ s = 1 by omega) with rfl | rfl <;> rfl
  refine fp_meth pn_X3 (Nat.le_of_ble_eq_true rfl) rfl ?_
  refine wp_aload_n dX3_init_0 rfl ?_
  refine wp_objInit dX3_init_1 cw_X3_1 ⟨(Nat.le_of_ble_eq_true rfl), (Nat.le_of_ble_eq_true rfl)⟩ rfl (Nat.le_of_ble_eq_true rfl) ?_
  refine wp_aload_n dX3_init_4 rfl ?_
  refine wp_lload_n dX3_init_5 rfl ?_
  refine wp_putf dX3_init_6 fs_X3_7 ha (Nat.le_of_ble_eq_true rfl) rfl rfl ?_
  refine wp_aload_n dX3_init_9 rfl ?_
  refine wp_lload_n dX3_init_10 rfl ?_
  refine wp_putf dX3_init_11 fs_X3_13 fp_put_eq (Nat.le_of_ble_eq_true rfl) rfl rfl ?_
  refine wp_aload_n dX3_init_14 rfl ?_
  refine wp_iload dX3_init_15 rfl ?_
  refine wp_putf dX3_init_17 fs_X3_16 fp_put_eq (Nat.le_of_ble_eq_true rfl) hz hf ?_
  refine wp_vret dX3_init_20 rfl ?_
  exact ⟨rfl, by rw [fp_put_put, fp_put_put]; rfl⟩
theorem cc_onew {x y w : Int32} {z1 z2 z3 : Value} (ha : h.1 a = some (t, .inr (6, [z1, z2, z3]))) : fp_ct G rm_X5_init M_X5_init [.ref a, .int x, .int y, .int w] h (fun r h' => r = none ∧ h' = fp_put h a t (.inr (6, [.int x, .int y, .int w]))) := by
  refine fp_meth pn_X5 (Nat.le_of_ble_eq_true rfl) rfl ?_
  refine wp_aload_n dX5_init_0 rfl ?_
  refine wp_objInit dX5_init_1 cw_X5_1 ⟨(Nat.le_of_ble_eq_true rfl), (Nat.le_of_ble_eq_true rfl)⟩ rfl (Nat.le_of_ble_eq_true rfl) ?_
  refine wp_aload_n dX5_init_4 rfl ?_
  refine wp_iload_n dX5_init_5 rfl ?_
  refine wp_putf dX5_init_6 fs_X5_7 ha (Nat.le_of_ble_eq_true rfl) rfl rfl ?_
  refine wp_aload_n dX5_init_9 rfl ?_
  refine wp_iload_n dX5_init_10 rfl ?_
  refine wp_putf dX5_init_11 fs_X5_13 fp_put_eq (Nat.le_of_ble_eq_true rfl) rfl rfl ?_
  refine wp_aload_n dX5_init_14 rfl ?_
  refine wp_iload_n dX5_init_15 rfl ?_
  refine wp_putf dX5_init_16 fs_X5_16 fp_put_eq (Nat.le_of_ble_eq_true rfl) rfl rfl ?_
  refine wp_vret dX5_init_19 rfl ?_
  exact ⟨rfl, by rw [fp_put_put, fp_put_put]; rfl⟩
end CU
