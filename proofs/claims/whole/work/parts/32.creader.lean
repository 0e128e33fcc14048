/-! Bytes: numbers and texts; Reader -/
def bP (h : fp_H) (t a : Nat) (ys : List Nat) (cap : Nat) : Option Value → fp_H → Prop := fun r h' => r = none ∧ ∃ cap', byt h' t a ys cap' ∧ cap ≤ cap' ∧ cap' ≤ max cap (2 * ys.length + 8) ∧ cf (fun x => x = t) h h' ∧ h'.2.2 + 2 * cap ≤ h.2.2 + 2 * cap'
theorem bP.step {h h1 h2 : fp_H} {t a cap cap1 : Nat} {xs ys : List Nat} {r : Option Value} (hc : cap ≤ cap1) (hm : cap1 ≤ max cap (2 * xs.length + 8)) (c1 : cf (fun x => x = t) h h1) (hs : h1.2.2 + 2 * cap ≤ h.2.2 + 2 * cap1) (hle : xs.length ≤ ys.length) (b : bP h1 t a ys cap1 r h2) : bP h t a ys cap r h2 := by
  obtain ⟨e, cap', q1, q2, q3, q4, q5⟩ := b
  exact ⟨e, cap', q1, by omega, by omega, c1.trans q4, by omega⟩
section CR
variable {G : fp_G} {h : fp_H}
theorem cc_putNumber {a t cap F n v : Nat} {xs : List Nat} (w : fp_wf h) (hb : byt h t a xs cap) (hl : xs.length + 6 < 2 ^ 20) (hn : n < 9) (hF : ∀ x, x < 2 ^ n → F ||| x = F + x) (hv : v < 2 ^ 30) : fp_ct G rm_X0_putNumber M_X0_putNumber [.ref a, .int (nI F), .int (nI n), .int (nI v)] h (bP h t a (xs ++ nb F n v) cap) := by
  have h2n : 2 ^ n ≤ 2 ^ 8 := Nat.pow_le_pow_right (by decide) (by omega)
  have h2p : 0 < 2 ^ n := Nat.pow_pos (by decide)
  have hat : ∃ r f, h.1 a = some (t, .inr (1, [.ref r, .int (nI xs.length)])) ∧ h.1 r = some (t, .inl (0, cap, .inl f)) := by obtain ⟨r, f, h1, h2, -⟩ := hb; exact ⟨r, f, h1, h2⟩
  obtain ⟨r0, f0, h1, -⟩ := hat
  refine fp_meth pn_X0 (Nat.le_of_ble_eq_true rfl) rfl ?_
  refine wp_iconst (v := 1) dX0_putNumber_0 rfl ?_
  refine wp_iload_n dX0_putNumber_1 rfl ?_
  refine wp_ishl dX0_putNumber_2 ?_
  refine wp_iconst (v := 1) dX0_putNumber_3 rfl ?_
  refine wp_isub dX0_putNumber_4 ?_
  rw [sh1 n hn]
  refine wp_istore dX0_putNumber_5 (Nat.le_of_ble_eq_true rfl) rfl ?_
  refine wp_iload_n dX0_putNumber_7 rfl ?_
  refine wp_iload dX0_putNumber_8 rfl ?_
  refine wp_icmp_ge (tgt := 21) dX0_putNumber_10 rfl (fun c_10 => ?_) (fun c_10 => ?_)
  · have hge : 2 ^ n - 1 ≤ v := (nI_leI (by omega) (by omega)).mp c_10
    have enb : nb F n v = (F + (2 ^ n - 1)) :: nbt 4 (v - (2 ^ n - 1)) := by rw [nb, if_neg (by omega)]
    rw [enb]
    refine wp_aload_n dX0_putNumber_21 rfl ?_
    refine wp_iload_n dX0_putNumber_22 rfl ?_
    refine wp_iload dX0_putNumber_23 rfl ?_
    refine wp_ior dX0_putNumber_25 ?_
    rw [nI_or, hF _ (by omega)]
    refine wp_callV (As := [.int (nI (F + (2 ^ n - 1)))]) (rest := []) dX0_putNumber_26 me_X0_put cw_X0_31 rfl ⟨(Nat.le_of_ble_eq_true rfl), (Nat.le_of_ble_eq_true rfl)⟩ rfl rfl rfl (Nat.le_of_ble_eq_true rfl) h1 (cc_put w hb (by omega)) (fun r h2 q => ?_)
    obtain ⟨rfl, cap1, q1, q2, q3, q4, q5⟩ := q
    refine wp_iload_n dX0_putNumber_29 rfl ?_
    refine wp_iload dX0_putNumber_30 rfl ?_
    refine wp_isub dX0_putNumber_32 ?_
    rw [pk_sub hge]
    refine wp_istore dX0_putNumber_33 (Nat.le_of_ble_eq_true rfl) rfl ?_
    refine wp_iconst (v := 0) dX0_putNumber_35 rfl ?_
    refine wp_istore dX0_putNumber_36 (Nat.le_of_ble_eq_true rfl) rfl ?_
    have loop : ∀ (f l i : Nat) (ys : List Nat) (h2 : fp_H) (cap1 : Nat), f + i = 4 → l < 2 ^ 30 → ys.length + f < 2 ^ 20 → byt h2 t a ys cap1 → fp_wf h2 → fp_wp G rm_X0_putNumber M_X0_putNumber 38 [some (.ref a), some (.int (nI F)), some (.int (nI n)), some (.int (nI v)), some (.int (nI (2 ^ n - 1))), some (.int (nI l)), some (.int (nI i))] [] h2 (bP h2 t a (ys ++ nbt f l) cap1) := by
      -- the last byte
      have last : ∀ (l : Nat) (i : Int32) (ys : List Nat) (h2 : fp_H) (cap1 : Nat), l < 2 ^ 30 → ys.length < 2 ^ 20 → byt h2 t a ys cap1 → fp_wf h2 → fp_wp G rm_X0_putNumber M_X0_putNumber 78 [some (.ref a), some (.int (nI F)), some (.int (nI n)), some (.int (nI v)), some (.int (nI (2 ^ n - 1))), some (.int (nI l)), some (.int i)] [] h2 (bP h2 t a (ys ++ [l]) cap1) := by
        intro l i ys h2 cap1 hl2 hys hb2 w2
        obtain ⟨r2, f2, k1, -⟩ := id hb2
        refine wp_aload_n dX0_putNumber_78 rfl ?_
        refine wp_iload dX0_putNumber_79 rfl ?_
        refine wp_callV (As := [.int (nI l)]) (rest := []) dX0_putNumber_81 me_X0_put cw_X0_31 rfl ⟨(Nat.le_of_ble_eq_true rfl), (Nat.le_of_ble_eq_true rfl)⟩ rfl rfl rfl (Nat.le_of_ble_eq_true rfl) k1 (cc_put w2 hb2 hys) (fun r h3 q => ?_)
        obtain ⟨rfl, cap2, z1, z2, z3, z4, z5⟩ := q
        refine wp_vret dX0_putNumber_84 rfl ?_
        exact ⟨rfl, cap2, z1, z2, by rw [List.length_append]; simp; omega, z4, z5⟩
      intro f
      induction f with
      | zero =>
        intro l i ys h2 cap1 hfi hl2 hys hb2 w2
        have hi4 : i = 4 := by omega
        subst hi4
        refine wp_iload dX0_putNumber_38 rfl ?_
        refine wp_iconst (v := 4) dX0_putNumber_40 rfl ?_
        refine wp_icmp_ge (tgt := 78) dX0_putNumber_41 rfl (fun c_41 => ?_) (fun c_41 => ?_)
        · exact last l _ ys h2 cap1 hl2 (by omega) hb2 w2
        · exact absurd (by decide) c_41
      | succ f ih =>
        intro l i ys h2 cap1 hfi hl2 hys hb2 w2
        obtain ⟨r2, f2, k1, -⟩ := id hb2
        rw [nbt]
        refine wp_iload dX0_putNumber_38 rfl ?_
        refine wp_iconst (v := 4) dX0_putNumber_40 rfl ?_
        refine wp_icmp_ge (tgt := 78) dX0_putNumber_41 rfl (fun c_41 => ?_) (fun c_41 => ?_)
        · have := (nI_leI (a := 4) (by decide) (by omega)).mp c_41
          omega
        · refine wp_iload dX0_putNumber_44 rfl ?_
          refine wp_sipush (v := 128) dX0_putNumber_46 rfl ?_
          refine wp_icmp_lt (tgt := 78) dX0_putNumber_49 rfl (fun c_49 => ?_) (fun c_49 => ?_)
          · have : l < 128 := (nI_ltI (b := 128) (by omega) (by decide)).mp c_49
            rw [if_pos (by omega)]
            exact last l _ ys h2 cap1 hl2 (by omega) hb2 w2
          · have : ¬ l < 128 := fun z => c_49 (nI_lt (b := 128) z (by decide))
            rw [if_neg (by omega)]
            refine wp_aload_n dX0_putNumber_52 rfl ?_
            refine wp_sipush (v := 128) dX0_putNumber_53 rfl ?_
            refine wp_iload dX0_putNumber_56 rfl ?_
            refine wp_bipush (v := 127) dX0_putNumber_58 rfl ?_
            refine wp_iand dX0_putNumber_60 ?_
            refine wp_ior dX0_putNumber_61 ?_
            rw [and127 (by omega)]
            refine wp_callV (As := [.int (nI (128 + l % 128))]) (rest := []) dX0_putNumber_62 me_X0_put cw_X0_31 rfl ⟨(Nat.le_of_ble_eq_true rfl), (Nat.le_of_ble_eq_true rfl)⟩ rfl rfl rfl (Nat.le_of_ble_eq_true rfl) k1 (cc_put w2 hb2 (by omega)) (fun r h3 q => ?_)
            obtain ⟨rfl, cap2, z1, z2, z3, z4, z5⟩ := q
            refine wp_iload dX0_putNumber_65 rfl ?_
            refine wp_bipush (v := 7) dX0_putNumber_67 rfl ?_
            refine wp_iushr dX0_putNumber_69 ?_
            rw [show ((nI l).toUInt32 >>> ((7 : Int32).toUInt32 &&& Int32.toUInt32 31)).toInt32 = nI (l / 128) from pk_ushrN (n := l) (by omega) 7 7 (by decide)]
            refine wp_istore dX0_putNumber_70 (Nat.le_of_ble_eq_true rfl) rfl ?_
            refine wp_iinc dX0_putNumber_72 rfl rfl ?_
            refine wp_goto (tgt := 38) dX0_putNumber_75 rfl ?_
            rw [show nI i + Int32.ofInt 1 = nI (i + 1) from nI_1 i]
            refine (ih (l / 128) (i + 1) (ys ++ [128 + l % 128]) h3 cap2 (by omega) (by omega) (by rw [List.length_append]; simp; omega) z1 (z4.wf w2)).mono (fun r h4 b => ?_)
            rw [List.append_assoc] at b
            exact bP.step (xs := ys) z2 z3 z4 z5 (by rw [List.length_append]; omega) b
    refine (loop 4 _ 0 (xs ++ [F + (2 ^ n - 1)]) h2 cap1 rfl (by omega) (by rw [List.length_append]; simp; omega) q1 (q4.wf w)).mono (fun r h4 b => ?_)
    rw [List.append_assoc] at b
    exact bP.step (xs := xs) q2 q3 q4 q5 (by rw [List.length_append]; omega) b
  · have hlt : v < 2 ^ n - 1 := by
      rcases Nat.lt_or_ge v (2 ^ n - 1) with q | q
      · exact q
      · exact absurd (nI_le q (by omega)) c_10
    have enb : nb F n v = [F + v] := by rw [nb, if_pos hlt]
    rw [enb]
    refine wp_aload_n dX0_putNumber_13 rfl ?_
    refine wp_iload_n dX0_putNumber_14 rfl ?_
    refine wp_iload_n dX0_putNumber_15 rfl ?_
    refine wp_ior dX0_putNumber_16 ?_
    rw [nI_or, hF _ (by omega)]
    refine wp_callV (As := [.int (nI (F + v))]) (rest := []) dX0_putNumber_17 me_X0_put cw_X0_31 rfl ⟨(Nat.le_of_ble_eq_true rfl), (Nat.le_of_ble_eq_true rfl)⟩ rfl rfl rfl (Nat.le_of_ble_eq_true rfl) h1 (cc_put w hb (by omega)) (fun r h2 q => ?_)
    obtain ⟨rfl, cap1, q1, q2, q3, q4, q5⟩ := q
    refine wp_vret dX0_putNumber_20 rfl ?_
    exact ⟨rfl, cap1, q1, q2, by rw [List.length_append]; simp; omega, q4, q5⟩
theorem cc_putText {a t cap F n u : Nat} {xs : List Nat} (w : fp_wf h) (hb : byt h t a xs cap) (hl : xs.length + 20 < 2 ^ 20) (hn : n < 9) (hF : ∀ x, x < 2 ^ n → F ||| x = F + x) (hu : u < 2 ^ 64) : fp_ct G rm_X0_putText M_X0_putText [.ref a, .int (nI F), .int (nI n), .long (lN u)] h (bP h t a (xs ++ (nb F n (bln u) ++ txb u)) cap) := by
  have b8 := bln_le u
  have hnl := nb_len F n (bln u)
  obtain ⟨r0, f0, h1, -⟩ := id hb
  refine fp_meth pn_X0 (Nat.le_of_ble_eq_true rfl) rfl ?_
  refine wp_lload_n dX0_putText_0 rfl ?_
  refine wp_callSN (As := [.long (lN u)]) (rest := []) dX0_putText_1 me_X10_lengthOf cw_X0_35 ⟨(Nat.le_of_ble_eq_true rfl), (Nat.le_of_ble_eq_true rfl)⟩ rfl rfl rfl (Nat.le_of_ble_eq_true rfl) (cc_len hu) (fun r h2 q => ?_)
  obtain ⟨rfl, rfl⟩ := q
  refine wp_istore dX0_putText_4 (Nat.le_of_ble_eq_true rfl) rfl ?_
  refine wp_aload_n dX0_putText_6 rfl ?_
  refine wp_iload_n dX0_putText_7 rfl ?_
  refine wp_iload_n dX0_putText_8 rfl ?_
  refine wp_iload dX0_putText_9 rfl ?_
  refine wp_callV (As := [.int (nI F), .int (nI n), .int (nI (bln u))]) (rest := []) dX0_putText_11 me_X0_putNumber cw_X0_39 rfl ⟨(Nat.le_of_ble_eq_true rfl), (Nat.le_of_ble_eq_true rfl)⟩ rfl rfl rfl (Nat.le_of_ble_eq_true rfl) h1 (cc_putNumber w hb (by omega) hn hF (by omega)) (fun r h3 q => ?_)
  obtain ⟨rfl, cap1, q1, q2, q3, q4, q5⟩ := q
  refine wp_iload dX0_putText_14 rfl ?_
  refine wp_iconst (v := 1) dX0_putText_16 rfl ?_
  refine wp_isub dX0_putText_17 ?_
  refine wp_istore dX0_putText_18 (Nat.le_of_ble_eq_true rfl) rfl ?_
  have loop : ∀ (i : Nat) (ys : List Nat) (h2 : fp_H) (cap1 : Nat), i ≤ bln u → ys.length + i < 2 ^ 20 → byt h2 t a ys cap1 → fp_wf h2 → fp_wp G rm_X0_putText M_X0_putText 20 [some (.ref a), some (.int (nI F)), some (.int (nI n)), some (.long (lN u)), none, some (.int (nI (bln u))), some (.int (nI i - 1))] [] h2 (bP h2 t a (ys ++ txd u i) cap1) := by
    intro i
    induction i with
    | zero =>
      intro ys h2 cap1 _ hys hb2 w2
      refine wp_iload dX0_putText_20 rfl ?_
      refine wp_if_lt (tgt := 47) dX0_putText_22 rfl (fun c_22 => ?_) (fun c_22 => ?_)
      · refine wp_vret dX0_putText_47 rfl ?_
        rw [show txd u 0 = [] from rfl, List.append_nil]
        exact ⟨rfl, cap1, hb2, Nat.le_refl _, by omega, cf.refl, Nat.le_refl _⟩
      · exact absurd (by decide) c_22
    | succ i ih =>
      intro ys h2 cap1 hi hys hb2 w2
      obtain ⟨r2, f2, k1, -⟩ := id hb2
      rw [nI_pred, txd_s]
      refine wp_iload dX0_putText_20 rfl ?_
      refine wp_if_lt (tgt := 47) dX0_putText_22 rfl (fun c_22 => ?_) (fun c_22 => ?_)
      · exact absurd c_22 (nI_pos (by omega))
      · refine wp_aload_n dX0_putText_25 rfl ?_
        refine wp_lload_n dX0_putText_26 rfl ?_
        refine wp_bipush (v := 8) dX0_putText_27 rfl ?_
        refine wp_iload dX0_putText_29 rfl ?_
        refine wp_imul dX0_putText_31 ?_
        refine wp_lushr dX0_putText_32 ?_
        refine wp_ldc2 dX0_putText_33 kc_X0_43 ?_
        refine wp_land dX0_putText_36 ?_
        refine wp_l2i dX0_putText_37 ?_
        rw [bte_long hu (by omega), lN_i]
        refine wp_callV (As := [.int (nI (bte u i))]) (rest := []) dX0_putText_38 me_X0_put cw_X0_31 rfl ⟨(Nat.le_of_ble_eq_true rfl), (Nat.le_of_ble_eq_true rfl)⟩ rfl rfl rfl (Nat.le_of_ble_eq_true rfl) k1 (cc_put w2 hb2 (by omega)) (fun r h4 q => ?_)
        obtain ⟨rfl, cap2, z1, z2, z3, z4, z5⟩ := q
        refine wp_iinc dX0_putText_41 rfl rfl ?_
        refine wp_goto (tgt := 20) dX0_putText_44 rfl ?_
        rw [dec1]
        refine (ih (ys ++ [bte u i]) h4 cap2 (by omega) (by rw [List.length_append]; simp; omega) z1 (z4.wf w2)).mono (fun r h5 b => ?_)
        rw [List.append_assoc] at b
        exact bP.step (xs := ys) z2 z3 z4 z5 (by rw [List.length_append]; omega) b
  refine (loop (bln u) (xs ++ nb F n (bln u)) h3 cap1 (Nat.le_refl _) (by rw [List.length_append]; omega) q1 (q4.wf w)).mono (fun r h5 b => ?_)
  rw [List.append_assoc] at b
  exact bP.step (xs := xs ++ nb F n (bln u)) q2 q3 q4 q5 (by simp only [List.length_append]; omega) b
theorem cc_putAll {a t cap b t2 cap2 : Nat} {xs ys : List Nat} (w : fp_wf h) (hb : byt h t a xs cap) (hb2 : byt h t2 b ys cap2) (ht : t2 ≠ t) (hl : xs.length + ys.length < 2 ^ 20) : fp_ct G rm_X0_putAll M_X0_putAll [.ref a, .ref b] h (bP h t a (xs ++ ys) cap) := by
  refine fp_meth pn_X0 (Nat.le_of_ble_eq_true rfl) rfl ?_
  refine wp_iconst (v := 0) dX0_putAll_0 rfl ?_
  refine wp_istore_n dX0_putAll_1 (Nat.le_of_ble_eq_true rfl) rfl ?_
  have loop : ∀ (n i : Nat) (h2 : fp_H) (cap1 : Nat), i ≤ ys.length → ys.length - i < n → byt h2 t a (xs ++ ys.take i) cap1 → cap ≤ cap1 → cap1 ≤ max cap (2 * (xs ++ ys).length + 8) → cf (fun x => x = t) h h2 → h2.2.2 + 2 * cap ≤ h.2.2 + 2 * cap1 → fp_wp G rm_X0_putAll M_X0_putAll 2 [some (.ref a), some (.ref b), some (.int (nI i))] [] h2 (bP h t a (xs ++ ys) cap) := by
    intro n
    induction n with
    | zero => intro i _ _ _ h2; omega
    | succ n ih =>
      intro i h2 cap1 hi hn q1 q2 q3 q4 q5
      have hb3 := hb2.kept q4 ht
      obtain ⟨r0, f0, k1, -⟩ := id q1
      obtain ⟨r2, f2, k2, -⟩ := id hb3
      refine wp_iload_n dX0_putAll_2 rfl ?_
      refine wp_aload_n dX0_putAll_3 rfl ?_
      refine wp_getf dX0_putAll_4 fl_X0_21 k2 rfl ?_
      refine wp_icmp_ge (tgt := 25) dX0_putAll_7 rfl (fun c_7 => ?_) (fun c_7 => ?_)
      · have e : i = ys.length := by
          have := (nI_leI (by omega) (by omega)).mp c_7
          omega
        refine wp_vret dX0_putAll_25 rfl ?_
        rw [e, List.take_length] at q1
        exact ⟨rfl, cap1, q1, q2, q3, q4, q5⟩
      · have hlt : i < ys.length := by
          rcases Nat.lt_or_ge i ys.length with q | q
          · exact q
          · exact absurd (nI_le q (by omega)) c_7
        have hlen : (xs ++ ys.take i).length = xs.length + i := by rw [List.length_append, List.length_take, Nat.min_eq_left hi]
        refine wp_aload_n dX0_putAll_10 rfl ?_
        refine wp_aload_n dX0_putAll_11 rfl ?_
        refine wp_iload_n dX0_putAll_12 rfl ?_
        refine wp_callV (As := [.int (nI i)]) (rest := [.ref a]) dX0_putAll_13 me_X0_at cw_X0_45 rfl ⟨(Nat.le_of_ble_eq_true rfl), (Nat.le_of_ble_eq_true rfl)⟩ rfl rfl rfl (Nat.le_of_ble_eq_true rfl) k2 (cc_bat hb3) (fun r h3 z => ?_)
        obtain ⟨rfl, z⟩ := z
        rcases z with ⟨z, -⟩ | ⟨j, hj, ej, rfl⟩
        · exact absurd ⟨i, hlt, rfl⟩ z
        · have : i = j := (nI_eq (by omega) (by omega)).mp ej
          subst this
          refine wp_callV (As := [.int (nI (ys.getD i 0))]) (rest := []) dX0_putAll_16 me_X0_put cw_X0_31 rfl ⟨(Nat.le_of_ble_eq_true rfl), (Nat.le_of_ble_eq_true rfl)⟩ rfl rfl rfl (Nat.le_of_ble_eq_true rfl) k1 (cc_put (q4.wf w) q1 (by omega)) (fun r h4 z => ?_)
          obtain ⟨rfl, cap3, z1, z2, z3, z4, z5⟩ := z
          refine wp_iinc dX0_putAll_19 rfl rfl ?_
          refine wp_goto (tgt := 2) dX0_putAll_22 rfl ?_
          rw [show nI i + Int32.ofInt 1 = nI (i + 1) from nI_1 i]
          refine ih (i + 1) h4 cap3 (by omega) (by omega) ?_ (by omega) ?_ (q4.trans z4) (by omega)
          · rw [List.append_assoc] at z1
            rw [List.take_succ, List.getElem?_eq_getElem hlt]
            rw [List.getD_eq_getElem?_getD, List.getElem?_eq_getElem hlt] at z1
            exact z1
          · have e9 : (xs ++ ys).length = xs.length + ys.length := List.length_append
            omega
  exact loop (ys.length + 1) 0 h cap (by omega) (by omega) (by rw [List.take_zero, List.append_nil]; exact hb) (Nat.le_refl _) (Nat.le_max_left _ _) cf.refl (Nat.le_refl _)
end CR
