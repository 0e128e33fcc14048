/-! ArrayList.remove; FieldPack's statics; Bytes -/
section CB
variable {G : fp_G} {h : fp_H}
theorem ct_lremove {a t cap i y : Nat} {as : List Nat} (hl : lst G h t a as cap) (hy : as[i]? = some y) (hel : ∀ y ∈ as, el h y) : fp_ct G rm_Jx4a65c_remove_915e3 M_Jx4a65c_remove_915e3 [.ref a, .int (nI i)] h (fun r h' => r = some (.ref y) ∧ lst G h' t a (as.eraseIdx i) cap ∧ cf (fun x => x = t) h h' ∧ h'.2 = h.2) := by
  obtain ⟨mc, ed, h1, h2⟩ := hl
  have hi : i < as.length := (List.getElem?_eq_some_iff.mp hy).1
  rcases h2 with ⟨-, rfl, -⟩ | ⟨hc0, f, h3, h4, h5, h6⟩
  · simp at hi
  have hne : ed ≠ a := kind_ne h3 h1
  have hlen : (as.eraseIdx i).length = as.length - 1 := List.length_eraseIdx_of_lt hi
  have inner : fp_ct G rm_Jx4a65c_fastRemove_b59b0 M_Jx4a65c_fastRemove_b59b0 [.ref a, .ref ed, .int (nI i)] h (fun r h' => r = none ∧ lst G h' t a (as.eraseIdx i) cap ∧ cf (fun x => x = t) h h' ∧ h'.2 = h.2) := by
    refine fp_meth pn_Jx4a65c (Nat.le_of_ble_eq_true rfl) rfl ?_
    refine wp_aload_n dJx4a65c_fastRemove_b59b0_0 rfl ?_
    refine wp_dup dJx4a65c_fastRemove_b59b0_1 rfl ?_
    refine wp_getf dJx4a65c_fastRemove_b59b0_2 fl_Jx4a65c_63 h1 rfl ?_
    refine wp_iconst (v := 1) dJx4a65c_fastRemove_b59b0_5 rfl ?_
    refine wp_iadd dJx4a65c_fastRemove_b59b0_6 ?_
    refine wp_putf dJx4a65c_fastRemove_b59b0_7 (fs_Jx4a65c_63 _) h1 (Nat.le_of_ble_eq_true rfl) rfl rfl ?_
    refine wp_aload_n dJx4a65c_fastRemove_b59b0_10 rfl ?_
    refine wp_getf dJx4a65c_fastRemove_b59b0_11 fl_Jx4a65c_48 fp_put_eq rfl ?_
    refine wp_iconst (v := 1) dJx4a65c_fastRemove_b59b0_14 rfl ?_
    refine wp_isub dJx4a65c_fastRemove_b59b0_15 ?_
    rw [nI_sub1 (show 0 < as.length by omega)]
    refine wp_dup dJx4a65c_fastRemove_b59b0_16 rfl ?_
    refine wp_istore_n dJx4a65c_fastRemove_b59b0_17 (Nat.le_of_ble_eq_true rfl) rfl ?_
    refine wp_iload_n dJx4a65c_fastRemove_b59b0_18 rfl ?_
    refine wp_eqL (L' := [some (.ref a), some (.ref ed), some (.int (nI i)), some (.int (nI (as.length - 1)))]) rfl ?_
    have c1 : cf (fun x => x = t) h (fp_put h a t (.inr (0, [.int (mc + 1), .ref ed, .int (nI as.length)]))) := cf.put1 h1
    have e1 : (fp_put h a t (.inr (0, [.int (mc + 1), .ref ed, .int (nI as.length)]))).1 ed = some (t, .inl (4, cap, .inr (.inr (.inr (.inr f))))) := (fp_put_ne hne).trans h3
    have e0 : (fp_put h a t (.inr (0, [.int (mc + 1), .ref ed, .int (nI as.length)]))).1 a = some (t, .inr (0, [.int (mc + 1), .ref ed, .int (nI as.length)])) := fp_put_eq
    have e2 : (fp_put h a t (.inr (0, [.int (mc + 1), .ref ed, .int (nI as.length)]))).2 = h.2 := rfl
    have hel1 : ∀ y ∈ as, el (fp_put h a t (.inr (0, [.int (mc + 1), .ref ed, .int (nI as.length)]))) y := by
      intro y hy
      obtain ⟨ty, ci, fs, r, q1, q2, q3⟩ := hel y hy
      by_cases e : y = a
      · subst e
        rw [h1] at q1
        cases q1
        exact ⟨t, 0, _, r, fp_put_eq, q2, q3⟩
      · exact ⟨ty, ci, fs, r, (fp_put_ne e).trans q1, q2, q3⟩
    refine fp_wp_h (h' := fp_put h a t (.inr (0, [.int (mc + 1), .ref ed, .int (nI as.length)]))) rfl ?_
    generalize fp_put h a t (.inr (0, [.int (mc + 1), .ref ed, .int (nI as.length)])) = h2 at c1 e1 e0 e2 hel1 ⊢
    -- the last place is emptied
    have fin : ∀ (h3 : fp_H) (g : Nat → Option Nat), h3.1 a = some (t, .inr (0, [.int (mc + 1), .ref ed, .int (nI as.length)])) → h3.1 ed = some (t, .inl (4, cap, .inr (.inr (.inr (.inr g))))) → (∀ j, j < as.length - 1 → g j = (as.eraseIdx i)[j]?) → cf (fun x => x = t) h h3 → h3.2 = h.2 → fp_wp G rm_Jx4a65c_fastRemove_b59b0 M_Jx4a65c_fastRemove_b59b0 34 [some (.ref a), some (.ref ed), some (.int (nI i)), some (.int (nI (as.length - 1)))] [] h3 (fun r h' => r = none ∧ lst G h' t a (as.eraseIdx i) cap ∧ cf (fun x => x = t) h h' ∧ h'.2 = h.2) := by
      intro h3 g g1 g2 g3 g4 g5
      refine wp_aload_n dJx4a65c_fastRemove_b59b0_34 rfl ?_
      refine wp_aload_n dJx4a65c_fastRemove_b59b0_35 rfl ?_
      refine wp_iload_n dJx4a65c_fastRemove_b59b0_36 rfl ?_
      refine wp_dup_x1 dJx4a65c_fastRemove_b59b0_37 rfl rfl ?_
      refine wp_putf dJx4a65c_fastRemove_b59b0_38 (fs_Jx4a65c_48 _) g1 (Nat.le_of_ble_eq_true rfl) rfl rfl ?_
      refine wp_null dJx4a65c_fastRemove_b59b0_41 ?_
      refine wp_aastN dJx4a65c_fastRemove_b59b0_42 rfl ((fp_put_ne hne).trans g2) (vp_in_nI (by omega) (by omega)) ?_
      rw [nI_clamp (by omega)]
      refine wp_vret dJx4a65c_fastRemove_b59b0_43 rfl ?_
      refine ⟨rfl, ⟨mc + 1, ed, ?_, Or.inr ⟨hc0, _, fp_put_eq, by omega, h5, fun j hj => ?_⟩⟩, ?_, g5⟩
      · rw [fp_put_ne (Ne.symm hne), fp_put_eq, hlen]
        rfl
      · rw [hlen] at hj
        rw [← g3 j hj]
        simp [va_up, show j ≠ as.length - 1 by omega]
      · exact (g4.trans (cf.put1 g1)).trans (cf.put1 ((fp_put_ne hne).trans g2))
    refine wp_icmp_le (tgt := 34) dJx4a65c_fastRemove_b59b0_19 rfl (fun c_19 => ?_) (fun c_19 => ?_)
    · have hle : as.length - 1 ≤ i := (nI_leI (by omega) (by omega)).mp c_19
      refine fin h2 f e0 e1 (fun j hj => ?_) c1 e2
      rw [List.getElem?_eraseIdx, if_pos (by omega)]
      exact h6 j (by omega)
    · have hlt : i < as.length - 1 := by
        rcases Nat.lt_or_ge i (as.length - 1) with q | q
        · exact q
        · exact absurd (nI_le q (by omega)) c_19
      refine wp_aload_n dJx4a65c_fastRemove_b59b0_22 rfl ?_
      refine wp_iload_n dJx4a65c_fastRemove_b59b0_23 rfl ?_
      refine wp_iconst (v := 1) dJx4a65c_fastRemove_b59b0_24 rfl ?_
      refine wp_iadd dJx4a65c_fastRemove_b59b0_25 ?_
      refine wp_aload_n dJx4a65c_fastRemove_b59b0_26 rfl ?_
      refine wp_iload_n dJx4a65c_fastRemove_b59b0_27 rfl ?_
      refine wp_iload_n dJx4a65c_fastRemove_b59b0_28 rfl ?_
      refine wp_iload_n dJx4a65c_fastRemove_b59b0_29 rfl ?_
      refine wp_isub dJx4a65c_fastRemove_b59b0_30 ?_
      rw [nI_1, pk_sub (show i ≤ as.length - 1 by omega)]
      refine wp_copyq (n := nI (as.length - 1 - i)) (sp := nI (i + 1)) (dp := nI i) dJx4a65c_fastRemove_b59b0_31 cw_Jx4a65c_112 ⟨(Nat.le_of_ble_eq_true rfl), (Nat.le_of_ble_eq_true rfl)⟩ rfl (Nat.le_of_ble_eq_true rfl) e1 e1 (nI_pos (by omega)) (nI_pos (by omega)) (nI_pos (by omega)) (by rw [nI_clamp (by omega), nI_clamp (by omega)]; omega) (by rw [nI_clamp (by omega), nI_clamp (by omega)]; omega) (fun j hj y hy => by
        rw [nI_clamp (by omega)] at hj
        rw [nI_clamp (by omega), h6 _ (by omega)] at hy
        exact hel1 y (List.mem_of_getElem? hy)) ?_
      rw [nI_clamp (by omega), nI_clamp (by omega), nI_clamp (by omega)]
      refine fin _ _ ((fp_put_ne (Ne.symm hne)).trans e0) fp_put_eq (fun j hj => ?_) (c1.trans (cf.put1 e1)) e2
      rw [List.getElem?_eraseIdx]
      by_cases hji : j < i
      · rw [if_pos hji, pk_cpy_out (Or.inl hji)]
        exact h6 j (by omega)
      · rw [if_neg hji, pk_cpy_in (by omega) (by omega), show i + 1 + (j - i) = j + 1 by omega]
        exact h6 (j + 1) (by omega)
  refine fp_meth pn_Jx4a65c (Nat.le_of_ble_eq_true rfl) rfl ?_
  refine wp_iload_n dJx4a65c_remove_915e3_0 rfl ?_
  refine wp_aload_n dJx4a65c_remove_915e3_1 rfl ?_
  refine wp_getf dJx4a65c_remove_915e3_2 fl_Jx4a65c_48 h1 rfl ?_
  refine wp_callS (As := [.int (nI i), .int (nI as.length)]) (rest := []) dJx4a65c_remove_915e3_5 me_J15_checkIndex_7cf53 cw_Jx4a65c_118 ⟨(Nat.le_of_ble_eq_true rfl), (Nat.le_of_ble_eq_true rfl)⟩ rfl rfl rfl (Nat.le_of_ble_eq_true rfl) (ct_chk hi (by omega)) (fun r h2 q => ?_)
  obtain ⟨rfl, rfl⟩ := q
  refine wp_pop dJx4a65c_remove_915e3_8 rfl ?_
  refine wp_aload_n dJx4a65c_remove_915e3_9 rfl ?_
  refine wp_getf dJx4a65c_remove_915e3_10 fl_Jx4a65c_9 h1 rfl ?_
  refine wp_astore_n dJx4a65c_remove_915e3_13 (Nat.le_of_ble_eq_true rfl) rfl ?_
  refine wp_aload_n dJx4a65c_remove_915e3_14 rfl ?_
  refine wp_iload_n dJx4a65c_remove_915e3_15 rfl ?_
  refine wp_aaldR dJx4a65c_remove_915e3_16 rfl h3 (vp_in_nI (by omega) (by omega)) (show f (nI i).toNatClampNeg = some y by rw [nI_clamp (by omega), h6 i hi, hy]) ?_
  refine wp_astore_n dJx4a65c_remove_915e3_17 (Nat.le_of_ble_eq_true rfl) rfl ?_
  refine wp_aload_n dJx4a65c_remove_915e3_18 rfl ?_
  refine wp_aload_n dJx4a65c_remove_915e3_19 rfl ?_
  refine wp_iload_n dJx4a65c_remove_915e3_20 rfl ?_
  refine wp_callV (As := [.ref ed, .int (nI i)]) (rest := []) dJx4a65c_remove_915e3_21 me_Jx4a65c_fastRemove_b59b0 cw_Jx4a65c_144 rfl ⟨(Nat.le_of_ble_eq_true rfl), (Nat.le_of_ble_eq_true rfl)⟩ rfl rfl rfl (Nat.le_of_ble_eq_true rfl) h1 (inner) (fun r h3 q => ?_)
  obtain ⟨rfl, q⟩ := q
  refine wp_aload_n dJx4a65c_remove_915e3_24 rfl ?_
  refine wp_aret dJx4a65c_remove_915e3_25 rfl (by first | exact Or.inl ⟨_, rfl⟩ | exact Or.inr ⟨_, rfl⟩) (Or.inr ⟨_, rfl⟩) ?_
  exact ⟨rfl, q⟩
theorem bln_gt {u j : Nat} (hu : u < 2 ^ 64) (hj : j < 8) : u / 2 ^ (8 * j) = 0 ↔ bln u ≤ j := by
  rw [Nat.div_eq_zero_iff]
  rcases (show j = 0 ∨ j = 1 ∨ j = 2 ∨ j = 3 ∨ j = 4 ∨ j = 5 ∨ j = 6 ∨ j = 7 by omega) with rfl | rfl | rfl | rfl | rfl | rfl | rfl | rfl <;>
    (simp only [Nat.reduceMul, Nat.reducePow] at hu ⊢
     unfold bln
     constructor
     · intro hh; repeat' split <;> try omega
     · intro hh; right; repeat' split at hh <;> try omega)
theorem dX10_isText_0 : decode cX10_isText 0 = .ok (.lload_n 0, 1) := by decide +kernel
theorem dX10_isText_1 : decode cX10_isText 1 = .ok (.invokestatic 223, 3) := by decide +kernel
theorem dX10_isText_4 : decode cX10_isText 4 = .ok (.istore_n 2, 1) := by decide +kernel
theorem dX10_isText_5 : decode cX10_isText 5 = .ok (.iconst 0, 1) := by decide +kernel
theorem dX10_isText_6 : decode cX10_isText 6 = .ok (.istore_n 3, 1) := by decide +kernel
theorem dX10_isText_7 : decode cX10_isText 7 = .ok (.iload_n 3, 1) := by decide +kernel
theorem dX10_isText_8 : decode cX10_isText 8 = .ok (.iload_n 2, 1) := by decide +kernel
theorem dX10_isText_9 : decode cX10_isText 9 = .ok (.if_icmp .ge 26, 3) := by decide +kernel
theorem dX10_isText_12 : decode cX10_isText 12 = .ok (.lload_n 0, 1) := by decide +kernel
theorem dX10_isText_13 : decode cX10_isText 13 = .ok (.bipush 8, 2) := by decide +kernel
theorem dX10_isText_15 : decode cX10_isText 15 = .ok (.iload_n 3, 1) := by decide +kernel
theorem dX10_isText_16 : decode cX10_isText 16 = .ok (.imul, 1) := by decide +kernel
theorem dX10_isText_17 : decode cX10_isText 17 = .ok (.lushr, 1) := by decide +kernel
theorem dX10_isText_18 : decode cX10_isText 18 = .ok (.ldc2_w 227, 3) := by decide +kernel
theorem dX10_isText_21 : decode cX10_isText 21 = .ok (.land, 1) := by decide +kernel
theorem dX10_isText_22 : decode cX10_isText 22 = .ok (.lconst 0, 1) := by decide +kernel
theorem dX10_isText_23 : decode cX10_isText 23 = .ok (.lcmp, 1) := by decide +kernel
theorem dX10_isText_24 : decode cX10_isText 24 = .ok (.ifCond .ne 5, 3) := by decide +kernel
theorem dX10_isText_27 : decode cX10_isText 27 = .ok (.iconst 0, 1) := by decide +kernel
theorem dX10_isText_28 : decode cX10_isText 28 = .ok (.ireturn, 1) := by decide +kernel
theorem dX10_isText_29 : decode cX10_isText 29 = .ok (.iinc 3 1, 3) := by decide +kernel
theorem dX10_isText_32 : decode cX10_isText 32 = .ok (.goto (-25), 3) := by decide +kernel
theorem dX10_isText_35 : decode cX10_isText 35 = .ok (.iconst 1, 1) := by decide +kernel
theorem dX10_isText_36 : decode cX10_isText 36 = .ok (.ireturn, 1) := by decide +kernel
theorem dX10_lengthOf_0 : decode cX10_lengthOf 0 = .ok (.iconst 0, 1) := by decide +kernel
theorem dX10_lengthOf_1 : decode cX10_lengthOf 1 = .ok (.istore_n 2, 1) := by decide +kernel
theorem dX10_lengthOf_2 : decode cX10_lengthOf 2 = .ok (.iconst 0, 1) := by decide +kernel
theorem dX10_lengthOf_3 : decode cX10_lengthOf 3 = .ok (.istore_n 3, 1) := by decide +kernel
theorem dX10_lengthOf_4 : decode cX10_lengthOf 4 = .ok (.iload_n 3, 1) := by decide +kernel
theorem dX10_lengthOf_5 : decode cX10_lengthOf 5 = .ok (.bipush 8, 2) := by decide +kernel
theorem dX10_lengthOf_7 : decode cX10_lengthOf 7 = .ok (.if_icmp .ge 23, 3) := by decide +kernel
theorem dX10_lengthOf_10 : decode cX10_lengthOf 10 = .ok (.lload_n 0, 1) := by decide +kernel
theorem dX10_lengthOf_11 : decode cX10_lengthOf 11 = .ok (.bipush 8, 2) := by decide +kernel
theorem dX10_lengthOf_13 : decode cX10_lengthOf 13 = .ok (.iload_n 3, 1) := by decide +kernel
theorem dX10_lengthOf_14 : decode cX10_lengthOf 14 = .ok (.imul, 1) := by decide +kernel
theorem dX10_lengthOf_15 : decode cX10_lengthOf 15 = .ok (.lushr, 1) := by decide +kernel
theorem dX10_lengthOf_16 : decode cX10_lengthOf 16 = .ok (.lconst 0, 1) := by decide +kernel
theorem dX10_lengthOf_17 : decode cX10_lengthOf 17 = .ok (.lcmp, 1) := by decide +kernel
theorem dX10_lengthOf_18 : decode cX10_lengthOf 18 = .ok (.ifCond .eq 6, 3) := by decide +kernel
theorem dX10_lengthOf_21 : decode cX10_lengthOf 21 = .ok (.iinc 2 1, 3) := by decide +kernel
theorem dX10_lengthOf_24 : decode cX10_lengthOf 24 = .ok (.iinc 3 1, 3) := by decide +kernel
theorem dX10_lengthOf_27 : decode cX10_lengthOf 27 = .ok (.goto (-23), 3) := by decide +kernel
theorem dX10_lengthOf_30 : decode cX10_lengthOf 30 = .ok (.iload_n 2, 1) := by decide +kernel
theorem dX10_lengthOf_31 : decode cX10_lengthOf 31 = .ok (.ireturn, 1) := by decide +kernel
theorem dX10_sizeOf_0 : decode cX10_sizeOf 0 = .ok (.bipush 32, 2) := by decide +kernel
theorem dX10_sizeOf_2 : decode cX10_sizeOf 2 = .ok (.lload_n 0, 1) := by decide +kernel
theorem dX10_sizeOf_3 : decode cX10_sizeOf 3 = .ok (.invokestatic 223, 3) := by decide +kernel
theorem dX10_sizeOf_6 : decode cX10_sizeOf 6 = .ok (.iadd, 1) := by decide +kernel
theorem dX10_sizeOf_7 : decode cX10_sizeOf 7 = .ok (.lload_n 2, 1) := by decide +kernel
theorem dX10_sizeOf_8 : decode cX10_sizeOf 8 = .ok (.invokestatic 223, 3) := by decide +kernel
theorem dX10_sizeOf_11 : decode cX10_sizeOf 11 = .ok (.iadd, 1) := by decide +kernel
theorem dX10_sizeOf_12 : decode cX10_sizeOf 12 = .ok (.ireturn, 1) := by decide +kernel
theorem dX10_fixedNamed_0 : decode cX10_fixedNamed 0 = .ok (.lload_n 0, 1) := by decide +kernel
theorem dX10_fixedNamed_1 : decode cX10_fixedNamed 1 = .ok (.ldc2_w 229, 3) := by decide +kernel
theorem dX10_fixedNamed_4 : decode cX10_fixedNamed 4 = .ok (.lsub, 1) := by decide +kernel
theorem dX10_fixedNamed_5 : decode cX10_fixedNamed 5 = .ok (.lstore_n 2, 1) := by decide +kernel
theorem dX10_fixedNamed_6 : decode cX10_fixedNamed 6 = .ok (.lload_n 2, 1) := by decide +kernel
theorem dX10_fixedNamed_7 : decode cX10_fixedNamed 7 = .ok (.lconst 0, 1) := by decide +kernel
theorem dX10_fixedNamed_8 : decode cX10_fixedNamed 8 = .ok (.lcmp, 1) := by decide +kernel
theorem dX10_fixedNamed_9 : decode cX10_fixedNamed 9 = .ok (.ifCond .lt 11, 3) := by decide +kernel
theorem dX10_fixedNamed_12 : decode cX10_fixedNamed 12 = .ok (.lload_n 2, 1) := by decide +kernel
theorem dX10_fixedNamed_13 : decode cX10_fixedNamed 13 = .ok (.ldc2_w 231, 3) := by decide +kernel
theorem dX10_fixedNamed_16 : decode cX10_fixedNamed 16 = .ok (.lcmp, 1) := by decide +kernel
theorem dX10_fixedNamed_17 : decode cX10_fixedNamed 17 = .ok (.ifCond .lt 7, 3) := by decide +kernel
theorem dX10_fixedNamed_20 : decode cX10_fixedNamed 20 = .ok (.iconst (-1), 1) := by decide +kernel
theorem dX10_fixedNamed_21 : decode cX10_fixedNamed 21 = .ok (.goto 5, 3) := by decide +kernel
theorem dX10_fixedNamed_24 : decode cX10_fixedNamed 24 = .ok (.lload_n 2, 1) := by decide +kernel
theorem dX10_fixedNamed_25 : decode cX10_fixedNamed 25 = .ok (.l2i, 1) := by decide +kernel
theorem dX10_fixedNamed_26 : decode cX10_fixedNamed 26 = .ok (.ireturn, 1) := by decide +kernel
theorem dX10_fixedValue_0 : decode cX10_fixedValue 0 = .ok (.iload_n 0, 1) := by decide +kernel
theorem dX10_fixedValue_1 : decode cX10_fixedValue 1 = .ok (.iconst 2, 1) := by decide +kernel
theorem dX10_fixedValue_2 : decode cX10_fixedValue 2 = .ok (.irem, 1) := by decide +kernel
theorem dX10_fixedValue_3 : decode cX10_fixedValue 3 = .ok (.ifCond .ne 7, 3) := by decide +kernel
theorem dX10_fixedValue_6 : decode cX10_fixedValue 6 = .ok (.lconst 0, 1) := by decide +kernel
theorem dX10_fixedValue_7 : decode cX10_fixedValue 7 = .ok (.goto 6, 3) := by decide +kernel
theorem dX10_fixedValue_10 : decode cX10_fixedValue 10 = .ok (.ldc2_w 233, 3) := by decide +kernel
theorem dX10_fixedValue_13 : decode cX10_fixedValue 13 = .ok (.lreturn, 1) := by decide +kernel
theorem dX0_init_0 : decode cX0_init 0 = .ok (.aload_n 0, 1) := by decide +kernel
theorem dX0_init_1 : decode cX0_init 1 = .ok (.invokespecial 3, 3) := by decide +kernel
theorem dX0_init_4 : decode cX0_init 4 = .ok (.aload_n 0, 1) := by decide +kernel
theorem dX0_init_5 : decode cX0_init 5 = .ok (.iconst 0, 1) := by decide +kernel
theorem dX0_init_6 : decode cX0_init 6 = .ok (.iload_n 1, 1) := by decide +kernel
theorem dX0_init_7 : decode cX0_init 7 = .ok (.invokestatic 9, 3) := by decide +kernel
theorem dX0_init_10 : decode cX0_init 10 = .ok (.newarray .int, 2) := by decide +kernel
theorem dX0_init_12 : decode cX0_init 12 = .ok (.putfield 15, 3) := by decide +kernel
theorem dX0_init_15 : decode cX0_init 15 = .ok (.return_, 1) := by decide +kernel
theorem dX0_at_0 : decode cX0_at 0 = .ok (.iload_n 1, 1) := by decide +kernel
theorem dX0_at_1 : decode cX0_at 1 = .ok (.ifCond .lt 11, 3) := by decide +kernel
theorem dX0_at_4 : decode cX0_at 4 = .ok (.iload_n 1, 1) := by decide +kernel
theorem dX0_at_5 : decode cX0_at 5 = .ok (.aload_n 0, 1) := by decide +kernel
theorem dX0_at_6 : decode cX0_at 6 = .ok (.getfield 21, 3) := by decide +kernel
theorem dX0_at_9 : decode cX0_at 9 = .ok (.if_icmp .lt 7, 3) := by decide +kernel
theorem dX0_at_12 : decode cX0_at 12 = .ok (.iconst (-1), 1) := by decide +kernel
theorem dX0_at_13 : decode cX0_at 13 = .ok (.goto 9, 3) := by decide +kernel
theorem dX0_at_16 : decode cX0_at 16 = .ok (.aload_n 0, 1) := by decide +kernel
theorem dX0_at_17 : decode cX0_at 17 = .ok (.getfield 15, 3) := by decide +kernel
theorem dX0_at_20 : decode cX0_at 20 = .ok (.iload_n 1, 1) := by decide +kernel
theorem dX0_at_21 : decode cX0_at 21 = .ok (.iaload, 1) := by decide +kernel
theorem dX0_at_22 : decode cX0_at 22 = .ok (.ireturn, 1) := by decide +kernel
theorem dX0_put_0 : decode cX0_put 0 = .ok (.aload_n 0, 1) := by decide +kernel
theorem dX0_put_1 : decode cX0_put 1 = .ok (.getfield 21, 3) := by decide +kernel
theorem dX0_put_4 : decode cX0_put 4 = .ok (.aload_n 0, 1) := by decide +kernel
theorem dX0_put_5 : decode cX0_put 5 = .ok (.getfield 15, 3) := by decide +kernel
theorem dX0_put_8 : decode cX0_put 8 = .ok (.arraylength, 1) := by decide +kernel
theorem dX0_put_9 : decode cX0_put 9 = .ok (.if_icmp .lt 23, 3) := by decide +kernel
theorem dX0_put_12 : decode cX0_put 12 = .ok (.aload_n 0, 1) := by decide +kernel
theorem dX0_put_13 : decode cX0_put 13 = .ok (.aload_n 0, 1) := by decide +kernel
theorem dX0_put_14 : decode cX0_put 14 = .ok (.getfield 15, 3) := by decide +kernel
theorem dX0_put_17 : decode cX0_put 17 = .ok (.iconst 2, 1) := by decide +kernel
theorem dX0_put_18 : decode cX0_put 18 = .ok (.aload_n 0, 1) := by decide +kernel
theorem dX0_put_19 : decode cX0_put 19 = .ok (.getfield 21, 3) := by decide +kernel
theorem dX0_put_22 : decode cX0_put 22 = .ok (.imul, 1) := by decide +kernel
theorem dX0_put_23 : decode cX0_put 23 = .ok (.bipush 8, 2) := by decide +kernel
theorem dX0_put_25 : decode cX0_put 25 = .ok (.iadd, 1) := by decide +kernel
theorem dX0_put_26 : decode cX0_put 26 = .ok (.invokestatic 25, 3) := by decide +kernel
theorem dX0_put_29 : decode cX0_put 29 = .ok (.putfield 15, 3) := by decide +kernel
theorem dX0_put_32 : decode cX0_put 32 = .ok (.aload_n 0, 1) := by decide +kernel
theorem dX0_put_33 : decode cX0_put 33 = .ok (.getfield 15, 3) := by decide +kernel
theorem dX0_put_36 : decode cX0_put 36 = .ok (.aload_n 0, 1) := by decide +kernel
theorem dX0_put_37 : decode cX0_put 37 = .ok (.getfield 21, 3) := by decide +kernel
theorem dX0_put_40 : decode cX0_put 40 = .ok (.iload_n 1, 1) := by decide +kernel
theorem dX0_put_41 : decode cX0_put 41 = .ok (.iastore, 1) := by decide +kernel
theorem dX0_put_42 : decode cX0_put 42 = .ok (.aload_n 0, 1) := by decide +kernel
theorem dX0_put_43 : decode cX0_put 43 = .ok (.dup, 1) := by decide +kernel
theorem dX0_put_44 : decode cX0_put 44 = .ok (.getfield 21, 3) := by decide +kernel
theorem dX0_put_47 : decode cX0_put 47 = .ok (.iconst 1, 1) := by decide +kernel
theorem dX0_put_48 : decode cX0_put 48 = .ok (.iadd, 1) := by decide +kernel
theorem dX0_put_49 : decode cX0_put 49 = .ok (.putfield 21, 3) := by decide +kernel
theorem dX0_put_52 : decode cX0_put 52 = .ok (.return_, 1) := by decide +kernel
theorem dX0_putNumber_0 : decode cX0_putNumber 0 = .ok (.iconst 1, 1) := by decide +kernel
theorem dX0_putNumber_1 : decode cX0_putNumber 1 = .ok (.iload_n 2, 1) := by decide +kernel
theorem dX0_putNumber_2 : decode cX0_putNumber 2 = .ok (.ishl, 1) := by decide +kernel
theorem dX0_putNumber_3 : decode cX0_putNumber 3 = .ok (.iconst 1, 1) := by decide +kernel
theorem dX0_putNumber_4 : decode cX0_putNumber 4 = .ok (.isub, 1) := by decide +kernel
theorem dX0_putNumber_5 : decode cX0_putNumber 5 = .ok (.istore 4, 2) := by decide +kernel
theorem dX0_putNumber_7 : decode cX0_putNumber 7 = .ok (.iload_n 3, 1) := by decide +kernel
theorem dX0_putNumber_8 : decode cX0_putNumber 8 = .ok (.iload 4, 2) := by decide +kernel
theorem dX0_putNumber_10 : decode cX0_putNumber 10 = .ok (.if_icmp .ge 11, 3) := by decide +kernel
theorem dX0_putNumber_13 : decode cX0_putNumber 13 = .ok (.aload_n 0, 1) := by decide +kernel
theorem dX0_putNumber_14 : decode cX0_putNumber 14 = .ok (.iload_n 1, 1) := by decide +kernel
theorem dX0_putNumber_15 : decode cX0_putNumber 15 = .ok (.iload_n 3, 1) := by decide +kernel
theorem dX0_putNumber_16 : decode cX0_putNumber 16 = .ok (.ior, 1) := by decide +kernel
theorem dX0_putNumber_17 : decode cX0_putNumber 17 = .ok (.invokevirtual 31, 3) := by decide +kernel
theorem dX0_putNumber_20 : decode cX0_putNumber 20 = .ok (.return_, 1) := by decide +kernel
theorem dX0_putNumber_21 : decode cX0_putNumber 21 = .ok (.aload_n 0, 1) := by decide +kernel
theorem dX0_putNumber_22 : decode cX0_putNumber 22 = .ok (.iload_n 1, 1) := by decide +kernel
theorem dX0_putNumber_23 : decode cX0_putNumber 23 = .ok (.iload 4, 2) := by decide +kernel
theorem dX0_putNumber_25 : decode cX0_putNumber 25 = .ok (.ior, 1) := by decide +kernel
theorem dX0_putNumber_26 : decode cX0_putNumber 26 = .ok (.invokevirtual 31, 3) := by decide +kernel
theorem dX0_putNumber_29 : decode cX0_putNumber 29 = .ok (.iload_n 3, 1) := by decide +kernel
theorem dX0_putNumber_30 : decode cX0_putNumber 30 = .ok (.iload 4, 2) := by decide +kernel
theorem dX0_putNumber_32 : decode cX0_putNumber 32 = .ok (.isub, 1) := by decide +kernel
theorem dX0_putNumber_33 : decode cX0_putNumber 33 = .ok (.istore 5, 2) := by decide +kernel
theorem dX0_putNumber_35 : decode cX0_putNumber 35 = .ok (.iconst 0, 1) := by decide +kernel
theorem dX0_putNumber_36 : decode cX0_putNumber 36 = .ok (.istore 6, 2) := by decide +kernel
theorem dX0_putNumber_38 : decode cX0_putNumber 38 = .ok (.iload 6, 2) := by decide +kernel
theorem dX0_putNumber_40 : decode cX0_putNumber 40 = .ok (.iconst 4, 1) := by decide +kernel
theorem dX0_putNumber_41 : decode cX0_putNumber 41 = .ok (.if_icmp .ge 37, 3) := by decide +kernel
theorem dX0_putNumber_44 : decode cX0_putNumber 44 = .ok (.iload 5, 2) := by decide +kernel
theorem dX0_putNumber_46 : decode cX0_putNumber 46 = .ok (.sipush 128, 3) := by decide +kernel
theorem dX0_putNumber_49 : decode cX0_putNumber 49 = .ok (.if_icmp .lt 29, 3) := by decide +kernel
theorem dX0_putNumber_52 : decode cX0_putNumber 52 = .ok (.aload_n 0, 1) := by decide +kernel
theorem dX0_putNumber_53 : decode cX0_putNumber 53 = .ok (.sipush 128, 3) := by decide +kernel
theorem dX0_putNumber_56 : decode cX0_putNumber 56 = .ok (.iload 5, 2) := by decide +kernel
theorem dX0_putNumber_58 : decode cX0_putNumber 58 = .ok (.bipush 127, 2) := by decide +kernel
theorem dX0_putNumber_60 : decode cX0_putNumber 60 = .ok (.iand, 1) := by decide +kernel
theorem dX0_putNumber_61 : decode cX0_putNumber 61 = .ok (.ior, 1) := by decide +kernel
theorem dX0_putNumber_62 : decode cX0_putNumber 62 = .ok (.invokevirtual 31, 3) := by decide +kernel
theorem dX0_putNumber_65 : decode cX0_putNumber 65 = .ok (.iload 5, 2) := by decide +kernel
theorem dX0_putNumber_67 : decode cX0_putNumber 67 = .ok (.bipush 7, 2) := by decide +kernel
theorem dX0_putNumber_69 : decode cX0_putNumber 69 = .ok (.iushr, 1) := by decide +kernel
theorem dX0_putNumber_70 : decode cX0_putNumber 70 = .ok (.istore 5, 2) := by decide +kernel
theorem dX0_putNumber_72 : decode cX0_putNumber 72 = .ok (.iinc 6 1, 3) := by decide +kernel
theorem dX0_putNumber_75 : decode cX0_putNumber 75 = .ok (.goto (-37), 3) := by decide +kernel
theorem dX0_putNumber_78 : decode cX0_putNumber 78 = .ok (.aload_n 0, 1) := by decide +kernel
theorem dX0_putNumber_79 : decode cX0_putNumber 79 = .ok (.iload 5, 2) := by decide +kernel
theorem dX0_putNumber_81 : decode cX0_putNumber 81 = .ok (.invokevirtual 31, 3) := by decide +kernel
theorem dX0_putNumber_84 : decode cX0_putNumber 84 = .ok (.return_, 1) := by decide +kernel
theorem dX0_putText_0 : decode cX0_putText 0 = .ok (.lload_n 3, 1) := by decide +kernel
theorem dX0_putText_1 : decode cX0_putText 1 = .ok (.invokestatic 35, 3) := by decide +kernel
theorem dX0_putText_4 : decode cX0_putText 4 = .ok (.istore 5, 2) := by decide +kernel
theorem dX0_putText_6 : decode cX0_putText 6 = .ok (.aload_n 0, 1) := by decide +kernel
theorem dX0_putText_7 : decode cX0_putText 7 = .ok (.iload_n 1, 1) := by decide +kernel
theorem dX0_putText_8 : decode cX0_putText 8 = .ok (.iload_n 2, 1) := by decide +kernel
theorem dX0_putText_9 : decode cX0_putText 9 = .ok (.iload 5, 2) := by decide +kernel
theorem dX0_putText_11 : decode cX0_putText 11 = .ok (.invokevirtual 39, 3) := by decide +kernel
theorem dX0_putText_14 : decode cX0_putText 14 = .ok (.iload 5, 2) := by decide +kernel
theorem dX0_putText_16 : decode cX0_putText 16 = .ok (.iconst 1, 1) := by decide +kernel
theorem dX0_putText_17 : decode cX0_putText 17 = .ok (.isub, 1) := by decide +kernel
theorem dX0_putText_18 : decode cX0_putText 18 = .ok (.istore 6, 2) := by decide +kernel
theorem dX0_putText_20 : decode cX0_putText 20 = .ok (.iload 6, 2) := by decide +kernel
theorem dX0_putText_22 : decode cX0_putText 22 = .ok (.ifCond .lt 25, 3) := by decide +kernel
theorem dX0_putText_25 : decode cX0_putText 25 = .ok (.aload_n 0, 1) := by decide +kernel
theorem dX0_putText_26 : decode cX0_putText 26 = .ok (.lload_n 3, 1) := by decide +kernel
theorem dX0_putText_27 : decode cX0_putText 27 = .ok (.bipush 8, 2) := by decide +kernel
theorem dX0_putText_29 : decode cX0_putText 29 = .ok (.iload 6, 2) := by decide +kernel
theorem dX0_putText_31 : decode cX0_putText 31 = .ok (.imul, 1) := by decide +kernel
theorem dX0_putText_32 : decode cX0_putText 32 = .ok (.lushr, 1) := by decide +kernel
theorem dX0_putText_33 : decode cX0_putText 33 = .ok (.ldc2_w 43, 3) := by decide +kernel
theorem dX0_putText_36 : decode cX0_putText 36 = .ok (.land, 1) := by decide +kernel
theorem dX0_putText_37 : decode cX0_putText 37 = .ok (.l2i, 1) := by decide +kernel
theorem dX0_putText_38 : decode cX0_putText 38 = .ok (.invokevirtual 31, 3) := by decide +kernel
theorem dX0_putText_41 : decode cX0_putText 41 = .ok (.iinc 6 (-1), 3) := by decide +kernel
theorem dX0_putText_44 : decode cX0_putText 44 = .ok (.goto (-24), 3) := by decide +kernel
theorem dX0_putText_47 : decode cX0_putText 47 = .ok (.return_, 1) := by decide +kernel
theorem dX0_putAll_0 : decode cX0_putAll 0 = .ok (.iconst 0, 1) := by decide +kernel
theorem dX0_putAll_1 : decode cX0_putAll 1 = .ok (.istore_n 2, 1) := by decide +kernel
theorem dX0_putAll_2 : decode cX0_putAll 2 = .ok (.iload_n 2, 1) := by decide +kernel
theorem dX0_putAll_3 : decode cX0_putAll 3 = .ok (.aload_n 1, 1) := by decide +kernel
theorem dX0_putAll_4 : decode cX0_putAll 4 = .ok (.getfield 21, 3) := by decide +kernel
theorem dX0_putAll_7 : decode cX0_putAll 7 = .ok (.if_icmp .ge 18, 3) := by decide +kernel
theorem dX0_putAll_10 : decode cX0_putAll 10 = .ok (.aload_n 0, 1) := by decide +kernel
theorem dX0_putAll_11 : decode cX0_putAll 11 = .ok (.aload_n 1, 1) := by decide +kernel
theorem dX0_putAll_12 : decode cX0_putAll 12 = .ok (.iload_n 2, 1) := by decide +kernel
theorem dX0_putAll_13 : decode cX0_putAll 13 = .ok (.invokevirtual 45, 3) := by decide +kernel
theorem dX0_putAll_16 : decode cX0_putAll 16 = .ok (.invokevirtual 31, 3) := by decide +kernel
theorem dX0_putAll_19 : decode cX0_putAll 19 = .ok (.iinc 2 1, 3) := by decide +kernel
theorem dX0_putAll_22 : decode cX0_putAll 22 = .ok (.goto (-20), 3) := by decide +kernel
theorem dX0_putAll_25 : decode cX0_putAll 25 = .ok (.return_, 1) := by decide +kernel
theorem cc_len {u : Nat} (hu : u < 2 ^ 64) : fp_ct G rm_X10_lengthOf M_X10_lengthOf [.long (lN u)] h (fun r h' => h' = h ∧ r = some (.int (nI (bln u)))) := by
  have b8 := bln_le u
  refine fp_meth pn_X10 (Nat.le_of_ble_eq_true rfl) rfl ?_
  refine wp_iconst (v := 0) dX10_lengthOf_0 rfl ?_
  refine wp_istore_n dX10_lengthOf_1 (Nat.le_of_ble_eq_true rfl) rfl ?_
  refine wp_iconst (v := 0) dX10_lengthOf_2 rfl ?_
  refine wp_istore_n dX10_lengthOf_3 (Nat.le_of_ble_eq_true rfl) rfl ?_
  have loop : ∀ n j : Nat, j ≤ 8 → 8 - j < n → fp_wp G rm_X10_lengthOf M_X10_lengthOf 4 [some (.long (lN u)), none, some (.int (nI (min j (bln u)))), some (.int (nI j))] [] h (fun r h' => h' = h ∧ r = some (.int (nI (bln u)))) := by
    intro n
    induction n with
    | zero => intro j _ h2; omega
    | succ n ih =>
      intro j hj hn
      refine wp_iload_n dX10_lengthOf_4 rfl ?_
      refine wp_bipush (v := 8) dX10_lengthOf_5 rfl ?_
      refine wp_icmp_ge (tgt := 30) dX10_lengthOf_7 rfl (fun c_7 => ?_) (fun c_7 => ?_)
      · have e8 : j = 8 := by
          have := (nI_leI (a := 8) (b := j) (by decide) (by omega)).mp c_7
          omega
        subst e8
        refine wp_iload_n dX10_lengthOf_30 rfl ?_
        refine wp_iret dX10_lengthOf_31 rfl rfl ?_
        exact ⟨rfl, by rw [show min 8 (bln u) = bln u by omega]⟩
      · have hj8 : j < 8 := by
          rcases Nat.lt_or_ge j 8 with q | q
          · exact q
          · exact absurd (nI_le q (by omega)) c_7
        have hi := ih (j + 1) (by omega) (by omega)
        have hdl : u / 2 ^ (8 * j) < 2 ^ 64 := Nat.lt_of_le_of_lt (Nat.div_le_self _ _) hu
        have e : (8 : Int32) * nI j = nI (8 * j) := pk_mul 8 j
        have sh : ((lN u).toUInt64 >>> (((8 : Int32) * nI j).toInt64.toUInt64 &&& Int64.toUInt64 63)).toInt64 = lN (u / 2 ^ (8 * j)) := by rw [e, wb_shr hu (by omega)]
        refine wp_lload_n dX10_lengthOf_10 rfl ?_
        refine wp_bipush (v := 8) dX10_lengthOf_11 rfl ?_
        refine wp_iload_n dX10_lengthOf_13 rfl ?_
        refine wp_imul dX10_lengthOf_14 ?_
        refine wp_lushr dX10_lengthOf_15 ?_
        refine wp_lconst (v := 0) dX10_lengthOf_16 rfl ?_
        refine wp_lcmp dX10_lengthOf_17 ?_
        refine wp_if_eq (tgt := 24) dX10_lengthOf_18 rfl (fun c_18 => ?_) (fun c_18 => ?_)
        · rw [sh, cmp0, show (0 : Int64) = lN 0 from rfl, lN_inj hdl (by decide), bln_gt hu hj8] at c_18
          refine wp_iinc dX10_lengthOf_24 rfl rfl ?_
          refine wp_goto (tgt := 4) dX10_lengthOf_27 rfl ?_
          rw [show nI j + Int32.ofInt 1 = nI (j + 1) from nI_1 j]
          rw [show min (j + 1) (bln u) = min j (bln u) by omega] at hi
          exact hi
        · rw [sh, cmp0, show (0 : Int64) = lN 0 from rfl, lN_inj hdl (by decide), bln_gt hu hj8] at c_18
          refine wp_iinc dX10_lengthOf_21 rfl rfl ?_
          refine wp_iinc dX10_lengthOf_24 rfl rfl ?_
          refine wp_goto (tgt := 4) dX10_lengthOf_27 rfl ?_
          rw [show nI j + Int32.ofInt 1 = nI (j + 1) from nI_1 j, show nI (min j (bln u)) + Int32.ofInt 1 = nI (min j (bln u) + 1) from nI_1 _]
          rw [show min (j + 1) (bln u) = min j (bln u) + 1 by omega] at hi
          exact hi
  have := loop 9 0 (by omega) (by omega)
  rw [show min 0 (bln u) = 0 by omega] at this
  exact this
theorem cc_isText {u : Nat} (hu : u < 2 ^ 64) : fp_ct G rm_X10_isText M_X10_isText [.long (lN u)] h (fun r h' => h' = h ∧ r = some (.int (nI (b2n (whl u))))) := by
  have b8 := bln_le u
  refine fp_meth pn_X10 (Nat.le_of_ble_eq_true rfl) rfl ?_
  refine wp_lload_n dX10_isText_0 rfl ?_
  refine wp_callS (As := [.long (lN u)]) (rest := []) dX10_isText_1 me_X10_lengthOf cw_X10_223 ⟨(Nat.le_of_ble_eq_true rfl), (Nat.le_of_ble_eq_true rfl)⟩ rfl rfl rfl (Nat.le_of_ble_eq_true rfl) (cc_len hu) (fun r h1 q => ?_)
  obtain ⟨rfl, rfl⟩ := q
  refine wp_istore_n dX10_isText_4 (Nat.le_of_ble_eq_true rfl) rfl ?_
  refine wp_iconst (v := 0) dX10_isText_5 rfl ?_
  refine wp_istore_n dX10_isText_6 (Nat.le_of_ble_eq_true rfl) rfl ?_
  have loop : ∀ n j : Nat, j ≤ bln u → bln u - j < n → whlTo u j = true → fp_wp G rm_X10_isText M_X10_isText 7 [some (.long (lN u)), none, some (.int (nI (bln u))), some (.int (nI j))] [] h1 (fun r h' => h' = h1 ∧ r = some (.int (nI (b2n (whl u))))) := by
    intro n
    induction n with
    | zero => intro j _ h2; omega
    | succ n ih =>
      intro j hj hn hw
      refine wp_iload_n dX10_isText_7 rfl ?_
      refine wp_iload_n dX10_isText_8 rfl ?_
      refine wp_icmp_ge (tgt := 35) dX10_isText_9 rfl (fun c_9 => ?_) (fun c_9 => ?_)
      · have e8 : j = bln u := by
          have := (nI_leI (by omega) (by omega)).mp c_9
          omega
        refine wp_iconst (v := 1) dX10_isText_35 rfl ?_
        refine wp_iret dX10_isText_36 rfl rfl ?_
        refine ⟨rfl, ?_⟩
        rw [e8] at hw
        rw [show whl u = whlTo u (bln u) from rfl, hw]
        rfl
      · have hj8 : j < bln u := by
          rcases Nat.lt_or_ge j (bln u) with q | q
          · exact q
          · exact absurd (nI_le q (by omega)) c_9
        refine wp_lload_n dX10_isText_12 rfl ?_
        refine wp_bipush (v := 8) dX10_isText_13 rfl ?_
        refine wp_iload_n dX10_isText_15 rfl ?_
        refine wp_imul dX10_isText_16 ?_
        refine wp_lushr dX10_isText_17 ?_
        refine wp_ldc2 dX10_isText_18 kc_X10_227 ?_
        refine wp_land dX10_isText_21 ?_
        refine wp_lconst (v := 0) dX10_isText_22 rfl ?_
        refine wp_lcmp dX10_isText_23 ?_
        refine wp_if_ne (tgt := 29) dX10_isText_24 rfl (fun c_24 => ?_) (fun c_24 => ?_)
        · rw [bte_long hu (by omega), cmp0, lN_ne0 (by have := bte_lt u j; omega)] at c_24
          refine wp_iinc dX10_isText_29 rfl rfl ?_
          refine wp_goto (tgt := 7) dX10_isText_32 rfl ?_
          rw [show nI j + Int32.ofInt 1 = nI (j + 1) from nI_1 j]
          exact ih (j + 1) (by omega) (by omega) (by rw [whlTo_s, hw]; simp [c_24])
        · rw [bte_long hu (by omega), cmp0, lN_ne0 (by have := bte_lt u j; omega)] at c_24
          refine wp_iconst (v := 0) dX10_isText_27 rfl ?_
          refine wp_iret dX10_isText_28 rfl rfl ?_
          refine ⟨rfl, ?_⟩
          have : whl u = false := by
            rw [whl]
            rw [List.all_eq_false]
            exact ⟨j, List.mem_range.mpr hj8, by simp [c_24]⟩
          rw [this]
          rfl
  exact loop (bln u + 1) 0 (by omega) (by omega) rfl
theorem cc_sizeOf {u v : Nat} (hu : u < 2 ^ 64) (hv : v < 2 ^ 64) : fp_ct G rm_X10_sizeOf M_X10_sizeOf [.long (lN u), .long (lN v)] h (fun r h' => h' = h ∧ r = some (.int (nI (32 + bln u + bln v)))) := by
  refine fp_meth pn_X10 (Nat.le_of_ble_eq_true rfl) rfl ?_
  refine wp_bipush (v := 32) dX10_sizeOf_0 rfl ?_
  refine wp_lload_n dX10_sizeOf_2 rfl ?_
  refine wp_callS (As := [.long (lN u)]) (rest := [.int 32]) dX10_sizeOf_3 me_X10_lengthOf cw_X10_223 ⟨(Nat.le_of_ble_eq_true rfl), (Nat.le_of_ble_eq_true rfl)⟩ rfl rfl rfl (Nat.le_of_ble_eq_true rfl) (cc_len hu) (fun r h1 q => ?_)
  obtain ⟨rfl, rfl⟩ := q
  refine wp_iadd dX10_sizeOf_6 ?_
  refine wp_lload_n dX10_sizeOf_7 rfl ?_
  refine wp_callS (As := [.long (lN v)]) (rest := [.int (32 + nI (bln u))]) dX10_sizeOf_8 me_X10_lengthOf cw_X10_223 ⟨(Nat.le_of_ble_eq_true rfl), (Nat.le_of_ble_eq_true rfl)⟩ rfl rfl rfl (Nat.le_of_ble_eq_true rfl) (cc_len hv) (fun r h1 q => ?_)
  obtain ⟨rfl, rfl⟩ := q
  refine wp_iadd dX10_sizeOf_11 ?_
  refine wp_iret dX10_sizeOf_12 rfl rfl ?_
  exact ⟨rfl, by rw [show (32 : Int32) + nI (bln u) = nI (32 + bln u) from nI_add 32 _, nI_add]⟩
theorem cc_fixedNamed {u : Nat} (hu : u < 2 ^ 64) : fp_ct G rm_X10_fixedNamed M_X10_fixedNamed [.long (lN u)] h (fun r h' => h' = h ∧ r = some (.int (oI (fxn u)))) := by
  have hw : lN u - 97 = lN ((u + 2 ^ 64 - 97) % 2 ^ 64) := by
    rw [← wb_mod, show u + 2 ^ 64 - 97 = (u + 2 ^ 64) - 97 from rfl, ← lN_sub (b := 97) (by omega), wb_mod (u + 2 ^ 64), Nat.add_mod_right, Nat.mod_eq_of_lt hu]
    rfl
  have hlt : (u + 2 ^ 64 - 97) % 2 ^ 64 < 2 ^ 64 := Nat.mod_lt _ (by decide)
  have hwu : ∀ w, w = (u + 2 ^ 64 - 97) % 2 ^ 64 → w < 8 → u = 97 + w := by
    intro w e h8
    by_cases hc : 97 ≤ u
    · rw [show u + 2 ^ 64 - 97 = (u - 97) + 2 ^ 64 by omega, Nat.add_mod_right, Nat.mod_eq_of_lt (by omega)] at e
      omega
    · rw [Nat.mod_eq_of_lt (by omega)] at e
      omega
  refine fp_meth pn_X10 (Nat.le_of_ble_eq_true rfl) rfl ?_
  refine wp_lload_n dX10_fixedNamed_0 rfl ?_
  refine wp_ldc2 dX10_fixedNamed_1 kc_X10_229 ?_
  refine wp_lsub dX10_fixedNamed_4 ?_
  rw [hw]
  have hge : ∀ w, w = (u + 2 ^ 64 - 97) % 2 ^ 64 → ¬ w < 8 → fxn u = none := by
    intro w e h8
    rw [fxn, if_neg]
    rintro ⟨a, b⟩
    rw [show u + 2 ^ 64 - 97 = (u - 97) + 2 ^ 64 by omega, Nat.add_mod_right, Nat.mod_eq_of_lt (by omega)] at e
    omega
  generalize hwe : (u + 2 ^ 64 - 97) % 2 ^ 64 = w at hlt
  refine wp_lstore_n dX10_fixedNamed_5 (Nat.le_of_ble_eq_true rfl) rfl ?_
  refine wp_lload_n dX10_fixedNamed_6 rfl ?_
  refine wp_lconst (v := 0) dX10_fixedNamed_7 rfl ?_
  refine wp_lcmp dX10_fixedNamed_8 ?_
  refine wp_if_lt (tgt := 20) dX10_fixedNamed_9 rfl (fun c_9 => ?_) (fun c_9 => ?_)
  · rw [cmp_lt0, show (0 : Int64) = lN 0 from rfl, lN_lt_small hlt (by decide)] at c_9
    refine wp_iconst (v := (-1)) dX10_fixedNamed_20 rfl ?_
    refine wp_goto (tgt := 26) dX10_fixedNamed_21 rfl ?_
    refine wp_iret dX10_fixedNamed_26 rfl rfl ?_
    exact ⟨rfl, by rw [hge w hwe.symm (by omega)]; rfl⟩
  · rw [cmp_lt0, show (0 : Int64) = lN 0 from rfl, lN_lt_small hlt (by decide)] at c_9
    refine wp_lload_n dX10_fixedNamed_12 rfl ?_
    refine wp_ldc2 dX10_fixedNamed_13 kc_X10_231 ?_
    refine wp_lcmp dX10_fixedNamed_16 ?_
    refine wp_if_lt (tgt := 24) dX10_fixedNamed_17 rfl (fun c_17 => ?_) (fun c_17 => ?_)
    · rw [cmp_lt0, show (8 : Int64) = lN 8 from rfl, lN_lt_small hlt (by decide)] at c_17
      have h8 : w < 8 := by omega
      have hu2 := hwu w hwe.symm h8
      refine wp_lload_n dX10_fixedNamed_24 rfl ?_
      refine wp_l2i dX10_fixedNamed_25 ?_
      refine wp_iret dX10_fixedNamed_26 rfl rfl ?_
      refine ⟨rfl, ?_⟩
      rw [lN_i, fxn, if_pos (by omega), show u - 97 = w by omega]
      rfl
    · rw [cmp_lt0, show (8 : Int64) = lN 8 from rfl, lN_lt_small hlt (by decide)] at c_17
      refine wp_iconst (v := (-1)) dX10_fixedNamed_20 rfl ?_
      refine wp_goto (tgt := 26) dX10_fixedNamed_21 rfl ?_
      refine wp_iret dX10_fixedNamed_26 rfl rfl ?_
      exact ⟨rfl, by rw [hge w hwe.symm (by omega)]; rfl⟩
theorem cc_fixedValue {k : Nat} (hk : k < 2 ^ 31) : fp_ct G rm_X10_fixedValue M_X10_fixedValue [.int (nI k)] h (fun r h' => h' = h ∧ r = some (.long (lN (fxv k)))) := by
  refine fp_meth pn_X10 (Nat.le_of_ble_eq_true rfl) rfl ?_
  have hm : nI k - nI k / 2 * 2 = nI (k % 2) := pk_rem (d := 2) hk (by decide) (by decide)
  refine wp_iload_n dX10_fixedValue_0 rfl ?_
  refine wp_iconst (v := 2) dX10_fixedValue_1 rfl ?_
  refine wp_irem dX10_fixedValue_2 (by decide) ?_
  refine wp_if_ne (tgt := 10) dX10_fixedValue_3 rfl (fun c_3 => ?_) (fun c_3 => ?_)
  · rw [hm] at c_3
    have : k % 2 ≠ 0 := fun e => c_3 (by rw [e]; rfl)
    refine wp_ldc2 dX10_fixedValue_10 kc_X10_233 ?_
    refine wp_lret dX10_fixedValue_13 rfl ?_
    exact ⟨rfl, by rw [fxv, if_neg this]; rfl⟩
  · rw [hm] at c_3
    have : k % 2 = 0 := (nI_eq (b := 0) (by omega) (by decide)).mp c_3
    refine wp_lconst (v := 0) dX10_fixedValue_6 rfl ?_
    refine wp_goto (tgt := 13) dX10_fixedValue_7 rfl ?_
    refine wp_lret dX10_fixedValue_13 rfl ?_
    exact ⟨rfl, by rw [fxv, if_pos this]; rfl⟩
/-- a row of bytes, by a tag -/
def byt (h : fp_H) (t a : Nat) (xs : List Nat) (cap : Nat) : Prop := ∃ (r : Nat) (f : Nat → Int32), h.1 a = some (t, .inr (1, [.ref r, .int (nI xs.length)])) ∧ h.1 r = some (t, .inl (0, cap, .inl f)) ∧ xs.length ≤ cap ∧ cap < 2 ^ 24 ∧ ∀ i, i < xs.length → f i = nI (xs.getD i 0)
theorem byt.kept {h h' : fp_H} {S : Nat → Prop} {t a cap : Nat} {xs : List Nat} (hb : byt h t a xs cap) (hc : cf S h h') (hn : ¬ S t) : byt h' t a xs cap := by
  obtain ⟨r, f, h1, h2, h3⟩ := hb
  exact ⟨r, f, hc.at h1 hn, hc.at h2 hn, h3⟩
theorem cc_bnew {a t n : Nat} {x : Value} (w : fp_wf h) (ha : h.1 a = some (t, .inr (1, [x, .int 0]))) (hn : n < 2 ^ 20) (h1n : 1 ≤ n) : fp_ct G rm_X0_init M_X0_init [.ref a, .int (nI n)] h (fun r h' => r = none ∧ byt h' t a [] n ∧ cf (fun x => x = t) h h' ∧ h'.2.2 = h.2.2 + n) := by
  have hna := w.ne ha
  refine fp_meth pn_X0 (Nat.le_of_ble_eq_true rfl) rfl ?_
  refine wp_aload_n dX0_init_0 rfl ?_
  refine wp_objInit dX0_init_1 cw_X0_3 ⟨(Nat.le_of_ble_eq_true rfl), (Nat.le_of_ble_eq_true rfl)⟩ rfl (Nat.le_of_ble_eq_true rfl) ?_
  refine wp_aload_n dX0_init_4 rfl ?_
  refine wp_iconst (v := 0) dX0_init_5 rfl ?_
  refine wp_iload_n dX0_init_6 rfl ?_
  refine wp_callS (As := [.int (nI 0), .int (nI n)]) (rest := [.ref a]) dX0_init_7 me_J9_max_7cf53 cw_X0_9 ⟨(Nat.le_of_ble_eq_true rfl), (Nat.le_of_ble_eq_true rfl)⟩ rfl rfl rfl (Nat.le_of_ble_eq_true rfl) (ct_max _ _) (fun r h1 q => ?_)
  obtain ⟨rfl, rfl⟩ := q
  rw [if_pos (nI_lt (by omega) (by omega))]
  refine wp_newa (a0 := (_, .inl (fun _ => 0))) t dX0_init_10 (kd := 0) rfl ac_int (fun _ => rfl) (nI_pos (by omega)) (nI_clamp (by omega)) (by show n * 4 ≤ _; omega) ?_
  refine wp_putf dX0_init_12 (fs_X0_15 _) ((fp_new_ne hna).trans ha) (Nat.le_of_ble_eq_true rfl) rfl rfl ?_
  refine wp_vret dX0_init_15 rfl ?_
  refine ⟨rfl, ⟨h1.2.1, fun _ => 0, fp_put_eq, (fp_put_ne (Ne.symm hna)).trans fp_new_eq, Nat.zero_le _, by omega, fun i hi => by simp at hi⟩, ?_, rfl⟩
  exact (cf.new w h1n).trans (cf.put1 ((fp_new_ne hna).trans ha))
theorem cc_bat {a t cap : Nat} {xs : List Nat} {x : Int32} (hb : byt h t a xs cap) : fp_ct G rm_X0_at M_X0_at [.ref a, .int x] h (fun r h' => h' = h ∧ (((¬ ∃ i, i < xs.length ∧ x = nI i) ∧ r = some (.int (-1))) ∨ ∃ i, i < xs.length ∧ x = nI i ∧ r = some (.int (nI (xs.getD i 0))))) := by
  obtain ⟨r, f, h1, h2, h3, h4, h5⟩ := hb
  refine fp_meth pn_X0 (Nat.le_of_ble_eq_true rfl) rfl ?_
  refine wp_iload_n dX0_at_0 rfl ?_
  refine wp_if_lt (tgt := 12) dX0_at_1 rfl (fun c_1 => ?_) (fun c_1 => ?_)
  · refine wp_iconst (v := (-1)) dX0_at_12 rfl ?_
    refine wp_goto (tgt := 22) dX0_at_13 rfl ?_
    refine wp_iret dX0_at_22 rfl rfl ?_
    refine ⟨rfl, Or.inl ⟨?_, rfl⟩⟩
    rintro ⟨i, hi, rfl⟩
    exact nI_pos (by omega) c_1
  · refine wp_iload_n dX0_at_4 rfl ?_
    refine wp_aload_n dX0_at_5 rfl ?_
    refine wp_getf dX0_at_6 fl_X0_21 h1 rfl ?_
    refine wp_icmp_lt (tgt := 16) dX0_at_9 rfl (fun c_9 => ?_) (fun c_9 => ?_)
    · obtain ⟨i, hi, rfl⟩ := nI_of c_1
      have hlt : i < xs.length := (nI_ltI hi (by omega)).mp c_9
      refine wp_aload_n dX0_at_16 rfl ?_
      refine wp_getf dX0_at_17 fl_X0_15 h1 rfl ?_
      refine wp_iload_n dX0_at_20 rfl ?_
      refine wp_iald dX0_at_21 rfl h2 (vp_in_nI (by omega) (by omega)) ?_
      refine wp_iret dX0_at_22 rfl rfl ?_
      refine ⟨rfl, Or.inr ⟨i, hlt, rfl, ?_⟩⟩
      rw [nI_clamp (by omega), h5 i hlt]
    · refine wp_iconst (v := (-1)) dX0_at_12 rfl ?_
      refine wp_goto (tgt := 22) dX0_at_13 rfl ?_
      refine wp_iret dX0_at_22 rfl rfl ?_
      refine ⟨rfl, Or.inl ⟨?_, rfl⟩⟩
      rintro ⟨i, hi, rfl⟩
      exact c_9 (nI_lt hi (by omega))
theorem cc_put {a t cap b : Nat} {xs : List Nat} (w : fp_wf h) (hb : byt h t a xs cap) (hl : xs.length < 2 ^ 20) : fp_ct G rm_X0_put M_X0_put [.ref a, .int (nI b)] h (fun r h' => r = none ∧ ∃ cap', byt h' t a (xs ++ [b]) cap' ∧ cap ≤ cap' ∧ cap' ≤ max cap (2 * xs.length + 8) ∧ cf (fun x => x = t) h h' ∧ h'.2.2 + 2 * cap ≤ h.2.2 + 2 * cap') := by
  obtain ⟨r, f, h1, h2, h3, h4, h5⟩ := hb
  refine fp_meth pn_X0 (Nat.le_of_ble_eq_true rfl) rfl ?_
  -- the store
  have fin : ∀ (h2 : fp_H) (r cap' : Nat) (f : Nat → Int32), h2.1 a = some (t, .inr (1, [.ref r, .int (nI xs.length)])) → h2.1 r = some (t, .inl (0, cap', .inl f)) → (∀ i, i < xs.length → f i = nI (xs.getD i 0)) → xs.length < cap' → cap' < 2 ^ 24 → cap ≤ cap' → cap' ≤ max cap (2 * xs.length + 8) → cf (fun x => x = t) h h2 → h2.2.2 + 2 * cap ≤ h.2.2 + 2 * cap' → fp_wp G rm_X0_put M_X0_put 32 [some (.ref a), some (.int (nI b))] [] h2 (fun r h' => r = none ∧ ∃ cap', byt h' t a (xs ++ [b]) cap' ∧ cap ≤ cap' ∧ cap' ≤ max cap (2 * xs.length + 8) ∧ cf (fun x => x = t) h h' ∧ h'.2.2 + 2 * cap ≤ h.2.2 + 2 * cap') := by
    intro h2 r cap' f g1 g2 g3 g4 g5 g6 g7 g8 g9
    have hne : r ≠ a := kind_ne g2 g1
    have g1' : (fp_put h2 r t (.inl (0, cap', .inl (upd f (nI xs.length).toNatClampNeg (nI b))))).1 a = some (t, .inr (1, [.ref r, .int (nI xs.length)])) := (fp_put_ne (Ne.symm hne)).trans g1
    refine wp_aload_n dX0_put_32 rfl ?_
    refine wp_getf dX0_put_33 fl_X0_15 g1 rfl ?_
    refine wp_aload_n dX0_put_36 rfl ?_
    refine wp_getf dX0_put_37 fl_X0_21 g1 rfl ?_
    refine wp_iload_n dX0_put_40 rfl ?_
    refine wp_iast dX0_put_41 rfl g2 (vp_in_nI g4 (by omega)) ?_
    refine wp_aload_n dX0_put_42 rfl ?_
    refine wp_dup dX0_put_43 rfl ?_
    refine wp_getf dX0_put_44 fl_X0_21 g1' rfl ?_
    refine wp_iconst (v := 1) dX0_put_47 rfl ?_
    refine wp_iadd dX0_put_48 ?_
    refine wp_putf dX0_put_49 (fs_X0_21 _) g1' (Nat.le_of_ble_eq_true rfl) rfl rfl ?_
    refine wp_vret dX0_put_52 rfl ?_
    refine ⟨rfl, cap', ⟨r, upd f xs.length (nI b), ?_, ?_, by rw [List.length_append]; simp; omega, g5, fun i hi => ?_⟩, g6, g7, ?_, g9⟩
    · rw [fp_put_eq, nI_1, List.length_append]
      rfl
    · rw [fp_put_ne hne, fp_put_eq, nI_clamp (by omega)]
    · rw [List.length_append] at hi
      by_cases e : i = xs.length
      · subst e
        simp [upd]
      · have hi2 : i < xs.length := by simp at hi; omega
        rw [List.getD_eq_getElem?_getD, List.getElem?_append_left hi2, ← List.getD_eq_getElem?_getD, ← g3 i hi2]
        simp [upd, e]
    · exact (g8.trans (cf.put1 g2)).trans (cf.put1 g1')
  refine wp_aload_n dX0_put_0 rfl ?_
  refine wp_getf dX0_put_1 fl_X0_21 h1 rfl ?_
  refine wp_aload_n dX0_put_4 rfl ?_
  refine wp_getf dX0_put_5 fl_X0_15 h1 rfl ?_
  refine wp_alen dX0_put_8 rfl h2 ?_
  refine wp_icmp_lt (tgt := 32) dX0_put_9 rfl (fun c_9 => ?_) (fun c_9 => ?_)
  · have hlt : xs.length < cap := (nI_ltI (by omega) (by omega)).mp c_9
    exact fin h r cap f h1 h2 h5 hlt h4 (Nat.le_refl _) (Nat.le_max_left _ _) cf.refl (Nat.le_refl _)
  · have hfull : xs.length = cap := by
      rcases Nat.lt_or_ge xs.length cap with q | q
      · exact absurd (nI_lt q (by omega)) c_9
      · omega
    have hna := w.ne h1
    refine wp_aload_n dX0_put_12 rfl ?_
    refine wp_aload_n dX0_put_13 rfl ?_
    refine wp_getf dX0_put_14 fl_X0_15 h1 rfl ?_
    refine wp_iconst (v := 2) dX0_put_17 rfl ?_
    refine wp_aload_n dX0_put_18 rfl ?_
    refine wp_getf dX0_put_19 fl_X0_21 h1 rfl ?_
    refine wp_imul dX0_put_22 ?_
    refine wp_bipush (v := 8) dX0_put_23 rfl ?_
    refine wp_iadd dX0_put_25 ?_
    rw [show (2 : Int32) * nI xs.length + 8 = nI (2 * xs.length + 8) by rw [show (2 : Int32) * nI xs.length = nI (2 * xs.length) from pk_mul 2 _]; exact nI_add _ 8]
    refine wp_callS (As := [.ref r, .int (nI (2 * xs.length + 8))]) (rest := [.ref a]) dX0_put_26 me_J7_copyOf_59c91 cw_X0_25 ⟨(Nat.le_of_ble_eq_true rfl), (Nat.le_of_ble_eq_true rfl)⟩ rfl rfl rfl (Nat.le_of_ble_eq_true rfl) (ct_copyi t w h2 (by omega) (by omega)) (fun q h3 z => ?_)
    obtain ⟨rfl, rfl⟩ := z
    have ha2 : (fp_put (fp_new h t (.inl (0, 2 * xs.length + 8, .inl (fun _ => 0))) (2 * xs.length + 8)) h.2.1 t (.inl (0, 2 * xs.length + 8, .inl (va_cpy f (fun _ => 0) 0 0 cap)))).1 a = some (t, .inr (1, [.ref r, .int (nI xs.length)])) := by rw [fp_put_ne hna, fp_new_ne hna]; exact h1
    refine wp_putf dX0_put_29 (fs_X0_15 _) ha2 (Nat.le_of_ble_eq_true rfl) rfl rfl ?_
    refine fin _ h.2.1 (2 * xs.length + 8) (va_cpy f (fun _ => 0) 0 0 cap) fp_put_eq ?_ (fun i hi => ?_) (by omega) (by omega) (by omega) (Nat.le_max_right _ _) ?_ ?_
    · rw [fp_put_ne (Ne.symm hna)]; exact fp_put_eq
    · rw [pk_cpy_in (Nat.zero_le _) (by omega), ← h5 i hi]
      congr 1
      omega
    · exact ((cf.new w (by omega)).trans (cf.put1 fp_new_eq)).trans (cf.put1 ha2)
    · show h.2.2 + (2 * xs.length + 8) + 2 * cap ≤ h.2.2 + 2 * (2 * xs.length + 8)
      omega
end CB
