/-! FieldPack: waiting, look, told, entry, sections, decoded -/
theorem dX10_told_0 : decode cX10_told 0 = .ok (.iload_n 1, 1) := by decide +kernel
theorem dX10_told_1 : decode cX10_told 1 = .ok (.ifCond .eq 10, 3) := by decide +kernel
theorem dX10_told_4 : decode cX10_told 4 = .ok (.iload_n 1, 1) := by decide +kernel
theorem dX10_told_5 : decode cX10_told 5 = .ok (.iconst 1, 1) := by decide +kernel
theorem dX10_told_6 : decode cX10_told 6 = .ok (.if_icmp .eq 5, 3) := by decide +kernel
theorem dX10_told_9 : decode cX10_told 9 = .ok (.iconst (-1), 1) := by decide +kernel
theorem dX10_told_10 : decode cX10_told 10 = .ok (.ireturn, 1) := by decide +kernel
theorem dX10_told_11 : decode cX10_told 11 = .ok (.aload_n 0, 1) := by decide +kernel
theorem dX10_told_12 : decode cX10_told 12 = .ok (.iload_n 1, 1) := by decide +kernel
theorem dX10_told_13 : decode cX10_told 13 = .ok (.invokevirtual 160, 3) := by decide +kernel
theorem dX10_told_16 : decode cX10_told 16 = .ok (.astore_n 3, 1) := by decide +kernel
theorem dX10_told_17 : decode cX10_told 17 = .ok (.iload_n 2, 1) := by decide +kernel
theorem dX10_told_18 : decode cX10_told 18 = .ok (.tableswitch 46 0 2 #[26, 31, 41], 26) := by decide +kernel
theorem dX10_told_44 : decode cX10_told 44 = .ok (.aload_n 3, 1) := by decide +kernel
theorem dX10_told_45 : decode cX10_told 45 = .ok (.getfield 164, 3) := by decide +kernel
theorem dX10_told_48 : decode cX10_told 48 = .ok (.ireturn, 1) := by decide +kernel
theorem dX10_told_49 : decode cX10_told 49 = .ok (.aload_n 3, 1) := by decide +kernel
theorem dX10_told_50 : decode cX10_told 50 = .ok (.getfield 164, 3) := by decide +kernel
theorem dX10_told_53 : decode cX10_told 53 = .ok (.aload_n 3, 1) := by decide +kernel
theorem dX10_told_54 : decode cX10_told 54 = .ok (.getfield 169, 3) := by decide +kernel
theorem dX10_told_57 : decode cX10_told 57 = .ok (.isub, 1) := by decide +kernel
theorem dX10_told_58 : decode cX10_told 58 = .ok (.ireturn, 1) := by decide +kernel
theorem dX10_told_59 : decode cX10_told 59 = .ok (.aload_n 3, 1) := by decide +kernel
theorem dX10_told_60 : decode cX10_told 60 = .ok (.getfield 172, 3) := by decide +kernel
theorem dX10_told_63 : decode cX10_told 63 = .ok (.ireturn, 1) := by decide +kernel
theorem dX10_told_64 : decode cX10_told 64 = .ok (.iload_n 1, 1) := by decide +kernel
theorem dX10_told_65 : decode cX10_told 65 = .ok (.ifCond .ne 11, 3) := by decide +kernel
theorem dX10_told_68 : decode cX10_told 68 = .ok (.aload_n 0, 1) := by decide +kernel
theorem dX10_told_69 : decode cX10_told 69 = .ok (.iload_n 2, 1) := by decide +kernel
theorem dX10_told_70 : decode cX10_told 70 = .ok (.invokevirtual 173, 3) := by decide +kernel
theorem dX10_told_73 : decode cX10_told 73 = .ok (.goto 8, 3) := by decide +kernel
theorem dX10_told_76 : decode cX10_told 76 = .ok (.aload_n 0, 1) := by decide +kernel
theorem dX10_told_77 : decode cX10_told 77 = .ok (.iload_n 2, 1) := by decide +kernel
theorem dX10_told_78 : decode cX10_told 78 = .ok (.invokevirtual 176, 3) := by decide +kernel
theorem dX10_told_81 : decode cX10_told 81 = .ok (.ireturn, 1) := by decide +kernel
theorem dX10_toldByEncoder_0 : decode cX10_toldByEncoder 0 = .ok (.iload_n 1, 1) := by decide +kernel
theorem dX10_toldByEncoder_1 : decode cX10_toldByEncoder 1 = .ok (.tableswitch 54 3 5 #[27, 35, 46], 27) := by decide +kernel
theorem dX10_toldByEncoder_28 : decode cX10_toldByEncoder 28 = .ok (.aload_n 0, 1) := by decide +kernel
theorem dX10_toldByEncoder_29 : decode cX10_toldByEncoder 29 = .ok (.getfield 33, 3) := by decide +kernel
theorem dX10_toldByEncoder_32 : decode cX10_toldByEncoder 32 = .ok (.getfield 214, 3) := by decide +kernel
theorem dX10_toldByEncoder_35 : decode cX10_toldByEncoder 35 = .ok (.ireturn, 1) := by decide +kernel
theorem dX10_toldByEncoder_36 : decode cX10_toldByEncoder 36 = .ok (.aload_n 0, 1) := by decide +kernel
theorem dX10_toldByEncoder_37 : decode cX10_toldByEncoder 37 = .ok (.getfield 33, 3) := by decide +kernel
theorem dX10_toldByEncoder_40 : decode cX10_toldByEncoder 40 = .ok (.getfield 217, 3) := by decide +kernel
theorem dX10_toldByEncoder_43 : decode cX10_toldByEncoder 43 = .ok (.invokevirtual 60, 3) := by decide +kernel
theorem dX10_toldByEncoder_46 : decode cX10_toldByEncoder 46 = .ok (.ireturn, 1) := by decide +kernel
theorem dX10_toldByEncoder_47 : decode cX10_toldByEncoder 47 = .ok (.aload_n 0, 1) := by decide +kernel
theorem dX10_toldByEncoder_48 : decode cX10_toldByEncoder 48 = .ok (.getfield 33, 3) := by decide +kernel
theorem dX10_toldByEncoder_51 : decode cX10_toldByEncoder 51 = .ok (.invokevirtual 220, 3) := by decide +kernel
theorem dX10_toldByEncoder_54 : decode cX10_toldByEncoder 54 = .ok (.ireturn, 1) := by decide +kernel
theorem dX10_toldByEncoder_55 : decode cX10_toldByEncoder 55 = .ok (.iconst (-1), 1) := by decide +kernel
theorem dX10_toldByEncoder_56 : decode cX10_toldByEncoder 56 = .ok (.ireturn, 1) := by decide +kernel
theorem dX10_toldByDecoder_0 : decode cX10_toldByDecoder 0 = .ok (.iconst 0, 1) := by decide +kernel
theorem dX10_toldByDecoder_1 : decode cX10_toldByDecoder 1 = .ok (.istore_n 2, 1) := by decide +kernel
theorem dX10_toldByDecoder_2 : decode cX10_toldByDecoder 2 = .ok (.iconst 0, 1) := by decide +kernel
theorem dX10_toldByDecoder_3 : decode cX10_toldByDecoder 3 = .ok (.istore_n 3, 1) := by decide +kernel
theorem dX10_toldByDecoder_4 : decode cX10_toldByDecoder 4 = .ok (.iconst 0, 1) := by decide +kernel
theorem dX10_toldByDecoder_5 : decode cX10_toldByDecoder 5 = .ok (.istore 4, 2) := by decide +kernel
theorem dX10_toldByDecoder_7 : decode cX10_toldByDecoder 7 = .ok (.iload 4, 2) := by decide +kernel
theorem dX10_toldByDecoder_9 : decode cX10_toldByDecoder 9 = .ok (.bipush 8, 2) := by decide +kernel
theorem dX10_toldByDecoder_11 : decode cX10_toldByDecoder 11 = .ok (.if_icmp .ge 42, 3) := by decide +kernel
theorem dX10_toldByDecoder_14 : decode cX10_toldByDecoder 14 = .ok (.aload_n 0, 1) := by decide +kernel
theorem dX10_toldByDecoder_15 : decode cX10_toldByDecoder 15 = .ok (.getfield 48, 3) := by decide +kernel
theorem dX10_toldByDecoder_18 : decode cX10_toldByDecoder 18 = .ok (.iload 4, 2) := by decide +kernel
theorem dX10_toldByDecoder_20 : decode cX10_toldByDecoder 20 = .ok (.aaload, 1) := by decide +kernel
theorem dX10_toldByDecoder_21 : decode cX10_toldByDecoder 21 = .ok (.getfield 133, 3) := by decide +kernel
theorem dX10_toldByDecoder_24 : decode cX10_toldByDecoder 24 = .ok (.invokevirtual 60, 3) := by decide +kernel
theorem dX10_toldByDecoder_27 : decode cX10_toldByDecoder 27 = .ok (.istore 5, 2) := by decide +kernel
theorem dX10_toldByDecoder_29 : decode cX10_toldByDecoder 29 = .ok (.iload_n 2, 1) := by decide +kernel
theorem dX10_toldByDecoder_30 : decode cX10_toldByDecoder 30 = .ok (.iload 5, 2) := by decide +kernel
theorem dX10_toldByDecoder_32 : decode cX10_toldByDecoder 32 = .ok (.iadd, 1) := by decide +kernel
theorem dX10_toldByDecoder_33 : decode cX10_toldByDecoder 33 = .ok (.istore_n 2, 1) := by decide +kernel
theorem dX10_toldByDecoder_34 : decode cX10_toldByDecoder 34 = .ok (.iload_n 3, 1) := by decide +kernel
theorem dX10_toldByDecoder_35 : decode cX10_toldByDecoder 35 = .ok (.iload 5, 2) := by decide +kernel
theorem dX10_toldByDecoder_37 : decode cX10_toldByDecoder 37 = .ok (.ifCond .le 7, 3) := by decide +kernel
theorem dX10_toldByDecoder_40 : decode cX10_toldByDecoder 40 = .ok (.iconst 1, 1) := by decide +kernel
theorem dX10_toldByDecoder_41 : decode cX10_toldByDecoder 41 = .ok (.goto 4, 3) := by decide +kernel
theorem dX10_toldByDecoder_44 : decode cX10_toldByDecoder 44 = .ok (.iconst 0, 1) := by decide +kernel
theorem dX10_toldByDecoder_45 : decode cX10_toldByDecoder 45 = .ok (.iadd, 1) := by decide +kernel
theorem dX10_toldByDecoder_46 : decode cX10_toldByDecoder 46 = .ok (.istore_n 3, 1) := by decide +kernel
theorem dX10_toldByDecoder_47 : decode cX10_toldByDecoder 47 = .ok (.iinc 4 1, 3) := by decide +kernel
theorem dX10_toldByDecoder_50 : decode cX10_toldByDecoder 50 = .ok (.goto (-43), 3) := by decide +kernel
theorem dX10_toldByDecoder_53 : decode cX10_toldByDecoder 53 = .ok (.iload_n 1, 1) := by decide +kernel
theorem dX10_toldByDecoder_54 : decode cX10_toldByDecoder 54 = .ok (.iconst 3, 1) := by decide +kernel
theorem dX10_toldByDecoder_55 : decode cX10_toldByDecoder 55 = .ok (.if_icmp .ne 5, 3) := by decide +kernel
theorem dX10_toldByDecoder_58 : decode cX10_toldByDecoder 58 = .ok (.iload_n 2, 1) := by decide +kernel
theorem dX10_toldByDecoder_59 : decode cX10_toldByDecoder 59 = .ok (.ireturn, 1) := by decide +kernel
theorem dX10_toldByDecoder_60 : decode cX10_toldByDecoder 60 = .ok (.iload_n 1, 1) := by decide +kernel
theorem dX10_toldByDecoder_61 : decode cX10_toldByDecoder 61 = .ok (.iconst 4, 1) := by decide +kernel
theorem dX10_toldByDecoder_62 : decode cX10_toldByDecoder 62 = .ok (.if_icmp .ne 7, 3) := by decide +kernel
theorem dX10_toldByDecoder_65 : decode cX10_toldByDecoder 65 = .ok (.iload_n 3, 1) := by decide +kernel
theorem dX10_toldByDecoder_66 : decode cX10_toldByDecoder 66 = .ok (.goto 4, 3) := by decide +kernel
theorem dX10_toldByDecoder_69 : decode cX10_toldByDecoder 69 = .ok (.iconst (-1), 1) := by decide +kernel
theorem dX10_toldByDecoder_70 : decode cX10_toldByDecoder 70 = .ok (.ireturn, 1) := by decide +kernel
theorem dX10_decoded_0 : decode cX10_decoded 0 = .ok (.aload_n 0, 1) := by decide +kernel
theorem dX10_decoded_1 : decode cX10_decoded 1 = .ok (.iload_n 1, 1) := by decide +kernel
theorem dX10_decoded_2 : decode cX10_decoded 2 = .ok (.invokevirtual 77, 3) := by decide +kernel
theorem dX10_decoded_5 : decode cX10_decoded 5 = .ok (.astore 5, 2) := by decide +kernel
theorem dX10_decoded_7 : decode cX10_decoded 7 = .ok (.aload 5, 2) := by decide +kernel
theorem dX10_decoded_9 : decode cX10_decoded 9 = .ok (.ifnull 19, 3) := by decide +kernel
theorem dX10_decoded_12 : decode cX10_decoded 12 = .ok (.iload_n 2, 1) := by decide +kernel
theorem dX10_decoded_13 : decode cX10_decoded 13 = .ok (.ifCond .lt 15, 3) := by decide +kernel
theorem dX10_decoded_16 : decode cX10_decoded 16 = .ok (.iload_n 2, 1) := by decide +kernel
theorem dX10_decoded_17 : decode cX10_decoded 17 = .ok (.aload 5, 2) := by decide +kernel
theorem dX10_decoded_19 : decode cX10_decoded 19 = .ok (.getfield 188, 3) := by decide +kernel
theorem dX10_decoded_22 : decode cX10_decoded 22 = .ok (.invokevirtual 60, 3) := by decide +kernel
theorem dX10_decoded_25 : decode cX10_decoded 25 = .ok (.if_icmp .lt 7, 3) := by decide +kernel
theorem dX10_decoded_28 : decode cX10_decoded 28 = .ok (.ldc2_w 179, 3) := by decide +kernel
theorem dX10_decoded_31 : decode cX10_decoded 31 = .ok (.lreturn, 1) := by decide +kernel
theorem dX10_decoded_32 : decode cX10_decoded 32 = .ok (.aload 5, 2) := by decide +kernel
theorem dX10_decoded_34 : decode cX10_decoded 34 = .ok (.getfield 188, 3) := by decide +kernel
theorem dX10_decoded_37 : decode cX10_decoded 37 = .ok (.iload_n 2, 1) := by decide +kernel
theorem dX10_decoded_38 : decode cX10_decoded 38 = .ok (.invokevirtual 191, 3) := by decide +kernel
theorem dX10_decoded_41 : decode cX10_decoded 41 = .ok (.checkcast 194, 3) := by decide +kernel
theorem dX10_decoded_44 : decode cX10_decoded 44 = .ok (.getfield 196, 3) := by decide +kernel
theorem dX10_decoded_47 : decode cX10_decoded 47 = .ok (.astore 6, 2) := by decide +kernel
theorem dX10_decoded_49 : decode cX10_decoded 49 = .ok (.iload_n 3, 1) := by decide +kernel
theorem dX10_decoded_50 : decode cX10_decoded 50 = .ok (.ifCond .lt 12, 3) := by decide +kernel
theorem dX10_decoded_53 : decode cX10_decoded 53 = .ok (.iload_n 3, 1) := by decide +kernel
theorem dX10_decoded_54 : decode cX10_decoded 54 = .ok (.aload 6, 2) := by decide +kernel
theorem dX10_decoded_56 : decode cX10_decoded 56 = .ok (.invokevirtual 60, 3) := by decide +kernel
theorem dX10_decoded_59 : decode cX10_decoded 59 = .ok (.if_icmp .lt 7, 3) := by decide +kernel
theorem dX10_decoded_62 : decode cX10_decoded 62 = .ok (.ldc2_w 179, 3) := by decide +kernel
theorem dX10_decoded_65 : decode cX10_decoded 65 = .ok (.lreturn, 1) := by decide +kernel
theorem dX10_decoded_66 : decode cX10_decoded 66 = .ok (.iload 4, 2) := by decide +kernel
theorem dX10_decoded_68 : decode cX10_decoded 68 = .ok (.tableswitch 75 0 2 #[28, 41, 54], 28) := by decide +kernel
theorem dX10_decoded_96 : decode cX10_decoded 96 = .ok (.aload 6, 2) := by decide +kernel
theorem dX10_decoded_98 : decode cX10_decoded 98 = .ok (.iload_n 3, 1) := by decide +kernel
theorem dX10_decoded_99 : decode cX10_decoded 99 = .ok (.invokevirtual 191, 3) := by decide +kernel
theorem dX10_decoded_102 : decode cX10_decoded 102 = .ok (.checkcast 68, 3) := by decide +kernel
theorem dX10_decoded_105 : decode cX10_decoded 105 = .ok (.getfield 199, 3) := by decide +kernel
theorem dX10_decoded_108 : decode cX10_decoded 108 = .ok (.lreturn, 1) := by decide +kernel
theorem dX10_decoded_109 : decode cX10_decoded 109 = .ok (.aload 6, 2) := by decide +kernel
theorem dX10_decoded_111 : decode cX10_decoded 111 = .ok (.iload_n 3, 1) := by decide +kernel
theorem dX10_decoded_112 : decode cX10_decoded 112 = .ok (.invokevirtual 191, 3) := by decide +kernel
theorem dX10_decoded_115 : decode cX10_decoded 115 = .ok (.checkcast 68, 3) := by decide +kernel
theorem dX10_decoded_118 : decode cX10_decoded 118 = .ok (.getfield 203, 3) := by decide +kernel
theorem dX10_decoded_121 : decode cX10_decoded 121 = .ok (.lreturn, 1) := by decide +kernel
theorem dX10_decoded_122 : decode cX10_decoded 122 = .ok (.aload 6, 2) := by decide +kernel
theorem dX10_decoded_124 : decode cX10_decoded 124 = .ok (.iload_n 3, 1) := by decide +kernel
theorem dX10_decoded_125 : decode cX10_decoded 125 = .ok (.invokevirtual 191, 3) := by decide +kernel
theorem dX10_decoded_128 : decode cX10_decoded 128 = .ok (.checkcast 68, 3) := by decide +kernel
theorem dX10_decoded_131 : decode cX10_decoded 131 = .ok (.getfield 206, 3) := by decide +kernel
theorem dX10_decoded_134 : decode cX10_decoded 134 = .ok (.ifCond .eq 7, 3) := by decide +kernel
theorem dX10_decoded_137 : decode cX10_decoded 137 = .ok (.lconst 1, 1) := by decide +kernel
theorem dX10_decoded_138 : decode cX10_decoded 138 = .ok (.goto 4, 3) := by decide +kernel
theorem dX10_decoded_141 : decode cX10_decoded 141 = .ok (.lconst 0, 1) := by decide +kernel
theorem dX10_decoded_142 : decode cX10_decoded 142 = .ok (.lreturn, 1) := by decide +kernel
theorem dX10_decoded_143 : decode cX10_decoded 143 = .ok (.ldc2_w 179, 3) := by decide +kernel
theorem dX10_decoded_146 : decode cX10_decoded 146 = .ok (.lreturn, 1) := by decide +kernel
section CP
variable {G : fp_G} {h : fp_H} {o : Nat} {A la ba sa ra fa oa K c1 c2 c3 : Nat → Nat} {p : rs}
/-- a Wire: Bytes at b, Reader at r -/
theorem cw_left {w b r t tb e cap : Nat} {xs : List Nat} {s : Nat × Bool} (hw : h.1 w = some (9, .inr (10, [.ref b, .ref r]))) (hb : byt h tb b xs cap) (hr : h.1 r = some (t, rc b e s)) (he : e ≤ xs.length) : fp_ct G rm_X9_left M_X9_left [.ref w] h (fun r h' => h' = h ∧ r = some (.int (nI (xs.length - e)))) := by
  obtain ⟨rb, fb, b1, -⟩ := hb
  refine fp_meth pn_X9 (Nat.le_of_ble_eq_true rfl) rfl ?_
  refine wp_aload_n dX9_left_0 rfl ?_
  refine wp_getf dX9_left_1 fl_X9_14 hw rfl ?_
  refine wp_getf dX9_left_4 fl_X9_29 b1 rfl ?_
  refine wp_aload_n dX9_left_7 rfl ?_
  refine wp_getf dX9_left_8 fl_X9_25 hw rfl ?_
  refine wp_getf dX9_left_11 fl_X9_33 hr rfl ?_
  refine wp_isub dX9_left_14 ?_
  refine wp_iret dX9_left_15 rfl rfl ?_
  exact ⟨rfl, by rw [pk_sub he]⟩
theorem cw_at {w b r t tb e cap : Nat} {xs : List Nat} {s : Nat × Bool} {y : Int32} (hw : h.1 w = some (9, .inr (10, [.ref b, .ref r]))) (hb : byt h tb b xs cap) (hr : h.1 r = some (t, rc b e s)) (he : e ≤ xs.length) (hl : xs.length < 2 ^ 20) : fp_ct G rm_X9_at M_X9_at [.ref w, .int y] h (fun r h' => h' = h ∧ r = some (.int (if 0 ≤ y ∧ y < nI (xs.length - e) then nI (xs.getD (e + y.toNatClampNeg) 0) else -1))) := by
  obtain ⟨rb, fb, b1, -⟩ := id hb
  refine fp_meth pn_X9 (Nat.le_of_ble_eq_true rfl) rfl ?_
  refine wp_iload_n dX9_at_0 rfl ?_
  refine wp_if_lt (tgt := 12) dX9_at_1 rfl (fun c_1 => ?_) (fun c_1 => ?_)
  · refine wp_iconst (v := (-1)) dX9_at_12 rfl ?_
    refine wp_goto (tgt := 32) dX9_at_13 rfl ?_
    refine wp_iret dX9_at_32 rfl rfl ?_
    refine ⟨rfl, ?_⟩
    rw [if_neg]
    intro z
    have h1 := Int32.lt_iff_toInt_lt.mp c_1
    have h2 := Int32.le_iff_toInt_le.mp z.1
    omega
  · have hy0 : 0 ≤ y := by
      rw [Int32.le_iff_toInt_le]
      have h1 : ¬ y.toInt < (0 : Int32).toInt := fun z => c_1 (Int32.lt_iff_toInt_lt.mpr z)
      omega
    refine wp_iload_n dX9_at_4 rfl ?_
    refine wp_aload_n dX9_at_5 rfl ?_
    refine wp_callV (As := []) (rest := [.int y]) dX9_at_6 me_X9_left cw_X9_36 rfl ⟨(Nat.le_of_ble_eq_true rfl), (Nat.le_of_ble_eq_true rfl)⟩ rfl rfl rfl (Nat.le_of_ble_eq_true rfl) hw (cw_left hw hb hr he) (fun r h1 q => ?_)
    obtain ⟨q0, rfl⟩ := q
    rw [q0]
    refine wp_icmp_lt (tgt := 16) dX9_at_9 rfl (fun c_9 => ?_) (fun c_9 => ?_)
    · obtain ⟨n, hn, rfl⟩ := nI_of c_1
      have hlt : n < xs.length - e := (nI_ltI hn (by omega)).mp c_9
      refine wp_aload_n dX9_at_16 rfl ?_
      refine wp_getf dX9_at_17 fl_X9_14 hw rfl ?_
      refine wp_aload_n dX9_at_20 rfl ?_
      refine wp_getf dX9_at_21 fl_X9_25 hw rfl ?_
      refine wp_getf dX9_at_24 fl_X9_33 hr rfl ?_
      refine wp_iload_n dX9_at_27 rfl ?_
      refine wp_iadd dX9_at_28 ?_
      rw [nI_add]
      refine wp_callV (As := [.int (nI (e + n))]) (rest := []) dX9_at_29 me_X0_at cw_X9_40 rfl ⟨(Nat.le_of_ble_eq_true rfl), (Nat.le_of_ble_eq_true rfl)⟩ rfl rfl rfl (Nat.le_of_ble_eq_true rfl) b1 (cc_bat hb) (fun r h2 q => ?_)
      obtain ⟨q0, q⟩ := q
      rw [q0]
      rcases q with ⟨q, -⟩ | ⟨i, q1, q2, rfl⟩
      · exact absurd ⟨e + n, by omega, rfl⟩ q
      · have : e + n = i := (nI_eq (by omega) (by omega)).mp q2
        refine wp_iret dX9_at_32 rfl rfl ?_
        refine ⟨rfl, ?_⟩
        rw [if_pos ⟨hy0, c_9⟩, nI_clamp hn, this]
    · refine wp_iconst (v := (-1)) dX9_at_12 rfl ?_
      refine wp_goto (tgt := 32) dX9_at_13 rfl ?_
      refine wp_iret dX9_at_32 rfl rfl ?_
      exact ⟨rfl, by rw [if_neg (fun z => c_9 z.2)]⟩
theorem CI.lens (m : CI G h o A la ba sa ra fa oa K c1 c2 c3 p) : byt h 10 (A 9) (wlx p 13 6) (K 0) ∧ byt h 12 (A 11) (wlx p 16 7) (K 3) := ⟨m.2.2.1.2.2.1, m.2.2.2.1.2.1⟩
theorem cp_waiting {x : Int32} (m : CI G h o A la ba sa ra fa oa K c1 c2 c3 p) (ok : rok p) (h8 : ∀ i, i < p.1 28 → p.2.1 11 i < 8) (hcs : p.1 15 ≤ p.1 13) (hht : p.1 18 ≤ p.1 16) : fp_ct G rm_X10_waiting M_X10_waiting [.ref o, .int x] h (fun r h' => h' = h ∧ r = some (.int (oI (r_wait p x)))) := by
  obtain ⟨l1, l2⟩ := m.lens
  obtain ⟨m1, ⟨m2, m3, -⟩, -, -, m4, m5, -⟩ := id m
  unfold r_wait
  refine fp_meth pn_X10 (Nat.le_of_ble_eq_true rfl) rfl ?_
  refine wp_iload_n dX10_waiting_0 rfl ?_
  refine wp_if_ne (tgt := 12) dX10_waiting_1 rfl (fun c_1 => ?_) (fun c_1 => ?_)
  · have hx0 : ¬ x = nI 0 := c_1
    rw [if_neg hx0]
    refine wp_iload_n dX10_waiting_12 rfl ?_
    refine wp_iconst (v := 1) dX10_waiting_13 rfl ?_
    refine wp_icmp_ne (tgt := 25) dX10_waiting_14 rfl (fun c_14 => ?_) (fun c_14 => ?_)
    · have hx1 : ¬ x = nI 1 := c_14
      rw [if_neg hx1]
      refine wp_aload_n dX10_waiting_25 rfl ?_
      refine wp_iload_n dX10_waiting_26 rfl ?_
      refine wp_callV (As := [.int x]) (rest := []) dX10_waiting_27 me_X10_nextSection cw_X10_152 rfl ⟨(Nat.le_of_ble_eq_true rfl), (Nat.le_of_ble_eq_true rfl)⟩ rfl rfl rfl (Nat.le_of_ble_eq_true rfl) m1 (cp_next m ok h8) (fun r h1 q => ?_)
      obtain ⟨q0, q⟩ := q
      rw [q0]
      rcases q with ⟨rfl, q⟩ | ⟨k, hk, hk0, rfl, q⟩
      · refine wp_astore_nN dX10_waiting_30 (Nat.le_of_ble_eq_true rfl) rfl ?_
        refine wp_aload_nN dX10_waiting_31 rfl ?_
        refine wp_ifnonnullN dX10_waiting_32 ?_
        refine wp_iconst (v := (-1)) dX10_waiting_35 rfl ?_
        refine wp_goto (tgt := 43) dX10_waiting_36 rfl ?_
        refine wp_iret dX10_waiting_43 rfl rfl ?_
        refine ⟨rfl, ?_⟩
        by_cases c : 2 ≤ x ∧ x ≤ 9
        · rw [if_pos c] at q; rw [if_pos c, q]; rfl
        · rw [if_neg c]; rfl
      · obtain ⟨cap, rb, fb, hb, -⟩ := (m.2.2.2.1.2.2.2.1 k hk).1 hk0
        refine wp_astore_n dX10_waiting_30 (Nat.le_of_ble_eq_true rfl) rfl ?_
        refine wp_aload_n dX10_waiting_31 rfl ?_
        refine wp_ifnonnull (tgt := 39) dX10_waiting_32 rfl ?_
        refine wp_aload_n dX10_waiting_39 rfl ?_
        refine wp_getf dX10_waiting_40 fl_X10_106 hb rfl ?_
        refine wp_iret dX10_waiting_43 rfl rfl ?_
        refine ⟨rfl, ?_⟩
        by_cases c : 2 ≤ x ∧ x ≤ 9
        · rw [if_pos c] at q; rw [if_pos c, q]
          show _ = some (Value.int (nI (p.2.1 22 k)))
          unfold sbt
          rw [List.length_map, List.length_range]
        · rw [if_neg c] at q; cases q
    · have hx1 : x = nI 1 := c_14
      rw [if_pos hx1]
      refine wp_aload_n dX10_waiting_17 rfl ?_
      refine wp_getf dX10_waiting_18 fl_X10_25 m1 rfl ?_
      refine wp_callV (As := []) (rest := []) dX10_waiting_21 me_X9_left cw_X10_92 rfl ⟨(Nat.le_of_ble_eq_true rfl), (Nat.le_of_ble_eq_true rfl)⟩ rfl rfl rfl (Nat.le_of_ble_eq_true rfl) m3 (cw_left m3 l2 m5 (by rw [wlx_len]; exact hht)) (fun r h1 q => ?_)
      obtain ⟨q0, rfl⟩ := q
      rw [q0, wlx_len]
      refine wp_iret dX10_waiting_24 rfl rfl ?_
      exact ⟨rfl, rfl⟩
  · have hx0 : x = nI 0 := c_1
    rw [if_pos hx0]
    refine wp_aload_n dX10_waiting_4 rfl ?_
    refine wp_getf dX10_waiting_5 fl_X10_21 m1 rfl ?_
    refine wp_callV (As := []) (rest := []) dX10_waiting_8 me_X9_left cw_X10_92 rfl ⟨(Nat.le_of_ble_eq_true rfl), (Nat.le_of_ble_eq_true rfl)⟩ rfl rfl rfl (Nat.le_of_ble_eq_true rfl) m2 (cw_left m2 l1 m4 (by rw [wlx_len]; exact hcs)) (fun r h1 q => ?_)
    obtain ⟨q0, rfl⟩ := q
    rw [q0, wlx_len]
    refine wp_iret dX10_waiting_11 rfl rfl ?_
    exact ⟨rfl, rfl⟩
theorem cp_look {x y : Int32} (m : CI G h o A la ba sa ra fa oa K c1 c2 c3 p) (ok : rok p) (h8 : ∀ i, i < p.1 28 → p.2.1 11 i < 8) (hcs : p.1 15 ≤ p.1 13) (hht : p.1 18 ≤ p.1 16) (h13 : p.1 13 ≤ 60000) (h16 : p.1 16 ≤ 4000) : fp_ct G rm_X10_look M_X10_look [.ref o, .int x, .int y] h (fun r h' => h' = h ∧ r = some (.int (oI (r_look p x y)))) := by
  obtain ⟨l1, l2⟩ := m.lens
  obtain ⟨m1, ⟨m2, m3, -⟩, -, -, m4, m5, -⟩ := id m
  unfold r_look r_wait
  refine fp_meth pn_X10 (Nat.le_of_ble_eq_true rfl) rfl ?_
  refine wp_iload_n dX10_look_0 rfl ?_
  refine wp_if_ne (tgt := 13) dX10_look_1 rfl (fun c_1 => ?_) (fun c_1 => ?_)
  · have hx0 : ¬ x = nI 0 := c_1
    simp only [if_neg hx0]
    refine wp_iload_n dX10_look_13 rfl ?_
    refine wp_iconst (v := 1) dX10_look_14 rfl ?_
    refine wp_icmp_ne (tgt := 27) dX10_look_15 rfl (fun c_15 => ?_) (fun c_15 => ?_)
    · have hx1 : ¬ x = nI 1 := c_15
      simp only [if_neg hx1]
      refine wp_aload_n dX10_look_27 rfl ?_
      refine wp_iload_n dX10_look_28 rfl ?_
      refine wp_callV (As := [.int x]) (rest := []) dX10_look_29 me_X10_nextSection cw_X10_152 rfl ⟨(Nat.le_of_ble_eq_true rfl), (Nat.le_of_ble_eq_true rfl)⟩ rfl rfl rfl (Nat.le_of_ble_eq_true rfl) m1 (cp_next m ok h8) (fun r h1 q => ?_)
      obtain ⟨q0, q⟩ := q
      rw [q0]
      rcases q with ⟨rfl, q⟩ | ⟨k, hk, hk0, rfl, q⟩
      · refine wp_astore_nN dX10_look_32 (Nat.le_of_ble_eq_true rfl) rfl ?_
        refine wp_aload_nN dX10_look_33 rfl ?_
        refine wp_ifnonnullN dX10_look_34 ?_
        refine wp_iconst (v := (-1)) dX10_look_37 rfl ?_
        refine wp_goto (tgt := 46) dX10_look_38 rfl ?_
        refine wp_iret dX10_look_46 rfl rfl ?_
        refine ⟨rfl, ?_⟩
        by_cases c : 2 ≤ x ∧ x ≤ 9
        · rw [if_pos c] at q; rw [if_pos c, q]; rfl
        · rw [if_neg c]; rfl
      · obtain ⟨cap, hbb⟩ := (m.2.2.2.1.2.2.2.1 k hk).1 hk0
        obtain ⟨rb, fb, hb, -, hcl, hc24, -⟩ := id hbb
        have hlen : (sbt p k).length = p.2.1 22 k := by unfold sbt; rw [List.length_map, List.length_range]
        by_cases c : 2 ≤ x ∧ x ≤ 9
        · rw [if_pos c] at q
          rw [if_pos c, q]
          show fp_wp _ _ _ _ _ _ _ (fun r h' => h' = h ∧ r = some (.int (oI (if 0 ≤ y ∧ y < nI (p.2.1 22 k) then some (p.2.1 23 (p.2.1 21 k + y.toNatClampNeg)) else none))))
          refine wp_astore_n dX10_look_32 (Nat.le_of_ble_eq_true rfl) rfl ?_
          refine wp_aload_n dX10_look_33 rfl ?_
          refine wp_ifnonnull (tgt := 41) dX10_look_34 rfl ?_
          refine wp_aload_n dX10_look_41 rfl ?_
          refine wp_iload_n dX10_look_42 rfl ?_
          refine wp_callV (As := [.int y]) (rest := []) dX10_look_43 me_X0_at cw_X10_159 rfl ⟨(Nat.le_of_ble_eq_true rfl), (Nat.le_of_ble_eq_true rfl)⟩ rfl rfl rfl (Nat.le_of_ble_eq_true rfl) hb (cc_bat hbb) (fun r h2 z => ?_)
          obtain ⟨z0, z⟩ := z
          rw [z0]
          rcases z with ⟨z, rfl⟩ | ⟨i, z1, rfl, rfl⟩
          · refine wp_iret dX10_look_46 rfl rfl ?_
            refine ⟨rfl, ?_⟩
            rw [if_neg]
            · rfl
            · intro w
              refine z ?_
              obtain ⟨n, hn, rfl⟩ := nI_of (x := y) (fun q => by
                have h1 := Int32.lt_iff_toInt_lt.mp q
                have h2 := Int32.le_iff_toInt_le.mp w.1
                omega)
              exact ⟨n, by rw [hlen]; exact (nI_ltI hn (by omega)).mp w.2, rfl⟩
          · refine wp_iret dX10_look_46 rfl rfl ?_
            refine ⟨rfl, ?_⟩
            rw [if_pos ⟨nI_pos' (by omega), nI_lt (by omega) (by omega)⟩, nI_clamp (by omega)]
            show _ = some (Value.int (nI (p.2.1 23 (p.2.1 21 k + i))))
            have : (sbt p k).getD i 0 = p.2.1 23 (p.2.1 21 k + i) := by
              unfold sbt
              rw [List.getD_eq_getElem?_getD, List.getElem?_map, List.getElem?_range (by omega)]
              rfl
            rw [this]
        · rw [if_neg c] at q; cases q
    · have hx1 : x = nI 1 := c_15
      simp only [if_pos hx1]
      refine wp_aload_n dX10_look_18 rfl ?_
      refine wp_getf dX10_look_19 fl_X10_25 m1 rfl ?_
      refine wp_iload_n dX10_look_22 rfl ?_
      refine wp_callV (As := [.int y]) (rest := []) dX10_look_23 me_X9_at cw_X10_156 rfl ⟨(Nat.le_of_ble_eq_true rfl), (Nat.le_of_ble_eq_true rfl)⟩ rfl rfl rfl (Nat.le_of_ble_eq_true rfl) m3 (cw_at m3 l2 m5 (by rw [wlx_len]; exact hht) (by rw [wlx_len]; omega)) (fun r h1 q => ?_)
      obtain ⟨q0, rfl⟩ := q
      rw [q0, wlx_len]
      refine wp_iret dX10_look_26 rfl rfl ?_
      refine ⟨rfl, ?_⟩
      by_cases c : 0 ≤ y ∧ y < nI (p.1 16 - p.1 18)
      · rw [if_pos c, if_pos c]
        obtain ⟨n, hn, rfl⟩ := nI_of (x := y) (fun q => by
          have h1 := Int32.lt_iff_toInt_lt.mp q
          have h2 := Int32.le_iff_toInt_le.mp c.1
          omega)
        have := (nI_ltI hn (by omega)).mp c.2
        rw [nI_clamp hn, wlx_get (by omega)]
        rfl
      · rw [if_neg c, if_neg c]
        rfl
  · have hx0 : x = nI 0 := c_1
    simp only [if_pos hx0]
    refine wp_aload_n dX10_look_4 rfl ?_
    refine wp_getf dX10_look_5 fl_X10_21 m1 rfl ?_
    refine wp_iload_n dX10_look_8 rfl ?_
    refine wp_callV (As := [.int y]) (rest := []) dX10_look_9 me_X9_at cw_X10_156 rfl ⟨(Nat.le_of_ble_eq_true rfl), (Nat.le_of_ble_eq_true rfl)⟩ rfl rfl rfl (Nat.le_of_ble_eq_true rfl) m2 (cw_at m2 l1 m4 (by rw [wlx_len]; exact hcs) (by rw [wlx_len]; omega)) (fun r h1 q => ?_)
    obtain ⟨q0, rfl⟩ := q
    rw [q0, wlx_len]
    refine wp_iret dX10_look_12 rfl rfl ?_
    refine ⟨rfl, ?_⟩
    by_cases c : 0 ≤ y ∧ y < nI (p.1 13 - p.1 15)
    · rw [if_pos c, if_pos c]
      obtain ⟨n, hn, rfl⟩ := nI_of (x := y) (fun q => by
        have h1 := Int32.lt_iff_toInt_lt.mp q
        have h2 := Int32.le_iff_toInt_le.mp c.1
        omega)
      have := (nI_ltI hn (by omega)).mp c.2
      rw [nI_clamp hn, wlx_get (by omega)]
      rfl
    · rw [if_neg c, if_neg c]
      rfl
theorem cp_sections {x : Int32} (m : CI G h o A la ba sa ra fa oa K c1 c2 c3 p) : fp_ct G rm_X10_sections M_X10_sections [.ref o, .int x] h (fun r h' => h' = h ∧ (((¬ ∃ s, s < 8 ∧ x = nI s) ∧ r = some (.int (-1))) ∨ ∃ s, s < 8 ∧ x = nI s ∧ r = some (.int (nI (r_lying p s 2))))) := by
  refine fp_meth pn_X10 (Nat.le_of_ble_eq_true rfl) rfl ?_
  refine wp_aload_n dX10_sections_0 rfl ?_
  refine wp_iload_n dX10_sections_1 rfl ?_
  refine wp_callV (As := [.int x]) (rest := []) dX10_sections_2 me_X10_laneOf cw_X10_77 rfl ⟨(Nat.le_of_ble_eq_true rfl), (Nat.le_of_ble_eq_true rfl)⟩ rfl rfl rfl (Nat.le_of_ble_eq_true rfl) m.1 (cp_lane m) (fun r h1 q => ?_)
  obtain ⟨q0, q⟩ := q
  rw [q0]
  rcases q with ⟨q1, rfl⟩ | ⟨s, hs, hse, rfl⟩
  · refine wp_astore_nN dX10_sections_5 (Nat.le_of_ble_eq_true rfl) rfl ?_
    refine wp_aload_nN dX10_sections_6 rfl ?_
    refine wp_ifnonnullN dX10_sections_7 ?_
    refine wp_iconst (v := (-1)) dX10_sections_10 rfl ?_
    refine wp_goto (tgt := 21) dX10_sections_11 rfl ?_
    refine wp_iret dX10_sections_21 rfl rfl ?_
    exact ⟨rfl, Or.inl ⟨q1, rfl⟩⟩
  · obtain ⟨onw, wai, red, e1, e2, e3, e4, -⟩ := m.2.2.2.1.2.2.1 s hs
    obtain ⟨mc, ed, l1, -⟩ := id e4
    refine wp_astore_n dX10_sections_5 (Nat.le_of_ble_eq_true rfl) rfl ?_
    refine wp_aload_n dX10_sections_6 rfl ?_
    refine wp_ifnonnull (tgt := 14) dX10_sections_7 rfl ?_
    refine wp_aload_n dX10_sections_14 rfl ?_
    refine wp_getf dX10_sections_15 fl_X10_188 e1 rfl ?_
    refine wp_callV (As := []) (rest := []) dX10_sections_18 me_Jx4a65c_size_8abf5 cw_X10_60 rfl ⟨(Nat.le_of_ble_eq_true rfl), (Nat.le_of_ble_eq_true rfl)⟩ rfl rfl rfl (Nat.le_of_ble_eq_true rfl) l1 (ct_lsize e4) (fun r h2 q => ?_)
    obtain ⟨q0, rfl⟩ := q
    rw [q0, List.length_map, lyl_len]
    refine wp_iret dX10_sections_21 rfl rfl ?_
    exact ⟨rfl, Or.inr ⟨s, hs, hse, rfl⟩⟩
theorem cp_table {e : Nat} (m : CI G h o A la ba sa ra fa oa K c1 c2 c3 p) (he : e ≤ 1) : fp_ct G rm_X10_tableOf M_X10_tableOf [.ref o, .int (nI e)] h (fun r h' => h' = h ∧ r = some (.ref (if e = 0 then A 6 else A 13))) := by
  obtain ⟨m1, -, ⟨⟨x5, x6, x7, x8, m2⟩, -⟩, ⟨⟨m3, -⟩, -⟩, -⟩ := m
  refine fp_meth pn_X10 (Nat.le_of_ble_eq_true rfl) rfl ?_
  refine wp_iload_n dX10_tableOf_0 rfl ?_
  refine wp_if_ne (tgt := 14) dX10_tableOf_1 rfl (fun c_1 => ?_) (fun c_1 => ?_)
  · have : ¬ e = 0 := fun z => c_1 (by rw [z]; rfl)
    rw [if_neg this]
    refine wp_aload_n dX10_tableOf_14 rfl ?_
    refine wp_getf dX10_tableOf_15 fl_X10_42 m1 rfl ?_
    refine wp_getf dX10_tableOf_18 fl_X10_213 m3 rfl ?_
    refine wp_aret dX10_tableOf_21 rfl (by first | exact Or.inl ⟨_, rfl⟩ | exact Or.inr ⟨_, rfl⟩) (Or.inr ⟨_, rfl⟩) ?_
    exact ⟨rfl, rfl⟩
  · have : e = 0 := (nI_eq (b := 0) (by omega) (by decide)).mp c_1
    rw [if_pos this]
    refine wp_aload_n dX10_tableOf_4 rfl ?_
    refine wp_getf dX10_tableOf_5 fl_X10_33 m1 rfl ?_
    refine wp_getf dX10_tableOf_8 fl_X10_209 m2 rfl ?_
    refine wp_goto (tgt := 21) dX10_tableOf_11 rfl ?_
    refine wp_aret dX10_tableOf_21 rfl (by first | exact Or.inl ⟨_, rfl⟩ | exact Or.inr ⟨_, rfl⟩) (Or.inr ⟨_, rfl⟩) ?_
    exact ⟨rfl, rfl⟩
theorem CI.tbl (m : CI G h o A la ba sa ra fa oa K c1 c2 c3 p) (e : Nat) : ∃ t, tbl h t (if e = 0 then A 6 else A 13) (p.1 0) (p.2.2 3) (p.2.2 4) (if e = 0 then p.1 10 else p.1 25) (if e = 0 then p.1 6 else p.1 24) (if e = 0 then p.1 11 else p.1 26) := by
  by_cases c : e = 0
  · simp only [if_pos c]; exact ⟨15, m.2.2.1.2.1⟩
  · simp only [if_neg c]; exact ⟨16, m.2.2.2.1.1.2⟩
theorem cp_entry {x y z : Int32} (m : CI G h o A la ba sa ra fa oa K c1 c2 c3 p) : fp_ct G rm_X10_entry M_X10_entry [.ref o, .int x, .int y, .int z] h (fun r h' => h' = h ∧ (((¬ ∃ e j w, e ≤ 1 ∧ w ≤ 1 ∧ x = nI e ∧ y = nI j ∧ z = nI w ∧ j < 2 ^ 31 ∧ r_has p e j) ∧ r = some (.long (-1))) ∨ ∃ e j w, e ≤ 1 ∧ w ≤ 1 ∧ x = nI e ∧ y = nI j ∧ z = nI w ∧ j < 2 ^ 31 ∧ r_has p e j ∧ r = some (.long (lN (p.2.2 (3 + w) j))))) := by
  have main : ∀ e, e ≤ 1 → x = nI e → fp_wp G rm_X10_entry M_X10_entry 13 [some (.ref o), some (.int x), some (.int y), some (.int z)] [] h (fun r h' => h' = h ∧ (((¬ ∃ e j w, e ≤ 1 ∧ w ≤ 1 ∧ x = nI e ∧ y = nI j ∧ z = nI w ∧ j < 2 ^ 31 ∧ r_has p e j) ∧ r = some (.long (-1))) ∨ ∃ e j w, e ≤ 1 ∧ w ≤ 1 ∧ x = nI e ∧ y = nI j ∧ z = nI w ∧ j < 2 ^ 31 ∧ r_has p e j ∧ r = some (.long (lN (p.2.2 (3 + w) j))))) := by
    intro e he hx
    obtain ⟨t, tb⟩ := m.tbl e
    obtain ⟨n1, n2, n3, f1, f2, f3, a1, -⟩ := tb.ex
    have hC := tb.hC
    have hhas : ∀ j, ((if e = 0 then p.1 10 else p.1 25) ≤ j ∧ j < (if e = 0 then p.1 6 else p.1 24)) ↔ r_has p e j := fun j => by
      unfold r_has
      by_cases c : e = 0
      · simp only [if_pos c]
      · simp only [if_neg c]
    have uniq : ∀ e', e' ≤ 1 → x = nI e' → e' = e := fun e' h1 h2 => by rw [hx] at h2; exact ((nI_eq (by omega) (by omega)).mp h2).symm
    rw [hx]
    refine wp_iload_n dX10_entry_13 rfl ?_
    refine wp_if_ne (tgt := 27) dX10_entry_14 rfl (fun c_14 => ?_) (fun c_14 => ?_)
    · refine wp_iload_n dX10_entry_27 rfl ?_
      refine wp_iconst (v := 1) dX10_entry_28 rfl ?_
      refine wp_icmp_ne (tgt := 44) dX10_entry_29 rfl (fun c_29 => ?_) (fun c_29 => ?_)
      · refine wp_ldc2 dX10_entry_44 kc_X10_179 ?_
        refine wp_lret dX10_entry_47 rfl ?_
        refine ⟨rfl, Or.inl ⟨?_, rfl⟩⟩
        rintro ⟨e', j, w, h1, h2, h3, h4, h5, -⟩
        rcases (show w = 0 ∨ w = 1 by omega) with rfl | rfl
        · exact c_14 h5
        · exact c_29 h5
      · refine wp_aload_n dX10_entry_32 rfl ?_
        refine wp_iload_n dX10_entry_33 rfl ?_
        refine wp_callV (As := [.int (nI e)]) (rest := []) dX10_entry_34 me_X10_tableOf cw_X10_160 rfl ⟨(Nat.le_of_ble_eq_true rfl), (Nat.le_of_ble_eq_true rfl)⟩ rfl rfl rfl (Nat.le_of_ble_eq_true rfl) m.1 (cp_table m he) (fun r h1 q => ?_)
        obtain ⟨q0, rfl⟩ := q
        rw [q0]
        refine wp_iload_n dX10_entry_37 rfl ?_
        refine wp_callV (As := [.int y]) (rest := []) dX10_entry_38 me_X8_valueAt cw_X10_185 rfl ⟨(Nat.le_of_ble_eq_true rfl), (Nat.le_of_ble_eq_true rfl)⟩ rfl rfl rfl (Nat.le_of_ble_eq_true rfl) a1 (cc_valueAt tb) (fun r h2 q => ?_)
        obtain ⟨q0, q⟩ := q
        rw [q0]
        rcases q with ⟨q1, rfl⟩ | ⟨j, q1, q2, q3, rfl⟩
        · refine wp_goto (tgt := 47) dX10_entry_41 rfl ?_
          refine wp_lret dX10_entry_47 rfl ?_
          refine ⟨rfl, Or.inl ⟨?_, rfl⟩⟩
          rintro ⟨e', j, w, h1, h2, h3, h4, h5, h6, h7⟩
          rw [← hx] at h3
          rw [uniq e' h1 h3] at h7
          exact q1 ⟨j, ((hhas j).mpr h7).1, ((hhas j).mpr h7).2, h4⟩
        · refine wp_goto (tgt := 47) dX10_entry_41 rfl ?_
          refine wp_lret dX10_entry_47 rfl ?_
          exact ⟨rfl, Or.inr ⟨e, j, 1, he, by decide, rfl, q3, c_29, by omega, (hhas j).mp ⟨q1, q2⟩, rfl⟩⟩
    · refine wp_aload_n dX10_entry_17 rfl ?_
      refine wp_iload_n dX10_entry_18 rfl ?_
      refine wp_callV (As := [.int (nI e)]) (rest := []) dX10_entry_19 me_X10_tableOf cw_X10_160 rfl ⟨(Nat.le_of_ble_eq_true rfl), (Nat.le_of_ble_eq_true rfl)⟩ rfl rfl rfl (Nat.le_of_ble_eq_true rfl) m.1 (cp_table m he) (fun r h1 q => ?_)
      obtain ⟨q0, rfl⟩ := q
      rw [q0]
      refine wp_iload_n dX10_entry_22 rfl ?_
      refine wp_callV (As := [.int y]) (rest := []) dX10_entry_23 me_X8_nameAt cw_X10_181 rfl ⟨(Nat.le_of_ble_eq_true rfl), (Nat.le_of_ble_eq_true rfl)⟩ rfl rfl rfl (Nat.le_of_ble_eq_true rfl) a1 (cc_nameAt tb) (fun r h2 q => ?_)
      obtain ⟨q0, q⟩ := q
      rw [q0]
      rcases q with ⟨q1, rfl⟩ | ⟨j, q1, q2, q3, rfl⟩
      · refine wp_lret dX10_entry_26 rfl ?_
        refine ⟨rfl, Or.inl ⟨?_, rfl⟩⟩
        rintro ⟨e', j, w, h1, h2, h3, h4, h5, h6, h7⟩
        rw [← hx] at h3
        rw [uniq e' h1 h3] at h7
        exact q1 ⟨j, ((hhas j).mpr h7).1, ((hhas j).mpr h7).2, h4⟩
      · refine wp_lret dX10_entry_26 rfl ?_
        exact ⟨rfl, Or.inr ⟨e, j, 0, he, by decide, rfl, q3, c_14, by omega, (hhas j).mp ⟨q1, q2⟩, rfl⟩⟩
  refine fp_meth pn_X10 (Nat.le_of_ble_eq_true rfl) rfl ?_
  refine wp_iload_n dX10_entry_0 rfl ?_
  refine wp_if_eq (tgt := 13) dX10_entry_1 rfl (fun c_1 => ?_) (fun c_1 => ?_)
  · exact main 0 (by decide) c_1
  · refine wp_iload_n dX10_entry_4 rfl ?_
    refine wp_iconst (v := 1) dX10_entry_5 rfl ?_
    refine wp_icmp_eq (tgt := 13) dX10_entry_6 rfl (fun c_6 => ?_) (fun c_6 => ?_)
    · exact main 1 (by decide) c_6
    · refine wp_ldc2 dX10_entry_9 kc_X10_179 ?_
      refine wp_lret dX10_entry_12 rfl ?_
      refine ⟨rfl, Or.inl ⟨?_, rfl⟩⟩
      rintro ⟨e', j, w, h1, h2, h3, -⟩
      rcases (show e' = 0 ∨ e' = 1 by omega) with rfl | rfl
      · exact c_1 h3
      · exact c_6 h3
end CP
