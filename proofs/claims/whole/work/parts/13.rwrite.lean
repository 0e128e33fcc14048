/-! the reference: lay, number, text, field -/
def r_wa (w : Nat) : Nat := [6, 7, 25, 23].getD w 0
def r_wc (w : Nat) : Nat := [13, 16, 44, 41].getD w 0
def r_lay (p : rs) (w v : Nat) : rs := r_si (r_sa p (r_wa w) (p.1 (r_wc w)) v) (r_wc w) (p.1 (r_wc w) + 1)
def r_lays (p : rs) (w : Nat) (l : List Nat) : rs := l.foldl (fun p b => r_lay p w b) p
theorem r_lay_c (p : rs) (w v : Nat) : (r_lay p w v).1 (r_wc w) = p.1 (r_wc w) + 1 := by simp [r_lay, r_si]
theorem r_lays_c (w : Nat) (l : List Nat) : ∀ p : rs, (r_lays p w l).1 (r_wc w) = p.1 (r_wc w) + l.length := by
  induction l with
  | nil => intro p; rfl
  | cons a l ih =>
    intro p
    show (r_lays (r_lay p w a) w l).1 (r_wc w) = _
    rw [ih, r_lay_c, List.length_cons]
    omega
theorem r_lays_app (p : rs) (w : Nat) (a b : List Nat) : r_lays p w (a ++ b) = r_lays (r_lays p w a) w b := by simp [r_lays, List.foldl_append]
theorem r_lays_cons (p : rs) (w a : Nat) (b : List Nat) : r_lays p w (a :: b) = r_lays (r_lay p w a) w b := rfl
/-- what is left of a number: groups of seven bits -/
def nbt : Nat → Nat → List Nat
  | 0, l => [l]
  | f + 1, l => if l ≤ 127 then [l] else (128 + l % 128) :: nbt f (l / 128)
/-- NUMBER -/
def nb (F n v : Nat) : List Nat := if v < 2 ^ n - 1 then [F + v] else (F + (2 ^ n - 1)) :: nbt 4 (v - (2 ^ n - 1))
/-- the bytes of a text -/
def txb (u : Nat) : List Nat := (List.range (bln u)).reverse.map (bte u)
theorem or128 : ∀ x, x < 128 → 128 ||| x = 128 + x := by decide +kernel
theorem sh1 : ∀ n, n < 9 → (1 : Int32) <<< (nI n &&& 31) - 1 = nI (2 ^ n - 1) := by decide +kernel
theorem and127 {l : Nat} (hl : l < 2 ^ 31) : (128 : Int32) ||| (nI l &&& 127) = nI (128 + l % 128) := by
  rw [pk_andN (n := l) (by omega) (m := 127) 7 (by decide)]
  show nI 128 ||| nI (l % 2 ^ 7) = _
  rw [nI_or, or128 _ (Nat.mod_lt _ (by decide))]
theorem dX11_lay_0 : decode cX11_lay 0 = .ok (.iload_n 1, 1) := by decide +kernel
theorem dX11_lay_1 : decode cX11_lay 1 = .ok (.ifCond .ne 26, 3) := by decide +kernel
theorem dX11_lay_4 : decode cX11_lay 4 = .ok (.aload_n 0, 1) := by decide +kernel
theorem dX11_lay_5 : decode cX11_lay 5 = .ok (.getfield 31, 3) := by decide +kernel
theorem dX11_lay_8 : decode cX11_lay 8 = .ok (.aload_n 0, 1) := by decide +kernel
theorem dX11_lay_9 : decode cX11_lay 9 = .ok (.getfield 104, 3) := by decide +kernel
theorem dX11_lay_12 : decode cX11_lay 12 = .ok (.iload_n 2, 1) := by decide +kernel
theorem dX11_lay_13 : decode cX11_lay 13 = .ok (.iastore, 1) := by decide +kernel
theorem dX11_lay_14 : decode cX11_lay 14 = .ok (.aload_n 0, 1) := by decide +kernel
theorem dX11_lay_15 : decode cX11_lay 15 = .ok (.dup, 1) := by decide +kernel
theorem dX11_lay_16 : decode cX11_lay 16 = .ok (.getfield 104, 3) := by decide +kernel
theorem dX11_lay_19 : decode cX11_lay 19 = .ok (.iconst 1, 1) := by decide +kernel
theorem dX11_lay_20 : decode cX11_lay 20 = .ok (.iadd, 1) := by decide +kernel
theorem dX11_lay_21 : decode cX11_lay 21 = .ok (.putfield 104, 3) := by decide +kernel
theorem dX11_lay_24 : decode cX11_lay 24 = .ok (.goto 79, 3) := by decide +kernel
theorem dX11_lay_27 : decode cX11_lay 27 = .ok (.iload_n 1, 1) := by decide +kernel
theorem dX11_lay_28 : decode cX11_lay 28 = .ok (.iconst 1, 1) := by decide +kernel
theorem dX11_lay_29 : decode cX11_lay 29 = .ok (.if_icmp .ne 26, 3) := by decide +kernel
theorem dX11_lay_32 : decode cX11_lay 32 = .ok (.aload_n 0, 1) := by decide +kernel
theorem dX11_lay_33 : decode cX11_lay 33 = .ok (.getfield 34, 3) := by decide +kernel
theorem dX11_lay_36 : decode cX11_lay 36 = .ok (.aload_n 0, 1) := by decide +kernel
theorem dX11_lay_37 : decode cX11_lay 37 = .ok (.getfield 107, 3) := by decide +kernel
theorem dX11_lay_40 : decode cX11_lay 40 = .ok (.iload_n 2, 1) := by decide +kernel
theorem dX11_lay_41 : decode cX11_lay 41 = .ok (.iastore, 1) := by decide +kernel
theorem dX11_lay_42 : decode cX11_lay 42 = .ok (.aload_n 0, 1) := by decide +kernel
theorem dX11_lay_43 : decode cX11_lay 43 = .ok (.dup, 1) := by decide +kernel
theorem dX11_lay_44 : decode cX11_lay 44 = .ok (.getfield 107, 3) := by decide +kernel
theorem dX11_lay_47 : decode cX11_lay 47 = .ok (.iconst 1, 1) := by decide +kernel
theorem dX11_lay_48 : decode cX11_lay 48 = .ok (.iadd, 1) := by decide +kernel
theorem dX11_lay_49 : decode cX11_lay 49 = .ok (.putfield 107, 3) := by decide +kernel
theorem dX11_lay_52 : decode cX11_lay 52 = .ok (.goto 51, 3) := by decide +kernel
theorem dX11_lay_55 : decode cX11_lay 55 = .ok (.iload_n 1, 1) := by decide +kernel
theorem dX11_lay_56 : decode cX11_lay 56 = .ok (.iconst 2, 1) := by decide +kernel
theorem dX11_lay_57 : decode cX11_lay 57 = .ok (.if_icmp .ne 26, 3) := by decide +kernel
theorem dX11_lay_60 : decode cX11_lay 60 = .ok (.aload_n 0, 1) := by decide +kernel
theorem dX11_lay_61 : decode cX11_lay 61 = .ok (.getfield 88, 3) := by decide +kernel
theorem dX11_lay_64 : decode cX11_lay 64 = .ok (.aload_n 0, 1) := by decide +kernel
theorem dX11_lay_65 : decode cX11_lay 65 = .ok (.getfield 110, 3) := by decide +kernel
theorem dX11_lay_68 : decode cX11_lay 68 = .ok (.iload_n 2, 1) := by decide +kernel
theorem dX11_lay_69 : decode cX11_lay 69 = .ok (.iastore, 1) := by decide +kernel
theorem dX11_lay_70 : decode cX11_lay 70 = .ok (.aload_n 0, 1) := by decide +kernel
theorem dX11_lay_71 : decode cX11_lay 71 = .ok (.dup, 1) := by decide +kernel
theorem dX11_lay_72 : decode cX11_lay 72 = .ok (.getfield 110, 3) := by decide +kernel
theorem dX11_lay_75 : decode cX11_lay 75 = .ok (.iconst 1, 1) := by decide +kernel
theorem dX11_lay_76 : decode cX11_lay 76 = .ok (.iadd, 1) := by decide +kernel
theorem dX11_lay_77 : decode cX11_lay 77 = .ok (.putfield 110, 3) := by decide +kernel
theorem dX11_lay_80 : decode cX11_lay 80 = .ok (.goto 23, 3) := by decide +kernel
theorem dX11_lay_83 : decode cX11_lay 83 = .ok (.aload_n 0, 1) := by decide +kernel
theorem dX11_lay_84 : decode cX11_lay 84 = .ok (.getfield 82, 3) := by decide +kernel
theorem dX11_lay_87 : decode cX11_lay 87 = .ok (.aload_n 0, 1) := by decide +kernel
theorem dX11_lay_88 : decode cX11_lay 88 = .ok (.getfield 113, 3) := by decide +kernel
theorem dX11_lay_91 : decode cX11_lay 91 = .ok (.iload_n 2, 1) := by decide +kernel
theorem dX11_lay_92 : decode cX11_lay 92 = .ok (.iastore, 1) := by decide +kernel
theorem dX11_lay_93 : decode cX11_lay 93 = .ok (.aload_n 0, 1) := by decide +kernel
theorem dX11_lay_94 : decode cX11_lay 94 = .ok (.dup, 1) := by decide +kernel
theorem dX11_lay_95 : decode cX11_lay 95 = .ok (.getfield 113, 3) := by decide +kernel
theorem dX11_lay_98 : decode cX11_lay 98 = .ok (.iconst 1, 1) := by decide +kernel
theorem dX11_lay_99 : decode cX11_lay 99 = .ok (.iadd, 1) := by decide +kernel
theorem dX11_lay_100 : decode cX11_lay 100 = .ok (.putfield 113, 3) := by decide +kernel
theorem dX11_lay_103 : decode cX11_lay 103 = .ok (.return_, 1) := by decide +kernel
theorem dX11_number_0 : decode cX11_number 0 = .ok (.iconst 1, 1) := by decide +kernel
theorem dX11_number_1 : decode cX11_number 1 = .ok (.iload_n 3, 1) := by decide +kernel
theorem dX11_number_2 : decode cX11_number 2 = .ok (.ishl, 1) := by decide +kernel
theorem dX11_number_3 : decode cX11_number 3 = .ok (.iconst 1, 1) := by decide +kernel
theorem dX11_number_4 : decode cX11_number 4 = .ok (.isub, 1) := by decide +kernel
theorem dX11_number_5 : decode cX11_number 5 = .ok (.istore 5, 2) := by decide +kernel
theorem dX11_number_7 : decode cX11_number 7 = .ok (.iload 4, 2) := by decide +kernel
theorem dX11_number_9 : decode cX11_number 9 = .ok (.iload 5, 2) := by decide +kernel
theorem dX11_number_11 : decode cX11_number 11 = .ok (.if_icmp .ge 13, 3) := by decide +kernel
theorem dX11_number_14 : decode cX11_number 14 = .ok (.aload_n 0, 1) := by decide +kernel
theorem dX11_number_15 : decode cX11_number 15 = .ok (.iload_n 1, 1) := by decide +kernel
theorem dX11_number_16 : decode cX11_number 16 = .ok (.iload_n 2, 1) := by decide +kernel
theorem dX11_number_17 : decode cX11_number 17 = .ok (.iload 4, 2) := by decide +kernel
theorem dX11_number_19 : decode cX11_number 19 = .ok (.ior, 1) := by decide +kernel
theorem dX11_number_20 : decode cX11_number 20 = .ok (.invokevirtual 116, 3) := by decide +kernel
theorem dX11_number_23 : decode cX11_number 23 = .ok (.return_, 1) := by decide +kernel
theorem dX11_number_24 : decode cX11_number 24 = .ok (.aload_n 0, 1) := by decide +kernel
theorem dX11_number_25 : decode cX11_number 25 = .ok (.iload_n 1, 1) := by decide +kernel
theorem dX11_number_26 : decode cX11_number 26 = .ok (.iload_n 2, 1) := by decide +kernel
theorem dX11_number_27 : decode cX11_number 27 = .ok (.iload 5, 2) := by decide +kernel
theorem dX11_number_29 : decode cX11_number 29 = .ok (.ior, 1) := by decide +kernel
theorem dX11_number_30 : decode cX11_number 30 = .ok (.invokevirtual 116, 3) := by decide +kernel
theorem dX11_number_33 : decode cX11_number 33 = .ok (.iload 4, 2) := by decide +kernel
theorem dX11_number_35 : decode cX11_number 35 = .ok (.iload 5, 2) := by decide +kernel
theorem dX11_number_37 : decode cX11_number 37 = .ok (.isub, 1) := by decide +kernel
theorem dX11_number_38 : decode cX11_number 38 = .ok (.istore 6, 2) := by decide +kernel
theorem dX11_number_40 : decode cX11_number 40 = .ok (.iload 6, 2) := by decide +kernel
theorem dX11_number_42 : decode cX11_number 42 = .ok (.bipush 127, 2) := by decide +kernel
theorem dX11_number_44 : decode cX11_number 44 = .ok (.if_icmp .le 27, 3) := by decide +kernel
theorem dX11_number_47 : decode cX11_number 47 = .ok (.aload_n 0, 1) := by decide +kernel
theorem dX11_number_48 : decode cX11_number 48 = .ok (.iload_n 1, 1) := by decide +kernel
theorem dX11_number_49 : decode cX11_number 49 = .ok (.sipush 128, 3) := by decide +kernel
theorem dX11_number_52 : decode cX11_number 52 = .ok (.iload 6, 2) := by decide +kernel
theorem dX11_number_54 : decode cX11_number 54 = .ok (.bipush 127, 2) := by decide +kernel
theorem dX11_number_56 : decode cX11_number 56 = .ok (.iand, 1) := by decide +kernel
theorem dX11_number_57 : decode cX11_number 57 = .ok (.ior, 1) := by decide +kernel
theorem dX11_number_58 : decode cX11_number 58 = .ok (.invokevirtual 116, 3) := by decide +kernel
theorem dX11_number_61 : decode cX11_number 61 = .ok (.iload 6, 2) := by decide +kernel
theorem dX11_number_63 : decode cX11_number 63 = .ok (.bipush 7, 2) := by decide +kernel
theorem dX11_number_65 : decode cX11_number 65 = .ok (.ishr, 1) := by decide +kernel
theorem dX11_number_66 : decode cX11_number 66 = .ok (.istore 6, 2) := by decide +kernel
theorem dX11_number_68 : decode cX11_number 68 = .ok (.goto (-28), 3) := by decide +kernel
theorem dX11_number_71 : decode cX11_number 71 = .ok (.aload_n 0, 1) := by decide +kernel
theorem dX11_number_72 : decode cX11_number 72 = .ok (.iload_n 1, 1) := by decide +kernel
theorem dX11_number_73 : decode cX11_number 73 = .ok (.iload 6, 2) := by decide +kernel
theorem dX11_number_75 : decode cX11_number 75 = .ok (.invokevirtual 116, 3) := by decide +kernel
theorem dX11_number_78 : decode cX11_number 78 = .ok (.return_, 1) := by decide +kernel
theorem dX11_text_0 : decode cX11_text 0 = .ok (.aload_n 0, 1) := by decide +kernel
theorem dX11_text_1 : decode cX11_text 1 = .ok (.iload_n 1, 1) := by decide +kernel
theorem dX11_text_2 : decode cX11_text 2 = .ok (.iload_n 2, 1) := by decide +kernel
theorem dX11_text_3 : decode cX11_text 3 = .ok (.iload_n 3, 1) := by decide +kernel
theorem dX11_text_4 : decode cX11_text 4 = .ok (.lload 4, 2) := by decide +kernel
theorem dX11_text_6 : decode cX11_text 6 = .ok (.invokestatic 100, 3) := by decide +kernel
theorem dX11_text_9 : decode cX11_text 9 = .ok (.invokevirtual 120, 3) := by decide +kernel
theorem dX11_text_12 : decode cX11_text 12 = .ok (.lload 4, 2) := by decide +kernel
theorem dX11_text_14 : decode cX11_text 14 = .ok (.invokestatic 100, 3) := by decide +kernel
theorem dX11_text_17 : decode cX11_text 17 = .ok (.iconst 1, 1) := by decide +kernel
theorem dX11_text_18 : decode cX11_text 18 = .ok (.isub, 1) := by decide +kernel
theorem dX11_text_19 : decode cX11_text 19 = .ok (.istore 6, 2) := by decide +kernel
theorem dX11_text_21 : decode cX11_text 21 = .ok (.iload 6, 2) := by decide +kernel
theorem dX11_text_23 : decode cX11_text 23 = .ok (.ifCond .lt 27, 3) := by decide +kernel
theorem dX11_text_26 : decode cX11_text 26 = .ok (.aload_n 0, 1) := by decide +kernel
theorem dX11_text_27 : decode cX11_text 27 = .ok (.iload_n 1, 1) := by decide +kernel
theorem dX11_text_28 : decode cX11_text 28 = .ok (.lload 4, 2) := by decide +kernel
theorem dX11_text_30 : decode cX11_text 30 = .ok (.bipush 8, 2) := by decide +kernel
theorem dX11_text_32 : decode cX11_text 32 = .ok (.iload 6, 2) := by decide +kernel
theorem dX11_text_34 : decode cX11_text 34 = .ok (.imul, 1) := by decide +kernel
theorem dX11_text_35 : decode cX11_text 35 = .ok (.lushr, 1) := by decide +kernel
theorem dX11_text_36 : decode cX11_text 36 = .ok (.ldc2_w 98, 3) := by decide +kernel
theorem dX11_text_39 : decode cX11_text 39 = .ok (.land, 1) := by decide +kernel
theorem dX11_text_40 : decode cX11_text 40 = .ok (.l2i, 1) := by decide +kernel
theorem dX11_text_41 : decode cX11_text 41 = .ok (.invokevirtual 116, 3) := by decide +kernel
theorem dX11_text_44 : decode cX11_text 44 = .ok (.iinc 6 (-1), 3) := by decide +kernel
theorem dX11_text_47 : decode cX11_text 47 = .ok (.goto (-26), 3) := by decide +kernel
theorem dX11_text_50 : decode cX11_text 50 = .ok (.return_, 1) := by decide +kernel
theorem dX11_field_0 : decode cX11_field 0 = .ok (.aload_n 0, 1) := by decide +kernel
theorem dX11_field_1 : decode cX11_field 1 = .ok (.getfield 124, 3) := by decide +kernel
theorem dX11_field_4 : decode cX11_field 4 = .ok (.bipush 12, 2) := by decide +kernel
theorem dX11_field_6 : decode cX11_field 6 = .ok (.if_icmp .eq 23, 3) := by decide +kernel
theorem dX11_field_9 : decode cX11_field 9 = .ok (.lload_n 1, 1) := by decide +kernel
theorem dX11_field_10 : decode cX11_field 10 = .ok (.lconst 0, 1) := by decide +kernel
theorem dX11_field_11 : decode cX11_field 11 = .ok (.lcmp, 1) := by decide +kernel
theorem dX11_field_12 : decode cX11_field 12 = .ok (.ifCond .eq 17, 3) := by decide +kernel
theorem dX11_field_15 : decode cX11_field 15 = .ok (.lload_n 1, 1) := by decide +kernel
theorem dX11_field_16 : decode cX11_field 16 = .ok (.invokestatic 127, 3) := by decide +kernel
theorem dX11_field_19 : decode cX11_field 19 = .ok (.ifCond .eq 10, 3) := by decide +kernel
theorem dX11_field_22 : decode cX11_field 22 = .ok (.lload_n 3, 1) := by decide +kernel
theorem dX11_field_23 : decode cX11_field 23 = .ok (.invokestatic 127, 3) := by decide +kernel
theorem dX11_field_26 : decode cX11_field 26 = .ok (.ifCond .ne 5, 3) := by decide +kernel
theorem dX11_field_29 : decode cX11_field 29 = .ok (.iconst (-1), 1) := by decide +kernel
theorem dX11_field_30 : decode cX11_field 30 = .ok (.ireturn, 1) := by decide +kernel
theorem dX11_field_31 : decode cX11_field 31 = .ok (.aload_n 0, 1) := by decide +kernel
theorem dX11_field_32 : decode cX11_field 32 = .ok (.getfield 7, 3) := by decide +kernel
theorem dX11_field_35 : decode cX11_field 35 = .ok (.aload_n 0, 1) := by decide +kernel
theorem dX11_field_36 : decode cX11_field 36 = .ok (.getfield 124, 3) := by decide +kernel
theorem dX11_field_39 : decode cX11_field 39 = .ok (.lload_n 1, 1) := by decide +kernel
theorem dX11_field_40 : decode cX11_field 40 = .ok (.lastore, 1) := by decide +kernel
theorem dX11_field_41 : decode cX11_field 41 = .ok (.aload_n 0, 1) := by decide +kernel
theorem dX11_field_42 : decode cX11_field 42 = .ok (.getfield 13, 3) := by decide +kernel
theorem dX11_field_45 : decode cX11_field 45 = .ok (.aload_n 0, 1) := by decide +kernel
theorem dX11_field_46 : decode cX11_field 46 = .ok (.getfield 124, 3) := by decide +kernel
theorem dX11_field_49 : decode cX11_field 49 = .ok (.lload_n 3, 1) := by decide +kernel
theorem dX11_field_50 : decode cX11_field 50 = .ok (.lastore, 1) := by decide +kernel
theorem dX11_field_51 : decode cX11_field 51 = .ok (.aload_n 0, 1) := by decide +kernel
theorem dX11_field_52 : decode cX11_field 52 = .ok (.getfield 16, 3) := by decide +kernel
theorem dX11_field_55 : decode cX11_field 55 = .ok (.aload_n 0, 1) := by decide +kernel
theorem dX11_field_56 : decode cX11_field 56 = .ok (.getfield 124, 3) := by decide +kernel
theorem dX11_field_59 : decode cX11_field 59 = .ok (.iload 5, 2) := by decide +kernel
theorem dX11_field_61 : decode cX11_field 61 = .ok (.bastore, 1) := by decide +kernel
theorem dX11_field_62 : decode cX11_field 62 = .ok (.aload_n 0, 1) := by decide +kernel
theorem dX11_field_63 : decode cX11_field 63 = .ok (.dup, 1) := by decide +kernel
theorem dX11_field_64 : decode cX11_field 64 = .ok (.getfield 124, 3) := by decide +kernel
theorem dX11_field_67 : decode cX11_field 67 = .ok (.iconst 1, 1) := by decide +kernel
theorem dX11_field_68 : decode cX11_field 68 = .ok (.iadd, 1) := by decide +kernel
theorem dX11_field_69 : decode cX11_field 69 = .ok (.putfield 124, 3) := by decide +kernel
theorem dX11_field_72 : decode cX11_field 72 = .ok (.aload_n 0, 1) := by decide +kernel
theorem dX11_field_73 : decode cX11_field 73 = .ok (.getfield 124, 3) := by decide +kernel
theorem dX11_field_76 : decode cX11_field 76 = .ok (.ireturn, 1) := by decide +kernel
section RW
variable {G : fp_G} {h0 : fp_H} {m : Nat}
theorem ct_lay {p : rs} {w v : Nat} (hw : w < 4) (hr : p.1 (r_wc w) < (r_kd (r_wa w)).2) : fp_ct G rm_X11_lay M_X11_lay [.ref m, .int (nI w), .int (nI v)] (r_hp h0 m p) (fun r h' => r = none ∧ h' = r_hp h0 m (r_lay p w v)) := by
  refine fp_meth pn_X11 (Nat.le_of_ble_eq_true rfl) rfl ?_
  rcases (show w = 0 ∨ w = 1 ∨ w = 2 ∨ w = 3 by omega) with rfl | rfl | rfl | rfl
  · refine wp_iload_n dX11_lay_0 rfl ?_
    refine wp_if_ne (tgt := 27) dX11_lay_1 rfl (fun c_1 => ?_) (fun c_1 => ?_)
    · exact absurd rfl c_1
    · refine wp_aload_n dX11_lay_4 rfl ?_
      refine wr_geta 14 6 dX11_lay_5 fl_X11_31 ⟨by decide, rfl⟩ ?_
      refine wp_aload_n dX11_lay_8 rfl ?_
      refine wr_geti 13 dX11_lay_9 fl_X11_104 ⟨by decide, rfl⟩ ?_
      refine wp_iload_n dX11_lay_12 rfl ?_
      refine wr_iast dX11_lay_13 ⟨by decide, rfl⟩ rfl hr (by decide) rfl ?_
      refine wp_aload_n dX11_lay_14 rfl ?_
      refine wp_dup dX11_lay_15 rfl ?_
      refine wr_geti 13 dX11_lay_16 fl_X11_104 ⟨by decide, rfl⟩ ?_
      refine wp_iconst (v := 1) dX11_lay_19 rfl ?_
      refine wp_iadd dX11_lay_20 ?_
      refine wr_puti dX11_lay_21 (fs_X11_104 _) ⟨by decide, rfl⟩ (nI_1 _) ?_
      refine wp_goto (tgt := 103) dX11_lay_24 rfl ?_
      refine wp_vret dX11_lay_103 rfl ?_
      exact ⟨rfl, rfl⟩
  · refine wp_iload_n dX11_lay_0 rfl ?_
    refine wp_if_ne (tgt := 27) dX11_lay_1 rfl (fun c_1 => ?_) (fun c_1 => ?_)
    · refine wp_iload_n dX11_lay_27 rfl ?_
      refine wp_iconst (v := 1) dX11_lay_28 rfl ?_
      refine wp_icmp_ne (tgt := 55) dX11_lay_29 rfl (fun c_29 => ?_) (fun c_29 => ?_)
      · exact absurd rfl c_29
      · refine wp_aload_n dX11_lay_32 rfl ?_
        refine wr_geta 17 7 dX11_lay_33 fl_X11_34 ⟨by decide, rfl⟩ ?_
        refine wp_aload_n dX11_lay_36 rfl ?_
        refine wr_geti 16 dX11_lay_37 fl_X11_107 ⟨by decide, rfl⟩ ?_
        refine wp_iload_n dX11_lay_40 rfl ?_
        refine wr_iast dX11_lay_41 ⟨by decide, rfl⟩ rfl hr (by decide) rfl ?_
        refine wp_aload_n dX11_lay_42 rfl ?_
        refine wp_dup dX11_lay_43 rfl ?_
        refine wr_geti 16 dX11_lay_44 fl_X11_107 ⟨by decide, rfl⟩ ?_
        refine wp_iconst (v := 1) dX11_lay_47 rfl ?_
        refine wp_iadd dX11_lay_48 ?_
        refine wr_puti dX11_lay_49 (fs_X11_107 _) ⟨by decide, rfl⟩ (nI_1 _) ?_
        refine wp_goto (tgt := 103) dX11_lay_52 rfl ?_
        refine wp_vret dX11_lay_103 rfl ?_
        exact ⟨rfl, rfl⟩
    · exact absurd c_1 (by decide)
  · refine wp_iload_n dX11_lay_0 rfl ?_
    refine wp_if_ne (tgt := 27) dX11_lay_1 rfl (fun c_1 => ?_) (fun c_1 => ?_)
    · refine wp_iload_n dX11_lay_27 rfl ?_
      refine wp_iconst (v := 1) dX11_lay_28 rfl ?_
      refine wp_icmp_ne (tgt := 55) dX11_lay_29 rfl (fun c_29 => ?_) (fun c_29 => ?_)
      · refine wp_iload_n dX11_lay_55 rfl ?_
        refine wp_iconst (v := 2) dX11_lay_56 rfl ?_
        refine wp_icmp_ne (tgt := 83) dX11_lay_57 rfl (fun c_57 => ?_) (fun c_57 => ?_)
        · exact absurd rfl c_57
        · refine wp_aload_n dX11_lay_60 rfl ?_
          refine wr_geta 45 25 dX11_lay_61 fl_X11_88 ⟨by decide, rfl⟩ ?_
          refine wp_aload_n dX11_lay_64 rfl ?_
          refine wr_geti 44 dX11_lay_65 fl_X11_110 ⟨by decide, rfl⟩ ?_
          refine wp_iload_n dX11_lay_68 rfl ?_
          refine wr_iast dX11_lay_69 ⟨by decide, rfl⟩ rfl hr (by decide) rfl ?_
          refine wp_aload_n dX11_lay_70 rfl ?_
          refine wp_dup dX11_lay_71 rfl ?_
          refine wr_geti 44 dX11_lay_72 fl_X11_110 ⟨by decide, rfl⟩ ?_
          refine wp_iconst (v := 1) dX11_lay_75 rfl ?_
          refine wp_iadd dX11_lay_76 ?_
          refine wr_puti dX11_lay_77 (fs_X11_110 _) ⟨by decide, rfl⟩ (nI_1 _) ?_
          refine wp_goto (tgt := 103) dX11_lay_80 rfl ?_
          refine wp_vret dX11_lay_103 rfl ?_
          exact ⟨rfl, rfl⟩
      · exact absurd c_29 (by decide)
    · exact absurd c_1 (by decide)
  · refine wp_iload_n dX11_lay_0 rfl ?_
    refine wp_if_ne (tgt := 27) dX11_lay_1 rfl (fun c_1 => ?_) (fun c_1 => ?_)
    · refine wp_iload_n dX11_lay_27 rfl ?_
      refine wp_iconst (v := 1) dX11_lay_28 rfl ?_
      refine wp_icmp_ne (tgt := 55) dX11_lay_29 rfl (fun c_29 => ?_) (fun c_29 => ?_)
      · refine wp_iload_n dX11_lay_55 rfl ?_
        refine wp_iconst (v := 2) dX11_lay_56 rfl ?_
        refine wp_icmp_ne (tgt := 83) dX11_lay_57 rfl (fun c_57 => ?_) (fun c_57 => ?_)
        · refine wp_aload_n dX11_lay_83 rfl ?_
          refine wr_geta 42 23 dX11_lay_84 fl_X11_82 ⟨by decide, rfl⟩ ?_
          refine wp_aload_n dX11_lay_87 rfl ?_
          refine wr_geti 41 dX11_lay_88 fl_X11_113 ⟨by decide, rfl⟩ ?_
          refine wp_iload_n dX11_lay_91 rfl ?_
          refine wr_iast dX11_lay_92 ⟨by decide, rfl⟩ rfl hr (by decide) rfl ?_
          refine wp_aload_n dX11_lay_93 rfl ?_
          refine wp_dup dX11_lay_94 rfl ?_
          refine wr_geti 41 dX11_lay_95 fl_X11_113 ⟨by decide, rfl⟩ ?_
          refine wp_iconst (v := 1) dX11_lay_98 rfl ?_
          refine wp_iadd dX11_lay_99 ?_
          refine wr_puti dX11_lay_100 (fs_X11_113 _) ⟨by decide, rfl⟩ (nI_1 _) ?_
          refine wp_vret dX11_lay_103 rfl ?_
          exact ⟨rfl, rfl⟩
        · exact absurd c_57 (by decide)
      · exact absurd c_29 (by decide)
    · exact absurd c_1 (by decide)
theorem ct_number {p : rs} {w F n v : Nat} (hw : w < 4) (hn : n < 9) (hF : ∀ x, x < 2 ^ n → F ||| x = F + x) (hv : v < 2 ^ 30) (hr : p.1 (r_wc w) + (nb F n v).length ≤ (r_kd (r_wa w)).2) : fp_ct G rm_X11_number M_X11_number [.ref m, .int (nI w), .int (nI F), .int (nI n), .int (nI v)] (r_hp h0 m p) (fun r h' => r = none ∧ h' = r_hp h0 m (r_lays p w (nb F n v))) := by
  have h2n : 2 ^ n ≤ 2 ^ 8 := Nat.pow_le_pow_right (by decide) (by omega)
  have h2p : 0 < 2 ^ n := Nat.pow_pos (by decide)
  refine fp_meth pn_X11 (Nat.le_of_ble_eq_true rfl) rfl ?_
  refine wp_iconst (v := 1) dX11_number_0 rfl ?_
  refine wp_iload_n dX11_number_1 rfl ?_
  refine wp_ishl dX11_number_2 ?_
  refine wp_iconst (v := 1) dX11_number_3 rfl ?_
  refine wp_isub dX11_number_4 ?_
  rw [sh1 n hn]
  refine wp_istore dX11_number_5 (Nat.le_of_ble_eq_true rfl) rfl ?_
  refine wp_iload dX11_number_7 rfl ?_
  refine wp_iload dX11_number_9 rfl ?_
  refine wp_icmp_ge (tgt := 24) dX11_number_11 rfl (fun c_11 => ?_) (fun c_11 => ?_)
  · have hge : 2 ^ n - 1 ≤ v := (nI_leI (by omega) (by omega)).mp c_11
    have enb : nb F n v = (F + (2 ^ n - 1)) :: nbt 4 (v - (2 ^ n - 1)) := by rw [nb, if_neg (by omega)]
    rw [enb] at hr ⊢
    refine wp_aload_n dX11_number_24 rfl ?_
    refine wp_iload_n dX11_number_25 rfl ?_
    refine wp_iload_n dX11_number_26 rfl ?_
    refine wp_iload dX11_number_27 rfl ?_
    refine wp_ior dX11_number_29 ?_
    rw [nI_or, hF _ (by omega)]
    refine wp_callV (As := [.int (nI w), .int (nI (F + (2 ^ n - 1)))]) (rest := []) dX11_number_30 me_X11_lay cw_X11_116 rfl ⟨(Nat.le_of_ble_eq_true rfl), (Nat.le_of_ble_eq_true rfl)⟩ rfl rfl rfl (Nat.le_of_ble_eq_true rfl) r_at_m (ct_lay hw (by simp at hr; omega)) (fun r h1 q => ?_)
    obtain ⟨rfl, rfl⟩ := q
    refine wp_iload dX11_number_33 rfl ?_
    refine wp_iload dX11_number_35 rfl ?_
    refine wp_isub dX11_number_37 ?_
    rw [pk_sub hge]
    refine wp_istore dX11_number_38 (Nat.le_of_ble_eq_true rfl) rfl ?_
    have loop : ∀ (f l : Nat) (p : rs), l < 2 ^ (3 + 7 * f) → f ≤ 4 → p.1 (r_wc w) + (nbt f l).length ≤ (r_kd (r_wa w)).2 → fp_wp G rm_X11_number M_X11_number 40 [some (.ref m), some (.int (nI w)), some (.int (nI F)), some (.int (nI n)), some (.int (nI v)), some (.int (nI (2 ^ n - 1))), some (.int (nI l))] [] (r_hp h0 m p) (fun r h' => r = none ∧ h' = r_hp h0 m (r_lays p w (nbt f l))) := by
      intro f
      induction f with
      | zero =>
        intro l p hl hf hr
        have h31 : l < 2 ^ 31 := Nat.lt_of_lt_of_le hl (by decide)
        have hl8 : l < 8 := hl
        refine wp_iload dX11_number_40 rfl ?_
        refine wp_bipush (v := 127) dX11_number_42 rfl ?_
        refine wp_icmp_le (tgt := 71) dX11_number_44 rfl (fun c_44 => ?_) (fun c_44 => ?_)
        · refine wp_aload_n dX11_number_71 rfl ?_
          refine wp_iload_n dX11_number_72 rfl ?_
          refine wp_iload dX11_number_73 rfl ?_
          refine wp_callV (As := [.int (nI w), .int (nI l)]) (rest := []) dX11_number_75 me_X11_lay cw_X11_116 rfl ⟨(Nat.le_of_ble_eq_true rfl), (Nat.le_of_ble_eq_true rfl)⟩ rfl rfl rfl (Nat.le_of_ble_eq_true rfl) r_at_m (ct_lay hw (by simp [nbt] at hr; omega)) (fun r h1 q => ?_)
          obtain ⟨rfl, rfl⟩ := q
          refine wp_vret dX11_number_78 rfl ?_
          exact ⟨rfl, rfl⟩
        · exact absurd (nI_le (a := l) (b := 127) (by omega) (by decide)) c_44
      | succ f ih =>
        intro l p hl hf hr
        have h31 : l < 2 ^ 31 := Nat.lt_of_lt_of_le hl (Nat.pow_le_pow_right (by decide) (by omega))
        refine wp_iload dX11_number_40 rfl ?_
        refine wp_bipush (v := 127) dX11_number_42 rfl ?_
        refine wp_icmp_le (tgt := 71) dX11_number_44 rfl (fun c_44 => ?_) (fun c_44 => ?_)
        · have hle : l ≤ 127 := (nI_leI (b := 127) h31 (by decide)).mp c_44
          rw [nbt, if_pos hle] at hr ⊢
          refine wp_aload_n dX11_number_71 rfl ?_
          refine wp_iload_n dX11_number_72 rfl ?_
          refine wp_iload dX11_number_73 rfl ?_
          refine wp_callV (As := [.int (nI w), .int (nI l)]) (rest := []) dX11_number_75 me_X11_lay cw_X11_116 rfl ⟨(Nat.le_of_ble_eq_true rfl), (Nat.le_of_ble_eq_true rfl)⟩ rfl rfl rfl (Nat.le_of_ble_eq_true rfl) r_at_m (ct_lay hw (by simp at hr; omega)) (fun r h1 q => ?_)
          obtain ⟨rfl, rfl⟩ := q
          refine wp_vret dX11_number_78 rfl ?_
          exact ⟨rfl, rfl⟩
        · have hle : ¬ l ≤ 127 := fun z => c_44 (nI_le z (by decide))
          rw [nbt, if_neg hle] at hr ⊢
          refine wp_aload_n dX11_number_47 rfl ?_
          refine wp_iload_n dX11_number_48 rfl ?_
          refine wp_sipush (v := 128) dX11_number_49 rfl ?_
          refine wp_iload dX11_number_52 rfl ?_
          refine wp_bipush (v := 127) dX11_number_54 rfl ?_
          refine wp_iand dX11_number_56 ?_
          refine wp_ior dX11_number_57 ?_
          rw [and127 h31]
          refine wp_callV (As := [.int (nI w), .int (nI (128 + l % 128))]) (rest := []) dX11_number_58 me_X11_lay cw_X11_116 rfl ⟨(Nat.le_of_ble_eq_true rfl), (Nat.le_of_ble_eq_true rfl)⟩ rfl rfl rfl (Nat.le_of_ble_eq_true rfl) r_at_m (ct_lay hw (by simp at hr; omega)) (fun r h1 q => ?_)
          obtain ⟨rfl, rfl⟩ := q
          refine wp_iload dX11_number_61 rfl ?_
          refine wp_bipush (v := 7) dX11_number_63 rfl ?_
          refine wp_ishr dX11_number_65 ?_
          rw [show nI l >>> ((7 : Int32) &&& 31) = nI (l / 128) from pk_shrN h31 _ 7 (by decide)]
          refine wp_istore dX11_number_66 (Nat.le_of_ble_eq_true rfl) rfl ?_
          refine wp_goto (tgt := 40) dX11_number_68 rfl ?_
          refine ih (l / 128) _ ?_ (by omega) ?_
          · have : 2 ^ (3 + 7 * (f + 1)) = 2 ^ (3 + 7 * f) * 128 := by rw [show 3 + 7 * (f + 1) = (3 + 7 * f) + 7 by omega, Nat.pow_add]
            omega
          · rw [r_lay_c]
            simp at hr
            omega
    refine (loop 4 _ _ (by have : 2 ^ (3 + 7 * 4) = 2147483648 := by decide
                           omega) (by omega) ?_).mono (fun r h' q => ⟨q.1, q.2⟩)
    rw [r_lay_c]
    simp at hr
    omega
  · have hlt : v < 2 ^ n - 1 := by
      rcases Nat.lt_or_ge v (2 ^ n - 1) with q | q
      · exact q
      · exact absurd (nI_le q (by omega)) c_11
    have enb : nb F n v = [F + v] := by rw [nb, if_pos hlt]
    rw [enb] at hr ⊢
    refine wp_aload_n dX11_number_14 rfl ?_
    refine wp_iload_n dX11_number_15 rfl ?_
    refine wp_iload_n dX11_number_16 rfl ?_
    refine wp_iload dX11_number_17 rfl ?_
    refine wp_ior dX11_number_19 ?_
    rw [nI_or, hF _ (by omega)]
    refine wp_callV (As := [.int (nI w), .int (nI (F + v))]) (rest := []) dX11_number_20 me_X11_lay cw_X11_116 rfl ⟨(Nat.le_of_ble_eq_true rfl), (Nat.le_of_ble_eq_true rfl)⟩ rfl rfl rfl (Nat.le_of_ble_eq_true rfl) r_at_m (ct_lay hw (by simp at hr; omega)) (fun r h1 q => ?_)
    obtain ⟨rfl, rfl⟩ := q
    refine wp_vret dX11_number_23 rfl ?_
    exact ⟨rfl, rfl⟩
theorem dec1 (x : Int32) : x + Int32.ofInt (-1) = x - 1 := by
  rw [Int32.sub_eq_add_neg]; rfl
def txd (u i : Nat) : List Nat := (List.range i).reverse.map (bte u)
theorem txd_s (u i : Nat) : txd u (i + 1) = bte u i :: txd u i := by simp [txd, List.range_succ]
theorem txd_len (u i : Nat) : (txd u i).length = i := by simp [txd]
theorem lN_inj {a b : Nat} (ha : a < 2 ^ 64) (hb : b < 2 ^ 64) : lN a = lN b ↔ a = b :=
  ⟨fun e => by have := congrArg (fun x : Int64 => x.toBitVec.toNat) e; rwa [wb_tn ha, wb_tn hb] at this, fun e => by rw [e]⟩
theorem ct_text {p : rs} {w F n u : Nat} (hw : w < 4) (hn : n < 9) (hF : ∀ x, x < 2 ^ n → F ||| x = F + x) (hu : u < 2 ^ 64) (hr : p.1 (r_wc w) + (nb F n (bln u) ++ txb u).length ≤ (r_kd (r_wa w)).2) : fp_ct G rm_X11_text M_X11_text [.ref m, .int (nI w), .int (nI F), .int (nI n), .long (lN u)] (r_hp h0 m p) (fun r h' => r = none ∧ h' = r_hp h0 m (r_lays p w (nb F n (bln u) ++ txb u))) := by
  have hb8 := bln_le u
  have hr1 := hr
  rw [List.length_append, show txb u = txd u (bln u) from rfl, txd_len] at hr1
  refine fp_meth pn_X11 (Nat.le_of_ble_eq_true rfl) rfl ?_
  refine wp_aload_n dX11_text_0 rfl ?_
  refine wp_iload_n dX11_text_1 rfl ?_
  refine wp_iload_n dX11_text_2 rfl ?_
  refine wp_iload_n dX11_text_3 rfl ?_
  refine wp_lload dX11_text_4 rfl ?_
  refine wp_callS (As := [.long (lN u)]) (rest := [.int (nI n), .int (nI F), .int (nI w), .ref m]) dX11_text_6 me_X11_length cw_X11_100 ⟨(Nat.le_of_ble_eq_true rfl), (Nat.le_of_ble_eq_true rfl)⟩ rfl rfl rfl (Nat.le_of_ble_eq_true rfl) (ct_length hu) (fun r h1 q => ?_)
  obtain ⟨rfl, rfl⟩ := q
  refine wp_callV (As := [.int (nI w), .int (nI F), .int (nI n), .int (nI (bln u))]) (rest := []) dX11_text_9 me_X11_number cw_X11_120 rfl ⟨(Nat.le_of_ble_eq_true rfl), (Nat.le_of_ble_eq_true rfl)⟩ rfl rfl rfl (Nat.le_of_ble_eq_true rfl) r_at_m (ct_number hw hn hF (by omega) (by omega)) (fun r h1 q => ?_)
  obtain ⟨rfl, rfl⟩ := q
  refine wp_lload dX11_text_12 rfl ?_
  refine wp_callS (As := [.long (lN u)]) (rest := []) dX11_text_14 me_X11_length cw_X11_100 ⟨(Nat.le_of_ble_eq_true rfl), (Nat.le_of_ble_eq_true rfl)⟩ rfl rfl rfl (Nat.le_of_ble_eq_true rfl) (ct_length hu) (fun r h1 q => ?_)
  obtain ⟨rfl, rfl⟩ := q
  refine wp_iconst (v := 1) dX11_text_17 rfl ?_
  refine wp_isub dX11_text_18 ?_
  refine wp_istore dX11_text_19 (Nat.le_of_ble_eq_true rfl) rfl ?_
  rw [r_lays_app]
  have hc := r_lays_c w (nb F n (bln u)) p
  generalize r_lays p w (nb F n (bln u)) = p1 at hc ⊢
  have loop : ∀ (i : Nat) (p : rs), i ≤ bln u → p.1 (r_wc w) + i ≤ (r_kd (r_wa w)).2 → fp_wp G rm_X11_text M_X11_text 21 [some (.ref m), some (.int (nI w)), some (.int (nI F)), some (.int (nI n)), some (.long (lN u)), none, some (.int (nI i - 1))] [] (r_hp h0 m p) (fun r h' => r = none ∧ h' = r_hp h0 m (r_lays p w (txd u i))) := by
    intro i
    induction i with
    | zero =>
      intro p _ _
      refine wp_iload dX11_text_21 rfl ?_
      refine wp_if_lt (tgt := 50) dX11_text_23 rfl (fun c_23 => ?_) (fun c_23 => ?_)
      · refine wp_vret dX11_text_50 rfl ?_
        exact ⟨rfl, rfl⟩
      · exact absurd (by decide) c_23
    | succ i ih =>
      intro p hi hp
      rw [nI_pred]
      refine wp_iload dX11_text_21 rfl ?_
      refine wp_if_lt (tgt := 50) dX11_text_23 rfl (fun c_23 => ?_) (fun c_23 => ?_)
      · exact absurd c_23 (nI_pos (by omega))
      · refine wp_aload_n dX11_text_26 rfl ?_
        refine wp_iload_n dX11_text_27 rfl ?_
        refine wp_lload dX11_text_28 rfl ?_
        refine wp_bipush (v := 8) dX11_text_30 rfl ?_
        refine wp_iload dX11_text_32 rfl ?_
        refine wp_imul dX11_text_34 ?_
        refine wp_lushr dX11_text_35 ?_
        refine wp_ldc2 dX11_text_36 kc_X11_98 ?_
        refine wp_land dX11_text_39 ?_
        refine wp_l2i dX11_text_40 ?_
        rw [bte_long hu (by omega), lN_i]
        refine wp_callV (As := [.int (nI w), .int (nI (bte u i))]) (rest := []) dX11_text_41 me_X11_lay cw_X11_116 rfl ⟨(Nat.le_of_ble_eq_true rfl), (Nat.le_of_ble_eq_true rfl)⟩ rfl rfl rfl (Nat.le_of_ble_eq_true rfl) r_at_m (ct_lay hw (by omega)) (fun r h1 q => ?_)
        obtain ⟨rfl, rfl⟩ := q
        refine wp_iinc dX11_text_44 rfl rfl ?_
        refine wp_goto (tgt := 21) dX11_text_47 rfl ?_
        rw [dec1, txd_s]
        exact ih _ (by omega) (by rw [r_lay_c]; omega)
  exact loop (bln u) p1 (Nat.le_refl _) (by omega)
/-- field -/
def r_field (p : rs) (u v s : Nat) : rs := r_si (r_sa (r_sl (r_sl p 0 (p.1 2) u) 1 (p.1 2) v) 2 (p.1 2) s) 2 (p.1 2 + 1)
def r_fieldNo (p : rs) (u v : Nat) : Prop := p.1 2 = 12 ∨ u = 0 ∨ whl u = false ∨ whl v = false
theorem b2n_0 {b : Bool} : nI (b2n b) = 0 ↔ b = false := by cases b <;> decide
theorem ct_field {p : rs} {u v s : Nat} (hu : u < 2 ^ 64) (hv : v < 2 ^ 64) (hs : s ≤ 1) (hf : p.1 2 ≤ 12) : fp_ct G rm_X11_field M_X11_field [.ref m, .long (lN u), .long (lN v), .int (nI s)] (r_hp h0 m p) (fun r h' => (r_fieldNo p u v ∧ r = some (.int (-1)) ∧ h' = r_hp h0 m p) ∨ (¬ r_fieldNo p u v ∧ r = some (.int (nI (p.1 2 + 1))) ∧ h' = r_hp h0 m (r_field p u v s))) := by
  refine fp_meth pn_X11 (Nat.le_of_ble_eq_true rfl) rfl ?_
  refine wp_aload_n dX11_field_0 rfl ?_
  refine wr_geti 2 dX11_field_1 fl_X11_124 ⟨by decide, rfl⟩ ?_
  refine wp_bipush (v := 12) dX11_field_4 rfl ?_
  refine wp_icmp_eq (tgt := 29) dX11_field_6 rfl (fun c_6 => ?_) (fun c_6 => ?_)
  · have : p.1 2 = 12 := (nI_eq (b := 12) (by omega) (by decide)).mp c_6
    refine wp_iconst (v := (-1)) dX11_field_29 rfl ?_
    refine wp_iret dX11_field_30 rfl rfl ?_
    exact Or.inl ⟨Or.inl this, rfl, rfl⟩
  · have h12 : p.1 2 ≠ 12 := fun e => c_6 (by rw [e]; rfl)
    refine wp_lload_n dX11_field_9 rfl ?_
    refine wp_lconst (v := 0) dX11_field_10 rfl ?_
    refine wp_lcmp dX11_field_11 ?_
    refine wp_if_eq (tgt := 29) dX11_field_12 rfl (fun c_12 => ?_) (fun c_12 => ?_)
    · rw [cmp0] at c_12
      have : u = 0 := (lN_inj hu (by decide)).mp c_12
      refine wp_iconst (v := (-1)) dX11_field_29 rfl ?_
      refine wp_iret dX11_field_30 rfl rfl ?_
      exact Or.inl ⟨Or.inr (Or.inl this), rfl, rfl⟩
    · rw [cmp0] at c_12
      have hu0 : u ≠ 0 := fun e => c_12 (by rw [e]; rfl)
      refine wp_lload_n dX11_field_15 rfl ?_
      refine wp_callS (As := [.long (lN u)]) (rest := []) dX11_field_16 me_X11_isWhole cw_X11_127 ⟨(Nat.le_of_ble_eq_true rfl), (Nat.le_of_ble_eq_true rfl)⟩ rfl rfl rfl (Nat.le_of_ble_eq_true rfl) (ct_isWhole hu) (fun r h1 q => ?_)
      obtain ⟨rfl, rfl⟩ := q
      refine wp_if_eq (tgt := 29) dX11_field_19 rfl (fun c_19 => ?_) (fun c_19 => ?_)
      · refine wp_iconst (v := (-1)) dX11_field_29 rfl ?_
        refine wp_iret dX11_field_30 rfl rfl ?_
        exact Or.inl ⟨Or.inr (Or.inr (Or.inl (b2n_0.mp c_19))), rfl, rfl⟩
      · refine wp_lload_n dX11_field_22 rfl ?_
        refine wp_callS (As := [.long (lN v)]) (rest := []) dX11_field_23 me_X11_isWhole cw_X11_127 ⟨(Nat.le_of_ble_eq_true rfl), (Nat.le_of_ble_eq_true rfl)⟩ rfl rfl rfl (Nat.le_of_ble_eq_true rfl) (ct_isWhole hv) (fun r h1 q => ?_)
        obtain ⟨rfl, rfl⟩ := q
        refine wp_if_ne (tgt := 31) dX11_field_26 rfl (fun c_26 => ?_) (fun c_26 => ?_)
        · refine wp_aload_n dX11_field_31 rfl ?_
          refine wr_geta 3 0 dX11_field_32 fl_X11_7 ⟨by decide, rfl⟩ ?_
          refine wp_aload_n dX11_field_35 rfl ?_
          refine wr_geti 2 dX11_field_36 fl_X11_124 ⟨by decide, rfl⟩ ?_
          refine wp_lload_n dX11_field_39 rfl ?_
          refine wr_last dX11_field_40 ⟨by decide, rfl⟩ rfl (by show p.1 2 < 12; omega) (by decide) rfl ?_
          refine wp_aload_n dX11_field_41 rfl ?_
          refine wr_geta 4 1 dX11_field_42 fl_X11_13 ⟨by decide, rfl⟩ ?_
          refine wp_aload_n dX11_field_45 rfl ?_
          refine wr_geti 2 dX11_field_46 fl_X11_124 ⟨by decide, rfl⟩ ?_
          refine wp_lload_n dX11_field_49 rfl ?_
          refine wr_last dX11_field_50 ⟨by decide, rfl⟩ rfl (by show p.1 2 < 12; omega) (by decide) rfl ?_
          refine wp_aload_n dX11_field_51 rfl ?_
          refine wr_geta 5 2 dX11_field_52 fl_X11_16 ⟨by decide, rfl⟩ ?_
          refine wp_aload_n dX11_field_55 rfl ?_
          refine wr_geti 2 dX11_field_56 fl_X11_124 ⟨by decide, rfl⟩ ?_
          refine wp_iload dX11_field_59 rfl ?_
          refine wr_zast dX11_field_61 ⟨by decide, rfl⟩ rfl (by show p.1 2 < 12; omega) (by decide) rfl hs ?_
          refine wp_aload_n dX11_field_62 rfl ?_
          refine wp_dup dX11_field_63 rfl ?_
          refine wr_geti 2 dX11_field_64 fl_X11_124 ⟨by decide, rfl⟩ ?_
          refine wp_iconst (v := 1) dX11_field_67 rfl ?_
          refine wp_iadd dX11_field_68 ?_
          refine wr_puti dX11_field_69 (fs_X11_124 _) ⟨by decide, rfl⟩ (nI_1 _) ?_
          refine wp_aload_n dX11_field_72 rfl ?_
          refine wr_geti 2 dX11_field_73 fl_X11_124 ⟨by decide, rfl⟩ ?_
          refine wp_iret dX11_field_76 rfl rfl ?_
          refine Or.inr ⟨?_, rfl, rfl⟩
          rintro (e | e | e | e)
          · exact h12 e
          · exact hu0 e
          · exact c_19 (b2n_0.mpr e)
          · exact c_26 (b2n_0.mpr e)
        · refine wp_iconst (v := (-1)) dX11_field_29 rfl ?_
          refine wp_iret dX11_field_30 rfl rfl ?_
          exact Or.inl ⟨Or.inr (Or.inr (Or.inr (b2n_0.mp c_26))), rfl, rfl⟩
end RW
