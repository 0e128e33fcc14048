/-! the reference: waiting, look, told, entry, sections, decoded -/
/-- bytes on wire x; none when there is none such -/
def r_wait (p : rs) (x : Int32) : Option Nat := if x = nI 0 then some (p.1 13 - p.1 15) else if x = nI 1 then some (p.1 16 - p.1 18) else if 2 ≤ x ∧ x ≤ 9 then (r_next p (x - 2)).map (fun k => p.2.1 22 k) else none
theorem dX11_waiting_0 : decode cX11_waiting 0 = .ok (.iload_n 1, 1) := by decide +kernel
theorem dX11_waiting_1 : decode cX11_waiting 1 = .ok (.ifCond .eq 8, 3) := by decide +kernel
theorem dX11_waiting_4 : decode cX11_waiting 4 = .ok (.iload_n 1, 1) := by decide +kernel
theorem dX11_waiting_5 : decode cX11_waiting 5 = .ok (.iconst 1, 1) := by decide +kernel
theorem dX11_waiting_6 : decode cX11_waiting 6 = .ok (.if_icmp .ne 29, 3) := by decide +kernel
theorem dX11_waiting_9 : decode cX11_waiting 9 = .ok (.iload_n 1, 1) := by decide +kernel
theorem dX11_waiting_10 : decode cX11_waiting 10 = .ok (.ifCond .ne 15, 3) := by decide +kernel
theorem dX11_waiting_13 : decode cX11_waiting 13 = .ok (.aload_n 0, 1) := by decide +kernel
theorem dX11_waiting_14 : decode cX11_waiting 14 = .ok (.getfield 104, 3) := by decide +kernel
theorem dX11_waiting_17 : decode cX11_waiting 17 = .ok (.aload_n 0, 1) := by decide +kernel
theorem dX11_waiting_18 : decode cX11_waiting 18 = .ok (.getfield 196, 3) := by decide +kernel
theorem dX11_waiting_21 : decode cX11_waiting 21 = .ok (.isub, 1) := by decide +kernel
theorem dX11_waiting_22 : decode cX11_waiting 22 = .ok (.goto 12, 3) := by decide +kernel
theorem dX11_waiting_25 : decode cX11_waiting 25 = .ok (.aload_n 0, 1) := by decide +kernel
theorem dX11_waiting_26 : decode cX11_waiting 26 = .ok (.getfield 107, 3) := by decide +kernel
theorem dX11_waiting_29 : decode cX11_waiting 29 = .ok (.aload_n 0, 1) := by decide +kernel
theorem dX11_waiting_30 : decode cX11_waiting 30 = .ok (.getfield 222, 3) := by decide +kernel
theorem dX11_waiting_33 : decode cX11_waiting 33 = .ok (.isub, 1) := by decide +kernel
theorem dX11_waiting_34 : decode cX11_waiting 34 = .ok (.ireturn, 1) := by decide +kernel
theorem dX11_waiting_35 : decode cX11_waiting 35 = .ok (.iload_n 1, 1) := by decide +kernel
theorem dX11_waiting_36 : decode cX11_waiting 36 = .ok (.iconst 2, 1) := by decide +kernel
theorem dX11_waiting_37 : decode cX11_waiting 37 = .ok (.if_icmp .lt 9, 3) := by decide +kernel
theorem dX11_waiting_40 : decode cX11_waiting 40 = .ok (.iload_n 1, 1) := by decide +kernel
theorem dX11_waiting_41 : decode cX11_waiting 41 = .ok (.bipush 9, 2) := by decide +kernel
theorem dX11_waiting_43 : decode cX11_waiting 43 = .ok (.if_icmp .le 7, 3) := by decide +kernel
theorem dX11_waiting_46 : decode cX11_waiting 46 = .ok (.iconst (-1), 1) := by decide +kernel
theorem dX11_waiting_47 : decode cX11_waiting 47 = .ok (.goto 10, 3) := by decide +kernel
theorem dX11_waiting_50 : decode cX11_waiting 50 = .ok (.aload_n 0, 1) := by decide +kernel
theorem dX11_waiting_51 : decode cX11_waiting 51 = .ok (.iload_n 1, 1) := by decide +kernel
theorem dX11_waiting_52 : decode cX11_waiting 52 = .ok (.iconst 2, 1) := by decide +kernel
theorem dX11_waiting_53 : decode cX11_waiting 53 = .ok (.isub, 1) := by decide +kernel
theorem dX11_waiting_54 : decode cX11_waiting 54 = .ok (.invokevirtual 240, 3) := by decide +kernel
theorem dX11_waiting_57 : decode cX11_waiting 57 = .ok (.istore_n 2, 1) := by decide +kernel
theorem dX11_waiting_58 : decode cX11_waiting 58 = .ok (.iload_n 2, 1) := by decide +kernel
theorem dX11_waiting_59 : decode cX11_waiting 59 = .ok (.iconst (-1), 1) := by decide +kernel
theorem dX11_waiting_60 : decode cX11_waiting 60 = .ok (.if_icmp .ne 7, 3) := by decide +kernel
theorem dX11_waiting_63 : decode cX11_waiting 63 = .ok (.iconst (-1), 1) := by decide +kernel
theorem dX11_waiting_64 : decode cX11_waiting 64 = .ok (.goto 9, 3) := by decide +kernel
theorem dX11_waiting_67 : decode cX11_waiting 67 = .ok (.aload_n 0, 1) := by decide +kernel
theorem dX11_waiting_68 : decode cX11_waiting 68 = .ok (.getfield 79, 3) := by decide +kernel
theorem dX11_waiting_71 : decode cX11_waiting 71 = .ok (.iload_n 2, 1) := by decide +kernel
theorem dX11_waiting_72 : decode cX11_waiting 72 = .ok (.iaload, 1) := by decide +kernel
theorem dX11_waiting_73 : decode cX11_waiting 73 = .ok (.ireturn, 1) := by decide +kernel
theorem dX11_look_0 : decode cX11_look 0 = .ok (.aload_n 0, 1) := by decide +kernel
theorem dX11_look_1 : decode cX11_look 1 = .ok (.iload_n 1, 1) := by decide +kernel
theorem dX11_look_2 : decode cX11_look 2 = .ok (.invokevirtual 244, 3) := by decide +kernel
theorem dX11_look_5 : decode cX11_look 5 = .ok (.istore_n 3, 1) := by decide +kernel
theorem dX11_look_6 : decode cX11_look 6 = .ok (.iload_n 2, 1) := by decide +kernel
theorem dX11_look_7 : decode cX11_look 7 = .ok (.ifCond .lt 8, 3) := by decide +kernel
theorem dX11_look_10 : decode cX11_look 10 = .ok (.iload_n 2, 1) := by decide +kernel
theorem dX11_look_11 : decode cX11_look 11 = .ok (.iload_n 3, 1) := by decide +kernel
theorem dX11_look_12 : decode cX11_look 12 = .ok (.if_icmp .lt 5, 3) := by decide +kernel
theorem dX11_look_15 : decode cX11_look 15 = .ok (.iconst (-1), 1) := by decide +kernel
theorem dX11_look_16 : decode cX11_look 16 = .ok (.ireturn, 1) := by decide +kernel
theorem dX11_look_17 : decode cX11_look 17 = .ok (.iload_n 1, 1) := by decide +kernel
theorem dX11_look_18 : decode cX11_look 18 = .ok (.ifCond .ne 17, 3) := by decide +kernel
theorem dX11_look_21 : decode cX11_look 21 = .ok (.aload_n 0, 1) := by decide +kernel
theorem dX11_look_22 : decode cX11_look 22 = .ok (.getfield 31, 3) := by decide +kernel
theorem dX11_look_25 : decode cX11_look 25 = .ok (.aload_n 0, 1) := by decide +kernel
theorem dX11_look_26 : decode cX11_look 26 = .ok (.getfield 196, 3) := by decide +kernel
theorem dX11_look_29 : decode cX11_look 29 = .ok (.iload_n 2, 1) := by decide +kernel
theorem dX11_look_30 : decode cX11_look 30 = .ok (.iadd, 1) := by decide +kernel
theorem dX11_look_31 : decode cX11_look 31 = .ok (.iaload, 1) := by decide +kernel
theorem dX11_look_32 : decode cX11_look 32 = .ok (.goto 41, 3) := by decide +kernel
theorem dX11_look_35 : decode cX11_look 35 = .ok (.iload_n 1, 1) := by decide +kernel
theorem dX11_look_36 : decode cX11_look 36 = .ok (.iconst 1, 1) := by decide +kernel
theorem dX11_look_37 : decode cX11_look 37 = .ok (.if_icmp .ne 17, 3) := by decide +kernel
theorem dX11_look_40 : decode cX11_look 40 = .ok (.aload_n 0, 1) := by decide +kernel
theorem dX11_look_41 : decode cX11_look 41 = .ok (.getfield 34, 3) := by decide +kernel
theorem dX11_look_44 : decode cX11_look 44 = .ok (.aload_n 0, 1) := by decide +kernel
theorem dX11_look_45 : decode cX11_look 45 = .ok (.getfield 222, 3) := by decide +kernel
theorem dX11_look_48 : decode cX11_look 48 = .ok (.iload_n 2, 1) := by decide +kernel
theorem dX11_look_49 : decode cX11_look 49 = .ok (.iadd, 1) := by decide +kernel
theorem dX11_look_50 : decode cX11_look 50 = .ok (.iaload, 1) := by decide +kernel
theorem dX11_look_51 : decode cX11_look 51 = .ok (.goto 22, 3) := by decide +kernel
theorem dX11_look_54 : decode cX11_look 54 = .ok (.aload_n 0, 1) := by decide +kernel
theorem dX11_look_55 : decode cX11_look 55 = .ok (.getfield 82, 3) := by decide +kernel
theorem dX11_look_58 : decode cX11_look 58 = .ok (.aload_n 0, 1) := by decide +kernel
theorem dX11_look_59 : decode cX11_look 59 = .ok (.getfield 76, 3) := by decide +kernel
theorem dX11_look_62 : decode cX11_look 62 = .ok (.aload_n 0, 1) := by decide +kernel
theorem dX11_look_63 : decode cX11_look 63 = .ok (.iload_n 1, 1) := by decide +kernel
theorem dX11_look_64 : decode cX11_look 64 = .ok (.iconst 2, 1) := by decide +kernel
theorem dX11_look_65 : decode cX11_look 65 = .ok (.isub, 1) := by decide +kernel
theorem dX11_look_66 : decode cX11_look 66 = .ok (.invokevirtual 240, 3) := by decide +kernel
theorem dX11_look_69 : decode cX11_look 69 = .ok (.iaload, 1) := by decide +kernel
theorem dX11_look_70 : decode cX11_look 70 = .ok (.iload_n 2, 1) := by decide +kernel
theorem dX11_look_71 : decode cX11_look 71 = .ok (.iadd, 1) := by decide +kernel
theorem dX11_look_72 : decode cX11_look 72 = .ok (.iaload, 1) := by decide +kernel
theorem dX11_look_73 : decode cX11_look 73 = .ok (.ireturn, 1) := by decide +kernel
theorem dX11_told_0 : decode cX11_told 0 = .ok (.iload_n 1, 1) := by decide +kernel
theorem dX11_told_1 : decode cX11_told 1 = .ok (.ifCond .lt 8, 3) := by decide +kernel
theorem dX11_told_4 : decode cX11_told 4 = .ok (.iload_n 1, 1) := by decide +kernel
theorem dX11_told_5 : decode cX11_told 5 = .ok (.iconst 1, 1) := by decide +kernel
theorem dX11_told_6 : decode cX11_told 6 = .ok (.if_icmp .le 5, 3) := by decide +kernel
theorem dX11_told_9 : decode cX11_told 9 = .ok (.iconst (-1), 1) := by decide +kernel
theorem dX11_told_10 : decode cX11_told 10 = .ok (.ireturn, 1) := by decide +kernel
theorem dX11_told_11 : decode cX11_told 11 = .ok (.iload_n 2, 1) := by decide +kernel
theorem dX11_told_12 : decode cX11_told 12 = .ok (.tableswitch 153 0 5 #[40, 56, 82, 98, 98, 140], 40) := by decide +kernel
theorem dX11_told_52 : decode cX11_told 52 = .ok (.iload_n 1, 1) := by decide +kernel
theorem dX11_told_53 : decode cX11_told 53 = .ok (.ifCond .ne 10, 3) := by decide +kernel
theorem dX11_told_56 : decode cX11_told 56 = .ok (.aload_n 0, 1) := by decide +kernel
theorem dX11_told_57 : decode cX11_told 57 = .ok (.getfield 137, 3) := by decide +kernel
theorem dX11_told_60 : decode cX11_told 60 = .ok (.goto 7, 3) := by decide +kernel
theorem dX11_told_63 : decode cX11_told 63 = .ok (.aload_n 0, 1) := by decide +kernel
theorem dX11_told_64 : decode cX11_told 64 = .ok (.getfield 216, 3) := by decide +kernel
theorem dX11_told_67 : decode cX11_told 67 = .ok (.ireturn, 1) := by decide +kernel
theorem dX11_told_68 : decode cX11_told 68 = .ok (.iload_n 1, 1) := by decide +kernel
theorem dX11_told_69 : decode cX11_told 69 = .ok (.ifCond .ne 15, 3) := by decide +kernel
theorem dX11_told_72 : decode cX11_told 72 = .ok (.aload_n 0, 1) := by decide +kernel
theorem dX11_told_73 : decode cX11_told 73 = .ok (.getfield 137, 3) := by decide +kernel
theorem dX11_told_76 : decode cX11_told 76 = .ok (.aload_n 0, 1) := by decide +kernel
theorem dX11_told_77 : decode cX11_told 77 = .ok (.getfield 140, 3) := by decide +kernel
theorem dX11_told_80 : decode cX11_told 80 = .ok (.isub, 1) := by decide +kernel
theorem dX11_told_81 : decode cX11_told 81 = .ok (.goto 12, 3) := by decide +kernel
theorem dX11_told_84 : decode cX11_told 84 = .ok (.aload_n 0, 1) := by decide +kernel
theorem dX11_told_85 : decode cX11_told 85 = .ok (.getfield 216, 3) := by decide +kernel
theorem dX11_told_88 : decode cX11_told 88 = .ok (.aload_n 0, 1) := by decide +kernel
theorem dX11_told_89 : decode cX11_told 89 = .ok (.getfield 234, 3) := by decide +kernel
theorem dX11_told_92 : decode cX11_told 92 = .ok (.isub, 1) := by decide +kernel
theorem dX11_told_93 : decode cX11_told 93 = .ok (.ireturn, 1) := by decide +kernel
theorem dX11_told_94 : decode cX11_told 94 = .ok (.iload_n 1, 1) := by decide +kernel
theorem dX11_told_95 : decode cX11_told 95 = .ok (.ifCond .ne 10, 3) := by decide +kernel
theorem dX11_told_98 : decode cX11_told 98 = .ok (.aload_n 0, 1) := by decide +kernel
theorem dX11_told_99 : decode cX11_told 99 = .ok (.getfield 153, 3) := by decide +kernel
theorem dX11_told_102 : decode cX11_told 102 = .ok (.goto 7, 3) := by decide +kernel
theorem dX11_told_105 : decode cX11_told 105 = .ok (.aload_n 0, 1) := by decide +kernel
theorem dX11_told_106 : decode cX11_told 106 = .ok (.getfield 231, 3) := by decide +kernel
theorem dX11_told_109 : decode cX11_told 109 = .ok (.ireturn, 1) := by decide +kernel
theorem dX11_told_110 : decode cX11_told 110 = .ok (.iload_n 1, 1) := by decide +kernel
theorem dX11_told_111 : decode cX11_told 111 = .ok (.ifCond .ne 22, 3) := by decide +kernel
theorem dX11_told_114 : decode cX11_told 114 = .ok (.iload_n 2, 1) := by decide +kernel
theorem dX11_told_115 : decode cX11_told 115 = .ok (.iconst 3, 1) := by decide +kernel
theorem dX11_told_116 : decode cX11_told 116 = .ok (.if_icmp .ne 10, 3) := by decide +kernel
theorem dX11_told_119 : decode cX11_told 119 = .ok (.aload_n 0, 1) := by decide +kernel
theorem dX11_told_120 : decode cX11_told 120 = .ok (.getfield 146, 3) := by decide +kernel
theorem dX11_told_123 : decode cX11_told 123 = .ok (.goto 28, 3) := by decide +kernel
theorem dX11_told_126 : decode cX11_told 126 = .ok (.aload_n 0, 1) := by decide +kernel
theorem dX11_told_127 : decode cX11_told 127 = .ok (.invokevirtual 247, 3) := by decide +kernel
theorem dX11_told_130 : decode cX11_told 130 = .ok (.goto 21, 3) := by decide +kernel
theorem dX11_told_133 : decode cX11_told 133 = .ok (.iload_n 2, 1) := by decide +kernel
theorem dX11_told_134 : decode cX11_told 134 = .ok (.iconst 3, 1) := by decide +kernel
theorem dX11_told_135 : decode cX11_told 135 = .ok (.if_icmp .ne 11, 3) := by decide +kernel
theorem dX11_told_138 : decode cX11_told 138 = .ok (.aload_n 0, 1) := by decide +kernel
theorem dX11_told_139 : decode cX11_told 139 = .ok (.iconst 0, 1) := by decide +kernel
theorem dX11_told_140 : decode cX11_told 140 = .ok (.invokevirtual 250, 3) := by decide +kernel
theorem dX11_told_143 : decode cX11_told 143 = .ok (.goto 8, 3) := by decide +kernel
theorem dX11_told_146 : decode cX11_told 146 = .ok (.aload_n 0, 1) := by decide +kernel
theorem dX11_told_147 : decode cX11_told 147 = .ok (.iconst 1, 1) := by decide +kernel
theorem dX11_told_148 : decode cX11_told 148 = .ok (.invokevirtual 250, 3) := by decide +kernel
theorem dX11_told_151 : decode cX11_told 151 = .ok (.ireturn, 1) := by decide +kernel
theorem dX11_told_152 : decode cX11_told 152 = .ok (.iload_n 1, 1) := by decide +kernel
theorem dX11_told_153 : decode cX11_told 153 = .ok (.ifCond .ne 10, 3) := by decide +kernel
theorem dX11_told_156 : decode cX11_told 156 = .ok (.aload_n 0, 1) := by decide +kernel
theorem dX11_told_157 : decode cX11_told 157 = .ok (.invokevirtual 199, 3) := by decide +kernel
theorem dX11_told_160 : decode cX11_told 160 = .ok (.goto 4, 3) := by decide +kernel
theorem dX11_told_163 : decode cX11_told 163 = .ok (.iconst (-1), 1) := by decide +kernel
theorem dX11_told_164 : decode cX11_told 164 = .ok (.ireturn, 1) := by decide +kernel
theorem dX11_told_165 : decode cX11_told 165 = .ok (.iconst (-1), 1) := by decide +kernel
theorem dX11_told_166 : decode cX11_told 166 = .ok (.ireturn, 1) := by decide +kernel
theorem dX11_entry_0 : decode cX11_entry 0 = .ok (.iload_n 1, 1) := by decide +kernel
theorem dX11_entry_1 : decode cX11_entry 1 = .ok (.ifCond .ne 27, 3) := by decide +kernel
theorem dX11_entry_4 : decode cX11_entry 4 = .ok (.iload_n 2, 1) := by decide +kernel
theorem dX11_entry_5 : decode cX11_entry 5 = .ok (.aload_n 0, 1) := by decide +kernel
theorem dX11_entry_6 : decode cX11_entry 6 = .ok (.getfield 140, 3) := by decide +kernel
theorem dX11_entry_9 : decode cX11_entry 9 = .ok (.if_icmp .lt 15, 3) := by decide +kernel
theorem dX11_entry_12 : decode cX11_entry 12 = .ok (.iload_n 2, 1) := by decide +kernel
theorem dX11_entry_13 : decode cX11_entry 13 = .ok (.aload_n 0, 1) := by decide +kernel
theorem dX11_entry_14 : decode cX11_entry 14 = .ok (.getfield 137, 3) := by decide +kernel
theorem dX11_entry_17 : decode cX11_entry 17 = .ok (.if_icmp .ge 7, 3) := by decide +kernel
theorem dX11_entry_20 : decode cX11_entry 20 = .ok (.iconst 1, 1) := by decide +kernel
theorem dX11_entry_21 : decode cX11_entry 21 = .ok (.goto 33, 3) := by decide +kernel
theorem dX11_entry_24 : decode cX11_entry 24 = .ok (.iconst 0, 1) := by decide +kernel
theorem dX11_entry_25 : decode cX11_entry 25 = .ok (.goto 29, 3) := by decide +kernel
theorem dX11_entry_28 : decode cX11_entry 28 = .ok (.iload_n 1, 1) := by decide +kernel
theorem dX11_entry_29 : decode cX11_entry 29 = .ok (.iconst 1, 1) := by decide +kernel
theorem dX11_entry_30 : decode cX11_entry 30 = .ok (.if_icmp .ne 23, 3) := by decide +kernel
theorem dX11_entry_33 : decode cX11_entry 33 = .ok (.iload_n 2, 1) := by decide +kernel
theorem dX11_entry_34 : decode cX11_entry 34 = .ok (.aload_n 0, 1) := by decide +kernel
theorem dX11_entry_35 : decode cX11_entry 35 = .ok (.getfield 234, 3) := by decide +kernel
theorem dX11_entry_38 : decode cX11_entry 38 = .ok (.if_icmp .lt 15, 3) := by decide +kernel
theorem dX11_entry_41 : decode cX11_entry 41 = .ok (.iload_n 2, 1) := by decide +kernel
theorem dX11_entry_42 : decode cX11_entry 42 = .ok (.aload_n 0, 1) := by decide +kernel
theorem dX11_entry_43 : decode cX11_entry 43 = .ok (.getfield 216, 3) := by decide +kernel
theorem dX11_entry_46 : decode cX11_entry 46 = .ok (.if_icmp .ge 7, 3) := by decide +kernel
theorem dX11_entry_49 : decode cX11_entry 49 = .ok (.iconst 1, 1) := by decide +kernel
theorem dX11_entry_50 : decode cX11_entry 50 = .ok (.goto 4, 3) := by decide +kernel
theorem dX11_entry_53 : decode cX11_entry 53 = .ok (.iconst 0, 1) := by decide +kernel
theorem dX11_entry_54 : decode cX11_entry 54 = .ok (.istore 4, 2) := by decide +kernel
theorem dX11_entry_56 : decode cX11_entry 56 = .ok (.iload 4, 2) := by decide +kernel
theorem dX11_entry_58 : decode cX11_entry 58 = .ok (.ifCond .eq 12, 3) := by decide +kernel
theorem dX11_entry_61 : decode cX11_entry 61 = .ok (.iload_n 3, 1) := by decide +kernel
theorem dX11_entry_62 : decode cX11_entry 62 = .ok (.ifCond .lt 8, 3) := by decide +kernel
theorem dX11_entry_65 : decode cX11_entry 65 = .ok (.iload_n 3, 1) := by decide +kernel
theorem dX11_entry_66 : decode cX11_entry 66 = .ok (.iconst 1, 1) := by decide +kernel
theorem dX11_entry_67 : decode cX11_entry 67 = .ok (.if_icmp .le 9, 3) := by decide +kernel
theorem dX11_entry_70 : decode cX11_entry 70 = .ok (.ldc2_w 254, 3) := by decide +kernel
theorem dX11_entry_73 : decode cX11_entry 73 = .ok (.goto 22, 3) := by decide +kernel
theorem dX11_entry_76 : decode cX11_entry 76 = .ok (.iload_n 3, 1) := by decide +kernel
theorem dX11_entry_77 : decode cX11_entry 77 = .ok (.ifCond .ne 12, 3) := by decide +kernel
theorem dX11_entry_80 : decode cX11_entry 80 = .ok (.aload_n 0, 1) := by decide +kernel
theorem dX11_entry_81 : decode cX11_entry 81 = .ok (.getfield 20, 3) := by decide +kernel
theorem dX11_entry_84 : decode cX11_entry 84 = .ok (.iload_n 2, 1) := by decide +kernel
theorem dX11_entry_85 : decode cX11_entry 85 = .ok (.laload, 1) := by decide +kernel
theorem dX11_entry_86 : decode cX11_entry 86 = .ok (.goto 9, 3) := by decide +kernel
theorem dX11_entry_89 : decode cX11_entry 89 = .ok (.aload_n 0, 1) := by decide +kernel
theorem dX11_entry_90 : decode cX11_entry 90 = .ok (.getfield 23, 3) := by decide +kernel
theorem dX11_entry_93 : decode cX11_entry 93 = .ok (.iload_n 2, 1) := by decide +kernel
theorem dX11_entry_94 : decode cX11_entry 94 = .ok (.laload, 1) := by decide +kernel
theorem dX11_entry_95 : decode cX11_entry 95 = .ok (.lreturn, 1) := by decide +kernel
theorem dX11_sections_0 : decode cX11_sections 0 = .ok (.iload_n 1, 1) := by decide +kernel
theorem dX11_sections_1 : decode cX11_sections 1 = .ok (.ifCond .lt 9, 3) := by decide +kernel
theorem dX11_sections_4 : decode cX11_sections 4 = .ok (.iload_n 1, 1) := by decide +kernel
theorem dX11_sections_5 : decode cX11_sections 5 = .ok (.bipush 8, 2) := by decide +kernel
theorem dX11_sections_7 : decode cX11_sections 7 = .ok (.if_icmp .lt 7, 3) := by decide +kernel
theorem dX11_sections_10 : decode cX11_sections 10 = .ok (.iconst (-1), 1) := by decide +kernel
theorem dX11_sections_11 : decode cX11_sections 11 = .ok (.goto 9, 3) := by decide +kernel
theorem dX11_sections_14 : decode cX11_sections 14 = .ok (.aload_n 0, 1) := by decide +kernel
theorem dX11_sections_15 : decode cX11_sections 15 = .ok (.iload_n 1, 1) := by decide +kernel
theorem dX11_sections_16 : decode cX11_sections 16 = .ok (.iconst 2, 1) := by decide +kernel
theorem dX11_sections_17 : decode cX11_sections 17 = .ok (.invokevirtual 192, 3) := by decide +kernel
theorem dX11_sections_20 : decode cX11_sections 20 = .ok (.ireturn, 1) := by decide +kernel
theorem dX11_decoded_0 : decode cX11_decoded 0 = .ok (.iload_n 2, 1) := by decide +kernel
theorem dX11_decoded_1 : decode cX11_decoded 1 = .ok (.istore 5, 2) := by decide +kernel
theorem dX11_decoded_3 : decode cX11_decoded 3 = .ok (.iconst 0, 1) := by decide +kernel
theorem dX11_decoded_4 : decode cX11_decoded 4 = .ok (.istore 6, 2) := by decide +kernel
theorem dX11_decoded_6 : decode cX11_decoded 6 = .ok (.iload 6, 2) := by decide +kernel
theorem dX11_decoded_8 : decode cX11_decoded 8 = .ok (.aload_n 0, 1) := by decide +kernel
theorem dX11_decoded_9 : decode cX11_decoded 9 = .ok (.getfield 143, 3) := by decide +kernel
theorem dX11_decoded_12 : decode cX11_decoded 12 = .ok (.if_icmp .ge 131, 3) := by decide +kernel
theorem dX11_decoded_15 : decode cX11_decoded 15 = .ok (.iload_n 2, 1) := by decide +kernel
theorem dX11_decoded_16 : decode cX11_decoded 16 = .ok (.ifCond .lt 127, 3) := by decide +kernel
theorem dX11_decoded_19 : decode cX11_decoded 19 = .ok (.aload_n 0, 1) := by decide +kernel
theorem dX11_decoded_20 : decode cX11_decoded 20 = .ok (.getfield 46, 3) := by decide +kernel
theorem dX11_decoded_23 : decode cX11_decoded 23 = .ok (.iload 6, 2) := by decide +kernel
theorem dX11_decoded_25 : decode cX11_decoded 25 = .ok (.iaload, 1) := by decide +kernel
theorem dX11_decoded_26 : decode cX11_decoded 26 = .ok (.iload_n 1, 1) := by decide +kernel
theorem dX11_decoded_27 : decode cX11_decoded 27 = .ok (.if_icmp .ne 110, 3) := by decide +kernel
theorem dX11_decoded_30 : decode cX11_decoded 30 = .ok (.aload_n 0, 1) := by decide +kernel
theorem dX11_decoded_31 : decode cX11_decoded 31 = .ok (.getfield 55, 3) := by decide +kernel
theorem dX11_decoded_34 : decode cX11_decoded 34 = .ok (.iload 6, 2) := by decide +kernel
theorem dX11_decoded_36 : decode cX11_decoded 36 = .ok (.iaload, 1) := by decide +kernel
theorem dX11_decoded_37 : decode cX11_decoded 37 = .ok (.iconst 2, 1) := by decide +kernel
theorem dX11_decoded_38 : decode cX11_decoded 38 = .ok (.if_icmp .ne 99, 3) := by decide +kernel
theorem dX11_decoded_41 : decode cX11_decoded 41 = .ok (.iload 5, 2) := by decide +kernel
theorem dX11_decoded_43 : decode cX11_decoded 43 = .ok (.ifCond .ne 91, 3) := by decide +kernel
theorem dX11_decoded_46 : decode cX11_decoded 46 = .ok (.bipush 12, 2) := by decide +kernel
theorem dX11_decoded_48 : decode cX11_decoded 48 = .ok (.iload 6, 2) := by decide +kernel
theorem dX11_decoded_50 : decode cX11_decoded 50 = .ok (.imul, 1) := by decide +kernel
theorem dX11_decoded_51 : decode cX11_decoded 51 = .ok (.iload_n 3, 1) := by decide +kernel
theorem dX11_decoded_52 : decode cX11_decoded 52 = .ok (.iadd, 1) := by decide +kernel
theorem dX11_decoded_53 : decode cX11_decoded 53 = .ok (.istore 7, 2) := by decide +kernel
theorem dX11_decoded_55 : decode cX11_decoded 55 = .ok (.iload_n 3, 1) := by decide +kernel
theorem dX11_decoded_56 : decode cX11_decoded 56 = .ok (.ifCond .lt 25, 3) := by decide +kernel
theorem dX11_decoded_59 : decode cX11_decoded 59 = .ok (.iload_n 3, 1) := by decide +kernel
theorem dX11_decoded_60 : decode cX11_decoded 60 = .ok (.aload_n 0, 1) := by decide +kernel
theorem dX11_decoded_61 : decode cX11_decoded 61 = .ok (.getfield 58, 3) := by decide +kernel
theorem dX11_decoded_64 : decode cX11_decoded 64 = .ok (.iload 6, 2) := by decide +kernel
theorem dX11_decoded_66 : decode cX11_decoded 66 = .ok (.iaload, 1) := by decide +kernel
theorem dX11_decoded_67 : decode cX11_decoded 67 = .ok (.if_icmp .ge 14, 3) := by decide +kernel
theorem dX11_decoded_70 : decode cX11_decoded 70 = .ok (.iload 4, 2) := by decide +kernel
theorem dX11_decoded_72 : decode cX11_decoded 72 = .ok (.ifCond .lt 9, 3) := by decide +kernel
theorem dX11_decoded_75 : decode cX11_decoded 75 = .ok (.iload 4, 2) := by decide +kernel
theorem dX11_decoded_77 : decode cX11_decoded 77 = .ok (.iconst 2, 1) := by decide +kernel
theorem dX11_decoded_78 : decode cX11_decoded 78 = .ok (.if_icmp .le 9, 3) := by decide +kernel
theorem dX11_decoded_81 : decode cX11_decoded 81 = .ok (.ldc2_w 254, 3) := by decide +kernel
theorem dX11_decoded_84 : decode cX11_decoded 84 = .ok (.goto 49, 3) := by decide +kernel
theorem dX11_decoded_87 : decode cX11_decoded 87 = .ok (.iload 4, 2) := by decide +kernel
theorem dX11_decoded_89 : decode cX11_decoded 89 = .ok (.ifCond .ne 13, 3) := by decide +kernel
theorem dX11_decoded_92 : decode cX11_decoded 92 = .ok (.aload_n 0, 1) := by decide +kernel
theorem dX11_decoded_93 : decode cX11_decoded 93 = .ok (.getfield 61, 3) := by decide +kernel
theorem dX11_decoded_96 : decode cX11_decoded 96 = .ok (.iload 7, 2) := by decide +kernel
theorem dX11_decoded_98 : decode cX11_decoded 98 = .ok (.laload, 1) := by decide +kernel
theorem dX11_decoded_99 : decode cX11_decoded 99 = .ok (.goto 34, 3) := by decide +kernel
theorem dX11_decoded_102 : decode cX11_decoded 102 = .ok (.iload 4, 2) := by decide +kernel
theorem dX11_decoded_104 : decode cX11_decoded 104 = .ok (.iconst 1, 1) := by decide +kernel
theorem dX11_decoded_105 : decode cX11_decoded 105 = .ok (.if_icmp .ne 13, 3) := by decide +kernel
theorem dX11_decoded_108 : decode cX11_decoded 108 = .ok (.aload_n 0, 1) := by decide +kernel
theorem dX11_decoded_109 : decode cX11_decoded 109 = .ok (.getfield 64, 3) := by decide +kernel
theorem dX11_decoded_112 : decode cX11_decoded 112 = .ok (.iload 7, 2) := by decide +kernel
theorem dX11_decoded_114 : decode cX11_decoded 114 = .ok (.laload, 1) := by decide +kernel
theorem dX11_decoded_115 : decode cX11_decoded 115 = .ok (.goto 18, 3) := by decide +kernel
theorem dX11_decoded_118 : decode cX11_decoded 118 = .ok (.aload_n 0, 1) := by decide +kernel
theorem dX11_decoded_119 : decode cX11_decoded 119 = .ok (.getfield 67, 3) := by decide +kernel
theorem dX11_decoded_122 : decode cX11_decoded 122 = .ok (.iload 7, 2) := by decide +kernel
theorem dX11_decoded_124 : decode cX11_decoded 124 = .ok (.baload, 1) := by decide +kernel
theorem dX11_decoded_125 : decode cX11_decoded 125 = .ok (.ifCond .eq 7, 3) := by decide +kernel
theorem dX11_decoded_128 : decode cX11_decoded 128 = .ok (.lconst 1, 1) := by decide +kernel
theorem dX11_decoded_129 : decode cX11_decoded 129 = .ok (.goto 4, 3) := by decide +kernel
theorem dX11_decoded_132 : decode cX11_decoded 132 = .ok (.lconst 0, 1) := by decide +kernel
theorem dX11_decoded_133 : decode cX11_decoded 133 = .ok (.lreturn, 1) := by decide +kernel
theorem dX11_decoded_134 : decode cX11_decoded 134 = .ok (.iinc 5 (-1), 3) := by decide +kernel
theorem dX11_decoded_137 : decode cX11_decoded 137 = .ok (.iinc 6 1, 3) := by decide +kernel
theorem dX11_decoded_140 : decode cX11_decoded 140 = .ok (.goto (-134), 3) := by decide +kernel
theorem dX11_decoded_143 : decode cX11_decoded 143 = .ok (.ldc2_w 254, 3) := by decide +kernel
theorem dX11_decoded_146 : decode cX11_decoded 146 = .ok (.lreturn, 1) := by decide +kernel
section RR
variable {G : fp_G} {h0 : fp_H} {m : Nat}
theorem ct_waiting {p : rs} {x : Int32} (ok : rok p) (hc : p.1 28 ≤ 200) (hcs : p.1 15 ≤ p.1 13) (hht : p.1 18 ≤ p.1 16) : fp_ct G rm_X11_waiting M_X11_waiting [.ref m, .int x] (r_hp h0 m p) (fun r h' => h' = r_hp h0 m p ∧ r = some (.int (oI (r_wait p x)))) := by
  refine fp_meth pn_X11 (Nat.le_of_ble_eq_true rfl) rfl ?_
  refine wp_eqL (L' := [some (.ref m), some (.int x), none]) rfl ?_
  by_cases hx0 : x = nI 0
  · subst hx0
    refine wp_iload_n dX11_waiting_0 rfl ?_
    refine wp_if_eq (tgt := 9) dX11_waiting_1 rfl (fun c_1 => ?_) (fun c_1 => ?_)
    · refine wp_iload_n dX11_waiting_9 rfl ?_
      refine wp_if_ne (tgt := 25) dX11_waiting_10 rfl (fun c_10 => ?_) (fun c_10 => ?_)
      · exact absurd rfl c_10
      · refine wp_aload_n dX11_waiting_13 rfl ?_
        refine wr_geti 13 dX11_waiting_14 fl_X11_104 ⟨by decide, rfl⟩ ?_
        refine wp_aload_n dX11_waiting_17 rfl ?_
        refine wr_geti 15 dX11_waiting_18 fl_X11_196 ⟨by decide, rfl⟩ ?_
        refine wp_isub dX11_waiting_21 ?_
        rw [pk_sub hcs]
        refine wp_goto (tgt := 34) dX11_waiting_22 rfl ?_
        refine wp_iret dX11_waiting_34 rfl rfl ?_
        exact ⟨rfl, by rw [r_wait, if_pos rfl]; rfl⟩
    · exact absurd rfl c_1
  · by_cases hx1 : x = nI 1
    · subst hx1
      refine wp_iload_n dX11_waiting_0 rfl ?_
      refine wp_if_eq (tgt := 9) dX11_waiting_1 rfl (fun c_1 => ?_) (fun c_1 => ?_)
      · exact absurd c_1 (by decide)
      · refine wp_iload_n dX11_waiting_4 rfl ?_
        refine wp_iconst (v := 1) dX11_waiting_5 rfl ?_
        refine wp_icmp_ne (tgt := 35) dX11_waiting_6 rfl (fun c_6 => ?_) (fun c_6 => ?_)
        · exact absurd rfl c_6
        · refine wp_iload_n dX11_waiting_9 rfl ?_
          refine wp_if_ne (tgt := 25) dX11_waiting_10 rfl (fun c_10 => ?_) (fun c_10 => ?_)
          · refine wp_aload_n dX11_waiting_25 rfl ?_
            refine wr_geti 16 dX11_waiting_26 fl_X11_107 ⟨by decide, rfl⟩ ?_
            refine wp_aload_n dX11_waiting_29 rfl ?_
            refine wr_geti 18 dX11_waiting_30 fl_X11_222 ⟨by decide, rfl⟩ ?_
            refine wp_isub dX11_waiting_33 ?_
            rw [pk_sub hht]
            refine wp_iret dX11_waiting_34 rfl rfl ?_
            exact ⟨rfl, by rw [r_wait, if_neg hx0, if_pos rfl]; rfl⟩
          · exact absurd c_10 (by decide)
    · have hrw : r_wait p x = if 2 ≤ x ∧ x ≤ 9 then (r_next p (x - 2)).map (fun k => p.2.1 22 k) else none := by rw [r_wait, if_neg hx0, if_neg hx1]
      rw [hrw]
      have fin : ∀ o : Option Nat, (∀ k, o = some k → k < p.1 28) → fp_wp G rm_X11_waiting M_X11_waiting 57 [some (.ref m), some (.int x), none] [.int (oI o)] (r_hp h0 m p) (fun r h' => h' = r_hp h0 m p ∧ r = some (.int (oI (o.map (fun k => p.2.1 22 k))))) := by
        intro o ho
        cases o with
        | none =>
          rw [show oI none = -1 from rfl]
          refine wp_istore_n dX11_waiting_57 (Nat.le_of_ble_eq_true rfl) rfl ?_
          refine wp_iload_n dX11_waiting_58 rfl ?_
          refine wp_iconst (v := (-1)) dX11_waiting_59 rfl ?_
          refine wp_icmp_ne (tgt := 67) dX11_waiting_60 rfl (fun c_60 => ?_) (fun c_60 => ?_)
          · exact absurd rfl c_60
          · refine wp_iconst (v := (-1)) dX11_waiting_63 rfl ?_
            refine wp_goto (tgt := 73) dX11_waiting_64 rfl ?_
            refine wp_iret dX11_waiting_73 rfl rfl ?_
            exact ⟨rfl, rfl⟩
        | some k =>
          have hk := ho k rfl
          rw [show oI (some k) = nI k from rfl]
          refine wp_istore_n dX11_waiting_57 (Nat.le_of_ble_eq_true rfl) rfl ?_
          refine wp_iload_n dX11_waiting_58 rfl ?_
          refine wp_iconst (v := (-1)) dX11_waiting_59 rfl ?_
          refine wp_icmp_ne (tgt := 67) dX11_waiting_60 rfl (fun c_60 => ?_) (fun c_60 => ?_)
          · refine wp_aload_n dX11_waiting_67 rfl ?_
            refine wr_geta 40 22 dX11_waiting_68 fl_X11_79 ⟨by decide, rfl⟩ ?_
            refine wp_iload_n dX11_waiting_71 rfl ?_
            refine wr_iald dX11_waiting_72 ⟨by decide, rfl⟩ rfl (by show k < 200; omega) (by decide) ?_
            refine wp_iret dX11_waiting_73 rfl rfl ?_
            exact ⟨rfl, rfl⟩
          · exact absurd c_60 (nI_m1 (by omega))
      refine wp_iload_n dX11_waiting_0 rfl ?_
      refine wp_if_eq (tgt := 9) dX11_waiting_1 rfl (fun c_1 => ?_) (fun c_1 => ?_)
      · exact absurd c_1 hx0
      · refine wp_iload_n dX11_waiting_4 rfl ?_
        refine wp_iconst (v := 1) dX11_waiting_5 rfl ?_
        refine wp_icmp_ne (tgt := 35) dX11_waiting_6 rfl (fun c_6 => ?_) (fun c_6 => ?_)
        · refine wp_iload_n dX11_waiting_35 rfl ?_
          refine wp_iconst (v := 2) dX11_waiting_36 rfl ?_
          refine wp_icmp_lt (tgt := 46) dX11_waiting_37 rfl (fun c_37 => ?_) (fun c_37 => ?_)
          · rw [if_neg (fun z => absurd z.1 (Int32.not_le.mpr c_37))]
            refine wp_iconst (v := (-1)) dX11_waiting_46 rfl ?_
            refine wp_goto (tgt := 57) dX11_waiting_47 rfl ?_
            exact fin none (fun k e => by cases e)
          · refine wp_iload_n dX11_waiting_40 rfl ?_
            refine wp_bipush (v := 9) dX11_waiting_41 rfl ?_
            refine wp_icmp_le (tgt := 50) dX11_waiting_43 rfl (fun c_43 => ?_) (fun c_43 => ?_)
            · rw [if_pos ⟨Int32.not_lt.mp c_37, c_43⟩]
              refine wp_aload_n dX11_waiting_50 rfl ?_
              refine wp_iload_n dX11_waiting_51 rfl ?_
              refine wp_iconst (v := 2) dX11_waiting_52 rfl ?_
              refine wp_isub dX11_waiting_53 ?_
              refine wp_callV (As := [.int (x - 2)]) (rest := []) dX11_waiting_54 me_X11_next cw_X11_240 rfl ⟨(Nat.le_of_ble_eq_true rfl), (Nat.le_of_ble_eq_true rfl)⟩ rfl rfl rfl (Nat.le_of_ble_eq_true rfl) r_at_m (ct_next ok hc) (fun r h1 q => ?_)
              obtain ⟨rfl, rfl⟩ := q
              exact fin _ (fun k e => (r_next_some e).1)
            · rw [if_neg (fun z => c_43 z.2)]
              refine wp_iconst (v := (-1)) dX11_waiting_46 rfl ?_
              refine wp_goto (tgt := 57) dX11_waiting_47 rfl ?_
              exact fin none (fun k e => by cases e)
        · exact absurd c_6 hx1
/-- byte y of wire x -/
def r_look (p : rs) (x y : Int32) : Option Nat := match r_wait p x with
  | none => none
  | some n => if 0 ≤ y ∧ y < nI n then (if x = nI 0 then some (p.2.1 6 (p.1 15 + y.toNatClampNeg)) else if x = nI 1 then some (p.2.1 7 (p.1 18 + y.toNatClampNeg)) else (r_next p (x - 2)).map (fun k => p.2.1 23 (p.2.1 21 k + y.toNatClampNeg))) else none
theorem ct_look {p : rs} {x y : Int32} (ok : rok p) (hc : p.1 28 ≤ 200) (hcs : p.1 15 ≤ p.1 13) (hht : p.1 18 ≤ p.1 16) (hs : p.1 13 ≤ 60000) (h16 : p.1 16 ≤ 4000) (hby : ∀ k, k < p.1 28 → p.2.1 21 k + p.2.1 22 k ≤ 60000) : fp_ct G rm_X11_look M_X11_look [.ref m, .int x, .int y] (r_hp h0 m p) (fun r h' => h' = r_hp h0 m p ∧ r = some (.int (oI (r_look p x y)))) := by
  refine fp_meth pn_X11 (Nat.le_of_ble_eq_true rfl) rfl ?_
  refine wp_aload_n dX11_look_0 rfl ?_
  refine wp_iload_n dX11_look_1 rfl ?_
  refine wp_callV (As := [.int x]) (rest := []) dX11_look_2 me_X11_waiting cw_X11_244 rfl ⟨(Nat.le_of_ble_eq_true rfl), (Nat.le_of_ble_eq_true rfl)⟩ rfl rfl rfl (Nat.le_of_ble_eq_true rfl) r_at_m (ct_waiting ok hc hcs hht) (fun r h1 q => ?_)
  obtain ⟨rfl, rfl⟩ := q
  refine wp_istore_n dX11_look_5 (Nat.le_of_ble_eq_true rfl) rfl ?_
  refine wp_eqL (L' := [some (.ref m), some (.int x), some (.int y), some (.int (oI (r_wait p x)))]) rfl ?_
  have no : r_look p x y = none → fp_wp G rm_X11_look M_X11_look 15 [some (.ref m), some (.int x), some (.int y), some (.int (oI (r_wait p x)))] [] (r_hp h0 m p) (fun r h' => h' = r_hp h0 m p ∧ r = some (.int (oI (r_look p x y)))) := by
    intro hn
    rw [hn]
    refine wp_iconst (v := (-1)) dX11_look_15 rfl ?_
    refine wp_iret dX11_look_16 rfl rfl ?_
    exact ⟨rfl, rfl⟩
  refine wp_iload_n dX11_look_6 rfl ?_
  refine wp_if_lt (tgt := 15) dX11_look_7 rfl (fun c_7 => ?_) (fun c_7 => ?_)
  · refine no ?_
    rw [r_look]
    cases r_wait p x with
    | none => rfl
    | some n => simp only; rw [if_neg (fun z => absurd z.1 (Int32.not_le.mpr c_7))]
  · refine wp_iload_n dX11_look_10 rfl ?_
    refine wp_iload_n dX11_look_11 rfl ?_
    refine wp_icmp_lt (tgt := 17) dX11_look_12 rfl (fun c_12 => ?_) (fun c_12 => ?_)
    · cases hw : r_wait p x with
      | none =>
        exfalso
        rw [hw, show oI none = -1 from rfl] at c_12
        rw [Int32.lt_iff_toInt_lt] at c_7 c_12
        have a : (0 : Int32).toInt = 0 := by decide
        have b : (-1 : Int32).toInt = -1 := by decide
        omega
      | some n =>
        rw [hw, show oI (some n) = nI n from rfl] at c_12
        obtain ⟨i, hi, rfl⟩ := nI_of c_7
        have hlk : r_look p x (nI i) = if x = nI 0 then some (p.2.1 6 (p.1 15 + i)) else if x = nI 1 then some (p.2.1 7 (p.1 18 + i)) else (r_next p (x - 2)).map (fun k => p.2.1 23 (p.2.1 21 k + i)) := by
          rw [r_look, hw]
          simp only
          rw [if_pos ⟨Int32.not_lt.mp c_7, c_12⟩, nI_clamp hi]
        rw [hlk]
        by_cases hx0 : x = nI 0
        · subst hx0
          have hn : n = p.1 13 - p.1 15 := by rw [r_wait, if_pos rfl] at hw; cases hw; rfl
          have hlt : i < n := (nI_ltI hi (by omega)).mp c_12
          rw [if_pos rfl]
          refine wp_iload_n dX11_look_17 rfl ?_
          refine wp_if_ne (tgt := 35) dX11_look_18 rfl (fun c_18 => ?_) (fun c_18 => ?_)
          · exact absurd rfl c_18
          · refine wp_aload_n dX11_look_21 rfl ?_
            refine wr_geta 14 6 dX11_look_22 fl_X11_31 ⟨by decide, rfl⟩ ?_
            refine wp_aload_n dX11_look_25 rfl ?_
            refine wr_geti 15 dX11_look_26 fl_X11_196 ⟨by decide, rfl⟩ ?_
            refine wp_iload_n dX11_look_29 rfl ?_
            refine wp_iadd dX11_look_30 ?_
            refine wr_iald dX11_look_31 ⟨by decide, rfl⟩ (nI_add _ _) (by show p.1 15 + i < 60000; omega) (by decide) ?_
            refine wp_goto (tgt := 73) dX11_look_32 rfl ?_
            refine wp_iret dX11_look_73 rfl rfl ?_
            exact ⟨rfl, rfl⟩
        · by_cases hx1 : x = nI 1
          · subst hx1
            have hn : n = p.1 16 - p.1 18 := by rw [r_wait, if_neg hx0, if_pos rfl] at hw; cases hw; rfl
            have hlt : i < n := (nI_ltI hi (by omega)).mp c_12
            rw [if_neg hx0, if_pos rfl]
            refine wp_iload_n dX11_look_17 rfl ?_
            refine wp_if_ne (tgt := 35) dX11_look_18 rfl (fun c_18 => ?_) (fun c_18 => ?_)
            · refine wp_iload_n dX11_look_35 rfl ?_
              refine wp_iconst (v := 1) dX11_look_36 rfl ?_
              refine wp_icmp_ne (tgt := 54) dX11_look_37 rfl (fun c_37 => ?_) (fun c_37 => ?_)
              · exact absurd rfl c_37
              · refine wp_aload_n dX11_look_40 rfl ?_
                refine wr_geta 17 7 dX11_look_41 fl_X11_34 ⟨by decide, rfl⟩ ?_
                refine wp_aload_n dX11_look_44 rfl ?_
                refine wr_geti 18 dX11_look_45 fl_X11_222 ⟨by decide, rfl⟩ ?_
                refine wp_iload_n dX11_look_48 rfl ?_
                refine wp_iadd dX11_look_49 ?_
                refine wr_iald dX11_look_50 ⟨by decide, rfl⟩ (nI_add _ _) (by show p.1 18 + i < 4000; omega) (by decide) ?_
                refine wp_goto (tgt := 73) dX11_look_51 rfl ?_
                refine wp_iret dX11_look_73 rfl rfl ?_
                exact ⟨rfl, rfl⟩
            · exact absurd c_18 (by decide)
          · rw [r_wait, if_neg hx0, if_neg hx1] at hw
            split at hw
            · cases hk : r_next p (x - 2) with
              | none => rw [hk] at hw; cases hw
              | some k =>
                rw [hk] at hw
                have hn : p.2.1 22 k = n := Option.some.inj hw
                obtain ⟨hk28, -, -, -⟩ := r_next_some hk
                have hbk := hby k hk28
                have hlt : i < n := (nI_ltI hi (by omega)).mp c_12
                rw [if_neg hx0, if_neg hx1]
                refine wp_iload_n dX11_look_17 rfl ?_
                refine wp_if_ne (tgt := 35) dX11_look_18 rfl (fun c_18 => ?_) (fun c_18 => ?_)
                · refine wp_iload_n dX11_look_35 rfl ?_
                  refine wp_iconst (v := 1) dX11_look_36 rfl ?_
                  refine wp_icmp_ne (tgt := 54) dX11_look_37 rfl (fun c_37 => ?_) (fun c_37 => ?_)
                  · refine wp_aload_n dX11_look_54 rfl ?_
                    refine wr_geta 42 23 dX11_look_55 fl_X11_82 ⟨by decide, rfl⟩ ?_
                    refine wp_aload_n dX11_look_58 rfl ?_
                    refine wr_geta 39 21 dX11_look_59 fl_X11_76 ⟨by decide, rfl⟩ ?_
                    refine wp_aload_n dX11_look_62 rfl ?_
                    refine wp_iload_n dX11_look_63 rfl ?_
                    refine wp_iconst (v := 2) dX11_look_64 rfl ?_
                    refine wp_isub dX11_look_65 ?_
                    refine wp_callV (As := [.int (x - 2)]) (rest := [.ref (m + (21 + 1)), .ref (m + (23 + 1))]) dX11_look_66 me_X11_next cw_X11_240 rfl ⟨(Nat.le_of_ble_eq_true rfl), (Nat.le_of_ble_eq_true rfl)⟩ rfl rfl rfl (Nat.le_of_ble_eq_true rfl) r_at_m (ct_next ok hc) (fun r h1 q => ?_)
                    obtain ⟨rfl, rfl⟩ := q
                    rw [hk, show oI (some k) = nI k from rfl]
                    refine wr_iald dX11_look_69 ⟨by decide, rfl⟩ rfl (by show k < 200; omega) (by decide) ?_
                    refine wp_iload_n dX11_look_70 rfl ?_
                    refine wp_iadd dX11_look_71 ?_
                    refine wr_iald dX11_look_72 ⟨by decide, rfl⟩ (nI_add _ _) (by show p.2.1 21 k + i < 60000; omega) (by decide) ?_
                    refine wp_iret dX11_look_73 rfl rfl ?_
                    exact ⟨rfl, rfl⟩
                  · exact absurd c_37 hx1
                · exact absurd c_18 hx0
            · cases hw
    · refine no ?_
      rw [r_look]
      cases hw : r_wait p x with
      | none => rfl
      | some n =>
        simp only
        rw [hw] at c_12
        rw [if_neg (fun z => c_12 z.2)]
theorem ct_sections {p : rs} {x : Int32} (ok : rok p) (hc : p.1 28 ≤ 200) : fp_ct G rm_X11_sections M_X11_sections [.ref m, .int x] (r_hp h0 m p) (fun r h' => h' = r_hp h0 m p ∧ (((¬ ∃ s, s < 8 ∧ x = nI s) ∧ r = some (.int (-1))) ∨ ∃ s, s < 8 ∧ x = nI s ∧ r = some (.int (nI (r_lying p s 2))))) := by
  refine fp_meth pn_X11 (Nat.le_of_ble_eq_true rfl) rfl ?_
  refine wp_iload_n dX11_sections_0 rfl ?_
  refine wp_if_lt (tgt := 10) dX11_sections_1 rfl (fun c_1 => ?_) (fun c_1 => ?_)
  · refine wp_iconst (v := (-1)) dX11_sections_10 rfl ?_
    refine wp_goto (tgt := 20) dX11_sections_11 rfl ?_
    refine wp_iret dX11_sections_20 rfl rfl ?_
    refine ⟨rfl, Or.inl ⟨?_, rfl⟩⟩
    rintro ⟨s, hs, rfl⟩
    exact nI_pos (by omega) c_1
  · refine wp_iload_n dX11_sections_4 rfl ?_
    refine wp_bipush (v := 8) dX11_sections_5 rfl ?_
    refine wp_icmp_lt (tgt := 14) dX11_sections_7 rfl (fun c_7 => ?_) (fun c_7 => ?_)
    · obtain ⟨s, hs, rfl⟩ : ∃ s : Nat, s < 8 ∧ x = nI s := by
        obtain ⟨j, hj, rfl⟩ := nI_of c_1
        exact ⟨j, (nI_ltI (b := 8) hj (by decide)).mp c_7, rfl⟩
      refine wp_aload_n dX11_sections_14 rfl ?_
      refine wp_iload_n dX11_sections_15 rfl ?_
      refine wp_iconst (v := 2) dX11_sections_16 rfl ?_
      refine wp_callV (As := [.int (nI s), .int (nI 2)]) (rest := []) dX11_sections_17 me_X11_lying cw_X11_192 rfl ⟨(Nat.le_of_ble_eq_true rfl), (Nat.le_of_ble_eq_true rfl)⟩ rfl rfl rfl (Nat.le_of_ble_eq_true rfl) r_at_m (ct_lying ok (by omega) (by decide) hc) (fun r h1 q => ?_)
      obtain ⟨rfl, rfl⟩ := q
      refine wp_iret dX11_sections_20 rfl rfl ?_
      exact ⟨rfl, Or.inr ⟨s, hs, rfl, rfl⟩⟩
    · refine wp_iconst (v := (-1)) dX11_sections_10 rfl ?_
      refine wp_goto (tgt := 20) dX11_sections_11 rfl ?_
      refine wp_iret dX11_sections_20 rfl rfl ?_
      refine ⟨rfl, Or.inl ⟨?_, rfl⟩⟩
      rintro ⟨s, hs, rfl⟩
      exact c_7 (nI_lt (b := 8) hs (by decide))
end RR
