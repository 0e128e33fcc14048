/-! the reference: tell, hear, decode, goOn -/
def r_tb (kind v : Nat) : List Nat := if kind = 1 then nb 128 7 v else if kind = 2 then nb 64 6 v else nb 0 6 v
def r_told (p : rs) (kind v : Nat) : rs := r_si (r_sa (r_sa (r_sa p 8 (p.1 19) kind) 9 (p.1 19) v) 10 (p.1 19) (p.1 16)) 19 (p.1 19 + 1)
def r_tell (p : rs) (kind v : Nat) : rs := r_told (r_lays p 1 (r_tb kind v)) kind v
theorem r_tb_len (kind v : Nat) : (r_tb kind v).length ≤ 6 := by
  unfold r_tb
  split
  · exact nb_len _ _ _
  · split <;> exact nb_len _ _ _
theorem r_si_same (p : rs) (k : Nat) : r_si p k (p.1 k) = p := by
  refine Prod.ext ?_ rfl
  funext x
  show (if x = k then p.1 k else p.1 x) = p.1 x
  split
  · rename_i e; rw [e]
  · rfl
/-- what the encoder hears: n sections from k on are looked at -/
def r_hr (kind v : Nat) : Nat → Nat → rs → rs
  | 0, _, p => p
  | n + 1, k, p => if p.2.1 11 k = v ∧ p.2.1 13 k ≠ 0 then (if kind = 1 then r_si (r_sa p 13 k 0) 12 (max (p.2.1 12 k) (p.1 12)) else r_hr kind v n (k + 1) (r_sa p 13 k 0)) else r_hr kind v n (k + 1) p
def r_hear (p : rs) (kind v : Nat) : rs := if kind = 3 then r_si p 12 (p.1 12 + v) else r_hr kind v (p.1 28) 0 p
def r_dec (p : rs) (k : Nat) : rs := if p.2.1 12 k = 0 then r_sa p 14 k 2 else r_si (r_tell (r_sa p 14 k 2) 1 (p.2.1 11 k)) 27 (max (p.2.1 12 k) (p.1 27))
def r_go (s : Nat) : Nat → Nat → rs → rs
  | 0, _, p => p
  | n + 1, k, p => if p.2.1 11 k = s ∧ p.2.1 14 k = 1 then (if p.1 24 < p.2.1 12 k then p else r_go s n (k + 1) (r_dec p k)) else r_go s n (k + 1) p
def r_goOn (p : rs) (s : Nat) : rs := r_go s (p.1 28) 0 p
/-- sections that wait -/
def r_wn (p : rs) : Nat := ((List.range (p.1 28)).filter (fun k => p.2.1 14 k == 1)).length
theorem dX11_tell_0 : decode cX11_tell 0 = .ok (.aload_n 0, 1) := by decide +kernel
theorem dX11_tell_1 : decode cX11_tell 1 = .ok (.iconst 1, 1) := by decide +kernel
theorem dX11_tell_2 : decode cX11_tell 2 = .ok (.iload_n 1, 1) := by decide +kernel
theorem dX11_tell_3 : decode cX11_tell 3 = .ok (.iconst 1, 1) := by decide +kernel
theorem dX11_tell_4 : decode cX11_tell 4 = .ok (.if_icmp .ne 9, 3) := by decide +kernel
theorem dX11_tell_7 : decode cX11_tell 7 = .ok (.sipush 128, 3) := by decide +kernel
theorem dX11_tell_10 : decode cX11_tell 10 = .ok (.goto 14, 3) := by decide +kernel
theorem dX11_tell_13 : decode cX11_tell 13 = .ok (.iload_n 1, 1) := by decide +kernel
theorem dX11_tell_14 : decode cX11_tell 14 = .ok (.iconst 2, 1) := by decide +kernel
theorem dX11_tell_15 : decode cX11_tell 15 = .ok (.if_icmp .ne 8, 3) := by decide +kernel
theorem dX11_tell_18 : decode cX11_tell 18 = .ok (.bipush 64, 2) := by decide +kernel
theorem dX11_tell_20 : decode cX11_tell 20 = .ok (.goto 4, 3) := by decide +kernel
theorem dX11_tell_23 : decode cX11_tell 23 = .ok (.iconst 0, 1) := by decide +kernel
theorem dX11_tell_24 : decode cX11_tell 24 = .ok (.iload_n 1, 1) := by decide +kernel
theorem dX11_tell_25 : decode cX11_tell 25 = .ok (.iconst 1, 1) := by decide +kernel
theorem dX11_tell_26 : decode cX11_tell 26 = .ok (.if_icmp .ne 8, 3) := by decide +kernel
theorem dX11_tell_29 : decode cX11_tell 29 = .ok (.bipush 7, 2) := by decide +kernel
theorem dX11_tell_31 : decode cX11_tell 31 = .ok (.goto 5, 3) := by decide +kernel
theorem dX11_tell_34 : decode cX11_tell 34 = .ok (.bipush 6, 2) := by decide +kernel
theorem dX11_tell_36 : decode cX11_tell 36 = .ok (.iload_n 2, 1) := by decide +kernel
theorem dX11_tell_37 : decode cX11_tell 37 = .ok (.invokevirtual 120, 3) := by decide +kernel
theorem dX11_tell_40 : decode cX11_tell 40 = .ok (.aload_n 0, 1) := by decide +kernel
theorem dX11_tell_41 : decode cX11_tell 41 = .ok (.getfield 37, 3) := by decide +kernel
theorem dX11_tell_44 : decode cX11_tell 44 = .ok (.aload_n 0, 1) := by decide +kernel
theorem dX11_tell_45 : decode cX11_tell 45 = .ok (.getfield 207, 3) := by decide +kernel
theorem dX11_tell_48 : decode cX11_tell 48 = .ok (.iload_n 1, 1) := by decide +kernel
theorem dX11_tell_49 : decode cX11_tell 49 = .ok (.iastore, 1) := by decide +kernel
theorem dX11_tell_50 : decode cX11_tell 50 = .ok (.aload_n 0, 1) := by decide +kernel
theorem dX11_tell_51 : decode cX11_tell 51 = .ok (.getfield 40, 3) := by decide +kernel
theorem dX11_tell_54 : decode cX11_tell 54 = .ok (.aload_n 0, 1) := by decide +kernel
theorem dX11_tell_55 : decode cX11_tell 55 = .ok (.getfield 207, 3) := by decide +kernel
theorem dX11_tell_58 : decode cX11_tell 58 = .ok (.iload_n 2, 1) := by decide +kernel
theorem dX11_tell_59 : decode cX11_tell 59 = .ok (.iastore, 1) := by decide +kernel
theorem dX11_tell_60 : decode cX11_tell 60 = .ok (.aload_n 0, 1) := by decide +kernel
theorem dX11_tell_61 : decode cX11_tell 61 = .ok (.getfield 43, 3) := by decide +kernel
theorem dX11_tell_64 : decode cX11_tell 64 = .ok (.aload_n 0, 1) := by decide +kernel
theorem dX11_tell_65 : decode cX11_tell 65 = .ok (.getfield 207, 3) := by decide +kernel
theorem dX11_tell_68 : decode cX11_tell 68 = .ok (.aload_n 0, 1) := by decide +kernel
theorem dX11_tell_69 : decode cX11_tell 69 = .ok (.getfield 107, 3) := by decide +kernel
theorem dX11_tell_72 : decode cX11_tell 72 = .ok (.iastore, 1) := by decide +kernel
theorem dX11_tell_73 : decode cX11_tell 73 = .ok (.aload_n 0, 1) := by decide +kernel
theorem dX11_tell_74 : decode cX11_tell 74 = .ok (.dup, 1) := by decide +kernel
theorem dX11_tell_75 : decode cX11_tell 75 = .ok (.getfield 207, 3) := by decide +kernel
theorem dX11_tell_78 : decode cX11_tell 78 = .ok (.iconst 1, 1) := by decide +kernel
theorem dX11_tell_79 : decode cX11_tell 79 = .ok (.iadd, 1) := by decide +kernel
theorem dX11_tell_80 : decode cX11_tell 80 = .ok (.putfield 207, 3) := by decide +kernel
theorem dX11_tell_83 : decode cX11_tell 83 = .ok (.return_, 1) := by decide +kernel
theorem dX11_hear_0 : decode cX11_hear 0 = .ok (.iload_n 1, 1) := by decide +kernel
theorem dX11_hear_1 : decode cX11_hear 1 = .ok (.iconst 3, 1) := by decide +kernel
theorem dX11_hear_2 : decode cX11_hear 2 = .ok (.if_icmp .ne 14, 3) := by decide +kernel
theorem dX11_hear_5 : decode cX11_hear 5 = .ok (.aload_n 0, 1) := by decide +kernel
theorem dX11_hear_6 : decode cX11_hear 6 = .ok (.dup, 1) := by decide +kernel
theorem dX11_hear_7 : decode cX11_hear 7 = .ok (.getfield 146, 3) := by decide +kernel
theorem dX11_hear_10 : decode cX11_hear 10 = .ok (.iload_n 2, 1) := by decide +kernel
theorem dX11_hear_11 : decode cX11_hear 11 = .ok (.iadd, 1) := by decide +kernel
theorem dX11_hear_12 : decode cX11_hear 12 = .ok (.putfield 146, 3) := by decide +kernel
theorem dX11_hear_15 : decode cX11_hear 15 = .ok (.return_, 1) := by decide +kernel
theorem dX11_hear_16 : decode cX11_hear 16 = .ok (.iconst 0, 1) := by decide +kernel
theorem dX11_hear_17 : decode cX11_hear 17 = .ok (.istore_n 3, 1) := by decide +kernel
theorem dX11_hear_18 : decode cX11_hear 18 = .ok (.iconst 0, 1) := by decide +kernel
theorem dX11_hear_19 : decode cX11_hear 19 = .ok (.istore 4, 2) := by decide +kernel
theorem dX11_hear_21 : decode cX11_hear 21 = .ok (.iload 4, 2) := by decide +kernel
theorem dX11_hear_23 : decode cX11_hear 23 = .ok (.aload_n 0, 1) := by decide +kernel
theorem dX11_hear_24 : decode cX11_hear 24 = .ok (.getfield 143, 3) := by decide +kernel
theorem dX11_hear_27 : decode cX11_hear 27 = .ok (.if_icmp .ge 90, 3) := by decide +kernel
theorem dX11_hear_30 : decode cX11_hear 30 = .ok (.iload_n 3, 1) := by decide +kernel
theorem dX11_hear_31 : decode cX11_hear 31 = .ok (.ifCond .ne 86, 3) := by decide +kernel
theorem dX11_hear_34 : decode cX11_hear 34 = .ok (.aload_n 0, 1) := by decide +kernel
theorem dX11_hear_35 : decode cX11_hear 35 = .ok (.getfield 46, 3) := by decide +kernel
theorem dX11_hear_38 : decode cX11_hear 38 = .ok (.iload 4, 2) := by decide +kernel
theorem dX11_hear_40 : decode cX11_hear 40 = .ok (.iaload, 1) := by decide +kernel
theorem dX11_hear_41 : decode cX11_hear 41 = .ok (.iload_n 2, 1) := by decide +kernel
theorem dX11_hear_42 : decode cX11_hear 42 = .ok (.if_icmp .ne 69, 3) := by decide +kernel
theorem dX11_hear_45 : decode cX11_hear 45 = .ok (.aload_n 0, 1) := by decide +kernel
theorem dX11_hear_46 : decode cX11_hear 46 = .ok (.getfield 52, 3) := by decide +kernel
theorem dX11_hear_49 : decode cX11_hear 49 = .ok (.iload 4, 2) := by decide +kernel
theorem dX11_hear_51 : decode cX11_hear 51 = .ok (.baload, 1) := by decide +kernel
theorem dX11_hear_52 : decode cX11_hear 52 = .ok (.ifCond .eq 59, 3) := by decide +kernel
theorem dX11_hear_55 : decode cX11_hear 55 = .ok (.aload_n 0, 1) := by decide +kernel
theorem dX11_hear_56 : decode cX11_hear 56 = .ok (.getfield 52, 3) := by decide +kernel
theorem dX11_hear_59 : decode cX11_hear 59 = .ok (.iload 4, 2) := by decide +kernel
theorem dX11_hear_61 : decode cX11_hear 61 = .ok (.iconst 0, 1) := by decide +kernel
theorem dX11_hear_62 : decode cX11_hear 62 = .ok (.bastore, 1) := by decide +kernel
theorem dX11_hear_63 : decode cX11_hear 63 = .ok (.iload_n 1, 1) := by decide +kernel
theorem dX11_hear_64 : decode cX11_hear 64 = .ok (.iconst 1, 1) := by decide +kernel
theorem dX11_hear_65 : decode cX11_hear 65 = .ok (.if_icmp .ne 7, 3) := by decide +kernel
theorem dX11_hear_68 : decode cX11_hear 68 = .ok (.iconst 1, 1) := by decide +kernel
theorem dX11_hear_69 : decode cX11_hear 69 = .ok (.goto 4, 3) := by decide +kernel
theorem dX11_hear_72 : decode cX11_hear 72 = .ok (.iconst 0, 1) := by decide +kernel
theorem dX11_hear_73 : decode cX11_hear 73 = .ok (.istore_n 3, 1) := by decide +kernel
theorem dX11_hear_74 : decode cX11_hear 74 = .ok (.aload_n 0, 1) := by decide +kernel
theorem dX11_hear_75 : decode cX11_hear 75 = .ok (.iload_n 1, 1) := by decide +kernel
theorem dX11_hear_76 : decode cX11_hear 76 = .ok (.iconst 1, 1) := by decide +kernel
theorem dX11_hear_77 : decode cX11_hear 77 = .ok (.if_icmp .ne 27, 3) := by decide +kernel
theorem dX11_hear_80 : decode cX11_hear 80 = .ok (.aload_n 0, 1) := by decide +kernel
theorem dX11_hear_81 : decode cX11_hear 81 = .ok (.getfield 49, 3) := by decide +kernel
theorem dX11_hear_84 : decode cX11_hear 84 = .ok (.iload 4, 2) := by decide +kernel
theorem dX11_hear_86 : decode cX11_hear 86 = .ok (.iaload, 1) := by decide +kernel
theorem dX11_hear_87 : decode cX11_hear 87 = .ok (.aload_n 0, 1) := by decide +kernel
theorem dX11_hear_88 : decode cX11_hear 88 = .ok (.getfield 146, 3) := by decide +kernel
theorem dX11_hear_91 : decode cX11_hear 91 = .ok (.if_icmp .le 13, 3) := by decide +kernel
theorem dX11_hear_94 : decode cX11_hear 94 = .ok (.aload_n 0, 1) := by decide +kernel
theorem dX11_hear_95 : decode cX11_hear 95 = .ok (.getfield 49, 3) := by decide +kernel
theorem dX11_hear_98 : decode cX11_hear 98 = .ok (.iload 4, 2) := by decide +kernel
theorem dX11_hear_100 : decode cX11_hear 100 = .ok (.iaload, 1) := by decide +kernel
theorem dX11_hear_101 : decode cX11_hear 101 = .ok (.goto 7, 3) := by decide +kernel
theorem dX11_hear_104 : decode cX11_hear 104 = .ok (.aload_n 0, 1) := by decide +kernel
theorem dX11_hear_105 : decode cX11_hear 105 = .ok (.getfield 146, 3) := by decide +kernel
theorem dX11_hear_108 : decode cX11_hear 108 = .ok (.putfield 146, 3) := by decide +kernel
theorem dX11_hear_111 : decode cX11_hear 111 = .ok (.iinc 4 1, 3) := by decide +kernel
theorem dX11_hear_114 : decode cX11_hear 114 = .ok (.goto (-93), 3) := by decide +kernel
theorem dX11_hear_117 : decode cX11_hear 117 = .ok (.return_, 1) := by decide +kernel
theorem dX11_decode_0 : decode cX11_decode 0 = .ok (.aload_n 0, 1) := by decide +kernel
theorem dX11_decode_1 : decode cX11_decode 1 = .ok (.getfield 55, 3) := by decide +kernel
theorem dX11_decode_4 : decode cX11_decode 4 = .ok (.iload_n 1, 1) := by decide +kernel
theorem dX11_decode_5 : decode cX11_decode 5 = .ok (.iconst 2, 1) := by decide +kernel
theorem dX11_decode_6 : decode cX11_decode 6 = .ok (.iastore, 1) := by decide +kernel
theorem dX11_decode_7 : decode cX11_decode 7 = .ok (.aload_n 0, 1) := by decide +kernel
theorem dX11_decode_8 : decode cX11_decode 8 = .ok (.getfield 49, 3) := by decide +kernel
theorem dX11_decode_11 : decode cX11_decode 11 = .ok (.iload_n 1, 1) := by decide +kernel
theorem dX11_decode_12 : decode cX11_decode 12 = .ok (.iaload, 1) := by decide +kernel
theorem dX11_decode_13 : decode cX11_decode 13 = .ok (.ifCond .le 44, 3) := by decide +kernel
theorem dX11_decode_16 : decode cX11_decode 16 = .ok (.aload_n 0, 1) := by decide +kernel
theorem dX11_decode_17 : decode cX11_decode 17 = .ok (.iconst 1, 1) := by decide +kernel
theorem dX11_decode_18 : decode cX11_decode 18 = .ok (.aload_n 0, 1) := by decide +kernel
theorem dX11_decode_19 : decode cX11_decode 19 = .ok (.getfield 46, 3) := by decide +kernel
theorem dX11_decode_22 : decode cX11_decode 22 = .ok (.iload_n 1, 1) := by decide +kernel
theorem dX11_decode_23 : decode cX11_decode 23 = .ok (.iaload, 1) := by decide +kernel
theorem dX11_decode_24 : decode cX11_decode 24 = .ok (.invokevirtual 210, 3) := by decide +kernel
theorem dX11_decode_27 : decode cX11_decode 27 = .ok (.aload_n 0, 1) := by decide +kernel
theorem dX11_decode_28 : decode cX11_decode 28 = .ok (.aload_n 0, 1) := by decide +kernel
theorem dX11_decode_29 : decode cX11_decode 29 = .ok (.getfield 49, 3) := by decide +kernel
theorem dX11_decode_32 : decode cX11_decode 32 = .ok (.iload_n 1, 1) := by decide +kernel
theorem dX11_decode_33 : decode cX11_decode 33 = .ok (.iaload, 1) := by decide +kernel
theorem dX11_decode_34 : decode cX11_decode 34 = .ok (.aload_n 0, 1) := by decide +kernel
theorem dX11_decode_35 : decode cX11_decode 35 = .ok (.getfield 213, 3) := by decide +kernel
theorem dX11_decode_38 : decode cX11_decode 38 = .ok (.if_icmp .le 12, 3) := by decide +kernel
theorem dX11_decode_41 : decode cX11_decode 41 = .ok (.aload_n 0, 1) := by decide +kernel
theorem dX11_decode_42 : decode cX11_decode 42 = .ok (.getfield 49, 3) := by decide +kernel
theorem dX11_decode_45 : decode cX11_decode 45 = .ok (.iload_n 1, 1) := by decide +kernel
theorem dX11_decode_46 : decode cX11_decode 46 = .ok (.iaload, 1) := by decide +kernel
theorem dX11_decode_47 : decode cX11_decode 47 = .ok (.goto 7, 3) := by decide +kernel
theorem dX11_decode_50 : decode cX11_decode 50 = .ok (.aload_n 0, 1) := by decide +kernel
theorem dX11_decode_51 : decode cX11_decode 51 = .ok (.getfield 213, 3) := by decide +kernel
theorem dX11_decode_54 : decode cX11_decode 54 = .ok (.putfield 213, 3) := by decide +kernel
theorem dX11_decode_57 : decode cX11_decode 57 = .ok (.return_, 1) := by decide +kernel
theorem dX11_goOn_0 : decode cX11_goOn 0 = .ok (.iconst 0, 1) := by decide +kernel
theorem dX11_goOn_1 : decode cX11_goOn 1 = .ok (.istore_n 2, 1) := by decide +kernel
theorem dX11_goOn_2 : decode cX11_goOn 2 = .ok (.iload_n 2, 1) := by decide +kernel
theorem dX11_goOn_3 : decode cX11_goOn 3 = .ok (.aload_n 0, 1) := by decide +kernel
theorem dX11_goOn_4 : decode cX11_goOn 4 = .ok (.getfield 143, 3) := by decide +kernel
theorem dX11_goOn_7 : decode cX11_goOn 7 = .ok (.if_icmp .ge 48, 3) := by decide +kernel
theorem dX11_goOn_10 : decode cX11_goOn 10 = .ok (.aload_n 0, 1) := by decide +kernel
theorem dX11_goOn_11 : decode cX11_goOn 11 = .ok (.getfield 46, 3) := by decide +kernel
theorem dX11_goOn_14 : decode cX11_goOn 14 = .ok (.iload_n 2, 1) := by decide +kernel
theorem dX11_goOn_15 : decode cX11_goOn 15 = .ok (.iaload, 1) := by decide +kernel
theorem dX11_goOn_16 : decode cX11_goOn 16 = .ok (.iload_n 1, 1) := by decide +kernel
theorem dX11_goOn_17 : decode cX11_goOn 17 = .ok (.if_icmp .ne 32, 3) := by decide +kernel
theorem dX11_goOn_20 : decode cX11_goOn 20 = .ok (.aload_n 0, 1) := by decide +kernel
theorem dX11_goOn_21 : decode cX11_goOn 21 = .ok (.getfield 55, 3) := by decide +kernel
theorem dX11_goOn_24 : decode cX11_goOn 24 = .ok (.iload_n 2, 1) := by decide +kernel
theorem dX11_goOn_25 : decode cX11_goOn 25 = .ok (.iaload, 1) := by decide +kernel
theorem dX11_goOn_26 : decode cX11_goOn 26 = .ok (.iconst 1, 1) := by decide +kernel
theorem dX11_goOn_27 : decode cX11_goOn 27 = .ok (.if_icmp .ne 22, 3) := by decide +kernel
theorem dX11_goOn_30 : decode cX11_goOn 30 = .ok (.aload_n 0, 1) := by decide +kernel
theorem dX11_goOn_31 : decode cX11_goOn 31 = .ok (.getfield 49, 3) := by decide +kernel
theorem dX11_goOn_34 : decode cX11_goOn 34 = .ok (.iload_n 2, 1) := by decide +kernel
theorem dX11_goOn_35 : decode cX11_goOn 35 = .ok (.iaload, 1) := by decide +kernel
theorem dX11_goOn_36 : decode cX11_goOn 36 = .ok (.aload_n 0, 1) := by decide +kernel
theorem dX11_goOn_37 : decode cX11_goOn 37 = .ok (.getfield 216, 3) := by decide +kernel
theorem dX11_goOn_40 : decode cX11_goOn 40 = .ok (.if_icmp .le 4, 3) := by decide +kernel
theorem dX11_goOn_43 : decode cX11_goOn 43 = .ok (.return_, 1) := by decide +kernel
theorem dX11_goOn_44 : decode cX11_goOn 44 = .ok (.aload_n 0, 1) := by decide +kernel
theorem dX11_goOn_45 : decode cX11_goOn 45 = .ok (.iload_n 2, 1) := by decide +kernel
theorem dX11_goOn_46 : decode cX11_goOn 46 = .ok (.invokevirtual 219, 3) := by decide +kernel
theorem dX11_goOn_49 : decode cX11_goOn 49 = .ok (.iinc 2 1, 3) := by decide +kernel
theorem dX11_goOn_52 : decode cX11_goOn 52 = .ok (.goto (-50), 3) := by decide +kernel
theorem dX11_goOn_55 : decode cX11_goOn 55 = .ok (.return_, 1) := by decide +kernel
section RT
variable {G : fp_G} {h0 : fp_H} {m : Nat}
theorem ct_tell {p : rs} {kind v : Nat} (hk : kind = 1 ∨ kind = 2 ∨ kind = 3) (hv : v < 2 ^ 29) (h16 : p.1 16 + (r_tb kind v).length ≤ 4000) (h19 : p.1 19 < 2000) : fp_ct G rm_X11_tell M_X11_tell [.ref m, .int (nI kind), .int (nI v)] (r_hp h0 m p) (fun r h' => r = none ∧ h' = r_hp h0 m (r_tell p kind v)) := by
  refine fp_meth pn_X11 (Nat.le_of_ble_eq_true rfl) rfl ?_
  have key : ∀ F n : Nat, n < 9 → (∀ x, x < 2 ^ n → F ||| x = F + x) → r_tb kind v = nb F n v → fp_wp G rm_X11_tell M_X11_tell 36 [some (.ref m), some (.int (nI kind)), some (.int (nI v))] [.int (nI n), .int (nI F), .int (nI 1), .ref m] (r_hp h0 m p) (fun r h' => r = none ∧ h' = r_hp h0 m (r_tell p kind v)) := by
    intro F n hn hF hb
    unfold r_tell
    rw [hb] at h16 ⊢
    refine wp_iload_n dX11_tell_36 rfl ?_
    refine wp_callV (As := [.int (nI 1), .int (nI F), .int (nI n), .int (nI v)]) (rest := []) dX11_tell_37 me_X11_number cw_X11_120 rfl ⟨(Nat.le_of_ble_eq_true rfl), (Nat.le_of_ble_eq_true rfl)⟩ rfl rfl rfl (Nat.le_of_ble_eq_true rfl) r_at_m (ct_number (by decide) hn hF (by omega) h16) (fun r h1 q => ?_)
    obtain ⟨rfl, rfl⟩ := q
    have k19 : (r_lays p 1 (nb F n v)).1 19 = p.1 19 := r_lays_k (by decide) _ _
    generalize r_lays p 1 (nb F n v) = p1 at k19 ⊢
    have h19' : p1.1 19 < 2000 := by omega
    refine wp_aload_n dX11_tell_40 rfl ?_
    refine wr_geta 20 8 dX11_tell_41 fl_X11_37 ⟨by decide, rfl⟩ ?_
    refine wp_aload_n dX11_tell_44 rfl ?_
    refine wr_geti 19 dX11_tell_45 fl_X11_207 ⟨by decide, rfl⟩ ?_
    refine wp_iload_n dX11_tell_48 rfl ?_
    refine wr_iast dX11_tell_49 ⟨by decide, rfl⟩ rfl h19' (by decide) rfl ?_
    refine wp_aload_n dX11_tell_50 rfl ?_
    refine wr_geta 21 9 dX11_tell_51 fl_X11_40 ⟨by decide, rfl⟩ ?_
    refine wp_aload_n dX11_tell_54 rfl ?_
    refine wr_geti 19 dX11_tell_55 fl_X11_207 ⟨by decide, rfl⟩ ?_
    refine wp_iload_n dX11_tell_58 rfl ?_
    refine wr_iast dX11_tell_59 ⟨by decide, rfl⟩ rfl h19' (by decide) rfl ?_
    refine wp_aload_n dX11_tell_60 rfl ?_
    refine wr_geta 22 10 dX11_tell_61 fl_X11_43 ⟨by decide, rfl⟩ ?_
    refine wp_aload_n dX11_tell_64 rfl ?_
    refine wr_geti 19 dX11_tell_65 fl_X11_207 ⟨by decide, rfl⟩ ?_
    refine wp_aload_n dX11_tell_68 rfl ?_
    refine wr_geti 16 dX11_tell_69 fl_X11_107 ⟨by decide, rfl⟩ ?_
    refine wr_iast dX11_tell_72 ⟨by decide, rfl⟩ rfl h19' (by decide) rfl ?_
    refine wp_aload_n dX11_tell_73 rfl ?_
    refine wp_dup dX11_tell_74 rfl ?_
    refine wr_geti 19 dX11_tell_75 fl_X11_207 ⟨by decide, rfl⟩ ?_
    refine wp_iconst (v := 1) dX11_tell_78 rfl ?_
    refine wp_iadd dX11_tell_79 ?_
    refine wr_puti dX11_tell_80 (fs_X11_207 _) ⟨by decide, rfl⟩ (nI_1 _) ?_
    refine wp_vret dX11_tell_83 rfl ?_
    exact ⟨rfl, rfl⟩
  rcases hk with rfl | rfl | rfl
  · refine wp_aload_n dX11_tell_0 rfl ?_
    refine wp_iconst (v := 1) dX11_tell_1 rfl ?_
    refine wp_iload_n dX11_tell_2 rfl ?_
    refine wp_iconst (v := 1) dX11_tell_3 rfl ?_
    refine wp_icmp_ne (tgt := 13) dX11_tell_4 rfl (fun c_4 => ?_) (fun c_4 => ?_)
    · exact absurd rfl c_4
    · refine wp_sipush (v := 128) dX11_tell_7 rfl ?_
      refine wp_goto (tgt := 24) dX11_tell_10 rfl ?_
      refine wp_iload_n dX11_tell_24 rfl ?_
      refine wp_iconst (v := 1) dX11_tell_25 rfl ?_
      refine wp_icmp_ne (tgt := 34) dX11_tell_26 rfl (fun c_26 => ?_) (fun c_26 => ?_)
      · exact absurd rfl c_26
      · refine wp_bipush (v := 7) dX11_tell_29 rfl ?_
        refine wp_goto (tgt := 36) dX11_tell_31 rfl ?_
        exact key 128 7 (by decide) (by decide) rfl
  · refine wp_aload_n dX11_tell_0 rfl ?_
    refine wp_iconst (v := 1) dX11_tell_1 rfl ?_
    refine wp_iload_n dX11_tell_2 rfl ?_
    refine wp_iconst (v := 1) dX11_tell_3 rfl ?_
    refine wp_icmp_ne (tgt := 13) dX11_tell_4 rfl (fun c_4 => ?_) (fun c_4 => ?_)
    · refine wp_iload_n dX11_tell_13 rfl ?_
      refine wp_iconst (v := 2) dX11_tell_14 rfl ?_
      refine wp_icmp_ne (tgt := 23) dX11_tell_15 rfl (fun c_15 => ?_) (fun c_15 => ?_)
      · exact absurd rfl c_15
      · refine wp_bipush (v := 64) dX11_tell_18 rfl ?_
        refine wp_goto (tgt := 24) dX11_tell_20 rfl ?_
        refine wp_iload_n dX11_tell_24 rfl ?_
        refine wp_iconst (v := 1) dX11_tell_25 rfl ?_
        refine wp_icmp_ne (tgt := 34) dX11_tell_26 rfl (fun c_26 => ?_) (fun c_26 => ?_)
        · refine wp_bipush (v := 6) dX11_tell_34 rfl ?_
          exact key 64 6 (by decide) (by decide) rfl
        · exact absurd c_26 (by decide)
    · exact absurd c_4 (by decide)
  · refine wp_aload_n dX11_tell_0 rfl ?_
    refine wp_iconst (v := 1) dX11_tell_1 rfl ?_
    refine wp_iload_n dX11_tell_2 rfl ?_
    refine wp_iconst (v := 1) dX11_tell_3 rfl ?_
    refine wp_icmp_ne (tgt := 13) dX11_tell_4 rfl (fun c_4 => ?_) (fun c_4 => ?_)
    · refine wp_iload_n dX11_tell_13 rfl ?_
      refine wp_iconst (v := 2) dX11_tell_14 rfl ?_
      refine wp_icmp_ne (tgt := 23) dX11_tell_15 rfl (fun c_15 => ?_) (fun c_15 => ?_)
      · refine wp_iconst (v := 0) dX11_tell_23 rfl ?_
        refine wp_iload_n dX11_tell_24 rfl ?_
        refine wp_iconst (v := 1) dX11_tell_25 rfl ?_
        refine wp_icmp_ne (tgt := 34) dX11_tell_26 rfl (fun c_26 => ?_) (fun c_26 => ?_)
        · refine wp_bipush (v := 6) dX11_tell_34 rfl ?_
          exact key 0 6 (by decide) (by decide) rfl
        · exact absurd c_26 (by decide)
      · exact absurd c_15 (by decide)
    · exact absurd c_4 (by decide)
theorem ct_hear {p : rs} {kind v : Nat} (ok : rok p) (hk : kind = 1 ∨ kind = 2 ∨ kind = 3) (hv : v < 2 ^ 29) (hc : p.1 28 ≤ 200) : fp_ct G rm_X11_hear M_X11_hear [.ref m, .int (nI kind), .int (nI v)] (r_hp h0 m p) (fun r h' => r = none ∧ h' = r_hp h0 m (r_hear p kind v)) := by
  refine fp_meth pn_X11 (Nat.le_of_ble_eq_true rfl) rfl ?_
  by_cases h3 : kind = 3
  · subst h3
    refine wp_iload_n dX11_hear_0 rfl ?_
    refine wp_iconst (v := 3) dX11_hear_1 rfl ?_
    refine wp_icmp_ne (tgt := 16) dX11_hear_2 rfl (fun c_2 => ?_) (fun c_2 => ?_)
    · exact absurd rfl c_2
    · refine wp_aload_n dX11_hear_5 rfl ?_
      refine wp_dup dX11_hear_6 rfl ?_
      refine wr_geti 12 dX11_hear_7 fl_X11_146 ⟨by decide, rfl⟩ ?_
      refine wp_iload_n dX11_hear_10 rfl ?_
      refine wp_iadd dX11_hear_11 ?_
      refine wr_puti dX11_hear_12 (fs_X11_146 _) ⟨by decide, rfl⟩ (nI_add _ _) ?_
      refine wp_vret dX11_hear_15 rfl ?_
      exact ⟨rfl, rfl⟩
  · rw [r_hear, if_neg h3]
    refine wp_iload_n dX11_hear_0 rfl ?_
    refine wp_iconst (v := 3) dX11_hear_1 rfl ?_
    refine wp_icmp_ne (tgt := 16) dX11_hear_2 rfl (fun c_2 => ?_) (fun c_2 => ?_)
    · refine wp_iconst (v := 0) dX11_hear_16 rfl ?_
      refine wp_istore_n dX11_hear_17 (Nat.le_of_ble_eq_true rfl) rfl ?_
      refine wp_iconst (v := 0) dX11_hear_18 rfl ?_
      refine wp_istore dX11_hear_19 (Nat.le_of_ble_eq_true rfl) rfl ?_
      have loop : ∀ (n k : Nat) (p : rs), rok p → p.1 28 ≤ 200 → k + n = p.1 28 → fp_wp G rm_X11_hear M_X11_hear 21 [some (.ref m), some (.int (nI kind)), some (.int (nI v)), some (.int 0), some (.int (nI k))] [] (r_hp h0 m p) (fun r h' => r = none ∧ h' = r_hp h0 m (r_hr kind v n k p)) := by
        intro n
        induction n with
        | zero =>
          intro k p ok hc hkn
          refine wp_iload dX11_hear_21 rfl ?_
          refine wp_aload_n dX11_hear_23 rfl ?_
          refine wr_geti 28 dX11_hear_24 fl_X11_143 ⟨by decide, rfl⟩ ?_
          refine wp_icmp_ge (tgt := 117) dX11_hear_27 rfl (fun c_27 => ?_) (fun c_27 => ?_)
          · refine wp_vret dX11_hear_117 rfl ?_
            exact ⟨rfl, rfl⟩
          · exact absurd (nI_le (show p.1 28 ≤ k by omega) (by omega)) c_27
        | succ n ih =>
          intro k p ok hc hkn
          have h11 := ok.2.1 11 k
          have h12 := ok.2.1 12 k
          have h13 := ok.2.1 13 k
          have o12 := ok.1 12
          have hk200 : k < 200 := by omega
          rw [r_hr]
          have back : ¬ (p.2.1 11 k = v ∧ p.2.1 13 k ≠ 0) → fp_wp G rm_X11_hear M_X11_hear 111 [some (.ref m), some (.int (nI kind)), some (.int (nI v)), some (.int 0), some (.int (nI k))] [] (r_hp h0 m p) (fun r h' => r = none ∧ h' = r_hp h0 m (if p.2.1 11 k = v ∧ p.2.1 13 k ≠ 0 then (if kind = 1 then r_si (r_sa p 13 k 0) 12 (max (p.2.1 12 k) (p.1 12)) else r_hr kind v n (k + 1) (r_sa p 13 k 0)) else r_hr kind v n (k + 1) p)) := by
            intro hn
            rw [if_neg hn]
            refine wp_iinc dX11_hear_111 rfl rfl ?_
            refine wp_goto (tgt := 21) dX11_hear_114 rfl ?_
            rw [show nI k + Int32.ofInt 1 = nI (k + 1) from nI_1 k]
            exact ih (k + 1) p ok hc (by omega)
          refine wp_iload dX11_hear_21 rfl ?_
          refine wp_aload_n dX11_hear_23 rfl ?_
          refine wr_geti 28 dX11_hear_24 fl_X11_143 ⟨by decide, rfl⟩ ?_
          refine wp_icmp_ge (tgt := 117) dX11_hear_27 rfl (fun c_27 => ?_) (fun c_27 => ?_)
          · exact absurd c_27 (nI_ge (show k < p.1 28 by omega) (by omega))
          · refine wp_iload_n dX11_hear_30 rfl ?_
            refine wp_if_ne (tgt := 117) dX11_hear_31 rfl (fun c_31 => ?_) (fun c_31 => ?_)
            · exact absurd rfl c_31
            · refine wp_aload_n dX11_hear_34 rfl ?_
              refine wr_geta 29 11 dX11_hear_35 fl_X11_46 ⟨by decide, rfl⟩ ?_
              refine wp_iload dX11_hear_38 rfl ?_
              refine wr_iald dX11_hear_40 ⟨by decide, rfl⟩ rfl hk200 (by decide) ?_
              refine wp_iload_n dX11_hear_41 rfl ?_
              refine wp_icmp_ne (tgt := 111) dX11_hear_42 rfl (fun c_42 => ?_) (fun c_42 => ?_)
              · exact back (fun z => c_42 (by rw [z.1]))
              · have e11 : p.2.1 11 k = v := (nI_eq (by omega) (by omega)).mp c_42
                refine wp_aload_n dX11_hear_45 rfl ?_
                refine wr_geta 31 13 dX11_hear_46 fl_X11_52 ⟨by decide, rfl⟩ ?_
                refine wp_iload dX11_hear_49 rfl ?_
                refine wr_zald dX11_hear_51 ⟨by decide, rfl⟩ rfl hk200 (by decide) ?_
                refine wp_if_eq (tgt := 111) dX11_hear_52 rfl (fun c_52 => ?_) (fun c_52 => ?_)
                · exact back (fun z => z.2 ((nI_eq (b := 0) (by omega) (by decide)).mp c_52))
                · have e13 : p.2.1 13 k ≠ 0 := fun e => c_52 (by rw [e]; rfl)
                  rw [if_pos ⟨e11, e13⟩]
                  refine wp_aload_n dX11_hear_55 rfl ?_
                  refine wr_geta 31 13 dX11_hear_56 fl_X11_52 ⟨by decide, rfl⟩ ?_
                  refine wp_iload dX11_hear_59 rfl ?_
                  refine wp_iconst (v := 0) dX11_hear_61 rfl ?_
                  refine wr_zast dX11_hear_62 ⟨by decide, rfl⟩ rfl hk200 (by decide) (show (0 : Int32) = nI 0 from rfl) (by decide) ?_
                  refine wp_iload_n dX11_hear_63 rfl ?_
                  refine wp_iconst (v := 1) dX11_hear_64 rfl ?_
                  refine wp_icmp_ne (tgt := 72) dX11_hear_65 rfl (fun c_65 => ?_) (fun c_65 => ?_)
                  · have hk1 : kind ≠ 1 := fun e => c_65 (by rw [e]; rfl)
                    rw [if_neg hk1]
                    refine wp_iconst (v := 0) dX11_hear_72 rfl ?_
                    refine wp_istore_n dX11_hear_73 (Nat.le_of_ble_eq_true rfl) rfl ?_
                    refine wp_aload_n dX11_hear_74 rfl ?_
                    refine wp_iload_n dX11_hear_75 rfl ?_
                    refine wp_iconst (v := 1) dX11_hear_76 rfl ?_
                    refine wp_icmp_ne (tgt := 104) dX11_hear_77 rfl (fun c_77 => ?_) (fun c_77 => ?_)
                    · refine wp_aload_n dX11_hear_104 rfl ?_
                      refine wr_geti 12 dX11_hear_105 fl_X11_146 ⟨by decide, rfl⟩ ?_
                      refine wr_puti dX11_hear_108 (fs_X11_146 _) ⟨by decide, rfl⟩ rfl ?_
                      refine wp_iinc dX11_hear_111 rfl rfl ?_
                      refine wp_goto (tgt := 21) dX11_hear_114 rfl ?_
                      rw [show nI k + Int32.ofInt 1 = nI (k + 1) from nI_1 k]
                      refine fp_wp_h (h' := r_hp h0 m (r_sa p 13 k 0)) (by rw [r_si_same]) ?_
                      exact ih (k + 1) _ (ok.sa (by decide)) hc (by show k + 1 + n = p.1 28; omega)
                    · exact absurd ((nI_eq (b := 1) (by omega) (by decide)).mp c_77) hk1
                  · have hk1 : kind = 1 := (nI_eq (b := 1) (by omega) (by decide)).mp c_65
                    subst hk1
                    rw [if_pos rfl]
                    -- behind it nothing more is heard
                    have out : ∀ p2 : rs, p2.1 28 = p.1 28 → fp_wp G rm_X11_hear M_X11_hear 111 [some (.ref m), some (.int (nI 1)), some (.int (nI v)), some (.int 1), some (.int (nI k))] [] (r_hp h0 m p2) (fun r h' => r = none ∧ h' = r_hp h0 m p2) := by
                      intro p2 e28
                      refine wp_iinc dX11_hear_111 rfl rfl ?_
                      refine wp_goto (tgt := 21) dX11_hear_114 rfl ?_
                      refine wp_iload dX11_hear_21 rfl ?_
                      refine wp_aload_n dX11_hear_23 rfl ?_
                      refine wr_geti 28 dX11_hear_24 fl_X11_143 ⟨by decide, rfl⟩ ?_
                      refine wp_icmp_ge (tgt := 117) dX11_hear_27 rfl (fun c_27 => ?_) (fun c_27 => ?_)
                      · refine wp_vret dX11_hear_117 rfl ?_
                        exact ⟨rfl, rfl⟩
                      · refine wp_iload_n dX11_hear_30 rfl ?_
                        refine wp_if_ne (tgt := 117) dX11_hear_31 rfl (fun c_31 => ?_) (fun c_31 => ?_)
                        · refine wp_vret dX11_hear_117 rfl ?_
                          exact ⟨rfl, rfl⟩
                        · exact absurd c_31 (by decide)
                    refine wp_iconst (v := 1) dX11_hear_68 rfl ?_
                    refine wp_goto (tgt := 73) dX11_hear_69 rfl ?_
                    refine wp_istore_n dX11_hear_73 (Nat.le_of_ble_eq_true rfl) rfl ?_
                    refine wp_aload_n dX11_hear_74 rfl ?_
                    refine wp_iload_n dX11_hear_75 rfl ?_
                    refine wp_iconst (v := 1) dX11_hear_76 rfl ?_
                    refine wp_icmp_ne (tgt := 104) dX11_hear_77 rfl (fun c_77 => ?_) (fun c_77 => ?_)
                    · exact absurd rfl c_77
                    · refine wp_aload_n dX11_hear_80 rfl ?_
                      refine wr_geta 30 12 dX11_hear_81 fl_X11_49 ⟨by decide, rfl⟩ ?_
                      refine wp_iload dX11_hear_84 rfl ?_
                      refine wr_iald dX11_hear_86 ⟨by decide, rfl⟩ rfl hk200 (by decide) ?_
                      refine wp_aload_n dX11_hear_87 rfl ?_
                      refine wr_geti 12 dX11_hear_88 fl_X11_146 ⟨by decide, rfl⟩ ?_
                      refine wp_icmp_le (tgt := 104) dX11_hear_91 rfl (fun c_91 => ?_) (fun c_91 => ?_)
                      · have : p.2.1 12 k ≤ p.1 12 := (nI_leI (b := p.1 12) (by omega) (by omega)).mp c_91
                        refine wp_aload_n dX11_hear_104 rfl ?_
                        refine wr_geti 12 dX11_hear_105 fl_X11_146 ⟨by decide, rfl⟩ ?_
                        refine wr_puti dX11_hear_108 (fs_X11_146 _) ⟨by decide, rfl⟩ rfl ?_
                        rw [Nat.max_eq_right this]
                        exact out _ rfl
                      · have : ¬ p.2.1 12 k ≤ p.1 12 := fun z => c_91 (nI_le (b := p.1 12) z (by omega))
                        refine wp_aload_n dX11_hear_94 rfl ?_
                        refine wr_geta 30 12 dX11_hear_95 fl_X11_49 ⟨by decide, rfl⟩ ?_
                        refine wp_iload dX11_hear_98 rfl ?_
                        refine wr_iald dX11_hear_100 ⟨by decide, rfl⟩ rfl hk200 (by decide) ?_
                        refine wp_goto (tgt := 108) dX11_hear_101 rfl ?_
                        refine wr_puti dX11_hear_108 (fs_X11_146 _) ⟨by decide, rfl⟩ rfl ?_
                        rw [Nat.max_eq_left (by omega)]
                        exact out _ rfl
      exact loop (p.1 28) 0 p ok hc (by omega)
    · exact absurd ((nI_eq (b := 3) (by omega) (by decide)).mp c_2) h3
theorem ct_decode {p : rs} {k : Nat} (ok : rok p) (hk : k < 200) (h11 : p.2.1 11 k < 8) (h16 : p.1 16 < 4000) (h19 : p.1 19 < 2000) : fp_ct G rm_X11_decode M_X11_decode [.ref m, .int (nI k)] (r_hp h0 m p) (fun r h' => r = none ∧ h' = r_hp h0 m (r_dec p k)) := by
  have h12 := ok.2.1 12 k
  have o27 := ok.1 27
  have hlen : (r_tb 1 (p.2.1 11 k)).length = 1 := nb_len1 (by omega)
  refine fp_meth pn_X11 (Nat.le_of_ble_eq_true rfl) rfl ?_
  rw [r_dec]
  refine wp_aload_n dX11_decode_0 rfl ?_
  refine wr_geta 32 14 dX11_decode_1 fl_X11_55 ⟨by decide, rfl⟩ ?_
  refine wp_iload_n dX11_decode_4 rfl ?_
  refine wp_iconst (v := 2) dX11_decode_5 rfl ?_
  refine wr_iast dX11_decode_6 ⟨by decide, rfl⟩ rfl hk (by decide) (show (2 : Int32) = nI 2 from rfl) ?_
  refine wp_aload_n dX11_decode_7 rfl ?_
  refine wr_geta 30 12 dX11_decode_8 fl_X11_49 ⟨by decide, rfl⟩ ?_
  refine wp_iload_n dX11_decode_11 rfl ?_
  refine wr_iald dX11_decode_12 ⟨by decide, rfl⟩ rfl hk (by decide) ?_
  refine wp_if_le (tgt := 57) dX11_decode_13 rfl (fun c_13 => ?_) (fun c_13 => ?_)
  · have : p.2.1 12 k = 0 := by
      have := (nI_leI (a := p.2.1 12 k) (b := 0) (by omega) (by decide)).mp c_13
      omega
    rw [if_pos this]
    refine wp_vret dX11_decode_57 rfl ?_
    exact ⟨rfl, rfl⟩
  · have hne : p.2.1 12 k ≠ 0 := by
      intro e
      have e' : (r_sa p 14 k 2).2.1 12 k = 0 := e
      exact c_13 (by rw [e']; decide)
    rw [if_neg hne]
    have e11 : (r_sa p 14 k 2).2.1 11 k = p.2.1 11 k := rfl
    refine wp_aload_n dX11_decode_16 rfl ?_
    refine wp_iconst (v := 1) dX11_decode_17 rfl ?_
    refine wp_aload_n dX11_decode_18 rfl ?_
    refine wr_geta 29 11 dX11_decode_19 fl_X11_46 ⟨by decide, rfl⟩ ?_
    refine wp_iload_n dX11_decode_22 rfl ?_
    refine wr_iald dX11_decode_23 ⟨by decide, rfl⟩ rfl hk (by decide) ?_
    refine wp_callV (As := [.int (nI 1), .int (nI (p.2.1 11 k))]) (rest := []) dX11_decode_24 me_X11_tell cw_X11_210 rfl ⟨(Nat.le_of_ble_eq_true rfl), (Nat.le_of_ble_eq_true rfl)⟩ rfl rfl rfl (Nat.le_of_ble_eq_true rfl) r_at_m (ct_tell (Or.inl rfl) (by omega) (by show p.1 16 + _ ≤ 4000; omega) h19) (fun r h1 q => ?_)
    obtain ⟨rfl, rfl⟩ := q
    have t12 : (r_tell (r_sa p 14 k 2) 1 (p.2.1 11 k)).2.1 12 k = p.2.1 12 k := by
      have : (r_tell (r_sa p 14 k 2) 1 (p.2.1 11 k)).2.1 12 k = (r_lays (r_sa p 14 k 2) 1 (r_tb 1 (p.2.1 11 k))).2.1 12 k := by simp [r_tell, r_told, r_si, r_sa]
      rw [this, r_lays_a (by decide)]
      rfl
    have t27 : (r_tell (r_sa p 14 k 2) 1 (p.2.1 11 k)).1 27 = p.1 27 := by
      have : (r_tell (r_sa p 14 k 2) 1 (p.2.1 11 k)).1 27 = (r_lays (r_sa p 14 k 2) 1 (r_tb 1 (p.2.1 11 k))).1 27 := by simp [r_tell, r_told, r_si, r_sa]
      rw [this, r_lays_k (by decide)]
      rfl
    generalize r_tell (r_sa p 14 k 2) 1 (p.2.1 11 k) = p2 at t12 t27 ⊢
    refine wp_aload_n dX11_decode_27 rfl ?_
    refine wp_aload_n dX11_decode_28 rfl ?_
    refine wr_geta 30 12 dX11_decode_29 fl_X11_49 ⟨by decide, rfl⟩ ?_
    refine wp_iload_n dX11_decode_32 rfl ?_
    refine wr_iald dX11_decode_33 ⟨by decide, rfl⟩ rfl hk (by decide) ?_
    refine wp_aload_n dX11_decode_34 rfl ?_
    refine wr_geti 27 dX11_decode_35 fl_X11_213 ⟨by decide, rfl⟩ ?_
    refine wp_icmp_le (tgt := 50) dX11_decode_38 rfl (fun c_38 => ?_) (fun c_38 => ?_)
    · rw [t12, t27] at c_38
      have : p.2.1 12 k ≤ p.1 27 := (nI_leI (by omega) (by omega)).mp c_38
      refine wp_aload_n dX11_decode_50 rfl ?_
      refine wr_geti 27 dX11_decode_51 fl_X11_213 ⟨by decide, rfl⟩ ?_
      refine wr_puti dX11_decode_54 (fs_X11_213 _) ⟨by decide, rfl⟩ rfl ?_
      refine wp_vret dX11_decode_57 rfl ?_
      exact ⟨rfl, by rw [Nat.max_eq_right this, t27]⟩
    · rw [t12, t27] at c_38
      have : ¬ p.2.1 12 k ≤ p.1 27 := fun z => c_38 (nI_le z (by omega))
      refine wp_aload_n dX11_decode_41 rfl ?_
      refine wr_geta 30 12 dX11_decode_42 fl_X11_49 ⟨by decide, rfl⟩ ?_
      refine wp_iload_n dX11_decode_45 rfl ?_
      refine wr_iald dX11_decode_46 ⟨by decide, rfl⟩ rfl hk (by decide) ?_
      refine wp_goto (tgt := 54) dX11_decode_47 rfl ?_
      refine wr_puti dX11_decode_54 (fs_X11_213 _) ⟨by decide, rfl⟩ rfl ?_
      refine wp_vret dX11_decode_57 rfl ?_
      exact ⟨rfl, by rw [Nat.max_eq_left (by omega), t12]⟩
end RT
