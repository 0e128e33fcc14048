/-! Wire; Table: entries F .. C - 1 of nm, vl; each lies in slot j % 16 -/
def tsz (nm vl : Nat → Nat) (j : Nat) : Nat := 32 + bln (nm j) + bln (vl j)
def tsum (nm vl : Nat → Nat) (a : Nat) : Nat → Nat
  | 0 => 0
  | n + 1 => tsz nm vl a + tsum nm vl (a + 1) n
/-- n entries from j on, of size now: the first that stays beside a field of that size -/
def tbes (nm vl : Nat → Nat) (cap size : Nat) : Nat → Nat → Nat → Nat
  | 0, _, j => j
  | n + 1, now, j => if now + size ≤ cap then j else tbes nm vl cap size n (now - tsz nm vl j) (j + 1)
def tlast (nm vl : Nat → Nat) (F u v : Nat) (wv : Bool) : Nat → Option Nat
  | 0 => none
  | j + 1 => if j < F then none else if nm j = u ∧ (wv = false ∨ vl j = v) then some j else tlast nm vl F u v wv j
def tblx (h : fp_H) (t a cap : Nat) (nm vl : Nat → Nat) (F C S : Nat) : Prop := ∃ (n1 n2 n3 : Nat) (f1 f2 : Nat → Int64) (f3 : Nat → Int32), h.1 a = some (t, .inr (9, [.int (nI cap), .ref n1, .ref n2, .ref n3, .int (nI F), .int (nI C), .int (nI S)])) ∧ h.1 n1 = some (t, .inl (1, 16, .inr (.inl f1))) ∧ h.1 n2 = some (t, .inl (1, 16, .inr (.inl f2))) ∧ h.1 n3 = some (t, .inl (0, 16, .inl f3)) ∧ n1 ≠ n2 ∧ n1 ≠ n3 ∧ n2 ≠ n3 ∧ ∀ j, F ≤ j → j < C → f1 (j % 16) = lN (nm j) ∧ f2 (j % 16) = lN (vl j) ∧ f3 (j % 16) = nI (tsz nm vl j)
def tbl (h : fp_H) (t a cap : Nat) (nm vl : Nat → Nat) (F C S : Nat) : Prop := tblx h t a cap nm vl F C S ∧ cap ≤ 400 ∧ F ≤ C ∧ C ≤ 2400 ∧ S = tsum nm vl F (C - F) ∧ S ≤ cap ∧ ∀ j, j < C → nm j < 2 ^ 64 ∧ vl j < 2 ^ 64
theorem tbl.ex {h : fp_H} {t a cap F C S : Nat} {nm vl : Nat → Nat} (b : tbl h t a cap nm vl F C S) : tblx h t a cap nm vl F C S := b.1
theorem tbl.hcap {h : fp_H} {t a cap F C S : Nat} {nm vl : Nat → Nat} (b : tbl h t a cap nm vl F C S) : cap ≤ 400 := b.2.1
theorem tbl.hF {h : fp_H} {t a cap F C S : Nat} {nm vl : Nat → Nat} (b : tbl h t a cap nm vl F C S) : F ≤ C := b.2.2.1
theorem tbl.hC {h : fp_H} {t a cap F C S : Nat} {nm vl : Nat → Nat} (b : tbl h t a cap nm vl F C S) : C ≤ 2400 := b.2.2.2.1
theorem tbl.hS {h : fp_H} {t a cap F C S : Nat} {nm vl : Nat → Nat} (b : tbl h t a cap nm vl F C S) : S = tsum nm vl F (C - F) := b.2.2.2.2.1
theorem tbl.hsz {h : fp_H} {t a cap F C S : Nat} {nm vl : Nat → Nat} (b : tbl h t a cap nm vl F C S) : S ≤ cap := b.2.2.2.2.2.1
theorem tbl.hnm {h : fp_H} {t a cap F C S : Nat} {nm vl : Nat → Nat} (b : tbl h t a cap nm vl F C S) : ∀ j, j < C → nm j < 2 ^ 64 ∧ vl j < 2 ^ 64 := b.2.2.2.2.2.2
theorem tsz_ge (nm vl : Nat → Nat) (j : Nat) : 32 ≤ tsz nm vl j ∧ tsz nm vl j ≤ 48 := by
  have := bln_le (nm j); have := bln_le (vl j)
  unfold tsz
  omega
theorem tsum_ge (nm vl : Nat → Nat) : ∀ n a, 32 * n ≤ tsum nm vl a n := by
  intro n
  induction n with
  | zero => intro a; exact Nat.zero_le _
  | succ n ih => intro a; have := ih (a + 1); have := (tsz_ge nm vl a).1; simp only [tsum]; omega
theorem tbl.few {h : fp_H} {t a cap F C S : Nat} {nm vl : Nat → Nat} (b : tbl h t a cap nm vl F C S) : C ≤ F + 12 := by
  have := tsum_ge nm vl (C - F) F
  have := b.hS; have := b.hsz; have := b.hcap; have := b.hF
  omega
theorem tbl.kept {h h' : fp_H} {U : Nat → Prop} {t a cap F C S : Nat} {nm vl : Nat → Nat} (b : tbl h t a cap nm vl F C S) (hc : cf U h h') (hn : ¬ U t) : tbl h' t a cap nm vl F C S := by
  obtain ⟨⟨n1, n2, n3, f1, f2, f3, a1, a2, a3, a4, a5⟩, b1, b2, b3, b4, b5, b6⟩ := b
  exact ⟨⟨n1, n2, n3, f1, f2, f3, hc.at a1 hn, hc.at a2 hn, hc.at a3 hn, hc.at a4 hn, a5⟩, b1, b2, b3, b4, b5, b6⟩
theorem and15 (j : Nat) : nI j &&& 15 = nI (j % 16) := by
  rw [show (15 : Int32) = nI (2 ^ 4 - 1) from rfl, nx_and, Nat.and_two_pow_sub_one_eq_mod]
theorem dX9_init_0 : decode cX9_init 0 = .ok (.aload_n 0, 1) := by decide +kernel
theorem dX9_init_1 : decode cX9_init 1 = .ok (.invokespecial 3, 3) := by decide +kernel
theorem dX9_init_4 : decode cX9_init 4 = .ok (.aload_n 0, 1) := by decide +kernel
theorem dX9_init_5 : decode cX9_init 5 = .ok (.new 9, 3) := by decide +kernel
theorem dX9_init_8 : decode cX9_init 8 = .ok (.dup, 1) := by decide +kernel
theorem dX9_init_9 : decode cX9_init 9 = .ok (.bipush 64, 2) := by decide +kernel
theorem dX9_init_11 : decode cX9_init 11 = .ok (.invokespecial 11, 3) := by decide +kernel
theorem dX9_init_14 : decode cX9_init 14 = .ok (.putfield 14, 3) := by decide +kernel
theorem dX9_init_17 : decode cX9_init 17 = .ok (.aload_n 0, 1) := by decide +kernel
theorem dX9_init_18 : decode cX9_init 18 = .ok (.new 20, 3) := by decide +kernel
theorem dX9_init_21 : decode cX9_init 21 = .ok (.dup, 1) := by decide +kernel
theorem dX9_init_22 : decode cX9_init 22 = .ok (.aload_n 0, 1) := by decide +kernel
theorem dX9_init_23 : decode cX9_init 23 = .ok (.getfield 14, 3) := by decide +kernel
theorem dX9_init_26 : decode cX9_init 26 = .ok (.iconst 0, 1) := by decide +kernel
theorem dX9_init_27 : decode cX9_init 27 = .ok (.invokespecial 22, 3) := by decide +kernel
theorem dX9_init_30 : decode cX9_init 30 = .ok (.putfield 25, 3) := by decide +kernel
theorem dX9_init_33 : decode cX9_init 33 = .ok (.return_, 1) := by decide +kernel
theorem dX9_left_0 : decode cX9_left 0 = .ok (.aload_n 0, 1) := by decide +kernel
theorem dX9_left_1 : decode cX9_left 1 = .ok (.getfield 14, 3) := by decide +kernel
theorem dX9_left_4 : decode cX9_left 4 = .ok (.getfield 29, 3) := by decide +kernel
theorem dX9_left_7 : decode cX9_left 7 = .ok (.aload_n 0, 1) := by decide +kernel
theorem dX9_left_8 : decode cX9_left 8 = .ok (.getfield 25, 3) := by decide +kernel
theorem dX9_left_11 : decode cX9_left 11 = .ok (.getfield 33, 3) := by decide +kernel
theorem dX9_left_14 : decode cX9_left 14 = .ok (.isub, 1) := by decide +kernel
theorem dX9_left_15 : decode cX9_left 15 = .ok (.ireturn, 1) := by decide +kernel
theorem dX9_at_0 : decode cX9_at 0 = .ok (.iload_n 1, 1) := by decide +kernel
theorem dX9_at_1 : decode cX9_at 1 = .ok (.ifCond .lt 11, 3) := by decide +kernel
theorem dX9_at_4 : decode cX9_at 4 = .ok (.iload_n 1, 1) := by decide +kernel
theorem dX9_at_5 : decode cX9_at 5 = .ok (.aload_n 0, 1) := by decide +kernel
theorem dX9_at_6 : decode cX9_at 6 = .ok (.invokevirtual 36, 3) := by decide +kernel
theorem dX9_at_9 : decode cX9_at 9 = .ok (.if_icmp .lt 7, 3) := by decide +kernel
theorem dX9_at_12 : decode cX9_at 12 = .ok (.iconst (-1), 1) := by decide +kernel
theorem dX9_at_13 : decode cX9_at 13 = .ok (.goto 19, 3) := by decide +kernel
theorem dX9_at_16 : decode cX9_at 16 = .ok (.aload_n 0, 1) := by decide +kernel
theorem dX9_at_17 : decode cX9_at 17 = .ok (.getfield 14, 3) := by decide +kernel
theorem dX9_at_20 : decode cX9_at 20 = .ok (.aload_n 0, 1) := by decide +kernel
theorem dX9_at_21 : decode cX9_at 21 = .ok (.getfield 25, 3) := by decide +kernel
theorem dX9_at_24 : decode cX9_at 24 = .ok (.getfield 33, 3) := by decide +kernel
theorem dX9_at_27 : decode cX9_at 27 = .ok (.iload_n 1, 1) := by decide +kernel
theorem dX9_at_28 : decode cX9_at 28 = .ok (.iadd, 1) := by decide +kernel
theorem dX9_at_29 : decode cX9_at 29 = .ok (.invokevirtual 40, 3) := by decide +kernel
theorem dX9_at_32 : decode cX9_at 32 = .ok (.ireturn, 1) := by decide +kernel
theorem dX9_bring_0 : decode cX9_bring 0 = .ok (.iload_n 1, 1) := by decide +kernel
theorem dX9_bring_1 : decode cX9_bring 1 = .ok (.aload_n 0, 1) := by decide +kernel
theorem dX9_bring_2 : decode cX9_bring 2 = .ok (.invokevirtual 36, 3) := by decide +kernel
theorem dX9_bring_5 : decode cX9_bring 5 = .ok (.invokestatic 44, 3) := by decide +kernel
theorem dX9_bring_8 : decode cX9_bring 8 = .ok (.istore_n 2, 1) := by decide +kernel
theorem dX9_bring_9 : decode cX9_bring 9 = .ok (.aload_n 0, 1) := by decide +kernel
theorem dX9_bring_10 : decode cX9_bring 10 = .ok (.getfield 25, 3) := by decide +kernel
theorem dX9_bring_13 : decode cX9_bring 13 = .ok (.dup, 1) := by decide +kernel
theorem dX9_bring_14 : decode cX9_bring 14 = .ok (.getfield 33, 3) := by decide +kernel
theorem dX9_bring_17 : decode cX9_bring 17 = .ok (.iload_n 2, 1) := by decide +kernel
theorem dX9_bring_18 : decode cX9_bring 18 = .ok (.iadd, 1) := by decide +kernel
theorem dX9_bring_19 : decode cX9_bring 19 = .ok (.putfield 33, 3) := by decide +kernel
theorem dX9_bring_22 : decode cX9_bring 22 = .ok (.iload_n 2, 1) := by decide +kernel
theorem dX9_bring_23 : decode cX9_bring 23 = .ok (.ireturn, 1) := by decide +kernel
theorem dX8_init_0 : decode cX8_init 0 = .ok (.aload_n 0, 1) := by decide +kernel
theorem dX8_init_1 : decode cX8_init 1 = .ok (.invokespecial 3, 3) := by decide +kernel
theorem dX8_init_4 : decode cX8_init 4 = .ok (.aload_n 0, 1) := by decide +kernel
theorem dX8_init_5 : decode cX8_init 5 = .ok (.iload_n 1, 1) := by decide +kernel
theorem dX8_init_6 : decode cX8_init 6 = .ok (.putfield 9, 3) := by decide +kernel
theorem dX8_init_9 : decode cX8_init 9 = .ok (.aload_n 0, 1) := by decide +kernel
theorem dX8_init_10 : decode cX8_init 10 = .ok (.bipush 16, 2) := by decide +kernel
theorem dX8_init_12 : decode cX8_init 12 = .ok (.newarray .long, 2) := by decide +kernel
theorem dX8_init_14 : decode cX8_init 14 = .ok (.putfield 15, 3) := by decide +kernel
theorem dX8_init_17 : decode cX8_init 17 = .ok (.aload_n 0, 1) := by decide +kernel
theorem dX8_init_18 : decode cX8_init 18 = .ok (.bipush 16, 2) := by decide +kernel
theorem dX8_init_20 : decode cX8_init 20 = .ok (.newarray .long, 2) := by decide +kernel
theorem dX8_init_22 : decode cX8_init 22 = .ok (.putfield 19, 3) := by decide +kernel
theorem dX8_init_25 : decode cX8_init 25 = .ok (.aload_n 0, 1) := by decide +kernel
theorem dX8_init_26 : decode cX8_init 26 = .ok (.bipush 16, 2) := by decide +kernel
theorem dX8_init_28 : decode cX8_init 28 = .ok (.newarray .int, 2) := by decide +kernel
theorem dX8_init_30 : decode cX8_init 30 = .ok (.putfield 22, 3) := by decide +kernel
theorem dX8_init_33 : decode cX8_init 33 = .ok (.return_, 1) := by decide +kernel
theorem dX8_has_0 : decode cX8_has 0 = .ok (.iload_n 1, 1) := by decide +kernel
theorem dX8_has_1 : decode cX8_has 1 = .ok (.aload_n 0, 1) := by decide +kernel
theorem dX8_has_2 : decode cX8_has 2 = .ok (.getfield 26, 3) := by decide +kernel
theorem dX8_has_5 : decode cX8_has 5 = .ok (.if_icmp .lt 15, 3) := by decide +kernel
theorem dX8_has_8 : decode cX8_has 8 = .ok (.iload_n 1, 1) := by decide +kernel
theorem dX8_has_9 : decode cX8_has 9 = .ok (.aload_n 0, 1) := by decide +kernel
theorem dX8_has_10 : decode cX8_has 10 = .ok (.getfield 29, 3) := by decide +kernel
theorem dX8_has_13 : decode cX8_has 13 = .ok (.if_icmp .ge 7, 3) := by decide +kernel
theorem dX8_has_16 : decode cX8_has 16 = .ok (.iconst 1, 1) := by decide +kernel
theorem dX8_has_17 : decode cX8_has 17 = .ok (.goto 4, 3) := by decide +kernel
theorem dX8_has_20 : decode cX8_has 20 = .ok (.iconst 0, 1) := by decide +kernel
theorem dX8_has_21 : decode cX8_has 21 = .ok (.ireturn, 1) := by decide +kernel
theorem dX8_nameAt_0 : decode cX8_nameAt 0 = .ok (.aload_n 0, 1) := by decide +kernel
theorem dX8_nameAt_1 : decode cX8_nameAt 1 = .ok (.iload_n 1, 1) := by decide +kernel
theorem dX8_nameAt_2 : decode cX8_nameAt 2 = .ok (.invokevirtual 32, 3) := by decide +kernel
theorem dX8_nameAt_5 : decode cX8_nameAt 5 = .ok (.ifCond .eq 15, 3) := by decide +kernel
theorem dX8_nameAt_8 : decode cX8_nameAt 8 = .ok (.aload_n 0, 1) := by decide +kernel
theorem dX8_nameAt_9 : decode cX8_nameAt 9 = .ok (.getfield 15, 3) := by decide +kernel
theorem dX8_nameAt_12 : decode cX8_nameAt 12 = .ok (.iload_n 1, 1) := by decide +kernel
theorem dX8_nameAt_13 : decode cX8_nameAt 13 = .ok (.bipush 15, 2) := by decide +kernel
theorem dX8_nameAt_15 : decode cX8_nameAt 15 = .ok (.iand, 1) := by decide +kernel
theorem dX8_nameAt_16 : decode cX8_nameAt 16 = .ok (.laload, 1) := by decide +kernel
theorem dX8_nameAt_17 : decode cX8_nameAt 17 = .ok (.goto 6, 3) := by decide +kernel
theorem dX8_nameAt_20 : decode cX8_nameAt 20 = .ok (.ldc2_w 36, 3) := by decide +kernel
theorem dX8_nameAt_23 : decode cX8_nameAt 23 = .ok (.lreturn, 1) := by decide +kernel
theorem dX8_valueAt_0 : decode cX8_valueAt 0 = .ok (.aload_n 0, 1) := by decide +kernel
theorem dX8_valueAt_1 : decode cX8_valueAt 1 = .ok (.iload_n 1, 1) := by decide +kernel
theorem dX8_valueAt_2 : decode cX8_valueAt 2 = .ok (.invokevirtual 32, 3) := by decide +kernel
theorem dX8_valueAt_5 : decode cX8_valueAt 5 = .ok (.ifCond .eq 15, 3) := by decide +kernel
theorem dX8_valueAt_8 : decode cX8_valueAt 8 = .ok (.aload_n 0, 1) := by decide +kernel
theorem dX8_valueAt_9 : decode cX8_valueAt 9 = .ok (.getfield 19, 3) := by decide +kernel
theorem dX8_valueAt_12 : decode cX8_valueAt 12 = .ok (.iload_n 1, 1) := by decide +kernel
theorem dX8_valueAt_13 : decode cX8_valueAt 13 = .ok (.bipush 15, 2) := by decide +kernel
theorem dX8_valueAt_15 : decode cX8_valueAt 15 = .ok (.iand, 1) := by decide +kernel
theorem dX8_valueAt_16 : decode cX8_valueAt 16 = .ok (.laload, 1) := by decide +kernel
theorem dX8_valueAt_17 : decode cX8_valueAt 17 = .ok (.goto 6, 3) := by decide +kernel
theorem dX8_valueAt_20 : decode cX8_valueAt 20 = .ok (.ldc2_w 36, 3) := by decide +kernel
theorem dX8_valueAt_23 : decode cX8_valueAt 23 = .ok (.lreturn, 1) := by decide +kernel
theorem dX8_lastNamed_0 : decode cX8_lastNamed 0 = .ok (.aload_n 0, 1) := by decide +kernel
theorem dX8_lastNamed_1 : decode cX8_lastNamed 1 = .ok (.getfield 29, 3) := by decide +kernel
theorem dX8_lastNamed_4 : decode cX8_lastNamed 4 = .ok (.iconst 1, 1) := by decide +kernel
theorem dX8_lastNamed_5 : decode cX8_lastNamed 5 = .ok (.isub, 1) := by decide +kernel
theorem dX8_lastNamed_6 : decode cX8_lastNamed 6 = .ok (.istore_n 3, 1) := by decide +kernel
theorem dX8_lastNamed_7 : decode cX8_lastNamed 7 = .ok (.iload_n 3, 1) := by decide +kernel
theorem dX8_lastNamed_8 : decode cX8_lastNamed 8 = .ok (.aload_n 0, 1) := by decide +kernel
theorem dX8_lastNamed_9 : decode cX8_lastNamed 9 = .ok (.getfield 26, 3) := by decide +kernel
theorem dX8_lastNamed_12 : decode cX8_lastNamed 12 = .ok (.if_icmp .lt 21, 3) := by decide +kernel
theorem dX8_lastNamed_15 : decode cX8_lastNamed 15 = .ok (.aload_n 0, 1) := by decide +kernel
theorem dX8_lastNamed_16 : decode cX8_lastNamed 16 = .ok (.iload_n 3, 1) := by decide +kernel
theorem dX8_lastNamed_17 : decode cX8_lastNamed 17 = .ok (.invokevirtual 38, 3) := by decide +kernel
theorem dX8_lastNamed_20 : decode cX8_lastNamed 20 = .ok (.lload_n 1, 1) := by decide +kernel
theorem dX8_lastNamed_21 : decode cX8_lastNamed 21 = .ok (.lcmp, 1) := by decide +kernel
theorem dX8_lastNamed_22 : decode cX8_lastNamed 22 = .ok (.ifCond .ne 5, 3) := by decide +kernel
theorem dX8_lastNamed_25 : decode cX8_lastNamed 25 = .ok (.iload_n 3, 1) := by decide +kernel
theorem dX8_lastNamed_26 : decode cX8_lastNamed 26 = .ok (.ireturn, 1) := by decide +kernel
theorem dX8_lastNamed_27 : decode cX8_lastNamed 27 = .ok (.iinc 3 (-1), 3) := by decide +kernel
theorem dX8_lastNamed_30 : decode cX8_lastNamed 30 = .ok (.goto (-23), 3) := by decide +kernel
theorem dX8_lastNamed_33 : decode cX8_lastNamed 33 = .ok (.iconst (-1), 1) := by decide +kernel
theorem dX8_lastNamed_34 : decode cX8_lastNamed 34 = .ok (.ireturn, 1) := by decide +kernel
theorem dX8_lastOf_0 : decode cX8_lastOf 0 = .ok (.aload_n 0, 1) := by decide +kernel
theorem dX8_lastOf_1 : decode cX8_lastOf 1 = .ok (.getfield 29, 3) := by decide +kernel
theorem dX8_lastOf_4 : decode cX8_lastOf 4 = .ok (.iconst 1, 1) := by decide +kernel
theorem dX8_lastOf_5 : decode cX8_lastOf 5 = .ok (.isub, 1) := by decide +kernel
theorem dX8_lastOf_6 : decode cX8_lastOf 6 = .ok (.istore 5, 2) := by decide +kernel
theorem dX8_lastOf_8 : decode cX8_lastOf 8 = .ok (.iload 5, 2) := by decide +kernel
theorem dX8_lastOf_10 : decode cX8_lastOf 10 = .ok (.aload_n 0, 1) := by decide +kernel
theorem dX8_lastOf_11 : decode cX8_lastOf 11 = .ok (.getfield 26, 3) := by decide +kernel
theorem dX8_lastOf_14 : decode cX8_lastOf 14 = .ok (.if_icmp .lt 34, 3) := by decide +kernel
theorem dX8_lastOf_17 : decode cX8_lastOf 17 = .ok (.aload_n 0, 1) := by decide +kernel
theorem dX8_lastOf_18 : decode cX8_lastOf 18 = .ok (.iload 5, 2) := by decide +kernel
theorem dX8_lastOf_20 : decode cX8_lastOf 20 = .ok (.invokevirtual 38, 3) := by decide +kernel
theorem dX8_lastOf_23 : decode cX8_lastOf 23 = .ok (.lload_n 1, 1) := by decide +kernel
theorem dX8_lastOf_24 : decode cX8_lastOf 24 = .ok (.lcmp, 1) := by decide +kernel
theorem dX8_lastOf_25 : decode cX8_lastOf 25 = .ok (.ifCond .ne 17, 3) := by decide +kernel
theorem dX8_lastOf_28 : decode cX8_lastOf 28 = .ok (.aload_n 0, 1) := by decide +kernel
theorem dX8_lastOf_29 : decode cX8_lastOf 29 = .ok (.iload 5, 2) := by decide +kernel
theorem dX8_lastOf_31 : decode cX8_lastOf 31 = .ok (.invokevirtual 42, 3) := by decide +kernel
theorem dX8_lastOf_34 : decode cX8_lastOf 34 = .ok (.lload_n 3, 1) := by decide +kernel
theorem dX8_lastOf_35 : decode cX8_lastOf 35 = .ok (.lcmp, 1) := by decide +kernel
theorem dX8_lastOf_36 : decode cX8_lastOf 36 = .ok (.ifCond .ne 6, 3) := by decide +kernel
theorem dX8_lastOf_39 : decode cX8_lastOf 39 = .ok (.iload 5, 2) := by decide +kernel
theorem dX8_lastOf_41 : decode cX8_lastOf 41 = .ok (.ireturn, 1) := by decide +kernel
theorem dX8_lastOf_42 : decode cX8_lastOf 42 = .ok (.iinc 5 (-1), 3) := by decide +kernel
theorem dX8_lastOf_45 : decode cX8_lastOf 45 = .ok (.goto (-37), 3) := by decide +kernel
theorem dX8_lastOf_48 : decode cX8_lastOf 48 = .ok (.iconst (-1), 1) := by decide +kernel
theorem dX8_lastOf_49 : decode cX8_lastOf 49 = .ok (.ireturn, 1) := by decide +kernel
theorem dX8_firstBeside_0 : decode cX8_firstBeside 0 = .ok (.aload_n 0, 1) := by decide +kernel
theorem dX8_firstBeside_1 : decode cX8_firstBeside 1 = .ok (.getfield 45, 3) := by decide +kernel
theorem dX8_firstBeside_4 : decode cX8_firstBeside 4 = .ok (.istore_n 2, 1) := by decide +kernel
theorem dX8_firstBeside_5 : decode cX8_firstBeside 5 = .ok (.aload_n 0, 1) := by decide +kernel
theorem dX8_firstBeside_6 : decode cX8_firstBeside 6 = .ok (.getfield 26, 3) := by decide +kernel
theorem dX8_firstBeside_9 : decode cX8_firstBeside 9 = .ok (.istore_n 3, 1) := by decide +kernel
theorem dX8_firstBeside_10 : decode cX8_firstBeside 10 = .ok (.iload_n 3, 1) := by decide +kernel
theorem dX8_firstBeside_11 : decode cX8_firstBeside 11 = .ok (.aload_n 0, 1) := by decide +kernel
theorem dX8_firstBeside_12 : decode cX8_firstBeside 12 = .ok (.getfield 29, 3) := by decide +kernel
theorem dX8_firstBeside_15 : decode cX8_firstBeside 15 = .ok (.if_icmp .ge 33, 3) := by decide +kernel
theorem dX8_firstBeside_18 : decode cX8_firstBeside 18 = .ok (.iload_n 2, 1) := by decide +kernel
theorem dX8_firstBeside_19 : decode cX8_firstBeside 19 = .ok (.iload_n 1, 1) := by decide +kernel
theorem dX8_firstBeside_20 : decode cX8_firstBeside 20 = .ok (.iadd, 1) := by decide +kernel
theorem dX8_firstBeside_21 : decode cX8_firstBeside 21 = .ok (.aload_n 0, 1) := by decide +kernel
theorem dX8_firstBeside_22 : decode cX8_firstBeside 22 = .ok (.getfield 9, 3) := by decide +kernel
theorem dX8_firstBeside_25 : decode cX8_firstBeside 25 = .ok (.if_icmp .gt 5, 3) := by decide +kernel
theorem dX8_firstBeside_28 : decode cX8_firstBeside 28 = .ok (.iload_n 3, 1) := by decide +kernel
theorem dX8_firstBeside_29 : decode cX8_firstBeside 29 = .ok (.ireturn, 1) := by decide +kernel
theorem dX8_firstBeside_30 : decode cX8_firstBeside 30 = .ok (.iload_n 2, 1) := by decide +kernel
theorem dX8_firstBeside_31 : decode cX8_firstBeside 31 = .ok (.aload_n 0, 1) := by decide +kernel
theorem dX8_firstBeside_32 : decode cX8_firstBeside 32 = .ok (.getfield 22, 3) := by decide +kernel
theorem dX8_firstBeside_35 : decode cX8_firstBeside 35 = .ok (.iload_n 3, 1) := by decide +kernel
theorem dX8_firstBeside_36 : decode cX8_firstBeside 36 = .ok (.bipush 15, 2) := by decide +kernel
theorem dX8_firstBeside_38 : decode cX8_firstBeside 38 = .ok (.iand, 1) := by decide +kernel
theorem dX8_firstBeside_39 : decode cX8_firstBeside 39 = .ok (.iaload, 1) := by decide +kernel
theorem dX8_firstBeside_40 : decode cX8_firstBeside 40 = .ok (.isub, 1) := by decide +kernel
theorem dX8_firstBeside_41 : decode cX8_firstBeside 41 = .ok (.istore_n 2, 1) := by decide +kernel
theorem dX8_firstBeside_42 : decode cX8_firstBeside 42 = .ok (.iinc 3 1, 3) := by decide +kernel
theorem dX8_firstBeside_45 : decode cX8_firstBeside 45 = .ok (.goto (-35), 3) := by decide +kernel
theorem dX8_firstBeside_48 : decode cX8_firstBeside 48 = .ok (.aload_n 0, 1) := by decide +kernel
theorem dX8_firstBeside_49 : decode cX8_firstBeside 49 = .ok (.getfield 29, 3) := by decide +kernel
theorem dX8_firstBeside_52 : decode cX8_firstBeside 52 = .ok (.ireturn, 1) := by decide +kernel
theorem dX8_insert_0 : decode cX8_insert 0 = .ok (.lload_n 1, 1) := by decide +kernel
theorem dX8_insert_1 : decode cX8_insert 1 = .ok (.lload_n 3, 1) := by decide +kernel
theorem dX8_insert_2 : decode cX8_insert 2 = .ok (.invokestatic 48, 3) := by decide +kernel
theorem dX8_insert_5 : decode cX8_insert 5 = .ok (.istore 5, 2) := by decide +kernel
theorem dX8_insert_7 : decode cX8_insert 7 = .ok (.aload_n 0, 1) := by decide +kernel
theorem dX8_insert_8 : decode cX8_insert 8 = .ok (.iload 5, 2) := by decide +kernel
theorem dX8_insert_10 : decode cX8_insert 10 = .ok (.invokevirtual 52, 3) := by decide +kernel
theorem dX8_insert_13 : decode cX8_insert 13 = .ok (.istore 6, 2) := by decide +kernel
theorem dX8_insert_15 : decode cX8_insert 15 = .ok (.aload_n 0, 1) := by decide +kernel
theorem dX8_insert_16 : decode cX8_insert 16 = .ok (.getfield 26, 3) := by decide +kernel
theorem dX8_insert_19 : decode cX8_insert 19 = .ok (.istore 7, 2) := by decide +kernel
theorem dX8_insert_21 : decode cX8_insert 21 = .ok (.iload 7, 2) := by decide +kernel
theorem dX8_insert_23 : decode cX8_insert 23 = .ok (.iload 6, 2) := by decide +kernel
theorem dX8_insert_25 : decode cX8_insert 25 = .ok (.if_icmp .ge 28, 3) := by decide +kernel
theorem dX8_insert_28 : decode cX8_insert 28 = .ok (.aload_n 0, 1) := by decide +kernel
theorem dX8_insert_29 : decode cX8_insert 29 = .ok (.dup, 1) := by decide +kernel
theorem dX8_insert_30 : decode cX8_insert 30 = .ok (.getfield 45, 3) := by decide +kernel
theorem dX8_insert_33 : decode cX8_insert 33 = .ok (.aload_n 0, 1) := by decide +kernel
theorem dX8_insert_34 : decode cX8_insert 34 = .ok (.getfield 22, 3) := by decide +kernel
theorem dX8_insert_37 : decode cX8_insert 37 = .ok (.iload 7, 2) := by decide +kernel
theorem dX8_insert_39 : decode cX8_insert 39 = .ok (.bipush 15, 2) := by decide +kernel
theorem dX8_insert_41 : decode cX8_insert 41 = .ok (.iand, 1) := by decide +kernel
theorem dX8_insert_42 : decode cX8_insert 42 = .ok (.iaload, 1) := by decide +kernel
theorem dX8_insert_43 : decode cX8_insert 43 = .ok (.isub, 1) := by decide +kernel
theorem dX8_insert_44 : decode cX8_insert 44 = .ok (.putfield 45, 3) := by decide +kernel
theorem dX8_insert_47 : decode cX8_insert 47 = .ok (.iinc 7 1, 3) := by decide +kernel
theorem dX8_insert_50 : decode cX8_insert 50 = .ok (.goto (-29), 3) := by decide +kernel
theorem dX8_insert_53 : decode cX8_insert 53 = .ok (.aload_n 0, 1) := by decide +kernel
theorem dX8_insert_54 : decode cX8_insert 54 = .ok (.iload 6, 2) := by decide +kernel
theorem dX8_insert_56 : decode cX8_insert 56 = .ok (.putfield 26, 3) := by decide +kernel
theorem dX8_insert_59 : decode cX8_insert 59 = .ok (.aload_n 0, 1) := by decide +kernel
theorem dX8_insert_60 : decode cX8_insert 60 = .ok (.getfield 29, 3) := by decide +kernel
theorem dX8_insert_63 : decode cX8_insert 63 = .ok (.bipush 15, 2) := by decide +kernel
theorem dX8_insert_65 : decode cX8_insert 65 = .ok (.iand, 1) := by decide +kernel
theorem dX8_insert_66 : decode cX8_insert 66 = .ok (.istore 7, 2) := by decide +kernel
theorem dX8_insert_68 : decode cX8_insert 68 = .ok (.aload_n 0, 1) := by decide +kernel
theorem dX8_insert_69 : decode cX8_insert 69 = .ok (.getfield 15, 3) := by decide +kernel
theorem dX8_insert_72 : decode cX8_insert 72 = .ok (.iload 7, 2) := by decide +kernel
theorem dX8_insert_74 : decode cX8_insert 74 = .ok (.lload_n 1, 1) := by decide +kernel
theorem dX8_insert_75 : decode cX8_insert 75 = .ok (.lastore, 1) := by decide +kernel
theorem dX8_insert_76 : decode cX8_insert 76 = .ok (.aload_n 0, 1) := by decide +kernel
theorem dX8_insert_77 : decode cX8_insert 77 = .ok (.getfield 19, 3) := by decide +kernel
theorem dX8_insert_80 : decode cX8_insert 80 = .ok (.iload 7, 2) := by decide +kernel
theorem dX8_insert_82 : decode cX8_insert 82 = .ok (.lload_n 3, 1) := by decide +kernel
theorem dX8_insert_83 : decode cX8_insert 83 = .ok (.lastore, 1) := by decide +kernel
theorem dX8_insert_84 : decode cX8_insert 84 = .ok (.aload_n 0, 1) := by decide +kernel
theorem dX8_insert_85 : decode cX8_insert 85 = .ok (.getfield 22, 3) := by decide +kernel
theorem dX8_insert_88 : decode cX8_insert 88 = .ok (.iload 7, 2) := by decide +kernel
theorem dX8_insert_90 : decode cX8_insert 90 = .ok (.iload 5, 2) := by decide +kernel
theorem dX8_insert_92 : decode cX8_insert 92 = .ok (.iastore, 1) := by decide +kernel
theorem dX8_insert_93 : decode cX8_insert 93 = .ok (.aload_n 0, 1) := by decide +kernel
theorem dX8_insert_94 : decode cX8_insert 94 = .ok (.dup, 1) := by decide +kernel
theorem dX8_insert_95 : decode cX8_insert 95 = .ok (.getfield 29, 3) := by decide +kernel
theorem dX8_insert_98 : decode cX8_insert 98 = .ok (.iconst 1, 1) := by decide +kernel
theorem dX8_insert_99 : decode cX8_insert 99 = .ok (.iadd, 1) := by decide +kernel
theorem dX8_insert_100 : decode cX8_insert 100 = .ok (.putfield 29, 3) := by decide +kernel
theorem dX8_insert_103 : decode cX8_insert 103 = .ok (.aload_n 0, 1) := by decide +kernel
theorem dX8_insert_104 : decode cX8_insert 104 = .ok (.dup, 1) := by decide +kernel
theorem dX8_insert_105 : decode cX8_insert 105 = .ok (.getfield 45, 3) := by decide +kernel
theorem dX8_insert_108 : decode cX8_insert 108 = .ok (.iload 5, 2) := by decide +kernel
theorem dX8_insert_110 : decode cX8_insert 110 = .ok (.iadd, 1) := by decide +kernel
theorem dX8_insert_111 : decode cX8_insert 111 = .ok (.putfield 45, 3) := by decide +kernel
theorem dX8_insert_114 : decode cX8_insert 114 = .ok (.return_, 1) := by decide +kernel
section CT
variable {G : fp_G} {h : fp_H} {t a cap F C S : Nat} {nm vl : Nat → Nat}
theorem cc_has {x : Int32} (b : tbl h t a cap nm vl F C S) : fp_ct G rm_X8_has M_X8_has [.ref a, .int x] h (fun r h' => h' = h ∧ ((r = some (.int 0) ∧ ¬ ∃ j, F ≤ j ∧ j < C ∧ x = nI j) ∨ (r = some (.int 1) ∧ ∃ j, F ≤ j ∧ j < C ∧ x = nI j))) := by
  obtain ⟨n1, n2, n3, f1, f2, f3, a1, -⟩ := b.ex
  have hC := b.hC
  have hF := b.hF
  refine fp_meth pn_X8 (Nat.le_of_ble_eq_true rfl) rfl ?_
  refine wp_iload_n dX8_has_0 rfl ?_
  refine wp_aload_n dX8_has_1 rfl ?_
  refine wp_getf dX8_has_2 fl_X8_26 a1 rfl ?_
  refine wp_icmp_lt (tgt := 20) dX8_has_5 rfl (fun c_5 => ?_) (fun c_5 => ?_)
  · refine wp_iconst (v := 0) dX8_has_20 rfl ?_
    refine wp_iret dX8_has_21 rfl rfl ?_
    refine ⟨rfl, Or.inl ⟨rfl, ?_⟩⟩
    rintro ⟨j, h1, h2, rfl⟩
    exact nI_nlt h1 (by omega) c_5
  · refine wp_iload_n dX8_has_8 rfl ?_
    refine wp_aload_n dX8_has_9 rfl ?_
    refine wp_getf dX8_has_10 fl_X8_29 a1 rfl ?_
    refine wp_icmp_ge (tgt := 20) dX8_has_13 rfl (fun c_13 => ?_) (fun c_13 => ?_)
    · refine wp_iconst (v := 0) dX8_has_20 rfl ?_
      refine wp_iret dX8_has_21 rfl rfl ?_
      refine ⟨rfl, Or.inl ⟨rfl, ?_⟩⟩
      rintro ⟨j, h1, h2, rfl⟩
      exact nI_ge h2 (by omega) c_13
    · refine wp_iconst (v := 1) dX8_has_16 rfl ?_
      refine wp_goto (tgt := 21) dX8_has_17 rfl ?_
      refine wp_iret dX8_has_21 rfl rfl ?_
      refine ⟨rfl, Or.inr ⟨rfl, ?_⟩⟩
      obtain ⟨j, hj, rfl⟩ := nI_of (x := x) (fun q => c_5 (by
        have h1 := Int32.lt_iff_toInt_lt.mp q
        apply Int32.lt_iff_toInt_lt.mpr
        rw [nI_toInt (by omega)]
        have : (0 : Int32).toInt = 0 := rfl
        omega))
      refine ⟨j, ?_, ?_, rfl⟩
      · rcases Nat.lt_or_ge j F with q | q
        · exact absurd (nI_lt q (by omega)) c_5
        · exact q
      · rcases Nat.lt_or_ge j C with q | q
        · exact q
        · exact absurd (nI_le q hj) c_13
theorem cc_nameAt {x : Int32} (b : tbl h t a cap nm vl F C S) : fp_ct G rm_X8_nameAt M_X8_nameAt [.ref a, .int x] h (fun r h' => h' = h ∧ (((¬ ∃ j, F ≤ j ∧ j < C ∧ x = nI j) ∧ r = some (.long (-1))) ∨ ∃ j, F ≤ j ∧ j < C ∧ x = nI j ∧ r = some (.long (lN (nm j))))) := by
  obtain ⟨n1, n2, n3, f1, f2, f3, a1, a2, a3, a4, -, -, -, a5⟩ := b.ex
  refine fp_meth pn_X8 (Nat.le_of_ble_eq_true rfl) rfl ?_
  refine wp_aload_n dX8_nameAt_0 rfl ?_
  refine wp_iload_n dX8_nameAt_1 rfl ?_
  refine wp_callV (As := [.int x]) (rest := []) dX8_nameAt_2 me_X8_has cw_X8_32 rfl ⟨(Nat.le_of_ble_eq_true rfl), (Nat.le_of_ble_eq_true rfl)⟩ rfl rfl rfl (Nat.le_of_ble_eq_true rfl) a1 (cc_has b) (fun r h1 q => ?_)
  obtain ⟨rfl, ⟨rfl, q⟩ | ⟨rfl, j, q1, q2, rfl⟩⟩ := q
  · refine wp_if_eq (tgt := 20) dX8_nameAt_5 rfl (fun c_5 => ?_) (fun c_5 => ?_)
    · refine wp_ldc2 dX8_nameAt_20 kc_X8_36 ?_
      refine wp_lret dX8_nameAt_23 rfl ?_
      exact ⟨rfl, Or.inl ⟨q, rfl⟩⟩
    · exact absurd rfl c_5
  · refine wp_if_eq (tgt := 20) dX8_nameAt_5 rfl (fun c_5 => ?_) (fun c_5 => ?_)
    · exact absurd c_5 (by decide)
    · refine wp_aload_n dX8_nameAt_8 rfl ?_
      refine wp_getf dX8_nameAt_9 fl_X8_15 a1 rfl ?_
      refine wp_iload_n dX8_nameAt_12 rfl ?_
      refine wp_bipush (v := 15) dX8_nameAt_13 rfl ?_
      refine wp_iand dX8_nameAt_15 ?_
      rw [and15]
      refine wp_lald dX8_nameAt_16 rfl a2 (vp_in_nI (by omega) (by omega)) ?_
      refine wp_goto (tgt := 23) dX8_nameAt_17 rfl ?_
      refine wp_lret dX8_nameAt_23 rfl ?_
      refine ⟨rfl, Or.inr ⟨j, q1, q2, rfl, ?_⟩⟩
      rw [nI_clamp (by omega), (a5 j q1 q2).1]
theorem cc_valueAt {x : Int32} (b : tbl h t a cap nm vl F C S) : fp_ct G rm_X8_valueAt M_X8_valueAt [.ref a, .int x] h (fun r h' => h' = h ∧ (((¬ ∃ j, F ≤ j ∧ j < C ∧ x = nI j) ∧ r = some (.long (-1))) ∨ ∃ j, F ≤ j ∧ j < C ∧ x = nI j ∧ r = some (.long (lN (vl j))))) := by
  obtain ⟨n1, n2, n3, f1, f2, f3, a1, a2, a3, a4, -, -, -, a5⟩ := b.ex
  refine fp_meth pn_X8 (Nat.le_of_ble_eq_true rfl) rfl ?_
  refine wp_aload_n dX8_valueAt_0 rfl ?_
  refine wp_iload_n dX8_valueAt_1 rfl ?_
  refine wp_callV (As := [.int x]) (rest := []) dX8_valueAt_2 me_X8_has cw_X8_32 rfl ⟨(Nat.le_of_ble_eq_true rfl), (Nat.le_of_ble_eq_true rfl)⟩ rfl rfl rfl (Nat.le_of_ble_eq_true rfl) a1 (cc_has b) (fun r h1 q => ?_)
  obtain ⟨rfl, ⟨rfl, q⟩ | ⟨rfl, j, q1, q2, rfl⟩⟩ := q
  · refine wp_if_eq (tgt := 20) dX8_valueAt_5 rfl (fun c_5 => ?_) (fun c_5 => ?_)
    · refine wp_ldc2 dX8_valueAt_20 kc_X8_36 ?_
      refine wp_lret dX8_valueAt_23 rfl ?_
      exact ⟨rfl, Or.inl ⟨q, rfl⟩⟩
    · exact absurd rfl c_5
  · refine wp_if_eq (tgt := 20) dX8_valueAt_5 rfl (fun c_5 => ?_) (fun c_5 => ?_)
    · exact absurd c_5 (by decide)
    · refine wp_aload_n dX8_valueAt_8 rfl ?_
      refine wp_getf dX8_valueAt_9 fl_X8_19 a1 rfl ?_
      refine wp_iload_n dX8_valueAt_12 rfl ?_
      refine wp_bipush (v := 15) dX8_valueAt_13 rfl ?_
      refine wp_iand dX8_valueAt_15 ?_
      rw [and15]
      refine wp_lald dX8_valueAt_16 rfl a3 (vp_in_nI (by omega) (by omega)) ?_
      refine wp_goto (tgt := 23) dX8_valueAt_17 rfl ?_
      refine wp_lret dX8_valueAt_23 rfl ?_
      refine ⟨rfl, Or.inr ⟨j, q1, q2, rfl, ?_⟩⟩
      rw [nI_clamp (by omega), (a5 j q1 q2).2.1]
theorem cc_nameIn {j : Nat} (b : tbl h t a cap nm vl F C S) (h1 : F ≤ j) (h2 : j < C) : fp_ct G rm_X8_nameAt M_X8_nameAt [.ref a, .int (nI j)] h (fun r h' => h' = h ∧ r = some (.long (lN (nm j)))) := by
  have hC := b.hC
  refine (cc_nameAt b).mono (fun r h' q => ?_)
  obtain ⟨e, ⟨q, -⟩ | ⟨i, q1, q2, q3, q4⟩⟩ := q
  · exact absurd ⟨j, h1, h2, rfl⟩ q
  · have : j = i := (nI_eq (by omega) (by omega)).mp q3
    subst this
    exact ⟨e, q4⟩
theorem cc_valueIn {j : Nat} (b : tbl h t a cap nm vl F C S) (h1 : F ≤ j) (h2 : j < C) : fp_ct G rm_X8_valueAt M_X8_valueAt [.ref a, .int (nI j)] h (fun r h' => h' = h ∧ r = some (.long (lN (vl j)))) := by
  have hC := b.hC
  refine (cc_valueAt b).mono (fun r h' q => ?_)
  obtain ⟨e, ⟨q, -⟩ | ⟨i, q1, q2, q3, q4⟩⟩ := q
  · exact absurd ⟨j, h1, h2, rfl⟩ q
  · have : j = i := (nI_eq (by omega) (by omega)).mp q3
    subst this
    exact ⟨e, q4⟩
theorem cc_lastNamed {u : Nat} (b : tbl h t a cap nm vl F C S) (hu : u < 2 ^ 64) : fp_ct G rm_X8_lastNamed M_X8_lastNamed [.ref a, .long (lN u)] h (fun r h' => h' = h ∧ r = some (.int (oI (tlast nm vl F u 0 false C)))) := by
  obtain ⟨n1, n2, n3, f1, f2, f3, a1, -⟩ := b.ex
  have hC := b.hC
  have hF := b.hF
  refine fp_meth pn_X8 (Nat.le_of_ble_eq_true rfl) rfl ?_
  refine wp_aload_n dX8_lastNamed_0 rfl ?_
  refine wp_getf dX8_lastNamed_1 fl_X8_29 a1 rfl ?_
  refine wp_iconst (v := 1) dX8_lastNamed_4 rfl ?_
  refine wp_isub dX8_lastNamed_5 ?_
  refine wp_istore_n dX8_lastNamed_6 (Nat.le_of_ble_eq_true rfl) rfl ?_
  have loop : ∀ (j : Nat), j ≤ C → fp_wp G rm_X8_lastNamed M_X8_lastNamed 7 [some (.ref a), some (.long (lN u)), none, some (.int (nI j - 1))] [] h (fun r h' => h' = h ∧ r = some (.int (oI (tlast nm vl F u 0 false j)))) := by
    intro j
    induction j with
    | zero =>
      intro _
      refine wp_iload_n dX8_lastNamed_7 rfl ?_
      refine wp_aload_n dX8_lastNamed_8 rfl ?_
      refine wp_getf dX8_lastNamed_9 fl_X8_26 a1 rfl ?_
      refine wp_icmp_lt (tgt := 33) dX8_lastNamed_12 rfl (fun c_12 => ?_) (fun c_12 => ?_)
      · refine wp_iconst (v := (-1)) dX8_lastNamed_33 rfl ?_
        refine wp_iret dX8_lastNamed_34 rfl rfl ?_
        exact ⟨rfl, rfl⟩
      · refine absurd ?_ c_12
        rw [show nI 0 - 1 = -1 from rfl]
        apply Int32.lt_iff_toInt_lt.mpr
        rw [nI_toInt (by omega)]
        have : (-1 : Int32).toInt = -1 := rfl
        omega
    | succ j ih =>
      intro hj
      rw [nI_pred, tlast]
      refine wp_iload_n dX8_lastNamed_7 rfl ?_
      refine wp_aload_n dX8_lastNamed_8 rfl ?_
      refine wp_getf dX8_lastNamed_9 fl_X8_26 a1 rfl ?_
      refine wp_icmp_lt (tgt := 33) dX8_lastNamed_12 rfl (fun c_12 => ?_) (fun c_12 => ?_)
      · have : j < F := (nI_ltI (by omega) (by omega)).mp c_12
        rw [if_pos this]
        refine wp_iconst (v := (-1)) dX8_lastNamed_33 rfl ?_
        refine wp_iret dX8_lastNamed_34 rfl rfl ?_
        exact ⟨rfl, rfl⟩
      · have hge : ¬ j < F := fun q => c_12 (nI_lt q (by omega))
        rw [if_neg hge]
        refine wp_aload_n dX8_lastNamed_15 rfl ?_
        refine wp_iload_n dX8_lastNamed_16 rfl ?_
        refine wp_callV (As := [.int (nI j)]) (rest := []) dX8_lastNamed_17 me_X8_nameAt cw_X8_38 rfl ⟨(Nat.le_of_ble_eq_true rfl), (Nat.le_of_ble_eq_true rfl)⟩ rfl rfl rfl (Nat.le_of_ble_eq_true rfl) a1 (cc_nameIn b (by omega) (by omega)) (fun r h1 q => ?_)
        obtain ⟨rfl, rfl⟩ := q
        refine wp_lload_n dX8_lastNamed_20 rfl ?_
        refine wp_lcmp dX8_lastNamed_21 ?_
        refine wp_if_ne (tgt := 27) dX8_lastNamed_22 rfl (fun c_22 => ?_) (fun c_22 => ?_)
        · rw [cmp0, lN_inj (b.hnm j (by omega)).1 hu] at c_22
          rw [if_neg (fun z => c_22 z.1)]
          refine wp_iinc dX8_lastNamed_27 rfl rfl ?_
          refine wp_goto (tgt := 7) dX8_lastNamed_30 rfl ?_
          rw [dec1]
          exact ih (by omega)
        · have c := c_22
          rw [cmp0, lN_inj (b.hnm j (by omega)).1 hu] at c
          rw [if_pos ⟨c, Or.inl rfl⟩]
          refine wp_iload_n dX8_lastNamed_25 rfl ?_
          refine wp_iret dX8_lastNamed_26 rfl rfl ?_
          exact ⟨rfl, rfl⟩
  exact loop C (Nat.le_refl _)
theorem cc_lastOf {u v : Nat} (b : tbl h t a cap nm vl F C S) (hu : u < 2 ^ 64) (hv : v < 2 ^ 64) : fp_ct G rm_X8_lastOf M_X8_lastOf [.ref a, .long (lN u), .long (lN v)] h (fun r h' => h' = h ∧ r = some (.int (oI (tlast nm vl F u v true C)))) := by
  obtain ⟨n1, n2, n3, f1, f2, f3, a1, -⟩ := b.ex
  have hC := b.hC
  have hF := b.hF
  refine fp_meth pn_X8 (Nat.le_of_ble_eq_true rfl) rfl ?_
  refine wp_aload_n dX8_lastOf_0 rfl ?_
  refine wp_getf dX8_lastOf_1 fl_X8_29 a1 rfl ?_
  refine wp_iconst (v := 1) dX8_lastOf_4 rfl ?_
  refine wp_isub dX8_lastOf_5 ?_
  refine wp_istore dX8_lastOf_6 (Nat.le_of_ble_eq_true rfl) rfl ?_
  have loop : ∀ (j : Nat), j ≤ C → fp_wp G rm_X8_lastOf M_X8_lastOf 8 [some (.ref a), some (.long (lN u)), none, some (.long (lN v)), none, some (.int (nI j - 1))] [] h (fun r h' => h' = h ∧ r = some (.int (oI (tlast nm vl F u v true j)))) := by
    intro j
    induction j with
    | zero =>
      intro _
      refine wp_iload dX8_lastOf_8 rfl ?_
      refine wp_aload_n dX8_lastOf_10 rfl ?_
      refine wp_getf dX8_lastOf_11 fl_X8_26 a1 rfl ?_
      refine wp_icmp_lt (tgt := 48) dX8_lastOf_14 rfl (fun c_14 => ?_) (fun c_14 => ?_)
      · refine wp_iconst (v := (-1)) dX8_lastOf_48 rfl ?_
        refine wp_iret dX8_lastOf_49 rfl rfl ?_
        exact ⟨rfl, rfl⟩
      · refine absurd ?_ c_14
        rw [show nI 0 - 1 = -1 from rfl]
        apply Int32.lt_iff_toInt_lt.mpr
        rw [nI_toInt (by omega)]
        have : (-1 : Int32).toInt = -1 := rfl
        omega
    | succ j ih =>
      intro hj
      rw [nI_pred, tlast]
      refine wp_iload dX8_lastOf_8 rfl ?_
      refine wp_aload_n dX8_lastOf_10 rfl ?_
      refine wp_getf dX8_lastOf_11 fl_X8_26 a1 rfl ?_
      refine wp_icmp_lt (tgt := 48) dX8_lastOf_14 rfl (fun c_14 => ?_) (fun c_14 => ?_)
      · have : j < F := (nI_ltI (by omega) (by omega)).mp c_14
        rw [if_pos this]
        refine wp_iconst (v := (-1)) dX8_lastOf_48 rfl ?_
        refine wp_iret dX8_lastOf_49 rfl rfl ?_
        exact ⟨rfl, rfl⟩
      · have hge : ¬ j < F := fun q => c_14 (nI_lt q (by omega))
        rw [if_neg hge]
        refine wp_aload_n dX8_lastOf_17 rfl ?_
        refine wp_iload dX8_lastOf_18 rfl ?_
        refine wp_callV (As := [.int (nI j)]) (rest := []) dX8_lastOf_20 me_X8_nameAt cw_X8_38 rfl ⟨(Nat.le_of_ble_eq_true rfl), (Nat.le_of_ble_eq_true rfl)⟩ rfl rfl rfl (Nat.le_of_ble_eq_true rfl) a1 (cc_nameIn b (by omega) (by omega)) (fun r h1 q => ?_)
        obtain ⟨rfl, rfl⟩ := q
        refine wp_lload_n dX8_lastOf_23 rfl ?_
        refine wp_lcmp dX8_lastOf_24 ?_
        refine wp_if_ne (tgt := 42) dX8_lastOf_25 rfl (fun c_25 => ?_) (fun c_25 => ?_)
        · rw [cmp0, lN_inj (b.hnm j (by omega)).1 hu] at c_25
          rw [if_neg (fun z => c_25 z.1)]
          refine wp_iinc dX8_lastOf_42 rfl rfl ?_
          refine wp_goto (tgt := 8) dX8_lastOf_45 rfl ?_
          rw [dec1]
          exact ih (by omega)
        · have c := c_25
          rw [cmp0, lN_inj (b.hnm j (by omega)).1 hu] at c
          refine wp_aload_n dX8_lastOf_28 rfl ?_
          refine wp_iload dX8_lastOf_29 rfl ?_
          refine wp_callV (As := [.int (nI j)]) (rest := []) dX8_lastOf_31 me_X8_valueAt cw_X8_42 rfl ⟨(Nat.le_of_ble_eq_true rfl), (Nat.le_of_ble_eq_true rfl)⟩ rfl rfl rfl (Nat.le_of_ble_eq_true rfl) a1 (cc_valueIn b (by omega) (by omega)) (fun r h1 q => ?_)
          obtain ⟨rfl, rfl⟩ := q
          refine wp_lload_n dX8_lastOf_34 rfl ?_
          refine wp_lcmp dX8_lastOf_35 ?_
          refine wp_if_ne (tgt := 42) dX8_lastOf_36 rfl (fun c_36 => ?_) (fun c_36 => ?_)
          · rw [cmp0, lN_inj (b.hnm j (by omega)).2 hv] at c_36
            rw [if_neg (fun z => by rcases z.2 with z | z; cases z; exact c_36 z)]
            refine wp_iinc dX8_lastOf_42 rfl rfl ?_
            refine wp_goto (tgt := 8) dX8_lastOf_45 rfl ?_
            rw [dec1]
            exact ih (by omega)
          · have c2 := c_36
            rw [cmp0, lN_inj (b.hnm j (by omega)).2 hv] at c2
            rw [if_pos ⟨c, Or.inr c2⟩]
            refine wp_iload dX8_lastOf_39 rfl ?_
            refine wp_iret dX8_lastOf_41 rfl rfl ?_
            exact ⟨rfl, rfl⟩
  exact loop C (Nat.le_refl _)
theorem cc_beside {size : Nat} (b : tbl h t a cap nm vl F C S) (hs : size ≤ 400) : fp_ct G rm_X8_firstBeside M_X8_firstBeside [.ref a, .int (nI size)] h (fun r h' => h' = h ∧ r = some (.int (nI (tbes nm vl cap size (C - F) S F)))) := by
  obtain ⟨n1, n2, n3, f1, f2, f3, a1, a2, a3, a4, -, -, -, a5⟩ := b.ex
  have hC := b.hC
  have hF := b.hF
  have hcap := b.hcap
  have hS := b.hS
  have hsz := b.hsz
  refine fp_meth pn_X8 (Nat.le_of_ble_eq_true rfl) rfl ?_
  refine wp_aload_n dX8_firstBeside_0 rfl ?_
  refine wp_getf dX8_firstBeside_1 fl_X8_45 a1 rfl ?_
  refine wp_istore_n dX8_firstBeside_4 (Nat.le_of_ble_eq_true rfl) rfl ?_
  refine wp_aload_n dX8_firstBeside_5 rfl ?_
  refine wp_getf dX8_firstBeside_6 fl_X8_26 a1 rfl ?_
  refine wp_istore_n dX8_firstBeside_9 (Nat.le_of_ble_eq_true rfl) rfl ?_
  have loop : ∀ (n j now : Nat), n + j = C → F ≤ j → now = tsum nm vl j n → now ≤ 400 → fp_wp G rm_X8_firstBeside M_X8_firstBeside 10 [some (.ref a), some (.int (nI size)), some (.int (nI now)), some (.int (nI j))] [] h (fun r h' => h' = h ∧ r = some (.int (nI (tbes nm vl cap size n now j)))) := by
    intro n
    induction n with
    | zero =>
      intro j now hj hFj hnow hn4
      have : j = C := by omega
      subst this
      refine wp_iload_n dX8_firstBeside_10 rfl ?_
      refine wp_aload_n dX8_firstBeside_11 rfl ?_
      refine wp_getf dX8_firstBeside_12 fl_X8_29 a1 rfl ?_
      refine wp_icmp_ge (tgt := 48) dX8_firstBeside_15 rfl (fun c_15 => ?_) (fun c_15 => ?_)
      · refine wp_aload_n dX8_firstBeside_48 rfl ?_
        refine wp_getf dX8_firstBeside_49 fl_X8_29 a1 rfl ?_
        refine wp_iret dX8_firstBeside_52 rfl rfl ?_
        exact ⟨rfl, rfl⟩
      · exact absurd (nI_le (Nat.le_refl _) (by omega)) c_15
    | succ n ih =>
      intro j now hj hFj hnow hn4
      rw [tsum] at hnow
      have hle := (tsz_ge nm vl j)
      refine wp_iload_n dX8_firstBeside_10 rfl ?_
      refine wp_aload_n dX8_firstBeside_11 rfl ?_
      refine wp_getf dX8_firstBeside_12 fl_X8_29 a1 rfl ?_
      refine wp_icmp_ge (tgt := 48) dX8_firstBeside_15 rfl (fun c_15 => ?_) (fun c_15 => ?_)
      · have := (nI_leI (by omega) (by omega)).mp c_15
        omega
      · rw [tbes]
        refine wp_iload_n dX8_firstBeside_18 rfl ?_
        refine wp_iload_n dX8_firstBeside_19 rfl ?_
        refine wp_iadd dX8_firstBeside_20 ?_
        rw [nI_add]
        refine wp_aload_n dX8_firstBeside_21 rfl ?_
        refine wp_getf dX8_firstBeside_22 fl_X8_9 a1 rfl ?_
        refine wp_icmp_gt (tgt := 30) dX8_firstBeside_25 rfl (fun c_25 => ?_) (fun c_25 => ?_)
        · have hgt : cap < now + size := (nI_ltI (by omega) (by omega)).mp c_25
          rw [if_neg (by omega)]
          refine wp_iload_n dX8_firstBeside_30 rfl ?_
          refine wp_aload_n dX8_firstBeside_31 rfl ?_
          refine wp_getf dX8_firstBeside_32 fl_X8_22 a1 rfl ?_
          refine wp_iload_n dX8_firstBeside_35 rfl ?_
          refine wp_bipush (v := 15) dX8_firstBeside_36 rfl ?_
          refine wp_iand dX8_firstBeside_38 ?_
          rw [and15]
          refine wp_iald dX8_firstBeside_39 rfl a4 (vp_in_nI (by omega) (by omega)) ?_
          rw [nI_clamp (by omega), (a5 j hFj (by omega)).2.2]
          refine wp_isub dX8_firstBeside_40 ?_
          rw [pk_sub (by omega)]
          refine wp_istore_n dX8_firstBeside_41 (Nat.le_of_ble_eq_true rfl) rfl ?_
          refine wp_iinc dX8_firstBeside_42 rfl rfl ?_
          refine wp_goto (tgt := 10) dX8_firstBeside_45 rfl ?_
          rw [show nI j + Int32.ofInt 1 = nI (j + 1) from nI_1 j]
          exact ih (j + 1) (now - tsz nm vl j) (by omega) (by omega) (by omega) (by omega)
        · have hle2 : now + size ≤ cap := by
            rcases Nat.lt_or_ge cap (now + size) with q | q
            · exact absurd (nI_lt q (by omega)) c_25
            · exact q
          rw [if_pos hle2]
          refine wp_iload_n dX8_firstBeside_28 rfl ?_
          refine wp_iret dX8_firstBeside_29 rfl rfl ?_
          exact ⟨rfl, rfl⟩
  exact loop (C - F) F S (by omega) (Nat.le_refl _) hS (by omega)
end CT
