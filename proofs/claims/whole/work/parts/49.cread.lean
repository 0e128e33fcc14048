/-! Math.floorMod; Decoder: requiredBy, receive, readLines -/
theorem i32_small {z : Int} (h1 : -2 ^ 31 ≤ z) (h2 : z < 2 ^ 31) : z.bmod (2 ^ 32) = z := by
  rw [Int.bmod_eq_of_le] <;> omega
theorem i32_sub {x y : Int32} {a b : Int} (hx : x.toInt = a) (hy : y.toInt = b) (h1 : -2 ^ 31 ≤ a - b) (h2 : a - b < 2 ^ 31) : (x - y).toInt = a - b := by rw [Int32.toInt_sub, hx, hy]; exact i32_small h1 h2
theorem i32_add {x y : Int32} {a b : Int} (hx : x.toInt = a) (hy : y.toInt = b) (h1 : -2 ^ 31 ≤ a + b) (h2 : a + b < 2 ^ 31) : (x + y).toInt = a + b := by rw [Int32.toInt_add, hx, hy]; exact i32_small h1 h2
theorem i32_rem {x : Int32} {X : Int} {m : Nat} (hx : x.toInt = X) (h1 : -2 ^ 20 ≤ X) (h2 : X < 2 ^ 20) (hm : 0 < m) (hm2 : m < 2 ^ 20) : (x - x / nI m * nI m).toInt = X.tmod m := by
  have hy : (nI m).toInt = (m : Int) := nI_toInt (by omega)
  have b1 : (X.tdiv m).natAbs ≤ X.natAbs := by rw [Int.natAbs_tdiv]; exact Nat.div_le_self _ _
  have d1 : (x / nI m).toInt = X.tdiv m := by rw [Int32.toInt_div, hx, hy]; exact i32_small (by omega) (by omega)
  have b2 : ((X.tdiv m) * (m : Int)).natAbs ≤ X.natAbs := by
    rw [Int.natAbs_mul, Int.natAbs_tdiv]
    exact Nat.div_mul_le_self _ _
  have d2 : (x / nI m * nI m).toInt = X.tdiv m * m := by rw [Int32.toInt_mul, d1, hy]; exact i32_small (by omega) (by omega)
  rw [i32_sub hx d2 (by omega) (by omega), Int.tmod_def, Int.mul_comm]
theorem dX1_requiredBy_0 : decode cX1_requiredBy 0 = .ok (.aload_n 0, 1) := by decide +kernel
theorem dX1_requiredBy_1 : decode cX1_requiredBy 1 = .ok (.getfield 14, 3) := by decide +kernel
theorem dX1_requiredBy_4 : decode cX1_requiredBy 4 = .ok (.getfield 82, 3) := by decide +kernel
theorem dX1_requiredBy_7 : decode cX1_requiredBy 7 = .ok (.bipush 32, 2) := by decide +kernel
theorem dX1_requiredBy_9 : decode cX1_requiredBy 9 = .ok (.idiv, 1) := by decide +kernel
theorem dX1_requiredBy_10 : decode cX1_requiredBy 10 = .ok (.istore_n 2, 1) := by decide +kernel
theorem dX1_requiredBy_11 : decode cX1_requiredBy 11 = .ok (.iload_n 1, 1) := by decide +kernel
theorem dX1_requiredBy_12 : decode cX1_requiredBy 12 = .ok (.ifCond .eq 7, 3) := by decide +kernel
theorem dX1_requiredBy_15 : decode cX1_requiredBy 15 = .ok (.iload_n 2, 1) := by decide +kernel
theorem dX1_requiredBy_16 : decode cX1_requiredBy 16 = .ok (.ifCond .ne 5, 3) := by decide +kernel
theorem dX1_requiredBy_19 : decode cX1_requiredBy 19 = .ok (.iconst 0, 1) := by decide +kernel
theorem dX1_requiredBy_20 : decode cX1_requiredBy 20 = .ok (.ireturn, 1) := by decide +kernel
theorem dX1_requiredBy_21 : decode cX1_requiredBy 21 = .ok (.aload_n 0, 1) := by decide +kernel
theorem dX1_requiredBy_22 : decode cX1_requiredBy 22 = .ok (.getfield 14, 3) := by decide +kernel
theorem dX1_requiredBy_25 : decode cX1_requiredBy 25 = .ok (.getfield 60, 3) := by decide +kernel
theorem dX1_requiredBy_28 : decode cX1_requiredBy 28 = .ok (.iload_n 2, 1) := by decide +kernel
theorem dX1_requiredBy_29 : decode cX1_requiredBy 29 = .ok (.isub, 1) := by decide +kernel
theorem dX1_requiredBy_30 : decode cX1_requiredBy 30 = .ok (.iconst 1, 1) := by decide +kernel
theorem dX1_requiredBy_31 : decode cX1_requiredBy 31 = .ok (.iadd, 1) := by decide +kernel
theorem dX1_requiredBy_32 : decode cX1_requiredBy 32 = .ok (.istore_n 3, 1) := by decide +kernel
theorem dX1_requiredBy_33 : decode cX1_requiredBy 33 = .ok (.iload_n 3, 1) := by decide +kernel
theorem dX1_requiredBy_34 : decode cX1_requiredBy 34 = .ok (.iload_n 1, 1) := by decide +kernel
theorem dX1_requiredBy_35 : decode cX1_requiredBy 35 = .ok (.iconst 1, 1) := by decide +kernel
theorem dX1_requiredBy_36 : decode cX1_requiredBy 36 = .ok (.isub, 1) := by decide +kernel
theorem dX1_requiredBy_37 : decode cX1_requiredBy 37 = .ok (.iload_n 3, 1) := by decide +kernel
theorem dX1_requiredBy_38 : decode cX1_requiredBy 38 = .ok (.isub, 1) := by decide +kernel
theorem dX1_requiredBy_39 : decode cX1_requiredBy 39 = .ok (.iconst 2, 1) := by decide +kernel
theorem dX1_requiredBy_40 : decode cX1_requiredBy 40 = .ok (.iload_n 2, 1) := by decide +kernel
theorem dX1_requiredBy_41 : decode cX1_requiredBy 41 = .ok (.imul, 1) := by decide +kernel
theorem dX1_requiredBy_42 : decode cX1_requiredBy 42 = .ok (.invokestatic 85, 3) := by decide +kernel
theorem dX1_requiredBy_45 : decode cX1_requiredBy 45 = .ok (.iadd, 1) := by decide +kernel
theorem dX1_requiredBy_46 : decode cX1_requiredBy 46 = .ok (.ireturn, 1) := by decide +kernel
theorem dX1_receive_0 : decode cX1_receive 0 = .ok (.new 21, 3) := by decide +kernel
theorem dX1_receive_3 : decode cX1_receive 3 = .ok (.dup, 1) := by decide +kernel
theorem dX1_receive_4 : decode cX1_receive 4 = .ok (.aload_n 1, 1) := by decide +kernel
theorem dX1_receive_5 : decode cX1_receive 5 = .ok (.aload_n 1, 1) := by decide +kernel
theorem dX1_receive_6 : decode cX1_receive 6 = .ok (.getfield 66, 3) := by decide +kernel
theorem dX1_receive_9 : decode cX1_receive 9 = .ok (.invokespecial 71, 3) := by decide +kernel
theorem dX1_receive_12 : decode cX1_receive 12 = .ok (.astore_n 2, 1) := by decide +kernel
theorem dX1_receive_13 : decode cX1_receive 13 = .ok (.new 74, 3) := by decide +kernel
theorem dX1_receive_16 : decode cX1_receive 16 = .ok (.dup, 1) := by decide +kernel
theorem dX1_receive_17 : decode cX1_receive 17 = .ok (.aload_n 2, 1) := by decide +kernel
theorem dX1_receive_18 : decode cX1_receive 18 = .ok (.aload_n 0, 1) := by decide +kernel
theorem dX1_receive_19 : decode cX1_receive 19 = .ok (.aload_n 2, 1) := by decide +kernel
theorem dX1_receive_20 : decode cX1_receive 20 = .ok (.bipush 8, 2) := by decide +kernel
theorem dX1_receive_22 : decode cX1_receive 22 = .ok (.invokevirtual 56, 3) := by decide +kernel
theorem dX1_receive_25 : decode cX1_receive 25 = .ok (.invokevirtual 76, 3) := by decide +kernel
theorem dX1_receive_28 : decode cX1_receive 28 = .ok (.invokespecial 79, 3) := by decide +kernel
theorem dX1_receive_31 : decode cX1_receive 31 = .ok (.areturn, 1) := by decide +kernel
theorem dX1_readLines_0 : decode cX1_readLines 0 = .ok (.aload_n 1, 1) := by decide +kernel
theorem dX1_readLines_1 : decode cX1_readLines 1 = .ok (.getfield 135, 3) := by decide +kernel
theorem dX1_readLines_4 : decode cX1_readLines 4 = .ok (.astore_n 2, 1) := by decide +kernel
theorem dX1_readLines_5 : decode cX1_readLines 5 = .ok (.aload_n 2, 1) := by decide +kernel
theorem dX1_readLines_6 : decode cX1_readLines 6 = .ok (.invokevirtual 53, 3) := by decide +kernel
theorem dX1_readLines_9 : decode cX1_readLines 9 = .ok (.sipush 128, 3) := by decide +kernel
theorem dX1_readLines_12 : decode cX1_readLines 12 = .ok (.if_icmp .lt 7, 3) := by decide +kernel
theorem dX1_readLines_15 : decode cX1_readLines 15 = .ok (.iconst 1, 1) := by decide +kernel
theorem dX1_readLines_16 : decode cX1_readLines 16 = .ok (.goto 4, 3) := by decide +kernel
theorem dX1_readLines_19 : decode cX1_readLines 19 = .ok (.iconst 0, 1) := by decide +kernel
theorem dX1_readLines_20 : decode cX1_readLines 20 = .ok (.istore_n 3, 1) := by decide +kernel
theorem dX1_readLines_21 : decode cX1_readLines 21 = .ok (.aload_n 2, 1) := by decide +kernel
theorem dX1_readLines_22 : decode cX1_readLines 22 = .ok (.bipush 7, 2) := by decide +kernel
theorem dX1_readLines_24 : decode cX1_readLines 24 = .ok (.invokevirtual 56, 3) := by decide +kernel
theorem dX1_readLines_27 : decode cX1_readLines 27 = .ok (.istore 4, 2) := by decide +kernel
theorem dX1_readLines_29 : decode cX1_readLines 29 = .ok (.iload_n 3, 1) := by decide +kernel
theorem dX1_readLines_30 : decode cX1_readLines 30 = .ok (.ifCond .eq 15, 3) := by decide +kernel
theorem dX1_readLines_33 : decode cX1_readLines 33 = .ok (.aload_n 1, 1) := by decide +kernel
theorem dX1_readLines_34 : decode cX1_readLines 34 = .ok (.getfield 105, 3) := by decide +kernel
theorem dX1_readLines_37 : decode cX1_readLines 37 = .ok (.iload 4, 2) := by decide +kernel
theorem dX1_readLines_39 : decode cX1_readLines 39 = .ok (.isub, 1) := by decide +kernel
theorem dX1_readLines_40 : decode cX1_readLines 40 = .ok (.iconst 1, 1) := by decide +kernel
theorem dX1_readLines_41 : decode cX1_readLines 41 = .ok (.isub, 1) := by decide +kernel
theorem dX1_readLines_42 : decode cX1_readLines 42 = .ok (.goto 10, 3) := by decide +kernel
theorem dX1_readLines_45 : decode cX1_readLines 45 = .ok (.aload_n 1, 1) := by decide +kernel
theorem dX1_readLines_46 : decode cX1_readLines 46 = .ok (.getfield 105, 3) := by decide +kernel
theorem dX1_readLines_49 : decode cX1_readLines 49 = .ok (.iload 4, 2) := by decide +kernel
theorem dX1_readLines_51 : decode cX1_readLines 51 = .ok (.iadd, 1) := by decide +kernel
theorem dX1_readLines_52 : decode cX1_readLines 52 = .ok (.istore 5, 2) := by decide +kernel
theorem dX1_readLines_54 : decode cX1_readLines 54 = .ok (.iconst 0, 1) := by decide +kernel
theorem dX1_readLines_55 : decode cX1_readLines 55 = .ok (.istore 6, 2) := by decide +kernel
theorem dX1_readLines_57 : decode cX1_readLines 57 = .ok (.iload 6, 2) := by decide +kernel
theorem dX1_readLines_59 : decode cX1_readLines 59 = .ok (.bipush 12, 2) := by decide +kernel
theorem dX1_readLines_61 : decode cX1_readLines 61 = .ok (.if_icmp .ge 31, 3) := by decide +kernel
theorem dX1_readLines_64 : decode cX1_readLines 64 = .ok (.aload_n 2, 1) := by decide +kernel
theorem dX1_readLines_65 : decode cX1_readLines 65 = .ok (.invokevirtual 20, 3) := by decide +kernel
theorem dX1_readLines_68 : decode cX1_readLines 68 = .ok (.ifCond .le 24, 3) := by decide +kernel
theorem dX1_readLines_71 : decode cX1_readLines 71 = .ok (.aload_n 1, 1) := by decide +kernel
theorem dX1_readLines_72 : decode cX1_readLines 72 = .ok (.getfield 139, 3) := by decide +kernel
theorem dX1_readLines_75 : decode cX1_readLines 75 = .ok (.aload_n 0, 1) := by decide +kernel
theorem dX1_readLines_76 : decode cX1_readLines 76 = .ok (.aload_n 2, 1) := by decide +kernel
theorem dX1_readLines_77 : decode cX1_readLines 77 = .ok (.iload 5, 2) := by decide +kernel
theorem dX1_readLines_79 : decode cX1_readLines 79 = .ok (.invokevirtual 142, 3) := by decide +kernel
theorem dX1_readLines_82 : decode cX1_readLines 82 = .ok (.invokevirtual 118, 3) := by decide +kernel
theorem dX1_readLines_85 : decode cX1_readLines 85 = .ok (.pop, 1) := by decide +kernel
theorem dX1_readLines_86 : decode cX1_readLines 86 = .ok (.iinc 6 1, 3) := by decide +kernel
theorem dX1_readLines_89 : decode cX1_readLines 89 = .ok (.goto (-32), 3) := by decide +kernel
theorem dX1_readLines_92 : decode cX1_readLines 92 = .ok (.return_, 1) := by decide +kernel
theorem dX7_init_0 : decode cX7_init 0 = .ok (.aload_n 0, 1) := by decide +kernel
theorem dX7_init_1 : decode cX7_init 1 = .ok (.invokespecial 1, 3) := by decide +kernel
theorem dX7_init_4 : decode cX7_init 4 = .ok (.aload_n 0, 1) := by decide +kernel
theorem dX7_init_5 : decode cX7_init 5 = .ok (.aload_n 1, 1) := by decide +kernel
theorem dX7_init_6 : decode cX7_init 6 = .ok (.putfield 7, 3) := by decide +kernel
theorem dX7_init_9 : decode cX7_init 9 = .ok (.aload_n 0, 1) := by decide +kernel
theorem dX7_init_10 : decode cX7_init 10 = .ok (.iload_n 2, 1) := by decide +kernel
theorem dX7_init_11 : decode cX7_init 11 = .ok (.putfield 13, 3) := by decide +kernel
theorem dX7_init_14 : decode cX7_init 14 = .ok (.aload_n 0, 1) := by decide +kernel
theorem dX7_init_15 : decode cX7_init 15 = .ok (.new 17, 3) := by decide +kernel
theorem dX7_init_18 : decode cX7_init 18 = .ok (.dup, 1) := by decide +kernel
theorem dX7_init_19 : decode cX7_init 19 = .ok (.invokespecial 19, 3) := by decide +kernel
theorem dX7_init_22 : decode cX7_init 22 = .ok (.putfield 20, 3) := by decide +kernel
theorem dX7_init_25 : decode cX7_init 25 = .ok (.return_, 1) := by decide +kernel
section CF
variable {G : fp_G} {h : fp_H}
theorem ct_floorMod {x : Int32} {X : Int} {m : Nat} (hx : x.toInt = X) (h1 : -2 ^ 20 ≤ X) (h2 : X < 2 ^ 20) (hm : 0 < m) (hm2 : m < 2 ^ 20) : fp_ct G rm_J9_floorMod_7cf53 M_J9_floorMod_7cf53 [.int x, .int (nI m)] h (fun r h' => h' = h ∧ ∃ z : Int32, r = some (.int z) ∧ z.toInt = X % (m : Int)) := by
  have hr := i32_rem hx h1 h2 hm hm2
  have hy : (nI m).toInt = (m : Int) := nI_toInt (by omega)
  have hmp : (0 : Int) < m := by omega
  have hlo := Int.emod_nonneg X (show (m : Int) ≠ 0 by omega)
  have hhi := Int.emod_lt_of_pos X hmp
  -- the sign of x ^ m
  have hs : (x ^^^ nI m < 0) ↔ X < 0 := by
    have e1 : (x ^^^ nI m).toBitVec.msb = (x.toBitVec.msb ^^ (nI m).toBitVec.msb) := by rw [Int32.toBitVec_xor, BitVec.msb_xor]
    have e2 : ∀ y : Int32, y < 0 ↔ y.toBitVec.msb = true := fun y => by
      rw [Int32.lt_iff_toInt_lt, BitVec.msb_eq_toInt]
      simp
    have e3 : (nI m).toBitVec.msb = false := by
      cases hb : (nI m).toBitVec.msb with
      | false => rfl
      | true =>
        have := (e2 (nI m)).mpr hb
        rw [Int32.lt_iff_toInt_lt, hy] at this
        have : (m : Int) < 0 := this
        omega
    rw [e2, e1, e3, Bool.xor_false, ← e2, Int32.lt_iff_toInt_lt, hx]
    exact Iff.rfl
  refine fp_methF (by decide +kernel) (Nat.le_of_ble_eq_true rfl) rfl ?_
  refine wp_iload_n dJ9_floorMod_7cf53_0 rfl ?_
  refine wp_iload_n dJ9_floorMod_7cf53_1 rfl ?_
  refine wp_irem dJ9_floorMod_7cf53_2 (nI_ne0 hm (by omega)) ?_
  generalize x - x / nI m * nI m = t at hr
  refine wp_istore_n dJ9_floorMod_7cf53_3 (Nat.le_of_ble_eq_true rfl) rfl ?_
  refine wp_iload_n dJ9_floorMod_7cf53_4 rfl ?_
  refine wp_iload_n dJ9_floorMod_7cf53_5 rfl ?_
  refine wp_ixor dJ9_floorMod_7cf53_6 ?_
  refine wp_if_ge (tgt := 18) dJ9_floorMod_7cf53_7 rfl (fun c_7 => ?_) (fun c_7 => ?_)
  · -- not below 0
    have hX : 0 ≤ X := by
      rcases Int.lt_or_le X 0 with q | q
      · have := hs.mpr q
        rw [Int32.lt_iff_toInt_lt] at this
        have c := Int32.le_iff_toInt_le.mp c_7
        omega
      · exact q
    refine wp_iload_n dJ9_floorMod_7cf53_18 rfl ?_
    refine wp_iret dJ9_floorMod_7cf53_19 rfl rfl ?_
    exact ⟨rfl, t, rfl, by rw [hr, Int.tmod_eq_emod_of_nonneg hX]⟩
  · have hX : X < 0 := by
      refine hs.mp ?_
      rw [Int32.lt_iff_toInt_lt]
      rw [Int32.le_iff_toInt_le] at c_7
      omega
    have et : X.tmod m = if (m : Int) ∣ X then 0 else X % m - m := by
      rw [Int.tmod_eq_emod]
      have : ¬ (0 ≤ X) := by omega
      split
      · rename_i c
        rcases c with c | c
        · omega
        · rw [if_pos c, Int.emod_eq_zero_of_dvd c]; rfl
      · rename_i c
        rw [if_neg (fun z => c (Or.inr z))]
        omega
    refine wp_iload_n dJ9_floorMod_7cf53_10 rfl ?_
    refine wp_if_eq (tgt := 18) dJ9_floorMod_7cf53_11 rfl (fun c_11 => ?_) (fun c_11 => ?_)
    · have ht0 : t.toInt = 0 := by rw [c_11]; rfl
      refine wp_iload_n dJ9_floorMod_7cf53_18 rfl ?_
      refine wp_iret dJ9_floorMod_7cf53_19 rfl rfl ?_
      refine ⟨rfl, t, rfl, ?_⟩
      rw [ht0]
      rw [hr, et] at ht0
      split at ht0
      · rename_i c; exact (Int.emod_eq_zero_of_dvd c).symm
      · omega
    · have hnd : ¬ (m : Int) ∣ X := fun z => c_11 (Int32.toInt_inj.mp (by rw [hr, et, if_pos z]; rfl))
      rw [et, if_neg hnd] at hr
      refine wp_iload_n dJ9_floorMod_7cf53_14 rfl ?_
      refine wp_iload_n dJ9_floorMod_7cf53_15 rfl ?_
      refine wp_iadd dJ9_floorMod_7cf53_16 ?_
      refine wp_iret dJ9_floorMod_7cf53_17 rfl rfl ?_
      exact ⟨rfl, _, rfl, by rw [i32_add hr hy (by omega) (by omega)]; omega⟩
theorem cd_required {de td code C F S cap R : Nat} {nm vl : Nat → Nat} {x27 : Int32} (hde : h.1 de = some (4, .inr (2, [.ref td, .int x27]))) (ht : tbl h 16 td cap nm vl F C S) (hcode : code = if R = 0 then 0 else R % (2 * (cap / 32)) + 1) (hR : R ≠ 0 → 32 ≤ cap ∧ C + 1 ≤ R + cap / 32 ∧ R ≤ C + cap / 32) : fp_ct G rm_X1_requiredBy M_X1_requiredBy [.ref de, .int (nI code)] h (fun r h' => h' = h ∧ r = some (.int (nI R))) := by
  obtain ⟨n1, n2, n3, f1, f2, f3, a1, -⟩ := ht.ex
  have h400 := ht.hcap
  have hC := ht.hC
  have hcl : code ≤ 24 := by
    rw [hcode]
    split
    · omega
    · rename_i c
      have := hR c
      have := Nat.mod_lt R (show 0 < 2 * (cap / 32) by omega)
      omega
  refine fp_meth pn_X1 (Nat.le_of_ble_eq_true rfl) rfl ?_
  refine wp_aload_n dX1_requiredBy_0 rfl ?_
  refine wp_getf dX1_requiredBy_1 fl_X1_14 hde rfl ?_
  refine wp_getf dX1_requiredBy_4 fl_X1_82 a1 rfl ?_
  refine wp_bipush (v := 32) dX1_requiredBy_7 rfl ?_
  refine wp_idiv dX1_requiredBy_9 (by decide) ?_
  rw [show nI cap / 32 = nI (cap / 32) from pk_div (d := 32) (by omega) (by decide) (by decide)]
  refine wp_istore_n dX1_requiredBy_10 (Nat.le_of_ble_eq_true rfl) rfl ?_
  refine wp_iload_n dX1_requiredBy_11 rfl ?_
  refine wp_if_eq (tgt := 19) dX1_requiredBy_12 rfl (fun c_12 => ?_) (fun c_12 => ?_)
  · have : code = 0 := (nI_eq (b := 0) (by omega) (by decide)).mp c_12
    refine wp_iconst (v := 0) dX1_requiredBy_19 rfl ?_
    refine wp_iret dX1_requiredBy_20 rfl rfl ?_
    refine ⟨rfl, ?_⟩
    have : R = 0 := by
      rcases Nat.eq_zero_or_pos R with q | q
      · exact q
      · rw [if_neg (by omega)] at hcode; omega
    rw [this]
    rfl
  · have hc0 : code ≠ 0 := fun e => c_12 (by rw [e]; rfl)
    have hR0 : R ≠ 0 := fun e => hc0 (by rw [hcode, if_pos e])
    obtain ⟨g1, g2, g3⟩ := hR hR0
    rw [if_neg hR0] at hcode
    refine wp_iload_n dX1_requiredBy_15 rfl ?_
    refine wp_if_ne (tgt := 21) dX1_requiredBy_16 rfl (fun c_16 => ?_) (fun c_16 => ?_)
    · refine wp_aload_n dX1_requiredBy_21 rfl ?_
      refine wp_getf dX1_requiredBy_22 fl_X1_14 hde rfl ?_
      refine wp_getf dX1_requiredBy_25 fl_X1_60 a1 rfl ?_
      refine wp_iload_n dX1_requiredBy_28 rfl ?_
      refine wp_isub dX1_requiredBy_29 ?_
      refine wp_iconst (v := 1) dX1_requiredBy_30 rfl ?_
      refine wp_iadd dX1_requiredBy_31 ?_
      refine wp_istore_n dX1_requiredBy_32 (Nat.le_of_ble_eq_true rfl) rfl ?_
      have tC : (nI C).toInt = (C : Int) := nI_toInt (by omega)
      have tH : (nI (cap / 32)).toInt = ((cap / 32 : Nat) : Int) := nI_toInt (by omega)
      have tL : (nI C - nI (cap / 32) + 1).toInt = (C : Int) - ((cap / 32 : Nat) : Int) + 1 := i32_add (i32_sub tC tH (by omega) (by omega)) rfl (by omega) (by omega)
      generalize nI C - nI (cap / 32) + 1 = L at tL ⊢
      have tX : (nI code - 1 - L).toInt = (code : Int) - 1 - ((C : Int) - ((cap / 32 : Nat) : Int) + 1) := i32_sub (i32_sub (nI_toInt (by omega)) rfl (by omega) (by omega)) tL (by omega) (by omega)
      refine wp_iload_n dX1_requiredBy_33 rfl ?_
      refine wp_iload_n dX1_requiredBy_34 rfl ?_
      refine wp_iconst (v := 1) dX1_requiredBy_35 rfl ?_
      refine wp_isub dX1_requiredBy_36 ?_
      refine wp_iload_n dX1_requiredBy_37 rfl ?_
      refine wp_isub dX1_requiredBy_38 ?_
      refine wp_iconst (v := 2) dX1_requiredBy_39 rfl ?_
      refine wp_iload_n dX1_requiredBy_40 rfl ?_
      refine wp_imul dX1_requiredBy_41 ?_
      rw [show (2 : Int32) * nI (cap / 32) = nI (2 * (cap / 32)) from pk_mul 2 _]
      generalize nI code - 1 - L = X at tX ⊢
      refine wp_callS (As := [.int X, .int (nI (2 * (cap / 32)))]) (rest := [.int L]) dX1_requiredBy_42 me_J9_floorMod_7cf53 cw_X1_85 ⟨(Nat.le_of_ble_eq_true rfl), (Nat.le_of_ble_eq_true rfl)⟩ rfl rfl rfl (Nat.le_of_ble_eq_true rfl) (ct_floorMod tX (by omega) (by omega) (by omega) (by omega)) (fun r h2 q => ?_)
      obtain ⟨q0, z, rfl, hz⟩ := q
      rw [q0]
      refine wp_iadd dX1_requiredBy_45 ?_
      refine wp_iret dX1_requiredBy_46 rfl rfl ?_
      refine ⟨rfl, ?_⟩
      congr 2
      apply Int32.toInt_inj.mp
      rw [nI_toInt (show R < 2 ^ 31 by omega)]
      have key : ((code : Int) - 1 - ((C : Int) - ((cap / 32 : Nat) : Int) + 1)) % ((2 * (cap / 32) : Nat) : Int) = (R : Int) - ((C : Int) - ((cap / 32 : Nat) : Int) + 1) := by
        have e1 : (R : Int) = ((2 * (cap / 32) : Nat) : Int) * ((R / (2 * (cap / 32)) : Nat) : Int) + ((R % (2 * (cap / 32)) : Nat) : Int) := by
          have := Nat.div_add_mod R (2 * (cap / 32))
          rw [← Int.natCast_mul, ← Int.natCast_add, this]
        have e2 : (code : Int) - 1 - ((C : Int) - ((cap / 32 : Nat) : Int) + 1) = ((R : Int) - ((C : Int) - ((cap / 32 : Nat) : Int) + 1)) + ((2 * (cap / 32) : Nat) : Int) * (-((R / (2 * (cap / 32)) : Nat) : Int)) := by
          rw [Int.mul_neg]
          have : (code : Int) = ((R % (2 * (cap / 32)) : Nat) : Int) + 1 := by rw [hcode]; rfl
          omega
        rw [e2, Int.add_mul_emod_self_left, Int.emod_eq_of_lt (by omega) (by omega)]
      rw [key] at hz
      rw [i32_add tL hz (by omega) (by omega)]
      omega
    · exact absurd c_16 (nI_ne0 (by omega) (by omega))
theorem cr_new {a t b e : Nat} {x : Value} {z : Int32} (ha : h.1 a = some (t, .inr (7, [x, .int 0, .int z, .int 0]))) : fp_ct G rm_X6_init M_X6_init [.ref a, .ref b, .int (nI e)] h (fun r h' => r = none ∧ h' = fp_put h a t (rc b e (0, false))) := by
  refine fp_meth pn_X6 (Nat.le_of_ble_eq_true rfl) rfl ?_
  refine wp_aload_n dX6_init_0 rfl ?_
  refine wp_objInit dX6_init_1 cw_X6_3 ⟨(Nat.le_of_ble_eq_true rfl), (Nat.le_of_ble_eq_true rfl)⟩ rfl (Nat.le_of_ble_eq_true rfl) ?_
  refine wp_aload_n dX6_init_4 rfl ?_
  refine wp_aload_n dX6_init_5 rfl ?_
  refine wp_putf dX6_init_6 fs_X6_9 ha (Nat.le_of_ble_eq_true rfl) rfl rfl ?_
  refine wp_aload_n dX6_init_9 rfl ?_
  refine wp_iload_n dX6_init_10 rfl ?_
  refine wp_putf dX6_init_11 (fs_X6_15 _) fp_put_eq (Nat.le_of_ble_eq_true rfl) rfl rfl ?_
  refine wp_vret dX6_init_14 rfl ?_
  exact ⟨rfl, by rw [fp_put_put]; rfl⟩
def dS (Tr Tf : Nat) : Nat → Prop := fun t => t = Tr ∨ t = Tf
theorem cd_snew {a t rd R Tf : Nat} {x y z : Value} (w : fp_wf h) (ha : h.1 a = some (t, .inr (8, [x, y, z]))) (ht : Tf ≠ t) : fp_ct G rm_X7_init M_X7_init [.ref a, .ref rd, .int (nI R)] h (fun r h' => r = none ∧ ∃ fl, h'.1 a = some (t, .inr (8, [.ref rd, .int (nI R), .ref fl])) ∧ lst G h' Tf fl [] 0 ∧ cf (dS t Tf) h h' ∧ h'.2.2 = h.2.2 + 3) := by
  refine fp_meth pn_X7 (Nat.le_of_ble_eq_true rfl) rfl ?_
  refine wp_aload_n dX7_init_0 rfl ?_
  refine wp_objInit dX7_init_1 cw_X7_1 ⟨(Nat.le_of_ble_eq_true rfl), (Nat.le_of_ble_eq_true rfl)⟩ rfl (Nat.le_of_ble_eq_true rfl) ?_
  refine wp_aload_n dX7_init_4 rfl ?_
  refine wp_aload_n dX7_init_5 rfl ?_
  refine wp_putf dX7_init_6 fs_X7_7 ha (Nat.le_of_ble_eq_true rfl) rfl rfl ?_
  refine wp_aload_n dX7_init_9 rfl ?_
  refine wp_iload_n dX7_init_10 rfl ?_
  refine wp_putf dX7_init_11 fs_X7_13 fp_put_eq (Nat.le_of_ble_eq_true rfl) rfl rfl ?_
  refine wp_aload_n dX7_init_14 rfl ?_
  rw [fp_put_put]
  have c1 : cf (fun x => x = t) h (fp_put h a t (.inr (8, [.ref rd, .int (nI R), z]))) := cf.put1 ha
  have e1 : (fp_put h a t (.inr (8, [.ref rd, .int (nI R), z]))).1 a = some (t, .inr (8, [.ref rd, .int (nI R), z])) := fp_put_eq
  have z1 : (fp_put h a t (.inr (8, [.ref rd, .int (nI R), z]))).2 = h.2 := rfl
  refine fp_wp_h (h' := fp_put h a t (.inr (8, [.ref rd, .int (nI R), z]))) rfl ?_
  generalize fp_put h a t (.inr (8, [.ref rd, .int (nI R), z])) = h1 at c1 e1 z1 ⊢
  have w1 := c1.wf w
  refine wp_new Tf dX7_init_15 nw_X7_17 ?_
  refine wp_dup dX7_init_18 rfl ?_
  refine wp_callI (As := []) (rest := [.ref h1.2.1, .ref a]) dX7_init_19 me_Jx4a65c_init_da8c8 rfl cw_X7_19 rfl ⟨(Nat.le_of_ble_eq_true rfl), (Nat.le_of_ble_eq_true rfl)⟩ rfl rfl rfl (Nat.le_of_ble_eq_true rfl) (ct_lnew fp_new_eq) (fun r h2 q => ?_)
  obtain ⟨rfl, q1, q2, q3⟩ := q
  have c2 : cf (dS t Tf) h (fp_new h1 Tf (.inr (0, [.int 0, .null, .int 0])) 3) := (c1.mono (fun _ z => Or.inl z)).trans (cf.new w1 (by decide))
  have e2 := q2.at ((fp_new_ne (w1.ne e1)).trans e1) (fun z => ht z.symm)
  refine wp_putf dX7_init_22 fs_X7_20 e2 (Nat.le_of_ble_eq_true rfl) rfl rfl ?_
  refine wp_vret dX7_init_25 rfl ?_
  exact ⟨rfl, h1.2.1, fp_put_eq, q1.kept (cf.put1 e2) (fun z => ht z), (c2.trans (q2.mono (fun _ z => Or.inr z))).trans ((cf.put1 e2).mono (fun _ z => Or.inl z)), by show h2.2.2 = _; rw [q3]; show h1.2.2 + 3 = _; rw [z1]⟩
theorem rdr.kept {h h' : fp_H} {S : Nat → Prop} {t a tb b e : Nat} {xs : List Nat} {s : Nat × Bool} (r : rdr h t a tb b xs e s) (c : cf S h h') (h1 : ¬ S t) (h2 : ¬ S tb) : rdr h' t a tb b xs e s := by
  obtain ⟨r1, ⟨cap, r2⟩, r3⟩ := r
  exact ⟨c.at r1 h1, ⟨cap, r2.kept c h2⟩, r3⟩
def sO (rd R fl : Nat) : fp_E := .inr (8, [.ref rd, .int (nI R), .ref fl])
theorem cd_receive {de td ba code C F S cap cap2 R Tr Tf Ts Tb : Nat} {nm vl : Nat → Nat} {x27 : Int32} {xs rest : List Nat} (w : fp_wf h) (hde : h.1 de = some (4, .inr (2, [.ref td, .int x27]))) (ht : tbl h 16 td cap nm vl F C S) (hcode : code = if R = 0 then 0 else R % (2 * (cap / 32)) + 1) (hR : R ≠ 0 → 32 ≤ cap ∧ C + 1 ≤ R + cap / 32 ∧ R ≤ C + cap / 32) (hb : byt h Tb ba xs cap2) (hxs : xs = nb 0 8 code ++ rest) (hx256 : ∀ x ∈ xs, x < 256) (hcl : code ≤ 24) (hT : Tr ≠ Tf ∧ Tr ≠ Ts ∧ Tf ≠ Ts ∧ Tr ≠ 4 ∧ Tr ≠ 16 ∧ Tr ≠ Tb ∧ Tf ≠ 4 ∧ Tf ≠ 16 ∧ Tf ≠ Tb ∧ Ts ≠ 4 ∧ Ts ≠ 16 ∧ Ts ≠ Tb) :
    fp_ct G rm_X1_receive M_X1_receive [.ref de, .ref ba] h (fun r h' => ∃ sec rd fl, r = some (.ref sec) ∧ h'.1 sec = some (9, sO rd R fl) ∧ rdr h' Tr rd Tb ba xs xs.length ((nb 0 8 code).length, false) ∧ lst G h' Tf fl [] 0 ∧ cf (fun x => x = Tr ∨ x = Tf ∨ x = Ts) h h' ∧ h'.2.2 = h.2.2 + 10) := by
  obtain ⟨t1, t2, t3, t4, t5, t6, t7, t8, t9, t10, t11, t12⟩ := hT
  obtain ⟨rb, fb, b1, b2, b3, b4, b5⟩ := id hb
  refine fp_meth pn_X1 (Nat.le_of_ble_eq_true rfl) rfl ?_
  refine wp_new Tr dX1_receive_0 nw_X1_21 ?_
  refine wp_dup dX1_receive_3 rfl ?_
  refine wp_aload_n dX1_receive_4 rfl ?_
  refine wp_aload_n dX1_receive_5 rfl ?_
  refine wp_getf dX1_receive_6 fl_X1_66 ((fp_new_ne (w.ne b1)).trans b1) rfl ?_
  refine wp_callI (As := [.ref ba, .int (nI xs.length)]) (rest := [.ref h.2.1]) dX1_receive_9 me_X6_init rfl cw_X1_71 rfl ⟨(Nat.le_of_ble_eq_true rfl), (Nat.le_of_ble_eq_true rfl)⟩ rfl rfl rfl (Nat.le_of_ble_eq_true rfl) (cr_new fp_new_eq) (fun r h1 q => ?_)
  obtain ⟨rfl, rfl⟩ := q
  rw [fp_put_new]
  have c1 : cf (fun _ => False) h (fp_new h Tr (rc ba xs.length (0, false)) 4) := cf.new w (by decide)
  have ff : ∀ t : Nat, ¬ (fun _ : Nat => False) t := fun t z => z
  have r1 : rdr (fp_new h Tr (rc ba xs.length (0, false)) 4) Tr h.2.1 Tb ba xs xs.length (0, false) := ⟨fp_new_eq, ⟨cap2, hb.kept c1 (ff Tb)⟩, Nat.le_refl _, hx256, Nat.zero_le _, by omega⟩
  have z1 : (fp_new h Tr (rc ba xs.length (0, false)) 4).2.2 = h.2.2 + 4 := rfl
  generalize fp_new h Tr (rc ba xs.length (0, false)) 4 = h1 at c1 r1 z1 ⊢
  generalize h.2.1 = rd at r1 ⊢
  have w1 := c1.wf w
  have r2 := r1.new (e' := .inr (8, [.null, .int 0, .null])) (t' := Ts) (k := 3) w1 (by decide)
  have c2 : cf (fun x => x = Tr ∨ x = Tf ∨ x = Ts) h (fp_new h1 Ts (.inr (8, [.null, .int 0, .null])) 3) := (c1.mono (fun _ z => z.elim)).trans (cf.new w1 (by decide))
  have z2 : (fp_new h1 Ts (.inr (8, [.null, .int 0, .null])) 3).2.2 = h.2.2 + 7 := by show h1.2.2 + 3 = _; rw [z1]
  have e2 : (fp_new h1 Ts (.inr (8, [.null, .int 0, .null])) 3).1 h1.2.1 = some (Ts, .inr (8, [.null, .int 0, .null])) := fp_new_eq
  refine wp_astore_n dX1_receive_12 (Nat.le_of_ble_eq_true rfl) rfl ?_
  refine wp_new Ts dX1_receive_13 nw_X1_74 ?_
  refine wp_dup dX1_receive_16 rfl ?_
  refine wp_aload_n dX1_receive_17 rfl ?_
  refine wp_aload_n dX1_receive_18 rfl ?_
  refine wp_aload_n dX1_receive_19 rfl ?_
  refine wp_bipush (v := 8) dX1_receive_20 rfl ?_
  generalize fp_new h1 Ts (.inr (8, [.null, .int 0, .null])) 3 = h2 at r2 c2 z2 e2 ⊢
  generalize h1.2.1 = sec at e2 ⊢
  have hsb : sb (fun i => xs.getD i 0) 0 (nb 0 8 code) := by
    have : sb (fun i => xs.getD i 0) 0 xs := fun i hi => by rw [Nat.zero_add]
    rw [hxs] at this
    rw [hxs]
    exact this.app.1
  have hlen : (nb 0 8 code).length ≤ xs.length := by rw [hxs, List.length_append]; omega
  have hkn := (k_num_nb (f := fun i => xs.getD i 0) (e := xs.length) (n := 8) (F := 0) (v := code) (a := 0) (c := false) (by decide) rfl (by omega) hsb).1 (by omega)
  rw [Nat.zero_add] at hkn
  refine wp_callV (As := [.int (nI 8)]) (rest := [.ref de, .ref rd, .ref sec, .ref sec]) dX1_receive_22 me_X6_takeNumber cw_X1_56 rfl ⟨(Nat.le_of_ble_eq_true rfl), (Nat.le_of_ble_eq_true rfl)⟩ rfl rfl rfl (Nat.le_of_ble_eq_true rfl) r2.1 (cr_num (by decide) r2) (fun r h3 q => ?_)
  obtain ⟨rfl, rfl⟩ := q
  rw [hkn]
  have r3 := r2.put (s' := ((nb 0 8 code).length, false)) hlen
  have c3 : cf (fun x => x = Tr) h2 (fp_put h2 rd Tr (rc ba xs.length ((nb 0 8 code).length, false))) := cf.put1 r2.1
  have e3 := c3.at e2 (fun z => t2 z.symm)
  have c3' : cf (fun x => x = Tr ∨ x = Tf ∨ x = Ts) h (fp_put h2 rd Tr (rc ba xs.length ((nb 0 8 code).length, false))) := c2.trans (c3.mono (fun _ z => Or.inl z))
  have z3 : (fp_put h2 rd Tr (rc ba xs.length ((nb 0 8 code).length, false))).2.2 = h.2.2 + 7 := z2
  generalize fp_put h2 rd Tr (rc ba xs.length ((nb 0 8 code).length, false)) = h3 at r3 e3 c3' z3 ⊢
  have hde3 := c3'.at hde (fun z => by rcases z with z | z | z; exact t4 z.symm; exact t7 z.symm; exact t10 z.symm)
  have ht3 := ht.kept c3' (fun z => by rcases z with z | z | z; exact t5 z.symm; exact t8 z.symm; exact t11 z.symm)
  refine wp_callV (As := [.int (nI code)]) (rest := [.ref rd, .ref sec, .ref sec]) dX1_receive_25 me_X1_requiredBy cw_X1_76 rfl ⟨(Nat.le_of_ble_eq_true rfl), (Nat.le_of_ble_eq_true rfl)⟩ rfl rfl rfl (Nat.le_of_ble_eq_true rfl) hde3 (cd_required hde3 ht3 hcode hR) (fun r h4 q => ?_)
  obtain ⟨q0, rfl⟩ := q
  rw [q0]
  refine wp_callI (As := [.ref rd, .int (nI R)]) (rest := [.ref sec]) dX1_receive_28 me_X7_init rfl cw_X1_79 rfl ⟨(Nat.le_of_ble_eq_true rfl), (Nat.le_of_ble_eq_true rfl)⟩ rfl rfl rfl (Nat.le_of_ble_eq_true rfl) (cd_snew (c3'.wf w) e3 t3) (fun r h5 q => ?_)
  obtain ⟨rfl, fl, q1, q2, q3, q4⟩ := q
  have r5 := r3.kept q3 (fun z => by rcases z with z | z; exact t2 z; exact t1 z) (fun z => by rcases z with z | z; exact t12 z.symm; exact t9 z.symm)
  have c5 : cf (fun x => x = Tr ∨ x = Tf ∨ x = Ts) h h5 := c3'.trans (q3.mono (fun _ z => by rcases z with z | z; exact Or.inr (Or.inr z); exact Or.inr (Or.inl z)))
  refine wp_tag 9 q1 ?_
  have c6 : cf (fun x => x = Ts) h5 (fp_put h5 sec 9 (.inr (8, [.ref rd, .int (nI R), .ref fl]))) := cf.put1 q1
  refine wp_aret dX1_receive_31 rfl (by first | exact Or.inl ⟨_, rfl⟩ | exact Or.inr ⟨_, rfl⟩) (Or.inr ⟨_, rfl⟩) ?_
  exact ⟨sec, rd, fl, rfl, fp_put_eq, r5.kept c6 (fun z => t2 z) (fun z => t12 z.symm), q2.kept c6 (fun z => t3 z), c5.trans (c6.mono (fun _ z => Or.inr (Or.inr z))), by show h5.2.2 = _; rw [q4, z3]⟩
/-- lines one behind the other -/
def lcat (ls : Nat → List Nat) : Nat → Nat → List Nat
  | _, 0 => []
  | i, n + 1 => ls i ++ lcat ls (i + 1) n
theorem lnD.pos {nm vl : Nat → Nat} {F C base u v s : Nat} {l : List Nat} (h : lnD nm vl F C base u v s l) : 1 ≤ l.length := by
  rcases h with ⟨k, -, -, -, -, rfl⟩ | ⟨j, -, -, -, -, -, rfl⟩ | ⟨A, -, rfl⟩
  · exact nb_pos _ _ _
  · unfold r_wb; split <;> exact nb_pos _ _ _
  · have := vlb_pos v; rw [List.length_append]; omega
def bsb (R base : Nat) : List Nat := if R ≤ base then nb 0 7 (base - R) else nb 128 7 (R - base - 1)
set_option maxHeartbeats 1000000 in
theorem cd_lines {de td sec rd fl ba s0 n base C F S cap R Tr Tf Tb : Nat} {nm vl uu vv ss : Nat → Nat} {ls : Nat → List Nat} {x27 : Int32} {xs : List Nat} (w : fp_wf h) (hde : h.1 de = some (4, .inr (2, [.ref td, .int x27]))) (ht : tbl h 16 td cap nm vl F C S) (hsec : h.1 sec = some (9, sO rd R fl)) (hr : rdr h Tr rd Tb ba xs xs.length (s0, false)) (hf : lst G h Tf fl [] 0) (hT : Tr ≠ Tf ∧ Tr ≠ 4 ∧ Tr ≠ 16 ∧ Tr ≠ 9 ∧ Tr ≠ Tb ∧ Tf ≠ 4 ∧ Tf ≠ 16 ∧ Tf ≠ 9 ∧ Tf ≠ Tb) (hsb : sb (fun i => xs.getD i 0) s0 (bsb R base ++ lcat ls 0 n)) (hend : s0 + (bsb R base ++ lcat ls 0 n).length = xs.length) (hn : n ≤ 12) (hl : ∀ f, f < n → lnD nm vl F C base (uu f) (vv f) (ss f) (ls f) ∧ uu f < 2 ^ 64 ∧ vv f < 2 ^ 64 ∧ ss f ≤ 1) (hb : base < 2 ^ 27) (hRb : R < 2 ^ 27) :
    fp_ct G rm_X1_readLines M_X1_readLines [.ref de, .ref sec] h (fun r h' => r = none ∧ ∃ as cF, lst G h' Tf fl as cF ∧ as.length = n ∧ (∀ f, f < n → ∃ a, as[f]? = some a ∧ h'.1 a = some (9, fO (uu f) (vv f) (ss f))) ∧ cf (fun x => x = Tr ∨ x = Tf) h h' ∧ h'.2.2 ≤ h.2.2 + 180) := by
  obtain ⟨t1, t2, t3, t4, t5, t6, t7, t8, t9⟩ := hT
  have hbl : s0 + (bsb R base).length ≤ xs.length := by rw [List.length_append] at hend; omega
  have hbp : 1 ≤ (bsb R base).length := by unfold bsb; split <;> exact nb_pos _ _ _
  obtain ⟨hs1, hs2⟩ := hsb.app
  have hx24 := hr.2.2.2.2.2
  -- the lines
  have loop : ∀ (g i a0 : Nat) (h2 : fp_H) (as : List Nat) (cF : Nat) (x3 x4 : Int32), g + i = n → as.length = i → fp_wf h2 → rdr h2 Tr rd Tb ba xs xs.length (a0, false) → sb (fun i => xs.getD i 0) a0 (lcat ls i g) → a0 + (lcat ls i g).length = xs.length → lst G h2 Tf fl as cF → cF ≠ 1 → cF ≤ 34 → (∀ f, f < i → ∃ a, as[f]? = some a ∧ h2.1 a = some (9, fO (uu f) (vv f) (ss f))) → cf (fun x => x = Tr ∨ x = Tf) h h2 → h2.2.2 ≤ h.2.2 + 3 * i + 4 * cF → fp_wp G rm_X1_readLines M_X1_readLines 57 [some (.ref de), some (.ref sec), some (.ref rd), some (.int x3), some (.int x4), some (.int (nI base)), some (.int (nI i))] [] h2 (fun r h' => r = none ∧ ∃ as cF, lst G h' Tf fl as cF ∧ as.length = n ∧ (∀ f, f < n → ∃ a, as[f]? = some a ∧ h'.1 a = some (9, fO (uu f) (vv f) (ss f))) ∧ cf (fun x => x = Tr ∨ x = Tf) h h' ∧ h'.2.2 ≤ h.2.2 + 180) := by
    intro g
    induction g with
    | zero =>
      intro i a0 h2 as cF x3 x4 hi has w2 r2 g1 g2 l2 k1 k2 k3 k4 k5
      have hi' : i = n := by omega
      subst hi'
      have ha0 : a0 = xs.length := g2
      have done : fp_wp G rm_X1_readLines M_X1_readLines 92 [some (.ref de), some (.ref sec), some (.ref rd), some (.int x3), some (.int x4), some (.int (nI base)), some (.int (nI i))] [] h2 (fun r h' => r = none ∧ ∃ as cF, lst G h' Tf fl as cF ∧ as.length = i ∧ (∀ f, f < i → ∃ a, as[f]? = some a ∧ h'.1 a = some (9, fO (uu f) (vv f) (ss f))) ∧ cf (fun x => x = Tr ∨ x = Tf) h h' ∧ h'.2.2 ≤ h.2.2 + 180) := by
        refine wp_vret dX1_readLines_92 rfl ?_
        exact ⟨rfl, as, cF, l2, has, k3, k4, by omega⟩
      refine wp_iload dX1_readLines_57 rfl ?_
      refine wp_bipush (v := 12) dX1_readLines_59 rfl ?_
      refine wp_icmp_ge (tgt := 92) dX1_readLines_61 rfl (fun c_61 => ?_) (fun c_61 => ?_)
      · exact done
      · refine wp_aload_n dX1_readLines_64 rfl ?_
        refine wp_callV (As := []) (rest := []) dX1_readLines_65 me_X6_left cw_X1_20 rfl ⟨(Nat.le_of_ble_eq_true rfl), (Nat.le_of_ble_eq_true rfl)⟩ rfl rfl rfl (Nat.le_of_ble_eq_true rfl) r2.1 (cr_left r2) (fun r h3 q => ?_)
        obtain ⟨q0, rfl⟩ := q
        rw [q0]
        refine wp_if_le (tgt := 92) dX1_readLines_68 rfl (fun c_68 => ?_) (fun c_68 => ?_)
        · exact done
        · exact absurd (by show nI (xs.length - a0) ≤ 0; rw [ha0, Nat.sub_self]; decide) c_68
    | succ g ih =>
      intro i a0 h2 as cF x3 x4 hi has w2 r2 g1 g2 l2 k1 k2 k3 k4 k5
      obtain ⟨d1, d2, d3, d4⟩ := hl i (by omega)
      have hpos := d1.pos
      rw [lcat] at g1 g2
      rw [List.length_append] at g2
      obtain ⟨s1, s2⟩ := g1.app
      have hde2 := k4.at hde (fun z => by rcases z with z | z; exact t2 z.symm; exact t6 z.symm)
      have ht2 := ht.kept k4 (fun z => by rcases z with z | z; exact t3 z.symm; exact t7 z.symm)
      have hsec2 := k4.at hsec (fun z => by rcases z with z | z; exact t4 z.symm; exact t8 z.symm)
      refine wp_iload dX1_readLines_57 rfl ?_
      refine wp_bipush (v := 12) dX1_readLines_59 rfl ?_
      refine wp_icmp_ge (tgt := 92) dX1_readLines_61 rfl (fun c_61 => ?_) (fun c_61 => ?_)
      · have := (nI_leI (a := 12) (by decide) (by omega)).mp c_61
        omega
      · refine wp_aload_n dX1_readLines_64 rfl ?_
        refine wp_callV (As := []) (rest := []) dX1_readLines_65 me_X6_left cw_X1_20 rfl ⟨(Nat.le_of_ble_eq_true rfl), (Nat.le_of_ble_eq_true rfl)⟩ rfl rfl rfl (Nat.le_of_ble_eq_true rfl) r2.1 (cr_left r2) (fun r h3 q => ?_)
        obtain ⟨q0, rfl⟩ := q
        rw [q0]
        refine wp_if_le (tgt := 92) dX1_readLines_68 rfl (fun c_68 => ?_) (fun c_68 => ?_)
        · exact absurd c_68 (nI_nle (show 0 < xs.length - a0 by omega) (by show xs.length - a0 < _; omega))
        · refine wp_aload_n dX1_readLines_71 rfl ?_
          refine wp_getf dX1_readLines_72 fl_X1_139 hsec2 rfl ?_
          refine wp_aload_n dX1_readLines_75 rfl ?_
          refine wp_aload_n dX1_readLines_76 rfl ?_
          refine wp_iload dX1_readLines_77 rfl ?_
          refine wp_callV (As := [.ref rd, .int (nI base)]) (rest := [.ref fl]) dX1_readLines_79 me_X1_readLine cw_X1_142 rfl ⟨(Nat.le_of_ble_eq_true rfl), (Nat.le_of_ble_eq_true rfl)⟩ rfl rfl rfl (Nat.le_of_ble_eq_true rfl) hde2 (cl_line w2 hde2 ht2 r2 ⟨t2, t3, t4⟩ d1 s1 (by omega) d4 d2 d3 hb) (fun r h4 q => ?_)
          obtain ⟨fa, rfl, q1, q2, q3, q4⟩ := q
          have w4 := q3.wf w2
          have l4 := l2.kept q3 (fun z => t1 z.symm)
          obtain ⟨mc, ed, l41, -⟩ := id l4
          have k34 : ∀ f, f < i → ∃ a, as[f]? = some a ∧ h4.1 a = some (9, fO (uu f) (vv f) (ss f)) := fun f hf => by
            obtain ⟨a, y1, y2⟩ := k3 f hf
            exact ⟨a, y1, q3.at y2 (fun z => t4 z.symm)⟩
          refine wp_callV (As := [.ref fa]) (rest := []) dX1_readLines_82 me_Jx4a65c_add_9ea2d cw_X1_118 rfl ⟨(Nat.le_of_ble_eq_true rfl), (Nat.le_of_ble_eq_true rfl)⟩ rfl rfl rfl (Nat.le_of_ble_eq_true rfl) l41 (ct_ladd w4 l4 (by omega) k1 (fun y hy => ?hel) q1 (fun z => t8 z.symm) rfl ca_X3_Object) (fun r h5 q => ?_)
          case hel =>
            obtain ⟨f, hf, rfl⟩ := List.mem_iff_getElem.mp hy
            obtain ⟨a, y1, y2⟩ := k34 f (by omega)
            rw [List.getElem?_eq_getElem hf] at y1
            injection y1 with y1
            rw [y1]
            exact ⟨9, 4, _, _, y2, rfl, ca_X3_Object⟩
          obtain ⟨cF', rfl, y1, y2, y3, y4, y5, y6⟩ := q
          refine wp_pop dX1_readLines_85 rfl ?_
          refine wp_iinc dX1_readLines_86 rfl rfl ?_
          refine wp_goto (tgt := 57) dX1_readLines_89 rfl ?_
          rw [show nI i + Int32.ofInt 1 = nI (i + 1) from nI_1 i]
          have c5 : cf (fun x => x = Tr ∨ x = Tf) h h5 := (k4.trans (q3.mono (fun _ z => Or.inl z))).trans (y5.mono (fun _ z => Or.inr z))
          have n9 : ¬ (fun x => x = Tf) 9 := fun z => t8 z.symm
          refine ih (i + 1) (a0 + (ls i).length) h5 (as ++ [fa]) cF' x3 x4 (by omega) (by rw [List.length_append, has]; rfl) (y5.wf w4) ?_ s2 (by omega) y1 y2 (by omega) (fun f hf => ?_) c5 (by omega)
          · obtain ⟨-, ⟨cap3, b2⟩, b3, b4, b5, b6⟩ := r2
            exact ⟨y5.at q2 t1, ⟨cap3, (b2.kept q3 (fun z => t5 z.symm)).kept y5 (fun z => t9 z.symm)⟩, b3, b4, by show a0 + (ls i).length ≤ _; omega, b6⟩
          · by_cases e : f = i
            · subst e
              refine ⟨fa, ?_, y5.at q1 n9⟩
              rw [List.getElem?_append_right (by omega), has, Nat.sub_self]
              rfl
            · obtain ⟨a, z1, z2⟩ := k34 f (by omega)
              refine ⟨a, ?_, y5.at z2 n9⟩
              rw [List.getElem?_append_left (by omega)]
              exact z1
  have hfr : k_fr (fun i => xs.getD i 0) xs.length (s0, false) = (xs.getD s0 0, (s0, false)) := by unfold k_fr; rw [if_pos (by show s0 < xs.length; omega)]
  have hde' := hde
  refine fp_meth pn_X1 (Nat.le_of_ble_eq_true rfl) rfl ?_
  refine wp_aload_n dX1_readLines_0 rfl ?_
  refine wp_getf dX1_readLines_1 fl_X1_135 hsec rfl ?_
  refine wp_astore_n dX1_readLines_4 (Nat.le_of_ble_eq_true rfl) rfl ?_
  refine wp_aload_n dX1_readLines_5 rfl ?_
  refine wp_callV (As := []) (rest := []) dX1_readLines_6 me_X6_front cw_X1_53 rfl ⟨(Nat.le_of_ble_eq_true rfl), (Nat.le_of_ble_eq_true rfl)⟩ rfl rfl rfl (Nat.le_of_ble_eq_true rfl) hr.1 (cr_front hr) (fun r h1 q => ?_)
  obtain ⟨rfl, rfl⟩ := q
  rw [hfr, fp_put_self hr.1]
  have c1 : cf (fun x => x = Tr ∨ x = Tf) h (fp_put h rd Tr (rc ba xs.length (s0 + (bsb R base).length, false))) := (cf.put1 hr.1).mono (fun _ z => Or.inl z)
  have r1 := hr.put (s' := (s0 + (bsb R base).length, false)) hbl
  have f1 : lst G (fp_put h rd Tr (rc ba xs.length (s0 + (bsb R base).length, false))) Tf fl [] 0 := hf.kept (cf.put1 hr.1) (fun z => t1 z.symm)
  have s1' : (fp_put h rd Tr (rc ba xs.length (s0 + (bsb R base).length, false))).2 = h.2 := rfl
  have hsec1 := c1.at hsec (fun z => by rcases z with z | z; exact t4 z.symm; exact t8 z.symm)
  have start : ∀ (x3 x4 : Int32), fp_wp G rm_X1_readLines M_X1_readLines 57 [some (.ref de), some (.ref sec), some (.ref rd), some (.int x3), some (.int x4), some (.int (nI base)), some (.int (nI 0))] [] (fp_put h rd Tr (rc ba xs.length (s0 + (bsb R base).length, false))) (fun r h' => r = none ∧ ∃ as cF, lst G h' Tf fl as cF ∧ as.length = n ∧ (∀ f, f < n → ∃ a, as[f]? = some a ∧ h'.1 a = some (9, fO (uu f) (vv f) (ss f))) ∧ cf (fun x => x = Tr ∨ x = Tf) h h' ∧ h'.2.2 ≤ h.2.2 + 180) := fun x3 x4 => by
    rw [List.length_append] at hend
    exact loop n 0 (s0 + (bsb R base).length) _ [] 0 x3 x4 rfl rfl (c1.wf w) r1 hs2 (by omega) f1 (by decide) (by decide) (fun f hf => absurd hf (Nat.not_lt_zero _)) c1 (by rw [s1']; omega)
  by_cases c : R ≤ base
  · have eb : bsb R base = nb 0 7 (base - R) := by unfold bsb; rw [if_pos c]
    rw [eb] at hs1 hbl start r1 f1 hsec1
    have h0 : xs.getD s0 0 = 0 + min (base - R) 127 := nb_first (l := []) (by rw [List.append_nil]; exact hs1)
    have hm : min (base - R) 127 < 128 := by omega
    have hkn := (k_num_nb (f := fun i => xs.getD i 0) (e := xs.length) (n := 7) (F := 0) (v := base - R) (a := s0) (c := false) (by decide) rfl (by omega) hs1).1 hbl
    rw [Nat.zero_add] at h0
    rw [h0]
    generalize min (base - R) 127 = y at hm
    refine wp_sipush (v := 128) dX1_readLines_9 rfl ?_
    refine wp_icmp_lt (tgt := 19) dX1_readLines_12 rfl (fun c_12 => ?_) (fun c_12 => ?_)
    · refine wp_iconst (v := 0) dX1_readLines_19 rfl ?_
      refine wp_istore_n dX1_readLines_20 (Nat.le_of_ble_eq_true rfl) rfl ?_
      refine wp_aload_n dX1_readLines_21 rfl ?_
      refine wp_bipush (v := 7) dX1_readLines_22 rfl ?_
      refine wp_callV (As := [.int (nI 7)]) (rest := []) dX1_readLines_24 me_X6_takeNumber cw_X1_56 rfl ⟨(Nat.le_of_ble_eq_true rfl), (Nat.le_of_ble_eq_true rfl)⟩ rfl rfl rfl (Nat.le_of_ble_eq_true rfl) hr.1 (cr_num (by decide) hr) (fun r h2 q => ?_)
      obtain ⟨rfl, rfl⟩ := q
      rw [hkn]
      refine wp_istore dX1_readLines_27 (Nat.le_of_ble_eq_true rfl) rfl ?_
      refine wp_iload_n dX1_readLines_29 rfl ?_
      refine wp_if_eq (tgt := 45) dX1_readLines_30 rfl (fun c_30 => ?_) (fun c_30 => ?_)
      · refine wp_aload_n dX1_readLines_45 rfl ?_
        refine wp_getf dX1_readLines_46 fl_X1_105 hsec1 rfl ?_
        refine wp_iload dX1_readLines_49 rfl ?_
        refine wp_iadd dX1_readLines_51 ?_
        rw [show nI R + nI (base - R) = nI base by rw [nI_add]; congr 1; omega]
        refine wp_istore dX1_readLines_52 (Nat.le_of_ble_eq_true rfl) rfl ?_
        refine wp_iconst (v := 0) dX1_readLines_54 rfl ?_
        refine wp_istore dX1_readLines_55 (Nat.le_of_ble_eq_true rfl) rfl ?_
        exact start _ _
      · exact absurd rfl c_30
    · exact absurd (nI_lt (b := 128) hm (by decide)) c_12
  · have eb : bsb R base = nb 128 7 (R - base - 1) := by unfold bsb; rw [if_neg c]
    rw [eb] at hs1 hbl start r1 f1 hsec1
    have h0 : xs.getD s0 0 = 128 + min (R - base - 1) 127 := nb_first (l := []) (by rw [List.append_nil]; exact hs1)
    have hm : min (R - base - 1) 127 < 128 := by omega
    have hkn := (k_num_nb (f := fun i => xs.getD i 0) (e := xs.length) (n := 7) (F := 128) (v := R - base - 1) (a := s0) (c := false) (by decide) rfl (by omega) hs1).1 hbl
    rw [h0]
    generalize min (R - base - 1) 127 = y at hm
    refine wp_sipush (v := 128) dX1_readLines_9 rfl ?_
    refine wp_icmp_lt (tgt := 19) dX1_readLines_12 rfl (fun c_12 => ?_) (fun c_12 => ?_)
    · have := (nI_ltI (b := 128) (show 128 + y < 2 ^ 31 by omega) (by decide)).mp c_12
      omega
    · refine wp_iconst (v := 1) dX1_readLines_15 rfl ?_
      refine wp_goto (tgt := 20) dX1_readLines_16 rfl ?_
      refine wp_istore_n dX1_readLines_20 (Nat.le_of_ble_eq_true rfl) rfl ?_
      refine wp_aload_n dX1_readLines_21 rfl ?_
      refine wp_bipush (v := 7) dX1_readLines_22 rfl ?_
      refine wp_callV (As := [.int (nI 7)]) (rest := []) dX1_readLines_24 me_X6_takeNumber cw_X1_56 rfl ⟨(Nat.le_of_ble_eq_true rfl), (Nat.le_of_ble_eq_true rfl)⟩ rfl rfl rfl (Nat.le_of_ble_eq_true rfl) hr.1 (cr_num (by decide) hr) (fun r h2 q => ?_)
      obtain ⟨rfl, rfl⟩ := q
      rw [hkn]
      refine wp_istore dX1_readLines_27 (Nat.le_of_ble_eq_true rfl) rfl ?_
      refine wp_iload_n dX1_readLines_29 rfl ?_
      refine wp_if_eq (tgt := 45) dX1_readLines_30 rfl (fun c_30 => ?_) (fun c_30 => ?_)
      · exact absurd c_30 (by decide)
      · refine wp_aload_n dX1_readLines_33 rfl ?_
        refine wp_getf dX1_readLines_34 fl_X1_105 hsec1 rfl ?_
        refine wp_iload dX1_readLines_37 rfl ?_
        refine wp_isub dX1_readLines_39 ?_
        refine wp_iconst (v := 1) dX1_readLines_40 rfl ?_
        refine wp_isub dX1_readLines_41 ?_
        refine wp_goto (tgt := 52) dX1_readLines_42 rfl ?_
        rw [show nI R - nI (R - base - 1) - 1 = nI base by rw [pk_sub (by omega), nI_sub1 (by omega)]; congr 1; omega]
        refine wp_istore dX1_readLines_52 (Nat.le_of_ble_eq_true rfl) rfl ?_
        refine wp_iconst (v := 0) dX1_readLines_54 rfl ?_
        refine wp_istore dX1_readLines_55 (Nat.le_of_ble_eq_true rfl) rfl ?_
        exact start _ _
end CF
