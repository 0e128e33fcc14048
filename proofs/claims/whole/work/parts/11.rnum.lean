/-! numbers and texts as lists of bytes; the reference's statics -/
theorem nI_or (a b : Nat) : nI a ||| nI b = nI (a ||| b) := by
  apply Int32.toBitVec_inj.1
  show BitVec.ofNat 32 a ||| BitVec.ofNat 32 b = BitVec.ofNat 32 (a ||| b)
  apply BitVec.eq_of_getLsbD_eq
  intro i hi
  simp [hi]
/-- how many bytes a long's text has -/
def bln (u : Nat) : Nat := if u < 1 then 0 else if u < 256 then 1 else if u < 65536 then 2 else if u < 16777216 then 3 else if u < 4294967296 then 4 else if u < 1099511627776 then 5 else if u < 281474976710656 then 6 else if u < 72057594037927936 then 7 else 8
theorem bln_le (u : Nat) : bln u ≤ 8 := by unfold bln; repeat' split <;> try omega
/-- byte k of a long -/
def bte (u k : Nat) : Nat := u / 2 ^ (8 * k) % 256
theorem bte_lt (u k : Nat) : bte u k < 256 := Nat.mod_lt _ (by decide)
theorem bte_long {u k : Nat} (hu : u < 2 ^ 64) (hk : k < 8) : ((lN u).toUInt64 >>> ((((8 : Int32) * nI k)).toInt64.toUInt64 &&& Int64.toUInt64 63)).toInt64 &&& 255 = lN (bte u k) := by
  have e : (8 : Int32) * nI k = nI (8 * k) := pk_mul 8 k
  rw [e, wb_shr hu (by omega)]
  have h2 : u / 2 ^ (8 * k) < 2 ^ 64 := Nat.lt_of_le_of_lt (Nat.div_le_self _ _) hu
  exact wb_mask (k := 8) h2 (by decide)
theorem lN_ne0 {n : Nat} (hn : n < 2 ^ 63) : lN n = 0 ↔ n = 0 := pk_lEQ (b := 0) hn (by decide)
theorem cmp0 (x y : Int64) : lg_cmp x y = 0 ↔ x = y := by
  unfold lg_cmp
  by_cases h1 : y < x
  · simp [h1]
    intro e
    subst e
    exact absurd h1 (by simp [Int64.lt_iff_toInt_lt])
  · by_cases h2 : x = y
    · simp [h1, h2]
    · simp [h1, h2]
theorem bln_step (u j : Nat) (hj : j < 8) : bln (u % 2 ^ (8 * (j + 1))) = if bte u j = 0 then bln (u % 2 ^ (8 * j)) else j + 1 := by
  have key : u % 2 ^ (8 * (j + 1)) = u % 2 ^ (8 * j) + 2 ^ (8 * j) * bte u j := by
    unfold bte
    rw [show 8 * (j + 1) = 8 * j + 8 by omega, Nat.pow_add, Nat.mod_mul]
  have hlt : u % 2 ^ (8 * j) < 2 ^ (8 * j) := Nat.mod_lt _ (Nat.pow_pos (by decide))
  have hb := bte_lt u j
  rw [key]
  generalize bte u j = b at hb ⊢
  generalize u % 2 ^ (8 * j) = r at hlt ⊢
  rcases (show j = 0 ∨ j = 1 ∨ j = 2 ∨ j = 3 ∨ j = 4 ∨ j = 5 ∨ j = 6 ∨ j = 7 by omega) with rfl | rfl | rfl | rfl | rfl | rfl | rfl | rfl <;>
    (simp only [Nat.reduceMul, Nat.reducePow] at hlt ⊢
     by_cases hz : b = 0
     · simp [hz]
     · rw [if_neg hz]; unfold bln; repeat' split <;> try omega)
theorem dX11_length_0 : decode cX11_length 0 = .ok (.iconst 0, 1) := by decide +kernel
theorem dX11_length_1 : decode cX11_length 1 = .ok (.istore_n 2, 1) := by decide +kernel
theorem dX11_length_2 : decode cX11_length 2 = .ok (.iconst 0, 1) := by decide +kernel
theorem dX11_length_3 : decode cX11_length 3 = .ok (.istore_n 3, 1) := by decide +kernel
theorem dX11_length_4 : decode cX11_length 4 = .ok (.iload_n 3, 1) := by decide +kernel
theorem dX11_length_5 : decode cX11_length 5 = .ok (.bipush 8, 2) := by decide +kernel
theorem dX11_length_7 : decode cX11_length 7 = .ok (.if_icmp .ge 32, 3) := by decide +kernel
theorem dX11_length_10 : decode cX11_length 10 = .ok (.lload_n 0, 1) := by decide +kernel
theorem dX11_length_11 : decode cX11_length 11 = .ok (.bipush 8, 2) := by decide +kernel
theorem dX11_length_13 : decode cX11_length 13 = .ok (.iload_n 3, 1) := by decide +kernel
theorem dX11_length_14 : decode cX11_length 14 = .ok (.imul, 1) := by decide +kernel
theorem dX11_length_15 : decode cX11_length 15 = .ok (.lushr, 1) := by decide +kernel
theorem dX11_length_16 : decode cX11_length 16 = .ok (.ldc2_w 98, 3) := by decide +kernel
theorem dX11_length_19 : decode cX11_length 19 = .ok (.land, 1) := by decide +kernel
theorem dX11_length_20 : decode cX11_length 20 = .ok (.lconst 0, 1) := by decide +kernel
theorem dX11_length_21 : decode cX11_length 21 = .ok (.lcmp, 1) := by decide +kernel
theorem dX11_length_22 : decode cX11_length 22 = .ok (.ifCond .eq 9, 3) := by decide +kernel
theorem dX11_length_25 : decode cX11_length 25 = .ok (.iload_n 3, 1) := by decide +kernel
theorem dX11_length_26 : decode cX11_length 26 = .ok (.iconst 1, 1) := by decide +kernel
theorem dX11_length_27 : decode cX11_length 27 = .ok (.iadd, 1) := by decide +kernel
theorem dX11_length_28 : decode cX11_length 28 = .ok (.goto 4, 3) := by decide +kernel
theorem dX11_length_31 : decode cX11_length 31 = .ok (.iload_n 2, 1) := by decide +kernel
theorem dX11_length_32 : decode cX11_length 32 = .ok (.istore_n 2, 1) := by decide +kernel
theorem dX11_length_33 : decode cX11_length 33 = .ok (.iinc 3 1, 3) := by decide +kernel
theorem dX11_length_36 : decode cX11_length 36 = .ok (.goto (-32), 3) := by decide +kernel
theorem dX11_length_39 : decode cX11_length 39 = .ok (.iload_n 2, 1) := by decide +kernel
theorem dX11_length_40 : decode cX11_length 40 = .ok (.ireturn, 1) := by decide +kernel
theorem dX11_isWhole_0 : decode cX11_isWhole 0 = .ok (.iconst 1, 1) := by decide +kernel
theorem dX11_isWhole_1 : decode cX11_isWhole 1 = .ok (.istore_n 2, 1) := by decide +kernel
theorem dX11_isWhole_2 : decode cX11_isWhole 2 = .ok (.iconst 0, 1) := by decide +kernel
theorem dX11_isWhole_3 : decode cX11_isWhole 3 = .ok (.istore_n 3, 1) := by decide +kernel
theorem dX11_isWhole_4 : decode cX11_isWhole 4 = .ok (.iload_n 3, 1) := by decide +kernel
theorem dX11_isWhole_5 : decode cX11_isWhole 5 = .ok (.lload_n 0, 1) := by decide +kernel
theorem dX11_isWhole_6 : decode cX11_isWhole 6 = .ok (.invokestatic 100, 3) := by decide +kernel
theorem dX11_isWhole_9 : decode cX11_isWhole 9 = .ok (.if_icmp .ge 34, 3) := by decide +kernel
theorem dX11_isWhole_12 : decode cX11_isWhole 12 = .ok (.iload_n 2, 1) := by decide +kernel
theorem dX11_isWhole_13 : decode cX11_isWhole 13 = .ok (.ifCond .eq 22, 3) := by decide +kernel
theorem dX11_isWhole_16 : decode cX11_isWhole 16 = .ok (.lload_n 0, 1) := by decide +kernel
theorem dX11_isWhole_17 : decode cX11_isWhole 17 = .ok (.bipush 8, 2) := by decide +kernel
theorem dX11_isWhole_19 : decode cX11_isWhole 19 = .ok (.iload_n 3, 1) := by decide +kernel
theorem dX11_isWhole_20 : decode cX11_isWhole 20 = .ok (.imul, 1) := by decide +kernel
theorem dX11_isWhole_21 : decode cX11_isWhole 21 = .ok (.lushr, 1) := by decide +kernel
theorem dX11_isWhole_22 : decode cX11_isWhole 22 = .ok (.ldc2_w 98, 3) := by decide +kernel
theorem dX11_isWhole_25 : decode cX11_isWhole 25 = .ok (.land, 1) := by decide +kernel
theorem dX11_isWhole_26 : decode cX11_isWhole 26 = .ok (.lconst 0, 1) := by decide +kernel
theorem dX11_isWhole_27 : decode cX11_isWhole 27 = .ok (.lcmp, 1) := by decide +kernel
theorem dX11_isWhole_28 : decode cX11_isWhole 28 = .ok (.ifCond .eq 7, 3) := by decide +kernel
theorem dX11_isWhole_31 : decode cX11_isWhole 31 = .ok (.iconst 1, 1) := by decide +kernel
theorem dX11_isWhole_32 : decode cX11_isWhole 32 = .ok (.goto 4, 3) := by decide +kernel
theorem dX11_isWhole_35 : decode cX11_isWhole 35 = .ok (.iconst 0, 1) := by decide +kernel
theorem dX11_isWhole_36 : decode cX11_isWhole 36 = .ok (.istore_n 2, 1) := by decide +kernel
theorem dX11_isWhole_37 : decode cX11_isWhole 37 = .ok (.iinc 3 1, 3) := by decide +kernel
theorem dX11_isWhole_40 : decode cX11_isWhole 40 = .ok (.goto (-36), 3) := by decide +kernel
theorem dX11_isWhole_43 : decode cX11_isWhole 43 = .ok (.iload_n 2, 1) := by decide +kernel
theorem dX11_isWhole_44 : decode cX11_isWhole 44 = .ok (.ireturn, 1) := by decide +kernel
theorem dX11_sizeOf_0 : decode cX11_sizeOf 0 = .ok (.bipush 32, 2) := by decide +kernel
theorem dX11_sizeOf_2 : decode cX11_sizeOf 2 = .ok (.lload_n 0, 1) := by decide +kernel
theorem dX11_sizeOf_3 : decode cX11_sizeOf 3 = .ok (.invokestatic 100, 3) := by decide +kernel
theorem dX11_sizeOf_6 : decode cX11_sizeOf 6 = .ok (.iadd, 1) := by decide +kernel
theorem dX11_sizeOf_7 : decode cX11_sizeOf 7 = .ok (.lload_n 2, 1) := by decide +kernel
theorem dX11_sizeOf_8 : decode cX11_sizeOf 8 = .ok (.invokestatic 100, 3) := by decide +kernel
theorem dX11_sizeOf_11 : decode cX11_sizeOf 11 = .ok (.iadd, 1) := by decide +kernel
theorem dX11_sizeOf_12 : decode cX11_sizeOf 12 = .ok (.ireturn, 1) := by decide +kernel
theorem dX11_fixedName_0 : decode cX11_fixedName 0 = .ok (.lload_n 0, 1) := by decide +kernel
theorem dX11_fixedName_1 : decode cX11_fixedName 1 = .ok (.ldc2_w 131, 3) := by decide +kernel
theorem dX11_fixedName_4 : decode cX11_fixedName 4 = .ok (.lcmp, 1) := by decide +kernel
theorem dX11_fixedName_5 : decode cX11_fixedName 5 = .ok (.ifCond .lt 19, 3) := by decide +kernel
theorem dX11_fixedName_8 : decode cX11_fixedName 8 = .ok (.lload_n 0, 1) := by decide +kernel
theorem dX11_fixedName_9 : decode cX11_fixedName 9 = .ok (.ldc2_w 133, 3) := by decide +kernel
theorem dX11_fixedName_12 : decode cX11_fixedName 12 = .ok (.lcmp, 1) := by decide +kernel
theorem dX11_fixedName_13 : decode cX11_fixedName 13 = .ok (.ifCond .gt 11, 3) := by decide +kernel
theorem dX11_fixedName_16 : decode cX11_fixedName 16 = .ok (.lload_n 0, 1) := by decide +kernel
theorem dX11_fixedName_17 : decode cX11_fixedName 17 = .ok (.l2i, 1) := by decide +kernel
theorem dX11_fixedName_18 : decode cX11_fixedName 18 = .ok (.bipush 97, 2) := by decide +kernel
theorem dX11_fixedName_20 : decode cX11_fixedName 20 = .ok (.isub, 1) := by decide +kernel
theorem dX11_fixedName_21 : decode cX11_fixedName 21 = .ok (.goto 4, 3) := by decide +kernel
theorem dX11_fixedName_24 : decode cX11_fixedName 24 = .ok (.iconst (-1), 1) := by decide +kernel
theorem dX11_fixedName_25 : decode cX11_fixedName 25 = .ok (.ireturn, 1) := by decide +kernel
theorem dX11_fixedValue_0 : decode cX11_fixedValue 0 = .ok (.iload_n 0, 1) := by decide +kernel
theorem dX11_fixedValue_1 : decode cX11_fixedValue 1 = .ok (.iconst 2, 1) := by decide +kernel
theorem dX11_fixedValue_2 : decode cX11_fixedValue 2 = .ok (.irem, 1) := by decide +kernel
theorem dX11_fixedValue_3 : decode cX11_fixedValue 3 = .ok (.ifCond .ne 7, 3) := by decide +kernel
theorem dX11_fixedValue_6 : decode cX11_fixedValue 6 = .ok (.lconst 0, 1) := by decide +kernel
theorem dX11_fixedValue_7 : decode cX11_fixedValue 7 = .ok (.goto 6, 3) := by decide +kernel
theorem dX11_fixedValue_10 : decode cX11_fixedValue 10 = .ok (.ldc2_w 135, 3) := by decide +kernel
theorem dX11_fixedValue_13 : decode cX11_fixedValue 13 = .ok (.lreturn, 1) := by decide +kernel
section RN
variable {G : fp_G} {h : fp_H}
theorem ct_length {u : Nat} (hu : u < 2 ^ 64) : fp_ct G rm_X11_length M_X11_length [.long (lN u)] h (fun r h' => h' = h ∧ r = some (.int (nI (bln u)))) := by
  refine fp_meth pn_X11 (Nat.le_of_ble_eq_true rfl) rfl ?_
  refine wp_iconst (v := 0) dX11_length_0 rfl ?_
  refine wp_istore_n dX11_length_1 (Nat.le_of_ble_eq_true rfl) rfl ?_
  refine wp_iconst (v := 0) dX11_length_2 rfl ?_
  refine wp_istore_n dX11_length_3 (Nat.le_of_ble_eq_true rfl) rfl ?_
  have loop : ∀ n j : Nat, j ≤ 8 → 8 - j < n → fp_wp G rm_X11_length M_X11_length 4 [some (.long (lN u)), none, some (.int (nI (bln (u % 2 ^ (8 * j))))), some (.int (nI j))] [] h (fun r h' => h' = h ∧ r = some (.int (nI (bln u)))) := by
    intro n
    induction n with
    | zero => intro j _ h2; omega
    | succ n ih =>
      intro j hj hn
      refine wp_iload_n dX11_length_4 rfl ?_
      refine wp_bipush (v := 8) dX11_length_5 rfl ?_
      refine wp_icmp_ge (tgt := 39) dX11_length_7 rfl (fun c_7 => ?_) (fun c_7 => ?_)
      · have e8 : j = 8 := by
          have := (nI_leI (a := 8) (b := j) (by decide) (by omega)).mp c_7
          omega
        subst e8
        refine wp_iload_n dX11_length_39 rfl ?_
        refine wp_iret dX11_length_40 rfl rfl ?_
        refine ⟨rfl, ?_⟩
        rw [Nat.mod_eq_of_lt (show u < 2 ^ (8 * 8) from hu)]
      · have hj8 : j < 8 := by
          rcases Nat.lt_or_ge j 8 with q | q
          · exact q
          · exact absurd (nI_le q (by omega)) c_7
        refine wp_lload_n dX11_length_10 rfl ?_
        refine wp_bipush (v := 8) dX11_length_11 rfl ?_
        refine wp_iload_n dX11_length_13 rfl ?_
        refine wp_imul dX11_length_14 ?_
        refine wp_lushr dX11_length_15 ?_
        refine wp_ldc2 dX11_length_16 kc_X11_98 ?_
        refine wp_land dX11_length_19 ?_
        refine wp_lconst (v := 0) dX11_length_20 rfl ?_
        refine wp_lcmp dX11_length_21 ?_
        refine wp_if_eq (tgt := 31) dX11_length_22 rfl (fun c_22 => ?_) (fun c_22 => ?_)
        · rw [bte_long hu hj8, cmp0, lN_ne0 (by have := bte_lt u j; omega)] at c_22
          refine wp_iload_n dX11_length_31 rfl ?_
          refine wp_istore_n dX11_length_32 (Nat.le_of_ble_eq_true rfl) rfl ?_
          refine wp_iinc dX11_length_33 rfl rfl ?_
          refine wp_goto (tgt := 4) dX11_length_36 rfl ?_
          rw [show nI j + Int32.ofInt 1 = nI (j + 1) from nI_1 j]
          have := ih (j + 1) (by omega) (by omega)
          rw [bln_step u j hj8, if_pos c_22] at this
          exact this
        · rw [bte_long hu hj8, cmp0, lN_ne0 (by have := bte_lt u j; omega)] at c_22
          refine wp_iload_n dX11_length_25 rfl ?_
          refine wp_iconst (v := 1) dX11_length_26 rfl ?_
          refine wp_iadd dX11_length_27 ?_
          refine wp_goto (tgt := 32) dX11_length_28 rfl ?_
          refine wp_istore_n dX11_length_32 (Nat.le_of_ble_eq_true rfl) rfl ?_
          refine wp_iinc dX11_length_33 rfl rfl ?_
          refine wp_goto (tgt := 4) dX11_length_36 rfl ?_
          rw [show nI j + Int32.ofInt 1 = nI (j + 1) from nI_1 j, nI_1]
          have := ih (j + 1) (by omega) (by omega)
          rw [bln_step u j hj8, if_neg c_22] at this
          exact this
  have := loop 9 0 (by omega) (by omega)
  rw [show bln (u % 2 ^ (8 * 0)) = 0 by simp [Nat.mod_one, bln]] at this
  exact this
end RN
