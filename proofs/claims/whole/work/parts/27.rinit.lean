/-! the reference: its constructor -/
def r_p0 : rs := (fun _ => 0, fun _ _ => 0, fun _ _ => 0)
def r_obP (m j : Nat) : List Value := (List.range 46).map (fun k => if r_rk k = 0 then .int 0 else if r_rk k ≤ j then .ref (m + r_rk k) else .null)
def r_ln : Nat → Nat
  | 0 => 0
  | j + 1 => r_ln j + (r_kd j).2
/-- j arrays of the new object at m are made -/
def r_hi (h0 : fp_H) (m j : Nat) : fp_H := (fun q => if q = m then some (1, .inr (12, r_obP m j)) else if m < q ∧ q ≤ m + j then some (1, r_arr r_p0 (q - m - 1)) else h0.1 q, m + 1 + j, h0.2.2 + 46 + r_ln j)
theorem r_obP_at {m j k : Nat} (hk : k < 46) : (r_obP m j)[k]? = some (if r_rk k = 0 then .int 0 else if r_rk k ≤ j then .ref (m + r_rk k) else .null) := by
  simp [r_obP, List.getElem?_map, List.getElem?_range hk]
theorem r_rk_inj : ∀ a, a < 46 → ∀ b, b < 46 → r_rk a = r_rk b → r_rk a ≠ 0 → a = b := by decide +kernel
theorem r_obP_set {m j k : Nat} (hk : k < 46) (hr : r_rk k = j + 1) : (r_obP m j).set k (.ref (m + (j + 1))) = r_obP m (j + 1) := by
  apply List.ext_getElem?
  intro i
  by_cases e : k = i
  · subst e
    rw [List.getElem?_set_self (by simp [r_obP]; exact hk), r_obP_at hk, hr, if_neg (by omega), if_pos (Nat.le_refl _)]
  · rw [List.getElem?_set_ne e]
    by_cases hi : i < 46
    · rw [r_obP_at hi, r_obP_at hi]
      by_cases hz : r_rk i = 0
      · rw [if_pos hz, if_pos hz]
      · have hne : r_rk i ≠ j + 1 := fun q => e (r_rk_inj k hk i hi (hr.trans q.symm) (by omega))
        rw [if_neg hz, if_neg hz]
        by_cases hle : r_rk i ≤ j
        · rw [if_pos hle, if_pos (by omega)]
        · rw [if_neg hle, if_neg (by omega)]
    · rw [List.getElem?_eq_none (by simp [r_obP]; omega), List.getElem?_eq_none (by simp [r_obP]; omega)]
section RIN
variable {G : fp_G} {d : Nat × Nat} {M : fp_M} {pc : Nat} {L : List (Option Value)} {rest : List Value} {h0 : fp_H} {m : Nat} {Q : Option Value → fp_H → Prop}
theorem r_hi_s {j k0 : Nat} (hk : k0 < 46) (hr : r_rk k0 = j + 1) : fp_put (fp_new (r_hi h0 m j) 1 (r_arr r_p0 j) (r_kd j).2) m 1 (.inr (12, (r_obP m j).set k0 (.ref (m + 1 + j)))) = r_hi h0 m (j + 1) := by
  rw [show m + 1 + j = m + (j + 1) by omega, r_obP_set hk hr]
  refine Prod.ext ?_ ?_
  · funext q
    by_cases e : q = m
    · subst e
      rw [fp_put_eq]
      simp [r_hi]
    · rw [fp_put_ne e]
      by_cases e2 : q = m + 1 + j
      · subst e2
        have : (fp_new (r_hi h0 m j) 1 (r_arr r_p0 j) (r_kd j).2).1 (m + 1 + j) = some (1, r_arr r_p0 j) := fp_new_eq (h := r_hi h0 m j)
        rw [this]
        have e3 : m < m + 1 + j ∧ m + 1 + j ≤ m + (j + 1) := by omega
        simp only [r_hi, if_neg e, if_pos e3]
        rw [show m + 1 + j - m - 1 = j by omega]
      · rw [fp_new_ne (show q ≠ (r_hi h0 m j).2.1 from e2)]
        simp only [r_hi, if_neg e]
        by_cases e3 : m < q ∧ q ≤ m + j
        · rw [if_pos e3, if_pos (by omega)]
        · rw [if_neg e3, if_neg (by omega)]
  · show (m + 1 + j + 1, h0.2.2 + 46 + r_ln j + (r_kd j).2) = (m + 1 + (j + 1), h0.2.2 + 46 + r_ln (j + 1))
    rw [r_ln]
    congr 1
    omega
theorem wr_mka {at0 : ArrayType} {i N : Nat} {ft : FieldType} (j k0 : Nat) (hd1 : decode M.2.1 pc = .ok (.newarray at0, 2)) (hd2 : decode M.2.1 (pc + 2) = .ok (.putfield i, 3)) (hty : fp_ty[(r_kd j).1]? = some (newarray.typeOf at0)) (hw : Cond.arrayClass (newarray.typeOf at0) ∈ fp_tw) (hf : fp_fs M.1.cls M.1.name i 12 k0 ft) (hk : k0 < 46) (hr : r_rk k0 = j + 1) (hft : ∃ t, ft = .array t) (hN : (r_kd j).2 = N) (hN2 : N ≤ 60000) (hcb : componentBytes (newarray.typeOf at0) ≤ 8)
    (ha : ∀ cA : ClassId, ∀ a0, r_arr r_p0 j = .inl ((r_kd j).1, a0) → vp_cell cA a0 = arrV cA N (fun _ => defaultValue (newarray.typeOf at0)))
    (k : fp_wp G d M (pc + 2 + 3) L rest (r_hi h0 m (j + 1)) Q) : fp_wp G d M pc L (.int (nI N) :: .ref m :: rest) (r_hi h0 m j) Q := by
  obtain ⟨a0, hra⟩ : ∃ a0, r_arr r_p0 j = .inl ((r_kd j).1, a0) := by
    unfold r_arr
    split
    · rename_i h; exact ⟨_, by rw [h]⟩
    · exact ⟨_, rfl⟩
  refine wp_newa (kd := (r_kd j).1) (N := N) (a0 := a0) 1 hd1 hty hw (fun cA => ha cA a0 hra) (nI_pos (by omega)) (nI_clamp (by omega)) ?_ ?_
  · have : N * componentBytes (newarray.typeOf at0) ≤ 60000 * 8 := Nat.mul_le_mul hN2 hcb
    omega
  · rw [← hra, ← hN]
    have hm : (fp_new (r_hi h0 m j) 1 (r_arr r_p0 j) (r_kd j).2).1 m = some (1, .inr (12, r_obP m j)) := by
      rw [fp_new_ne (show m ≠ (r_hi h0 m j).2.1 from by show m ≠ m + 1 + j; omega)]
      simp [r_hi]
    obtain ⟨t, rfl⟩ := hft
    refine wp_putf hd2 hf hm (by simp [r_obP]; exact hk) rfl rfl ?_
    have := r_hi_s (h0 := h0) (m := m) hk hr
    rw [show (r_hi h0 m j).2.1 = m + 1 + j from rfl, this]
    exact k
end RIN
def r_cl (x : Int32) (n : Nat) : Nat := if x < 0 then 0 else if x ≤ nI n then x.toNatClampNeg else n
def r_new (x y : Int32) : rs := r_si (r_si r_p0 0 (r_cl x 400)) 1 (r_cl y 4)
theorem dX11_init_0 : decode cX11_init 0 = .ok (.aload_n 0, 1) := by decide +kernel
theorem dX11_init_1 : decode cX11_init 1 = .ok (.invokespecial 1, 3) := by decide +kernel
theorem dX11_init_4 : decode cX11_init 4 = .ok (.aload_n 0, 1) := by decide +kernel
theorem dX11_init_5 : decode cX11_init 5 = .ok (.bipush 12, 2) := by decide +kernel
theorem dX11_init_7 : decode cX11_init 7 = .ok (.newarray .long, 2) := by decide +kernel
theorem dX11_init_9 : decode cX11_init 9 = .ok (.putfield 7, 3) := by decide +kernel
theorem dX11_init_12 : decode cX11_init 12 = .ok (.aload_n 0, 1) := by decide +kernel
theorem dX11_init_13 : decode cX11_init 13 = .ok (.bipush 12, 2) := by decide +kernel
theorem dX11_init_15 : decode cX11_init 15 = .ok (.newarray .long, 2) := by decide +kernel
theorem dX11_init_17 : decode cX11_init 17 = .ok (.putfield 13, 3) := by decide +kernel
theorem dX11_init_20 : decode cX11_init 20 = .ok (.aload_n 0, 1) := by decide +kernel
theorem dX11_init_21 : decode cX11_init 21 = .ok (.bipush 12, 2) := by decide +kernel
theorem dX11_init_23 : decode cX11_init 23 = .ok (.newarray .boolean, 2) := by decide +kernel
theorem dX11_init_25 : decode cX11_init 25 = .ok (.putfield 16, 3) := by decide +kernel
theorem dX11_init_28 : decode cX11_init 28 = .ok (.aload_n 0, 1) := by decide +kernel
theorem dX11_init_29 : decode cX11_init 29 = .ok (.sipush 2400, 3) := by decide +kernel
theorem dX11_init_32 : decode cX11_init 32 = .ok (.newarray .long, 2) := by decide +kernel
theorem dX11_init_34 : decode cX11_init 34 = .ok (.putfield 20, 3) := by decide +kernel
theorem dX11_init_37 : decode cX11_init 37 = .ok (.aload_n 0, 1) := by decide +kernel
theorem dX11_init_38 : decode cX11_init 38 = .ok (.sipush 2400, 3) := by decide +kernel
theorem dX11_init_41 : decode cX11_init 41 = .ok (.newarray .long, 2) := by decide +kernel
theorem dX11_init_43 : decode cX11_init 43 = .ok (.putfield 23, 3) := by decide +kernel
theorem dX11_init_46 : decode cX11_init 46 = .ok (.aload_n 0, 1) := by decide +kernel
theorem dX11_init_47 : decode cX11_init 47 = .ok (.sipush 2400, 3) := by decide +kernel
theorem dX11_init_50 : decode cX11_init 50 = .ok (.newarray .int, 2) := by decide +kernel
theorem dX11_init_52 : decode cX11_init 52 = .ok (.putfield 26, 3) := by decide +kernel
theorem dX11_init_55 : decode cX11_init 55 = .ok (.aload_n 0, 1) := by decide +kernel
theorem dX11_init_56 : decode cX11_init 56 = .ok (.ldc 30, 2) := by decide +kernel
theorem dX11_init_58 : decode cX11_init 58 = .ok (.newarray .int, 2) := by decide +kernel
theorem dX11_init_60 : decode cX11_init 60 = .ok (.putfield 31, 3) := by decide +kernel
theorem dX11_init_63 : decode cX11_init 63 = .ok (.aload_n 0, 1) := by decide +kernel
theorem dX11_init_64 : decode cX11_init 64 = .ok (.sipush 4000, 3) := by decide +kernel
theorem dX11_init_67 : decode cX11_init 67 = .ok (.newarray .int, 2) := by decide +kernel
theorem dX11_init_69 : decode cX11_init 69 = .ok (.putfield 34, 3) := by decide +kernel
theorem dX11_init_72 : decode cX11_init 72 = .ok (.aload_n 0, 1) := by decide +kernel
theorem dX11_init_73 : decode cX11_init 73 = .ok (.sipush 2000, 3) := by decide +kernel
theorem dX11_init_76 : decode cX11_init 76 = .ok (.newarray .int, 2) := by decide +kernel
theorem dX11_init_78 : decode cX11_init 78 = .ok (.putfield 37, 3) := by decide +kernel
theorem dX11_init_81 : decode cX11_init 81 = .ok (.aload_n 0, 1) := by decide +kernel
theorem dX11_init_82 : decode cX11_init 82 = .ok (.sipush 2000, 3) := by decide +kernel
theorem dX11_init_85 : decode cX11_init 85 = .ok (.newarray .int, 2) := by decide +kernel
theorem dX11_init_87 : decode cX11_init 87 = .ok (.putfield 40, 3) := by decide +kernel
theorem dX11_init_90 : decode cX11_init 90 = .ok (.aload_n 0, 1) := by decide +kernel
theorem dX11_init_91 : decode cX11_init 91 = .ok (.sipush 2000, 3) := by decide +kernel
theorem dX11_init_94 : decode cX11_init 94 = .ok (.newarray .int, 2) := by decide +kernel
theorem dX11_init_96 : decode cX11_init 96 = .ok (.putfield 43, 3) := by decide +kernel
theorem dX11_init_99 : decode cX11_init 99 = .ok (.aload_n 0, 1) := by decide +kernel
theorem dX11_init_100 : decode cX11_init 100 = .ok (.sipush 200, 3) := by decide +kernel
theorem dX11_init_103 : decode cX11_init 103 = .ok (.newarray .int, 2) := by decide +kernel
theorem dX11_init_105 : decode cX11_init 105 = .ok (.putfield 46, 3) := by decide +kernel
theorem dX11_init_108 : decode cX11_init 108 = .ok (.aload_n 0, 1) := by decide +kernel
theorem dX11_init_109 : decode cX11_init 109 = .ok (.sipush 200, 3) := by decide +kernel
theorem dX11_init_112 : decode cX11_init 112 = .ok (.newarray .int, 2) := by decide +kernel
theorem dX11_init_114 : decode cX11_init 114 = .ok (.putfield 49, 3) := by decide +kernel
theorem dX11_init_117 : decode cX11_init 117 = .ok (.aload_n 0, 1) := by decide +kernel
theorem dX11_init_118 : decode cX11_init 118 = .ok (.sipush 200, 3) := by decide +kernel
theorem dX11_init_121 : decode cX11_init 121 = .ok (.newarray .boolean, 2) := by decide +kernel
theorem dX11_init_123 : decode cX11_init 123 = .ok (.putfield 52, 3) := by decide +kernel
theorem dX11_init_126 : decode cX11_init 126 = .ok (.aload_n 0, 1) := by decide +kernel
theorem dX11_init_127 : decode cX11_init 127 = .ok (.sipush 200, 3) := by decide +kernel
theorem dX11_init_130 : decode cX11_init 130 = .ok (.newarray .int, 2) := by decide +kernel
theorem dX11_init_132 : decode cX11_init 132 = .ok (.putfield 55, 3) := by decide +kernel
theorem dX11_init_135 : decode cX11_init 135 = .ok (.aload_n 0, 1) := by decide +kernel
theorem dX11_init_136 : decode cX11_init 136 = .ok (.sipush 200, 3) := by decide +kernel
theorem dX11_init_139 : decode cX11_init 139 = .ok (.newarray .int, 2) := by decide +kernel
theorem dX11_init_141 : decode cX11_init 141 = .ok (.putfield 58, 3) := by decide +kernel
theorem dX11_init_144 : decode cX11_init 144 = .ok (.aload_n 0, 1) := by decide +kernel
theorem dX11_init_145 : decode cX11_init 145 = .ok (.sipush 2400, 3) := by decide +kernel
theorem dX11_init_148 : decode cX11_init 148 = .ok (.newarray .long, 2) := by decide +kernel
theorem dX11_init_150 : decode cX11_init 150 = .ok (.putfield 61, 3) := by decide +kernel
theorem dX11_init_153 : decode cX11_init 153 = .ok (.aload_n 0, 1) := by decide +kernel
theorem dX11_init_154 : decode cX11_init 154 = .ok (.sipush 2400, 3) := by decide +kernel
theorem dX11_init_157 : decode cX11_init 157 = .ok (.newarray .long, 2) := by decide +kernel
theorem dX11_init_159 : decode cX11_init 159 = .ok (.putfield 64, 3) := by decide +kernel
theorem dX11_init_162 : decode cX11_init 162 = .ok (.aload_n 0, 1) := by decide +kernel
theorem dX11_init_163 : decode cX11_init 163 = .ok (.sipush 2400, 3) := by decide +kernel
theorem dX11_init_166 : decode cX11_init 166 = .ok (.newarray .boolean, 2) := by decide +kernel
theorem dX11_init_168 : decode cX11_init 168 = .ok (.putfield 67, 3) := by decide +kernel
theorem dX11_init_171 : decode cX11_init 171 = .ok (.aload_n 0, 1) := by decide +kernel
theorem dX11_init_172 : decode cX11_init 172 = .ok (.sipush 2400, 3) := by decide +kernel
theorem dX11_init_175 : decode cX11_init 175 = .ok (.newarray .int, 2) := by decide +kernel
theorem dX11_init_177 : decode cX11_init 177 = .ok (.putfield 70, 3) := by decide +kernel
theorem dX11_init_180 : decode cX11_init 180 = .ok (.aload_n 0, 1) := by decide +kernel
theorem dX11_init_181 : decode cX11_init 181 = .ok (.sipush 200, 3) := by decide +kernel
theorem dX11_init_184 : decode cX11_init 184 = .ok (.newarray .int, 2) := by decide +kernel
theorem dX11_init_186 : decode cX11_init 186 = .ok (.putfield 73, 3) := by decide +kernel
theorem dX11_init_189 : decode cX11_init 189 = .ok (.aload_n 0, 1) := by decide +kernel
theorem dX11_init_190 : decode cX11_init 190 = .ok (.sipush 200, 3) := by decide +kernel
theorem dX11_init_193 : decode cX11_init 193 = .ok (.newarray .int, 2) := by decide +kernel
theorem dX11_init_195 : decode cX11_init 195 = .ok (.putfield 76, 3) := by decide +kernel
theorem dX11_init_198 : decode cX11_init 198 = .ok (.aload_n 0, 1) := by decide +kernel
theorem dX11_init_199 : decode cX11_init 199 = .ok (.sipush 200, 3) := by decide +kernel
theorem dX11_init_202 : decode cX11_init 202 = .ok (.newarray .int, 2) := by decide +kernel
theorem dX11_init_204 : decode cX11_init 204 = .ok (.putfield 79, 3) := by decide +kernel
theorem dX11_init_207 : decode cX11_init 207 = .ok (.aload_n 0, 1) := by decide +kernel
theorem dX11_init_208 : decode cX11_init 208 = .ok (.ldc 30, 2) := by decide +kernel
theorem dX11_init_210 : decode cX11_init 210 = .ok (.newarray .int, 2) := by decide +kernel
theorem dX11_init_212 : decode cX11_init 212 = .ok (.putfield 82, 3) := by decide +kernel
theorem dX11_init_215 : decode cX11_init 215 = .ok (.aload_n 0, 1) := by decide +kernel
theorem dX11_init_216 : decode cX11_init 216 = .ok (.bipush 8, 2) := by decide +kernel
theorem dX11_init_218 : decode cX11_init 218 = .ok (.newarray .boolean, 2) := by decide +kernel
theorem dX11_init_220 : decode cX11_init 220 = .ok (.putfield 85, 3) := by decide +kernel
theorem dX11_init_223 : decode cX11_init 223 = .ok (.aload_n 0, 1) := by decide +kernel
theorem dX11_init_224 : decode cX11_init 224 = .ok (.sipush 400, 3) := by decide +kernel
theorem dX11_init_227 : decode cX11_init 227 = .ok (.newarray .int, 2) := by decide +kernel
theorem dX11_init_229 : decode cX11_init 229 = .ok (.putfield 88, 3) := by decide +kernel
theorem dX11_init_232 : decode cX11_init 232 = .ok (.aload_n 0, 1) := by decide +kernel
theorem dX11_init_233 : decode cX11_init 233 = .ok (.iload_n 1, 1) := by decide +kernel
theorem dX11_init_234 : decode cX11_init 234 = .ok (.ifCond .ge 7, 3) := by decide +kernel
theorem dX11_init_237 : decode cX11_init 237 = .ok (.iconst 0, 1) := by decide +kernel
theorem dX11_init_238 : decode cX11_init 238 = .ok (.goto 17, 3) := by decide +kernel
theorem dX11_init_241 : decode cX11_init 241 = .ok (.iload_n 1, 1) := by decide +kernel
theorem dX11_init_242 : decode cX11_init 242 = .ok (.sipush 400, 3) := by decide +kernel
theorem dX11_init_245 : decode cX11_init 245 = .ok (.if_icmp .le 9, 3) := by decide +kernel
theorem dX11_init_248 : decode cX11_init 248 = .ok (.sipush 400, 3) := by decide +kernel
theorem dX11_init_251 : decode cX11_init 251 = .ok (.goto 4, 3) := by decide +kernel
theorem dX11_init_254 : decode cX11_init 254 = .ok (.iload_n 1, 1) := by decide +kernel
theorem dX11_init_255 : decode cX11_init 255 = .ok (.putfield 91, 3) := by decide +kernel
theorem dX11_init_258 : decode cX11_init 258 = .ok (.aload_n 0, 1) := by decide +kernel
theorem dX11_init_259 : decode cX11_init 259 = .ok (.iload_n 2, 1) := by decide +kernel
theorem dX11_init_260 : decode cX11_init 260 = .ok (.ifCond .ge 7, 3) := by decide +kernel
theorem dX11_init_263 : decode cX11_init 263 = .ok (.iconst 0, 1) := by decide +kernel
theorem dX11_init_264 : decode cX11_init 264 = .ok (.goto 13, 3) := by decide +kernel
theorem dX11_init_267 : decode cX11_init 267 = .ok (.iload_n 2, 1) := by decide +kernel
theorem dX11_init_268 : decode cX11_init 268 = .ok (.iconst 4, 1) := by decide +kernel
theorem dX11_init_269 : decode cX11_init 269 = .ok (.if_icmp .le 7, 3) := by decide +kernel
theorem dX11_init_272 : decode cX11_init 272 = .ok (.iconst 4, 1) := by decide +kernel
theorem dX11_init_273 : decode cX11_init 273 = .ok (.goto 4, 3) := by decide +kernel
theorem dX11_init_276 : decode cX11_init 276 = .ok (.iload_n 2, 1) := by decide +kernel
theorem dX11_init_277 : decode cX11_init 277 = .ok (.putfield 95, 3) := by decide +kernel
theorem dX11_init_280 : decode cX11_init 280 = .ok (.return_, 1) := by decide +kernel
section RIN2
variable {G : fp_G} {h0 : fp_H}
theorem r_hi_0 : fp_new h0 1 (.inr (12, [.int 0, .int 0, .int 0, .null, .null, .null, .int 0, .null, .null, .null, .int 0, .int 0, .int 0, .int 0, .null, .int 0, .int 0, .null, .int 0, .int 0, .null, .null, .null, .int 0, .int 0, .int 0, .int 0, .int 0, .int 0, .null, .null, .null, .null, .null, .null, .null, .null, .null, .null, .null, .null, .int 0, .null, .null, .int 0, .null])) 46 = r_hi h0 h0.2.1 0 := by
  refine Prod.ext ?_ rfl
  funext q
  by_cases e : q = h0.2.1
  · subst e
    rw [fp_new_eq]
    simp only [r_hi, if_true]
    rfl
  · rw [fp_new_ne e]
    have : ¬ (h0.2.1 < q ∧ q ≤ h0.2.1 + 0) := by omega
    simp only [r_hi, if_neg e, if_neg this]
theorem r_hi_26 {m : Nat} : r_hi h0 m 26 = r_hp (h0.1, m + 27, h0.2.2 + 46 + r_ln 26) m r_p0 := by
  refine Prod.ext ?_ rfl
  funext q
  by_cases e : q = m
  · subst e
    simp only [r_hi, r_hp, if_true]
    have : r_obP q 26 = r_obj q r_p0 := by
      apply List.ext_getElem?
      intro i
      by_cases hi : i < 46
      · rw [r_obP_at hi, r_obj_at hi, r_fd]
        have hle : r_rk i ≤ 26 := (show ∀ i, i < 46 → r_rk i ≤ 26 by decide +kernel) i hi
        rw [if_pos hle]
        rfl
      · rw [List.getElem?_eq_none (by simp [r_obP]; omega), List.getElem?_eq_none (by simp [r_obj]; omega)]
    rw [this]
  · simp only [r_hi, r_hp, if_neg e]
theorem r_cl_spec (x : Int32) (n : Nat) (hn : n < 2 ^ 31) : r_cl x n ≤ n := by
  unfold r_cl
  split
  · omega
  · rename_i h0
    split
    · rename_i h1
      obtain ⟨j, hj, rfl⟩ := nI_of h0
      rw [nI_clamp hj]
      exact (nI_leI hj hn).mp h1
    · omega
set_option maxHeartbeats 4000000 in
/-- the constructor, of the object that was just made -/
theorem ct_newR {x y : Int32} : fp_ct G rm_X11_init M_X11_init [.ref h0.2.1, .int x, .int y] (r_hi h0 h0.2.1 0) (fun r h' => r = none ∧ h' = r_hp (h0.1, h0.2.1 + 27, h0.2.2 + 46 + r_ln 26) h0.2.1 (r_new x y)) := by
  generalize h0.2.1 = m
  refine fp_meth pn_X11 (Nat.le_of_ble_eq_true rfl) rfl ?_
  refine wp_aload_n dX11_init_0 rfl ?_
  refine wp_objInit dX11_init_1 cw_X11_1 ⟨(Nat.le_of_ble_eq_true rfl), (Nat.le_of_ble_eq_true rfl)⟩ rfl (Nat.le_of_ble_eq_true rfl) ?_
  refine wp_aload_n dX11_init_4 rfl ?_
  refine wp_bipush (v := 12) dX11_init_5 rfl ?_
  refine wr_mka (N := 12) 0 3 dX11_init_7 dX11_init_9 rfl ac_long fs_X11_7 (by decide) rfl ⟨_, rfl⟩ rfl (by decide) (by decide) (fun cA a0 e => by cases e; rfl) ?_
  refine wp_aload_n dX11_init_12 rfl ?_
  refine wp_bipush (v := 12) dX11_init_13 rfl ?_
  refine wr_mka (N := 12) 1 4 dX11_init_15 dX11_init_17 rfl ac_long fs_X11_13 (by decide) rfl ⟨_, rfl⟩ rfl (by decide) (by decide) (fun cA a0 e => by cases e; rfl) ?_
  refine wp_aload_n dX11_init_20 rfl ?_
  refine wp_bipush (v := 12) dX11_init_21 rfl ?_
  refine wr_mka (N := 12) 2 5 dX11_init_23 dX11_init_25 rfl ac_boolean fs_X11_16 (by decide) rfl ⟨_, rfl⟩ rfl (by decide) (by decide) (fun cA a0 e => by cases e; rfl) ?_
  refine wp_aload_n dX11_init_28 rfl ?_
  refine wp_sipush (v := 2400) dX11_init_29 rfl ?_
  refine wr_mka (N := 2400) 3 7 dX11_init_32 dX11_init_34 rfl ac_long fs_X11_20 (by decide) rfl ⟨_, rfl⟩ rfl (by decide) (by decide) (fun cA a0 e => by cases e; rfl) ?_
  refine wp_aload_n dX11_init_37 rfl ?_
  refine wp_sipush (v := 2400) dX11_init_38 rfl ?_
  refine wr_mka (N := 2400) 4 8 dX11_init_41 dX11_init_43 rfl ac_long fs_X11_23 (by decide) rfl ⟨_, rfl⟩ rfl (by decide) (by decide) (fun cA a0 e => by cases e; rfl) ?_
  refine wp_aload_n dX11_init_46 rfl ?_
  refine wp_sipush (v := 2400) dX11_init_47 rfl ?_
  refine wr_mka (N := 2400) 5 9 dX11_init_50 dX11_init_52 rfl ac_int fs_X11_26 (by decide) rfl ⟨_, rfl⟩ rfl (by decide) (by decide) (fun cA a0 e => by cases e; rfl) ?_
  refine wp_aload_n dX11_init_55 rfl ?_
  refine wp_ldc dX11_init_56 kc_X11_30 ?_
  refine wr_mka (N := 60000) 6 14 dX11_init_58 dX11_init_60 rfl ac_int fs_X11_31 (by decide) rfl ⟨_, rfl⟩ rfl (by decide) (by decide) (fun cA a0 e => by cases e; rfl) ?_
  refine wp_aload_n dX11_init_63 rfl ?_
  refine wp_sipush (v := 4000) dX11_init_64 rfl ?_
  refine wr_mka (N := 4000) 7 17 dX11_init_67 dX11_init_69 rfl ac_int fs_X11_34 (by decide) rfl ⟨_, rfl⟩ rfl (by decide) (by decide) (fun cA a0 e => by cases e; rfl) ?_
  refine wp_aload_n dX11_init_72 rfl ?_
  refine wp_sipush (v := 2000) dX11_init_73 rfl ?_
  refine wr_mka (N := 2000) 8 20 dX11_init_76 dX11_init_78 rfl ac_int fs_X11_37 (by decide) rfl ⟨_, rfl⟩ rfl (by decide) (by decide) (fun cA a0 e => by cases e; rfl) ?_
  refine wp_aload_n dX11_init_81 rfl ?_
  refine wp_sipush (v := 2000) dX11_init_82 rfl ?_
  refine wr_mka (N := 2000) 9 21 dX11_init_85 dX11_init_87 rfl ac_int fs_X11_40 (by decide) rfl ⟨_, rfl⟩ rfl (by decide) (by decide) (fun cA a0 e => by cases e; rfl) ?_
  refine wp_aload_n dX11_init_90 rfl ?_
  refine wp_sipush (v := 2000) dX11_init_91 rfl ?_
  refine wr_mka (N := 2000) 10 22 dX11_init_94 dX11_init_96 rfl ac_int fs_X11_43 (by decide) rfl ⟨_, rfl⟩ rfl (by decide) (by decide) (fun cA a0 e => by cases e; rfl) ?_
  refine wp_aload_n dX11_init_99 rfl ?_
  refine wp_sipush (v := 200) dX11_init_100 rfl ?_
  refine wr_mka (N := 200) 11 29 dX11_init_103 dX11_init_105 rfl ac_int fs_X11_46 (by decide) rfl ⟨_, rfl⟩ rfl (by decide) (by decide) (fun cA a0 e => by cases e; rfl) ?_
  refine wp_aload_n dX11_init_108 rfl ?_
  refine wp_sipush (v := 200) dX11_init_109 rfl ?_
  refine wr_mka (N := 200) 12 30 dX11_init_112 dX11_init_114 rfl ac_int fs_X11_49 (by decide) rfl ⟨_, rfl⟩ rfl (by decide) (by decide) (fun cA a0 e => by cases e; rfl) ?_
  refine wp_aload_n dX11_init_117 rfl ?_
  refine wp_sipush (v := 200) dX11_init_118 rfl ?_
  refine wr_mka (N := 200) 13 31 dX11_init_121 dX11_init_123 rfl ac_boolean fs_X11_52 (by decide) rfl ⟨_, rfl⟩ rfl (by decide) (by decide) (fun cA a0 e => by cases e; rfl) ?_
  refine wp_aload_n dX11_init_126 rfl ?_
  refine wp_sipush (v := 200) dX11_init_127 rfl ?_
  refine wr_mka (N := 200) 14 32 dX11_init_130 dX11_init_132 rfl ac_int fs_X11_55 (by decide) rfl ⟨_, rfl⟩ rfl (by decide) (by decide) (fun cA a0 e => by cases e; rfl) ?_
  refine wp_aload_n dX11_init_135 rfl ?_
  refine wp_sipush (v := 200) dX11_init_136 rfl ?_
  refine wr_mka (N := 200) 15 33 dX11_init_139 dX11_init_141 rfl ac_int fs_X11_58 (by decide) rfl ⟨_, rfl⟩ rfl (by decide) (by decide) (fun cA a0 e => by cases e; rfl) ?_
  refine wp_aload_n dX11_init_144 rfl ?_
  refine wp_sipush (v := 2400) dX11_init_145 rfl ?_
  refine wr_mka (N := 2400) 16 34 dX11_init_148 dX11_init_150 rfl ac_long fs_X11_61 (by decide) rfl ⟨_, rfl⟩ rfl (by decide) (by decide) (fun cA a0 e => by cases e; rfl) ?_
  refine wp_aload_n dX11_init_153 rfl ?_
  refine wp_sipush (v := 2400) dX11_init_154 rfl ?_
  refine wr_mka (N := 2400) 17 35 dX11_init_157 dX11_init_159 rfl ac_long fs_X11_64 (by decide) rfl ⟨_, rfl⟩ rfl (by decide) (by decide) (fun cA a0 e => by cases e; rfl) ?_
  refine wp_aload_n dX11_init_162 rfl ?_
  refine wp_sipush (v := 2400) dX11_init_163 rfl ?_
  refine wr_mka (N := 2400) 18 36 dX11_init_166 dX11_init_168 rfl ac_boolean fs_X11_67 (by decide) rfl ⟨_, rfl⟩ rfl (by decide) (by decide) (fun cA a0 e => by cases e; rfl) ?_
  refine wp_aload_n dX11_init_171 rfl ?_
  refine wp_sipush (v := 2400) dX11_init_172 rfl ?_
  refine wr_mka (N := 2400) 19 37 dX11_init_175 dX11_init_177 rfl ac_int fs_X11_70 (by decide) rfl ⟨_, rfl⟩ rfl (by decide) (by decide) (fun cA a0 e => by cases e; rfl) ?_
  refine wp_aload_n dX11_init_180 rfl ?_
  refine wp_sipush (v := 200) dX11_init_181 rfl ?_
  refine wr_mka (N := 200) 20 38 dX11_init_184 dX11_init_186 rfl ac_int fs_X11_73 (by decide) rfl ⟨_, rfl⟩ rfl (by decide) (by decide) (fun cA a0 e => by cases e; rfl) ?_
  refine wp_aload_n dX11_init_189 rfl ?_
  refine wp_sipush (v := 200) dX11_init_190 rfl ?_
  refine wr_mka (N := 200) 21 39 dX11_init_193 dX11_init_195 rfl ac_int fs_X11_76 (by decide) rfl ⟨_, rfl⟩ rfl (by decide) (by decide) (fun cA a0 e => by cases e; rfl) ?_
  refine wp_aload_n dX11_init_198 rfl ?_
  refine wp_sipush (v := 200) dX11_init_199 rfl ?_
  refine wr_mka (N := 200) 22 40 dX11_init_202 dX11_init_204 rfl ac_int fs_X11_79 (by decide) rfl ⟨_, rfl⟩ rfl (by decide) (by decide) (fun cA a0 e => by cases e; rfl) ?_
  refine wp_aload_n dX11_init_207 rfl ?_
  refine wp_ldc dX11_init_208 kc_X11_30 ?_
  refine wr_mka (N := 60000) 23 42 dX11_init_210 dX11_init_212 rfl ac_int fs_X11_82 (by decide) rfl ⟨_, rfl⟩ rfl (by decide) (by decide) (fun cA a0 e => by cases e; rfl) ?_
  refine wp_aload_n dX11_init_215 rfl ?_
  refine wp_bipush (v := 8) dX11_init_216 rfl ?_
  refine wr_mka (N := 8) 24 43 dX11_init_218 dX11_init_220 rfl ac_boolean fs_X11_85 (by decide) rfl ⟨_, rfl⟩ rfl (by decide) (by decide) (fun cA a0 e => by cases e; rfl) ?_
  refine wp_aload_n dX11_init_223 rfl ?_
  refine wp_sipush (v := 400) dX11_init_224 rfl ?_
  refine wr_mka (N := 400) 25 45 dX11_init_227 dX11_init_229 rfl ac_int fs_X11_88 (by decide) rfl ⟨_, rfl⟩ rfl (by decide) (by decide) (fun cA a0 e => by cases e; rfl) ?_
  rw [r_hi_26]
  generalize ((h0.1, m + 27, h0.2.2 + 46 + r_ln 26) : fp_H) = hz
  have fin2 : ∀ c : Nat, c = r_cl y 4 → fp_wp G rm_X11_init M_X11_init 277 [some (.ref m), some (.int x), some (.int y)] [.int (nI c), .ref m] (r_hp hz m (r_si r_p0 0 (r_cl x 400))) (fun r h' => r = none ∧ h' = r_hp hz m (r_new x y)) := by
    intro c hcc
    refine wr_puti dX11_init_277 fs_X11_95 ⟨by decide, rfl⟩ rfl ?_
    refine wp_vret dX11_init_280 rfl ?_
    exact ⟨rfl, by rw [r_new, hcc]⟩
  have fin1 : ∀ c : Nat, c = r_cl x 400 → fp_wp G rm_X11_init M_X11_init 255 [some (.ref m), some (.int x), some (.int y)] [.int (nI c), .ref m] (r_hp hz m r_p0) (fun r h' => r = none ∧ h' = r_hp hz m (r_new x y)) := by
    intro c hcc
    refine wr_puti dX11_init_255 fs_X11_91 ⟨by decide, rfl⟩ rfl ?_
    rw [hcc]
    refine wp_aload_n dX11_init_258 rfl ?_
    refine wp_iload_n dX11_init_259 rfl ?_
    refine wp_if_ge (tgt := 267) dX11_init_260 rfl (fun c_260 => ?_) (fun c_260 => ?_)
    · refine wp_iload_n dX11_init_267 rfl ?_
      refine wp_iconst (v := 4) dX11_init_268 rfl ?_
      refine wp_icmp_le (tgt := 276) dX11_init_269 rfl (fun c_269 => ?_) (fun c_269 => ?_)
      · refine wp_iload_n dX11_init_276 rfl ?_
        obtain ⟨j, hj, rfl⟩ := nI_of (Int32.not_lt.mpr c_260)
        refine fin2 j ?_
        rw [r_cl, if_neg (nI_pos hj), if_pos (show nI j ≤ nI 4 from c_269), nI_clamp hj]
      · refine wp_iconst (v := 4) dX11_init_272 rfl ?_
        refine wp_goto (tgt := 277) dX11_init_273 rfl ?_
        refine fin2 4 ?_
        rw [r_cl, if_neg (Int32.not_lt.mpr c_260), if_neg (show ¬ y ≤ nI 4 from c_269)]
    · refine wp_iconst (v := 0) dX11_init_263 rfl ?_
      refine wp_goto (tgt := 277) dX11_init_264 rfl ?_
      refine fin2 0 ?_
      rw [r_cl, if_pos (Int32.not_le.mp c_260)]
  refine wp_eqL (L' := [some (.ref m), some (.int x), some (.int y)]) rfl ?_
  refine wp_aload_n dX11_init_232 rfl ?_
  refine wp_iload_n dX11_init_233 rfl ?_
  refine wp_if_ge (tgt := 241) dX11_init_234 rfl (fun c_234 => ?_) (fun c_234 => ?_)
  · refine wp_iload_n dX11_init_241 rfl ?_
    refine wp_sipush (v := 400) dX11_init_242 rfl ?_
    refine wp_icmp_le (tgt := 254) dX11_init_245 rfl (fun c_245 => ?_) (fun c_245 => ?_)
    · refine wp_iload_n dX11_init_254 rfl ?_
      obtain ⟨j, hj, rfl⟩ := nI_of (Int32.not_lt.mpr c_234)
      refine fin1 j ?_
      rw [r_cl, if_neg (nI_pos hj), if_pos (show nI j ≤ nI 400 from c_245), nI_clamp hj]
    · refine wp_sipush (v := 400) dX11_init_248 rfl ?_
      refine wp_goto (tgt := 255) dX11_init_251 rfl ?_
      refine fin1 400 ?_
      rw [r_cl, if_neg (Int32.not_lt.mpr c_234), if_neg (show ¬ x ≤ nI 400 from c_245)]
  · refine wp_iconst (v := 0) dX11_init_237 rfl ?_
    refine wp_goto (tgt := 255) dX11_init_238 rfl ?_
    refine fin1 0 ?_
    rw [r_cl, if_pos (Int32.not_le.mp c_234)]
end RIN2
