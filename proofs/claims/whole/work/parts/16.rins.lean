/-! the reference: mayInsert, insert, refer, whole -/
theorem r_lastTo_some {p : rs} {u v : Nat} {wv : Bool} : ∀ {c j : Nat}, r_lastTo p u v wv c = some j → j < c ∧ p.1 10 ≤ j ∧ p.2.2 3 j = u ∧ (wv = false ∨ p.2.2 4 j = v) := by
  intro c
  induction c with
  | zero => intro j h; cases h
  | succ c ih =>
    intro j h
    rw [r_lastTo] at h
    by_cases h1 : c < p.1 10
    · rw [if_pos h1] at h; cases h
    · rw [if_neg h1] at h
      by_cases h2 : p.2.2 3 c = u ∧ (wv = false ∨ p.2.2 4 c = v)
      · rw [if_pos h2] at h; cases h; exact ⟨by omega, by omega, h2⟩
      · rw [if_neg h2] at h
        obtain ⟨a, b⟩ := ih h
        exact ⟨by omega, b⟩
theorem nI_m1 {k : Nat} (h : k < 2 ^ 31) : ¬ nI k = -1 := fun e => by
  have h1 := congrArg Int32.toInt e
  rw [nI_toInt h] at h1
  have : (-1 : Int32).toInt = -1 := by decide
  omega
theorem nI_sub1 {k : Nat} (h : 0 < k) : nI k - 1 = nI (k - 1) := pk_sub (b := 1) h
/-- what an insertion puts on the wire -/
def r_ib (p : rs) (u v : Nat) : List Nat := (match fxn u with
  | some k => nb 192 6 k
  | none => match r_last p u 0 false with
    | some j => nb 128 6 (p.1 6 - 1 - j)
    | none => nb 64 5 (bln u) ++ txb u) ++ (nb 0 7 (bln v) ++ txb v)
/-- n entries are there: the oldest ones go -/
def r_ev : rs → Nat → Nat → rs
  | p, _, 0 => p
  | p, size, n + 1 => if p.1 11 + size ≤ p.1 0 then p else r_ev (r_si (r_si p 11 (p.1 11 - r_sz p (p.1 10))) 10 (p.1 10 + 1)) size n
def r_app (p : rs) (u v size : Nat) : rs := r_si (r_sa (r_sl (r_sl (r_si p 11 (p.1 11 + size)) 3 (p.1 6) u) 4 (p.1 6) v) 5 (p.1 6) (p.1 13)) 6 (p.1 6 + 1)
def r_ins (p : rs) (u v : Nat) : rs := r_app (r_ev (r_lays p 0 (r_ib p u v)) (32 + bln u + bln v) (p.1 6 - p.1 10)) u v (32 + bln u + bln v)
def r_ref (p : rs) (j : Nat) : rs := r_sa (r_sa (r_sa p 19 (12 * p.1 28 + p.2.1 20 (p.1 28)) j) 20 (p.1 28) (p.2.1 20 (p.1 28) + 1)) 12 (p.1 28) (max (j + 1) (p.2.1 12 (p.1 28)))
def r_wb (j base : Nat) : List Nat := if j < base then nb 128 6 (base - 1 - j) else nb 16 4 (j - base)
def r_whole (p : rs) (j base : Nat) : rs := r_lays (r_ref p j) 2 (r_wb j base)
theorem r_lay_k {p : rs} {w v k : Nat} (hk : k ≠ r_wc w) : (r_lay p w v).1 k = p.1 k := by simp [r_lay, r_si, r_sa, hk]
theorem r_lays_k {w k : Nat} (hk : k ≠ r_wc w) : ∀ (l : List Nat) (p : rs), (r_lays p w l).1 k = p.1 k := by
  intro l
  induction l with
  | nil => intro p; rfl
  | cons a l ih => intro p; rw [r_lays_cons, ih, r_lay_k hk]
theorem r_lays_l {w : Nat} : ∀ (l : List Nat) (p : rs), (r_lays p w l).2.2 = p.2.2 := by
  intro l
  induction l with
  | nil => intro p; rfl
  | cons a l ih => intro p; rw [r_lays_cons, ih]; rfl
theorem r_lays_a {w j : Nat} (hj : j ≠ r_wa w) : ∀ (l : List Nat) (p : rs), (r_lays p w l).2.1 j = p.2.1 j := by
  intro l
  induction l with
  | nil => intro p; rfl
  | cons a l ih => intro p; rw [r_lays_cons, ih]; funext i; simp [r_lay, r_si, r_sa, hj]
theorem r_sum_l {p q : rs} (h : p.2.2 = q.2.2) : ∀ (n a : Nat), r_sum p a n = r_sum q a n := by
  intro n
  induction n with
  | zero => intro a; rfl
  | succ n ih => intro a; rw [r_sum, r_sum, ih, r_sz, r_sz, h]
theorem dX11_insert_0 : decode cX11_insert 0 = .ok (.lload_n 1, 1) := by decide +kernel
theorem dX11_insert_1 : decode cX11_insert 1 = .ok (.invokestatic 163, 3) := by decide +kernel
theorem dX11_insert_4 : decode cX11_insert 4 = .ok (.istore 5, 2) := by decide +kernel
theorem dX11_insert_6 : decode cX11_insert 6 = .ok (.aload_n 0, 1) := by decide +kernel
theorem dX11_insert_7 : decode cX11_insert 7 = .ok (.lload_n 1, 1) := by decide +kernel
theorem dX11_insert_8 : decode cX11_insert 8 = .ok (.lconst 0, 1) := by decide +kernel
theorem dX11_insert_9 : decode cX11_insert 9 = .ok (.iconst 0, 1) := by decide +kernel
theorem dX11_insert_10 : decode cX11_insert 10 = .ok (.invokevirtual 166, 3) := by decide +kernel
theorem dX11_insert_13 : decode cX11_insert 13 = .ok (.istore 6, 2) := by decide +kernel
theorem dX11_insert_15 : decode cX11_insert 15 = .ok (.iload 5, 2) := by decide +kernel
theorem dX11_insert_17 : decode cX11_insert 17 = .ok (.iconst (-1), 1) := by decide +kernel
theorem dX11_insert_18 : decode cX11_insert 18 = .ok (.if_icmp .eq 18, 3) := by decide +kernel
theorem dX11_insert_21 : decode cX11_insert 21 = .ok (.aload_n 0, 1) := by decide +kernel
theorem dX11_insert_22 : decode cX11_insert 22 = .ok (.iconst 0, 1) := by decide +kernel
theorem dX11_insert_23 : decode cX11_insert 23 = .ok (.sipush 192, 3) := by decide +kernel
theorem dX11_insert_26 : decode cX11_insert 26 = .ok (.bipush 6, 2) := by decide +kernel
theorem dX11_insert_28 : decode cX11_insert 28 = .ok (.iload 5, 2) := by decide +kernel
theorem dX11_insert_30 : decode cX11_insert 30 = .ok (.invokevirtual 120, 3) := by decide +kernel
theorem dX11_insert_33 : decode cX11_insert 33 = .ok (.goto 40, 3) := by decide +kernel
theorem dX11_insert_36 : decode cX11_insert 36 = .ok (.iload 6, 2) := by decide +kernel
theorem dX11_insert_38 : decode cX11_insert 38 = .ok (.iconst (-1), 1) := by decide +kernel
theorem dX11_insert_39 : decode cX11_insert 39 = .ok (.if_icmp .eq 25, 3) := by decide +kernel
theorem dX11_insert_42 : decode cX11_insert 42 = .ok (.aload_n 0, 1) := by decide +kernel
theorem dX11_insert_43 : decode cX11_insert 43 = .ok (.iconst 0, 1) := by decide +kernel
theorem dX11_insert_44 : decode cX11_insert 44 = .ok (.sipush 128, 3) := by decide +kernel
theorem dX11_insert_47 : decode cX11_insert 47 = .ok (.bipush 6, 2) := by decide +kernel
theorem dX11_insert_49 : decode cX11_insert 49 = .ok (.aload_n 0, 1) := by decide +kernel
theorem dX11_insert_50 : decode cX11_insert 50 = .ok (.getfield 137, 3) := by decide +kernel
theorem dX11_insert_53 : decode cX11_insert 53 = .ok (.iconst 1, 1) := by decide +kernel
theorem dX11_insert_54 : decode cX11_insert 54 = .ok (.isub, 1) := by decide +kernel
theorem dX11_insert_55 : decode cX11_insert 55 = .ok (.iload 6, 2) := by decide +kernel
theorem dX11_insert_57 : decode cX11_insert 57 = .ok (.isub, 1) := by decide +kernel
theorem dX11_insert_58 : decode cX11_insert 58 = .ok (.invokevirtual 120, 3) := by decide +kernel
theorem dX11_insert_61 : decode cX11_insert 61 = .ok (.goto 12, 3) := by decide +kernel
theorem dX11_insert_64 : decode cX11_insert 64 = .ok (.aload_n 0, 1) := by decide +kernel
theorem dX11_insert_65 : decode cX11_insert 65 = .ok (.iconst 0, 1) := by decide +kernel
theorem dX11_insert_66 : decode cX11_insert 66 = .ok (.bipush 64, 2) := by decide +kernel
theorem dX11_insert_68 : decode cX11_insert 68 = .ok (.iconst 5, 1) := by decide +kernel
theorem dX11_insert_69 : decode cX11_insert 69 = .ok (.lload_n 1, 1) := by decide +kernel
theorem dX11_insert_70 : decode cX11_insert 70 = .ok (.invokevirtual 170, 3) := by decide +kernel
theorem dX11_insert_73 : decode cX11_insert 73 = .ok (.aload_n 0, 1) := by decide +kernel
theorem dX11_insert_74 : decode cX11_insert 74 = .ok (.iconst 0, 1) := by decide +kernel
theorem dX11_insert_75 : decode cX11_insert 75 = .ok (.iconst 0, 1) := by decide +kernel
theorem dX11_insert_76 : decode cX11_insert 76 = .ok (.bipush 7, 2) := by decide +kernel
theorem dX11_insert_78 : decode cX11_insert 78 = .ok (.lload_n 3, 1) := by decide +kernel
theorem dX11_insert_79 : decode cX11_insert 79 = .ok (.invokevirtual 170, 3) := by decide +kernel
theorem dX11_insert_82 : decode cX11_insert 82 = .ok (.lload_n 1, 1) := by decide +kernel
theorem dX11_insert_83 : decode cX11_insert 83 = .ok (.lload_n 3, 1) := by decide +kernel
theorem dX11_insert_84 : decode cX11_insert 84 = .ok (.invokestatic 159, 3) := by decide +kernel
theorem dX11_insert_87 : decode cX11_insert 87 = .ok (.istore 7, 2) := by decide +kernel
theorem dX11_insert_89 : decode cX11_insert 89 = .ok (.aload_n 0, 1) := by decide +kernel
theorem dX11_insert_90 : decode cX11_insert 90 = .ok (.getfield 153, 3) := by decide +kernel
theorem dX11_insert_93 : decode cX11_insert 93 = .ok (.iload 7, 2) := by decide +kernel
theorem dX11_insert_95 : decode cX11_insert 95 = .ok (.iadd, 1) := by decide +kernel
theorem dX11_insert_96 : decode cX11_insert 96 = .ok (.aload_n 0, 1) := by decide +kernel
theorem dX11_insert_97 : decode cX11_insert 97 = .ok (.getfield 91, 3) := by decide +kernel
theorem dX11_insert_100 : decode cX11_insert 100 = .ok (.if_icmp .le 46, 3) := by decide +kernel
theorem dX11_insert_103 : decode cX11_insert 103 = .ok (.aload_n 0, 1) := by decide +kernel
theorem dX11_insert_104 : decode cX11_insert 104 = .ok (.dup, 1) := by decide +kernel
theorem dX11_insert_105 : decode cX11_insert 105 = .ok (.getfield 153, 3) := by decide +kernel
theorem dX11_insert_108 : decode cX11_insert 108 = .ok (.aload_n 0, 1) := by decide +kernel
theorem dX11_insert_109 : decode cX11_insert 109 = .ok (.getfield 20, 3) := by decide +kernel
theorem dX11_insert_112 : decode cX11_insert 112 = .ok (.aload_n 0, 1) := by decide +kernel
theorem dX11_insert_113 : decode cX11_insert 113 = .ok (.getfield 140, 3) := by decide +kernel
theorem dX11_insert_116 : decode cX11_insert 116 = .ok (.laload, 1) := by decide +kernel
theorem dX11_insert_117 : decode cX11_insert 117 = .ok (.aload_n 0, 1) := by decide +kernel
theorem dX11_insert_118 : decode cX11_insert 118 = .ok (.getfield 23, 3) := by decide +kernel
theorem dX11_insert_121 : decode cX11_insert 121 = .ok (.aload_n 0, 1) := by decide +kernel
theorem dX11_insert_122 : decode cX11_insert 122 = .ok (.getfield 140, 3) := by decide +kernel
theorem dX11_insert_125 : decode cX11_insert 125 = .ok (.laload, 1) := by decide +kernel
theorem dX11_insert_126 : decode cX11_insert 126 = .ok (.invokestatic 159, 3) := by decide +kernel
theorem dX11_insert_129 : decode cX11_insert 129 = .ok (.isub, 1) := by decide +kernel
theorem dX11_insert_130 : decode cX11_insert 130 = .ok (.putfield 153, 3) := by decide +kernel
theorem dX11_insert_133 : decode cX11_insert 133 = .ok (.aload_n 0, 1) := by decide +kernel
theorem dX11_insert_134 : decode cX11_insert 134 = .ok (.dup, 1) := by decide +kernel
theorem dX11_insert_135 : decode cX11_insert 135 = .ok (.getfield 140, 3) := by decide +kernel
theorem dX11_insert_138 : decode cX11_insert 138 = .ok (.iconst 1, 1) := by decide +kernel
theorem dX11_insert_139 : decode cX11_insert 139 = .ok (.iadd, 1) := by decide +kernel
theorem dX11_insert_140 : decode cX11_insert 140 = .ok (.putfield 140, 3) := by decide +kernel
theorem dX11_insert_143 : decode cX11_insert 143 = .ok (.goto (-54), 3) := by decide +kernel
theorem dX11_insert_146 : decode cX11_insert 146 = .ok (.aload_n 0, 1) := by decide +kernel
theorem dX11_insert_147 : decode cX11_insert 147 = .ok (.dup, 1) := by decide +kernel
theorem dX11_insert_148 : decode cX11_insert 148 = .ok (.getfield 153, 3) := by decide +kernel
theorem dX11_insert_151 : decode cX11_insert 151 = .ok (.iload 7, 2) := by decide +kernel
theorem dX11_insert_153 : decode cX11_insert 153 = .ok (.iadd, 1) := by decide +kernel
theorem dX11_insert_154 : decode cX11_insert 154 = .ok (.putfield 153, 3) := by decide +kernel
theorem dX11_insert_157 : decode cX11_insert 157 = .ok (.aload_n 0, 1) := by decide +kernel
theorem dX11_insert_158 : decode cX11_insert 158 = .ok (.getfield 20, 3) := by decide +kernel
theorem dX11_insert_161 : decode cX11_insert 161 = .ok (.aload_n 0, 1) := by decide +kernel
theorem dX11_insert_162 : decode cX11_insert 162 = .ok (.getfield 137, 3) := by decide +kernel
theorem dX11_insert_165 : decode cX11_insert 165 = .ok (.lload_n 1, 1) := by decide +kernel
theorem dX11_insert_166 : decode cX11_insert 166 = .ok (.lastore, 1) := by decide +kernel
theorem dX11_insert_167 : decode cX11_insert 167 = .ok (.aload_n 0, 1) := by decide +kernel
theorem dX11_insert_168 : decode cX11_insert 168 = .ok (.getfield 23, 3) := by decide +kernel
theorem dX11_insert_171 : decode cX11_insert 171 = .ok (.aload_n 0, 1) := by decide +kernel
theorem dX11_insert_172 : decode cX11_insert 172 = .ok (.getfield 137, 3) := by decide +kernel
theorem dX11_insert_175 : decode cX11_insert 175 = .ok (.lload_n 3, 1) := by decide +kernel
theorem dX11_insert_176 : decode cX11_insert 176 = .ok (.lastore, 1) := by decide +kernel
theorem dX11_insert_177 : decode cX11_insert 177 = .ok (.aload_n 0, 1) := by decide +kernel
theorem dX11_insert_178 : decode cX11_insert 178 = .ok (.getfield 26, 3) := by decide +kernel
theorem dX11_insert_181 : decode cX11_insert 181 = .ok (.aload_n 0, 1) := by decide +kernel
theorem dX11_insert_182 : decode cX11_insert 182 = .ok (.getfield 137, 3) := by decide +kernel
theorem dX11_insert_185 : decode cX11_insert 185 = .ok (.aload_n 0, 1) := by decide +kernel
theorem dX11_insert_186 : decode cX11_insert 186 = .ok (.getfield 104, 3) := by decide +kernel
theorem dX11_insert_189 : decode cX11_insert 189 = .ok (.iastore, 1) := by decide +kernel
theorem dX11_insert_190 : decode cX11_insert 190 = .ok (.aload_n 0, 1) := by decide +kernel
theorem dX11_insert_191 : decode cX11_insert 191 = .ok (.dup, 1) := by decide +kernel
theorem dX11_insert_192 : decode cX11_insert 192 = .ok (.getfield 137, 3) := by decide +kernel
theorem dX11_insert_195 : decode cX11_insert 195 = .ok (.iconst 1, 1) := by decide +kernel
theorem dX11_insert_196 : decode cX11_insert 196 = .ok (.iadd, 1) := by decide +kernel
theorem dX11_insert_197 : decode cX11_insert 197 = .ok (.putfield 137, 3) := by decide +kernel
theorem dX11_insert_200 : decode cX11_insert 200 = .ok (.return_, 1) := by decide +kernel
theorem dX11_refer_0 : decode cX11_refer 0 = .ok (.aload_n 0, 1) := by decide +kernel
theorem dX11_refer_1 : decode cX11_refer 1 = .ok (.getfield 70, 3) := by decide +kernel
theorem dX11_refer_4 : decode cX11_refer 4 = .ok (.bipush 12, 2) := by decide +kernel
theorem dX11_refer_6 : decode cX11_refer 6 = .ok (.aload_n 0, 1) := by decide +kernel
theorem dX11_refer_7 : decode cX11_refer 7 = .ok (.getfield 143, 3) := by decide +kernel
theorem dX11_refer_10 : decode cX11_refer 10 = .ok (.imul, 1) := by decide +kernel
theorem dX11_refer_11 : decode cX11_refer 11 = .ok (.aload_n 0, 1) := by decide +kernel
theorem dX11_refer_12 : decode cX11_refer 12 = .ok (.getfield 73, 3) := by decide +kernel
theorem dX11_refer_15 : decode cX11_refer 15 = .ok (.aload_n 0, 1) := by decide +kernel
theorem dX11_refer_16 : decode cX11_refer 16 = .ok (.getfield 143, 3) := by decide +kernel
theorem dX11_refer_19 : decode cX11_refer 19 = .ok (.iaload, 1) := by decide +kernel
theorem dX11_refer_20 : decode cX11_refer 20 = .ok (.iadd, 1) := by decide +kernel
theorem dX11_refer_21 : decode cX11_refer 21 = .ok (.iload_n 1, 1) := by decide +kernel
theorem dX11_refer_22 : decode cX11_refer 22 = .ok (.iastore, 1) := by decide +kernel
theorem dX11_refer_23 : decode cX11_refer 23 = .ok (.aload_n 0, 1) := by decide +kernel
theorem dX11_refer_24 : decode cX11_refer 24 = .ok (.getfield 73, 3) := by decide +kernel
theorem dX11_refer_27 : decode cX11_refer 27 = .ok (.aload_n 0, 1) := by decide +kernel
theorem dX11_refer_28 : decode cX11_refer 28 = .ok (.getfield 143, 3) := by decide +kernel
theorem dX11_refer_31 : decode cX11_refer 31 = .ok (.dup2, 1) := by decide +kernel
theorem dX11_refer_32 : decode cX11_refer 32 = .ok (.iaload, 1) := by decide +kernel
theorem dX11_refer_33 : decode cX11_refer 33 = .ok (.iconst 1, 1) := by decide +kernel
theorem dX11_refer_34 : decode cX11_refer 34 = .ok (.iadd, 1) := by decide +kernel
theorem dX11_refer_35 : decode cX11_refer 35 = .ok (.iastore, 1) := by decide +kernel
theorem dX11_refer_36 : decode cX11_refer 36 = .ok (.aload_n 0, 1) := by decide +kernel
theorem dX11_refer_37 : decode cX11_refer 37 = .ok (.getfield 49, 3) := by decide +kernel
theorem dX11_refer_40 : decode cX11_refer 40 = .ok (.aload_n 0, 1) := by decide +kernel
theorem dX11_refer_41 : decode cX11_refer 41 = .ok (.getfield 143, 3) := by decide +kernel
theorem dX11_refer_44 : decode cX11_refer 44 = .ok (.iload_n 1, 1) := by decide +kernel
theorem dX11_refer_45 : decode cX11_refer 45 = .ok (.iconst 1, 1) := by decide +kernel
theorem dX11_refer_46 : decode cX11_refer 46 = .ok (.iadd, 1) := by decide +kernel
theorem dX11_refer_47 : decode cX11_refer 47 = .ok (.aload_n 0, 1) := by decide +kernel
theorem dX11_refer_48 : decode cX11_refer 48 = .ok (.getfield 49, 3) := by decide +kernel
theorem dX11_refer_51 : decode cX11_refer 51 = .ok (.aload_n 0, 1) := by decide +kernel
theorem dX11_refer_52 : decode cX11_refer 52 = .ok (.getfield 143, 3) := by decide +kernel
theorem dX11_refer_55 : decode cX11_refer 55 = .ok (.iaload, 1) := by decide +kernel
theorem dX11_refer_56 : decode cX11_refer 56 = .ok (.if_icmp .le 9, 3) := by decide +kernel
theorem dX11_refer_59 : decode cX11_refer 59 = .ok (.iload_n 1, 1) := by decide +kernel
theorem dX11_refer_60 : decode cX11_refer 60 = .ok (.iconst 1, 1) := by decide +kernel
theorem dX11_refer_61 : decode cX11_refer 61 = .ok (.iadd, 1) := by decide +kernel
theorem dX11_refer_62 : decode cX11_refer 62 = .ok (.goto 12, 3) := by decide +kernel
theorem dX11_refer_65 : decode cX11_refer 65 = .ok (.aload_n 0, 1) := by decide +kernel
theorem dX11_refer_66 : decode cX11_refer 66 = .ok (.getfield 49, 3) := by decide +kernel
theorem dX11_refer_69 : decode cX11_refer 69 = .ok (.aload_n 0, 1) := by decide +kernel
theorem dX11_refer_70 : decode cX11_refer 70 = .ok (.getfield 143, 3) := by decide +kernel
theorem dX11_refer_73 : decode cX11_refer 73 = .ok (.iaload, 1) := by decide +kernel
theorem dX11_refer_74 : decode cX11_refer 74 = .ok (.iastore, 1) := by decide +kernel
theorem dX11_refer_75 : decode cX11_refer 75 = .ok (.return_, 1) := by decide +kernel
theorem dX11_whole_0 : decode cX11_whole 0 = .ok (.aload_n 0, 1) := by decide +kernel
theorem dX11_whole_1 : decode cX11_whole 1 = .ok (.iload_n 1, 1) := by decide +kernel
theorem dX11_whole_2 : decode cX11_whole 2 = .ok (.invokevirtual 174, 3) := by decide +kernel
theorem dX11_whole_5 : decode cX11_whole 5 = .ok (.iload_n 1, 1) := by decide +kernel
theorem dX11_whole_6 : decode cX11_whole 6 = .ok (.iload_n 2, 1) := by decide +kernel
theorem dX11_whole_7 : decode cX11_whole 7 = .ok (.if_icmp .ge 21, 3) := by decide +kernel
theorem dX11_whole_10 : decode cX11_whole 10 = .ok (.aload_n 0, 1) := by decide +kernel
theorem dX11_whole_11 : decode cX11_whole 11 = .ok (.iconst 2, 1) := by decide +kernel
theorem dX11_whole_12 : decode cX11_whole 12 = .ok (.sipush 128, 3) := by decide +kernel
theorem dX11_whole_15 : decode cX11_whole 15 = .ok (.bipush 6, 2) := by decide +kernel
theorem dX11_whole_17 : decode cX11_whole 17 = .ok (.iload_n 2, 1) := by decide +kernel
theorem dX11_whole_18 : decode cX11_whole 18 = .ok (.iconst 1, 1) := by decide +kernel
theorem dX11_whole_19 : decode cX11_whole 19 = .ok (.isub, 1) := by decide +kernel
theorem dX11_whole_20 : decode cX11_whole 20 = .ok (.iload_n 1, 1) := by decide +kernel
theorem dX11_whole_21 : decode cX11_whole 21 = .ok (.isub, 1) := by decide +kernel
theorem dX11_whole_22 : decode cX11_whole 22 = .ok (.invokevirtual 120, 3) := by decide +kernel
theorem dX11_whole_25 : decode cX11_whole 25 = .ok (.goto 14, 3) := by decide +kernel
theorem dX11_whole_28 : decode cX11_whole 28 = .ok (.aload_n 0, 1) := by decide +kernel
theorem dX11_whole_29 : decode cX11_whole 29 = .ok (.iconst 2, 1) := by decide +kernel
theorem dX11_whole_30 : decode cX11_whole 30 = .ok (.bipush 16, 2) := by decide +kernel
theorem dX11_whole_32 : decode cX11_whole 32 = .ok (.iconst 4, 1) := by decide +kernel
theorem dX11_whole_33 : decode cX11_whole 33 = .ok (.iload_n 1, 1) := by decide +kernel
theorem dX11_whole_34 : decode cX11_whole 34 = .ok (.iload_n 2, 1) := by decide +kernel
theorem dX11_whole_35 : decode cX11_whole 35 = .ok (.isub, 1) := by decide +kernel
theorem dX11_whole_36 : decode cX11_whole 36 = .ok (.invokevirtual 120, 3) := by decide +kernel
theorem dX11_whole_39 : decode cX11_whole 39 = .ok (.return_, 1) := by decide +kernel
section RI
variable {G : fp_G} {h0 : fp_H} {m : Nat}
theorem ct_mayInsert {p : rs} {size : Nat} (ok : rok p) (hsz : size < 2 ^ 20) (hc : p.1 28 ≤ 200) (hrc : ∀ k, k < 200 → p.2.1 20 k ≤ 12) (h10 : p.1 10 ≤ p.1 6) (h6 : p.1 6 ≤ 2400) (h11 : p.1 11 = r_sum p (p.1 10) (p.1 6 - p.1 10)) : fp_ct G rm_X11_mayInsert M_X11_mayInsert [.ref m, .int (nI size)] (r_hp h0 m p) (fun r h' => h' = r_hp h0 m p ∧ r = some (.int (nI (b2n (r_may p size))))) := by
  have o0 := ok.1 0
  have o11 := ok.1 11
  refine fp_meth pn_X11 (Nat.le_of_ble_eq_true rfl) rfl ?_
  refine wp_iload_n dX11_mayInsert_0 rfl ?_
  refine wp_aload_n dX11_mayInsert_1 rfl ?_
  refine wr_geti 0 dX11_mayInsert_2 fl_X11_91 ⟨by decide, rfl⟩ ?_
  refine wp_icmp_le (tgt := 10) dX11_mayInsert_5 rfl (fun c_5 => ?_) (fun c_5 => ?_)
  · have hle : size ≤ p.1 0 := (nI_leI (by omega) (by omega)).mp c_5
    have loop : ∀ n now j : Nat, j + n = p.1 6 → now = r_sum p j n → now < 2 ^ 30 → fp_wp G rm_X11_mayInsert M_X11_mayInsert 20 [some (.ref m), some (.int (nI size)), some (.int (nI now)), some (.int (nI j))] [] (r_hp h0 m p) (fun r h' => h' = r_hp h0 m p ∧ r = some (.int (nI (b2n (r_mayTo p size n now j))))) := by
      intro n
      induction n with
      | zero =>
        intro now j hj hnow hlt
        have hn0 : now = 0 := hnow
        refine wp_iload_n dX11_mayInsert_20 rfl ?_
        refine wp_iload_n dX11_mayInsert_21 rfl ?_
        refine wp_iadd dX11_mayInsert_22 ?_
        refine wp_aload_n dX11_mayInsert_23 rfl ?_
        refine wr_geti 0 dX11_mayInsert_24 fl_X11_91 ⟨by decide, rfl⟩ ?_
        refine wp_icmp_le (tgt := 64) dX11_mayInsert_27 rfl (fun c_27 => ?_) (fun c_27 => ?_)
        · refine wp_iconst (v := 1) dX11_mayInsert_64 rfl ?_
          refine wp_iret dX11_mayInsert_65 rfl rfl ?_
          exact ⟨rfl, rfl⟩
        · refine absurd ?_ c_27
          rw [nI_add]
          exact nI_le (by omega) (by omega)
      | succ n ih =>
        intro now j hj hnow hlt
        have hs := r_sz_le p j
        rw [r_sum] at hnow
        rw [r_mayTo]
        refine wp_iload_n dX11_mayInsert_20 rfl ?_
        refine wp_iload_n dX11_mayInsert_21 rfl ?_
        refine wp_iadd dX11_mayInsert_22 ?_
        refine wp_aload_n dX11_mayInsert_23 rfl ?_
        refine wr_geti 0 dX11_mayInsert_24 fl_X11_91 ⟨by decide, rfl⟩ ?_
        refine wp_icmp_le (tgt := 64) dX11_mayInsert_27 rfl (fun c_27 => ?_) (fun c_27 => ?_)
        · rw [nI_add] at c_27
          have : now + size ≤ p.1 0 := (nI_leI (by omega) (by omega)).mp c_27
          refine wp_iconst (v := 1) dX11_mayInsert_64 rfl ?_
          refine wp_iret dX11_mayInsert_65 rfl rfl ?_
          exact ⟨rfl, by rw [if_pos this]; rfl⟩
        · rw [nI_add] at c_27
          have hno : ¬ now + size ≤ p.1 0 := fun z => c_27 (nI_le z (by omega))
          rw [if_neg hno]
          refine wp_aload_n dX11_mayInsert_30 rfl ?_
          refine wp_iload_n dX11_mayInsert_31 rfl ?_
          refine wp_callV (As := [.int (nI j)]) (rest := []) dX11_mayInsert_32 me_X11_isBusy cw_X11_156 rfl ⟨(Nat.le_of_ble_eq_true rfl), (Nat.le_of_ble_eq_true rfl)⟩ rfl rfl rfl (Nat.le_of_ble_eq_true rfl) r_at_m (ct_isBusy ok (by omega) hc hrc) (fun r h1 q => ?_)
          obtain ⟨rfl, rfl⟩ := q
          refine wp_if_eq (tgt := 40) dX11_mayInsert_35 rfl (fun c_35 => ?_) (fun c_35 => ?_)
          · rw [b2n_0.mp c_35]
            refine wp_iload_n dX11_mayInsert_40 rfl ?_
            refine wp_aload_n dX11_mayInsert_41 rfl ?_
            refine wr_geta 7 3 dX11_mayInsert_42 fl_X11_20 ⟨by decide, rfl⟩ ?_
            refine wp_iload_n dX11_mayInsert_45 rfl ?_
            refine wr_lald dX11_mayInsert_46 ⟨by decide, rfl⟩ rfl (by show j < 2400; omega) (by decide) ?_
            refine wp_aload_n dX11_mayInsert_47 rfl ?_
            refine wr_geta 8 4 dX11_mayInsert_48 fl_X11_23 ⟨by decide, rfl⟩ ?_
            refine wp_iload_n dX11_mayInsert_51 rfl ?_
            refine wr_lald dX11_mayInsert_52 ⟨by decide, rfl⟩ rfl (by show j < 2400; omega) (by decide) ?_
            refine wp_callS (As := [.long (lN (p.2.2 3 j)), .long (lN (p.2.2 4 j))]) (rest := [.int (nI now)]) dX11_mayInsert_53 me_X11_sizeOf cw_X11_159 ⟨(Nat.le_of_ble_eq_true rfl), (Nat.le_of_ble_eq_true rfl)⟩ rfl rfl rfl (Nat.le_of_ble_eq_true rfl) (ct_sizeOf (ok.2.2 _ _) (ok.2.2 _ _)) (fun r h1 q => ?_)
            obtain ⟨rfl, rfl⟩ := q
            refine wp_isub dX11_mayInsert_56 ?_
            rw [show 32 + bln (p.2.2 3 j) + bln (p.2.2 4 j) = r_sz p j from rfl, pk_sub (show r_sz p j ≤ now by omega)]
            refine wp_istore_n dX11_mayInsert_57 (Nat.le_of_ble_eq_true rfl) rfl ?_
            refine wp_iinc dX11_mayInsert_58 rfl rfl ?_
            refine wp_goto (tgt := 20) dX11_mayInsert_61 rfl ?_
            rw [show nI j + Int32.ofInt 1 = nI (j + 1) from nI_1 j]
            exact ih (now - r_sz p j) (j + 1) (by omega) (by omega) (by omega)
          · rw [show r_busy p j = true by cases hx : r_busy p j with | true => rfl | false => rw [hx] at c_35; exact absurd rfl c_35]
            refine wp_iconst (v := 0) dX11_mayInsert_38 rfl ?_
            refine wp_iret dX11_mayInsert_39 rfl rfl ?_
            exact ⟨rfl, rfl⟩
    rw [show r_may p size = r_mayTo p size (p.1 6 - p.1 10) (p.1 11) (p.1 10) by rw [r_may]; simp [hle]]
    refine wp_aload_n dX11_mayInsert_10 rfl ?_
    refine wr_geti 11 dX11_mayInsert_11 fl_X11_153 ⟨by decide, rfl⟩ ?_
    refine wp_istore_n dX11_mayInsert_14 (Nat.le_of_ble_eq_true rfl) rfl ?_
    refine wp_aload_n dX11_mayInsert_15 rfl ?_
    refine wr_geti 10 dX11_mayInsert_16 fl_X11_140 ⟨by decide, rfl⟩ ?_
    refine wp_istore_n dX11_mayInsert_19 (Nat.le_of_ble_eq_true rfl) rfl ?_
    exact loop (p.1 6 - p.1 10) (p.1 11) (p.1 10) (by omega) h11 o11
  · have : ¬ size ≤ p.1 0 := fun z => c_5 (nI_le z (by omega))
    refine wp_iconst (v := 0) dX11_mayInsert_8 rfl ?_
    refine wp_iret dX11_mayInsert_9 rfl rfl ?_
    exact ⟨rfl, by rw [r_may]; simp [this, b2n]; rfl⟩
theorem ct_refer {p : rs} {j : Nat} (ok : rok p) (hj : j < 2 ^ 29) (hc : p.1 28 < 200) (hr : p.2.1 20 (p.1 28) < 12) : fp_ct G rm_X11_refer M_X11_refer [.ref m, .int (nI j)] (r_hp h0 m p) (fun r h' => r = none ∧ h' = r_hp h0 m (r_ref p j)) := by
  have o12 := ok.2.1 12 (p.1 28)
  have e1 : (12 : Int32) * nI (p.1 28) + nI (p.2.1 20 (p.1 28)) = nI (12 * p.1 28 + p.2.1 20 (p.1 28)) := by rw [show (12 : Int32) * nI (p.1 28) = nI (12 * p.1 28) from pk_mul 12 _, nI_add]
  refine fp_meth pn_X11 (Nat.le_of_ble_eq_true rfl) rfl ?_
  refine wp_aload_n dX11_refer_0 rfl ?_
  refine wr_geta 37 19 dX11_refer_1 fl_X11_70 ⟨by decide, rfl⟩ ?_
  refine wp_bipush (v := 12) dX11_refer_4 rfl ?_
  refine wp_aload_n dX11_refer_6 rfl ?_
  refine wr_geti 28 dX11_refer_7 fl_X11_143 ⟨by decide, rfl⟩ ?_
  refine wp_imul dX11_refer_10 ?_
  refine wp_aload_n dX11_refer_11 rfl ?_
  refine wr_geta 38 20 dX11_refer_12 fl_X11_73 ⟨by decide, rfl⟩ ?_
  refine wp_aload_n dX11_refer_15 rfl ?_
  refine wr_geti 28 dX11_refer_16 fl_X11_143 ⟨by decide, rfl⟩ ?_
  refine wr_iald dX11_refer_19 ⟨by decide, rfl⟩ rfl hc (by decide) ?_
  refine wp_iadd dX11_refer_20 ?_
  refine wp_iload_n dX11_refer_21 rfl ?_
  refine wr_iast dX11_refer_22 ⟨by decide, rfl⟩ e1 (by show 12 * p.1 28 + p.2.1 20 (p.1 28) < 2400; omega) (by decide) rfl ?_
  refine wp_aload_n dX11_refer_23 rfl ?_
  refine wr_geta 38 20 dX11_refer_24 fl_X11_73 ⟨by decide, rfl⟩ ?_
  refine wp_aload_n dX11_refer_27 rfl ?_
  refine wr_geti 28 dX11_refer_28 fl_X11_143 ⟨by decide, rfl⟩ ?_
  refine wp_dup2_11 dX11_refer_31 rfl rfl ?_
  refine wr_iald dX11_refer_32 ⟨by decide, rfl⟩ rfl hc (by decide) ?_
  refine wp_iconst (v := 1) dX11_refer_33 rfl ?_
  refine wp_iadd dX11_refer_34 ?_
  refine wr_iast dX11_refer_35 ⟨by decide, rfl⟩ rfl hc (by decide) (nI_1 _) ?_
  refine wp_aload_n dX11_refer_36 rfl ?_
  refine wr_geta 30 12 dX11_refer_37 fl_X11_49 ⟨by decide, rfl⟩ ?_
  refine wp_aload_n dX11_refer_40 rfl ?_
  refine wr_geti 28 dX11_refer_41 fl_X11_143 ⟨by decide, rfl⟩ ?_
  refine wp_iload_n dX11_refer_44 rfl ?_
  refine wp_iconst (v := 1) dX11_refer_45 rfl ?_
  refine wp_iadd dX11_refer_46 ?_
  refine wp_aload_n dX11_refer_47 rfl ?_
  refine wr_geta 30 12 dX11_refer_48 fl_X11_49 ⟨by decide, rfl⟩ ?_
  refine wp_aload_n dX11_refer_51 rfl ?_
  refine wr_geti 28 dX11_refer_52 fl_X11_143 ⟨by decide, rfl⟩ ?_
  refine wr_iald dX11_refer_55 ⟨by decide, rfl⟩ rfl hc (by decide) ?_
  refine wp_icmp_le (tgt := 65) dX11_refer_56 rfl (fun c_56 => ?_) (fun c_56 => ?_)
  · have : j + 1 ≤ p.2.1 12 (p.1 28) := by
      rw [nI_1] at c_56
      exact (nI_leI (by omega) (by omega)).mp c_56
    refine wp_aload_n dX11_refer_65 rfl ?_
    refine wr_geta 30 12 dX11_refer_66 fl_X11_49 ⟨by decide, rfl⟩ ?_
    refine wp_aload_n dX11_refer_69 rfl ?_
    refine wr_geti 28 dX11_refer_70 fl_X11_143 ⟨by decide, rfl⟩ ?_
    refine wr_iald dX11_refer_73 ⟨by decide, rfl⟩ rfl hc (by decide) ?_
    refine wr_iast dX11_refer_74 ⟨by decide, rfl⟩ rfl hc (by decide) rfl ?_
    refine wp_vret dX11_refer_75 rfl ?_
    refine ⟨rfl, ?_⟩
    rw [r_ref, Nat.max_eq_right this]
    rfl
  · have : ¬ j + 1 ≤ p.2.1 12 (p.1 28) := fun z => c_56 (by rw [nI_1]; exact nI_le (b := p.2.1 12 (p.1 28)) z (by omega))
    refine wp_iload_n dX11_refer_59 rfl ?_
    refine wp_iconst (v := 1) dX11_refer_60 rfl ?_
    refine wp_iadd dX11_refer_61 ?_
    refine wp_goto (tgt := 74) dX11_refer_62 rfl ?_
    refine wr_iast dX11_refer_74 ⟨by decide, rfl⟩ rfl hc (by decide) (nI_1 _) ?_
    refine wp_vret dX11_refer_75 rfl ?_
    refine ⟨rfl, ?_⟩
    rw [r_ref, Nat.max_eq_left (by omega)]
    rfl
theorem ct_whole {p : rs} {j base : Nat} (ok : rok p) (hj : j < 2 ^ 29) (hb : base < 2 ^ 29) (hc : p.1 28 < 200) (hr : p.2.1 20 (p.1 28) < 12) (hl : p.1 44 + (r_wb j base).length ≤ 400) : fp_ct G rm_X11_whole M_X11_whole [.ref m, .int (nI j), .int (nI base)] (r_hp h0 m p) (fun r h' => r = none ∧ h' = r_hp h0 m (r_whole p j base)) := by
  refine fp_meth pn_X11 (Nat.le_of_ble_eq_true rfl) rfl ?_
  refine wp_aload_n dX11_whole_0 rfl ?_
  refine wp_iload_n dX11_whole_1 rfl ?_
  refine wp_callV (As := [.int (nI j)]) (rest := []) dX11_whole_2 me_X11_refer cw_X11_174 rfl ⟨(Nat.le_of_ble_eq_true rfl), (Nat.le_of_ble_eq_true rfl)⟩ rfl rfl rfl (Nat.le_of_ble_eq_true rfl) r_at_m (ct_refer ok hj hc hr) (fun r h1 q => ?_)
  obtain ⟨rfl, rfl⟩ := q
  have hl2 : (r_ref p j).1 (r_wc 2) + (r_wb j base).length ≤ (r_kd (r_wa 2)).2 := hl
  unfold r_whole
  refine wp_iload_n dX11_whole_5 rfl ?_
  refine wp_iload_n dX11_whole_6 rfl ?_
  refine wp_icmp_ge (tgt := 28) dX11_whole_7 rfl (fun c_7 => ?_) (fun c_7 => ?_)
  · have hge : base ≤ j := (nI_leI (by omega) (by omega)).mp c_7
    rw [r_wb, if_neg (by omega)] at hl2 ⊢
    refine wp_aload_n dX11_whole_28 rfl ?_
    refine wp_iconst (v := 2) dX11_whole_29 rfl ?_
    refine wp_bipush (v := 16) dX11_whole_30 rfl ?_
    refine wp_iconst (v := 4) dX11_whole_32 rfl ?_
    refine wp_iload_n dX11_whole_33 rfl ?_
    refine wp_iload_n dX11_whole_34 rfl ?_
    refine wp_isub dX11_whole_35 ?_
    rw [pk_sub hge]
    refine wp_callV (As := [.int (nI 2), .int (nI 16), .int (nI 4), .int (nI (j - base))]) (rest := []) dX11_whole_36 me_X11_number cw_X11_120 rfl ⟨(Nat.le_of_ble_eq_true rfl), (Nat.le_of_ble_eq_true rfl)⟩ rfl rfl rfl (Nat.le_of_ble_eq_true rfl) r_at_m (ct_number (by decide) (by decide) (by decide) (by omega) hl2) (fun r h1 q => ?_)
    obtain ⟨rfl, rfl⟩ := q
    refine wp_vret dX11_whole_39 rfl ?_
    exact ⟨rfl, rfl⟩
  · have hlt : j < base := by
      rcases Nat.lt_or_ge j base with q | q
      · exact q
      · exact absurd (nI_le q (by omega)) c_7
    rw [r_wb, if_pos hlt] at hl2 ⊢
    refine wp_aload_n dX11_whole_10 rfl ?_
    refine wp_iconst (v := 2) dX11_whole_11 rfl ?_
    refine wp_sipush (v := 128) dX11_whole_12 rfl ?_
    refine wp_bipush (v := 6) dX11_whole_15 rfl ?_
    refine wp_iload_n dX11_whole_17 rfl ?_
    refine wp_iconst (v := 1) dX11_whole_18 rfl ?_
    refine wp_isub dX11_whole_19 ?_
    refine wp_iload_n dX11_whole_20 rfl ?_
    refine wp_isub dX11_whole_21 ?_
    rw [nI_sub1 (by omega), pk_sub (show j ≤ base - 1 by omega)]
    refine wp_callV (As := [.int (nI 2), .int (nI 128), .int (nI 6), .int (nI (base - 1 - j))]) (rest := []) dX11_whole_22 me_X11_number cw_X11_120 rfl ⟨(Nat.le_of_ble_eq_true rfl), (Nat.le_of_ble_eq_true rfl)⟩ rfl rfl rfl (Nat.le_of_ble_eq_true rfl) r_at_m (ct_number (by decide) (by decide) (by decide) (by omega) hl2) (fun r h1 q => ?_)
    obtain ⟨rfl, rfl⟩ := q
    refine wp_goto (tgt := 39) dX11_whole_25 rfl ?_
    refine wp_vret dX11_whole_39 rfl ?_
    exact ⟨rfl, rfl⟩
theorem ct_insert {p : rs} {u v : Nat} (ok : rok p) (hu : u < 2 ^ 64) (hv : v < 2 ^ 64) (h10 : p.1 10 ≤ p.1 6) (h6 : p.1 6 < 2400) (h11 : p.1 11 = r_sum p (p.1 10) (p.1 6 - p.1 10)) (hfit : 32 + bln u + bln v ≤ p.1 0) (hs : p.1 13 + (r_ib p u v).length ≤ 60000) : fp_ct G rm_X11_insert M_X11_insert [.ref m, .long (lN u), .long (lN v)] (r_hp h0 m p) (fun r h' => r = none ∧ h' = r_hp h0 m (r_ins p u v)) := by
  have bu := bln_le u
  have bv := bln_le v
  have o0 := ok.1 0
  refine fp_meth pn_X11 (Nat.le_of_ble_eq_true rfl) rfl ?_
  refine wp_lload_n dX11_insert_0 rfl ?_
  refine wp_callS (As := [.long (lN u)]) (rest := []) dX11_insert_1 me_X11_fixedName cw_X11_163 ⟨(Nat.le_of_ble_eq_true rfl), (Nat.le_of_ble_eq_true rfl)⟩ rfl rfl rfl (Nat.le_of_ble_eq_true rfl) (ct_fixedName hu) (fun r h1 q => ?_)
  obtain ⟨rfl, rfl⟩ := q
  refine wp_istore dX11_insert_4 (Nat.le_of_ble_eq_true rfl) rfl ?_
  refine wp_aload_n dX11_insert_6 rfl ?_
  refine wp_lload_n dX11_insert_7 rfl ?_
  refine wp_lconst (v := 0) dX11_insert_8 rfl ?_
  refine wp_iconst (v := 0) dX11_insert_9 rfl ?_
  refine wp_callV (As := [.long (lN u), .long (lN 0), .int (nI (b2n false))]) (rest := []) dX11_insert_10 me_X11_last cw_X11_166 rfl ⟨(Nat.le_of_ble_eq_true rfl), (Nat.le_of_ble_eq_true rfl)⟩ rfl rfl rfl (Nat.le_of_ble_eq_true rfl) r_at_m (ct_last ok hu (by decide) (by omega)) (fun r h1 q => ?_)
  obtain ⟨rfl, rfl⟩ := q
  -- behind the name
  have tail : ∀ (A : List Nat) (o5 o6 : Int32), A ++ (nb 0 7 (bln v) ++ txb v) = r_ib p u v → fp_wp G rm_X11_insert M_X11_insert 73 [some (.ref m), some (.long (lN u)), none, some (.long (lN v)), none, some (.int o5), some (.int o6), none] [] (r_hp h0 m (r_lays p 0 A)) (fun r h' => r = none ∧ h' = r_hp h0 m (r_ins p u v)) := by
    intro A o5 o6 hA
    have hr : (r_lays p 0 A).1 (r_wc 0) + (nb 0 7 (bln v) ++ txb v).length ≤ (r_kd (r_wa 0)).2 := by
      rw [r_lays_c]
      have : (A ++ (nb 0 7 (bln v) ++ txb v)).length = (r_ib p u v).length := by rw [hA]
      rw [List.length_append] at this
      show p.1 13 + A.length + _ ≤ 60000
      omega
    refine wp_aload_n dX11_insert_73 rfl ?_
    refine wp_iconst (v := 0) dX11_insert_74 rfl ?_
    refine wp_iconst (v := 0) dX11_insert_75 rfl ?_
    refine wp_bipush (v := 7) dX11_insert_76 rfl ?_
    refine wp_lload_n dX11_insert_78 rfl ?_
    refine wp_callV (As := [.int (nI 0), .int (nI 0), .int (nI 7), .long (lN v)]) (rest := []) dX11_insert_79 me_X11_text cw_X11_170 rfl ⟨(Nat.le_of_ble_eq_true rfl), (Nat.le_of_ble_eq_true rfl)⟩ rfl rfl rfl (Nat.le_of_ble_eq_true rfl) r_at_m (ct_text (by decide) (by decide) (by decide) hv hr) (fun r h1 q => ?_)
    obtain ⟨rfl, rfl⟩ := q
    rw [← r_lays_app, hA]
    refine wp_lload_n dX11_insert_82 rfl ?_
    refine wp_lload_n dX11_insert_83 rfl ?_
    refine wp_callS (As := [.long (lN u), .long (lN v)]) (rest := []) dX11_insert_84 me_X11_sizeOf cw_X11_159 ⟨(Nat.le_of_ble_eq_true rfl), (Nat.le_of_ble_eq_true rfl)⟩ rfl rfl rfl (Nat.le_of_ble_eq_true rfl) (ct_sizeOf hu hv) (fun r h1 q => ?_)
    obtain ⟨rfl, rfl⟩ := q
    have k0 : (r_lays p 0 (r_ib p u v)).1 0 = p.1 0 := r_lays_k (by decide) _ _
    have k6 : (r_lays p 0 (r_ib p u v)).1 6 = p.1 6 := r_lays_k (by decide) _ _
    have k10 : (r_lays p 0 (r_ib p u v)).1 10 = p.1 10 := r_lays_k (by decide) _ _
    have k11 : (r_lays p 0 (r_ib p u v)).1 11 = p.1 11 := r_lays_k (by decide) _ _
    have kl : (r_lays p 0 (r_ib p u v)).2.2 = p.2.2 := r_lays_l _ _
    have k13 : (r_lays p 0 (r_ib p u v)).1 13 ≤ 60000 := by
      have := r_lays_c 0 (r_ib p u v) p
      rw [show r_wc 0 = 13 from rfl] at this
      omega
    have hsum : (r_lays p 0 (r_ib p u v)).1 11 = r_sum (r_lays p 0 (r_ib p u v)) ((r_lays p 0 (r_ib p u v)).1 10) (p.1 6 - p.1 10) := by rw [k11, k10, r_sum_l kl, h11]
    unfold r_ins
    generalize r_lays p 0 (r_ib p u v) = p1 at k0 k6 k10 k11 kl k13 hsum ⊢
    refine wp_istore dX11_insert_87 (Nat.le_of_ble_eq_true rfl) rfl ?_
    have loop : ∀ (n : Nat) (p1 : rs), p1.1 0 = p.1 0 → p1.1 6 = p.1 6 → p1.1 10 + n = p.1 6 → p1.2.2 = p.2.2 → p1.1 13 ≤ 60000 → p1.1 11 = r_sum p1 (p1.1 10) n → p1.1 11 ≤ p.1 11 → fp_wp G rm_X11_insert M_X11_insert 89 [some (.ref m), some (.long (lN u)), none, some (.long (lN v)), none, some (.int o5), some (.int o6), some (.int (nI (32 + bln u + bln v)))] [] (r_hp h0 m p1) (fun r h' => r = none ∧ h' = r_hp h0 m (r_app (r_ev p1 (32 + bln u + bln v) n) u v (32 + bln u + bln v))) := by
      have o11 := ok.1 11
      -- the end of it
      have fin : ∀ p1 : rs, p1.1 6 = p.1 6 → p1.1 13 ≤ 60000 → p1.1 11 + (32 + bln u + bln v) < 2 ^ 31 → fp_wp G rm_X11_insert M_X11_insert 146 [some (.ref m), some (.long (lN u)), none, some (.long (lN v)), none, some (.int o5), some (.int o6), some (.int (nI (32 + bln u + bln v)))] [] (r_hp h0 m p1) (fun r h' => r = none ∧ h' = r_hp h0 m (r_app p1 u v (32 + bln u + bln v))) := by
        intro p1 e6 e13 e11
        refine wp_aload_n dX11_insert_146 rfl ?_
        refine wp_dup dX11_insert_147 rfl ?_
        refine wr_geti 11 dX11_insert_148 fl_X11_153 ⟨by decide, rfl⟩ ?_
        refine wp_iload dX11_insert_151 rfl ?_
        refine wp_iadd dX11_insert_153 ?_
        refine wr_puti dX11_insert_154 (fs_X11_153 _) ⟨by decide, rfl⟩ (nI_add _ _) ?_
        refine wp_aload_n dX11_insert_157 rfl ?_
        refine wr_geta 7 3 dX11_insert_158 fl_X11_20 ⟨by decide, rfl⟩ ?_
        refine wp_aload_n dX11_insert_161 rfl ?_
        refine wr_geti 6 dX11_insert_162 fl_X11_137 ⟨by decide, rfl⟩ ?_
        refine wp_lload_n dX11_insert_165 rfl ?_
        refine wr_last dX11_insert_166 ⟨by decide, rfl⟩ rfl (by show p1.1 6 < 2400; omega) (by decide) rfl ?_
        refine wp_aload_n dX11_insert_167 rfl ?_
        refine wr_geta 8 4 dX11_insert_168 fl_X11_23 ⟨by decide, rfl⟩ ?_
        refine wp_aload_n dX11_insert_171 rfl ?_
        refine wr_geti 6 dX11_insert_172 fl_X11_137 ⟨by decide, rfl⟩ ?_
        refine wp_lload_n dX11_insert_175 rfl ?_
        refine wr_last dX11_insert_176 ⟨by decide, rfl⟩ rfl (by show p1.1 6 < 2400; omega) (by decide) rfl ?_
        refine wp_aload_n dX11_insert_177 rfl ?_
        refine wr_geta 9 5 dX11_insert_178 fl_X11_26 ⟨by decide, rfl⟩ ?_
        refine wp_aload_n dX11_insert_181 rfl ?_
        refine wr_geti 6 dX11_insert_182 fl_X11_137 ⟨by decide, rfl⟩ ?_
        refine wp_aload_n dX11_insert_185 rfl ?_
        refine wr_geti 13 dX11_insert_186 fl_X11_104 ⟨by decide, rfl⟩ ?_
        refine wr_iast dX11_insert_189 ⟨by decide, rfl⟩ rfl (by show p1.1 6 < 2400; omega) (by decide) rfl ?_
        refine wp_aload_n dX11_insert_190 rfl ?_
        refine wp_dup dX11_insert_191 rfl ?_
        refine wr_geti 6 dX11_insert_192 fl_X11_137 ⟨by decide, rfl⟩ ?_
        refine wp_iconst (v := 1) dX11_insert_195 rfl ?_
        refine wp_iadd dX11_insert_196 ?_
        refine wr_puti dX11_insert_197 (fs_X11_137 _) ⟨by decide, rfl⟩ (nI_1 _) ?_
        refine wp_vret dX11_insert_200 rfl ?_
        exact ⟨rfl, rfl⟩
      intro n
      induction n with
      | zero =>
        intro p1 e0 e6 e10 el e13 e11 ele
        have z : p1.1 11 = 0 := e11
        refine wp_aload_n dX11_insert_89 rfl ?_
        refine wr_geti 11 dX11_insert_90 fl_X11_153 ⟨by decide, rfl⟩ ?_
        refine wp_iload dX11_insert_93 rfl ?_
        refine wp_iadd dX11_insert_95 ?_
        refine wp_aload_n dX11_insert_96 rfl ?_
        refine wr_geti 0 dX11_insert_97 fl_X11_91 ⟨by decide, rfl⟩ ?_
        refine wp_icmp_le (tgt := 146) dX11_insert_100 rfl (fun c_100 => ?_) (fun c_100 => ?_)
        · exact fin p1 e6 e13 (by omega)
        · refine absurd ?_ c_100
          rw [nI_add]
          exact nI_le (by omega) (by omega)
      | succ n ih =>
        intro p1 e0 e6 e10 el e13 e11 ele
        rw [r_sum] at e11
        have hsz := r_sz_le p1 (p1.1 10)
        refine wp_aload_n dX11_insert_89 rfl ?_
        refine wr_geti 11 dX11_insert_90 fl_X11_153 ⟨by decide, rfl⟩ ?_
        refine wp_iload dX11_insert_93 rfl ?_
        refine wp_iadd dX11_insert_95 ?_
        refine wp_aload_n dX11_insert_96 rfl ?_
        refine wr_geti 0 dX11_insert_97 fl_X11_91 ⟨by decide, rfl⟩ ?_
        refine wp_icmp_le (tgt := 146) dX11_insert_100 rfl (fun c_100 => ?_) (fun c_100 => ?_)
        · rw [nI_add] at c_100
          have : p1.1 11 + (32 + bln u + bln v) ≤ p1.1 0 := (nI_leI (by omega) (by omega)).mp c_100
          rw [r_ev, if_pos this]
          exact fin p1 e6 e13 (by omega)
        · rw [nI_add] at c_100
          have : ¬ p1.1 11 + (32 + bln u + bln v) ≤ p1.1 0 := fun z => c_100 (nI_le z (by omega))
          rw [r_ev, if_neg this]
          refine wp_aload_n dX11_insert_103 rfl ?_
          refine wp_dup dX11_insert_104 rfl ?_
          refine wr_geti 11 dX11_insert_105 fl_X11_153 ⟨by decide, rfl⟩ ?_
          refine wp_aload_n dX11_insert_108 rfl ?_
          refine wr_geta 7 3 dX11_insert_109 fl_X11_20 ⟨by decide, rfl⟩ ?_
          refine wp_aload_n dX11_insert_112 rfl ?_
          refine wr_geti 10 dX11_insert_113 fl_X11_140 ⟨by decide, rfl⟩ ?_
          refine wr_lald dX11_insert_116 ⟨by decide, rfl⟩ rfl (by show p1.1 10 < 2400; omega) (by decide) ?_
          refine wp_aload_n dX11_insert_117 rfl ?_
          refine wr_geta 8 4 dX11_insert_118 fl_X11_23 ⟨by decide, rfl⟩ ?_
          refine wp_aload_n dX11_insert_121 rfl ?_
          refine wr_geti 10 dX11_insert_122 fl_X11_140 ⟨by decide, rfl⟩ ?_
          refine wr_lald dX11_insert_125 ⟨by decide, rfl⟩ rfl (by show p1.1 10 < 2400; omega) (by decide) ?_
          refine wp_callS (As := [.long (lN (p1.2.2 3 (p1.1 10))), .long (lN (p1.2.2 4 (p1.1 10)))]) (rest := [.int (nI (p1.1 11)), .ref m]) dX11_insert_126 me_X11_sizeOf cw_X11_159 ⟨(Nat.le_of_ble_eq_true rfl), (Nat.le_of_ble_eq_true rfl)⟩ rfl rfl rfl (Nat.le_of_ble_eq_true rfl) (ct_sizeOf (by rw [el]; exact ok.2.2 _ _) (by rw [el]; exact ok.2.2 _ _)) (fun r h1 q => ?_)
          obtain ⟨rfl, rfl⟩ := q
          refine wp_isub dX11_insert_129 ?_
          rw [show 32 + bln (p1.2.2 3 (p1.1 10)) + bln (p1.2.2 4 (p1.1 10)) = r_sz p1 (p1.1 10) from rfl, pk_sub (show r_sz p1 (p1.1 10) ≤ p1.1 11 by omega)]
          refine wr_puti dX11_insert_130 (fs_X11_153 _) ⟨by decide, rfl⟩ rfl ?_
          refine wp_aload_n dX11_insert_133 rfl ?_
          refine wp_dup dX11_insert_134 rfl ?_
          refine wr_geti 10 dX11_insert_135 fl_X11_140 ⟨by decide, rfl⟩ ?_
          refine wp_iconst (v := 1) dX11_insert_138 rfl ?_
          refine wp_iadd dX11_insert_139 ?_
          refine wr_puti dX11_insert_140 (fs_X11_140 _) ⟨by decide, rfl⟩ (nI_1 _) ?_
          refine wp_goto (tgt := 89) dX11_insert_143 rfl ?_
          refine ih _ e0 e6 ?_ el e13 ?_ ?_
          · show p1.1 10 + 1 + n = _
            omega
          · show p1.1 11 - _ = r_sum _ (p1.1 10 + 1) n
            refine Eq.trans ?_ (r_sum_l (p := r_si (r_si p1 11 (p1.1 11 - r_sz p1 (p1.1 10))) 10 ((r_si p1 11 (p1.1 11 - r_sz p1 (p1.1 10))).1 10 + 1)) (q := p1) rfl n (p1.1 10 + 1)).symm
            omega
          · show p1.1 11 - _ ≤ _
            omega
    exact loop (p.1 6 - p.1 10) p1 k0 k6 (by omega) kl k13 hsum (by omega)
  have hs2 := hs
  rw [r_ib, List.length_append] at hs2
  refine wp_istore dX11_insert_13 (Nat.le_of_ble_eq_true rfl) rfl ?_
  refine wp_iload dX11_insert_15 rfl ?_
  refine wp_iconst (v := (-1)) dX11_insert_17 rfl ?_
  refine wp_icmp_eq (tgt := 36) dX11_insert_18 rfl (fun c_18 => ?_) (fun c_18 => ?_)
  · have hx : fxn u = none := by
      cases hx : fxn u with
      | none => rfl
      | some k =>
        rw [hx] at c_18
        have : k < 8 := by
          unfold fxn at hx
          split at hx
          · cases hx; omega
          · cases hx
        exact absurd c_18 (nI_m1 (by omega))
    rw [hx] at hs2
    refine wp_iload dX11_insert_36 rfl ?_
    refine wp_iconst (v := (-1)) dX11_insert_38 rfl ?_
    refine wp_icmp_eq (tgt := 64) dX11_insert_39 rfl (fun c_39 => ?_) (fun c_39 => ?_)
    · have hl : r_last p u 0 false = none := by
        cases hl : r_last p u 0 false with
        | none => rfl
        | some j =>
          rw [hl] at c_39
          have := (r_lastTo_some hl).1
          exact absurd c_39 (nI_m1 (by omega))
      rw [hl] at hs2
      refine wp_aload_n dX11_insert_64 rfl ?_
      refine wp_iconst (v := 0) dX11_insert_65 rfl ?_
      refine wp_bipush (v := 64) dX11_insert_66 rfl ?_
      refine wp_iconst (v := 5) dX11_insert_68 rfl ?_
      refine wp_lload_n dX11_insert_69 rfl ?_
      refine wp_callV (As := [.int (nI 0), .int (nI 64), .int (nI 5), .long (lN u)]) (rest := []) dX11_insert_70 me_X11_text cw_X11_170 rfl ⟨(Nat.le_of_ble_eq_true rfl), (Nat.le_of_ble_eq_true rfl)⟩ rfl rfl rfl (Nat.le_of_ble_eq_true rfl) r_at_m (ct_text (by decide) (by decide) (by decide) hu (by show p.1 13 + _ ≤ 60000; simp only at hs2; omega)) (fun r h1 q => ?_)
      obtain ⟨rfl, rfl⟩ := q
      exact tail _ _ _ (by rw [r_ib, hx, hl])
    · cases hl : r_last p u 0 false with
      | none => rw [hl] at c_39; exact absurd rfl c_39
      | some j =>
        rw [hl] at hs2
        have hj := (r_lastTo_some hl).1
        refine wp_aload_n dX11_insert_42 rfl ?_
        refine wp_iconst (v := 0) dX11_insert_43 rfl ?_
        refine wp_sipush (v := 128) dX11_insert_44 rfl ?_
        refine wp_bipush (v := 6) dX11_insert_47 rfl ?_
        refine wp_aload_n dX11_insert_49 rfl ?_
        refine wr_geti 6 dX11_insert_50 fl_X11_137 ⟨by decide, rfl⟩ ?_
        refine wp_iconst (v := 1) dX11_insert_53 rfl ?_
        refine wp_isub dX11_insert_54 ?_
        refine wp_iload dX11_insert_55 rfl ?_
        refine wp_isub dX11_insert_57 ?_
        rw [show oI (some j) = nI j from rfl, nI_sub1 (by omega), pk_sub (show j ≤ p.1 6 - 1 by omega)]
        refine wp_callV (As := [.int (nI 0), .int (nI 128), .int (nI 6), .int (nI (p.1 6 - 1 - j))]) (rest := []) dX11_insert_58 me_X11_number cw_X11_120 rfl ⟨(Nat.le_of_ble_eq_true rfl), (Nat.le_of_ble_eq_true rfl)⟩ rfl rfl rfl (Nat.le_of_ble_eq_true rfl) r_at_m (ct_number (by decide) (by decide) (by decide) (by omega) (by show p.1 13 + _ ≤ 60000; simp only at hs2; omega)) (fun r h1 q => ?_)
        obtain ⟨rfl, rfl⟩ := q
        refine wp_goto (tgt := 73) dX11_insert_61 rfl ?_
        exact tail _ _ _ (by rw [r_ib, hx, hl])
  · cases hx : fxn u with
    | none => rw [hx] at c_18; exact absurd rfl c_18
    | some k =>
      rw [hx] at hs2
      have hk : k < 8 := by
        unfold fxn at hx
        split at hx
        · cases hx; omega
        · cases hx
      refine wp_aload_n dX11_insert_21 rfl ?_
      refine wp_iconst (v := 0) dX11_insert_22 rfl ?_
      refine wp_sipush (v := 192) dX11_insert_23 rfl ?_
      refine wp_bipush (v := 6) dX11_insert_26 rfl ?_
      refine wp_iload dX11_insert_28 rfl ?_
      rw [show oI (some k) = nI k from rfl]
      refine wp_callV (As := [.int (nI 0), .int (nI 192), .int (nI 6), .int (nI k)]) (rest := []) dX11_insert_30 me_X11_number cw_X11_120 rfl ⟨(Nat.le_of_ble_eq_true rfl), (Nat.le_of_ble_eq_true rfl)⟩ rfl rfl rfl (Nat.le_of_ble_eq_true rfl) r_at_m (ct_number (by decide) (by decide) (by decide) (by omega) (by show p.1 13 + _ ≤ 60000; simp only at hs2; omega)) (fun r h1 q => ?_)
      obtain ⟨rfl, rfl⟩ := q
      refine wp_goto (tgt := 73) dX11_insert_33 rfl ?_
      exact tail _ _ _ (by rw [r_ib, hx])
end RI
