/-! the reference: one field of a section -/
theorem nbt_len : ∀ f l : Nat, (nbt f l).length ≤ f + 1 := by
  intro f
  induction f with
  | zero => intro l; simp [nbt]
  | succ f ih =>
    intro l
    rw [nbt]
    split
    · simp
    · have := ih (l / 128)
      rw [List.length_cons]
      omega
theorem nb_len (F n v : Nat) : (nb F n v).length ≤ 6 := by
  unfold nb
  split
  · simp
  · have := nbt_len 4 (v - (2 ^ n - 1))
    rw [List.length_cons]
    omega
theorem nb_len1 {F n v : Nat} (h : v < 2 ^ n - 1) : (nb F n v).length = 1 := by rw [nb, if_pos h]; rfl
theorem nb_len3 {F v : Nat} (h : v ≤ 8) : (nb F 3 v).length ≤ 2 := by
  unfold nb
  split
  · simp
  · rw [List.length_cons, nbt, if_pos (by omega)]
    simp
theorem nbt_lt {B : Nat} (hB : 256 ≤ B) : ∀ f l : Nat, l < B → ∀ b ∈ nbt f l, b < B := by
  intro f
  induction f with
  | zero => intro l hl b hb; simp [nbt] at hb; omega
  | succ f ih =>
    intro l hl b hb
    rw [nbt] at hb
    split at hb
    · simp at hb; omega
    · rcases List.mem_cons.mp hb with rfl | hb
      · omega
      · exact ih (l / 128) (by omega) b hb
theorem nb_lt {F n v : Nat} (hF : F < 256) (hn : n < 9) (hv : v < 2 ^ 29) : ∀ b ∈ nb F n v, b < 2 ^ 30 := by
  have h2n : 2 ^ n ≤ 2 ^ 8 := Nat.pow_le_pow_right (by decide) (by omega)
  intro b hb
  unfold nb at hb
  split at hb
  · simp at hb; omega
  · rcases List.mem_cons.mp hb with rfl | hb
    · omega
    · exact nbt_lt (by decide) 4 _ (by omega) b hb
theorem txb_len (u : Nat) : (txb u).length = bln u := txd_len u _
theorem txb_lt (u : Nat) : ∀ b ∈ txb u, b < 2 ^ 30 := by
  intro b hb
  obtain ⟨k, -, rfl⟩ := List.mem_map.mp hb
  have := bte_lt u k
  omega
theorem rok.lays {w : Nat} : ∀ (l : List Nat) (p : rs), rok p → (∀ b ∈ l, b < 2 ^ 30) → p.1 (r_wc w) + l.length < 2 ^ 30 → rok (r_lays p w l) := by
  intro l
  induction l with
  | nil => intro p ok _ _; exact ok
  | cons a l ih =>
    intro p ok hl hc
    rw [List.length_cons] at hc
    rw [r_lays_cons]
    refine ih _ ((ok.sa (hl a List.mem_cons_self)).si (by omega)) (fun b hb => hl b (List.mem_cons_of_mem _ hb)) ?_
    rw [r_lay_c]
    omega
theorem rok.ev : ∀ (n : Nat) (p : rs) (size : Nat), rok p → p.1 10 + n < 2 ^ 29 → rok (r_ev p size n) := by
  intro n
  induction n with
  | zero => intro p size ok _; exact ok
  | succ n ih =>
    intro p size ok h
    rw [r_ev]
    split
    · exact ok
    · refine ih _ size ((ok.si (by have := ok.1 11; omega)).si ?_) ?_
      · show p.1 10 + 1 < _
        omega
      · show p.1 10 + 1 + n < _
        omega
theorem r_ev_k {k : Nat} (h1 : k ≠ 10) (h2 : k ≠ 11) : ∀ (n : Nat) (p : rs) (size : Nat), (r_ev p size n).1 k = p.1 k := by
  intro n
  induction n with
  | zero => intro p size; rfl
  | succ n ih =>
    intro p size
    rw [r_ev]
    split
    · rfl
    · rw [ih]; simp [r_si, h1, h2]
theorem r_ev_a : ∀ (n : Nat) (p : rs) (size : Nat), (r_ev p size n).2 = p.2 := by
  intro n
  induction n with
  | zero => intro p size; rfl
  | succ n ih =>
    intro p size
    rw [r_ev]
    split
    · rfl
    · rw [ih]; rfl
theorem r_ev_t : ∀ (n : Nat) (p : rs) (size : Nat), p.1 11 = r_sum p (p.1 10) n → size ≤ p.1 0 → p.1 10 ≤ (r_ev p size n).1 10 ∧ (r_ev p size n).1 10 ≤ p.1 10 + n ∧ (r_ev p size n).1 11 = r_sum p ((r_ev p size n).1 10) (p.1 10 + n - (r_ev p size n).1 10) ∧ (r_ev p size n).1 11 + size ≤ p.1 0 := by
  intro n
  induction n with
  | zero =>
    intro p size h hs
    refine ⟨Nat.le_refl _, Nat.le_refl _, ?_, ?_⟩
    · show p.1 11 = r_sum p (p.1 10) (p.1 10 + 0 - p.1 10)
      rw [Nat.add_zero, Nat.sub_self]
      exact h
    · show p.1 11 + size ≤ _
      have : p.1 11 = 0 := h
      omega
  | succ n ih =>
    intro p size h hs
    rw [r_ev]
    split
    · rename_i hle
      refine ⟨Nat.le_refl _, by omega, ?_, hle⟩
      rw [show p.1 10 + (n + 1) - p.1 10 = n + 1 by omega]
      exact h
    · rw [r_sum] at h
      have hz := r_sz_le p (p.1 10)
      obtain ⟨a1, a2, a3, a4⟩ := ih (r_si (r_si p 11 (p.1 11 - r_sz p (p.1 10))) 10 (p.1 10 + 1)) size (by
        show p.1 11 - r_sz p (p.1 10) = r_sum _ (p.1 10 + 1) n
        rw [r_sum_l (q := p) (p := r_si (r_si p 11 (p.1 11 - r_sz p (p.1 10))) 10 (p.1 10 + 1)) rfl]
        omega) hs
      rw [r_sum_l (q := p) (p := r_si (r_si p 11 (p.1 11 - r_sz p (p.1 10))) 10 (p.1 10 + 1)) rfl] at a3
      have e : (r_si (r_si p 11 (p.1 11 - r_sz p (p.1 10))) 10 (p.1 10 + 1)).1 10 = p.1 10 + 1 := rfl
      rw [e] at a1 a2 a3
      refine ⟨by omega, by omega, ?_, a4⟩
      rw [a3]
      congr 1
      omega
theorem r_ib_len (p : rs) (u v : Nat) : (r_ib p u v).length ≤ 18 := by
  have bu := bln_le u
  have bv := bln_le v
  have e7 : (nb 0 7 (bln v)).length = 1 := nb_len1 (by omega)
  have e5 : (nb 64 5 (bln u)).length = 1 := nb_len1 (by omega)
  unfold r_ib
  rw [List.length_append, List.length_append, e7, txb_len]
  cases fxn u with
  | some k => have := nb_len 192 6 k; simp only; omega
  | none =>
    cases r_last p u 0 false with
    | some j => have := nb_len 128 6 (p.1 6 - 1 - j); simp only; omega
    | none => simp only [List.length_append, e5, txb_len]; omega
theorem r_ib_lt (p : rs) (u v : Nat) (h6 : p.1 6 < 2 ^ 29) : ∀ b ∈ r_ib p u v, b < 2 ^ 30 := by
  have bu := bln_le u
  have bv := bln_le v
  intro b hb
  unfold r_ib at hb
  rcases List.mem_append.mp hb with hb | hb
  · cases hx : fxn u with
    | some k =>
      rw [hx] at hb
      refine nb_lt (by decide) (by decide) ?_ b hb
      unfold fxn at hx
      split at hx
      · cases hx; omega
      · cases hx
    | none =>
      rw [hx] at hb
      cases hl : r_last p u 0 false with
      | some j => rw [hl] at hb; exact nb_lt (by decide) (by decide) (by omega) b hb
      | none =>
        rw [hl] at hb
        rcases List.mem_append.mp hb with hb | hb
        · exact nb_lt (by decide) (by decide) (by omega) b hb
        · exact txb_lt u b hb
  · rcases List.mem_append.mp hb with hb | hb
    · exact nb_lt (by decide) (by decide) (by omega) b hb
    · exact txb_lt v b hb
theorem rok.ins {p : rs} {u v : Nat} (ok : rok p) (hu : u < 2 ^ 64) (hv : v < 2 ^ 64) (h10 : p.1 10 ≤ p.1 6) (h6 : p.1 6 < 2400) (ht : p.1 11 ≤ 1000) (hs : p.1 13 + 18 ≤ 60000) : rok (r_ins p u v) := by
  have bu := bln_le u
  have bv := bln_le v
  have hib := r_ib_len p u v
  have o1 : rok (r_lays p 0 (r_ib p u v)) := rok.lays _ p ok (r_ib_lt p u v (by omega)) (by show p.1 13 + _ < _; omega)
  have k10 : (r_lays p 0 (r_ib p u v)).1 10 = p.1 10 := r_lays_k (by decide) _ _
  have k6 : (r_lays p 0 (r_ib p u v)).1 6 = p.1 6 := r_lays_k (by decide) _ _
  have o2 : rok (r_ev (r_lays p 0 (r_ib p u v)) (32 + bln u + bln v) (p.1 6 - p.1 10)) := rok.ev _ _ _ o1 (by rw [k10]; omega)
  have e6 := r_ev_k (k := 6) (by decide) (by decide) (p.1 6 - p.1 10) (r_lays p 0 (r_ib p u v)) (32 + bln u + bln v)
  have e11 := o1.1 11
  have l11 : ∀ (n : Nat) (p : rs) (size : Nat), (r_ev p size n).1 11 ≤ p.1 11 := by
    intro n
    induction n with
    | zero => intro p size; exact Nat.le_refl _
    | succ n ih =>
      intro p size
      rw [r_ev]
      split
      · exact Nat.le_refl _
      · refine Nat.le_trans (ih _ _) ?_
        show p.1 11 - _ ≤ _
        omega
  have h11 := l11 (p.1 6 - p.1 10) (r_lays p 0 (r_ib p u v)) (32 + bln u + bln v)
  have k11 : (r_lays p 0 (r_ib p u v)).1 11 = p.1 11 := r_lays_k (by decide) _ _
  have q11 := ok.1 11
  unfold r_ins r_app
  have o13 := o2.1 13
  refine ((((o2.si ?_).sl hu).sl hv).sa o13).si ?_
  · omega
  · rw [e6, k6]; omega

def r_lb (p : rs) (u v s base : Nat) (risk : Bool) : rs := r_lays (match fxn u with
  | some k => r_lays p 2 (nb (80 + 32 * s) 4 k)
  | none => match r_last p u 0 false with
    | some j => if j < p.1 12 ∨ risk = true then r_lays (r_ref p j) 2 (if j < base then nb (64 + 32 * s) 4 (base - 1 - j) else nb (8 * s) 3 (j - base)) else r_lays p 2 (nb (32 + 16 * s) 3 (bln u) ++ txb u)
    | none => r_lays p 2 (nb (32 + 16 * s) 3 (bln u) ++ txb u)) 2 (nb 0 7 (bln v) ++ txb v)
def r_says (p : rs) (f : Nat) : rs := r_sa (r_sl (r_sl p 16 (12 * p.1 28 + f) (p.2.2 0 f)) 17 (12 * p.1 28 + f) (p.2.2 1 f)) 18 (12 * p.1 28 + f) (p.2.1 2 f)
def r_oneV (p : rs) (u v base : Nat) (risk : Bool) : rs := match r_last p u v true with
  | some j => if j < p.1 12 ∨ risk = true then r_whole p j base else r_lb p u v 0 base risk
  | none => if r_may p (32 + bln u + bln v) = true then (if risk = true then r_whole (r_ins p u v) (p.1 6) base else r_lb (r_ins p u v) u v 0 base risk) else r_lb p u v 0 base risk
def r_fixed (u v : Nat) : Bool := match fxn u with
  | some k => fxv k == v
  | none => false
def r_one (p : rs) (f base : Nat) (risk : Bool) : rs :=
  if r_fixed (p.2.2 0 f) (p.2.2 1 f) = true then r_lays (r_sa (r_says p f) 18 (12 * p.1 28 + f) 0) 2 (nb 192 6 (p.2.2 0 f - 97))
  else if p.2.1 2 f = 0 then r_oneV (r_says p f) (p.2.2 0 f) (p.2.2 1 f) base risk
  else r_lb (r_says p f) (p.2.2 0 f) (p.2.2 1 f) 1 base risk
theorem fxn_some {u k : Nat} (h : fxn u = some k) : k < 8 ∧ k = u - 97 := by
  unfold fxn at h
  split at h
  · cases h; omega
  · cases h
theorem dX11_one_0 : decode cX11_one 0 = .ok (.aload_n 0, 1) := by decide +kernel
theorem dX11_one_1 : decode cX11_one 1 = .ok (.getfield 7, 3) := by decide +kernel
theorem dX11_one_4 : decode cX11_one 4 = .ok (.iload_n 1, 1) := by decide +kernel
theorem dX11_one_5 : decode cX11_one 5 = .ok (.laload, 1) := by decide +kernel
theorem dX11_one_6 : decode cX11_one 6 = .ok (.lstore 4, 2) := by decide +kernel
theorem dX11_one_8 : decode cX11_one 8 = .ok (.aload_n 0, 1) := by decide +kernel
theorem dX11_one_9 : decode cX11_one 9 = .ok (.getfield 13, 3) := by decide +kernel
theorem dX11_one_12 : decode cX11_one 12 = .ok (.iload_n 1, 1) := by decide +kernel
theorem dX11_one_13 : decode cX11_one 13 = .ok (.laload, 1) := by decide +kernel
theorem dX11_one_14 : decode cX11_one 14 = .ok (.lstore 6, 2) := by decide +kernel
theorem dX11_one_16 : decode cX11_one 16 = .ok (.lload 4, 2) := by decide +kernel
theorem dX11_one_18 : decode cX11_one 18 = .ok (.invokestatic 163, 3) := by decide +kernel
theorem dX11_one_21 : decode cX11_one 21 = .ok (.istore 8, 2) := by decide +kernel
theorem dX11_one_23 : decode cX11_one 23 = .ok (.aload_n 0, 1) := by decide +kernel
theorem dX11_one_24 : decode cX11_one 24 = .ok (.getfield 16, 3) := by decide +kernel
theorem dX11_one_27 : decode cX11_one 27 = .ok (.iload_n 1, 1) := by decide +kernel
theorem dX11_one_28 : decode cX11_one 28 = .ok (.baload, 1) := by decide +kernel
theorem dX11_one_29 : decode cX11_one 29 = .ok (.istore 9, 2) := by decide +kernel
theorem dX11_one_31 : decode cX11_one 31 = .ok (.bipush 12, 2) := by decide +kernel
theorem dX11_one_33 : decode cX11_one 33 = .ok (.aload_n 0, 1) := by decide +kernel
theorem dX11_one_34 : decode cX11_one 34 = .ok (.getfield 143, 3) := by decide +kernel
theorem dX11_one_37 : decode cX11_one 37 = .ok (.imul, 1) := by decide +kernel
theorem dX11_one_38 : decode cX11_one 38 = .ok (.iload_n 1, 1) := by decide +kernel
theorem dX11_one_39 : decode cX11_one 39 = .ok (.iadd, 1) := by decide +kernel
theorem dX11_one_40 : decode cX11_one 40 = .ok (.istore 10, 2) := by decide +kernel
theorem dX11_one_42 : decode cX11_one 42 = .ok (.aload_n 0, 1) := by decide +kernel
theorem dX11_one_43 : decode cX11_one 43 = .ok (.getfield 61, 3) := by decide +kernel
theorem dX11_one_46 : decode cX11_one 46 = .ok (.iload 10, 2) := by decide +kernel
theorem dX11_one_48 : decode cX11_one 48 = .ok (.lload 4, 2) := by decide +kernel
theorem dX11_one_50 : decode cX11_one 50 = .ok (.lastore, 1) := by decide +kernel
theorem dX11_one_51 : decode cX11_one 51 = .ok (.aload_n 0, 1) := by decide +kernel
theorem dX11_one_52 : decode cX11_one 52 = .ok (.getfield 64, 3) := by decide +kernel
theorem dX11_one_55 : decode cX11_one 55 = .ok (.iload 10, 2) := by decide +kernel
theorem dX11_one_57 : decode cX11_one 57 = .ok (.lload 6, 2) := by decide +kernel
theorem dX11_one_59 : decode cX11_one 59 = .ok (.lastore, 1) := by decide +kernel
theorem dX11_one_60 : decode cX11_one 60 = .ok (.aload_n 0, 1) := by decide +kernel
theorem dX11_one_61 : decode cX11_one 61 = .ok (.getfield 67, 3) := by decide +kernel
theorem dX11_one_64 : decode cX11_one 64 = .ok (.iload 10, 2) := by decide +kernel
theorem dX11_one_66 : decode cX11_one 66 = .ok (.iload 9, 2) := by decide +kernel
theorem dX11_one_68 : decode cX11_one 68 = .ok (.bastore, 1) := by decide +kernel
theorem dX11_one_69 : decode cX11_one 69 = .ok (.iload 8, 2) := by decide +kernel
theorem dX11_one_71 : decode cX11_one 71 = .ok (.iconst (-1), 1) := by decide +kernel
theorem dX11_one_72 : decode cX11_one 72 = .ok (.if_icmp .eq 35, 3) := by decide +kernel
theorem dX11_one_75 : decode cX11_one 75 = .ok (.iload 8, 2) := by decide +kernel
theorem dX11_one_77 : decode cX11_one 77 = .ok (.invokestatic 178, 3) := by decide +kernel
theorem dX11_one_80 : decode cX11_one 80 = .ok (.lload 6, 2) := by decide +kernel
theorem dX11_one_82 : decode cX11_one 82 = .ok (.lcmp, 1) := by decide +kernel
theorem dX11_one_83 : decode cX11_one 83 = .ok (.ifCond .ne 24, 3) := by decide +kernel
theorem dX11_one_86 : decode cX11_one 86 = .ok (.aload_n 0, 1) := by decide +kernel
theorem dX11_one_87 : decode cX11_one 87 = .ok (.getfield 67, 3) := by decide +kernel
theorem dX11_one_90 : decode cX11_one 90 = .ok (.iload 10, 2) := by decide +kernel
theorem dX11_one_92 : decode cX11_one 92 = .ok (.iconst 0, 1) := by decide +kernel
theorem dX11_one_93 : decode cX11_one 93 = .ok (.bastore, 1) := by decide +kernel
theorem dX11_one_94 : decode cX11_one 94 = .ok (.aload_n 0, 1) := by decide +kernel
theorem dX11_one_95 : decode cX11_one 95 = .ok (.iconst 2, 1) := by decide +kernel
theorem dX11_one_96 : decode cX11_one 96 = .ok (.sipush 192, 3) := by decide +kernel
theorem dX11_one_99 : decode cX11_one 99 = .ok (.bipush 6, 2) := by decide +kernel
theorem dX11_one_101 : decode cX11_one 101 = .ok (.iload 8, 2) := by decide +kernel
theorem dX11_one_103 : decode cX11_one 103 = .ok (.invokevirtual 120, 3) := by decide +kernel
theorem dX11_one_106 : decode cX11_one 106 = .ok (.return_, 1) := by decide +kernel
theorem dX11_one_107 : decode cX11_one 107 = .ok (.iload 9, 2) := by decide +kernel
theorem dX11_one_109 : decode cX11_one 109 = .ok (.ifCond .ne 85, 3) := by decide +kernel
theorem dX11_one_112 : decode cX11_one 112 = .ok (.aload_n 0, 1) := by decide +kernel
theorem dX11_one_113 : decode cX11_one 113 = .ok (.lload 4, 2) := by decide +kernel
theorem dX11_one_115 : decode cX11_one 115 = .ok (.lload 6, 2) := by decide +kernel
theorem dX11_one_117 : decode cX11_one 117 = .ok (.iconst 1, 1) := by decide +kernel
theorem dX11_one_118 : decode cX11_one 118 = .ok (.invokevirtual 166, 3) := by decide +kernel
theorem dX11_one_121 : decode cX11_one 121 = .ok (.istore 11, 2) := by decide +kernel
theorem dX11_one_123 : decode cX11_one 123 = .ok (.iload 11, 2) := by decide +kernel
theorem dX11_one_125 : decode cX11_one 125 = .ok (.iconst (-1), 1) := by decide +kernel
theorem dX11_one_126 : decode cX11_one 126 = .ok (.if_icmp .eq 24, 3) := by decide +kernel
theorem dX11_one_129 : decode cX11_one 129 = .ok (.iload 11, 2) := by decide +kernel
theorem dX11_one_131 : decode cX11_one 131 = .ok (.aload_n 0, 1) := by decide +kernel
theorem dX11_one_132 : decode cX11_one 132 = .ok (.getfield 146, 3) := by decide +kernel
theorem dX11_one_135 : decode cX11_one 135 = .ok (.if_icmp .lt 7, 3) := by decide +kernel
theorem dX11_one_138 : decode cX11_one 138 = .ok (.iload_n 3, 1) := by decide +kernel
theorem dX11_one_139 : decode cX11_one 139 = .ok (.ifCond .eq 11, 3) := by decide +kernel
theorem dX11_one_142 : decode cX11_one 142 = .ok (.aload_n 0, 1) := by decide +kernel
theorem dX11_one_143 : decode cX11_one 143 = .ok (.iload 11, 2) := by decide +kernel
theorem dX11_one_145 : decode cX11_one 145 = .ok (.iload_n 2, 1) := by decide +kernel
theorem dX11_one_146 : decode cX11_one 146 = .ok (.invokevirtual 182, 3) := by decide +kernel
theorem dX11_one_149 : decode cX11_one 149 = .ok (.return_, 1) := by decide +kernel
theorem dX11_one_150 : decode cX11_one 150 = .ok (.iload 11, 2) := by decide +kernel
theorem dX11_one_152 : decode cX11_one 152 = .ok (.iconst (-1), 1) := by decide +kernel
theorem dX11_one_153 : decode cX11_one 153 = .ok (.if_icmp .ne 41, 3) := by decide +kernel
theorem dX11_one_156 : decode cX11_one 156 = .ok (.aload_n 0, 1) := by decide +kernel
theorem dX11_one_157 : decode cX11_one 157 = .ok (.lload 4, 2) := by decide +kernel
theorem dX11_one_159 : decode cX11_one 159 = .ok (.lload 6, 2) := by decide +kernel
theorem dX11_one_161 : decode cX11_one 161 = .ok (.invokestatic 159, 3) := by decide +kernel
theorem dX11_one_164 : decode cX11_one 164 = .ok (.invokevirtual 185, 3) := by decide +kernel
theorem dX11_one_167 : decode cX11_one 167 = .ok (.ifCond .eq 27, 3) := by decide +kernel
theorem dX11_one_170 : decode cX11_one 170 = .ok (.aload_n 0, 1) := by decide +kernel
theorem dX11_one_171 : decode cX11_one 171 = .ok (.lload 4, 2) := by decide +kernel
theorem dX11_one_173 : decode cX11_one 173 = .ok (.lload 6, 2) := by decide +kernel
theorem dX11_one_175 : decode cX11_one 175 = .ok (.invokevirtual 188, 3) := by decide +kernel
theorem dX11_one_178 : decode cX11_one 178 = .ok (.iload_n 3, 1) := by decide +kernel
theorem dX11_one_179 : decode cX11_one 179 = .ok (.ifCond .eq 15, 3) := by decide +kernel
theorem dX11_one_182 : decode cX11_one 182 = .ok (.aload_n 0, 1) := by decide +kernel
theorem dX11_one_183 : decode cX11_one 183 = .ok (.aload_n 0, 1) := by decide +kernel
theorem dX11_one_184 : decode cX11_one 184 = .ok (.getfield 137, 3) := by decide +kernel
theorem dX11_one_187 : decode cX11_one 187 = .ok (.iconst 1, 1) := by decide +kernel
theorem dX11_one_188 : decode cX11_one 188 = .ok (.isub, 1) := by decide +kernel
theorem dX11_one_189 : decode cX11_one 189 = .ok (.iload_n 2, 1) := by decide +kernel
theorem dX11_one_190 : decode cX11_one 190 = .ok (.invokevirtual 182, 3) := by decide +kernel
theorem dX11_one_193 : decode cX11_one 193 = .ok (.return_, 1) := by decide +kernel
theorem dX11_one_194 : decode cX11_one 194 = .ok (.aload_n 0, 1) := by decide +kernel
theorem dX11_one_195 : decode cX11_one 195 = .ok (.lload 4, 2) := by decide +kernel
theorem dX11_one_197 : decode cX11_one 197 = .ok (.lconst 0, 1) := by decide +kernel
theorem dX11_one_198 : decode cX11_one 198 = .ok (.iconst 0, 1) := by decide +kernel
theorem dX11_one_199 : decode cX11_one 199 = .ok (.invokevirtual 166, 3) := by decide +kernel
theorem dX11_one_202 : decode cX11_one 202 = .ok (.istore 11, 2) := by decide +kernel
theorem dX11_one_204 : decode cX11_one 204 = .ok (.iload 8, 2) := by decide +kernel
theorem dX11_one_206 : decode cX11_one 206 = .ok (.iconst (-1), 1) := by decide +kernel
theorem dX11_one_207 : decode cX11_one 207 = .ok (.if_icmp .eq 28, 3) := by decide +kernel
theorem dX11_one_210 : decode cX11_one 210 = .ok (.aload_n 0, 1) := by decide +kernel
theorem dX11_one_211 : decode cX11_one 211 = .ok (.iconst 2, 1) := by decide +kernel
theorem dX11_one_212 : decode cX11_one 212 = .ok (.bipush 80, 2) := by decide +kernel
theorem dX11_one_214 : decode cX11_one 214 = .ok (.iload 9, 2) := by decide +kernel
theorem dX11_one_216 : decode cX11_one 216 = .ok (.ifCond .eq 8, 3) := by decide +kernel
theorem dX11_one_219 : decode cX11_one 219 = .ok (.bipush 32, 2) := by decide +kernel
theorem dX11_one_221 : decode cX11_one 221 = .ok (.goto 4, 3) := by decide +kernel
theorem dX11_one_224 : decode cX11_one 224 = .ok (.iconst 0, 1) := by decide +kernel
theorem dX11_one_225 : decode cX11_one 225 = .ok (.ior, 1) := by decide +kernel
theorem dX11_one_226 : decode cX11_one 226 = .ok (.iconst 4, 1) := by decide +kernel
theorem dX11_one_227 : decode cX11_one 227 = .ok (.iload 8, 2) := by decide +kernel
theorem dX11_one_229 : decode cX11_one 229 = .ok (.invokevirtual 120, 3) := by decide +kernel
theorem dX11_one_232 : decode cX11_one 232 = .ok (.goto 109, 3) := by decide +kernel
theorem dX11_one_235 : decode cX11_one 235 = .ok (.iload 11, 2) := by decide +kernel
theorem dX11_one_237 : decode cX11_one 237 = .ok (.iconst (-1), 1) := by decide +kernel
theorem dX11_one_238 : decode cX11_one 238 = .ok (.if_icmp .eq 81, 3) := by decide +kernel
theorem dX11_one_241 : decode cX11_one 241 = .ok (.iload 11, 2) := by decide +kernel
theorem dX11_one_243 : decode cX11_one 243 = .ok (.aload_n 0, 1) := by decide +kernel
theorem dX11_one_244 : decode cX11_one 244 = .ok (.getfield 146, 3) := by decide +kernel
theorem dX11_one_247 : decode cX11_one 247 = .ok (.if_icmp .lt 7, 3) := by decide +kernel
theorem dX11_one_250 : decode cX11_one 250 = .ok (.iload_n 3, 1) := by decide +kernel
theorem dX11_one_251 : decode cX11_one 251 = .ok (.ifCond .eq 68, 3) := by decide +kernel
theorem dX11_one_254 : decode cX11_one 254 = .ok (.aload_n 0, 1) := by decide +kernel
theorem dX11_one_255 : decode cX11_one 255 = .ok (.iload 11, 2) := by decide +kernel
theorem dX11_one_257 : decode cX11_one 257 = .ok (.invokevirtual 174, 3) := by decide +kernel
theorem dX11_one_260 : decode cX11_one 260 = .ok (.iload 11, 2) := by decide +kernel
theorem dX11_one_262 : decode cX11_one 262 = .ok (.iload_n 2, 1) := by decide +kernel
theorem dX11_one_263 : decode cX11_one 263 = .ok (.if_icmp .ge 32, 3) := by decide +kernel
theorem dX11_one_266 : decode cX11_one 266 = .ok (.aload_n 0, 1) := by decide +kernel
theorem dX11_one_267 : decode cX11_one 267 = .ok (.iconst 2, 1) := by decide +kernel
theorem dX11_one_268 : decode cX11_one 268 = .ok (.bipush 64, 2) := by decide +kernel
theorem dX11_one_270 : decode cX11_one 270 = .ok (.iload 9, 2) := by decide +kernel
theorem dX11_one_272 : decode cX11_one 272 = .ok (.ifCond .eq 8, 3) := by decide +kernel
theorem dX11_one_275 : decode cX11_one 275 = .ok (.bipush 32, 2) := by decide +kernel
theorem dX11_one_277 : decode cX11_one 277 = .ok (.goto 4, 3) := by decide +kernel
theorem dX11_one_280 : decode cX11_one 280 = .ok (.iconst 0, 1) := by decide +kernel
theorem dX11_one_281 : decode cX11_one 281 = .ok (.ior, 1) := by decide +kernel
theorem dX11_one_282 : decode cX11_one 282 = .ok (.iconst 4, 1) := by decide +kernel
theorem dX11_one_283 : decode cX11_one 283 = .ok (.iload_n 2, 1) := by decide +kernel
theorem dX11_one_284 : decode cX11_one 284 = .ok (.iconst 1, 1) := by decide +kernel
theorem dX11_one_285 : decode cX11_one 285 = .ok (.isub, 1) := by decide +kernel
theorem dX11_one_286 : decode cX11_one 286 = .ok (.iload 11, 2) := by decide +kernel
theorem dX11_one_288 : decode cX11_one 288 = .ok (.isub, 1) := by decide +kernel
theorem dX11_one_289 : decode cX11_one 289 = .ok (.invokevirtual 120, 3) := by decide +kernel
theorem dX11_one_292 : decode cX11_one 292 = .ok (.goto 49, 3) := by decide +kernel
theorem dX11_one_295 : decode cX11_one 295 = .ok (.aload_n 0, 1) := by decide +kernel
theorem dX11_one_296 : decode cX11_one 296 = .ok (.iconst 2, 1) := by decide +kernel
theorem dX11_one_297 : decode cX11_one 297 = .ok (.iload 9, 2) := by decide +kernel
theorem dX11_one_299 : decode cX11_one 299 = .ok (.ifCond .eq 8, 3) := by decide +kernel
theorem dX11_one_302 : decode cX11_one 302 = .ok (.bipush 8, 2) := by decide +kernel
theorem dX11_one_304 : decode cX11_one 304 = .ok (.goto 4, 3) := by decide +kernel
theorem dX11_one_307 : decode cX11_one 307 = .ok (.iconst 0, 1) := by decide +kernel
theorem dX11_one_308 : decode cX11_one 308 = .ok (.iconst 3, 1) := by decide +kernel
theorem dX11_one_309 : decode cX11_one 309 = .ok (.iload 11, 2) := by decide +kernel
theorem dX11_one_311 : decode cX11_one 311 = .ok (.iload_n 2, 1) := by decide +kernel
theorem dX11_one_312 : decode cX11_one 312 = .ok (.isub, 1) := by decide +kernel
theorem dX11_one_313 : decode cX11_one 313 = .ok (.invokevirtual 120, 3) := by decide +kernel
theorem dX11_one_316 : decode cX11_one 316 = .ok (.goto 25, 3) := by decide +kernel
theorem dX11_one_319 : decode cX11_one 319 = .ok (.aload_n 0, 1) := by decide +kernel
theorem dX11_one_320 : decode cX11_one 320 = .ok (.iconst 2, 1) := by decide +kernel
theorem dX11_one_321 : decode cX11_one 321 = .ok (.bipush 32, 2) := by decide +kernel
theorem dX11_one_323 : decode cX11_one 323 = .ok (.iload 9, 2) := by decide +kernel
theorem dX11_one_325 : decode cX11_one 325 = .ok (.ifCond .eq 8, 3) := by decide +kernel
theorem dX11_one_328 : decode cX11_one 328 = .ok (.bipush 16, 2) := by decide +kernel
theorem dX11_one_330 : decode cX11_one 330 = .ok (.goto 4, 3) := by decide +kernel
theorem dX11_one_333 : decode cX11_one 333 = .ok (.iconst 0, 1) := by decide +kernel
theorem dX11_one_334 : decode cX11_one 334 = .ok (.ior, 1) := by decide +kernel
theorem dX11_one_335 : decode cX11_one 335 = .ok (.iconst 3, 1) := by decide +kernel
theorem dX11_one_336 : decode cX11_one 336 = .ok (.lload 4, 2) := by decide +kernel
theorem dX11_one_338 : decode cX11_one 338 = .ok (.invokevirtual 170, 3) := by decide +kernel
theorem dX11_one_341 : decode cX11_one 341 = .ok (.aload_n 0, 1) := by decide +kernel
theorem dX11_one_342 : decode cX11_one 342 = .ok (.iconst 2, 1) := by decide +kernel
theorem dX11_one_343 : decode cX11_one 343 = .ok (.iconst 0, 1) := by decide +kernel
theorem dX11_one_344 : decode cX11_one 344 = .ok (.bipush 7, 2) := by decide +kernel
theorem dX11_one_346 : decode cX11_one 346 = .ok (.lload 6, 2) := by decide +kernel
theorem dX11_one_348 : decode cX11_one 348 = .ok (.invokevirtual 170, 3) := by decide +kernel
theorem dX11_one_351 : decode cX11_one 351 = .ok (.return_, 1) := by decide +kernel
section RO
variable {G : fp_G} {h0 : fp_H} {m : Nat}
/-- the line by a name or by texts: from place 194 on -/
theorem w_lb {p : rs} {u v s base f : Nat} {risk : Bool} {o11 : Option Value} {o10 : Int32} (ok : rok p) (hu : u < 2 ^ 64) (hv : v < 2 ^ 64) (hs : s ≤ 1) (hb : base < 2 ^ 28) (hc : p.1 28 < 200) (h6 : p.1 6 ≤ 2400) (hr : p.2.1 20 (p.1 28) < 12) (hl : p.1 44 + 19 ≤ 400) (ho : ∀ w, o11 = some w → w.category = 1) :
    fp_wp G rm_X11_one M_X11_one 194 [some (.ref m), some (.int (nI f)), some (.int (nI base)), some (.int (nI (b2n risk))), some (.long (lN u)), none, some (.long (lN v)), none, some (.int (oI (fxn u))), some (.int (nI s)), some (.int o10), o11] [] (r_hp h0 m p) (fun r h' => r = none ∧ h' = r_hp h0 m (r_lb p u v s base risk)) := by
  have bu := bln_le u
  have bv := bln_le v
  have o12 := ok.1 12
  have e7 : (nb 0 7 (bln v)).length = 1 := nb_len1 (by omega)
  have hsv : s = 0 ∨ s = 1 := by omega
  -- the value behind it
  have tail : ∀ (p1 : rs) (o : Int32), p1.1 44 + 9 ≤ 400 → fp_wp G rm_X11_one M_X11_one 341 [some (.ref m), some (.int (nI f)), some (.int (nI base)), some (.int (nI (b2n risk))), some (.long (lN u)), none, some (.long (lN v)), none, some (.int (oI (fxn u))), some (.int (nI s)), some (.int o10), some (.int o)] [] (r_hp h0 m p1) (fun r h' => r = none ∧ h' = r_hp h0 m (r_lays p1 2 (nb 0 7 (bln v) ++ txb v))) := by
    intro p1 o hl1
    refine wp_aload_n dX11_one_341 rfl ?_
    refine wp_iconst (v := 2) dX11_one_342 rfl ?_
    refine wp_iconst (v := 0) dX11_one_343 rfl ?_
    refine wp_bipush (v := 7) dX11_one_344 rfl ?_
    refine wp_lload dX11_one_346 rfl ?_
    refine wp_callV (As := [.int (nI 2), .int (nI 0), .int (nI 7), .long (lN v)]) (rest := []) dX11_one_348 me_X11_text cw_X11_170 rfl ⟨(Nat.le_of_ble_eq_true rfl), (Nat.le_of_ble_eq_true rfl)⟩ rfl rfl rfl (Nat.le_of_ble_eq_true rfl) r_at_m (ct_text (by decide) (by decide) (by decide) hv (by rw [List.length_append, e7, txb_len]; show p1.1 44 + _ ≤ 400; omega)) (fun r h1 q => ?_)
    obtain ⟨rfl, rfl⟩ := q
    refine wp_vret dX11_one_351 rfl ?_
    exact ⟨rfl, rfl⟩
  -- by texts
  have texts : ∀ (o : Int32), fp_wp G rm_X11_one M_X11_one 319 [some (.ref m), some (.int (nI f)), some (.int (nI base)), some (.int (nI (b2n risk))), some (.long (lN u)), none, some (.long (lN v)), none, some (.int (oI (fxn u))), some (.int (nI s)), some (.int o10), some (.int o)] [] (r_hp h0 m p) (fun r h' => r = none ∧ h' = r_hp h0 m (r_lays (r_lays p 2 (nb (32 + 16 * s) 3 (bln u) ++ txb u)) 2 (nb 0 7 (bln v) ++ txb v))) := by
    intro o
    have hn3 := nb_len3 (F := 32 + 16 * s) bu
    have key : ∀ F : Nat, F = 32 + 16 * s → fp_wp G rm_X11_one M_X11_one 335 [some (.ref m), some (.int (nI f)), some (.int (nI base)), some (.int (nI (b2n risk))), some (.long (lN u)), none, some (.long (lN v)), none, some (.int (oI (fxn u))), some (.int (nI s)), some (.int o10), some (.int o)] [.int (nI F), .int (nI 2), .ref m] (r_hp h0 m p) (fun r h' => r = none ∧ h' = r_hp h0 m (r_lays (r_lays p 2 (nb (32 + 16 * s) 3 (bln u) ++ txb u)) 2 (nb 0 7 (bln v) ++ txb v))) := by
      intro F hF
      subst hF
      have hlen : (nb (32 + 16 * s) 3 (bln u) ++ txb u).length ≤ 10 := by rw [List.length_append, txb_len]; omega
      refine wp_iconst (v := 3) dX11_one_335 rfl ?_
      refine wp_lload dX11_one_336 rfl ?_
      refine wp_callV (As := [.int (nI 2), .int (nI (32 + 16 * s)), .int (nI 3), .long (lN u)]) (rest := []) dX11_one_338 me_X11_text cw_X11_170 rfl ⟨(Nat.le_of_ble_eq_true rfl), (Nat.le_of_ble_eq_true rfl)⟩ rfl rfl rfl (Nat.le_of_ble_eq_true rfl) r_at_m (ct_text (by decide) (by decide) (by rcases hsv with rfl | rfl <;> decide) hu (by show p.1 44 + _ ≤ 400; omega)) (fun r h1 q => ?_)
      obtain ⟨rfl, rfl⟩ := q
      refine tail _ o ?_
      have := r_lays_c 2 (nb (32 + 16 * s) 3 (bln u) ++ txb u) p
      rw [show r_wc 2 = 44 from rfl] at this
      omega
    refine wp_aload_n dX11_one_319 rfl ?_
    refine wp_iconst (v := 2) dX11_one_320 rfl ?_
    refine wp_bipush (v := 32) dX11_one_321 rfl ?_
    refine wp_iload dX11_one_323 rfl ?_
    refine wp_if_eq (tgt := 333) dX11_one_325 rfl (fun c_325 => ?_) (fun c_325 => ?_)
    · have : s = 0 := (nI_eq (b := 0) (by omega) (by decide)).mp c_325
      refine wp_iconst (v := 0) dX11_one_333 rfl ?_
      refine wp_ior dX11_one_334 ?_
      rw [show (32 : Int32) ||| 0 = nI 32 by decide]
      exact key 32 (by omega)
    · have : s = 1 := by
        rcases hsv with q | q
        · exact absurd (by rw [q]; rfl) c_325
        · exact q
      refine wp_bipush (v := 16) dX11_one_328 rfl ?_
      refine wp_goto (tgt := 334) dX11_one_330 rfl ?_
      refine wp_ior dX11_one_334 ?_
      rw [show (32 : Int32) ||| 16 = nI 48 by decide]
      exact key 48 (by omega)
  refine wp_aload_n dX11_one_194 rfl ?_
  refine wp_lload dX11_one_195 rfl ?_
  refine wp_lconst (v := 0) dX11_one_197 rfl ?_
  refine wp_iconst (v := 0) dX11_one_198 rfl ?_
  refine wp_callV (As := [.long (lN u), .long (lN 0), .int (nI (b2n false))]) (rest := []) dX11_one_199 me_X11_last cw_X11_166 rfl ⟨(Nat.le_of_ble_eq_true rfl), (Nat.le_of_ble_eq_true rfl)⟩ rfl rfl rfl (Nat.le_of_ble_eq_true rfl) r_at_m (ct_last ok hu (by decide) h6) (fun r h1 q => ?_)
  obtain ⟨rfl, rfl⟩ := q
  refine wp_istore dX11_one_202 (Nat.le_of_ble_eq_true rfl) rfl ?_
  refine wp_iload dX11_one_204 rfl ?_
  refine wp_iconst (v := (-1)) dX11_one_206 rfl ?_
  refine wp_icmp_eq (tgt := 235) dX11_one_207 rfl (fun c_207 => ?_) (fun c_207 => ?_)
  · have hx : fxn u = none := by
      cases hx : fxn u with
      | none => rfl
      | some k => rw [hx] at c_207; exact absurd c_207 (nI_m1 (by have := (fxn_some hx).1; omega))
    have hrl : r_lb p u v s base risk = r_lays (match r_last p u 0 false with
      | some j => if j < p.1 12 ∨ risk = true then r_lays (r_ref p j) 2 (if j < base then nb (64 + 32 * s) 4 (base - 1 - j) else nb (8 * s) 3 (j - base)) else r_lays p 2 (nb (32 + 16 * s) 3 (bln u) ++ txb u)
      | none => r_lays p 2 (nb (32 + 16 * s) 3 (bln u) ++ txb u)) 2 (nb 0 7 (bln v) ++ txb v) := by rw [r_lb, hx]
    rw [hrl]
    cases hj : r_last p u 0 false with
    | none =>
      refine wp_iload dX11_one_235 rfl ?_
      refine wp_iconst (v := (-1)) dX11_one_237 rfl ?_
      refine wp_icmp_eq (tgt := 319) dX11_one_238 rfl (fun c_238 => ?_) (fun c_238 => ?_)
      · exact texts _
      · exact absurd rfl c_238
    | some j =>
      have hjc := (r_lastTo_some hj).1
      rw [show oI (some j) = nI j from rfl]
      -- by the name of entry j
      have byName : j < p.1 12 ∨ risk = true → fp_wp G rm_X11_one M_X11_one 254 [some (.ref m), some (.int (nI f)), some (.int (nI base)), some (.int (nI (b2n risk))), some (.long (lN u)), none, some (.long (lN v)), none, some (.int (oI (fxn u))), some (.int (nI s)), some (.int o10), some (.int (nI j))] [] (r_hp h0 m p) (fun r h' => r = none ∧ h' = r_hp h0 m (r_lays (if j < p.1 12 ∨ risk = true then r_lays (r_ref p j) 2 (if j < base then nb (64 + 32 * s) 4 (base - 1 - j) else nb (8 * s) 3 (j - base)) else r_lays p 2 (nb (32 + 16 * s) 3 (bln u) ++ txb u)) 2 (nb 0 7 (bln v) ++ txb v))) := by
        intro hk
        rw [if_pos hk]
        refine wp_aload_n dX11_one_254 rfl ?_
        refine wp_iload dX11_one_255 rfl ?_
        refine wp_callV (As := [.int (nI j)]) (rest := []) dX11_one_257 me_X11_refer cw_X11_174 rfl ⟨(Nat.le_of_ble_eq_true rfl), (Nat.le_of_ble_eq_true rfl)⟩ rfl rfl rfl (Nat.le_of_ble_eq_true rfl) r_at_m (ct_refer ok (by omega) hc hr) (fun r h1 q => ?_)
        obtain ⟨rfl, rfl⟩ := q
        have hl44 : (r_ref p j).1 44 = p.1 44 := rfl
        have after : ∀ l : List Nat, l.length ≤ 6 → (r_lays (r_ref p j) 2 l).1 44 + 9 ≤ 400 := by
          intro l hlen
          have := r_lays_c 2 l (r_ref p j)
          rw [show r_wc 2 = 44 from rfl] at this
          omega
        refine wp_iload dX11_one_260 rfl ?_
        refine wp_iload_n dX11_one_262 rfl ?_
        refine wp_icmp_ge (tgt := 295) dX11_one_263 rfl (fun c_263 => ?_) (fun c_263 => ?_)
        · have hge : base ≤ j := (nI_leI (by omega) (by omega)).mp c_263
          rw [if_neg (show ¬ j < base by omega)]
          refine wp_aload_n dX11_one_295 rfl ?_
          refine wp_iconst (v := 2) dX11_one_296 rfl ?_
          refine wp_iload dX11_one_297 rfl ?_
          refine wp_if_eq (tgt := 307) dX11_one_299 rfl (fun c_299 => ?_) (fun c_299 => ?_)
          · have : s = 0 := (nI_eq (b := 0) (by omega) (by decide)).mp c_299
            subst this
            refine wp_iconst (v := 0) dX11_one_307 rfl ?_
            refine wp_iconst (v := 3) dX11_one_308 rfl ?_
            refine wp_iload dX11_one_309 rfl ?_
            refine wp_iload_n dX11_one_311 rfl ?_
            refine wp_isub dX11_one_312 ?_
            rw [pk_sub hge]
            refine wp_callV (As := [.int (nI 2), .int (nI 0), .int (nI 3), .int (nI (j - base))]) (rest := []) dX11_one_313 me_X11_number cw_X11_120 rfl ⟨(Nat.le_of_ble_eq_true rfl), (Nat.le_of_ble_eq_true rfl)⟩ rfl rfl rfl (Nat.le_of_ble_eq_true rfl) r_at_m (ct_number (by decide) (by decide) (by decide) (by omega) (by have := nb_len 0 3 (j - base); show (r_ref p j).1 44 + _ ≤ 400; omega)) (fun r h1 q => ?_)
            obtain ⟨rfl, rfl⟩ := q
            refine wp_goto (tgt := 341) dX11_one_316 rfl ?_
            exact tail _ _ (after _ (nb_len _ _ _))
          · have : s = 1 := by
              rcases hsv with q | q
              · exact absurd (by rw [q]; rfl) c_299
              · exact q
            subst this
            refine wp_bipush (v := 8) dX11_one_302 rfl ?_
            refine wp_goto (tgt := 308) dX11_one_304 rfl ?_
            refine wp_iconst (v := 3) dX11_one_308 rfl ?_
            refine wp_iload dX11_one_309 rfl ?_
            refine wp_iload_n dX11_one_311 rfl ?_
            refine wp_isub dX11_one_312 ?_
            rw [pk_sub hge]
            refine wp_callV (As := [.int (nI 2), .int (nI 8), .int (nI 3), .int (nI (j - base))]) (rest := []) dX11_one_313 me_X11_number cw_X11_120 rfl ⟨(Nat.le_of_ble_eq_true rfl), (Nat.le_of_ble_eq_true rfl)⟩ rfl rfl rfl (Nat.le_of_ble_eq_true rfl) r_at_m (ct_number (by decide) (by decide) (by decide) (by omega) (by have := nb_len 8 3 (j - base); show (r_ref p j).1 44 + _ ≤ 400; omega)) (fun r h1 q => ?_)
            obtain ⟨rfl, rfl⟩ := q
            refine wp_goto (tgt := 341) dX11_one_316 rfl ?_
            exact tail _ _ (after _ (nb_len _ _ _))
        · have hlt : j < base := by
            rcases Nat.lt_or_ge j base with q | q
            · exact q
            · exact absurd (nI_le q (by omega)) c_263
          rw [if_pos hlt]
          refine wp_aload_n dX11_one_266 rfl ?_
          refine wp_iconst (v := 2) dX11_one_267 rfl ?_
          refine wp_bipush (v := 64) dX11_one_268 rfl ?_
          refine wp_iload dX11_one_270 rfl ?_
          refine wp_if_eq (tgt := 280) dX11_one_272 rfl (fun c_272 => ?_) (fun c_272 => ?_)
          · have : s = 0 := (nI_eq (b := 0) (by omega) (by decide)).mp c_272
            subst this
            refine wp_iconst (v := 0) dX11_one_280 rfl ?_
            refine wp_ior dX11_one_281 ?_
            refine wp_iconst (v := 4) dX11_one_282 rfl ?_
            refine wp_iload_n dX11_one_283 rfl ?_
            refine wp_iconst (v := 1) dX11_one_284 rfl ?_
            refine wp_isub dX11_one_285 ?_
            refine wp_iload dX11_one_286 rfl ?_
            refine wp_isub dX11_one_288 ?_
            rw [show (64 : Int32) ||| 0 = nI 64 by decide, nI_sub1 (by omega), pk_sub (show j ≤ base - 1 by omega)]
            refine wp_callV (As := [.int (nI 2), .int (nI 64), .int (nI 4), .int (nI (base - 1 - j))]) (rest := []) dX11_one_289 me_X11_number cw_X11_120 rfl ⟨(Nat.le_of_ble_eq_true rfl), (Nat.le_of_ble_eq_true rfl)⟩ rfl rfl rfl (Nat.le_of_ble_eq_true rfl) r_at_m (ct_number (by decide) (by decide) (by decide) (by omega) (by have := nb_len 64 4 (base - 1 - j); show (r_ref p j).1 44 + _ ≤ 400; omega)) (fun r h1 q => ?_)
            obtain ⟨rfl, rfl⟩ := q
            refine wp_goto (tgt := 341) dX11_one_292 rfl ?_
            exact tail _ _ (after _ (nb_len _ _ _))
          · have : s = 1 := by
              rcases hsv with q | q
              · exact absurd (by rw [q]; rfl) c_272
              · exact q
            subst this
            refine wp_bipush (v := 32) dX11_one_275 rfl ?_
            refine wp_goto (tgt := 281) dX11_one_277 rfl ?_
            refine wp_ior dX11_one_281 ?_
            refine wp_iconst (v := 4) dX11_one_282 rfl ?_
            refine wp_iload_n dX11_one_283 rfl ?_
            refine wp_iconst (v := 1) dX11_one_284 rfl ?_
            refine wp_isub dX11_one_285 ?_
            refine wp_iload dX11_one_286 rfl ?_
            refine wp_isub dX11_one_288 ?_
            rw [show (64 : Int32) ||| 32 = nI 96 by decide, nI_sub1 (by omega), pk_sub (show j ≤ base - 1 by omega)]
            refine wp_callV (As := [.int (nI 2), .int (nI 96), .int (nI 4), .int (nI (base - 1 - j))]) (rest := []) dX11_one_289 me_X11_number cw_X11_120 rfl ⟨(Nat.le_of_ble_eq_true rfl), (Nat.le_of_ble_eq_true rfl)⟩ rfl rfl rfl (Nat.le_of_ble_eq_true rfl) r_at_m (ct_number (by decide) (by decide) (by decide) (by omega) (by have := nb_len 96 4 (base - 1 - j); show (r_ref p j).1 44 + _ ≤ 400; omega)) (fun r h1 q => ?_)
            obtain ⟨rfl, rfl⟩ := q
            refine wp_goto (tgt := 341) dX11_one_292 rfl ?_
            exact tail _ _ (after _ (nb_len _ _ _))
      refine wp_iload dX11_one_235 rfl ?_
      refine wp_iconst (v := (-1)) dX11_one_237 rfl ?_
      refine wp_icmp_eq (tgt := 319) dX11_one_238 rfl (fun c_238 => ?_) (fun c_238 => ?_)
      · exact absurd c_238 (nI_m1 (by omega))
      · refine wp_iload dX11_one_241 rfl ?_
        refine wp_aload_n dX11_one_243 rfl ?_
        refine wr_geti 12 dX11_one_244 fl_X11_146 ⟨by decide, rfl⟩ ?_
        refine wp_icmp_lt (tgt := 254) dX11_one_247 rfl (fun c_247 => ?_) (fun c_247 => ?_)
        · exact byName (Or.inl ((nI_ltI (by omega) (by omega)).mp c_247))
        · have hnk : ¬ j < p.1 12 := fun z => c_247 (nI_lt z (by omega))
          refine wp_iload_n dX11_one_250 rfl ?_
          refine wp_if_eq (tgt := 319) dX11_one_251 rfl (fun c_251 => ?_) (fun c_251 => ?_)
          · have : risk = false := b2n_0.mp c_251
            simp only
            rw [if_neg (by simp [hnk, this])]
            exact texts _
          · have : risk = true := by cases risk with | true => rfl | false => exact absurd rfl c_251
            exact byName (Or.inr this)
  · cases hx : fxn u with
    | none => rw [hx] at c_207; exact absurd rfl c_207
    | some k =>
      have hk := (fxn_some hx).1
      have hrl : r_lb p u v s base risk = r_lays (r_lays p 2 (nb (80 + 32 * s) 4 k)) 2 (nb 0 7 (bln v) ++ txb v) := by rw [r_lb, hx]
      rw [hrl]
      rw [hx] at tail
      have after : (r_lays p 2 (nb (80 + 32 * s) 4 k)).1 44 + 9 ≤ 400 := by
        have := r_lays_c 2 (nb (80 + 32 * s) 4 k) p
        rw [show r_wc 2 = 44 from rfl] at this
        have := nb_len (80 + 32 * s) 4 k
        omega
      have hln := nb_len (80 + 32 * s) 4 k
      refine wp_aload_n dX11_one_210 rfl ?_
      refine wp_iconst (v := 2) dX11_one_211 rfl ?_
      refine wp_bipush (v := 80) dX11_one_212 rfl ?_
      refine wp_iload dX11_one_214 rfl ?_
      refine wp_if_eq (tgt := 224) dX11_one_216 rfl (fun c_216 => ?_) (fun c_216 => ?_)
      · have : s = 0 := (nI_eq (b := 0) (by omega) (by decide)).mp c_216
        subst this
        refine wp_iconst (v := 0) dX11_one_224 rfl ?_
        refine wp_ior dX11_one_225 ?_
        refine wp_iconst (v := 4) dX11_one_226 rfl ?_
        refine wp_iload dX11_one_227 rfl ?_
        rw [show (80 : Int32) ||| 0 = nI 80 by decide, show oI (some k) = nI k from rfl]
        refine wp_callV (As := [.int (nI 2), .int (nI 80), .int (nI 4), .int (nI k)]) (rest := []) dX11_one_229 me_X11_number cw_X11_120 rfl ⟨(Nat.le_of_ble_eq_true rfl), (Nat.le_of_ble_eq_true rfl)⟩ rfl rfl rfl (Nat.le_of_ble_eq_true rfl) r_at_m (ct_number (by decide) (by decide) (by decide) (by omega) (by have := nb_len 80 4 k; show p.1 44 + _ ≤ 400; omega)) (fun r h1 q => ?_)
        obtain ⟨rfl, rfl⟩ := q
        refine wp_goto (tgt := 341) dX11_one_232 rfl ?_
        exact tail _ _ after
      · have : s = 1 := by
          rcases hsv with q | q
          · exact absurd (by rw [q]; rfl) c_216
          · exact q
        subst this
        refine wp_bipush (v := 32) dX11_one_219 rfl ?_
        refine wp_goto (tgt := 225) dX11_one_221 rfl ?_
        refine wp_ior dX11_one_225 ?_
        refine wp_iconst (v := 4) dX11_one_226 rfl ?_
        refine wp_iload dX11_one_227 rfl ?_
        rw [show (80 : Int32) ||| 32 = nI 112 by decide, show oI (some k) = nI k from rfl]
        refine wp_callV (As := [.int (nI 2), .int (nI 112), .int (nI 4), .int (nI k)]) (rest := []) dX11_one_229 me_X11_number cw_X11_120 rfl ⟨(Nat.le_of_ble_eq_true rfl), (Nat.le_of_ble_eq_true rfl)⟩ rfl rfl rfl (Nat.le_of_ble_eq_true rfl) r_at_m (ct_number (by decide) (by decide) (by decide) (by omega) (by have := nb_len 112 4 k; show p.1 44 + _ ≤ 400; omega)) (fun r h1 q => ?_)
        obtain ⟨rfl, rfl⟩ := q
        refine wp_goto (tgt := 341) dX11_one_232 rfl ?_
        exact tail _ _ after
theorem r_ins_k {p : rs} {u v k : Nat} (h6 : k ≠ 6) (h10 : k ≠ 10) (h11 : k ≠ 11) (h13 : k ≠ 13) : (r_ins p u v).1 k = p.1 k := by
  have e : (r_ins p u v).1 k = (r_ev (r_lays p 0 (r_ib p u v)) (32 + bln u + bln v) (p.1 6 - p.1 10)).1 k := by simp [r_ins, r_app, r_si, r_sa, r_sl, h6, h11]
  rw [e, r_ev_k h10 h11, r_lays_k (show k ≠ r_wc 0 from h13)]
theorem r_ins_a {p : rs} {u v j : Nat} (h5 : j ≠ 5) (h6 : j ≠ 6) : (r_ins p u v).2.1 j = p.2.1 j := by
  have e : (r_ins p u v).2.1 j = (r_ev (r_lays p 0 (r_ib p u v)) (32 + bln u + bln v) (p.1 6 - p.1 10)).2.1 j := by
    funext i
    simp [r_ins, r_app, r_si, r_sa, r_sl, h5]
  rw [e, r_ev_a, r_lays_a (show j ≠ r_wa 0 from h6)]
theorem r_ins_6 {p : rs} {u v : Nat} : (r_ins p u v).1 6 = p.1 6 + 1 := by
  have e : (r_ins p u v).1 6 = (r_ev (r_lays p 0 (r_ib p u v)) (32 + bln u + bln v) (p.1 6 - p.1 10)).1 6 + 1 := by simp [r_ins, r_app, r_si, r_sa, r_sl]
  rw [e, r_ev_k (by decide) (by decide), r_lays_k (by decide)]
set_option maxHeartbeats 4000000 in
theorem ct_one {p : rs} {f base : Nat} {risk : Bool} (ok : rok p) (hf : f < 12) (hb : base < 2 ^ 28) (hc : p.1 28 < 200) (hrc : ∀ k, k < 200 → p.2.1 20 k ≤ 12) (hr : p.2.1 20 (p.1 28) < 12) (h10 : p.1 10 ≤ p.1 6) (h6 : p.1 6 < 2400) (h11 : p.1 11 = r_sum p (p.1 10) (p.1 6 - p.1 10)) (ht : p.1 11 ≤ 1000) (hs : p.1 13 + 18 ≤ 60000) (hl : p.1 44 + 19 ≤ 400) (hsen : p.2.1 2 f ≤ 1) :
    fp_ct G rm_X11_one M_X11_one [.ref m, .int (nI f), .int (nI base), .int (nI (b2n risk))] (r_hp h0 m p) (fun r h' => r = none ∧ h' = r_hp h0 m (r_one p f base risk)) := by
  have hu := ok.2.2 0 f
  have hv := ok.2.2 1 f
  have o12 := ok.1 12
  refine fp_meth pn_X11 (Nat.le_of_ble_eq_true rfl) rfl ?_
  refine wp_aload_n dX11_one_0 rfl ?_
  refine wr_geta 3 0 dX11_one_1 fl_X11_7 ⟨by decide, rfl⟩ ?_
  refine wp_iload_n dX11_one_4 rfl ?_
  refine wr_lald dX11_one_5 ⟨by decide, rfl⟩ rfl hf (by decide) ?_
  refine wp_lstore dX11_one_6 (Nat.le_of_ble_eq_true rfl) rfl ?_
  refine wp_aload_n dX11_one_8 rfl ?_
  refine wr_geta 4 1 dX11_one_9 fl_X11_13 ⟨by decide, rfl⟩ ?_
  refine wp_iload_n dX11_one_12 rfl ?_
  refine wr_lald dX11_one_13 ⟨by decide, rfl⟩ rfl hf (by decide) ?_
  refine wp_lstore dX11_one_14 (Nat.le_of_ble_eq_true rfl) rfl ?_
  refine wp_lload dX11_one_16 rfl ?_
  refine wp_callS (As := [.long (lN (p.2.2 0 f))]) (rest := []) dX11_one_18 me_X11_fixedName cw_X11_163 ⟨(Nat.le_of_ble_eq_true rfl), (Nat.le_of_ble_eq_true rfl)⟩ rfl rfl rfl (Nat.le_of_ble_eq_true rfl) (ct_fixedName hu) (fun r h1 q => ?_)
  obtain ⟨rfl, rfl⟩ := q
  refine wp_istore dX11_one_21 (Nat.le_of_ble_eq_true rfl) rfl ?_
  refine wp_aload_n dX11_one_23 rfl ?_
  refine wr_geta 5 2 dX11_one_24 fl_X11_16 ⟨by decide, rfl⟩ ?_
  refine wp_iload_n dX11_one_27 rfl ?_
  refine wr_zald dX11_one_28 ⟨by decide, rfl⟩ rfl hf (by decide) ?_
  refine wp_istore dX11_one_29 (Nat.le_of_ble_eq_true rfl) rfl ?_
  refine wp_bipush (v := 12) dX11_one_31 rfl ?_
  refine wp_aload_n dX11_one_33 rfl ?_
  refine wr_geti 28 dX11_one_34 fl_X11_143 ⟨by decide, rfl⟩ ?_
  refine wp_imul dX11_one_37 ?_
  refine wp_iload_n dX11_one_38 rfl ?_
  refine wp_iadd dX11_one_39 ?_
  rw [show (12 : Int32) * nI (p.1 28) + nI f = nI (12 * p.1 28 + f) by rw [show (12 : Int32) * nI (p.1 28) = nI (12 * p.1 28) from pk_mul 12 _, nI_add]]
  refine wp_istore dX11_one_40 (Nat.le_of_ble_eq_true rfl) rfl ?_
  refine wp_aload_n dX11_one_42 rfl ?_
  refine wr_geta 34 16 dX11_one_43 fl_X11_61 ⟨by decide, rfl⟩ ?_
  refine wp_iload dX11_one_46 rfl ?_
  refine wp_lload dX11_one_48 rfl ?_
  refine wr_last dX11_one_50 ⟨by decide, rfl⟩ rfl (by show 12 * p.1 28 + f < 2400; omega) (by decide) rfl ?_
  refine wp_aload_n dX11_one_51 rfl ?_
  refine wr_geta 35 17 dX11_one_52 fl_X11_64 ⟨by decide, rfl⟩ ?_
  refine wp_iload dX11_one_55 rfl ?_
  refine wp_lload dX11_one_57 rfl ?_
  refine wr_last dX11_one_59 ⟨by decide, rfl⟩ rfl (by show 12 * p.1 28 + f < 2400; omega) (by decide) rfl ?_
  refine wp_aload_n dX11_one_60 rfl ?_
  refine wr_geta 36 18 dX11_one_61 fl_X11_67 ⟨by decide, rfl⟩ ?_
  refine wp_iload dX11_one_64 rfl ?_
  refine wp_iload dX11_one_66 rfl ?_
  refine wr_zast dX11_one_68 ⟨by decide, rfl⟩ rfl (by show 12 * p.1 28 + f < 2400; omega) (by decide) rfl hsen ?_
  have okp : rok (r_says p f) := ((ok.sl hu).sl hv).sa (by omega)
  have hs1 : (r_says p f).1 = p.1 := rfl
  have hs20 : (r_says p f).2.1 20 = p.2.1 20 := by funext i; simp [r_says, r_sa, r_sl]
  have hsum : r_sum (r_says p f) (p.1 10) (p.1 6 - p.1 10) = r_sum p (p.1 10) (p.1 6 - p.1 10) := by
    have : ∀ n a : Nat, r_sum (r_says p f) a n = r_sum p a n := by
      intro n
      induction n with
      | zero => intro a; rfl
      | succ n ih =>
        intro a
        rw [r_sum, r_sum, ih]
        simp [r_sz, r_says, r_sa, r_sl]
    exact this _ _
  have hpe : r_sa (r_sl (r_sl p 16 (12 * p.1 28 + f) (p.2.2 0 f)) 17 (12 * p.1 28 + f) (p.2.2 1 f)) 18 (12 * p.1 28 + f) (p.2.1 2 f) = r_says p f := rfl
  generalize hu0 : p.2.2 0 f = u at *
  generalize hv0 : p.2.2 1 f = v at *
  generalize hse : p.2.1 2 f = sn at *
  have hone : r_one p f base risk = if r_fixed u v = true then r_lays (r_sa (r_says p f) 18 (12 * p.1 28 + f) 0) 2 (nb 192 6 (u - 97)) else if sn = 0 then r_oneV (r_says p f) u v base risk else r_lb (r_says p f) u v 1 base risk := by rw [r_one, hu0, hv0, hse]
  rw [hone]
  -- no line of the fixed table
  have rest : r_fixed u v = false → fp_wp G rm_X11_one M_X11_one 107 [some (.ref m), some (.int (nI f)), some (.int (nI base)), some (.int (nI (b2n risk))), some (.long (lN u)), none, some (.long (lN v)), none, some (.int (oI (fxn u))), some (.int (nI sn)), some (.int (nI (12 * p.1 28 + f))), none] [] (r_hp h0 m (r_says p f)) (fun r h' => r = none ∧ h' = r_hp h0 m (if r_fixed u v = true then r_lays (r_sa (r_says p f) 18 (12 * p.1 28 + f) 0) 2 (nb 192 6 (u - 97)) else if sn = 0 then r_oneV (r_says p f) u v base risk else r_lb (r_says p f) u v 1 base risk)) := by
    intro hfx
    rw [hfx, if_neg (by decide)]
    refine wp_iload dX11_one_107 rfl ?_
    refine wp_if_ne (tgt := 194) dX11_one_109 rfl (fun c_109 => ?_) (fun c_109 => ?_)
    · have hsn : sn ≠ 0 := fun e => c_109 (by rw [e]; rfl)
      have h1 : sn = 1 := by omega
      subst h1
      rw [if_neg (by decide)]
      exact w_lb okp hu hv (by decide) hb (by rw [hs1]; exact hc) (by rw [hs1]; omega) (by rw [hs1, hs20]; exact hr) (by rw [hs1]; exact hl) (fun w e => by cases e)
    · have hsn : sn = 0 := (nI_eq (b := 0) (by omega) (by decide)).mp c_109
      subst hsn
      rw [if_pos rfl]
      have lb : ∀ (o : Int32), fp_wp G rm_X11_one M_X11_one 194 [some (.ref m), some (.int (nI f)), some (.int (nI base)), some (.int (nI (b2n risk))), some (.long (lN u)), none, some (.long (lN v)), none, some (.int (oI (fxn u))), some (.int (nI 0)), some (.int (nI (12 * p.1 28 + f))), some (.int o)] [] (r_hp h0 m (r_says p f)) (fun r h' => r = none ∧ h' = r_hp h0 m (r_lb (r_says p f) u v 0 base risk)) := fun o =>
        w_lb okp hu hv (by decide) hb (by rw [hs1]; exact hc) (by rw [hs1]; omega) (by rw [hs1, hs20]; exact hr) (by rw [hs1]; exact hl) (fun w e => by cases e; rfl)
      refine wp_aload_n dX11_one_112 rfl ?_
      refine wp_lload dX11_one_113 rfl ?_
      refine wp_lload dX11_one_115 rfl ?_
      refine wp_iconst (v := 1) dX11_one_117 rfl ?_
      refine wp_callV (As := [.long (lN u), .long (lN v), .int (nI (b2n true))]) (rest := []) dX11_one_118 me_X11_last cw_X11_166 rfl ⟨(Nat.le_of_ble_eq_true rfl), (Nat.le_of_ble_eq_true rfl)⟩ rfl rfl rfl (Nat.le_of_ble_eq_true rfl) r_at_m (ct_last okp hu hv (by rw [hs1]; omega)) (fun r h1 q => ?_)
      obtain ⟨rfl, rfl⟩ := q
      refine wp_istore dX11_one_121 (Nat.le_of_ble_eq_true rfl) rfl ?_
      cases hj : r_last (r_says p f) u v true with
      | some j =>
        have hjc := (r_lastTo_some hj).1
        rw [hs1] at hjc
        have hrv : r_oneV (r_says p f) u v base risk = if j < p.1 12 ∨ risk = true then r_whole (r_says p f) j base else r_lb (r_says p f) u v 0 base risk := by rw [r_oneV, hj]; rfl
        rw [hrv, show oI (some j) = nI j from rfl]
        have wh : (j < p.1 12 ∨ risk = true) → fp_wp G rm_X11_one M_X11_one 142 [some (.ref m), some (.int (nI f)), some (.int (nI base)), some (.int (nI (b2n risk))), some (.long (lN u)), none, some (.long (lN v)), none, some (.int (oI (fxn u))), some (.int (nI 0)), some (.int (nI (12 * p.1 28 + f))), some (.int (nI j))] [] (r_hp h0 m (r_says p f)) (fun r h' => r = none ∧ h' = r_hp h0 m (if j < p.1 12 ∨ risk = true then r_whole (r_says p f) j base else r_lb (r_says p f) u v 0 base risk)) := by
          intro hk
          rw [if_pos hk]
          have hwl : (r_wb j base).length ≤ 6 := by unfold r_wb; split <;> exact nb_len _ _ _
          refine wp_aload_n dX11_one_142 rfl ?_
          refine wp_iload dX11_one_143 rfl ?_
          refine wp_iload_n dX11_one_145 rfl ?_
          refine wp_callV (As := [.int (nI j), .int (nI base)]) (rest := []) dX11_one_146 me_X11_whole cw_X11_182 rfl ⟨(Nat.le_of_ble_eq_true rfl), (Nat.le_of_ble_eq_true rfl)⟩ rfl rfl rfl (Nat.le_of_ble_eq_true rfl) r_at_m (ct_whole okp (by omega) (by omega) (by rw [hs1]; exact hc) (by rw [hs1, hs20]; exact hr) (by rw [hs1]; omega)) (fun r h1 q => ?_)
          obtain ⟨rfl, rfl⟩ := q
          refine wp_vret dX11_one_149 rfl ?_
          exact ⟨rfl, rfl⟩
        refine wp_iload dX11_one_123 rfl ?_
        refine wp_iconst (v := (-1)) dX11_one_125 rfl ?_
        refine wp_icmp_eq (tgt := 150) dX11_one_126 rfl (fun c_126 => ?_) (fun c_126 => ?_)
        · exact absurd c_126 (nI_m1 (by omega))
        · refine wp_iload dX11_one_129 rfl ?_
          refine wp_aload_n dX11_one_131 rfl ?_
          refine wr_geti 12 dX11_one_132 fl_X11_146 ⟨by decide, rfl⟩ ?_
          refine wp_icmp_lt (tgt := 142) dX11_one_135 rfl (fun c_135 => ?_) (fun c_135 => ?_)
          · exact wh (Or.inl ((nI_ltI (by omega) (show p.1 12 < 2 ^ 31 by omega)).mp c_135))
          · have hnk : ¬ j < p.1 12 := fun z => c_135 (nI_lt (b := p.1 12) z (by omega))
            refine wp_iload_n dX11_one_138 rfl ?_
            refine wp_if_eq (tgt := 150) dX11_one_139 rfl (fun c_139 => ?_) (fun c_139 => ?_)
            · have hrk : risk = false := b2n_0.mp c_139
              rw [if_neg (by simp [hnk, hrk])]
              refine wp_iload dX11_one_150 rfl ?_
              refine wp_iconst (v := (-1)) dX11_one_152 rfl ?_
              refine wp_icmp_ne (tgt := 194) dX11_one_153 rfl (fun c_153 => ?_) (fun c_153 => ?_)
              · exact lb _
              · exact absurd c_153 (nI_m1 (by omega))
            · exact wh (Or.inr (by cases risk with | true => rfl | false => exact absurd rfl c_139))
      | none =>
        have hrv : r_oneV (r_says p f) u v base risk = if r_may (r_says p f) (32 + bln u + bln v) = true then (if risk = true then r_whole (r_ins (r_says p f) u v) (p.1 6) base else r_lb (r_ins (r_says p f) u v) u v 0 base risk) else r_lb (r_says p f) u v 0 base risk := by rw [r_oneV, hj]; rfl
        rw [hrv, show oI none = -1 from rfl]
        refine wp_iload dX11_one_123 rfl ?_
        refine wp_iconst (v := (-1)) dX11_one_125 rfl ?_
        refine wp_icmp_eq (tgt := 150) dX11_one_126 rfl (fun c_126 => ?_) (fun c_126 => ?_)
        · refine wp_iload dX11_one_150 rfl ?_
          refine wp_iconst (v := (-1)) dX11_one_152 rfl ?_
          refine wp_icmp_ne (tgt := 194) dX11_one_153 rfl (fun c_153 => ?_) (fun c_153 => ?_)
          · exact absurd rfl c_153
          · refine wp_aload_n dX11_one_156 rfl ?_
            refine wp_lload dX11_one_157 rfl ?_
            refine wp_lload dX11_one_159 rfl ?_
            refine wp_callS (As := [.long (lN u), .long (lN v)]) (rest := [.ref m]) dX11_one_161 me_X11_sizeOf cw_X11_159 ⟨(Nat.le_of_ble_eq_true rfl), (Nat.le_of_ble_eq_true rfl)⟩ rfl rfl rfl (Nat.le_of_ble_eq_true rfl) (ct_sizeOf hu hv) (fun r h1 q => ?_)
            obtain ⟨rfl, rfl⟩ := q
            refine wp_callV (As := [.int (nI (32 + bln u + bln v))]) (rest := []) dX11_one_164 me_X11_mayInsert cw_X11_185 rfl ⟨(Nat.le_of_ble_eq_true rfl), (Nat.le_of_ble_eq_true rfl)⟩ rfl rfl rfl (Nat.le_of_ble_eq_true rfl) r_at_m (ct_mayInsert okp (by have := bln_le u; have := bln_le v; omega) (by rw [hs1]; omega) (by rw [hs20]; exact hrc) (by rw [hs1]; exact h10) (by rw [hs1]; omega) (by rw [hs1, hsum]; exact h11)) (fun r h1 q => ?_)
            obtain ⟨rfl, rfl⟩ := q
            refine wp_if_eq (tgt := 194) dX11_one_167 rfl (fun c_167 => ?_) (fun c_167 => ?_)
            · rw [if_neg (by rw [b2n_0.mp c_167]; decide)]
              exact lb _
            · have hmy : r_may (r_says p f) (32 + bln u + bln v) = true := by
                cases hx : r_may (r_says p f) (32 + bln u + bln v) with
                | true => rfl
                | false => rw [hx] at c_167; exact absurd rfl c_167
              rw [if_pos hmy]
              have hfit : 32 + bln u + bln v ≤ p.1 0 := by
                rw [r_may, Bool.and_eq_true] at hmy
                have h3 : 32 + bln u + bln v ≤ (r_says p f).1 0 := by simpa using hmy.1
                exact h3
              have hibl := r_ib_len (r_says p f) u v
              have ok2 : rok (r_ins (r_says p f) u v) := rok.ins okp hu hv (by rw [hs1]; exact h10) (by rw [hs1]; exact h6) (by rw [hs1]; exact ht) (by rw [hs1]; exact hs)
              have i28 : (r_ins (r_says p f) u v).1 28 = p.1 28 := r_ins_k (by decide) (by decide) (by decide) (by decide)
              have i44 : (r_ins (r_says p f) u v).1 44 = p.1 44 := r_ins_k (by decide) (by decide) (by decide) (by decide)
              have i6 : (r_ins (r_says p f) u v).1 6 = p.1 6 + 1 := r_ins_6
              have i20 : (r_ins (r_says p f) u v).2.1 20 = p.2.1 20 := (r_ins_a (by decide) (by decide)).trans hs20
              refine wp_aload_n dX11_one_170 rfl ?_
              refine wp_lload dX11_one_171 rfl ?_
              refine wp_lload dX11_one_173 rfl ?_
              refine wp_callV (As := [.long (lN u), .long (lN v)]) (rest := []) dX11_one_175 me_X11_insert cw_X11_188 rfl ⟨(Nat.le_of_ble_eq_true rfl), (Nat.le_of_ble_eq_true rfl)⟩ rfl rfl rfl (Nat.le_of_ble_eq_true rfl) r_at_m (ct_insert okp hu hv (by rw [hs1]; exact h10) (by rw [hs1]; exact h6) (by rw [hs1, hsum]; exact h11) (by rw [hs1]; exact hfit) (by rw [hs1]; omega)) (fun r h1 q => ?_)
              obtain ⟨rfl, rfl⟩ := q
              refine wp_iload_n dX11_one_178 rfl ?_
              refine wp_if_eq (tgt := 194) dX11_one_179 rfl (fun c_179 => ?_) (fun c_179 => ?_)
              · rw [if_neg (by rw [b2n_0.mp c_179]; decide)]
                exact w_lb ok2 hu hv (by decide) hb (by rw [i28]; exact hc) (by rw [i6]; omega) (by rw [i28, i20]; exact hr) (by rw [i44]; exact hl) (fun w e => by cases e; rfl)
              · rw [if_pos (show risk = true by cases risk with | true => rfl | false => exact absurd rfl c_179)]
                have hwl : (r_wb (p.1 6) base).length ≤ 6 := by unfold r_wb; split <;> exact nb_len _ _ _
                refine wp_aload_n dX11_one_182 rfl ?_
                refine wp_aload_n dX11_one_183 rfl ?_
                refine wr_geti 6 dX11_one_184 fl_X11_137 ⟨by decide, rfl⟩ ?_
                refine wp_iconst (v := 1) dX11_one_187 rfl ?_
                refine wp_isub dX11_one_188 ?_
                refine wp_iload_n dX11_one_189 rfl ?_
                rw [i6, nI_pred]
                refine wp_callV (As := [.int (nI (p.1 6)), .int (nI base)]) (rest := []) dX11_one_190 me_X11_whole cw_X11_182 rfl ⟨(Nat.le_of_ble_eq_true rfl), (Nat.le_of_ble_eq_true rfl)⟩ rfl rfl rfl (Nat.le_of_ble_eq_true rfl) r_at_m (ct_whole ok2 (by omega) (by omega) (by rw [i28]; exact hc) (by rw [i28, i20]; exact hr) (by rw [i44]; omega)) (fun r h1 q => ?_)
                obtain ⟨rfl, rfl⟩ := q
                refine wp_vret dX11_one_193 rfl ?_
                exact ⟨rfl, rfl⟩
        · exact absurd rfl c_126
  rw [hpe]
  refine wp_eqL (L' := [some (.ref m), some (.int (nI f)), some (.int (nI base)), some (.int (nI (b2n risk))), some (.long (lN u)), none, some (.long (lN v)), none, some (.int (oI (fxn u))), some (.int (nI sn)), some (.int (nI (12 * p.1 28 + f))), none]) rfl ?_
  refine wp_iload dX11_one_69 rfl ?_
  refine wp_iconst (v := (-1)) dX11_one_71 rfl ?_
  refine wp_icmp_eq (tgt := 107) dX11_one_72 rfl (fun c_72 => ?_) (fun c_72 => ?_)
  · refine rest ?_
    have hx : fxn u = none := by
      cases hx : fxn u with
      | none => rfl
      | some k => rw [hx] at c_72; exact absurd c_72 (nI_m1 (by have := (fxn_some hx).1; omega))
    rw [r_fixed, hx]
  · cases hx : fxn u with
    | none => rw [hx] at c_72; exact absurd rfl c_72
    | some k =>
      obtain ⟨hk, hk2⟩ := fxn_some hx
      rw [hx] at rest
      rw [show oI (some k) = nI k from rfl] at rest ⊢
      refine wp_iload dX11_one_75 rfl ?_
      refine wp_callS (As := [.int (nI k)]) (rest := []) dX11_one_77 me_X11_fixedValue cw_X11_178 ⟨(Nat.le_of_ble_eq_true rfl), (Nat.le_of_ble_eq_true rfl)⟩ rfl rfl rfl (Nat.le_of_ble_eq_true rfl) (ct_fixedValue (by omega)) (fun r h1 q => ?_)
      obtain ⟨rfl, rfl⟩ := q
      have hfv : fxv k < 2 ^ 64 := by unfold fxv; split <;> decide
      refine wp_lload dX11_one_80 rfl ?_
      refine wp_lcmp dX11_one_82 ?_
      refine wp_if_ne (tgt := 107) dX11_one_83 rfl (fun c_83 => ?_) (fun c_83 => ?_)
      · rw [cmp0, lN_inj hfv hv] at c_83
        exact rest (by rw [r_fixed, hx]; simp [c_83])
      · rw [cmp0, lN_inj hfv hv] at c_83
        rw [if_pos (show r_fixed u v = true by rw [r_fixed, hx]; simp [c_83])]
        have hnl : (nb 192 6 k).length ≤ 6 := nb_len _ _ _
        refine wp_aload_n dX11_one_86 rfl ?_
        refine wr_geta 36 18 dX11_one_87 fl_X11_67 ⟨by decide, rfl⟩ ?_
        refine wp_iload dX11_one_90 rfl ?_
        refine wp_iconst (v := 0) dX11_one_92 rfl ?_
        refine wr_zast dX11_one_93 ⟨by decide, rfl⟩ rfl (by show 12 * p.1 28 + f < 2400; omega) (by decide) (show (0 : Int32) = nI 0 from rfl) (by decide) ?_
        refine wp_aload_n dX11_one_94 rfl ?_
        refine wp_iconst (v := 2) dX11_one_95 rfl ?_
        refine wp_sipush (v := 192) dX11_one_96 rfl ?_
        refine wp_bipush (v := 6) dX11_one_99 rfl ?_
        refine wp_iload dX11_one_101 rfl ?_
        refine wp_callV (As := [.int (nI 2), .int (nI 192), .int (nI 6), .int (nI k)]) (rest := []) dX11_one_103 me_X11_number cw_X11_120 rfl ⟨(Nat.le_of_ble_eq_true rfl), (Nat.le_of_ble_eq_true rfl)⟩ rfl rfl rfl (Nat.le_of_ble_eq_true rfl) r_at_m (ct_number (by decide) (by decide) (by decide) (by omega) (by show p.1 44 + _ ≤ 400; omega)) (fun r h1 q => ?_)
        obtain ⟨rfl, rfl⟩ := q
        refine wp_vret dX11_one_106 rfl ?_
        exact ⟨rfl, by rw [hk2]⟩
end RO
