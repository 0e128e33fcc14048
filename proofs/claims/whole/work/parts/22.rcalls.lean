/-! the reference: move, deliver, increment, cancel -/
/-- the decoder's oldest entries go -/
def r_gev : rs → Nat → Nat → rs
  | p, _, 0 => p
  | p, size, n + 1 => if p.1 26 + size ≤ p.1 0 then p else r_gev (r_si (r_si p 26 (p.1 26 - r_sz p (p.1 25))) 25 (p.1 25 + 1)) size n
def r_got1 (p : rs) : rs := r_si (r_si (r_gev p (r_sz p (p.1 24)) (p.1 24 - p.1 25)) 26 ((r_gev p (r_sz p (p.1 24)) (p.1 24 - p.1 25)).1 26 + r_sz p (p.1 24))) 24 (p.1 24 + 1)
def r_gots : Nat → rs → rs
  | 0, p => p
  | n + 1, p => if p.2.1 5 (p.1 24) ≤ p.1 15 then r_gots n (r_got1 p) else p
def r_goTo (p : rs) : Nat → rs
  | 0 => p
  | s + 1 => r_goOn (r_goTo p s) s
def r_mv0 (p : rs) (n : Nat) : rs := r_goTo (r_gots (p.1 6 - p.1 24) (r_si p 15 (p.1 15 + min (p.1 13 - p.1 15) n))) 8
def r_hear1 (p : rs) : rs := r_si (r_hear p (p.2.1 8 (p.1 23)) (p.2.1 9 (p.1 23))) 23 (p.1 23 + 1)
def r_hears : Nat → rs → rs
  | 0, p => p
  | n + 1, p => if p.2.1 10 (p.1 23) ≤ p.1 18 then r_hears n (r_hear1 p) else p
def r_mv1 (p : rs) (n : Nat) : rs := r_hears (p.1 19 - p.1 23) (r_si p 18 (p.1 18 + min (p.1 16 - p.1 18) n))
theorem r_gev_k {k : Nat} (h1 : k ≠ 25) (h2 : k ≠ 26) : ∀ (n : Nat) (p : rs) (size : Nat), (r_gev p size n).1 k = p.1 k := by
  intro n
  induction n with
  | zero => intro p size; rfl
  | succ n ih =>
    intro p size
    rw [r_gev]
    split
    · rfl
    · rw [ih]; simp [r_si, h1, h2]
theorem r_gev_a : ∀ (n : Nat) (p : rs) (size : Nat), (r_gev p size n).2 = p.2 := by
  intro n
  induction n with
  | zero => intro p size; rfl
  | succ n ih =>
    intro p size
    rw [r_gev]
    split
    · rfl
    · rw [ih]; rfl
theorem r_gev_t : ∀ (n : Nat) (p : rs) (size : Nat), p.1 26 = r_sum p (p.1 25) n → size ≤ p.1 0 → p.1 25 ≤ (r_gev p size n).1 25 ∧ (r_gev p size n).1 25 ≤ p.1 25 + n ∧ (r_gev p size n).1 26 = r_sum p ((r_gev p size n).1 25) (p.1 25 + n - (r_gev p size n).1 25) ∧ (r_gev p size n).1 26 + size ≤ p.1 0 := by
  intro n
  induction n with
  | zero =>
    intro p size h hs
    refine ⟨Nat.le_refl _, Nat.le_refl _, ?_, ?_⟩
    · show p.1 26 = r_sum p (p.1 25) (p.1 25 + 0 - p.1 25)
      rw [Nat.add_zero, Nat.sub_self]
      exact h
    · show p.1 26 + size ≤ _
      have : p.1 26 = 0 := h
      omega
  | succ n ih =>
    intro p size h hs
    rw [r_gev]
    split
    · rename_i hle
      refine ⟨Nat.le_refl _, by omega, ?_, hle⟩
      rw [show p.1 25 + (n + 1) - p.1 25 = n + 1 by omega]
      exact h
    · rw [r_sum] at h
      have hz := r_sz_le p (p.1 25)
      obtain ⟨a1, a2, a3, a4⟩ := ih (r_si (r_si p 26 (p.1 26 - r_sz p (p.1 25))) 25 (p.1 25 + 1)) size (by
        show p.1 26 - r_sz p (p.1 25) = r_sum _ (p.1 25 + 1) n
        rw [r_sum_l (q := p) (p := r_si (r_si p 26 (p.1 26 - r_sz p (p.1 25))) 25 (p.1 25 + 1)) rfl]
        omega) hs
      rw [r_sum_l (q := p) (p := r_si (r_si p 26 (p.1 26 - r_sz p (p.1 25))) 25 (p.1 25 + 1)) rfl] at a3
      have e : (r_si (r_si p 26 (p.1 26 - r_sz p (p.1 25))) 25 (p.1 25 + 1)).1 25 = p.1 25 + 1 := rfl
      rw [e] at a1 a2 a3
      refine ⟨by omega, by omega, ?_, a4⟩
      rw [a3]
      congr 1
      omega
/-- what holds of the decoder's side -/
def r_D (p : rs) : Prop := rok p ∧ p.1 6 ≤ 2400 ∧ p.1 24 ≤ p.1 6 ∧ p.1 25 ≤ p.1 24 ∧ p.1 26 = r_sum p (p.1 25) (p.1 24 - p.1 25) ∧ p.1 26 ≤ p.1 0 ∧ p.1 0 ≤ 400 ∧ ∀ i, i < p.1 6 → r_sz p i ≤ p.1 0
theorem rok.gev : ∀ (n : Nat) (p : rs) (size : Nat), rok p → p.1 25 + n < 2 ^ 29 → rok (r_gev p size n) := by
  intro n
  induction n with
  | zero => intro p size ok _; exact ok
  | succ n ih =>
    intro p size ok h
    rw [r_gev]
    split
    · exact ok
    · refine ih _ size ((ok.si (by have := ok.1 26; omega)).si ?_) ?_
      · show p.1 25 + 1 < _
        omega
      · show p.1 25 + 1 + n < _
        omega
theorem r_D.got1 {p : rs} (h : r_D p) (hlt : p.1 24 < p.1 6) : r_D (r_got1 p) ∧ (r_got1 p).1 24 = p.1 24 + 1 ∧ (r_got1 p).2 = p.2 ∧ ∀ k, k ≠ 24 → k ≠ 25 → k ≠ 26 → (r_got1 p).1 k = p.1 k := by
  obtain ⟨ok, h1, h2, h3, h4, h5, h6, h7⟩ := h
  have hz := r_sz_le p (p.1 24)
  have ok2 := rok.gev (p.1 24 - p.1 25) p (r_sz p (p.1 24)) ok (by omega)
  obtain ⟨t1, t2, t3, t4⟩ := r_gev_t (p.1 24 - p.1 25) p (r_sz p (p.1 24)) h4 (h7 _ hlt)
  have k24 := r_gev_k (k := 24) (by decide) (by decide) (p.1 24 - p.1 25) p (r_sz p (p.1 24))
  have ka := r_gev_a (p.1 24 - p.1 25) p (r_sz p (p.1 24))
  have e24 : (r_got1 p).1 24 = p.1 24 + 1 := rfl
  have e25 : (r_got1 p).1 25 = (r_gev p (r_sz p (p.1 24)) (p.1 24 - p.1 25)).1 25 := rfl
  have e26 : (r_got1 p).1 26 = (r_gev p (r_sz p (p.1 24)) (p.1 24 - p.1 25)).1 26 + r_sz p (p.1 24) := rfl
  have ea : (r_got1 p).2 = p.2 := ka
  have ek : ∀ k, k ≠ 24 → k ≠ 25 → k ≠ 26 → (r_got1 p).1 k = p.1 k := by
    intro k a b c
    have : (r_got1 p).1 k = (r_gev p (r_sz p (p.1 24)) (p.1 24 - p.1 25)).1 k := by simp [r_got1, r_si, a, c]
    rw [this, r_gev_k b c]
  have esz : ∀ i, r_sz (r_got1 p) i = r_sz p i := fun i => by rw [r_sz, r_sz, ea]
  refine ⟨⟨(ok2.si ?_).si (by omega), ?_, ?_, ?_, ?_, ?_, ?_, ?_⟩, e24, ea, ek⟩
  · omega
  · rw [ek 6 (by decide) (by decide) (by decide)]; exact h1
  · rw [e24, ek 6 (by decide) (by decide) (by decide)]; omega
  · rw [e25, e24]; omega
  · rw [e26, e25, e24]
    generalize (r_gev p (r_sz p (p.1 24)) (p.1 24 - p.1 25)).1 25 = x at t1 t2 t3
    rw [show p.1 24 + 1 - x = (p.1 24 - x) + 1 by omega, r_sum_app, show x + (p.1 24 - x) = p.1 24 by omega, r_sum_eq (q := p) _ _ (fun i _ _ => esz i), esz, t3, show p.1 25 + (p.1 24 - p.1 25) - x = p.1 24 - x by omega]
  · rw [e26, ek 0 (by decide) (by decide) (by decide)]; exact t4
  · rw [ek 0 (by decide) (by decide) (by decide)]; exact h6
  · intro i hi
    rw [ek 6 (by decide) (by decide) (by decide)] at hi
    rw [esz, ek 0 (by decide) (by decide) (by decide)]
    exact h7 i hi
theorem r_D.gots : ∀ (n : Nat) (p : rs), r_D p → p.1 24 + n = p.1 6 → r_D (r_gots n p) ∧ (r_gots n p).2 = p.2 ∧ (∀ k, k ≠ 24 → k ≠ 25 → k ≠ 26 → (r_gots n p).1 k = p.1 k) ∧ p.1 24 ≤ (r_gots n p).1 24 := by
  intro n
  induction n with
  | zero => intro p h _; exact ⟨h, rfl, fun _ _ _ _ => rfl, Nat.le_refl _⟩
  | succ n ih =>
    intro p h hn
    rw [r_gots]
    split
    · obtain ⟨a, b, c, d⟩ := h.got1 (by omega)
      obtain ⟨a', b', c', d'⟩ := ih (r_got1 p) a (by rw [b, d 6 (by decide) (by decide) (by decide)]; omega)
      exact ⟨a', b'.trans c, fun k x y z => (c' k x y z).trans (d k x y z), by omega⟩
    · exact ⟨h, rfl, fun _ _ _ _ => rfl, Nat.le_refl _⟩
theorem r_goTo_gk {p : rs} (h8 : ∀ i, i < p.1 28 → p.2.1 11 i < 8) : ∀ s, r_gk p (r_goTo p s) := by
  intro s
  induction s with
  | zero => exact r_gk.refl p
  | succ s ih =>
    refine ih.trans (r_go_gk _ _ _ (by omega) ?_)
    rw [ih.1 28 (by decide) (by decide) (by decide), ih.2.1 11 (by decide) (by decide) (by decide) (by decide) (by decide)]
    exact h8
theorem dX11_move_0 : decode cX11_move 0 = .ok (.iload_n 1, 1) := by decide +kernel
theorem dX11_move_1 : decode cX11_move 1 = .ok (.ifCond .lt 19, 3) := by decide +kernel
theorem dX11_move_4 : decode cX11_move 4 = .ok (.iload_n 1, 1) := by decide +kernel
theorem dX11_move_5 : decode cX11_move 5 = .ok (.iconst 1, 1) := by decide +kernel
theorem dX11_move_6 : decode cX11_move 6 = .ok (.if_icmp .gt 14, 3) := by decide +kernel
theorem dX11_move_9 : decode cX11_move 9 = .ok (.iload_n 2, 1) := by decide +kernel
theorem dX11_move_10 : decode cX11_move 10 = .ok (.ifCond .lt 10, 3) := by decide +kernel
theorem dX11_move_13 : decode cX11_move 13 = .ok (.iload_n 2, 1) := by decide +kernel
theorem dX11_move_14 : decode cX11_move 14 = .ok (.sipush 6000, 3) := by decide +kernel
theorem dX11_move_17 : decode cX11_move 17 = .ok (.if_icmp .le 5, 3) := by decide +kernel
theorem dX11_move_20 : decode cX11_move 20 = .ok (.iconst (-1), 1) := by decide +kernel
theorem dX11_move_21 : decode cX11_move 21 = .ok (.ireturn, 1) := by decide +kernel
theorem dX11_move_22 : decode cX11_move 22 = .ok (.iload_n 1, 1) := by decide +kernel
theorem dX11_move_23 : decode cX11_move 23 = .ok (.iconst 1, 1) := by decide +kernel
theorem dX11_move_24 : decode cX11_move 24 = .ok (.if_icmp .ne 104, 3) := by decide +kernel
theorem dX11_move_27 : decode cX11_move 27 = .ok (.aload_n 0, 1) := by decide +kernel
theorem dX11_move_28 : decode cX11_move 28 = .ok (.getfield 107, 3) := by decide +kernel
theorem dX11_move_31 : decode cX11_move 31 = .ok (.aload_n 0, 1) := by decide +kernel
theorem dX11_move_32 : decode cX11_move 32 = .ok (.getfield 222, 3) := by decide +kernel
theorem dX11_move_35 : decode cX11_move 35 = .ok (.isub, 1) := by decide +kernel
theorem dX11_move_36 : decode cX11_move 36 = .ok (.iload_n 2, 1) := by decide +kernel
theorem dX11_move_37 : decode cX11_move 37 = .ok (.if_icmp .ge 15, 3) := by decide +kernel
theorem dX11_move_40 : decode cX11_move 40 = .ok (.aload_n 0, 1) := by decide +kernel
theorem dX11_move_41 : decode cX11_move 41 = .ok (.getfield 107, 3) := by decide +kernel
theorem dX11_move_44 : decode cX11_move 44 = .ok (.aload_n 0, 1) := by decide +kernel
theorem dX11_move_45 : decode cX11_move 45 = .ok (.getfield 222, 3) := by decide +kernel
theorem dX11_move_48 : decode cX11_move 48 = .ok (.isub, 1) := by decide +kernel
theorem dX11_move_49 : decode cX11_move 49 = .ok (.goto 4, 3) := by decide +kernel
theorem dX11_move_52 : decode cX11_move 52 = .ok (.iload_n 2, 1) := by decide +kernel
theorem dX11_move_53 : decode cX11_move 53 = .ok (.istore_n 3, 1) := by decide +kernel
theorem dX11_move_54 : decode cX11_move 54 = .ok (.aload_n 0, 1) := by decide +kernel
theorem dX11_move_55 : decode cX11_move 55 = .ok (.dup, 1) := by decide +kernel
theorem dX11_move_56 : decode cX11_move 56 = .ok (.getfield 222, 3) := by decide +kernel
theorem dX11_move_59 : decode cX11_move 59 = .ok (.iload_n 3, 1) := by decide +kernel
theorem dX11_move_60 : decode cX11_move 60 = .ok (.iadd, 1) := by decide +kernel
theorem dX11_move_61 : decode cX11_move 61 = .ok (.putfield 222, 3) := by decide +kernel
theorem dX11_move_64 : decode cX11_move 64 = .ok (.aload_n 0, 1) := by decide +kernel
theorem dX11_move_65 : decode cX11_move 65 = .ok (.getfield 225, 3) := by decide +kernel
theorem dX11_move_68 : decode cX11_move 68 = .ok (.aload_n 0, 1) := by decide +kernel
theorem dX11_move_69 : decode cX11_move 69 = .ok (.getfield 207, 3) := by decide +kernel
theorem dX11_move_72 : decode cX11_move 72 = .ok (.if_icmp .ge 54, 3) := by decide +kernel
theorem dX11_move_75 : decode cX11_move 75 = .ok (.aload_n 0, 1) := by decide +kernel
theorem dX11_move_76 : decode cX11_move 76 = .ok (.getfield 43, 3) := by decide +kernel
theorem dX11_move_79 : decode cX11_move 79 = .ok (.aload_n 0, 1) := by decide +kernel
theorem dX11_move_80 : decode cX11_move 80 = .ok (.getfield 225, 3) := by decide +kernel
theorem dX11_move_83 : decode cX11_move 83 = .ok (.iaload, 1) := by decide +kernel
theorem dX11_move_84 : decode cX11_move 84 = .ok (.aload_n 0, 1) := by decide +kernel
theorem dX11_move_85 : decode cX11_move 85 = .ok (.getfield 222, 3) := by decide +kernel
theorem dX11_move_88 : decode cX11_move 88 = .ok (.if_icmp .gt 38, 3) := by decide +kernel
theorem dX11_move_91 : decode cX11_move 91 = .ok (.aload_n 0, 1) := by decide +kernel
theorem dX11_move_92 : decode cX11_move 92 = .ok (.aload_n 0, 1) := by decide +kernel
theorem dX11_move_93 : decode cX11_move 93 = .ok (.getfield 37, 3) := by decide +kernel
theorem dX11_move_96 : decode cX11_move 96 = .ok (.aload_n 0, 1) := by decide +kernel
theorem dX11_move_97 : decode cX11_move 97 = .ok (.getfield 225, 3) := by decide +kernel
theorem dX11_move_100 : decode cX11_move 100 = .ok (.iaload, 1) := by decide +kernel
theorem dX11_move_101 : decode cX11_move 101 = .ok (.aload_n 0, 1) := by decide +kernel
theorem dX11_move_102 : decode cX11_move 102 = .ok (.getfield 40, 3) := by decide +kernel
theorem dX11_move_105 : decode cX11_move 105 = .ok (.aload_n 0, 1) := by decide +kernel
theorem dX11_move_106 : decode cX11_move 106 = .ok (.getfield 225, 3) := by decide +kernel
theorem dX11_move_109 : decode cX11_move 109 = .ok (.iaload, 1) := by decide +kernel
theorem dX11_move_110 : decode cX11_move 110 = .ok (.invokevirtual 228, 3) := by decide +kernel
theorem dX11_move_113 : decode cX11_move 113 = .ok (.aload_n 0, 1) := by decide +kernel
theorem dX11_move_114 : decode cX11_move 114 = .ok (.dup, 1) := by decide +kernel
theorem dX11_move_115 : decode cX11_move 115 = .ok (.getfield 225, 3) := by decide +kernel
theorem dX11_move_118 : decode cX11_move 118 = .ok (.iconst 1, 1) := by decide +kernel
theorem dX11_move_119 : decode cX11_move 119 = .ok (.iadd, 1) := by decide +kernel
theorem dX11_move_120 : decode cX11_move 120 = .ok (.putfield 225, 3) := by decide +kernel
theorem dX11_move_123 : decode cX11_move 123 = .ok (.goto (-59), 3) := by decide +kernel
theorem dX11_move_126 : decode cX11_move 126 = .ok (.iload_n 3, 1) := by decide +kernel
theorem dX11_move_127 : decode cX11_move 127 = .ok (.ireturn, 1) := by decide +kernel
theorem dX11_move_128 : decode cX11_move 128 = .ok (.aload_n 0, 1) := by decide +kernel
theorem dX11_move_129 : decode cX11_move 129 = .ok (.getfield 104, 3) := by decide +kernel
theorem dX11_move_132 : decode cX11_move 132 = .ok (.aload_n 0, 1) := by decide +kernel
theorem dX11_move_133 : decode cX11_move 133 = .ok (.getfield 196, 3) := by decide +kernel
theorem dX11_move_136 : decode cX11_move 136 = .ok (.isub, 1) := by decide +kernel
theorem dX11_move_137 : decode cX11_move 137 = .ok (.iload_n 2, 1) := by decide +kernel
theorem dX11_move_138 : decode cX11_move 138 = .ok (.if_icmp .ge 15, 3) := by decide +kernel
theorem dX11_move_141 : decode cX11_move 141 = .ok (.aload_n 0, 1) := by decide +kernel
theorem dX11_move_142 : decode cX11_move 142 = .ok (.getfield 104, 3) := by decide +kernel
theorem dX11_move_145 : decode cX11_move 145 = .ok (.aload_n 0, 1) := by decide +kernel
theorem dX11_move_146 : decode cX11_move 146 = .ok (.getfield 196, 3) := by decide +kernel
theorem dX11_move_149 : decode cX11_move 149 = .ok (.isub, 1) := by decide +kernel
theorem dX11_move_150 : decode cX11_move 150 = .ok (.goto 4, 3) := by decide +kernel
theorem dX11_move_153 : decode cX11_move 153 = .ok (.iload_n 2, 1) := by decide +kernel
theorem dX11_move_154 : decode cX11_move 154 = .ok (.istore_n 3, 1) := by decide +kernel
theorem dX11_move_155 : decode cX11_move 155 = .ok (.aload_n 0, 1) := by decide +kernel
theorem dX11_move_156 : decode cX11_move 156 = .ok (.dup, 1) := by decide +kernel
theorem dX11_move_157 : decode cX11_move 157 = .ok (.getfield 196, 3) := by decide +kernel
theorem dX11_move_160 : decode cX11_move 160 = .ok (.iload_n 3, 1) := by decide +kernel
theorem dX11_move_161 : decode cX11_move 161 = .ok (.iadd, 1) := by decide +kernel
theorem dX11_move_162 : decode cX11_move 162 = .ok (.putfield 196, 3) := by decide +kernel
theorem dX11_move_165 : decode cX11_move 165 = .ok (.aload_n 0, 1) := by decide +kernel
theorem dX11_move_166 : decode cX11_move 166 = .ok (.getfield 216, 3) := by decide +kernel
theorem dX11_move_169 : decode cX11_move 169 = .ok (.aload_n 0, 1) := by decide +kernel
theorem dX11_move_170 : decode cX11_move 170 = .ok (.getfield 137, 3) := by decide +kernel
theorem dX11_move_173 : decode cX11_move 173 = .ok (.if_icmp .ge 123, 3) := by decide +kernel
theorem dX11_move_176 : decode cX11_move 176 = .ok (.aload_n 0, 1) := by decide +kernel
theorem dX11_move_177 : decode cX11_move 177 = .ok (.getfield 26, 3) := by decide +kernel
theorem dX11_move_180 : decode cX11_move 180 = .ok (.aload_n 0, 1) := by decide +kernel
theorem dX11_move_181 : decode cX11_move 181 = .ok (.getfield 216, 3) := by decide +kernel
theorem dX11_move_184 : decode cX11_move 184 = .ok (.iaload, 1) := by decide +kernel
theorem dX11_move_185 : decode cX11_move 185 = .ok (.aload_n 0, 1) := by decide +kernel
theorem dX11_move_186 : decode cX11_move 186 = .ok (.getfield 196, 3) := by decide +kernel
theorem dX11_move_189 : decode cX11_move 189 = .ok (.if_icmp .gt 107, 3) := by decide +kernel
theorem dX11_move_192 : decode cX11_move 192 = .ok (.aload_n 0, 1) := by decide +kernel
theorem dX11_move_193 : decode cX11_move 193 = .ok (.getfield 20, 3) := by decide +kernel
theorem dX11_move_196 : decode cX11_move 196 = .ok (.aload_n 0, 1) := by decide +kernel
theorem dX11_move_197 : decode cX11_move 197 = .ok (.getfield 216, 3) := by decide +kernel
theorem dX11_move_200 : decode cX11_move 200 = .ok (.laload, 1) := by decide +kernel
theorem dX11_move_201 : decode cX11_move 201 = .ok (.aload_n 0, 1) := by decide +kernel
theorem dX11_move_202 : decode cX11_move 202 = .ok (.getfield 23, 3) := by decide +kernel
theorem dX11_move_205 : decode cX11_move 205 = .ok (.aload_n 0, 1) := by decide +kernel
theorem dX11_move_206 : decode cX11_move 206 = .ok (.getfield 216, 3) := by decide +kernel
theorem dX11_move_209 : decode cX11_move 209 = .ok (.laload, 1) := by decide +kernel
theorem dX11_move_210 : decode cX11_move 210 = .ok (.invokestatic 159, 3) := by decide +kernel
theorem dX11_move_213 : decode cX11_move 213 = .ok (.istore 4, 2) := by decide +kernel
theorem dX11_move_215 : decode cX11_move 215 = .ok (.aload_n 0, 1) := by decide +kernel
theorem dX11_move_216 : decode cX11_move 216 = .ok (.getfield 231, 3) := by decide +kernel
theorem dX11_move_219 : decode cX11_move 219 = .ok (.iload 4, 2) := by decide +kernel
theorem dX11_move_221 : decode cX11_move 221 = .ok (.iadd, 1) := by decide +kernel
theorem dX11_move_222 : decode cX11_move 222 = .ok (.aload_n 0, 1) := by decide +kernel
theorem dX11_move_223 : decode cX11_move 223 = .ok (.getfield 91, 3) := by decide +kernel
theorem dX11_move_226 : decode cX11_move 226 = .ok (.if_icmp .le 46, 3) := by decide +kernel
theorem dX11_move_229 : decode cX11_move 229 = .ok (.aload_n 0, 1) := by decide +kernel
theorem dX11_move_230 : decode cX11_move 230 = .ok (.dup, 1) := by decide +kernel
theorem dX11_move_231 : decode cX11_move 231 = .ok (.getfield 231, 3) := by decide +kernel
theorem dX11_move_234 : decode cX11_move 234 = .ok (.aload_n 0, 1) := by decide +kernel
theorem dX11_move_235 : decode cX11_move 235 = .ok (.getfield 20, 3) := by decide +kernel
theorem dX11_move_238 : decode cX11_move 238 = .ok (.aload_n 0, 1) := by decide +kernel
theorem dX11_move_239 : decode cX11_move 239 = .ok (.getfield 234, 3) := by decide +kernel
theorem dX11_move_242 : decode cX11_move 242 = .ok (.laload, 1) := by decide +kernel
theorem dX11_move_243 : decode cX11_move 243 = .ok (.aload_n 0, 1) := by decide +kernel
theorem dX11_move_244 : decode cX11_move 244 = .ok (.getfield 23, 3) := by decide +kernel
theorem dX11_move_247 : decode cX11_move 247 = .ok (.aload_n 0, 1) := by decide +kernel
theorem dX11_move_248 : decode cX11_move 248 = .ok (.getfield 234, 3) := by decide +kernel
theorem dX11_move_251 : decode cX11_move 251 = .ok (.laload, 1) := by decide +kernel
theorem dX11_move_252 : decode cX11_move 252 = .ok (.invokestatic 159, 3) := by decide +kernel
theorem dX11_move_255 : decode cX11_move 255 = .ok (.isub, 1) := by decide +kernel
theorem dX11_move_256 : decode cX11_move 256 = .ok (.putfield 231, 3) := by decide +kernel
theorem dX11_move_259 : decode cX11_move 259 = .ok (.aload_n 0, 1) := by decide +kernel
theorem dX11_move_260 : decode cX11_move 260 = .ok (.dup, 1) := by decide +kernel
theorem dX11_move_261 : decode cX11_move 261 = .ok (.getfield 234, 3) := by decide +kernel
theorem dX11_move_264 : decode cX11_move 264 = .ok (.iconst 1, 1) := by decide +kernel
theorem dX11_move_265 : decode cX11_move 265 = .ok (.iadd, 1) := by decide +kernel
theorem dX11_move_266 : decode cX11_move 266 = .ok (.putfield 234, 3) := by decide +kernel
theorem dX11_move_269 : decode cX11_move 269 = .ok (.goto (-54), 3) := by decide +kernel
theorem dX11_move_272 : decode cX11_move 272 = .ok (.aload_n 0, 1) := by decide +kernel
theorem dX11_move_273 : decode cX11_move 273 = .ok (.dup, 1) := by decide +kernel
theorem dX11_move_274 : decode cX11_move 274 = .ok (.getfield 231, 3) := by decide +kernel
theorem dX11_move_277 : decode cX11_move 277 = .ok (.iload 4, 2) := by decide +kernel
theorem dX11_move_279 : decode cX11_move 279 = .ok (.iadd, 1) := by decide +kernel
theorem dX11_move_280 : decode cX11_move 280 = .ok (.putfield 231, 3) := by decide +kernel
theorem dX11_move_283 : decode cX11_move 283 = .ok (.aload_n 0, 1) := by decide +kernel
theorem dX11_move_284 : decode cX11_move 284 = .ok (.dup, 1) := by decide +kernel
theorem dX11_move_285 : decode cX11_move 285 = .ok (.getfield 216, 3) := by decide +kernel
theorem dX11_move_288 : decode cX11_move 288 = .ok (.iconst 1, 1) := by decide +kernel
theorem dX11_move_289 : decode cX11_move 289 = .ok (.iadd, 1) := by decide +kernel
theorem dX11_move_290 : decode cX11_move 290 = .ok (.putfield 216, 3) := by decide +kernel
theorem dX11_move_293 : decode cX11_move 293 = .ok (.goto (-128), 3) := by decide +kernel
theorem dX11_move_296 : decode cX11_move 296 = .ok (.iconst 0, 1) := by decide +kernel
theorem dX11_move_297 : decode cX11_move 297 = .ok (.istore 4, 2) := by decide +kernel
theorem dX11_move_299 : decode cX11_move 299 = .ok (.iload 4, 2) := by decide +kernel
theorem dX11_move_301 : decode cX11_move 301 = .ok (.bipush 8, 2) := by decide +kernel
theorem dX11_move_303 : decode cX11_move 303 = .ok (.if_icmp .ge 15, 3) := by decide +kernel
theorem dX11_move_306 : decode cX11_move 306 = .ok (.aload_n 0, 1) := by decide +kernel
theorem dX11_move_307 : decode cX11_move 307 = .ok (.iload 4, 2) := by decide +kernel
theorem dX11_move_309 : decode cX11_move 309 = .ok (.invokevirtual 237, 3) := by decide +kernel
theorem dX11_move_312 : decode cX11_move 312 = .ok (.iinc 4 1, 3) := by decide +kernel
theorem dX11_move_315 : decode cX11_move 315 = .ok (.goto (-16), 3) := by decide +kernel
theorem dX11_move_318 : decode cX11_move 318 = .ok (.iload_n 3, 1) := by decide +kernel
theorem dX11_move_319 : decode cX11_move 319 = .ok (.ireturn, 1) := by decide +kernel
theorem dX11_deliver_0 : decode cX11_deliver 0 = .ok (.aload_n 0, 1) := by decide +kernel
theorem dX11_deliver_1 : decode cX11_deliver 1 = .ok (.iload_n 1, 1) := by decide +kernel
theorem dX11_deliver_2 : decode cX11_deliver 2 = .ok (.invokevirtual 240, 3) := by decide +kernel
theorem dX11_deliver_5 : decode cX11_deliver 5 = .ok (.istore_n 2, 1) := by decide +kernel
theorem dX11_deliver_6 : decode cX11_deliver 6 = .ok (.iload_n 2, 1) := by decide +kernel
theorem dX11_deliver_7 : decode cX11_deliver 7 = .ok (.iconst (-1), 1) := by decide +kernel
theorem dX11_deliver_8 : decode cX11_deliver 8 = .ok (.if_icmp .eq 14, 3) := by decide +kernel
theorem dX11_deliver_11 : decode cX11_deliver 11 = .ok (.aload_n 0, 1) := by decide +kernel
theorem dX11_deliver_12 : decode cX11_deliver 12 = .ok (.iload_n 1, 1) := by decide +kernel
theorem dX11_deliver_13 : decode cX11_deliver 13 = .ok (.iconst 1, 1) := by decide +kernel
theorem dX11_deliver_14 : decode cX11_deliver 14 = .ok (.invokevirtual 192, 3) := by decide +kernel
theorem dX11_deliver_17 : decode cX11_deliver 17 = .ok (.bipush 8, 2) := by decide +kernel
theorem dX11_deliver_19 : decode cX11_deliver 19 = .ok (.if_icmp .ne 5, 3) := by decide +kernel
theorem dX11_deliver_22 : decode cX11_deliver 22 = .ok (.iconst (-1), 1) := by decide +kernel
theorem dX11_deliver_23 : decode cX11_deliver 23 = .ok (.ireturn, 1) := by decide +kernel
theorem dX11_deliver_24 : decode cX11_deliver 24 = .ok (.aload_n 0, 1) := by decide +kernel
theorem dX11_deliver_25 : decode cX11_deliver 25 = .ok (.getfield 55, 3) := by decide +kernel
theorem dX11_deliver_28 : decode cX11_deliver 28 = .ok (.iload_n 2, 1) := by decide +kernel
theorem dX11_deliver_29 : decode cX11_deliver 29 = .ok (.iconst 1, 1) := by decide +kernel
theorem dX11_deliver_30 : decode cX11_deliver 30 = .ok (.iastore, 1) := by decide +kernel
theorem dX11_deliver_31 : decode cX11_deliver 31 = .ok (.aload_n 0, 1) := by decide +kernel
theorem dX11_deliver_32 : decode cX11_deliver 32 = .ok (.iload_n 1, 1) := by decide +kernel
theorem dX11_deliver_33 : decode cX11_deliver 33 = .ok (.invokevirtual 237, 3) := by decide +kernel
theorem dX11_deliver_36 : decode cX11_deliver 36 = .ok (.aload_n 0, 1) := by decide +kernel
theorem dX11_deliver_37 : decode cX11_deliver 37 = .ok (.getfield 55, 3) := by decide +kernel
theorem dX11_deliver_40 : decode cX11_deliver 40 = .ok (.iload_n 2, 1) := by decide +kernel
theorem dX11_deliver_41 : decode cX11_deliver 41 = .ok (.iaload, 1) := by decide +kernel
theorem dX11_deliver_42 : decode cX11_deliver 42 = .ok (.iconst 2, 1) := by decide +kernel
theorem dX11_deliver_43 : decode cX11_deliver 43 = .ok (.if_icmp .ne 7, 3) := by decide +kernel
theorem dX11_deliver_46 : decode cX11_deliver 46 = .ok (.iconst 1, 1) := by decide +kernel
theorem dX11_deliver_47 : decode cX11_deliver 47 = .ok (.goto 4, 3) := by decide +kernel
theorem dX11_deliver_50 : decode cX11_deliver 50 = .ok (.iconst 0, 1) := by decide +kernel
theorem dX11_deliver_51 : decode cX11_deliver 51 = .ok (.ireturn, 1) := by decide +kernel
theorem dX11_increment_0 : decode cX11_increment 0 = .ok (.aload_n 0, 1) := by decide +kernel
theorem dX11_increment_1 : decode cX11_increment 1 = .ok (.getfield 216, 3) := by decide +kernel
theorem dX11_increment_4 : decode cX11_increment 4 = .ok (.aload_n 0, 1) := by decide +kernel
theorem dX11_increment_5 : decode cX11_increment 5 = .ok (.getfield 213, 3) := by decide +kernel
theorem dX11_increment_8 : decode cX11_increment 8 = .ok (.isub, 1) := by decide +kernel
theorem dX11_increment_9 : decode cX11_increment 9 = .ok (.istore_n 1, 1) := by decide +kernel
theorem dX11_increment_10 : decode cX11_increment 10 = .ok (.iload_n 1, 1) := by decide +kernel
theorem dX11_increment_11 : decode cX11_increment 11 = .ok (.ifCond .gt 5, 3) := by decide +kernel
theorem dX11_increment_14 : decode cX11_increment 14 = .ok (.iconst 0, 1) := by decide +kernel
theorem dX11_increment_15 : decode cX11_increment 15 = .ok (.ireturn, 1) := by decide +kernel
theorem dX11_increment_16 : decode cX11_increment 16 = .ok (.aload_n 0, 1) := by decide +kernel
theorem dX11_increment_17 : decode cX11_increment 17 = .ok (.iconst 3, 1) := by decide +kernel
theorem dX11_increment_18 : decode cX11_increment 18 = .ok (.iload_n 1, 1) := by decide +kernel
theorem dX11_increment_19 : decode cX11_increment 19 = .ok (.invokevirtual 210, 3) := by decide +kernel
theorem dX11_increment_22 : decode cX11_increment 22 = .ok (.aload_n 0, 1) := by decide +kernel
theorem dX11_increment_23 : decode cX11_increment 23 = .ok (.aload_n 0, 1) := by decide +kernel
theorem dX11_increment_24 : decode cX11_increment 24 = .ok (.getfield 216, 3) := by decide +kernel
theorem dX11_increment_27 : decode cX11_increment 27 = .ok (.putfield 213, 3) := by decide +kernel
theorem dX11_increment_30 : decode cX11_increment 30 = .ok (.iload_n 1, 1) := by decide +kernel
theorem dX11_increment_31 : decode cX11_increment 31 = .ok (.ireturn, 1) := by decide +kernel
theorem dX11_cancel_0 : decode cX11_cancel 0 = .ok (.iload_n 1, 1) := by decide +kernel
theorem dX11_cancel_1 : decode cX11_cancel 1 = .ok (.ifCond .lt 18, 3) := by decide +kernel
theorem dX11_cancel_4 : decode cX11_cancel 4 = .ok (.iload_n 1, 1) := by decide +kernel
theorem dX11_cancel_5 : decode cX11_cancel 5 = .ok (.bipush 8, 2) := by decide +kernel
theorem dX11_cancel_7 : decode cX11_cancel 7 = .ok (.if_icmp .ge 12, 3) := by decide +kernel
theorem dX11_cancel_10 : decode cX11_cancel 10 = .ok (.aload_n 0, 1) := by decide +kernel
theorem dX11_cancel_11 : decode cX11_cancel 11 = .ok (.getfield 85, 3) := by decide +kernel
theorem dX11_cancel_14 : decode cX11_cancel 14 = .ok (.iload_n 1, 1) := by decide +kernel
theorem dX11_cancel_15 : decode cX11_cancel 15 = .ok (.baload, 1) := by decide +kernel
theorem dX11_cancel_16 : decode cX11_cancel 16 = .ok (.ifCond .eq 5, 3) := by decide +kernel
theorem dX11_cancel_19 : decode cX11_cancel 19 = .ok (.iconst (-1), 1) := by decide +kernel
theorem dX11_cancel_20 : decode cX11_cancel 20 = .ok (.ireturn, 1) := by decide +kernel
theorem dX11_cancel_21 : decode cX11_cancel 21 = .ok (.aload_n 0, 1) := by decide +kernel
theorem dX11_cancel_22 : decode cX11_cancel 22 = .ok (.getfield 85, 3) := by decide +kernel
theorem dX11_cancel_25 : decode cX11_cancel 25 = .ok (.iload_n 1, 1) := by decide +kernel
theorem dX11_cancel_26 : decode cX11_cancel 26 = .ok (.iconst 1, 1) := by decide +kernel
theorem dX11_cancel_27 : decode cX11_cancel 27 = .ok (.bastore, 1) := by decide +kernel
theorem dX11_cancel_28 : decode cX11_cancel 28 = .ok (.iconst 0, 1) := by decide +kernel
theorem dX11_cancel_29 : decode cX11_cancel 29 = .ok (.istore_n 2, 1) := by decide +kernel
theorem dX11_cancel_30 : decode cX11_cancel 30 = .ok (.iconst 0, 1) := by decide +kernel
theorem dX11_cancel_31 : decode cX11_cancel 31 = .ok (.istore_n 3, 1) := by decide +kernel
theorem dX11_cancel_32 : decode cX11_cancel 32 = .ok (.iload_n 3, 1) := by decide +kernel
theorem dX11_cancel_33 : decode cX11_cancel 33 = .ok (.aload_n 0, 1) := by decide +kernel
theorem dX11_cancel_34 : decode cX11_cancel 34 = .ok (.getfield 143, 3) := by decide +kernel
theorem dX11_cancel_37 : decode cX11_cancel 37 = .ok (.if_icmp .ge 39, 3) := by decide +kernel
theorem dX11_cancel_40 : decode cX11_cancel 40 = .ok (.aload_n 0, 1) := by decide +kernel
theorem dX11_cancel_41 : decode cX11_cancel 41 = .ok (.getfield 46, 3) := by decide +kernel
theorem dX11_cancel_44 : decode cX11_cancel 44 = .ok (.iload_n 3, 1) := by decide +kernel
theorem dX11_cancel_45 : decode cX11_cancel 45 = .ok (.iaload, 1) := by decide +kernel
theorem dX11_cancel_46 : decode cX11_cancel 46 = .ok (.iload_n 1, 1) := by decide +kernel
theorem dX11_cancel_47 : decode cX11_cancel 47 = .ok (.if_icmp .ne 23, 3) := by decide +kernel
theorem dX11_cancel_50 : decode cX11_cancel 50 = .ok (.aload_n 0, 1) := by decide +kernel
theorem dX11_cancel_51 : decode cX11_cancel 51 = .ok (.getfield 55, 3) := by decide +kernel
theorem dX11_cancel_54 : decode cX11_cancel 54 = .ok (.iload_n 3, 1) := by decide +kernel
theorem dX11_cancel_55 : decode cX11_cancel 55 = .ok (.iaload, 1) := by decide +kernel
theorem dX11_cancel_56 : decode cX11_cancel 56 = .ok (.iconst 2, 1) := by decide +kernel
theorem dX11_cancel_57 : decode cX11_cancel 57 = .ok (.if_icmp .ge 13, 3) := by decide +kernel
theorem dX11_cancel_60 : decode cX11_cancel 60 = .ok (.aload_n 0, 1) := by decide +kernel
theorem dX11_cancel_61 : decode cX11_cancel 61 = .ok (.getfield 55, 3) := by decide +kernel
theorem dX11_cancel_64 : decode cX11_cancel 64 = .ok (.iload_n 3, 1) := by decide +kernel
theorem dX11_cancel_65 : decode cX11_cancel 65 = .ok (.iconst 3, 1) := by decide +kernel
theorem dX11_cancel_66 : decode cX11_cancel 66 = .ok (.iastore, 1) := by decide +kernel
theorem dX11_cancel_67 : decode cX11_cancel 67 = .ok (.iinc 2 1, 3) := by decide +kernel
theorem dX11_cancel_70 : decode cX11_cancel 70 = .ok (.iinc 3 1, 3) := by decide +kernel
theorem dX11_cancel_73 : decode cX11_cancel 73 = .ok (.goto (-41), 3) := by decide +kernel
theorem dX11_cancel_76 : decode cX11_cancel 76 = .ok (.aload_n 0, 1) := by decide +kernel
theorem dX11_cancel_77 : decode cX11_cancel 77 = .ok (.iconst 2, 1) := by decide +kernel
theorem dX11_cancel_78 : decode cX11_cancel 78 = .ok (.iload_n 1, 1) := by decide +kernel
theorem dX11_cancel_79 : decode cX11_cancel 79 = .ok (.invokevirtual 210, 3) := by decide +kernel
theorem dX11_cancel_82 : decode cX11_cancel 82 = .ok (.iload_n 2, 1) := by decide +kernel
theorem dX11_cancel_83 : decode cX11_cancel 83 = .ok (.ireturn, 1) := by decide +kernel
section RC
variable {G : fp_G} {h0 : fp_H} {m : Nat}
/-- move of wire 0, its walk -/
theorem w_mv0 {p : rs} {n : Nat} {Q : Option Value → fp_H → Prop} (hD : r_D p) (hn : n ≤ 6000) (hc : p.1 28 ≤ 200) (hcs : p.1 15 ≤ p.1 13) (hs : p.1 13 ≤ 60000) (h8 : ∀ i, i < p.1 28 → p.2.1 11 i < 8) (h16 : p.1 16 + r_wn p ≤ 4000) (h19 : p.1 19 + r_wn p ≤ 2000) (hQ : Q (some (.int (nI (min (p.1 13 - p.1 15) n)))) (r_hp h0 m (r_mv0 p n))) :
    fp_wp G rm_X11_move M_X11_move 128 [some (.ref m), some (.int (nI 0)), some (.int (nI n)), none, none] [] (r_hp h0 m p) Q := by
  have ok := hD.1
  have main : ∀ now : Nat, now = min (p.1 13 - p.1 15) n → fp_wp G rm_X11_move M_X11_move 154 [some (.ref m), some (.int (nI 0)), some (.int (nI n)), none, none] [.int (nI now)] (r_hp h0 m p) Q := by
    intro now hnow
    refine wp_istore_n dX11_move_154 (Nat.le_of_ble_eq_true rfl) rfl ?_
    refine wp_aload_n dX11_move_155 rfl ?_
    refine wp_dup dX11_move_156 rfl ?_
    refine wr_geti 15 dX11_move_157 fl_X11_196 ⟨by decide, rfl⟩ ?_
    refine wp_iload_n dX11_move_160 rfl ?_
    refine wp_iadd dX11_move_161 ?_
    refine wr_puti dX11_move_162 (fs_X11_196 _) ⟨by decide, rfl⟩ (nI_add _ _) ?_
    have hD1 : r_D (r_si p 15 (p.1 15 + now)) := by
      obtain ⟨ok, h1, h2, h3, h4, h5, h6, h7⟩ := hD
      exact ⟨ok.si (by omega), h1, h2, h3, h4.trans (r_sum_l (q := p) (p := r_si p 15 (p.1 15 + now)) rfl _ _).symm, h5, h6, h7⟩
    have hmv : r_mv0 p n = r_goTo (r_gots (p.1 6 - p.1 24) (r_si p 15 (p.1 15 + now))) 8 := by rw [r_mv0, hnow]
    rw [hmv, ← hnow] at hQ
    -- the streams
    have streams : ∀ (q : rs) (o4 : Option Value), rok q → q.1 28 = p.1 28 → q.2.1 = p.2.1 → q.1 16 = p.1 16 → q.1 19 = p.1 19 → (∀ w, o4 = some w → w.category = 1) → Q (some (.int (nI now))) (r_hp h0 m (r_goTo q 8)) → fp_wp G rm_X11_move M_X11_move 296 [some (.ref m), some (.int (nI 0)), some (.int (nI n)), some (.int (nI now)), o4] [] (r_hp h0 m q) Q := by
      intro q o4 okq e28 ea e16 e19 ho hQq
      have ewn : r_wn q = r_wn p := by rw [r_wn, r_wn, e28, ea]
      refine wp_iconst (v := 0) dX11_move_296 rfl ?_
      refine wp_istore dX11_move_297 (Nat.le_of_ble_eq_true rfl) rfl ?_
      have loop : ∀ k s : Nat, s ≤ 8 → 8 - s < k → fp_wp G rm_X11_move M_X11_move 299 [some (.ref m), some (.int (nI 0)), some (.int (nI n)), some (.int (nI now)), some (.int (nI s))] [] (r_hp h0 m (r_goTo q s)) Q := by
        intro k
        induction k with
        | zero => intro s _ h2; omega
        | succ k ih =>
          intro s hs8 hk
          have gk := r_goTo_gk (p := q) (by rw [e28, ea]; exact h8) s
          have g28 := gk.1 28 (by decide) (by decide) (by decide)
          have g11 := gk.2.1 11 (by decide) (by decide) (by decide) (by decide) (by decide)
          refine wp_iload dX11_move_299 rfl ?_
          refine wp_bipush (v := 8) dX11_move_301 rfl ?_
          refine wp_icmp_ge (tgt := 318) dX11_move_303 rfl (fun c_303 => ?_) (fun c_303 => ?_)
          · have e8 : s = 8 := by
              have := (nI_leI (a := 8) (b := s) (by decide) (by omega)).mp c_303
              omega
            subst e8
            refine wp_iload_n dX11_move_318 rfl ?_
            refine wp_iret dX11_move_319 rfl rfl ?_
            exact hQq
          · have hlt : s < 8 := by
              rcases Nat.lt_or_ge s 8 with q | q
              · exact q
              · exact absurd (nI_le q (by omega)) c_303
            have gok := gk.2.2.2.2.2 okq (by rw [e16, ewn]; exact h16) (by rw [e19, ewn]; exact h19) (by rw [e28, ea]; exact h8)
            have g4 := gk.2.2.2.1
            have g5 := gk.2.2.2.2.1
            refine wp_aload_n dX11_move_306 rfl ?_
            refine wp_iload dX11_move_307 rfl ?_
            refine wp_callV (As := [.int (nI s)]) (rest := []) dX11_move_309 me_X11_goOn cw_X11_237 rfl ⟨(Nat.le_of_ble_eq_true rfl), (Nat.le_of_ble_eq_true rfl)⟩ rfl rfl rfl (Nat.le_of_ble_eq_true rfl) r_at_m (ct_goOn gok (by omega) (by omega) (by rw [g28, g11, e28, ea]; exact h8) (by omega) (by omega)) (fun r h1 q => ?_)
            obtain ⟨rfl, rfl⟩ := q
            refine wp_iinc dX11_move_312 rfl rfl ?_
            refine wp_goto (tgt := 299) dX11_move_315 rfl ?_
            rw [show nI s + Int32.ofInt 1 = nI (s + 1) from nI_1 s]
            exact ih (s + 1) (by omega) (by omega)
      exact loop 9 0 (by omega) (by omega)
    generalize hp1 : r_si p 15 (p.1 15 + now) = p1 at hD1 hQ ⊢
    have a28 : p1.1 28 = p.1 28 := by rw [← hp1]; rfl
    have a16 : p1.1 16 = p.1 16 := by rw [← hp1]; rfl
    have a19 : p1.1 19 = p.1 19 := by rw [← hp1]; rfl
    have aa : p1.2.1 = p.2.1 := by rw [← hp1]; rfl
    have a6 : p1.1 6 = p.1 6 := by rw [← hp1]; rfl
    have a24 : p1.1 24 = p.1 24 := by rw [← hp1]; rfl
    have hle24 := hD.2.2.1
    have loop : ∀ (k : Nat) (q : rs) (o4 : Option Value), r_D q → q.1 28 = p.1 28 → q.2.1 = p.2.1 → q.1 16 = p.1 16 → q.1 19 = p.1 19 → q.1 6 = p.1 6 → q.1 24 + k = p.1 6 → (∀ w, o4 = some w → w.category = 1) → Q (some (.int (nI now))) (r_hp h0 m (r_goTo (r_gots k q) 8)) → fp_wp G rm_X11_move M_X11_move 165 [some (.ref m), some (.int (nI 0)), some (.int (nI n)), some (.int (nI now)), o4] [] (r_hp h0 m q) Q := by
      intro k
      induction k with
      | zero =>
        intro q o4 hDq e28 ea e16 e19 e6 ek ho hQq
        have b6 := hDq.2.1
        refine wp_aload_n dX11_move_165 rfl ?_
        refine wr_geti 24 dX11_move_166 fl_X11_216 ⟨by decide, rfl⟩ ?_
        refine wp_aload_n dX11_move_169 rfl ?_
        refine wr_geti 6 dX11_move_170 fl_X11_137 ⟨by decide, rfl⟩ ?_
        refine wp_icmp_ge (tgt := 296) dX11_move_173 rfl (fun c_173 => ?_) (fun c_173 => ?_)
        · exact streams q o4 hDq.1 e28 ea e16 e19 ho hQq
        · exact absurd (nI_le (show q.1 6 ≤ q.1 24 by omega) (by omega)) c_173
      | succ k ih =>
        intro q o4 hDq e28 ea e16 e19 e6 ek ho hQq
        have b6 := hDq.2.1
        have okq := hDq.1
        have hlt : q.1 24 < q.1 6 := by omega
        have h5 := okq.2.1 5 (q.1 24)
        have o15 := okq.1 15
        refine wp_aload_n dX11_move_165 rfl ?_
        refine wr_geti 24 dX11_move_166 fl_X11_216 ⟨by decide, rfl⟩ ?_
        refine wp_aload_n dX11_move_169 rfl ?_
        refine wr_geti 6 dX11_move_170 fl_X11_137 ⟨by decide, rfl⟩ ?_
        refine wp_icmp_ge (tgt := 296) dX11_move_173 rfl (fun c_173 => ?_) (fun c_173 => ?_)
        · exact absurd c_173 (nI_ge hlt (by omega))
        · refine wp_aload_n dX11_move_176 rfl ?_
          refine wr_geta 9 5 dX11_move_177 fl_X11_26 ⟨by decide, rfl⟩ ?_
          refine wp_aload_n dX11_move_180 rfl ?_
          refine wr_geti 24 dX11_move_181 fl_X11_216 ⟨by decide, rfl⟩ ?_
          refine wr_iald dX11_move_184 ⟨by decide, rfl⟩ rfl (by show q.1 24 < 2400; omega) (by decide) ?_
          refine wp_aload_n dX11_move_185 rfl ?_
          refine wr_geti 15 dX11_move_186 fl_X11_196 ⟨by decide, rfl⟩ ?_
          refine wp_icmp_gt (tgt := 296) dX11_move_189 rfl (fun c_189 => ?_) (fun c_189 => ?_)
          · have : ¬ q.2.1 5 (q.1 24) ≤ q.1 15 := by
              have := (nI_ltI (by omega) (by omega)).mp c_189
              omega
            rw [r_gots, if_neg this] at hQq
            exact streams q o4 hDq.1 e28 ea e16 e19 ho hQq
          · have hle : q.2.1 5 (q.1 24) ≤ q.1 15 := by
              rcases Nat.lt_or_ge (q.1 15) (q.2.1 5 (q.1 24)) with z | z
              · exact absurd (nI_lt z (by omega)) c_189
              · exact z
            rw [r_gots, if_pos hle] at hQq
            obtain ⟨g1, g2, g3, g4⟩ := hDq.got1 hlt
            have next := fun o4 ho => ih (r_got1 q) o4 g1 (by rw [g4 28 (by decide) (by decide) (by decide), e28]) (by rw [g3, ea]) (by rw [g4 16 (by decide) (by decide) (by decide), e16]) (by rw [g4 19 (by decide) (by decide) (by decide), e19]) (by rw [g4 6 (by decide) (by decide) (by decide), e6]) (by omega) ho hQq
            refine wp_aload_n dX11_move_192 rfl ?_
            refine wr_geta 7 3 dX11_move_193 fl_X11_20 ⟨by decide, rfl⟩ ?_
            refine wp_aload_n dX11_move_196 rfl ?_
            refine wr_geti 24 dX11_move_197 fl_X11_216 ⟨by decide, rfl⟩ ?_
            refine wr_lald dX11_move_200 ⟨by decide, rfl⟩ rfl (by show q.1 24 < 2400; omega) (by decide) ?_
            refine wp_aload_n dX11_move_201 rfl ?_
            refine wr_geta 8 4 dX11_move_202 fl_X11_23 ⟨by decide, rfl⟩ ?_
            refine wp_aload_n dX11_move_205 rfl ?_
            refine wr_geti 24 dX11_move_206 fl_X11_216 ⟨by decide, rfl⟩ ?_
            refine wr_lald dX11_move_209 ⟨by decide, rfl⟩ rfl (by show q.1 24 < 2400; omega) (by decide) ?_
            refine wp_callS (As := [.long (lN (q.2.2 3 (q.1 24))), .long (lN (q.2.2 4 (q.1 24)))]) (rest := []) dX11_move_210 me_X11_sizeOf cw_X11_159 ⟨(Nat.le_of_ble_eq_true rfl), (Nat.le_of_ble_eq_true rfl)⟩ rfl rfl rfl (Nat.le_of_ble_eq_true rfl) (ct_sizeOf (okq.2.2 _ _) (okq.2.2 _ _)) (fun r h1 z => ?_)
            obtain ⟨rfl, rfl⟩ := z
            rw [show 32 + bln (q.2.2 3 (q.1 24)) + bln (q.2.2 4 (q.1 24)) = r_sz q (q.1 24) from rfl]
            refine wp_istore dX11_move_213 (Nat.le_of_ble_eq_true rfl) (by cases o4 with | none => rfl | some w => rfl) ?_
            have hszq := hDq.2.2.2.2.2.2.2 (q.1 24) hlt
            have hcq := hDq.2.2.2.2.2.2.1
            unfold r_got1 at next
            generalize hsz : r_sz q (q.1 24) = size at next hszq ⊢
            have inner : ∀ (j : Nat) (t : rs), rok t → t.1 0 = q.1 0 → t.1 24 = q.1 24 → t.2 = q.2 → t.1 25 + j = q.1 24 → t.1 26 = r_sum t (t.1 25) j → t.1 26 ≤ 400 → (∀ o4 : Option Value, (∀ w, o4 = some w → w.category = 1) → fp_wp G rm_X11_move M_X11_move 165 [some (.ref m), some (.int (nI 0)), some (.int (nI n)), some (.int (nI now)), o4] [] (r_hp h0 m (r_si (r_si (r_gev t size j) 26 ((r_gev t size j).1 26 + size)) 24 (q.1 24 + 1))) Q) → fp_wp G rm_X11_move M_X11_move 215 [some (.ref m), some (.int (nI 0)), some (.int (nI n)), some (.int (nI now)), some (.int (nI size))] [] (r_hp h0 m t) Q := by
              have fin : ∀ t : rs, t.1 24 = q.1 24 → (∀ o4 : Option Value, (∀ w, o4 = some w → w.category = 1) → fp_wp G rm_X11_move M_X11_move 165 [some (.ref m), some (.int (nI 0)), some (.int (nI n)), some (.int (nI now)), o4] [] (r_hp h0 m (r_si (r_si t 26 (t.1 26 + size)) 24 (q.1 24 + 1))) Q) → fp_wp G rm_X11_move M_X11_move 272 [some (.ref m), some (.int (nI 0)), some (.int (nI n)), some (.int (nI now)), some (.int (nI size))] [] (r_hp h0 m t) Q := by
                intro t t24 hk
                refine wp_aload_n dX11_move_272 rfl ?_
                refine wp_dup dX11_move_273 rfl ?_
                refine wr_geti 26 dX11_move_274 fl_X11_231 ⟨by decide, rfl⟩ ?_
                refine wp_iload dX11_move_277 rfl ?_
                refine wp_iadd dX11_move_279 ?_
                refine wr_puti dX11_move_280 (fs_X11_231 _) ⟨by decide, rfl⟩ (nI_add _ _) ?_
                refine wp_aload_n dX11_move_283 rfl ?_
                refine wp_dup dX11_move_284 rfl ?_
                refine wr_geti 24 dX11_move_285 fl_X11_216 ⟨by decide, rfl⟩ ?_
                refine wp_iconst (v := 1) dX11_move_288 rfl ?_
                refine wp_iadd dX11_move_289 ?_
                refine wr_puti dX11_move_290 (fs_X11_216 _) ⟨by decide, rfl⟩ (nI_1 _) ?_
                refine wp_goto (tgt := 165) dX11_move_293 rfl ?_
                have := hk (some (.int (nI size))) (fun w e => by cases e; rfl)
                rw [← t24] at this
                exact this
              intro j
              induction j with
              | zero =>
                intro t okt t0 t24 ta t25 t26 tle hk
                have hz : t.1 26 = 0 := t26
                refine wp_aload_n dX11_move_215 rfl ?_
                refine wr_geti 26 dX11_move_216 fl_X11_231 ⟨by decide, rfl⟩ ?_
                refine wp_iload dX11_move_219 rfl ?_
                refine wp_iadd dX11_move_221 ?_
                refine wp_aload_n dX11_move_222 rfl ?_
                refine wr_geti 0 dX11_move_223 fl_X11_91 ⟨by decide, rfl⟩ ?_
                refine wp_icmp_le (tgt := 272) dX11_move_226 rfl (fun c_226 => ?_) (fun c_226 => ?_)
                · exact fin t t24 hk
                · refine absurd ?_ c_226
                  rw [nI_add]
                  exact nI_le (by omega) (by omega)
              | succ j ihj =>
                intro t okt t0 t24 ta t25 t26 tle hk
                rw [r_sum] at t26
                have hzz := r_sz_le t (t.1 25)
                refine wp_aload_n dX11_move_215 rfl ?_
                refine wr_geti 26 dX11_move_216 fl_X11_231 ⟨by decide, rfl⟩ ?_
                refine wp_iload dX11_move_219 rfl ?_
                refine wp_iadd dX11_move_221 ?_
                refine wp_aload_n dX11_move_222 rfl ?_
                refine wr_geti 0 dX11_move_223 fl_X11_91 ⟨by decide, rfl⟩ ?_
                refine wp_icmp_le (tgt := 272) dX11_move_226 rfl (fun c_226 => ?_) (fun c_226 => ?_)
                · rw [nI_add] at c_226
                  have : t.1 26 + size ≤ t.1 0 := (nI_leI (by omega) (by omega)).mp c_226
                  rw [r_gev, if_pos this] at hk
                  exact fin t t24 hk
                · rw [nI_add] at c_226
                  have : ¬ t.1 26 + size ≤ t.1 0 := fun z => c_226 (nI_le z (by omega))
                  rw [r_gev, if_neg this] at hk
                  refine wp_aload_n dX11_move_229 rfl ?_
                  refine wp_dup dX11_move_230 rfl ?_
                  refine wr_geti 26 dX11_move_231 fl_X11_231 ⟨by decide, rfl⟩ ?_
                  refine wp_aload_n dX11_move_234 rfl ?_
                  refine wr_geta 7 3 dX11_move_235 fl_X11_20 ⟨by decide, rfl⟩ ?_
                  refine wp_aload_n dX11_move_238 rfl ?_
                  refine wr_geti 25 dX11_move_239 fl_X11_234 ⟨by decide, rfl⟩ ?_
                  refine wr_lald dX11_move_242 ⟨by decide, rfl⟩ rfl (by show t.1 25 < 2400; omega) (by decide) ?_
                  refine wp_aload_n dX11_move_243 rfl ?_
                  refine wr_geta 8 4 dX11_move_244 fl_X11_23 ⟨by decide, rfl⟩ ?_
                  refine wp_aload_n dX11_move_247 rfl ?_
                  refine wr_geti 25 dX11_move_248 fl_X11_234 ⟨by decide, rfl⟩ ?_
                  refine wr_lald dX11_move_251 ⟨by decide, rfl⟩ rfl (by show t.1 25 < 2400; omega) (by decide) ?_
                  refine wp_callS (As := [.long (lN (t.2.2 3 (t.1 25))), .long (lN (t.2.2 4 (t.1 25)))]) (rest := [.int (nI (t.1 26)), .ref m]) dX11_move_252 me_X11_sizeOf cw_X11_159 ⟨(Nat.le_of_ble_eq_true rfl), (Nat.le_of_ble_eq_true rfl)⟩ rfl rfl rfl (Nat.le_of_ble_eq_true rfl) (ct_sizeOf (okt.2.2 _ _) (okt.2.2 _ _)) (fun r h1 z => ?_)
                  obtain ⟨rfl, rfl⟩ := z
                  refine wp_isub dX11_move_255 ?_
                  rw [show 32 + bln (t.2.2 3 (t.1 25)) + bln (t.2.2 4 (t.1 25)) = r_sz t (t.1 25) from rfl, pk_sub (show r_sz t (t.1 25) ≤ t.1 26 by omega)]
                  refine wr_puti dX11_move_256 (fs_X11_231 _) ⟨by decide, rfl⟩ rfl ?_
                  refine wp_aload_n dX11_move_259 rfl ?_
                  refine wp_dup dX11_move_260 rfl ?_
                  refine wr_geti 25 dX11_move_261 fl_X11_234 ⟨by decide, rfl⟩ ?_
                  refine wp_iconst (v := 1) dX11_move_264 rfl ?_
                  refine wp_iadd dX11_move_265 ?_
                  refine wr_puti dX11_move_266 (fs_X11_234 _) ⟨by decide, rfl⟩ (nI_1 _) ?_
                  refine wp_goto (tgt := 215) dX11_move_269 rfl ?_
                  refine ihj _ ((okt.si (by omega)).si (by show t.1 25 + 1 < _; omega)) t0 t24 ta ?_ ?_ ?_ hk
                  · show t.1 25 + 1 + j = _
                    omega
                  · show t.1 26 - _ = r_sum _ (t.1 25 + 1) j
                    refine Eq.trans ?_ (r_sum_l (p := r_si (r_si t 26 (t.1 26 - r_sz t (t.1 25))) 25 ((r_si t 26 (t.1 26 - r_sz t (t.1 25))).1 25 + 1)) (q := t) rfl j (t.1 25 + 1)).symm
                    omega
                  · show t.1 26 - _ ≤ _
                    omega
            have c25 := hDq.2.2.2.1
            have c26 := hDq.2.2.2.2.1
            have c0 := hDq.2.2.2.2.2.1
            exact inner (q.1 24 - q.1 25) q okq rfl rfl rfl (by omega) c26 (by omega) next
    refine loop (p.1 6 - p.1 24) p1 none hD1 a28 aa a16 a19 a6 (by omega) (fun w e => by cases e) ?_
    exact hQ
  have o13 := ok.1 13
  refine wp_aload_n dX11_move_128 rfl ?_
  refine wr_geti 13 dX11_move_129 fl_X11_104 ⟨by decide, rfl⟩ ?_
  refine wp_aload_n dX11_move_132 rfl ?_
  refine wr_geti 15 dX11_move_133 fl_X11_196 ⟨by decide, rfl⟩ ?_
  refine wp_isub dX11_move_136 ?_
  rw [pk_sub hcs]
  refine wp_iload_n dX11_move_137 rfl ?_
  refine wp_icmp_ge (tgt := 153) dX11_move_138 rfl (fun c_138 => ?_) (fun c_138 => ?_)
  · have : n ≤ p.1 13 - p.1 15 := (nI_leI (by omega) (by omega)).mp c_138
    refine wp_iload_n dX11_move_153 rfl ?_
    exact main n (by omega)
  · have : ¬ n ≤ p.1 13 - p.1 15 := fun z => c_138 (nI_le z (by omega))
    refine wp_aload_n dX11_move_141 rfl ?_
    refine wr_geti 13 dX11_move_142 fl_X11_104 ⟨by decide, rfl⟩ ?_
    refine wp_aload_n dX11_move_145 rfl ?_
    refine wr_geti 15 dX11_move_146 fl_X11_196 ⟨by decide, rfl⟩ ?_
    refine wp_isub dX11_move_149 ?_
    rw [pk_sub hcs]
    refine wp_goto (tgt := 154) dX11_move_150 rfl ?_
    exact main _ (by omega)
end RC
