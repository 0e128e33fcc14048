/-! Reader: what it takes, as functions of (at, cut) -/
def k_tk (f : Nat → Nat) (e : Nat) (s : Nat × Bool) : Nat × (Nat × Bool) := if s.1 < e then (f s.1, (s.1 + 1, s.2)) else (0, (s.1, true))
def k_nl (f : Nat → Nat) (e : Nat) : Nat → Nat → Nat → Nat × Bool → Nat × (Nat × Bool)
  | 0, _, v, s => (v, s)
  | g + 1, m, v, s => if (k_tk f e s).1 < 128 then (v + (k_tk f e s).1 % 128 * m, (k_tk f e s).2) else k_nl f e g (m * 128) (v + (k_tk f e s).1 % 128 * m) (k_tk f e s).2
def k_num (f : Nat → Nat) (e n : Nat) (s : Nat × Bool) : Nat × (Nat × Bool) := if (k_tk f e s).1 % 2 ^ n < 2 ^ n - 1 then ((k_tk f e s).1 % 2 ^ n, (k_tk f e s).2) else k_nl f e 4 1 ((k_tk f e s).1 % 2 ^ n) (k_tk f e s).2
def k_tl (f : Nat → Nat) (e : Nat) : Nat → Nat → Nat × Bool → Nat × (Nat × Bool)
  | 0, v, s => (v, s)
  | g + 1, v, s => k_tl f e g (v * 256 + (k_tk f e s).1) (k_tk f e s).2
def k_txt (f : Nat → Nat) (e n : Nat) (s : Nat × Bool) : Nat × (Nat × Bool) := k_tl f e (min 8 (k_num f e n s).1) 0 (k_num f e n s).2
/-- the front byte, as front() gives it -/
def k_fr (f : Nat → Nat) (e : Nat) (s : Nat × Bool) : Nat × (Nat × Bool) := if s.1 < e then (f s.1, s) else (0, (s.1, true))
/-- s' lies behind s -/
def k_le (e : Nat) (s s' : Nat × Bool) : Prop := s.1 ≤ s'.1 ∧ (s.1 ≤ e → s'.1 ≤ e) ∧ (s.2 = true → s'.2 = true)
theorem k_le.refl {e : Nat} {s : Nat × Bool} : k_le e s s := ⟨Nat.le_refl _, id, id⟩
theorem k_le.trans {e : Nat} {s s1 s2 : Nat × Bool} (a : k_le e s s1) (b : k_le e s1 s2) : k_le e s s2 := ⟨Nat.le_trans a.1 b.1, fun h => b.2.1 (a.2.1 h), fun h => b.2.2 (a.2.2 h)⟩
theorem k_tk_le (f : Nat → Nat) (e : Nat) (s : Nat × Bool) : k_le e s (k_tk f e s).2 := by
  unfold k_tk
  split
  · exact ⟨Nat.le_succ _, fun _ => by show s.1 + 1 ≤ e; omega, id⟩
  · exact ⟨Nat.le_refl _, id, fun _ => rfl⟩
theorem k_tk_lt {f : Nat → Nat} {e : Nat} {s : Nat × Bool} (hf : ∀ i, i < e → f i < 256) : (k_tk f e s).1 < 256 := by
  unfold k_tk
  split
  · exact hf _ (by assumption)
  · show 0 < 256; decide
theorem k_nl_le (f : Nat → Nat) (e : Nat) : ∀ (g m v : Nat) (s : Nat × Bool), k_le e s (k_nl f e g m v s).2 := by
  intro g
  induction g with
  | zero => intro m v s; exact k_le.refl
  | succ g ih =>
    intro m v s
    rw [k_nl]
    split
    · exact k_tk_le f e s
    · exact (k_tk_le f e s).trans (ih _ _ _)
theorem k_num_le (f : Nat → Nat) (e n : Nat) (s : Nat × Bool) : k_le e s (k_num f e n s).2 := by
  unfold k_num
  split
  · exact k_tk_le f e s
  · exact (k_tk_le f e s).trans (k_nl_le f e _ _ _ _)
theorem k_tl_le (f : Nat → Nat) (e : Nat) : ∀ (g v : Nat) (s : Nat × Bool), k_le e s (k_tl f e g v s).2 := by
  intro g
  induction g with
  | zero => intro v s; exact k_le.refl
  | succ g ih => intro v s; exact (k_tk_le f e s).trans (ih _ _)
theorem k_txt_le (f : Nat → Nat) (e n : Nat) (s : Nat × Bool) : k_le e s (k_txt f e n s).2 := (k_num_le f e n s).trans (k_tl_le f e _ _ _)
theorem k_nl_lt (f : Nat → Nat) (e : Nat) : ∀ (g m v : Nat) (s : Nat × Bool), (k_nl f e g m v s).1 < v + m * 128 ^ g + 1 := by
  intro g
  induction g with
  | zero => intro m v s; show v < _; omega
  | succ g ih =>
    intro m v s
    have h1 : (k_tk f e s).1 % 128 * m ≤ 127 * m := Nat.mul_le_mul_right m (by omega)
    have h3 : 1 ≤ 128 ^ g := Nat.pow_pos (by decide)
    have h2 : m * 128 ^ (g + 1) = m * 128 ^ g * 128 := by rw [Nat.pow_succ, Nat.mul_assoc]
    have h4 : m ≤ m * 128 ^ g := Nat.le_mul_of_pos_right m h3
    rw [k_nl]
    split
    · show v + _ < _
      omega
    · have hm : m * 128 * 128 ^ g = m * 128 ^ g * 128 := by rw [Nat.mul_right_comm]
      have h5 := ih (m * 128) (v + (k_tk f e s).1 % 128 * m) (k_tk f e s).2
      rw [hm] at h5
      have h6 : (k_nl f e g (m * 128) (v + (k_tk f e s).1 % 128 * m) (k_tk f e s).2).1 ≤ v + m * 128 ^ g * 128 + 127 * m := by omega
      clear h5
      -- the sharper count
      have sharp : ∀ (g m v : Nat) (s : Nat × Bool), (k_nl f e g m v s).1 + m ≤ v + m * 128 ^ g := by
        intro g
        induction g with
        | zero => intro m v s; show v + m ≤ _; omega
        | succ g ih2 =>
          intro m v s
          have h1 : (k_tk f e s).1 % 128 * m + m ≤ 128 * m := by
            have : ((k_tk f e s).1 % 128 + 1) * m ≤ 128 * m := Nat.mul_le_mul_right m (by omega)
            rw [Nat.add_mul] at this
            omega
          have h3 : 1 ≤ 128 ^ g := Nat.pow_pos (by decide)
          have h2 : m * 128 ^ (g + 1) = m * 128 ^ g * 128 := by rw [Nat.pow_succ, Nat.mul_assoc]
          have h4 : m ≤ m * 128 ^ g := Nat.le_mul_of_pos_right m h3
          rw [k_nl]
          split
          · show v + _ + m ≤ _
            omega
          · have h5 := ih2 (m * 128) (v + (k_tk f e s).1 % 128 * m) (k_tk f e s).2
            rw [show m * 128 * 128 ^ g = m * 128 ^ g * 128 by rw [Nat.mul_right_comm]] at h5
            omega
      have h7 := sharp g (m * 128) (v + (k_tk f e s).1 % 128 * m) (k_tk f e s).2
      rw [hm] at h7
      omega
theorem k_num_lt (f : Nat → Nat) (e n : Nat) (s : Nat × Bool) (hn : n < 9) : (k_num f e n s).1 < 2 ^ 29 := by
  have h2n : 2 ^ n ≤ 2 ^ 8 := Nat.pow_le_pow_right (by decide) (by omega)
  have h2p : 0 < 2 ^ n := Nat.pow_pos (by decide)
  have hm : (k_tk f e s).1 % 2 ^ n < 2 ^ n := Nat.mod_lt _ h2p
  unfold k_num
  split
  · show (k_tk f e s).1 % 2 ^ n < _
    omega
  · have := k_nl_lt f e 4 1 ((k_tk f e s).1 % 2 ^ n) (k_tk f e s).2
    omega
theorem fp_put_put {h : fp_H} {a t t' : Nat} {e e' : fp_E} : fp_put (fp_put h a t e) a t' e' = fp_put h a t' e' := by
  refine Prod.ext ?_ rfl
  funext q
  simp only [fp_put]
  split <;> rfl
theorem fp_put_self {h : fp_H} {a t : Nat} {e : fp_E} (ha : h.1 a = some (t, e)) : fp_put h a t e = h := by
  refine Prod.ext ?_ rfl
  funext q
  simp only [fp_put]
  split
  · rename_i e1; rw [e1, ha]
  · rfl
/-- a Reader's cell -/
def rc (b e : Nat) (s : Nat × Bool) : fp_E := .inr (7, [.ref b, .int (nI s.1), .int (nI e), .int (nI (b2n s.2))])
theorem byt.rd {h : fp_H} {t b cap a t' : Nat} {xs : List Nat} {x : List Value} {e : fp_E} (hb : byt h t b xs cap) (ha : h.1 a = some (t', .inr (7, x))) : byt (fp_put h a t' e) t b xs cap := by
  obtain ⟨r, f, h1, h2, h3⟩ := hb
  refine ⟨r, f, ?_, ?_, h3⟩
  · rw [fp_put_ne (fun e => by rw [e, ha] at h1; cases h1)]; exact h1
  · rw [fp_put_ne (kind_ne h2 ha)]; exact h2
/-- a Reader over Bytes -/
def rdr (h : fp_H) (t a tb b : Nat) (xs : List Nat) (e : Nat) (s : Nat × Bool) : Prop := h.1 a = some (t, rc b e s) ∧ (∃ cap, byt h tb b xs cap) ∧ e ≤ xs.length ∧ (∀ x ∈ xs, x < 256) ∧ s.1 ≤ e ∧ e < 2 ^ 24
theorem rdr.put {h : fp_H} {t a tb b e : Nat} {xs : List Nat} {s s' : Nat × Bool} (h1 : rdr h t a tb b xs e s) (hs : s'.1 ≤ e) : rdr (fp_put h a t (rc b e s')) t a tb b xs e s' := by
  obtain ⟨h1, ⟨cap, h2⟩, h3, h4, h5⟩ := h1
  exact ⟨fp_put_eq, ⟨cap, h2.rd h1⟩, h3, h4, hs, h5.2⟩
theorem rdr.lt {h : fp_H} {t a tb b e : Nat} {xs : List Nat} {s : Nat × Bool} (h1 : rdr h t a tb b xs e s) : ∀ i, i < e → xs.getD i 0 < 256 := by
  intro i hi
  have : i < xs.length := by have := h1.2.2.1; omega
  rw [List.getD_eq_getElem?_getD, List.getElem?_eq_getElem this]
  exact h1.2.2.2.1 _ (List.getElem_mem this)
theorem shl7 : ∀ x, x < 128 → ∀ i, i < 4 → nI x <<< (nI (7 * i) &&& 31) = nI (x * 128 ^ i) := by decide +kernel
theorem and127' {b : Nat} (hb : b < 256) : nI b &&& 127 = nI (b % 128) := by
  have : ∀ b, b < 256 → nI b &&& 127 = nI (b % 128) := by decide +kernel
  exact this b hb
theorem andm {b n : Nat} : nI b &&& nI (2 ^ n - 1) = nI (b % 2 ^ n) := by rw [nx_and, Nat.and_two_pow_sub_one_eq_mod]
theorem dX6_front_0 : decode cX6_front 0 = .ok (.aload_n 0, 1) := by decide +kernel
theorem dX6_front_1 : decode cX6_front 1 = .ok (.getfield 19, 3) := by decide +kernel
theorem dX6_front_4 : decode cX6_front 4 = .ok (.aload_n 0, 1) := by decide +kernel
theorem dX6_front_5 : decode cX6_front 5 = .ok (.getfield 15, 3) := by decide +kernel
theorem dX6_front_8 : decode cX6_front 8 = .ok (.if_icmp .lt 10, 3) := by decide +kernel
theorem dX6_front_11 : decode cX6_front 11 = .ok (.aload_n 0, 1) := by decide +kernel
theorem dX6_front_12 : decode cX6_front 12 = .ok (.iconst 1, 1) := by decide +kernel
theorem dX6_front_13 : decode cX6_front 13 = .ok (.putfield 22, 3) := by decide +kernel
theorem dX6_front_16 : decode cX6_front 16 = .ok (.iconst 0, 1) := by decide +kernel
theorem dX6_front_17 : decode cX6_front 17 = .ok (.ireturn, 1) := by decide +kernel
theorem dX6_front_18 : decode cX6_front 18 = .ok (.aload_n 0, 1) := by decide +kernel
theorem dX6_front_19 : decode cX6_front 19 = .ok (.getfield 9, 3) := by decide +kernel
theorem dX6_front_22 : decode cX6_front 22 = .ok (.getfield 26, 3) := by decide +kernel
theorem dX6_front_25 : decode cX6_front 25 = .ok (.aload_n 0, 1) := by decide +kernel
theorem dX6_front_26 : decode cX6_front 26 = .ok (.getfield 19, 3) := by decide +kernel
theorem dX6_front_29 : decode cX6_front 29 = .ok (.iaload, 1) := by decide +kernel
theorem dX6_front_30 : decode cX6_front 30 = .ok (.ireturn, 1) := by decide +kernel
theorem dX6_take_0 : decode cX6_take 0 = .ok (.aload_n 0, 1) := by decide +kernel
theorem dX6_take_1 : decode cX6_take 1 = .ok (.getfield 19, 3) := by decide +kernel
theorem dX6_take_4 : decode cX6_take 4 = .ok (.aload_n 0, 1) := by decide +kernel
theorem dX6_take_5 : decode cX6_take 5 = .ok (.getfield 15, 3) := by decide +kernel
theorem dX6_take_8 : decode cX6_take 8 = .ok (.if_icmp .lt 10, 3) := by decide +kernel
theorem dX6_take_11 : decode cX6_take 11 = .ok (.aload_n 0, 1) := by decide +kernel
theorem dX6_take_12 : decode cX6_take 12 = .ok (.iconst 1, 1) := by decide +kernel
theorem dX6_take_13 : decode cX6_take 13 = .ok (.putfield 22, 3) := by decide +kernel
theorem dX6_take_16 : decode cX6_take 16 = .ok (.iconst 0, 1) := by decide +kernel
theorem dX6_take_17 : decode cX6_take 17 = .ok (.ireturn, 1) := by decide +kernel
theorem dX6_take_18 : decode cX6_take 18 = .ok (.aload_n 0, 1) := by decide +kernel
theorem dX6_take_19 : decode cX6_take 19 = .ok (.getfield 9, 3) := by decide +kernel
theorem dX6_take_22 : decode cX6_take 22 = .ok (.getfield 26, 3) := by decide +kernel
theorem dX6_take_25 : decode cX6_take 25 = .ok (.aload_n 0, 1) := by decide +kernel
theorem dX6_take_26 : decode cX6_take 26 = .ok (.getfield 19, 3) := by decide +kernel
theorem dX6_take_29 : decode cX6_take 29 = .ok (.iaload, 1) := by decide +kernel
theorem dX6_take_30 : decode cX6_take 30 = .ok (.istore_n 1, 1) := by decide +kernel
theorem dX6_take_31 : decode cX6_take 31 = .ok (.aload_n 0, 1) := by decide +kernel
theorem dX6_take_32 : decode cX6_take 32 = .ok (.dup, 1) := by decide +kernel
theorem dX6_take_33 : decode cX6_take 33 = .ok (.getfield 19, 3) := by decide +kernel
theorem dX6_take_36 : decode cX6_take 36 = .ok (.iconst 1, 1) := by decide +kernel
theorem dX6_take_37 : decode cX6_take 37 = .ok (.iadd, 1) := by decide +kernel
theorem dX6_take_38 : decode cX6_take 38 = .ok (.putfield 19, 3) := by decide +kernel
theorem dX6_take_41 : decode cX6_take 41 = .ok (.iload_n 1, 1) := by decide +kernel
theorem dX6_take_42 : decode cX6_take 42 = .ok (.ireturn, 1) := by decide +kernel
theorem dX6_takeNumber_0 : decode cX6_takeNumber 0 = .ok (.iconst 1, 1) := by decide +kernel
theorem dX6_takeNumber_1 : decode cX6_takeNumber 1 = .ok (.iload_n 1, 1) := by decide +kernel
theorem dX6_takeNumber_2 : decode cX6_takeNumber 2 = .ok (.ishl, 1) := by decide +kernel
theorem dX6_takeNumber_3 : decode cX6_takeNumber 3 = .ok (.iconst 1, 1) := by decide +kernel
theorem dX6_takeNumber_4 : decode cX6_takeNumber 4 = .ok (.isub, 1) := by decide +kernel
theorem dX6_takeNumber_5 : decode cX6_takeNumber 5 = .ok (.istore_n 2, 1) := by decide +kernel
theorem dX6_takeNumber_6 : decode cX6_takeNumber 6 = .ok (.aload_n 0, 1) := by decide +kernel
theorem dX6_takeNumber_7 : decode cX6_takeNumber 7 = .ok (.invokevirtual 32, 3) := by decide +kernel
theorem dX6_takeNumber_10 : decode cX6_takeNumber 10 = .ok (.iload_n 2, 1) := by decide +kernel
theorem dX6_takeNumber_11 : decode cX6_takeNumber 11 = .ok (.iand, 1) := by decide +kernel
theorem dX6_takeNumber_12 : decode cX6_takeNumber 12 = .ok (.istore_n 3, 1) := by decide +kernel
theorem dX6_takeNumber_13 : decode cX6_takeNumber 13 = .ok (.iload_n 3, 1) := by decide +kernel
theorem dX6_takeNumber_14 : decode cX6_takeNumber 14 = .ok (.iload_n 2, 1) := by decide +kernel
theorem dX6_takeNumber_15 : decode cX6_takeNumber 15 = .ok (.if_icmp .ge 5, 3) := by decide +kernel
theorem dX6_takeNumber_18 : decode cX6_takeNumber 18 = .ok (.iload_n 3, 1) := by decide +kernel
theorem dX6_takeNumber_19 : decode cX6_takeNumber 19 = .ok (.ireturn, 1) := by decide +kernel
theorem dX6_takeNumber_20 : decode cX6_takeNumber 20 = .ok (.iconst 0, 1) := by decide +kernel
theorem dX6_takeNumber_21 : decode cX6_takeNumber 21 = .ok (.istore 4, 2) := by decide +kernel
theorem dX6_takeNumber_23 : decode cX6_takeNumber 23 = .ok (.iload 4, 2) := by decide +kernel
theorem dX6_takeNumber_25 : decode cX6_takeNumber 25 = .ok (.bipush 28, 2) := by decide +kernel
theorem dX6_takeNumber_27 : decode cX6_takeNumber 27 = .ok (.if_icmp .ge 36, 3) := by decide +kernel
theorem dX6_takeNumber_30 : decode cX6_takeNumber 30 = .ok (.aload_n 0, 1) := by decide +kernel
theorem dX6_takeNumber_31 : decode cX6_takeNumber 31 = .ok (.invokevirtual 32, 3) := by decide +kernel
theorem dX6_takeNumber_34 : decode cX6_takeNumber 34 = .ok (.istore 5, 2) := by decide +kernel
theorem dX6_takeNumber_36 : decode cX6_takeNumber 36 = .ok (.iload_n 3, 1) := by decide +kernel
theorem dX6_takeNumber_37 : decode cX6_takeNumber 37 = .ok (.iload 5, 2) := by decide +kernel
theorem dX6_takeNumber_39 : decode cX6_takeNumber 39 = .ok (.bipush 127, 2) := by decide +kernel
theorem dX6_takeNumber_41 : decode cX6_takeNumber 41 = .ok (.iand, 1) := by decide +kernel
theorem dX6_takeNumber_42 : decode cX6_takeNumber 42 = .ok (.iload 4, 2) := by decide +kernel
theorem dX6_takeNumber_44 : decode cX6_takeNumber 44 = .ok (.ishl, 1) := by decide +kernel
theorem dX6_takeNumber_45 : decode cX6_takeNumber 45 = .ok (.iadd, 1) := by decide +kernel
theorem dX6_takeNumber_46 : decode cX6_takeNumber 46 = .ok (.istore_n 3, 1) := by decide +kernel
theorem dX6_takeNumber_47 : decode cX6_takeNumber 47 = .ok (.iload 5, 2) := by decide +kernel
theorem dX6_takeNumber_49 : decode cX6_takeNumber 49 = .ok (.sipush 128, 3) := by decide +kernel
theorem dX6_takeNumber_52 : decode cX6_takeNumber 52 = .ok (.if_icmp .ge 5, 3) := by decide +kernel
theorem dX6_takeNumber_55 : decode cX6_takeNumber 55 = .ok (.iload_n 3, 1) := by decide +kernel
theorem dX6_takeNumber_56 : decode cX6_takeNumber 56 = .ok (.ireturn, 1) := by decide +kernel
theorem dX6_takeNumber_57 : decode cX6_takeNumber 57 = .ok (.iinc 4 7, 3) := by decide +kernel
theorem dX6_takeNumber_60 : decode cX6_takeNumber 60 = .ok (.goto (-37), 3) := by decide +kernel
theorem dX6_takeNumber_63 : decode cX6_takeNumber 63 = .ok (.iload_n 3, 1) := by decide +kernel
theorem dX6_takeNumber_64 : decode cX6_takeNumber 64 = .ok (.ireturn, 1) := by decide +kernel
theorem dX6_takeText_0 : decode cX6_takeText 0 = .ok (.bipush 8, 2) := by decide +kernel
theorem dX6_takeText_2 : decode cX6_takeText 2 = .ok (.aload_n 0, 1) := by decide +kernel
theorem dX6_takeText_3 : decode cX6_takeText 3 = .ok (.iload_n 1, 1) := by decide +kernel
theorem dX6_takeText_4 : decode cX6_takeText 4 = .ok (.invokevirtual 36, 3) := by decide +kernel
theorem dX6_takeText_7 : decode cX6_takeText 7 = .ok (.invokestatic 40, 3) := by decide +kernel
theorem dX6_takeText_10 : decode cX6_takeText 10 = .ok (.istore_n 2, 1) := by decide +kernel
theorem dX6_takeText_11 : decode cX6_takeText 11 = .ok (.lconst 0, 1) := by decide +kernel
theorem dX6_takeText_12 : decode cX6_takeText 12 = .ok (.lstore_n 3, 1) := by decide +kernel
theorem dX6_takeText_13 : decode cX6_takeText 13 = .ok (.iconst 0, 1) := by decide +kernel
theorem dX6_takeText_14 : decode cX6_takeText 14 = .ok (.istore 5, 2) := by decide +kernel
theorem dX6_takeText_16 : decode cX6_takeText 16 = .ok (.iload 5, 2) := by decide +kernel
theorem dX6_takeText_18 : decode cX6_takeText 18 = .ok (.iload_n 2, 1) := by decide +kernel
theorem dX6_takeText_19 : decode cX6_takeText 19 = .ok (.if_icmp .ge 20, 3) := by decide +kernel
theorem dX6_takeText_22 : decode cX6_takeText 22 = .ok (.lload_n 3, 1) := by decide +kernel
theorem dX6_takeText_23 : decode cX6_takeText 23 = .ok (.bipush 8, 2) := by decide +kernel
theorem dX6_takeText_25 : decode cX6_takeText 25 = .ok (.lshl, 1) := by decide +kernel
theorem dX6_takeText_26 : decode cX6_takeText 26 = .ok (.aload_n 0, 1) := by decide +kernel
theorem dX6_takeText_27 : decode cX6_takeText 27 = .ok (.invokevirtual 32, 3) := by decide +kernel
theorem dX6_takeText_30 : decode cX6_takeText 30 = .ok (.i2l, 1) := by decide +kernel
theorem dX6_takeText_31 : decode cX6_takeText 31 = .ok (.lor, 1) := by decide +kernel
theorem dX6_takeText_32 : decode cX6_takeText 32 = .ok (.lstore_n 3, 1) := by decide +kernel
theorem dX6_takeText_33 : decode cX6_takeText 33 = .ok (.iinc 5 1, 3) := by decide +kernel
theorem dX6_takeText_36 : decode cX6_takeText 36 = .ok (.goto (-20), 3) := by decide +kernel
theorem dX6_takeText_39 : decode cX6_takeText 39 = .ok (.lload_n 3, 1) := by decide +kernel
theorem dX6_takeText_40 : decode cX6_takeText 40 = .ok (.lreturn, 1) := by decide +kernel
theorem dX6_rewind_0 : decode cX6_rewind 0 = .ok (.aload_n 0, 1) := by decide +kernel
theorem dX6_rewind_1 : decode cX6_rewind 1 = .ok (.iload_n 1, 1) := by decide +kernel
theorem dX6_rewind_2 : decode cX6_rewind 2 = .ok (.putfield 19, 3) := by decide +kernel
theorem dX6_rewind_5 : decode cX6_rewind 5 = .ok (.aload_n 0, 1) := by decide +kernel
theorem dX6_rewind_6 : decode cX6_rewind 6 = .ok (.iconst 0, 1) := by decide +kernel
theorem dX6_rewind_7 : decode cX6_rewind 7 = .ok (.putfield 22, 3) := by decide +kernel
theorem dX6_rewind_10 : decode cX6_rewind 10 = .ok (.return_, 1) := by decide +kernel
theorem dX6_left_0 : decode cX6_left 0 = .ok (.aload_n 0, 1) := by decide +kernel
theorem dX6_left_1 : decode cX6_left 1 = .ok (.getfield 15, 3) := by decide +kernel
theorem dX6_left_4 : decode cX6_left 4 = .ok (.aload_n 0, 1) := by decide +kernel
theorem dX6_left_5 : decode cX6_left 5 = .ok (.getfield 19, 3) := by decide +kernel
theorem dX6_left_8 : decode cX6_left 8 = .ok (.isub, 1) := by decide +kernel
theorem dX6_left_9 : decode cX6_left 9 = .ok (.ireturn, 1) := by decide +kernel
theorem dX6_init_0 : decode cX6_init 0 = .ok (.aload_n 0, 1) := by decide +kernel
theorem dX6_init_1 : decode cX6_init 1 = .ok (.invokespecial 3, 3) := by decide +kernel
theorem dX6_init_4 : decode cX6_init 4 = .ok (.aload_n 0, 1) := by decide +kernel
theorem dX6_init_5 : decode cX6_init 5 = .ok (.aload_n 1, 1) := by decide +kernel
theorem dX6_init_6 : decode cX6_init 6 = .ok (.putfield 9, 3) := by decide +kernel
theorem dX6_init_9 : decode cX6_init 9 = .ok (.aload_n 0, 1) := by decide +kernel
theorem dX6_init_10 : decode cX6_init 10 = .ok (.iload_n 2, 1) := by decide +kernel
theorem dX6_init_11 : decode cX6_init 11 = .ok (.putfield 15, 3) := by decide +kernel
theorem dX6_init_14 : decode cX6_init 14 = .ok (.return_, 1) := by decide +kernel
section CD
variable {G : fp_G} {h : fp_H} {t a tb b e : Nat} {xs : List Nat}
theorem cr_left {s : Nat × Bool} (hr : rdr h t a tb b xs e s) : fp_ct G rm_X6_left M_X6_left [.ref a] h (fun r h' => h' = h ∧ r = some (.int (nI (e - s.1)))) := by
  refine fp_meth pn_X6 (Nat.le_of_ble_eq_true rfl) rfl ?_
  refine wp_aload_n dX6_left_0 rfl ?_
  refine wp_getf dX6_left_1 fl_X6_15 hr.1 rfl ?_
  refine wp_aload_n dX6_left_4 rfl ?_
  refine wp_getf dX6_left_5 fl_X6_19 hr.1 rfl ?_
  refine wp_isub dX6_left_8 ?_
  refine wp_iret dX6_left_9 rfl rfl ?_
  exact ⟨rfl, by rw [pk_sub hr.2.2.2.2.1]⟩
theorem cr_rewind {s : Nat × Bool} {i : Nat} (hr : rdr h t a tb b xs e s) : fp_ct G rm_X6_rewind M_X6_rewind [.ref a, .int (nI i)] h (fun r h' => r = none ∧ h' = fp_put h a t (rc b e (i, false))) := by
  refine fp_meth pn_X6 (Nat.le_of_ble_eq_true rfl) rfl ?_
  refine wp_aload_n dX6_rewind_0 rfl ?_
  refine wp_iload_n dX6_rewind_1 rfl ?_
  refine wp_putf dX6_rewind_2 (fs_X6_19 _) hr.1 (Nat.le_of_ble_eq_true rfl) rfl rfl ?_
  refine wp_aload_n dX6_rewind_5 rfl ?_
  refine wp_iconst (v := 0) dX6_rewind_6 rfl ?_
  refine wp_putf dX6_rewind_7 (fs_X6_22 _) fp_put_eq (Nat.le_of_ble_eq_true rfl) rfl rfl ?_
  refine wp_vret dX6_rewind_10 rfl ?_
  exact ⟨rfl, by rw [fp_put_put]; rfl⟩
theorem cr_front {s : Nat × Bool} (hr : rdr h t a tb b xs e s) : fp_ct G rm_X6_front M_X6_front [.ref a] h (fun r h' => r = some (.int (nI (k_fr (fun i => xs.getD i 0) e s).1)) ∧ h' = fp_put h a t (rc b e (k_fr (fun i => xs.getD i 0) e s).2)) := by
  obtain ⟨h1, ⟨cap, r, f, h2, h3, h4, h5, h6⟩, h7, h8, h9⟩ := hr
  refine fp_meth pn_X6 (Nat.le_of_ble_eq_true rfl) rfl ?_
  refine wp_aload_n dX6_front_0 rfl ?_
  refine wp_getf dX6_front_1 fl_X6_19 h1 rfl ?_
  refine wp_aload_n dX6_front_4 rfl ?_
  refine wp_getf dX6_front_5 fl_X6_15 h1 rfl ?_
  refine wp_icmp_lt (tgt := 18) dX6_front_8 rfl (fun c_8 => ?_) (fun c_8 => ?_)
  · have hlt : s.1 < e := (nI_ltI (by omega) (by omega)).mp c_8
    refine wp_aload_n dX6_front_18 rfl ?_
    refine wp_getf dX6_front_19 fl_X6_9 h1 rfl ?_
    refine wp_getf dX6_front_22 fl_X6_26 h2 rfl ?_
    refine wp_aload_n dX6_front_25 rfl ?_
    refine wp_getf dX6_front_26 fl_X6_19 h1 rfl ?_
    refine wp_iald dX6_front_29 rfl h3 (vp_in_nI (by omega) (by omega)) ?_
    refine wp_iret dX6_front_30 rfl rfl ?_
    rw [nI_clamp (by omega), h6 _ (by omega), k_fr, if_pos hlt]
    exact ⟨rfl, (fp_put_self h1).symm⟩
  · have hge : ¬ s.1 < e := fun q => c_8 (nI_lt q (by omega))
    refine wp_aload_n dX6_front_11 rfl ?_
    refine wp_iconst (v := 1) dX6_front_12 rfl ?_
    refine wp_putf dX6_front_13 (fs_X6_22 _) h1 (Nat.le_of_ble_eq_true rfl) rfl rfl ?_
    refine wp_iconst (v := 0) dX6_front_16 rfl ?_
    refine wp_iret dX6_front_17 rfl rfl ?_
    rw [k_fr, if_neg hge]
    exact ⟨rfl, rfl⟩
theorem cr_take {s : Nat × Bool} (hr : rdr h t a tb b xs e s) : fp_ct G rm_X6_take M_X6_take [.ref a] h (fun r h' => r = some (.int (nI (k_tk (fun i => xs.getD i 0) e s).1)) ∧ h' = fp_put h a t (rc b e (k_tk (fun i => xs.getD i 0) e s).2)) := by
  obtain ⟨h1, ⟨cap, r, f, h2, h3, h4, h5, h6⟩, h7, h8, h9⟩ := hr
  refine fp_meth pn_X6 (Nat.le_of_ble_eq_true rfl) rfl ?_
  refine wp_aload_n dX6_take_0 rfl ?_
  refine wp_getf dX6_take_1 fl_X6_19 h1 rfl ?_
  refine wp_aload_n dX6_take_4 rfl ?_
  refine wp_getf dX6_take_5 fl_X6_15 h1 rfl ?_
  refine wp_icmp_lt (tgt := 18) dX6_take_8 rfl (fun c_8 => ?_) (fun c_8 => ?_)
  · have hlt : s.1 < e := (nI_ltI (by omega) (by omega)).mp c_8
    refine wp_aload_n dX6_take_18 rfl ?_
    refine wp_getf dX6_take_19 fl_X6_9 h1 rfl ?_
    refine wp_getf dX6_take_22 fl_X6_26 h2 rfl ?_
    refine wp_aload_n dX6_take_25 rfl ?_
    refine wp_getf dX6_take_26 fl_X6_19 h1 rfl ?_
    refine wp_iald dX6_take_29 rfl h3 (vp_in_nI (by omega) (by omega)) ?_
    refine wp_istore_n dX6_take_30 (Nat.le_of_ble_eq_true rfl) rfl ?_
    refine wp_aload_n dX6_take_31 rfl ?_
    refine wp_dup dX6_take_32 rfl ?_
    refine wp_getf dX6_take_33 fl_X6_19 h1 rfl ?_
    refine wp_iconst (v := 1) dX6_take_36 rfl ?_
    refine wp_iadd dX6_take_37 ?_
    refine wp_putf dX6_take_38 (fs_X6_19 _) h1 (Nat.le_of_ble_eq_true rfl) rfl rfl ?_
    refine wp_iload_n dX6_take_41 rfl ?_
    refine wp_iret dX6_take_42 rfl rfl ?_
    rw [nI_clamp (by omega), h6 _ (by omega), k_tk, if_pos hlt]
    exact ⟨rfl, by rw [nI_1]; rfl⟩
  · have hge : ¬ s.1 < e := fun q => c_8 (nI_lt q (by omega))
    refine wp_aload_n dX6_take_11 rfl ?_
    refine wp_iconst (v := 1) dX6_take_12 rfl ?_
    refine wp_putf dX6_take_13 (fs_X6_22 _) h1 (Nat.le_of_ble_eq_true rfl) rfl rfl ?_
    refine wp_iconst (v := 0) dX6_take_16 rfl ?_
    refine wp_iret dX6_take_17 rfl rfl ?_
    rw [k_tk, if_neg hge]
    exact ⟨rfl, rfl⟩
theorem cr_num {s : Nat × Bool} {n : Nat} (hn : n < 9) (hr : rdr h t a tb b xs e s) : fp_ct G rm_X6_takeNumber M_X6_takeNumber [.ref a, .int (nI n)] h (fun r h' => r = some (.int (nI (k_num (fun i => xs.getD i 0) e n s).1)) ∧ h' = fp_put h a t (rc b e (k_num (fun i => xs.getD i 0) e n s).2)) := by
  have h2n : 2 ^ n ≤ 2 ^ 8 := Nat.pow_le_pow_right (by decide) (by omega)
  have h2p : 0 < 2 ^ n := Nat.pow_pos (by decide)
  have hlt := hr.lt
  refine fp_meth pn_X6 (Nat.le_of_ble_eq_true rfl) rfl ?_
  refine wp_iconst (v := 1) dX6_takeNumber_0 rfl ?_
  refine wp_iload_n dX6_takeNumber_1 rfl ?_
  refine wp_ishl dX6_takeNumber_2 ?_
  refine wp_iconst (v := 1) dX6_takeNumber_3 rfl ?_
  refine wp_isub dX6_takeNumber_4 ?_
  rw [sh1 n hn]
  refine wp_istore_n dX6_takeNumber_5 (Nat.le_of_ble_eq_true rfl) rfl ?_
  refine wp_aload_n dX6_takeNumber_6 rfl ?_
  refine wp_callV (As := []) (rest := []) dX6_takeNumber_7 me_X6_take cw_X6_32 rfl ⟨(Nat.le_of_ble_eq_true rfl), (Nat.le_of_ble_eq_true rfl)⟩ rfl rfl rfl (Nat.le_of_ble_eq_true rfl) hr.1 (cr_take hr) (fun r h1 q => ?_)
  obtain ⟨rfl, rfl⟩ := q
  have b1 := k_tk_lt (s := s) hlt
  have l1 := (k_tk_le (fun i => xs.getD i 0) e s).2.1 hr.2.2.2.2.1
  rw [k_num]
  generalize k_tk (fun i => xs.getD i 0) e s = T at b1 l1 ⊢
  have hm : T.1 % 2 ^ n < 2 ^ n := Nat.mod_lt _ h2p
  refine wp_iload_n dX6_takeNumber_10 rfl ?_
  refine wp_iand dX6_takeNumber_11 ?_
  rw [andm]
  refine wp_istore_n dX6_takeNumber_12 (Nat.le_of_ble_eq_true rfl) rfl ?_
  refine wp_iload_n dX6_takeNumber_13 rfl ?_
  refine wp_iload_n dX6_takeNumber_14 rfl ?_
  refine wp_icmp_ge (tgt := 20) dX6_takeNumber_15 rfl (fun c_15 => ?_) (fun c_15 => ?_)
  · have hge : ¬ T.1 % 2 ^ n < 2 ^ n - 1 := fun q => nI_ge q (by omega) c_15
    rw [if_neg hge]
    refine wp_iconst (v := 0) dX6_takeNumber_20 rfl ?_
    refine wp_istore dX6_takeNumber_21 (Nat.le_of_ble_eq_true rfl) rfl ?_
    have loop : ∀ (g i v : Nat) (z : Option Value) (s1 : Nat × Bool), g + i = 4 → v < 2 ^ 29 - 128 ^ 4 + 128 ^ i → s1.1 ≤ e → fp_wp G rm_X6_takeNumber M_X6_takeNumber 23 [some (.ref a), some (.int (nI n)), some (.int (nI (2 ^ n - 1))), some (.int (nI v)), some (.int (nI (7 * i))), z] [] (fp_put h a t (rc b e s1)) (fun r h' => r = some (.int (nI (k_nl (fun i => xs.getD i 0) e g (128 ^ i) v s1).1)) ∧ h' = fp_put h a t (rc b e (k_nl (fun i => xs.getD i 0) e g (128 ^ i) v s1).2)) := by
      intro g
      induction g with
      | zero =>
        intro i v z s1 hi hv hs1
        have : i = 4 := by omega
        subst this
        refine wp_iload dX6_takeNumber_23 rfl ?_
        refine wp_bipush (v := 28) dX6_takeNumber_25 rfl ?_
        refine wp_icmp_ge (tgt := 63) dX6_takeNumber_27 rfl (fun c_27 => ?_) (fun c_27 => ?_)
        · refine wp_iload_n dX6_takeNumber_63 rfl ?_
          refine wp_iret dX6_takeNumber_64 rfl rfl ?_
          exact ⟨rfl, rfl⟩
        · exact absurd (by decide) c_27
      | succ g ih =>
        intro i v z s1 hi hv hs1
        have hr1 := hr.put hs1
        refine wp_iload dX6_takeNumber_23 rfl ?_
        refine wp_bipush (v := 28) dX6_takeNumber_25 rfl ?_
        refine wp_icmp_ge (tgt := 63) dX6_takeNumber_27 rfl (fun c_27 => ?_) (fun c_27 => ?_)
        · have := (nI_leI (a := 28) (b := 7 * i) (by decide) (by omega)).mp c_27
          omega
        · refine wp_aload_n dX6_takeNumber_30 rfl ?_
          refine wp_callV (As := []) (rest := []) dX6_takeNumber_31 me_X6_take cw_X6_32 rfl ⟨(Nat.le_of_ble_eq_true rfl), (Nat.le_of_ble_eq_true rfl)⟩ rfl rfl rfl (Nat.le_of_ble_eq_true rfl) hr1.1 (cr_take hr1) (fun r h1 q => ?_)
          obtain ⟨rfl, rfl⟩ := q
          have b2 := k_tk_lt (s := s1) hlt
          have l2 := (k_tk_le (fun i => xs.getD i 0) e s1).2.1 hs1
          rw [k_nl]
          generalize k_tk (fun i => xs.getD i 0) e s1 = U at b2 l2 ⊢
          rw [fp_put_put]
          refine wp_istore dX6_takeNumber_34 (Nat.le_of_ble_eq_true rfl) rfl ?_
          refine wp_iload_n dX6_takeNumber_36 rfl ?_
          refine wp_iload dX6_takeNumber_37 rfl ?_
          refine wp_bipush (v := 127) dX6_takeNumber_39 rfl ?_
          refine wp_iand dX6_takeNumber_41 ?_
          refine wp_iload dX6_takeNumber_42 rfl ?_
          refine wp_ishl dX6_takeNumber_44 ?_
          refine wp_iadd dX6_takeNumber_45 ?_
          rw [and127' b2, shl7 (U.1 % 128) (by omega) i (by omega), nI_add]
          refine wp_istore_n dX6_takeNumber_46 (Nat.le_of_ble_eq_true rfl) rfl ?_
          refine wp_iload dX6_takeNumber_47 rfl ?_
          refine wp_sipush (v := 128) dX6_takeNumber_49 rfl ?_
          refine wp_icmp_ge (tgt := 57) dX6_takeNumber_52 rfl (fun c_52 => ?_) (fun c_52 => ?_)
          · have : ¬ U.1 < 128 := fun q => nI_ge (b := 128) q (by decide) c_52
            rw [if_neg this]
            refine wp_iinc dX6_takeNumber_57 rfl rfl ?_
            refine wp_goto (tgt := 23) dX6_takeNumber_60 rfl ?_
            rw [show nI (7 * i) + Int32.ofInt 7 = nI (7 * (i + 1)) from by rw [show Int32.ofInt 7 = nI 7 from rfl, nI_add]; congr 1]
            have hw : U.1 % 128 * 128 ^ i + 128 ^ i ≤ 128 ^ (i + 1) := by
              have : (U.1 % 128 + 1) * 128 ^ i ≤ 128 * 128 ^ i := Nat.mul_le_mul_right _ (by omega)
              rw [Nat.add_mul] at this
              rw [Nat.pow_succ]
              omega
            have := ih (i + 1) (v + U.1 % 128 * 128 ^ i) (some (.int (nI U.1))) U.2 (by omega) (by omega) l2
            rw [Nat.pow_succ] at this
            exact this
          · have : U.1 < 128 := by
              rcases Nat.lt_or_ge U.1 128 with q | q
              · exact q
              · exact absurd (nI_le (a := 128) q (by omega)) c_52
            rw [if_pos this]
            refine wp_iload_n dX6_takeNumber_55 rfl ?_
            refine wp_iret dX6_takeNumber_56 rfl rfl ?_
            exact ⟨rfl, rfl⟩
    exact loop 4 0 (T.1 % 2 ^ n) none T.2 rfl (by omega) l1
  · have hlt : T.1 % 2 ^ n < 2 ^ n - 1 := by
      rcases Nat.lt_or_ge (T.1 % 2 ^ n) (2 ^ n - 1) with q | q
      · exact q
      · exact absurd (nI_le q (by omega)) c_15
    rw [if_pos hlt]
    refine wp_iload_n dX6_takeNumber_18 rfl ?_
    refine wp_iret dX6_takeNumber_19 rfl rfl ?_
    exact ⟨rfl, rfl⟩
theorem cr_txt {s : Nat × Bool} {n : Nat} (hn : n < 9) (hr : rdr h t a tb b xs e s) : fp_ct G rm_X6_takeText M_X6_takeText [.ref a, .int (nI n)] h (fun r h' => r = some (.long (lN (k_txt (fun i => xs.getD i 0) e n s).1)) ∧ h' = fp_put h a t (rc b e (k_txt (fun i => xs.getD i 0) e n s).2)) := by
  have hlt := hr.lt
  refine fp_meth pn_X6 (Nat.le_of_ble_eq_true rfl) rfl ?_
  refine wp_bipush (v := 8) dX6_takeText_0 rfl ?_
  refine wp_aload_n dX6_takeText_2 rfl ?_
  refine wp_iload_n dX6_takeText_3 rfl ?_
  refine wp_callV (As := [.int (nI n)]) (rest := [.int 8]) dX6_takeText_4 me_X6_takeNumber cw_X6_36 rfl ⟨(Nat.le_of_ble_eq_true rfl), (Nat.le_of_ble_eq_true rfl)⟩ rfl rfl rfl (Nat.le_of_ble_eq_true rfl) hr.1 (cr_num hn hr) (fun r h1 q => ?_)
  obtain ⟨rfl, rfl⟩ := q
  have b1 := k_num_lt (fun i => xs.getD i 0) e n s hn
  have l1 := (k_num_le (fun i => xs.getD i 0) e n s).2.1 hr.2.2.2.2.1
  rw [k_txt]
  generalize k_num (fun i => xs.getD i 0) e n s = T at b1 l1 ⊢
  refine wp_callS (As := [.int 8, .int (nI T.1)]) (rest := []) dX6_takeText_7 me_J9_min_7cf53 cw_X6_40 ⟨(Nat.le_of_ble_eq_true rfl), (Nat.le_of_ble_eq_true rfl)⟩ rfl rfl rfl (Nat.le_of_ble_eq_true rfl) (ct_min 8 (nI T.1)) (fun r h2 q => ?_)
  obtain ⟨rfl, rfl⟩ := q
  have em : (if nI T.1 < 8 then nI T.1 else 8) = nI (min 8 T.1) := by
    show (if nI T.1 < nI 8 then nI T.1 else nI 8) = nI (min 8 T.1)
    by_cases q : T.1 < 8
    · rw [if_pos (nI_lt (b := 8) q (by decide)), Nat.min_eq_right (by omega)]
    · rw [if_neg (fun z => q ((nI_ltI (b := 8) (by omega) (by decide)).mp z)), Nat.min_eq_left (by omega)]
  rw [em]
  have hm8 : min 8 T.1 ≤ 8 := Nat.min_le_left _ _
  generalize min 8 T.1 = m at hm8 ⊢
  refine wp_istore_n dX6_takeText_10 (Nat.le_of_ble_eq_true rfl) rfl ?_
  refine wp_lconst (v := 0) dX6_takeText_11 rfl ?_
  refine wp_lstore_n dX6_takeText_12 (Nat.le_of_ble_eq_true rfl) rfl ?_
  refine wp_iconst (v := 0) dX6_takeText_13 rfl ?_
  refine wp_istore dX6_takeText_14 (Nat.le_of_ble_eq_true rfl) rfl ?_
  have loop : ∀ (g i v : Nat) (s1 : Nat × Bool), g + i = m → v < 256 ^ i → s1.1 ≤ e → fp_wp G rm_X6_takeText M_X6_takeText 16 [some (.ref a), some (.int (nI n)), some (.int (nI m)), some (.long (lN v)), none, some (.int (nI i))] [] (fp_put h a t (rc b e s1)) (fun r h' => r = some (.long (lN (k_tl (fun i => xs.getD i 0) e g v s1).1)) ∧ h' = fp_put h a t (rc b e (k_tl (fun i => xs.getD i 0) e g v s1).2)) := by
    intro g
    induction g with
    | zero =>
      intro i v s1 hi hv hs1
      have : i = m := by omega
      subst this
      refine wp_iload dX6_takeText_16 rfl ?_
      refine wp_iload_n dX6_takeText_18 rfl ?_
      refine wp_icmp_ge (tgt := 39) dX6_takeText_19 rfl (fun c_19 => ?_) (fun c_19 => ?_)
      · refine wp_lload_n dX6_takeText_39 rfl ?_
        refine wp_lret dX6_takeText_40 rfl ?_
        exact ⟨rfl, rfl⟩
      · exact absurd (nI_le (Nat.le_refl _) (by omega)) c_19
    | succ g ih =>
      intro i v s1 hi hv hs1
      have hr1 := hr.put hs1
      have h8 : 256 ^ i ≤ 256 ^ 7 := Nat.pow_le_pow_right (by decide) (by omega)
      refine wp_iload dX6_takeText_16 rfl ?_
      refine wp_iload_n dX6_takeText_18 rfl ?_
      refine wp_icmp_ge (tgt := 39) dX6_takeText_19 rfl (fun c_19 => ?_) (fun c_19 => ?_)
      · have := (nI_leI (by omega) (by omega)).mp c_19
        omega
      · refine wp_lload_n dX6_takeText_22 rfl ?_
        refine wp_bipush (v := 8) dX6_takeText_23 rfl ?_
        refine wp_lshl dX6_takeText_25 ?_
        refine wp_aload_n dX6_takeText_26 rfl ?_
        refine wp_callV (As := []) (rest := [.long (lN v <<< ((8 : Int32).toInt64 &&& 63))]) dX6_takeText_27 me_X6_take cw_X6_32 rfl ⟨(Nat.le_of_ble_eq_true rfl), (Nat.le_of_ble_eq_true rfl)⟩ rfl rfl rfl (Nat.le_of_ble_eq_true rfl) hr1.1 (cr_take hr1) (fun r h1 q => ?_)
        obtain ⟨rfl, rfl⟩ := q
        have b2 := k_tk_lt (s := s1) hlt
        have l2 := (k_tk_le (fun i => xs.getD i 0) e s1).2.1 hs1
        rw [k_tl]
        generalize k_tk (fun i => xs.getD i 0) e s1 = U at b2 l2 ⊢
        rw [fp_put_put]
        refine wp_i2l dX6_takeText_30 ?_
        refine wp_lor dX6_takeText_31 ?_
        rw [show lN v <<< ((8 : Int32).toInt64 &&& 63) = lN (v * 256) from wb_shl v (k := 8) (by decide), nI_l (by omega), g_or (k := 8) (p := 256) rfl b2 (by omega)]
        refine wp_lstore_n dX6_takeText_32 (Nat.le_of_ble_eq_true rfl) rfl ?_
        refine wp_iinc dX6_takeText_33 rfl rfl ?_
        refine wp_goto (tgt := 16) dX6_takeText_36 rfl ?_
        rw [show nI i + Int32.ofInt 1 = nI (i + 1) from nI_1 i]
        exact ih (i + 1) (v * 256 + U.1) U.2 (by omega) (by rw [Nat.pow_succ]; omega) l2
  exact loop m 0 0 T.2 rfl (by decide) l1
end CD
