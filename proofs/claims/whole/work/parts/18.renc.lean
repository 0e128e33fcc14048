/-! the reference: encode -/
theorem r_sum_app (p : rs) : ∀ (n a : Nat), r_sum p a (n + 1) = r_sum p a n + r_sz p (a + n) := by
  intro n
  induction n with
  | zero => intro a; simp [r_sum]
  | succ n ih =>
    intro a
    rw [r_sum, ih (a + 1), r_sum, show a + 1 + n = a + (n + 1) by omega]
    omega
theorem r_sum_eq {p q : rs} : ∀ (n a : Nat), (∀ i, a ≤ i → i < a + n → r_sz p i = r_sz q i) → r_sum p a n = r_sum q a n := by
  intro n
  induction n with
  | zero => intro a _; rfl
  | succ n ih =>
    intro a h
    rw [r_sum, r_sum, ih (a + 1) (fun i h1 h2 => h i (by omega) (by omega)), h a (Nat.le_refl _) (by omega)]
/-- what holds while a section is made: at most 12 * sections + a entries, b references of it -/
def r_J (p : rs) (a b : Nat) : Prop := rok p ∧ p.1 28 < 200 ∧ (∀ k, k < 200 → p.2.1 20 k ≤ 12) ∧ p.2.1 20 (p.1 28) ≤ b ∧ p.1 10 ≤ p.1 6 ∧ p.1 6 ≤ 12 * p.1 28 + a ∧ p.1 11 = r_sum p (p.1 10) (p.1 6 - p.1 10) ∧ p.1 11 ≤ p.1 0 ∧ p.1 0 ≤ 400 ∧ p.1 13 ≤ 18 * p.1 6 ∧ ∀ i, i < 12 → p.2.1 2 i ≤ 1
theorem r_J.mono {p : rs} {a b a' b' : Nat} (h : r_J p a b) (ha : a ≤ a') (hb : b ≤ b') : r_J p a' b' := by
  obtain ⟨h1, h2, h3, h4, h5, h6, h7⟩ := h
  exact ⟨h1, h2, h3, by omega, h5, by omega, h7⟩
theorem r_J.says {p : rs} {a b f : Nat} (h : r_J p a b) (hf : f < 12) : r_J (r_says p f) a b := by
  obtain ⟨ok, h2, h3, h4, h5, h6, h7, h8, h9, h10, h11⟩ := h
  have e20 : (r_says p f).2.1 20 = p.2.1 20 := by funext i; simp [r_says, r_sa, r_sl]
  have e2 : (r_says p f).2.1 2 = p.2.1 2 := by funext i; simp [r_says, r_sa, r_sl]
  refine ⟨((ok.sl (ok.2.2 _ _)).sl (ok.2.2 _ _)).sa (ok.2.1 _ _), h2, by rw [e20]; exact h3, by rw [e20]; exact h4, h5, h6, ?_, h8, h9, h10, by rw [e2]; exact h11⟩
  show p.1 11 = r_sum _ (p.1 10) (p.1 6 - p.1 10)
  rw [h7]
  exact r_sum_eq _ _ (fun i _ _ => by simp [r_sz, r_says, r_sa, r_sl])
theorem r_J.lays2 {p : rs} {a b : Nat} {l : List Nat} (h : r_J p a b) (hl : ∀ x ∈ l, x < 2 ^ 30) (hc : p.1 44 + l.length ≤ 400) : r_J (r_lays p 2 l) a b := by
  obtain ⟨ok, h2, h3, h4, h5, h6, h7, h8, h9, h10, h11⟩ := h
  have k : ∀ x, x ≠ 44 → (r_lays p 2 l).1 x = p.1 x := fun x hx => r_lays_k (show x ≠ r_wc 2 from hx) _ _
  have ka : ∀ j, j ≠ 25 → (r_lays p 2 l).2.1 j = p.2.1 j := fun j hj => r_lays_a (show j ≠ r_wa 2 from hj) _ _
  refine ⟨rok.lays _ _ ok hl (by show p.1 44 + _ < _; omega), ?_, ?_, ?_, ?_, ?_, ?_, ?_, ?_, ?_, ?_⟩
  · rw [k 28 (by decide)]; exact h2
  · rw [ka 20 (by decide)]; exact h3
  · rw [ka 20 (by decide), k 28 (by decide)]; exact h4
  · rw [k 10 (by decide), k 6 (by decide)]; exact h5
  · rw [k 6 (by decide), k 28 (by decide)]; exact h6
  · rw [k 11 (by decide), k 10 (by decide), k 6 (by decide), r_sum_l (r_lays_l _ _)]; exact h7
  · rw [k 11 (by decide), k 0 (by decide)]; exact h8
  · rw [k 0 (by decide)]; exact h9
  · rw [k 13 (by decide), k 6 (by decide)]; exact h10
  · rw [ka 2 (by decide)]; exact h11
theorem r_J.ref {p : rs} {a b j : Nat} (h : r_J p a b) (hb : b < 12) (hj : j < 2 ^ 29) : r_J (r_ref p j) a (b + 1) := by
  obtain ⟨ok, h2, h3, h4, h5, h6, h7, h8, h9, h10, h11⟩ := h
  have o12 := ok.2.1 12 (p.1 28)
  refine ⟨((ok.sa (by omega)).sa (by omega)).sa (by omega), h2, ?_, ?_, h5, h6, h7.trans (r_sum_l (q := p) (p := r_ref p j) rfl _ _).symm, h8, h9, h10, ?_⟩
  · intro k hk
    show (r_ref p j).2.1 20 k ≤ 12
    simp only [r_ref, r_sa]
    by_cases e : k = p.1 28
    · subst e; simp; omega
    · simp [e]; exact h3 k hk
  · show (r_ref p j).2.1 20 (p.1 28) ≤ b + 1
    simp only [r_ref, r_sa]
    simp
    omega
  · intro i hi
    show (r_ref p j).2.1 2 i ≤ 1
    simp only [r_ref, r_sa]
    simp
    exact h11 i hi
theorem r_J.ins {p : rs} {a b u v : Nat} (h : r_J p a b) (ha : a < 12) (hu : u < 2 ^ 64) (hv : v < 2 ^ 64) (hfit : 32 + bln u + bln v ≤ p.1 0) : r_J (r_ins p u v) (a + 1) b := by
  obtain ⟨ok, h2, h3, h4, h5, h6, h7, h8, h9, h10, h11⟩ := h
  have hib := r_ib_len p u v
  have k10 : (r_lays p 0 (r_ib p u v)).1 10 = p.1 10 := r_lays_k (by decide) _ _
  have k11 : (r_lays p 0 (r_ib p u v)).1 11 = p.1 11 := r_lays_k (by decide) _ _
  have k0 : (r_lays p 0 (r_ib p u v)).1 0 = p.1 0 := r_lays_k (by decide) _ _
  have k6 : (r_lays p 0 (r_ib p u v)).1 6 = p.1 6 := r_lays_k (by decide) _ _
  have k13 : (r_lays p 0 (r_ib p u v)).1 13 = p.1 13 + (r_ib p u v).length := r_lays_c 0 _ _
  have kl : (r_lays p 0 (r_ib p u v)).2.2 = p.2.2 := r_lays_l _ _
  obtain ⟨t1, t2, t3, t4⟩ := r_ev_t (p.1 6 - p.1 10) (r_lays p 0 (r_ib p u v)) (32 + bln u + bln v) (by rw [k11, k10, r_sum_l kl]; exact h7) (by rw [k0]; exact hfit)
  rw [k10] at t1 t2 t3
  rw [k0] at t4
  rw [r_sum_l kl] at t3
  have e6 := r_ev_k (k := 6) (by decide) (by decide) (p.1 6 - p.1 10) (r_lays p 0 (r_ib p u v)) (32 + bln u + bln v)
  have e0 := r_ev_k (k := 0) (by decide) (by decide) (p.1 6 - p.1 10) (r_lays p 0 (r_ib p u v)) (32 + bln u + bln v)
  have e13 := r_ev_k (k := 13) (by decide) (by decide) (p.1 6 - p.1 10) (r_lays p 0 (r_ib p u v)) (32 + bln u + bln v)
  have ea := r_ev_a (p.1 6 - p.1 10) (r_lays p 0 (r_ib p u v)) (32 + bln u + bln v)
  rw [k6] at e6; rw [k0] at e0; rw [k13] at e13
  have i28 : (r_ins p u v).1 28 = p.1 28 := r_ins_k (by decide) (by decide) (by decide) (by decide)
  have i20 : (r_ins p u v).2.1 20 = p.2.1 20 := r_ins_a (by decide) (by decide)
  have i2 : (r_ins p u v).2.1 2 = p.2.1 2 := r_ins_a (by decide) (by decide)
  have i10 : (r_ins p u v).1 10 = (r_ev (r_lays p 0 (r_ib p u v)) (32 + bln u + bln v) (p.1 6 - p.1 10)).1 10 := by simp [r_ins, r_app, r_si, r_sa, r_sl]
  have i11 : (r_ins p u v).1 11 = (r_ev (r_lays p 0 (r_ib p u v)) (32 + bln u + bln v) (p.1 6 - p.1 10)).1 11 + (32 + bln u + bln v) := by simp [r_ins, r_app, r_si, r_sa, r_sl]
  have i0 : (r_ins p u v).1 0 = p.1 0 := r_ins_k (by decide) (by decide) (by decide) (by decide)
  have i13 : (r_ins p u v).1 13 = p.1 13 + (r_ib p u v).length := by
    have : (r_ins p u v).1 13 = (r_ev (r_lays p 0 (r_ib p u v)) (32 + bln u + bln v) (p.1 6 - p.1 10)).1 13 := by simp [r_ins, r_app, r_si, r_sa, r_sl]
    rw [this, e13]
  have i3 : ∀ i, (r_ins p u v).2.2 3 i = if i = p.1 6 then u else p.2.2 3 i := by
    intro i
    have : (r_ins p u v).2.2 3 i = if i = (r_ev (r_lays p 0 (r_ib p u v)) (32 + bln u + bln v) (p.1 6 - p.1 10)).1 6 then u else (r_ev (r_lays p 0 (r_ib p u v)) (32 + bln u + bln v) (p.1 6 - p.1 10)).2.2 3 i := by simp [r_ins, r_app, r_si, r_sa, r_sl]
    rw [this, e6, ea, kl]
  have i4 : ∀ i, (r_ins p u v).2.2 4 i = if i = p.1 6 then v else p.2.2 4 i := by
    intro i
    have : (r_ins p u v).2.2 4 i = if i = (r_ev (r_lays p 0 (r_ib p u v)) (32 + bln u + bln v) (p.1 6 - p.1 10)).1 6 then v else (r_ev (r_lays p 0 (r_ib p u v)) (32 + bln u + bln v) (p.1 6 - p.1 10)).2.2 4 i := by simp [r_ins, r_app, r_si, r_sa, r_sl]
    rw [this, e6, ea, kl]
  have i6 : (r_ins p u v).1 6 = p.1 6 + 1 := r_ins_6
  refine ⟨rok.ins ok hu hv h5 (by omega) (by omega) (by omega), by rw [i28]; exact h2, by rw [i20]; exact h3, by rw [i20, i28]; exact h4, ?_, ?_, ?_, ?_, ?_, ?_, ?_⟩
  · rw [i10, i6]; omega
  · rw [i6, i28]; omega
  · rw [i11, i10, i6]
    generalize (r_ev (r_lays p 0 (r_ib p u v)) (32 + bln u + bln v) (p.1 6 - p.1 10)).1 10 = x at t1 t2 t3
    rw [show p.1 6 + 1 - x = (p.1 6 - x) + 1 by omega, r_sum_app, show x + (p.1 6 - x) = p.1 6 by omega]
    rw [r_sum_eq (q := p) (p.1 6 - x) x (fun i h1 h2 => by rw [r_sz, r_sz, i3, i4, if_neg (by omega), if_neg (by omega)])]
    rw [r_sz, i3, i4, if_pos rfl, if_pos rfl, t3, show p.1 10 + (p.1 6 - p.1 10) - x = p.1 6 - x by omega]
  · rw [i11, i0]; exact t4
  · rw [i0]; exact h9
  · rw [i13, i6]; omega
  · rw [i2]; exact h11
theorem nb_lt' {F n v : Nat} (hF : F < 256) (hn : n < 9) (hv : v < 2 ^ 29) {l : List Nat} (hl : ∀ b ∈ l, b < 2 ^ 30) : ∀ b ∈ nb F n v ++ l, b < 2 ^ 30 := fun b hb => by
  rcases List.mem_append.mp hb with hb | hb
  · exact nb_lt hF hn hv b hb
  · exact hl b hb
theorem r_lays_44 (p : rs) (l : List Nat) : (r_lays p 2 l).1 44 = p.1 44 + l.length := r_lays_c 2 l p
theorem r_J.lb {p : rs} {a b u v s base : Nat} {risk : Bool} (h : r_J p a b) (ha : a ≤ 12) (hb : b < 12) (hs : s ≤ 1) (hbase : base < 2 ^ 28) (hl : p.1 44 + 19 ≤ 400) : r_J (r_lb p u v s base risk) a (b + 1) ∧ (r_lb p u v s base risk).1 44 ≤ p.1 44 + 19 := by
  have bu := bln_le u
  have bv := bln_le v
  have h6 : p.1 6 < 2 ^ 20 := by
    obtain ⟨_, h2, _, _, _, h6, _⟩ := h
    omega
  have e7 : (nb 0 7 (bln v) ++ txb v).length ≤ 9 := by rw [List.length_append, nb_len1 (by omega), txb_len]; omega
  have lt7 := nb_lt' (F := 0) (n := 7) (v := bln v) (by decide) (by decide) (by omega) (txb_lt v)
  have fin : ∀ p1 : rs, r_J p1 a (b + 1) → p1.1 44 ≤ p.1 44 + 10 → r_J (r_lays p1 2 (nb 0 7 (bln v) ++ txb v)) a (b + 1) ∧ (r_lays p1 2 (nb 0 7 (bln v) ++ txb v)).1 44 ≤ p.1 44 + 19 := by
    intro p1 h1 h2
    exact ⟨h1.lays2 lt7 (by omega), by rw [r_lays_44]; omega⟩
  have n3 := nb_len3 (F := 32 + 16 * s) bu
  have texts : r_J (r_lays p 2 (nb (32 + 16 * s) 3 (bln u) ++ txb u)) a (b + 1) ∧ (r_lays p 2 (nb (32 + 16 * s) 3 (bln u) ++ txb u)).1 44 ≤ p.1 44 + 10 := by
    have hlen : (nb (32 + 16 * s) 3 (bln u) ++ txb u).length ≤ 10 := by rw [List.length_append, txb_len]; omega
    exact ⟨(h.mono (Nat.le_refl _) (Nat.le_succ _)).lays2 (nb_lt' (by omega) (by decide) (by omega) (txb_lt u)) (by omega), by rw [r_lays_44]; omega⟩
  unfold r_lb
  cases hx : fxn u with
  | some k =>
    have hk := (fxn_some hx).1
    have hln := nb_len (80 + 32 * s) 4 k
    exact fin _ ((h.mono (Nat.le_refl _) (Nat.le_succ _)).lays2 (nb_lt (by omega) (by decide) (by omega)) (by omega)) (by rw [r_lays_44]; omega)
  | none =>
    cases hj : r_last p u 0 false with
    | none => exact fin _ texts.1 texts.2
    | some j =>
      have hjc := (r_lastTo_some hj).1
      simp only
      split
      · have hlt : ∀ x ∈ (if j < base then nb (64 + 32 * s) 4 (base - 1 - j) else nb (8 * s) 3 (j - base)), x < 2 ^ 30 := by
          split
          · exact nb_lt (by omega) (by decide) (by omega)
          · exact nb_lt (by omega) (by decide) (by omega)
        have hlen : (if j < base then nb (64 + 32 * s) 4 (base - 1 - j) else nb (8 * s) 3 (j - base)).length ≤ 6 := by
          split <;> exact nb_len _ _ _
        have h44 : (r_ref p j).1 44 = p.1 44 := rfl
        exact fin _ ((h.ref hb (by omega)).lays2 hlt (by omega)) (by rw [r_lays_44]; omega)
      · exact fin _ texts.1 texts.2
theorem r_J.whole {p : rs} {a b j base : Nat} (h : r_J p a b) (ha : a ≤ 12) (hb : b < 12) (hj : j < 2 ^ 20) (hbase : base < 2 ^ 28) (hl : p.1 44 + 19 ≤ 400) : r_J (r_whole p j base) a (b + 1) ∧ (r_whole p j base).1 44 ≤ p.1 44 + 19 := by
  have hlen : (r_wb j base).length ≤ 6 := by unfold r_wb; split <;> exact nb_len _ _ _
  have hlt : ∀ x ∈ r_wb j base, x < 2 ^ 30 := by
    unfold r_wb
    split
    · exact nb_lt (by decide) (by decide) (by omega)
    · exact nb_lt (by decide) (by decide) (by omega)
  have h44 : (r_ref p j).1 44 = p.1 44 := rfl
  exact ⟨(h.ref hb (by omega)).lays2 hlt (by omega), by unfold r_whole; rw [r_lays_44]; omega⟩
theorem r_J.one {p : rs} {f base : Nat} {risk : Bool} (h : r_J p f f) (hf : f < 12) (hbase : base < 2 ^ 28) (hl : p.1 44 ≤ 19 * f) : r_J (r_one p f base risk) (f + 1) (f + 1) ∧ (r_one p f base risk).1 44 ≤ 19 * (f + 1) := by
  have hs := h.says hf
  have h44 : (r_says p f).1 44 = p.1 44 := rfl
  have hu := h.1.2.2 0 f
  have hv := h.1.2.2 1 f
  have h6 : p.1 6 < 2 ^ 20 := by
    obtain ⟨_, h2, _, _, _, h6, _⟩ := h
    omega
  unfold r_one
  split
  · have hx : r_J (r_sa (r_says p f) 18 (12 * p.1 28 + f) 0) f f := by
      obtain ⟨ok, h2, h3, h4, h5, h6, h7, h8, h9, h10, h11⟩ := hs
      exact ⟨ok.sa (by decide), h2, h3, h4, h5, h6, h7.trans (r_sum_l (q := r_says p f) (p := r_sa (r_says p f) 18 (12 * p.1 28 + f) 0) rfl _ _).symm, h8, h9, h10, h11⟩
    have h44' : (r_sa (r_says p f) 18 (12 * p.1 28 + f) 0).1 44 = p.1 44 := rfl
    rename_i hfx
    have hk : p.2.2 0 f - 97 < 8 := by
      unfold r_fixed at hfx
      cases hy : fxn (p.2.2 0 f) with
      | none => rw [hy] at hfx; cases hfx
      | some k => have := fxn_some hy; omega
    have hln := nb_len 192 6 (p.2.2 0 f - 97)
    exact ⟨(hx.mono (Nat.le_succ _) (Nat.le_succ _)).lays2 (nb_lt (by decide) (by decide) (by omega)) (by omega), by rw [r_lays_44]; omega⟩
  · split
    · unfold r_oneV
      cases hj : r_last (r_says p f) (p.2.2 0 f) (p.2.2 1 f) true with
      | some j =>
        have hjc : j < p.1 6 := (r_lastTo_some hj).1
        simp only
        split
        · have := hs.whole (by omega) hf (j := j) (base := base) (by omega) hbase (by omega)
          exact ⟨this.1.mono (Nat.le_succ _) (Nat.le_refl _), by omega⟩
        · have := hs.lb (u := p.2.2 0 f) (v := p.2.2 1 f) (s := 0) (base := base) (risk := risk) (by omega) hf (by decide) hbase (by omega)
          exact ⟨this.1.mono (Nat.le_succ _) (Nat.le_refl _), by omega⟩
      | none =>
        simp only
        split
        · rename_i hmy
          have hfit : 32 + bln (p.2.2 0 f) + bln (p.2.2 1 f) ≤ p.1 0 := by
            rw [r_may, Bool.and_eq_true] at hmy
            have h3 : 32 + bln (p.2.2 0 f) + bln (p.2.2 1 f) ≤ (r_says p f).1 0 := by simpa using hmy.1
            exact h3
          have hi := hs.ins hf hu hv hfit
          have i44 : (r_ins (r_says p f) (p.2.2 0 f) (p.2.2 1 f)).1 44 = p.1 44 := r_ins_k (by decide) (by decide) (by decide) (by decide)
          split
          · have := hi.whole (j := (r_says p f).1 6) (base := base) (by omega) hf (show p.1 6 < 2 ^ 20 by omega) hbase (by omega)
            exact ⟨this.1, by omega⟩
          · have := hi.lb (u := p.2.2 0 f) (v := p.2.2 1 f) (s := 0) (base := base) (risk := risk) (by omega) hf (by decide) hbase (by omega)
            exact ⟨this.1, by omega⟩
        · have := hs.lb (u := p.2.2 0 f) (v := p.2.2 1 f) (s := 0) (base := base) (risk := risk) (by omega) hf (by decide) hbase (by omega)
          exact ⟨this.1.mono (Nat.le_succ _) (Nat.le_refl _), by omega⟩
    · have := hs.lb (u := p.2.2 0 f) (v := p.2.2 1 f) (s := 1) (base := base) (risk := risk) (by omega) hf (by decide) hbase (by omega)
      exact ⟨this.1.mono (Nat.le_succ _) (Nat.le_refl _), by omega⟩

theorem r_one_k {p : rs} {f base k : Nat} {risk : Bool} (h6 : k ≠ 6) (h10 : k ≠ 10) (h11 : k ≠ 11) (h13 : k ≠ 13) (h44 : k ≠ 44) : (r_one p f base risk).1 k = p.1 k := by
  have l2 : ∀ (q : rs) (l : List Nat), (r_lays q 2 l).1 k = q.1 k := fun q l => r_lays_k (show k ≠ r_wc 2 from h44) l q
  have lb : ∀ (q : rs) (u v s : Nat), (r_lb q u v s base risk).1 k = q.1 k := by
    intro q u v s
    unfold r_lb
    rw [l2]
    cases fxn u with
    | some x => simp only [l2]
    | none =>
      cases r_last q u 0 false with
      | none => simp only [l2]
      | some j =>
        simp only
        split
        · rw [l2]; rfl
        · rw [l2]
  have wh : ∀ (q : rs) (j : Nat), (r_whole q j base).1 k = q.1 k := fun q j => by unfold r_whole; rw [l2]; rfl
  unfold r_one
  split
  · rw [l2]; rfl
  · split
    · unfold r_oneV
      cases r_last (r_says p f) (p.2.2 0 f) (p.2.2 1 f) true with
      | some j =>
        simp only
        split
        · rw [wh]; rfl
        · rw [lb]; rfl
      | none =>
        simp only
        split
        · split
          · rw [wh, r_ins_k h6 h10 h11 h13]; rfl
          · rw [lb, r_ins_k h6 h10 h11 h13]; rfl
        · rw [lb]; rfl
    · rw [lb]; rfl
def r_ones (p : rs) (base : Nat) (risk : Bool) : Nat → rs
  | 0 => p
  | f + 1 => r_one (r_ones p base risk f) f base risk
theorem r_ones_k {p : rs} {base k : Nat} {risk : Bool} (h6 : k ≠ 6) (h10 : k ≠ 10) (h11 : k ≠ 11) (h13 : k ≠ 13) (h44 : k ≠ 44) : ∀ f, (r_ones p base risk f).1 k = p.1 k := by
  intro f
  induction f with
  | zero => rfl
  | succ f ih => rw [r_ones, r_one_k h6 h10 h11 h13 h44, ih]
theorem r_ones_J {p : rs} {base : Nat} {risk : Bool} (h : r_J p 0 0) (hb : base < 2 ^ 28) (h44 : p.1 44 = 0) : ∀ f, f ≤ 12 → r_J (r_ones p base risk f) f f ∧ (r_ones p base risk f).1 44 ≤ 19 * f := by
  intro f
  induction f with
  | zero => intro _; exact ⟨h, by show p.1 44 ≤ _; omega⟩
  | succ f ih =>
    intro hf
    obtain ⟨a, b⟩ := ih (by omega)
    exact a.one (by omega) hb b
def r_enc0 (p : rs) : rs := r_sa (r_sa (r_si p 44 0) 12 (p.1 28) 0) 20 (p.1 28) 0
def r_front (p : rs) (base : Nat) : List Nat := nb 0 8 (if p.2.1 12 (p.1 28) = 0 then 0 else p.2.1 12 (p.1 28) % (2 * (p.1 0 / 32)) + 1) ++ (if p.2.1 12 (p.1 28) ≤ base then nb 0 7 (base - p.2.1 12 (p.1 28)) else nb 128 7 (p.2.1 12 (p.1 28) - base - 1))
def r_lines (p : rs) (n : Nat) : List Nat := (List.range n).map (p.2.1 25)
def r_enc2 (p : rs) (s : Nat) : rs := r_sa (r_sa (r_sa (r_sa (r_sa p 11 (p.1 28) s) 14 (p.1 28) 0) 15 (p.1 28) (p.1 2)) 13 (p.1 28) (b2n (decide (0 < p.2.1 12 (p.1 28))))) 21 (p.1 28) (p.1 41)
def r_enc3 (p : rs) : rs := r_si (r_si (r_sa p 22 (p.1 28) (p.1 41 - p.2.1 21 (p.1 28))) 28 (p.1 28 + 1)) 2 0
def r_rk1 (p : rs) (s : Nat) : Bool := r_risk p s || decide (r_atRisk p < p.1 1)
def r_mk (p : rs) (s : Nat) : rs := r_ones (r_enc0 p) (p.1 6) (r_rk1 p s) (p.1 2)
def r_enc (p : rs) (s : Nat) : rs := r_enc3 (r_lays (r_enc2 (r_mk p s) s) 3 (r_front (r_mk p s) (p.1 6) ++ r_lines (r_mk p s) ((r_mk p s).1 44)))
def r_encNo (p : rs) (s : Nat) : Prop := p.2.1 24 s ≠ 0 ∨ r_lying p s 0 = 8 ∨ p.1 28 = 200 ∨ 5000 < p.1 13 - p.1 15
