/-! what holds between calls -/
def RA (p : rs) : Prop := rok p ∧ p.1 28 ≤ 200 ∧ p.1 2 ≤ 12 ∧ (∀ i, i < 12 → p.2.1 2 i ≤ 1) ∧ (∀ k, k < 200 → p.2.1 20 k ≤ 12) ∧ p.1 10 ≤ p.1 6 ∧ p.1 6 ≤ 12 * p.1 28 ∧ p.1 11 = r_sum p (p.1 10) (p.1 6 - p.1 10) ∧ p.1 11 ≤ p.1 0 ∧ p.1 0 ≤ 400 ∧ p.1 13 ≤ 18 * p.1 6
def RW (p : rs) : Prop := WI p ∧ MD p ∧ p.1 15 ≤ p.1 13 ∧ p.1 24 ≤ p.1 6 ∧ p.1 25 ≤ p.1 24 ∧ p.1 26 = r_sum p (p.1 25) (p.1 24 - p.1 25) ∧ p.1 26 ≤ p.1 0 ∧ r_is p (p.1 24) ≤ p.1 15
def RS (p : rs) : Prop := (∀ k, k < p.1 28 → SEC p k ∧ NR p k ∧ p.2.1 12 k ≤ p.1 6 ∧ p.2.1 21 k + p.2.1 22 k ≤ p.1 41) ∧ p.1 41 ≤ 240 * p.1 28
def RT (p : rs) : Prop := TB p ∧ p.1 23 ≤ p.1 19 ∧ p.1 18 ≤ p.1 16 ∧ r_st p (p.1 23) ≤ p.1 18 ∧ ∀ x ∈ wlx p 16 7, x < 256
/-- what is on its way back, and what will be known of it -/
def TMx (p : rs) (kk t : Nat → Nat) : Prop := p.1 12 ≤ t (p.1 23) ∧ t (p.1 19) = p.1 27 ∧ (∀ i, p.1 23 ≤ i → i < p.1 19 → t i ≤ t (i + 1) ∧ (p.2.1 8 i = 1 → kk i < p.1 28 ∧ p.2.1 11 (kk i) = p.2.1 9 i ∧ p.2.1 13 (kk i) ≠ 0 ∧ p.2.1 14 (kk i) = 2 ∧ ∀ k, k ≤ kk i → p.2.1 11 k = p.2.1 9 i → p.2.1 13 k ≠ 0 → p.2.1 14 k = 2 ∧ p.2.1 12 k ≤ t (i + 1)) ∧ (p.2.1 8 i = 2 → p.2.1 24 (p.2.1 9 i) ≠ 0) ∧ (p.2.1 8 i = 3 → t i + p.2.1 9 i ≤ t (i + 1))) ∧ ∀ i i', p.1 23 ≤ i → i < i' → i' < p.1 19 → p.2.1 8 i' = 1 → p.2.1 9 i' = p.2.1 9 i → p.2.1 8 i ≠ 2 ∧ (p.2.1 8 i = 1 → kk i < kk i')
def TM (p : rs) : Prop := ∃ kk t, TMx p kk t
def RO (p : rs) : Prop := p.1 10 ≤ p.1 12 ∧ ∀ k, k < p.1 28 → p.2.1 13 k ≠ 0 → ∀ j, isref p k j → p.1 10 ≤ j ∧ j < p.1 6
def RV (p : rs) : Prop := (∀ k, k < p.1 28 → p.2.1 14 k < 2 → p.2.1 12 k ≠ 0 → p.2.1 13 k ≠ 0) ∧ (∀ k, k < p.1 28 → (p.2.1 14 k ≤ 2 ∨ p.2.1 24 (p.2.1 11 k) ≠ 0) ∧ (p.2.1 24 (p.2.1 11 k) ≠ 0 → 2 ≤ p.2.1 14 k)) ∧ (∀ k, k < p.1 28 → p.2.1 14 k = 2 → p.2.1 12 k ≤ p.1 27) ∧ p.1 27 ≤ p.1 24
def RQ (p : rs) : Prop := ∀ s, s < 8 → r_lying p s 0 ≤ 8 ∧ r_lying p s 1 ≤ 8
def RC (p : rs) (c : Nat) : Prop := p.1 16 + (r_zn p + r_wn p) ≤ 6 * c + p.1 28 ∧ p.1 19 + (r_zn p + r_wn p) ≤ c + p.1 28
def RI (p : rs) (c : Nat) : Prop := RA p ∧ RW p ∧ RS p ∧ RT p ∧ (OR p ∧ RO p ∧ RV p ∧ TM p) ∧ RQ p ∧ RC p c
theorem TMx.le {p : rs} {kk t : Nat → Nat} (m : TMx p kk t) : ∀ n i, p.1 23 ≤ i → i + n = p.1 19 → t i ≤ p.1 27 := by
  intro n
  induction n with
  | zero => intro i h1 h2; rw [← m.2.1, ← h2]; exact Nat.le_refl _
  | succ n ih =>
    intro i h1 h2
    have a := (m.2.2.1 i h1 (by omega)).1
    have b := ih (i + 1) (by omega) (by omega)
    omega
theorem RI.known {p : rs} {c : Nat} (h : RI p c) : p.1 12 ≤ p.1 27 ∧ p.1 27 ≤ p.1 24 ∧ p.1 24 ≤ p.1 6 ∧ p.1 6 ≤ 2400 := by
  obtain ⟨ra, rw', -, rt, ⟨-, -, rv, kk, t, tm⟩, -⟩ := h
  have h1 := tm.le (p.1 19 - p.1 23) (p.1 23) (Nat.le_refl _) (by have := rt.2.1; omega)
  have h2 := tm.1
  have h3 := rv.2.2.2
  have h4 := rw'.2.2.2.1
  have h5 := ra.2.2.2.2.2.2.1
  have h6 := ra.2.1
  exact ⟨by omega, h3, h4, by omega⟩
theorem RI.D {p : rs} {c : Nat} (h : RI p c) : r_D p := by
  have hk := h.known
  obtain ⟨ra, rw', -⟩ := h
  exact ⟨ra.1, hk.2.2.2, hk.2.2.1, rw'.2.2.2.2.1, rw'.2.2.2.2.2.1, rw'.2.2.2.2.2.2.1, ra.2.2.2.2.2.2.2.2.2.1, rw'.1.2.2.2⟩
theorem RI.wn {p : rs} {c : Nat} (h : RI p c) (hc : c ≤ 513) : p.1 16 + r_wn p ≤ 3300 ∧ p.1 19 + r_wn p ≤ 800 := by
  have a := h.2.2.2.2.2.2
  have b := h.1.2.1
  unfold RC at a
  omega
theorem RI.B {p : rs} {c : Nat} (h : RI p c) (hc : c ≤ 513) : r_B p := by
  have hk := h.known
  have hw := h.wn hc
  obtain ⟨ra, rw', rs', rt, -⟩ := h
  refine ⟨ra.1, ra.2.1, by omega, rt.2.1, fun i hi => ⟨(rt.1.1 i hi).1, (rt.1.1 i hi).2.1⟩, ?_, fun k hk' => ((rs'.1 k hk').1.2.2.2.2.1)⟩
  have : 2400 ≤ 2400 * (p.1 23 + 1) := by omega
  omega
theorem RA.J0 {p : rs} (h : RA p) (hc : p.1 28 < 200) : r_J (r_enc0 p) 0 0 := by
  obtain ⟨ok, h2, h3, h4, h5, h6, h7, h8, h9, h10, h11⟩ := h
  refine ⟨((ok.si (by decide)).sa (by decide)).sa (by decide), hc, fun k hk => ?_, ?_, h6, h7, ?_, h9, h10, h11, fun i hi => ?_⟩
  · by_cases e : k = p.1 28
    · subst e; simp [r_enc0, r_sa, r_si]
    · have : (r_enc0 p).2.1 20 k = p.2.1 20 k := by simp [r_enc0, r_sa, r_si, e]
      rw [this]; exact h5 k hk
  · have : (r_enc0 p).2.1 20 (p.1 28) = 0 := by simp [r_enc0, r_sa]
    rw [r_enc0_1 (by decide), this]; exact Nat.le_refl _
  · exact h8.trans (r_sum_l (p := p) (q := r_enc0 p) rfl _ _)
  · rw [r_enc0_a (by decide) (by decide)]; exact h4 i hi
theorem RI.I0 {p : rs} {c : Nat} (h : RI p c) : r_I (r_enc0 p) := by
  have hk := h.known
  obtain ⟨ra, rw', rs', rt, ⟨or', ro, rv, tm⟩, -⟩ := h
  have z20 : (r_enc0 p).2.1 20 (p.1 28) = 0 := by simp [r_enc0, r_sa]
  refine ⟨⟨ro.1, by show p.1 12 ≤ p.1 6; omega⟩, fun k hk' i hi => ?_⟩
  rcases hk' with rfl | ⟨h1, h2⟩
  · rw [r_enc0_1 (by decide), z20] at hi; omega
  · rw [r_enc0_1 (by decide)] at h1
    rw [r_enc0_a (by decide) (by decide)] at h2
    have e20 : (r_enc0 p).2.1 20 k = p.2.1 20 k := by
      have : k ≠ p.1 28 := by omega
      simp [r_enc0, r_sa, r_si, this]
    rw [e20] at hi
    rw [r_enc0_a (show 19 ≠ 12 by decide) (by decide)]
    exact ro.2 k h1 h2 _ ⟨i, hi, rfl⟩
theorem RI.MK0 {p : rs} {c : Nat} (h : RI p c) : MK (r_enc0 p) (p.1 28) (p.1 6) 0 [] := by
  obtain ⟨ra, rw', -⟩ := h
  have z20 : (r_enc0 p).2.1 20 (p.1 28) = 0 := by simp [r_enc0, r_sa]
  have z12 : (r_enc0 p).2.1 12 (p.1 28) = 0 := by simp [r_enc0, r_sa]
  refine ⟨rfl, rw'.1.eq rfl rfl rfl rfl (r_enc0_a (by decide) (by decide)) (r_enc0_a (by decide) (by decide)) rfl rfl, ⟨fun j hj => ?_, fun hn => absurd z12 hn⟩, fun _ => [], ?_, ?_, fun g hg => absurd hg (Nat.not_lt_zero _)⟩
  · obtain ⟨i, hi, -⟩ := hj
    rw [z20] at hi
    omega
  · simp [wlx, r_enc0, r_si, r_sa, lcat]
  · simp [wlx, r_enc0, r_si, r_sa]
theorem RI.mk {p : rs} {c s : Nat} (h : RI p c) (hc : p.1 28 < 200) : MK (r_mk p s) (p.1 28) (p.1 6) (p.1 2) [] ∧ r_J (r_mk p s) (p.1 2) (p.1 2) ∧ r_I (r_mk p s) ∧ (r_mk p s).1 44 ≤ 228 ∧ ((r_mk p s).2.1 12 (p.1 28) ≠ 0 → 32 ≤ p.1 0) ∧ (r_mk p s).2.1 12 (p.1 28) ≤ (r_mk p s).1 6 := by
  have hk := h.known
  have h2 := h.1.2.2.1
  have J0 := h.1.J0 hc
  have e44 : (r_enc0 p).1 44 = 0 := by simp [r_enc0, r_si, r_sa]
  have m := h.MK0.ones (risk := r_rk1 p s) J0 h.I0 (by omega) e44 (p.1 2) h2
  have j := r_ones_J (base := p.1 6) (risk := r_rk1 p s) J0 (by omega) e44 (p.1 2) h2
  have i := r_ones_I (base := p.1 6) (risk := r_rk1 p s) J0 h.I0 (by omega) e44 (p.1 2) h2
  have m28 := r_mk_28 p s
  have a0 : (r_mk p s).1 0 = p.1 0 := by rw [r_mk, r_ones_k (by decide) (by decide) (by decide) (by decide) (by decide), r_enc0_1 (by decide)]
  have need : (r_mk p s).2.1 12 (p.1 28) ≠ 0 → ∃ x, (r_mk p s).1 10 ≤ x ∧ x < (r_mk p s).1 6 ∧ (r_mk p s).2.1 12 (p.1 28) = x + 1 := fun hn => by
    obtain ⟨x, ⟨y, y1, y2⟩, y3⟩ := m.2.2.1.2 hn
    have := i.2 (p.1 28) (Or.inl m28.symm) y y1
    have e : (r_ones (r_enc0 p) (p.1 6) (r_rk1 p s) (p.1 2)).2.1 19 (12 * p.1 28 + y) = x := y2
    rw [e] at this
    exact ⟨x, this.1, this.2, y3⟩
  refine ⟨m, j.1, i, by have := j.2; show (r_ones (r_enc0 p) (p.1 6) (r_rk1 p s) (p.1 2)).1 44 ≤ 228; omega, fun hn => ?_, ?_⟩
  · obtain ⟨x, x1, x2, -⟩ := need hn
    have h7 : (r_mk p s).1 11 = r_sum (r_mk p s) ((r_mk p s).1 10) ((r_mk p s).1 6 - (r_mk p s).1 10) := j.1.2.2.2.2.2.2.1
    have h8 : (r_mk p s).1 11 ≤ (r_mk p s).1 0 := j.1.2.2.2.2.2.2.2.1
    rw [r_sum_tsum] at h7
    have h9 := tsum_ge ((r_mk p s).2.2 3) ((r_mk p s).2.2 4) ((r_mk p s).1 6 - (r_mk p s).1 10) ((r_mk p s).1 10)
    rw [a0] at h8
    omega
  · by_cases hn : (r_mk p s).2.1 12 (p.1 28) = 0
    · rw [hn]; exact Nat.zero_le _
    · obtain ⟨x, x1, x2, x3⟩ := need hn
      omega
theorem RI.cap {p : rs} {c s : Nat} (h : RI p c) (hc : p.1 28 ≤ 200) : p.1 28 < 200 → (r_mk p s).2.1 12 (p.1 28) ≠ 0 → 32 ≤ p.1 0 := fun hlt => (h.mk hlt).2.2.2.2.1
/-- the decoder has an entry as long as the encoder has it -/
theorem first_le {p : rs} (me : ME p) (md : MD p) (h24 : p.1 24 ≤ p.1 6) (h25 : p.1 25 ≤ p.1 24) (h10 : p.1 10 ≤ p.1 6) (h11 : p.1 11 = r_sum p (p.1 10) (p.1 6 - p.1 10)) (h110 : p.1 11 ≤ p.1 0) : p.1 25 ≤ p.1 10 := by
  rcases Nat.lt_or_ge (p.1 10) (p.1 25) with q | q
  · exfalso
    have h1 := md (p.1 10) q
    rw [r_sum_tsum] at h11
    have := tsum_split (p.2.2 3) (p.2.2 4) (p.1 24 - p.1 10) (p.1 6 - p.1 24) (p.1 10)
    rw [show p.1 24 - p.1 10 + (p.1 6 - p.1 24) = p.1 6 - p.1 10 by omega] at this
    omega
  · exact q
theorem RI.rd {p : rs} {c k : Nat} (h : RI p c) (hk : k < p.1 28) (hs : p.2.1 14 k < 2) : ∀ j, isref p k j → p.1 10 ≤ j ∧ j < p.2.1 12 k := by
  obtain ⟨ra, rw', rs', rt, ⟨or', ro, rv, tm⟩, -⟩ := h
  intro j hj
  have h1 := (rs'.1 k hk).2.1.1 j hj
  have h2 := rv.1 k hk hs (by omega)
  exact ⟨(ro.2 k hk h2 j hj).1, h1⟩
theorem RI.RD {p : rs} {c k : Nat} (h : RI p c) (hk : k < p.1 28) (hs : p.2.1 14 k < 2) : RD p k := by
  intro j hj
  have h1 := h.rd hk hs j hj
  obtain ⟨ra, rw', -⟩ := h
  have := first_le rw'.1.2.1 rw'.2.1 rw'.2.2.2.1 rw'.2.2.2.2.1 ra.2.2.2.2.2.1 ra.2.2.2.2.2.2.2.1 ra.2.2.2.2.2.2.2.2.1
  exact ⟨by omega, h1.2⟩
theorem few {p : rs} {a : Nat} (h : RA p) : p.1 6 ≤ p.1 10 + p.1 0 / 32 := by
  obtain ⟨ok, h2, h3, h4, h5, h6, h7, h8, h9, h10, h11⟩ := h
  rw [r_sum_tsum] at h8
  have := tsum_ge (p.2.2 3) (p.2.2 4) (p.1 6 - p.1 10) (p.1 10)
  omega
theorem RI.R {p : rs} {c k : Nat} (h : RI p c) (hk : k < p.1 28) (hs : p.2.1 14 k = 0) (hn : p.2.1 12 k ≠ 0) : 32 ≤ p.1 0 ∧ p.1 24 + 1 ≤ p.2.1 12 k + p.1 0 / 32 ∧ p.2.1 12 k ≤ p.1 24 + p.1 0 / 32 := by
  have hf := few (a := 0) h.1
  have hkn := h.known
  have hrd := h.rd hk (by omega)
  obtain ⟨ra, rw', rs', rt, ⟨or', ro, rv, tm⟩, -⟩ := h
  obtain ⟨j, j1, j2⟩ := (rs'.1 k hk).2.1.2 hn
  have h3 := hrd j j1
  have h4 := (rs'.1 k hk).2.2.1
  have h5 := ro.1
  exact ⟨(rs'.1 k hk).1.2.2.2.2.2 hn, by omega, by omega⟩
