/-! the two objects beside each other -/
theorem r_hp_self {h h' : fp_H} {m : Nat} {p : rs} (e : h = r_hp h m p) (c : cf nR h h') : h' = r_hp h' m p := by
  have n1 : ¬ nR 1 := fun z => z rfl
  refine Prod.ext ?_ rfl
  funext q
  show h'.1 q = (if q = m then some (1, .inr (12, r_obj m p)) else if m < q ∧ q ≤ m + 26 then some (1, r_arr p (q - m - 1)) else h'.1 q)
  by_cases e1 : q = m
  · subst e1
    rw [if_pos rfl]
    refine c.at ?_ n1
    rw [e]
    exact r_at_m
  · rw [if_neg e1]
    by_cases e2 : m < q ∧ q ≤ m + 26
    · rw [if_pos e2]
      refine c.at ?_ n1
      rw [e]
      simp only [r_hp, if_neg e1, if_pos e2]
    · rw [if_neg e2]
theorem r_hp_hp (h : fp_H) (m : Nat) (p p' : rs) : r_hp h m p' = r_hp (r_hp h m p') m p' := by
  refine Prod.ext ?_ rfl
  funext q
  show (r_hp h m p').1 q = (if q = m then some (1, .inr (12, r_obj m p')) else if m < q ∧ q ≤ m + 26 then some (1, r_arr p' (q - m - 1)) else (r_hp h m p').1 q)
  by_cases e1 : q = m
  · rw [if_pos e1]; simp only [r_hp, if_pos e1]
  · rw [if_neg e1]
    by_cases e2 : m < q ∧ q ≤ m + 26
    · rw [if_pos e2]; simp only [r_hp, if_neg e1, if_pos e2]
    · rw [if_neg e2]
/-- the reference's own step touches its own cells -/
theorem r_hp_cf {h : fp_H} {m : Nat} {p p' : rs} (e : h = r_hp h m p) : cf (fun t => t = 1) h (r_hp h m p') := by
  have at1 : ∀ q, (q = m ∨ (m < q ∧ q ≤ m + 26)) → ∃ x, h.1 q = some (1, x) := fun q hq => by
    rw [e]
    by_cases e1 : q = m
    · exact ⟨_, by rw [e1]; exact r_at_m⟩
    · exact ⟨r_arr p (q - m - 1), by simp only [r_hp, if_neg e1, if_pos (hq.resolve_left e1)]⟩
  refine ⟨⟨Nat.le_refl _, Nat.le_refl _, fun w q x hq => ?_, fun q t x hq hn => ?_⟩, Nat.le_refl _⟩
  · by_cases e1 : q = m ∨ (m < q ∧ q ≤ m + 26)
    · obtain ⟨y, hy⟩ := at1 q e1
      exact w q _ hy
    · have : (r_hp h m p').1 q = h.1 q := by
        simp only [r_hp, if_neg (fun z => e1 (Or.inl z)), if_neg (fun z => e1 (Or.inr z))]
      rw [this] at hq
      exact w q x hq
  · by_cases e1 : q = m ∨ (m < q ∧ q ≤ m + 26)
    · obtain ⟨y, hy⟩ := at1 q e1
      rw [hy] at hq
      injection hq with hq
      injection hq with hq
      exact absurd hq.symm hn
    · have : (r_hp h m p').1 q = h.1 q := by
        simp only [r_hp, if_neg (fun z => e1 (Or.inl z)), if_neg (fun z => e1 (Or.inr z))]
      rw [this]
      exact hq
section CL
variable {G : fp_G} {h h' : fp_H} {o : Nat} {A la : Nat → Nat} {p p' : rs} {B c d : Nat}
theorem CC.kept (m : CC G h o A la p B c) (k : cf (fun t => t = 1) h h') (hz : h'.2.2 ≤ h.2.2 + d) : CC G h' o A la p (B + d) c := by
  obtain ⟨ba, sa, ra, fa, oa, K, c1, c2, c3, ⟨m1, ⟨m2, m3, fl, m4, m5⟩, m6, ⟨d1, d2, d3, d4, d5⟩, m8, m9, fs, m10, m11⟩, kb, cx⟩ := m
  have n : ∀ t, t ≠ 1 → ¬ (fun t => t = 1) t := fun t ht z => ht z
  refine ⟨ba, sa, ra, fa, oa, K, c1, c2, c3, ⟨k.at m1 (n 2 (by decide)), ⟨k.at m2 (n 9 (by decide)), k.at m3 (n 9 (by decide)), fl, k.at m4 (n 9 (by decide)), m5⟩, m6.kept k (n 3 (by decide)) (n 9 (by decide)) (n 10 (by decide)) (n 14 (by decide)) (n 15 (by decide)) (n 17 (by decide)), ⟨d1.kept k (n 4 (by decide)) (n 16 (by decide)), d2.kept k (n 12 (by decide)), fun s hs => (d3 s hs).kept k (n _ (by omega)) (n _ (by omega)) (n _ (by omega)) (n _ (by omega)), fun i hi => (d4 i hi).kept k (n 9 (by decide)) (n _ (by omega)) (n _ (by omega)) (n _ (by omega)), k.wf d5⟩, k.at m8 (n 11 (by decide)), k.at m9 (n 13 (by decide)), fs, m10.kept k (n 18 (by decide)), m11.kept k (n 9 (by decide))⟩, kb, ?_⟩
  unfold CX at *
  omega
theorem CC.wf (m : CC G h o A la p B c) : fp_wf h := by
  obtain ⟨ba, sa, ra, fa, oa, K, c1, c2, c3, m, -⟩ := m
  exact CI.wf m
/-- how many slots there can be -/
theorem CC.slots (m : CC G h o A la p B c) (h28 : p.1 28 ≤ 200) (h13 : p.1 13 ≤ 43200) (h16 : p.1 16 ≤ 3300) (hc : c ≤ 513) : h.2.2 ≤ B + 490000 := by
  obtain ⟨ba, sa, ra, fa, oa, K, c1, c2, c3, m, kb, cx⟩ := m
  have ln := m.2.2.2.1.2.2.1
  have l : ∀ s, s < 8 → c1 s ≤ 26 ∧ c2 s ≤ 26 ∧ c3 s ≤ 410 := fun s hs => by
    obtain ⟨_, _, _, -, -, -, -, -, -, -, a, b, c⟩ := ln s hs
    exact ⟨a, b, c⟩
  have l0 := l 0 (by decide)
  have l1 := l 1 (by decide)
  have l2 := l 2 (by decide)
  have l3 := l 3 (by decide)
  have l4 := l 4 (by decide)
  have l5 := l 5 (by decide)
  have l6 := l 6 (by decide)
  have l7 := l 7 (by decide)
  obtain ⟨k0, k1, k2, k3, k4, k5⟩ := kb
  unfold CX sum8 at cx
  omega
end CL
/-- with room for no entry, nothing is referred to -/
theorem none_small {q : rs} {u v : Nat} {wv : Bool} (h : q.1 6 ≤ q.1 10) : r_last q u v wv = none := by
  unfold r_last
  cases hn : q.1 6 with
  | zero => rfl
  | succ j => rw [r_lastTo, if_pos (by omega)]
theorem small_lb {q : rs} {u v s base : Nat} {risk : Bool} (h : q.1 6 ≤ q.1 10) : (∀ x, x ≠ 44 → (r_lb q u v s base risk).1 x = q.1 x) ∧ (r_lb q u v s base risk).2.1 12 = q.2.1 12 := by
  have k : ∀ (p : rs) (l : List Nat) x, x ≠ 44 → (r_lays p 2 l).1 x = p.1 x := fun p l x hx => r_lays_k (show x ≠ r_wc 2 from hx) _ _
  have a : ∀ (p : rs) (l : List Nat), (r_lays p 2 l).2.1 12 = p.2.1 12 := fun p l => r_lays_a (show 12 ≠ r_wa 2 by decide) _ _
  unfold r_lb
  rw [none_small h]
  cases fxn u with
  | some j => exact ⟨fun x hx => by rw [k _ _ x hx, k _ _ x hx], by rw [a, a]⟩
  | none => exact ⟨fun x hx => by rw [k _ _ x hx, k _ _ x hx], by rw [a, a]⟩
theorem small_one {q : rs} {f base : Nat} {risk : Bool} (h0 : q.1 0 < 32) (h : q.1 6 ≤ q.1 10) : (∀ x, x ≠ 44 → (r_one q f base risk).1 x = q.1 x) ∧ (r_one q f base risk).2.1 12 = q.2.1 12 := by
  have s12 : (r_says q f).2.1 12 = q.2.1 12 := r_says_a (by decide)
  have lb := fun (u v s : Nat) => small_lb (q := r_says q f) (u := u) (v := v) (s := s) (base := base) (risk := risk) h
  unfold r_one
  split
  · refine ⟨fun x hx => by rw [r_lays_k (show x ≠ r_wc 2 from hx)]; rfl, ?_⟩
    rw [r_lays_a (show 12 ≠ r_wa 2 by decide), ← s12]
    funext i
    simp [r_sa]
  · split
    · unfold r_oneV
      rw [none_small (q := r_says q f) h]
      simp only
      split
      · rename_i hm
        have hx := r_may_fit hm
        change 32 + bln (q.2.2 0 f) + bln (q.2.2 1 f) ≤ q.1 0 at hx
        omega
      · exact ⟨(lb _ _ _).1, (lb _ _ _).2.trans s12⟩
    · exact ⟨(lb _ _ _).1, (lb _ _ _).2.trans s12⟩
theorem small_ones {q : rs} {base : Nat} {risk : Bool} (h0 : q.1 0 < 32) (h : q.1 6 ≤ q.1 10) : ∀ f, (∀ x, x ≠ 44 → (r_ones q base risk f).1 x = q.1 x) ∧ (r_ones q base risk f).2.1 12 = q.2.1 12 := by
  intro f
  induction f with
  | zero => exact ⟨fun _ _ => rfl, rfl⟩
  | succ f ih =>
    rw [r_ones]
    have z := small_one (q := r_ones q base risk f) (f := f) (base := base) (risk := risk) (by rw [ih.1 0 (by decide)]; exact h0) (by rw [ih.1 6 (by decide), ih.1 10 (by decide)]; exact h)
    exact ⟨fun x hx => (z.1 x hx).trans (ih.1 x hx), z.2.trans ih.2⟩
theorem RI.capA {p : rs} {c : Nat} (h : RI p c) : ∀ s, (r_mk p s).2.1 12 (p.1 28) ≠ 0 → 32 ≤ p.1 0 := by
  intro s hn
  rcases Nat.lt_or_ge (p.1 0) 32 with q | q
  · exfalso
    have hf := few (a := 0) h.1
    have z := small_ones (q := r_enc0 p) (base := p.1 6) (risk := r_rk1 p s) q (by show p.1 6 ≤ p.1 10; omega) (p.1 2)
    refine hn ?_
    show (r_ones (r_enc0 p) (p.1 6) (r_rk1 p s) (p.1 2)).2.1 12 (p.1 28) = 0
    rw [z.2]
    simp [r_enc0, r_sa]
  · exact q
/-- both objects stand for p; c calls are made -/
def ST (G : fp_G) (h : fp_H) (o : Nat) (A la : Nat → Nat) (mm : Nat) (p : rs) (B NB SB c : Nat) : Prop := CC G h o A la p B c ∧ RI p c ∧ h = r_hp h mm p ∧ h.2.1 + SB ≤ NB + h.2.2
section CL2
variable {G : fp_G} {h h1 : fp_H} {o : Nat} {A la : Nat → Nat} {mm : Nat} {p p' : rs} {B NB SB c : Nat}
theorem ST.same (st : ST G h o A la mm p B NB SB c) : ST G h o A la mm p B NB SB (c + 1) := ⟨st.1.mono (by omega), st.2.1.mono (by omega), st.2.2.1, st.2.2.2⟩
/-- behind the class's call -/
theorem ST.mid (st : ST G h o A la mm p B NB SB c) (k : cf nR h h1) : h1 = r_hp h1 mm p ∧ h1.2.1 + SB ≤ NB + h1.2.2 := by
  refine ⟨r_hp_self st.2.2.1 k, ?_⟩
  have := k.2
  have := st.2.2.2
  omega
/-- behind the reference's call -/
theorem ST.fin (e : h1 = r_hp h1 mm p) (sz : h1.2.1 + SB ≤ NB + h1.2.2) (cc : CC G h1 o A la p' B (c + 1)) (ri : RI p' (c + 1)) : ST G (r_hp h1 mm p') o A la mm p' B NB SB (c + 1) := by
  refine ⟨?_, ri, r_hp_hp h1 mm p p', sz⟩
  have := cc.kept (d := 0) (r_hp_cf (p' := p') e) (Nat.le_refl _)
  exact this
end CL2
