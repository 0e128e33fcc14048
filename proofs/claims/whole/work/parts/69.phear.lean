/-! what holds is kept: increment, cancel, hearing; what holds of a new one -/
theorem RI.inc {p : rs} {c : Nat} (h : RI p c) (hc : c ≤ 513) (hlt : p.1 27 < p.1 24) : RI (r_inc p) (c + 1) := by
  have hkn := h.known
  have hw := h.wn hc
  obtain ⟨ra, rw', rs', rt, ⟨or', ro, rv, tm⟩, rq, rc'⟩ := h
  obtain ⟨o1, o2, o3, o4, o5, o6, o7⟩ := r_tell_old p 3 (p.1 24 - p.1 27)
  have ex : ∀ x, x ≠ 16 → x ≠ 19 → x ≠ 27 → (r_inc p).1 x = p.1 x := fun x h1 h2 h3 => by
    show (if x = 27 then p.1 24 else (r_tell p 3 (p.1 24 - p.1 27)).1 x) = p.1 x
    rw [if_neg h3, r_tell_k h1 h2]
  have ea : ∀ j, j ≠ 7 → j ≠ 8 → j ≠ 9 → j ≠ 10 → (r_inc p).2.1 j = p.2.1 j := fun j h1 h2 h3 h4 => r_tell_a h1 h2 h3 h4
  have el : (r_inc p).2.2 = p.2.2 := r_tell_l
  have d27 : (r_inc p).1 27 = p.1 24 := by simp [r_inc, r_si]
  have d19 : (r_inc p).1 19 = p.1 19 + 1 := o4
  have d16 : (r_inc p).1 16 = p.1 16 + (r_tb 3 (p.1 24 - p.1 27)).length := o3
  have e28 := ex 28 (by decide) (by decide) (by decide)
  have rk : rok (r_inc p) := (rok.tell ra.1 (by decide) (by omega) (by omega) (by omega)).si (by omega)
  refine ⟨ra.eq rk (fun x hx => ex x (by omega) (by omega) (by omega)) (ea 2 (by decide) (by decide) (by decide) (by decide)) (ea 20 (by decide) (by decide) (by decide) (by decide)) (by rw [el]) (by rw [el]), rw'.eq (fun x hx => ex x (by omega) (by omega) (by omega)) (ea 5 (by decide) (by decide) (by decide) (by decide)) (ea 6 (by decide) (by decide) (by decide) (by decide)) (by rw [el]) (by rw [el]), rs'.eq (fun x hx => ex x (by omega) (by omega) (by omega)) (fun j hj => ea j (by omega) (by omega) (by omega) (by omega)) (fun j _ => by rw [el]), ?_, ⟨or'.eq e28 (ea 11 (by decide) (by decide) (by decide) (by decide)) (ea 14 (by decide) (by decide) (by decide) (by decide)), ro.eq (fun x hx => ex x (by omega) (by omega) (by omega)) (fun j hj => ea j (by omega) (by omega) (by omega) (by omega)), ?_, ?_⟩, rq.eq e28 (ea 11 (by decide) (by decide) (by decide) (by decide)) (ea 14 (by decide) (by decide) (by decide) (by decide)), ?_⟩
  · have e0 : ∀ x, x ≠ 27 → (r_inc p).1 x = (r_tell p 3 (p.1 24 - p.1 27)).1 x := fun x hx => by simp [r_inc, r_si, hx]
    exact (rt.tell (kind := 3) (v := p.1 24 - p.1 27) (Or.inr (Or.inr rfl)) (by omega) (fun z => absurd rfl z)).eq (fun x hx => e0 x (by omega)) (fun j _ => rfl)
  · obtain ⟨v1, v2, v3, v4⟩ := rv
    unfold RV
    rw [e28, d27, ex 24 (by decide) (by decide) (by decide), ea 11 (by decide) (by decide) (by decide) (by decide), ea 12 (by decide) (by decide) (by decide) (by decide), ea 13 (by decide) (by decide) (by decide) (by decide), ea 14 (by decide) (by decide) (by decide) (by decide), ea 24 (by decide) (by decide) (by decide) (by decide)]
    exact ⟨v1, v2, fun k hk h1 => Nat.le_trans (v3 k hk h1) v4, Nat.le_refl _⟩
  · obtain ⟨kk, t, t1, t2, t3, t4⟩ := tm
    have h23 := rt.2.1
    refine ⟨kk, fun i => if i = p.1 19 + 1 then p.1 24 else t i, ?_, ?_, fun i z1 z2 => ?_, fun i i' z1 z2 z3 => ?_⟩
    · rw [ex 12 (by decide) (by decide) (by decide), ex 23 (by decide) (by decide) (by decide)]
      simp only [if_neg (show p.1 23 ≠ p.1 19 + 1 by omega)]
      exact t1
    · rw [d19, d27]; simp only [if_pos]
    · rw [ex 23 (by decide) (by decide) (by decide)] at z1
      rw [d19] at z2
      rw [e28, ea 11 (by decide) (by decide) (by decide) (by decide), ea 12 (by decide) (by decide) (by decide) (by decide), ea 13 (by decide) (by decide) (by decide) (by decide), ea 14 (by decide) (by decide) (by decide) (by decide), ea 24 (by decide) (by decide) (by decide) (by decide)]
      by_cases e : i = p.1 19
      · subst e
        have e8 : (r_inc p).2.1 8 (p.1 19) = 3 := o5
        have e9 : (r_inc p).2.1 9 (p.1 19) = p.1 24 - p.1 27 := o6
        rw [e8, e9]
        simp only [if_pos, if_neg (show p.1 19 ≠ p.1 19 + 1 by omega)]
        rw [t2]
        exact ⟨by omega, fun z => by omega, fun z => by omega, fun _ => by omega⟩
      · have hi : i < p.1 19 := by omega
        have e8 : (r_inc p).2.1 8 i = p.2.1 8 i := (o1 i hi).1
        have e9 : (r_inc p).2.1 9 i = p.2.1 9 i := (o1 i hi).2.1
        rw [e8, e9]
        simp only [if_neg (show i ≠ p.1 19 + 1 by omega), if_neg (show i + 1 ≠ p.1 19 + 1 by omega)]
        exact t3 i z1 hi
    · rw [ex 23 (by decide) (by decide) (by decide)] at z1
      rw [d19] at z3
      have hi : i < p.1 19 := by omega
      have e8 : (r_inc p).2.1 8 i = p.2.1 8 i := (o1 i hi).1
      have e9 : (r_inc p).2.1 9 i = p.2.1 9 i := (o1 i hi).2.1
      by_cases e : i' = p.1 19
      · subst e
        have e8' : (r_inc p).2.1 8 (p.1 19) = 3 := o5
        rw [e8']
        intro z; omega
      · have hi' : i' < p.1 19 := by omega
        have e8' : (r_inc p).2.1 8 i' = p.2.1 8 i' := (o1 i' hi').1
        have e9' : (r_inc p).2.1 9 i' = p.2.1 9 i' := (o1 i' hi').2.1
        rw [e8, e9, e8', e9']
        exact t4 i i' z1 z2 hi'
  · have wz := wn_eq (p' := r_inc p) e28 (ea 14 (by decide) (by decide) (by decide) (by decide))
    have := r_tb_len 3 (p.1 24 - p.1 27)
    unfold RC at *
    rw [wz.1, wz.2, d16, d19, e28]
    omega
set_option maxHeartbeats 1000000 in
theorem RI.can {p : rs} {c s : Nat} (h : RI p c) (hc : c ≤ 513) (hs : s < 8) : RI (r_can p s) (c + 1) := by
  have hw := h.wn hc
  obtain ⟨ra, rw', rs', rt, ⟨or', ro, rv, tm⟩, rq, rc'⟩ := h
  have ck := r_cn_k (s := s) (p.1 28) 0 (r_sa p 24 s 1)
  have ca : ∀ j, j ≠ 14 → j ≠ 24 → (r_cn s (p.1 28) 0 (r_sa p 24 s 1)).2.1 j = p.2.1 j := fun j h1 h2 => (ck.2.1 j h1).trans (by funext i; simp [r_sa, h2])
  have cx : ∀ x, (r_cn s (p.1 28) 0 (r_sa p 24 s 1)).1 x = p.1 x := fun x => by rw [ck.1]; rfl
  obtain ⟨o1, o2, o3, o4, o5, o6, o7⟩ := r_tell_old (r_cn s (p.1 28) 0 (r_sa p 24 s 1)) 2 s
  rw [cx, ca 8 (by decide) (by decide), ca 9 (by decide) (by decide), ca 10 (by decide) (by decide)] at o1
  rw [cx] at o3 o4 o5 o6
  have ex : ∀ x, x ≠ 16 → x ≠ 19 → (r_can p s).1 x = p.1 x := fun x h1 h2 => r_can_1 h1 h2
  have ea : ∀ j, j ≠ 7 → j ≠ 8 → j ≠ 9 → j ≠ 10 → j ≠ 14 → j ≠ 24 → (r_can p s).2.1 j = p.2.1 j := fun j h1 h2 h3 h4 h5 h6 => r_can_a h1 h2 h3 h4 h5 h6
  have el : (r_can p s).2.2 = p.2.2 := r_can_l
  have d19 : (r_can p s).1 19 = p.1 19 + 1 := o4
  have d16 : (r_can p s).1 16 = p.1 16 + (r_tb 2 s).length := o3
  have e28 := ex 28 (by decide) (by decide)
  have a11 := ea 11 (by decide) (by decide) (by decide) (by decide) (by decide) (by decide)
  have a12 := ea 12 (by decide) (by decide) (by decide) (by decide) (by decide) (by decide)
  have a13 := ea 13 (by decide) (by decide) (by decide) (by decide) (by decide) (by decide)
  have rk : rok (r_can p s) := rok.tell (ck.2.2.2 (ra.1.sa (by decide))) (by decide) (by omega) (by rw [cx]; omega) (by rw [cx]; omega)
  refine ⟨ra.eq rk (fun x hx => ex x (by omega) (by omega)) (ea 2 (by decide) (by decide) (by decide) (by decide) (by decide) (by decide)) (ea 20 (by decide) (by decide) (by decide) (by decide) (by decide) (by decide)) (by rw [el]) (by rw [el]), rw'.eq (fun x hx => ex x (by omega) (by omega)) (ea 5 (by decide) (by decide) (by decide) (by decide) (by decide) (by decide)) (ea 6 (by decide) (by decide) (by decide) (by decide) (by decide) (by decide)) (by rw [el]) (by rw [el]), rs'.eq (fun x hx => ex x (by omega) (by omega)) (fun j hj => ea j (by omega) (by omega) (by omega) (by omega) (by omega) (by omega)) (fun j _ => by rw [el]), ?_, ⟨fun i j hij hj hst hi => ?_, ro.eq (fun x hx => ex x (by omega) (by omega)) (fun j hj => ea j (by omega) (by omega) (by omega) (by omega) (by omega) (by omega)), ?_, ?_⟩, fun s' hs' => ?_, ?_⟩
  · have r1 : RT (r_cn s (p.1 28) 0 (r_sa p 24 s 1)) := rt.eq (fun x _ => cx x) (fun j hj => ca j (by omega) (by omega))
    exact r1.tell (Or.inr (Or.inl rfl)) (by omega) (fun _ => hs)
  · rw [e28] at hj
    rw [a11] at hst
    rw [r_can_14] at hi
    split at hi
    · omega
    · rename_i hni
      have hne : p.2.1 11 i ≠ s := fun z => hni ⟨by omega, z, hi⟩
      have e14i : (r_can p s).2.1 14 i = p.2.1 14 i := by rw [r_can_14, if_neg hni]
      rw [e14i, r_can_14, if_neg (fun z => hne (by rw [hst]; exact z.2.1))]
      exact or' i j hij hj hst hi
  · obtain ⟨v1, v2, v3, v4⟩ := rv
    refine ⟨fun k hk z1 z2 => ?_, fun k hk => ?_, fun k hk z1 => ?_, by rw [ex 27 (by decide) (by decide), ex 24 (by decide) (by decide)]; exact v4⟩
    · rw [e28] at hk
      rw [a12] at z2
      rw [a13]
      rw [r_can_14] at z1
      split at z1
      · omega
      · exact v1 k hk z1 z2
    · rw [e28] at hk
      rw [r_can_24, a11, r_can_14]
      have := v2 k hk
      by_cases e : p.2.1 11 k = s
      · rw [if_pos e]
        refine ⟨Or.inr (by decide), fun _ => ?_⟩
        split
        · omega
        · rename_i z
          rcases Nat.lt_or_ge (p.2.1 14 k) 2 with q | q
          · exact absurd ⟨hk, e, q⟩ z
          · exact q
      · rw [if_neg e, if_neg (fun z => e z.2.1)]
        exact this
    · rw [e28] at hk
      rw [a12, ex 27 (by decide) (by decide)]
      rw [r_can_14] at z1
      split at z1
      · omega
      · exact v3 k hk z1
  · obtain ⟨kk, t, t1, t2, t3, t4⟩ := tm
    have h23 := rt.2.1
    refine ⟨kk, fun i => if i = p.1 19 + 1 then p.1 27 else t i, ?_, ?_, fun i z1 z2 => ?_, fun i i' z1 z2 z3 => ?_⟩
    · rw [ex 12 (by decide) (by decide), ex 23 (by decide) (by decide)]
      simp only [if_neg (show p.1 23 ≠ p.1 19 + 1 by omega)]
      exact t1
    · rw [d19, ex 27 (by decide) (by decide)]; simp only [if_pos]
    · rw [ex 23 (by decide) (by decide)] at z1
      rw [d19] at z2
      rw [e28, a11, a12, a13, r_can_24]
      by_cases e : i = p.1 19
      · subst e
        have e8 : (r_can p s).2.1 8 (p.1 19) = 2 := o5
        have e9 : (r_can p s).2.1 9 (p.1 19) = s := o6
        rw [e8, e9]
        simp only [if_pos, if_neg (show p.1 19 ≠ p.1 19 + 1 by omega)]
        rw [t2]
        exact ⟨Nat.le_refl _, fun z => by omega, fun _ => by decide, fun z => by omega⟩
      · have hi : i < p.1 19 := by omega
        have e8 : (r_can p s).2.1 8 i = p.2.1 8 i := (o1 i hi).1
        have e9 : (r_can p s).2.1 9 i = p.2.1 9 i := (o1 i hi).2.1
        rw [e8, e9]
        simp only [if_neg (show i ≠ p.1 19 + 1 by omega), if_neg (show i + 1 ≠ p.1 19 + 1 by omega)]
        obtain ⟨x1, x2, x3, x4⟩ := t3 i z1 hi
        refine ⟨x1, fun z => ?_, fun z => ?_, x4⟩
        · obtain ⟨y1, y2, y3, y4, y5⟩ := x2 z
          refine ⟨y1, y2, y3, ?_, fun x hx w1 w2 => ?_⟩
          · rw [r_can_14, if_neg (fun z => by omega)]; exact y4
          · obtain ⟨u1, u2⟩ := y5 x hx w1 w2
            rw [r_can_14, if_neg (fun z => by omega)]
            exact ⟨u1, u2⟩
        · split
          · decide
          · exact x3 z
    · rw [ex 23 (by decide) (by decide)] at z1
      rw [d19] at z3
      have hi : i < p.1 19 := by omega
      have e8 : (r_can p s).2.1 8 i = p.2.1 8 i := (o1 i hi).1
      have e9 : (r_can p s).2.1 9 i = p.2.1 9 i := (o1 i hi).2.1
      by_cases e : i' = p.1 19
      · subst e
        have e8' : (r_can p s).2.1 8 (p.1 19) = 2 := o5
        rw [e8']
        intro z; omega
      · have hi' : i' < p.1 19 := by omega
        have e8' : (r_can p s).2.1 8 i' = p.2.1 8 i' := (o1 i' hi').1
        have e9' : (r_can p s).2.1 9 i' = p.2.1 9 i' := (o1 i' hi').2.1
        rw [e8, e9, e8', e9']
        exact t4 i i' z1 z2 hi'
  · have key : ∀ w, w < 2 → r_lying (r_can p s) s' w ≤ r_lying p s' w := fun w hw => by
      unfold r_lying r_lyTo
      rw [e28]
      refine cnt_imp _ (fun i _ hi => ?_)
      unfold r_lies at *
      rw [Bool.and_eq_true, beq_iff_eq, beq_iff_eq] at hi ⊢
      rw [a11, r_can_14] at hi
      split at hi
      · omega
      · exact hi
    exact ⟨Nat.le_trans (key 0 (by decide)) (rq s' hs').1, Nat.le_trans (key 1 (by decide)) (rq s' hs').2⟩
  · have w1 : r_wn (r_can p s) ≤ r_wn p := by
      unfold r_wn
      rw [e28]
      refine cnt_imp _ (fun i _ hi => ?_)
      rw [beq_iff_eq, r_can_14] at hi
      rw [beq_iff_eq]
      split at hi
      · omega
      · exact hi
    have w2 : r_zn (r_can p s) ≤ r_zn p := by
      unfold r_zn
      rw [e28]
      refine cnt_imp _ (fun i _ hi => ?_)
      rw [beq_iff_eq, r_can_14] at hi
      rw [beq_iff_eq]
      split at hi
      · omega
      · exact hi
    have := r_tb_len 2 s
    unfold RC at *
    rw [d16, d19, e28]
    omega
theorem hr1_spec {v : Nat} : ∀ (n k : Nat) (p : rs), (∃ k0, k ≤ k0 ∧ k0 < k + n ∧ p.2.1 11 k0 = v ∧ p.2.1 13 k0 ≠ 0 ∧ (∀ j, k ≤ j → j < k0 → ¬ (p.2.1 11 j = v ∧ p.2.1 13 j ≠ 0)) ∧ r_hr 1 v n k p = r_si (r_sa p 13 k0 0) 12 (max (p.2.1 12 k0) (p.1 12))) ∨ ((∀ j, k ≤ j → j < k + n → ¬ (p.2.1 11 j = v ∧ p.2.1 13 j ≠ 0)) ∧ r_hr 1 v n k p = p) := by
  intro n
  induction n with
  | zero => intro k p; exact Or.inr ⟨fun j h1 h2 => by omega, rfl⟩
  | succ n ih =>
    intro k p
    rw [r_hr]
    by_cases c : p.2.1 11 k = v ∧ p.2.1 13 k ≠ 0
    · rw [if_pos c, if_pos rfl]
      exact Or.inl ⟨k, Nat.le_refl _, by omega, c.1, c.2, fun j h1 h2 => by omega, rfl⟩
    · rw [if_neg c]
      rcases ih (k + 1) p with ⟨k0, h1, h2, h3, h4, h5, h6⟩ | ⟨h1, h2⟩
      · refine Or.inl ⟨k0, by omega, by omega, h3, h4, fun j z1 z2 => ?_, h6⟩
        by_cases e : j = k
        · subst e; exact c
        · exact h5 j (by omega) z2
      · refine Or.inr ⟨fun j z1 z2 => ?_, h2⟩
        by_cases e : j = k
        · subst e; exact c
        · exact h1 j (by omega) (by omega)
theorem hr2_spec {v : Nat} : ∀ (n k : Nat) (p : rs), (r_hr 2 v n k p).1 = p.1 ∧ ∀ i, (r_hr 2 v n k p).2.1 13 i = if k ≤ i ∧ i < k + n ∧ p.2.1 11 i = v then 0 else p.2.1 13 i := by
  intro n
  induction n with
  | zero => intro k p; exact ⟨rfl, fun i => by rw [if_neg (by omega)]; rfl⟩
  | succ n ih =>
    intro k p
    rw [r_hr]
    by_cases c : p.2.1 11 k = v ∧ p.2.1 13 k ≠ 0
    · rw [if_pos c, if_neg (by decide)]
      obtain ⟨a, b⟩ := ih (k + 1) (r_sa p 13 k 0)
      refine ⟨a, fun i => ?_⟩
      rw [b]
      have e11 : (r_sa p 13 k 0).2.1 11 = p.2.1 11 := by funext x; simp [r_sa]
      rw [e11]
      by_cases e : i = k
      · subst e
        rw [if_neg (by omega), if_pos ⟨Nat.le_refl _, by omega, c.1⟩]
        simp [r_sa]
      · have e13 : (r_sa p 13 k 0).2.1 13 i = p.2.1 13 i := by simp [r_sa, e]
        rw [e13]
        by_cases c2 : k + 1 ≤ i ∧ i < k + 1 + n ∧ p.2.1 11 i = v
        · rw [if_pos c2, if_pos ⟨by omega, by omega, c2.2.2⟩]
        · rw [if_neg c2, if_neg (fun z => c2 ⟨by omega, by omega, z.2.2⟩)]
    · rw [if_neg c]
      obtain ⟨a, b⟩ := ih (k + 1) p
      refine ⟨a, fun i => ?_⟩
      rw [b]
      by_cases e : i = k
      · subst e
        rw [if_neg (by omega)]
        by_cases c2 : p.2.1 11 i = v
        · rw [if_pos ⟨Nat.le_refl _, by omega, c2⟩]
          by_cases z : p.2.1 13 i = 0
          · exact z
          · exact absurd ⟨c2, z⟩ c
        · rw [if_neg (fun z => c2 z.2.2)]
      · by_cases c2 : k + 1 ≤ i ∧ i < k + 1 + n ∧ p.2.1 11 i = v
        · rw [if_pos c2, if_pos ⟨by omega, by omega, c2.2.2⟩]
        · rw [if_neg c2, if_neg (fun z => c2 ⟨by omega, by omega, z.2.2⟩)]
/-- what hearing does to the open ones and to what is known -/
theorem RI.hear1 {p : rs} {c : Nat} (h : RI p c) (hc : c ≤ 513) (hlt : p.1 23 < p.1 19) (h10 : p.2.1 10 (p.1 23) ≤ p.1 18) : RI (r_hear1 p) c := by
  have hB := h.B hc
  obtain ⟨bb, e23, ex, ea, el⟩ := hB.hear1 hlt
  obtain ⟨ra, rw', rs', rt, ⟨or', ro, rv, kk, t, t1, t2, t3, t4⟩, rq, rc'⟩ := h
  obtain ⟨v1, v2, v3, v4⟩ := rv
  have e28 := ex 28 (by decide) (by decide)
  -- what is closed, and what is known
  have key : p.1 12 ≤ (r_hear1 p).1 12 ∧ (r_hear1 p).1 12 ≤ t (p.1 23 + 1) ∧ (∀ k, (r_hear1 p).2.1 13 k ≠ 0 → p.2.1 13 k ≠ 0) ∧ (∀ k, k < p.1 28 → p.2.1 13 k ≠ 0 → (r_hear1 p).2.1 13 k = 0 → 2 ≤ p.2.1 14 k) ∧ ∀ i, p.1 23 < i → i < p.1 19 → p.2.1 8 i = 1 → (r_hear1 p).2.1 13 (kk i) ≠ 0 := by
    obtain ⟨x1, x2, x3, x4⟩ := t3 (p.1 23) (Nat.le_refl _) hlt
    have hk1 := (rt.1.1 (p.1 23) hlt).1
    have e12 : (r_hear1 p).1 12 = (r_hear p (p.2.1 8 (p.1 23)) (p.2.1 9 (p.1 23))).1 12 := by simp [r_hear1, r_si]
    have e13 : (r_hear1 p).2.1 13 = (r_hear p (p.2.1 8 (p.1 23)) (p.2.1 9 (p.1 23))).2.1 13 := rfl
    rw [e12, e13]
    rcases hk1 with k1 | k1 | k1
    · rw [k1]
      have hr : r_hear p 1 (p.2.1 9 (p.1 23)) = r_hr 1 (p.2.1 9 (p.1 23)) (p.1 28) 0 p := rfl
      rw [hr]
      obtain ⟨y1, y2, y3, y4, y5⟩ := x2 k1
      rcases hr1_spec (v := p.2.1 9 (p.1 23)) (p.1 28) 0 p with ⟨k0, z1, z2, z3, z4, z5, z6⟩ | ⟨z1, -⟩
      · rw [z6]
        have hle : k0 ≤ kk (p.1 23) := by
          rcases Nat.lt_or_ge (kk (p.1 23)) k0 with q | q
          · exact absurd ⟨y2, y3⟩ (z5 _ (Nat.zero_le _) q)
          · exact q
        obtain ⟨w1, w2⟩ := y5 k0 hle z3 z4
        have q12 : (r_si (r_sa p 13 k0 0) 12 (max (p.2.1 12 k0) (p.1 12))).1 12 = max (p.2.1 12 k0) (p.1 12) := by simp [r_si]
        have q13 : ∀ i, (r_si (r_sa p 13 k0 0) 12 (max (p.2.1 12 k0) (p.1 12))).2.1 13 i = if i = k0 then 0 else p.2.1 13 i := fun i => by simp [r_si, r_sa]
        rw [q12]
        refine ⟨by omega, by omega, fun k hk => ?_, fun k hk hk2 hk3 => ?_, fun i hi1 hi2 hi3 => ?_⟩
        · rw [q13] at hk
          split at hk
          · exact absurd rfl hk
          · exact hk
        · rw [q13] at hk3
          split at hk3
          · rename_i e; rw [e]; omega
          · exact absurd hk3 hk2
        · rw [q13]
          obtain ⟨u1, u2, u3, u4, u5⟩ := (t3 i (by omega) hi2).2.1 hi3
          split
          · rename_i e
            exfalso
            by_cases ev : p.2.1 9 i = p.2.1 9 (p.1 23)
            · have := (t4 (p.1 23) i (Nat.le_refl _) hi1 hi2 hi3 ev).2 k1
              omega
            · rw [e, z3] at u2
              exact ev u2.symm
          · exact u3
      · exact absurd ⟨y2, y3⟩ (z1 _ (Nat.zero_le _) (by omega))
    · rw [k1]
      have hr : r_hear p 2 (p.2.1 9 (p.1 23)) = r_hr 2 (p.2.1 9 (p.1 23)) (p.1 28) 0 p := rfl
      rw [hr]
      obtain ⟨a, b⟩ := hr2_spec (v := p.2.1 9 (p.1 23)) (p.1 28) 0 p
      rw [a]
      refine ⟨Nat.le_refl _, by omega, fun k hk => ?_, fun k hk hk2 hk3 => ?_, fun i hi1 hi2 hi3 => ?_⟩
      · rw [b] at hk
        split at hk
        · exact absurd rfl hk
        · exact hk
      · rw [b] at hk3
        split at hk3
        · rename_i e
          have := x3 k1
          rw [← e.2.2] at this
          exact (v2 k hk).2 this
        · exact absurd hk3 hk2
      · obtain ⟨u1, u2, u3, u4, u5⟩ := (t3 i (by omega) hi2).2.1 hi3
        rw [b, if_neg]
        · exact u3
        · intro z
          rw [u2] at z
          exact (t4 (p.1 23) i (Nat.le_refl _) hi1 hi2 hi3 z.2.2).1 k1
    · rw [k1]
      have hr : r_hear p 3 (p.2.1 9 (p.1 23)) = r_si p 12 (p.1 12 + p.2.1 9 (p.1 23)) := rfl
      rw [hr]
      have q12 : (r_si p 12 (p.1 12 + p.2.1 9 (p.1 23))).1 12 = p.1 12 + p.2.1 9 (p.1 23) := by simp [r_si]
      rw [q12]
      have := x4 k1
      exact ⟨by omega, by omega, fun k hk => hk, fun k hk hk2 hk3 => absurd hk3 hk2, fun i hi1 hi2 hi3 => ((t3 i (by omega) hi2).2.1 hi3).2.2.1⟩
  obtain ⟨q1, q2, q3, q4, q5⟩ := key
  refine ⟨ra.eq bb.1 (fun x hx => ex x (by omega) (by omega)) (ea 2 (by decide)) (ea 20 (by decide)) (by rw [el]) (by rw [el]), rw'.eq (fun x hx => ex x (by omega) (by omega)) (ea 5 (by decide)) (ea 6 (by decide)) (by rw [el]) (by rw [el]), rs'.eq (fun x hx => ex x (by omega) (by omega)) (fun j hj => ea j (by omega)) (fun j _ => by rw [el]), ?_, ⟨or'.eq e28 (ea 11 (by decide)) (ea 14 (by decide)), ?_, ⟨fun k hk z1 z2 => ?_, ?_, ?_, ?_⟩, kk, t, by rw [e23]; exact q2, by rw [ex 19 (by decide) (by decide), ex 27 (by decide) (by decide)]; exact t2, fun i z1 z2 => ?_, fun i i' z1 z2 z3 => ?_⟩, rq.eq e28 (ea 11 (by decide)) (ea 14 (by decide)), ?_⟩
  · obtain ⟨tb, s2, s3, s4, s5⟩ := rt
    refine ⟨tb.eq (ex 16 (by decide) (by decide)) (ex 19 (by decide) (by decide)) (ea 7 (by decide)) (ea 8 (by decide)) (ea 9 (by decide)) (ea 10 (by decide)), by rw [e23, ex 19 (by decide) (by decide)]; omega, by rw [ex 18 (by decide) (by decide), ex 16 (by decide) (by decide)]; exact s3, ?_, ?_⟩
    · rw [e23, r_st_s, ea 10 (by decide), ex 18 (by decide) (by decide)]
      exact h10
    · unfold wlx
      rw [ex 16 (by decide) (by decide), ea 7 (by decide)]
      exact s5
  · refine ⟨by rw [ex 10 (by decide) (by decide)]; have := ro.1; omega, fun k hk z1 j hj => ?_⟩
    rw [ex 10 (by decide) (by decide), ex 6 (by decide) (by decide)]
    rw [isref_eq (ea 19 (by decide)) (ea 20 (by decide))] at hj
    exact ro.2 k (by rw [← e28]; exact hk) (q3 k z1) j hj
  · rw [e28] at hk
    rw [ea 14 (by decide)] at z1
    rw [ea 12 (by decide)] at z2
    intro z3
    have := q4 k hk (v1 k hk z1 z2) z3
    omega
  · rw [e28, ea 14 (by decide), ea 24 (by decide), ea 11 (by decide)]; exact v2
  · rw [e28, ea 14 (by decide), ea 12 (by decide), ex 27 (by decide) (by decide)]; exact v3
  · rw [ex 27 (by decide) (by decide), ex 24 (by decide) (by decide)]; exact v4
  · rw [e23] at z1
    rw [ex 19 (by decide) (by decide)] at z2
    rw [ea 8 (by decide), ea 9 (by decide), ea 11 (by decide), ea 12 (by decide), ea 14 (by decide), ea 24 (by decide), e28]
    obtain ⟨x1, x2, x3, x4⟩ := t3 i (by omega) z2
    refine ⟨x1, fun z => ?_, x3, x4⟩
    obtain ⟨y1, y2, y3, y4, y5⟩ := x2 z
    exact ⟨y1, y2, q5 i (by omega) z2 z, y4, fun k hk w1 w2 => y5 k hk w1 (q3 k w2)⟩
  · rw [e23] at z1
    rw [ex 19 (by decide) (by decide)] at z3
    rw [ea 8 (by decide), ea 9 (by decide)]
    exact t4 i i' (by omega) z2 z3
  · have wz := wn_eq (p' := r_hear1 p) e28 (ea 14 (by decide))
    unfold RC at *
    rw [wz.1, wz.2, ex 16 (by decide) (by decide), ex 19 (by decide) (by decide), e28]
    exact rc'
theorem RI.hears {c : Nat} (hc : c ≤ 513) : ∀ (n : Nat) (p : rs), p.1 23 + n = p.1 19 → RI p c → RI (r_hears n p) c := by
  intro n
  induction n with
  | zero => intro p _ h; exact h
  | succ n ih =>
    intro p hn h
    rw [r_hears]
    split
    · rename_i h10
      obtain ⟨bb, e23, ex, ea, el⟩ := (h.B hc).hear1 (by omega)
      exact ih _ (by rw [e23, ex 19 (by decide) (by decide)]; omega) (h.hear1 hc (by omega) h10)
    · exact h
theorem RI.mv1 {p : rs} {c n : Nat} (h : RI p c) (hc : c ≤ 513) : RI (r_mv1 p n) c := by
  have hm : min (p.1 16 - p.1 18) n ≤ p.1 16 - p.1 18 := Nat.min_le_left _ _
  have h1 : RI (r_si p 18 (p.1 18 + min (p.1 16 - p.1 18) n)) c := by
    obtain ⟨ra, rw', rs', rt, ⟨or', ro, rv, tm⟩, rq, rc'⟩ := h
    have o16 := ra.1.1 16
    obtain ⟨tb, s2, s3, s4, s5⟩ := rt
    generalize hv : p.1 18 + min (p.1 16 - p.1 18) n = v
    have hv1 : p.1 18 ≤ v := by omega
    have hv2 : v ≤ p.1 16 := by omega
    have ex : ∀ x, x ≠ 18 → (r_si p 18 v).1 x = p.1 x := fun x hx => by simp [r_si, hx]
    have e18 : (r_si p 18 v).1 18 = v := by simp [r_si]
    refine ⟨ra.eq (ra.1.si (by omega)) (fun x hx => ex x (by omega)) rfl rfl rfl rfl, rw'.eq (fun x hx => ex x (by omega)) rfl rfl rfl rfl, rs'.eq (fun x hx => ex x (by omega)) (fun _ _ => rfl) (fun _ _ => rfl), ⟨tb.eq (ex 16 (by decide)) (ex 19 (by decide)) rfl rfl rfl rfl, s2, by rw [e18]; exact hv2, ?_, s5⟩, ⟨or'.eq (ex 28 (by decide)) rfl rfl, ro.eq (fun x hx => ex x (by omega)) (fun _ _ => rfl), rv.eq (fun x hx => ex x (by omega)) (fun _ _ => rfl), tm.eq (fun x hx => ex x (by omega)) (fun _ _ => rfl)⟩, rq.eq (ex 28 (by decide)) rfl rfl, rc'⟩
    rw [e18]
    show r_st p (p.1 23) ≤ v
    omega
  refine RI.hears hc _ _ ?_ h1
  show p.1 23 + (p.1 19 - p.1 23) = p.1 19
  have := h.2.2.2.1.2.1
  omega
theorem RI.new (x y : Int32) : RI (r_new x y) 0 := by
  have hx4 := r_cl_spec x 400 (by decide)
  have hy4 := r_cl_spec y 4 (by decide)
  have p0 : (r_new x y).1 0 = r_cl x 400 := rfl
  have pz : ∀ i, i ≠ 0 → i ≠ 1 → (r_new x y).1 i = 0 := fun i h0 h1 => by simp [r_new, r_si, r_p0, h0, h1]
  have pa : ∀ j i, (r_new x y).2.1 j i = 0 := fun j i => rfl
  have ok0 : rok r_p0 := ⟨fun _ => by show 0 < 2 ^ 30; decide, fun _ _ => by show 0 < 2 ^ 30; decide, fun _ _ => by show 0 < 2 ^ 64; decide⟩
  have z28 := pz 28 (by decide) (by decide)
  have z6 := pz 6 (by decide) (by decide)
  have z10 := pz 10 (by decide) (by decide)
  have z13 := pz 13 (by decide) (by decide)
  have z24 := pz 24 (by decide) (by decide)
  have z25 := pz 25 (by decide) (by decide)
  have z19 := pz 19 (by decide) (by decide)
  have z16 := pz 16 (by decide) (by decide)
  have z23 := pz 23 (by decide) (by decide)
  have z12 := pz 12 (by decide) (by decide)
  have z27 := pz 27 (by decide) (by decide)
  have nk : ∀ k, ¬ k < (r_new x y).1 28 := fun k hk => by rw [z28] at hk; omega
  have wn0 : r_wn (r_new x y) = 0 := by unfold r_wn; rw [z28]; rfl
  have zn0 : r_zn (r_new x y) = 0 := by unfold r_zn; rw [z28]; rfl
  refine ⟨⟨(ok0.si (by omega)).si (by omega), by rw [z28]; decide, by rw [pz 2 (by decide) (by decide)]; decide, fun i _ => by rw [pa]; decide, fun k _ => by rw [pa]; decide, by rw [z10]; omega, by rw [z6]; omega, by rw [z10, z6, pz 11 (by decide) (by decide)]; rfl, by rw [pz 11 (by decide) (by decide)]; omega, by rw [p0]; exact hx4, by rw [z13]; omega⟩, ⟨⟨⟨fun i hi => by rw [z6] at hi; omega, by rw [z6, z13]; rfl⟩, fun i hi => by rw [z10] at hi; omega, fun b hb => ?_, fun i hi => by rw [z6] at hi; omega⟩, fun i hi => by rw [z25] at hi; omega, by rw [pz 15 (by decide) (by decide)]; omega, by rw [z24]; omega, by rw [z25]; omega, by rw [z25, z24, pz 26 (by decide) (by decide)]; rfl, by rw [pz 26 (by decide) (by decide)]; omega, by rw [z24]; exact Nat.zero_le _⟩, ⟨fun k hk => absurd hk (nk k), by rw [pz 41 (by decide) (by decide)]; omega⟩, ⟨⟨fun i hi => by rw [z19] at hi; omega, by rw [z19, z16]; rfl⟩, by rw [z23]; omega, by rw [pz 18 (by decide) (by decide)]; omega, by rw [z23]; exact Nat.zero_le _, fun b hb => ?_⟩, ⟨fun i j _ hj => absurd hj (nk j), ⟨by rw [z10]; omega, fun k hk => absurd hk (nk k)⟩, ⟨fun k hk => absurd hk (nk k), fun k hk => absurd hk (nk k), fun k hk => absurd hk (nk k), by rw [z27]; omega⟩, fun _ => 0, fun _ => 0, by rw [z12]; omega, by rw [z27], fun i _ hi => by rw [z19] at hi; omega, fun i i' _ _ hi => by rw [z19] at hi; omega⟩, fun s _ => ?_, ?_⟩
  · unfold wlx at hb; rw [z13] at hb; simp at hb
  · unfold wlx at hb; rw [z16] at hb; simp at hb
  · have e : ∀ w, r_lying (r_new x y) s w = 0 := fun w => by unfold r_lying r_lyTo; rw [z28]; rfl
    rw [e, e]; decide
  · unfold RC
    rw [wn0, zn0, z16, z19, z28]
    decide
