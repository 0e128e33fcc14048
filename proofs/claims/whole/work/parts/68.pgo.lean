/-! what holds is kept: telling, decoding, going on -/
theorem RT.tell {p : rs} {kind v : Nat} (t : RT p) (hk : kind = 1 ∨ kind = 2 ∨ kind = 3) (hv : v ≤ 2400) (h8 : kind ≠ 3 → v < 8) : RT (r_tell p kind v) := by
  obtain ⟨tb, t2, t3, t4, t5⟩ := t
  obtain ⟨o1, o2, o3, o4, o5, o6, o7⟩ := r_tell_old p kind v
  have st : ∀ i, i ≤ p.1 19 → r_st (r_tell p kind v) i = r_st p i := fun i hi => by
    unfold r_st
    split
    · rfl
    · exact (o1 _ (by omega)).2.2
  have a7 : ∀ i, i < (r_tb kind v).length → (r_tell p kind v).2.1 7 (p.1 16 + i) = (r_tb kind v).getD i 0 := fun i hi => by
    have := r_lays_at 1 (r_tb kind v) p i hi
    simp only [r_tell, r_told, r_si, r_sa]
    exact this
  refine ⟨⟨fun i hi => ?_, ?_⟩, by rw [r_tell_k (by decide) (by decide), o4]; omega, by rw [r_tell_k (by decide) (by decide), o3]; omega, ?_, ?_⟩
  · rw [o4] at hi
    by_cases e : i = p.1 19
    · subst e
      rw [o5, o6, o7, st _ (Nat.le_refl _), tb.2]
      exact ⟨hk, hv, h8, a7, rfl⟩
    · have hi' : i < p.1 19 := by omega
      obtain ⟨b1, b2, b3, b4, b5⟩ := tb.1 i hi'
      have he := tb.end hi'
      rw [(o1 i hi').1, (o1 i hi').2.1, (o1 i hi').2.2, st i (by omega)]
      exact ⟨b1, b2, b3, b4.congr (fun x _ hx => o2 x (by omega)), b5⟩
  · rw [o4, r_st_s, o7, o3]
  · rw [r_tell_k (show 23 ≠ 16 by decide) (by decide), r_tell_k (show 18 ≠ 16 by decide) (by decide), st _ t2]
    exact t4
  · rw [wlx_told]
    refine app_256 t5 ?_
    unfold r_tb
    split
    · exact nb_256 (by decide) (by omega)
    · split <;> exact nb_256 (by decide) (by omega)
theorem lying_rg {p q : rs} (r : rg p q) {s w : Nat} (hw : w < 2) : r_lying q s w ≤ r_lying p s w := by
  unfold r_lying r_lyTo
  rw [r.2.2.2.2.2.2.1 28 (by decide) (by decide) (by decide)]
  refine cnt_imp _ (fun i _ hi => ?_)
  unfold r_lies at *
  rw [Bool.and_eq_true, beq_iff_eq, beq_iff_eq] at hi ⊢
  rw [r.2.2.2.2.2.2.2.1 11 (by decide) (by decide) (by decide) (by decide) (by decide)] at hi
  have := r.1 i
  exact ⟨hi.1, by omega⟩
theorem RQ.rg {p q : rs} (t : RQ p) (r : rg p q) : RQ q := fun s hs => ⟨Nat.le_trans (lying_rg r (by decide)) (t s hs).1, Nat.le_trans (lying_rg r (by decide)) (t s hs).2⟩
theorem r_dec_tell {p : rs} {k : Nat} (hn : p.2.1 12 k ≠ 0) : r_dec p k = r_si (r_tell (r_sa p 14 k 2) 1 (p.2.1 11 k)) 27 (max (p.2.1 12 k) (p.1 27)) := by unfold r_dec; rw [if_neg hn]
set_option maxHeartbeats 1000000 in
theorem RI.dec {p : rs} {c k : Nat} (h : RI p c) (hc : c ≤ 513) (hk : k < p.1 28) (h1 : p.2.1 14 k = 1) (hle : p.2.1 12 k ≤ p.1 24) (low : ∀ j, j < k → p.2.1 11 j = p.2.1 11 k → 2 ≤ p.2.1 14 j) : RI (r_dec p k) c := by
  have hw := h.wn hc
  obtain ⟨ra, rw', rs', rt, ⟨or', ro, rv, tm⟩, rq, rc'⟩ := h
  have g := rg.dec (p := p) h1
  have ex : ∀ x, x ≠ 16 → x ≠ 19 → x ≠ 27 → (r_dec p k).1 x = p.1 x := g.2.2.2.2.2.2.1
  have ea : ∀ j, j ≠ 7 → j ≠ 8 → j ≠ 9 → j ≠ 10 → j ≠ 14 → (r_dec p k).2.1 j = p.2.1 j := g.2.2.2.2.2.2.2.1
  have el := g.2.2.2.2.2.2.2.2
  have h8 : p.2.1 11 k < 8 := (rs'.1 k hk).1.2.2.2.1
  have s14 : ∀ i, (r_dec p k).2.1 14 i = if i = k then 2 else p.2.1 14 i := fun i => by rw [r_dec_14]
  have e28 := ex 28 (by decide) (by decide) (by decide)
  have e24 := ex 24 (by decide) (by decide) (by decide)
  have a11 := ea 11 (by decide) (by decide) (by decide) (by decide) (by decide)
  have a12 := ea 12 (by decide) (by decide) (by decide) (by decide) (by decide)
  have a13 := ea 13 (by decide) (by decide) (by decide) (by decide) (by decide)
  have a24 := ea 24 (by decide) (by decide) (by decide) (by decide) (by decide)
  refine ⟨ra.eq (ra.1.dec h8 (by omega) (by omega)) (fun x hx => ex x (by omega) (by omega) (by omega)) (ea 2 (by decide) (by decide) (by decide) (by decide) (by decide)) (ea 20 (by decide) (by decide) (by decide) (by decide) (by decide)) (by rw [el]) (by rw [el]), rw'.eq (fun x hx => ex x (by omega) (by omega) (by omega)) (ea 5 (by decide) (by decide) (by decide) (by decide) (by decide)) (ea 6 (by decide) (by decide) (by decide) (by decide) (by decide)) (by rw [el]) (by rw [el]), rs'.eq (fun x hx => ex x (by omega) (by omega) (by omega)) (fun j hj => ea j (by omega) (by omega) (by omega) (by omega) (by omega)) (fun j _ => by rw [el]), ?_, ⟨or'.dec hk h1 low, ro.eq (fun x hx => ex x (by omega) (by omega) (by omega)) (fun j hj => ea j (by omega) (by omega) (by omega) (by omega) (by omega)), ?_, ?_⟩, rq.rg g, ?_⟩
  · by_cases hn : p.2.1 12 k = 0
    · have : r_dec p k = r_sa p 14 k 2 := by unfold r_dec; rw [if_pos hn]
      rw [this]
      exact rt.eq (fun x _ => rfl) (fun j hj => by have : j ≠ 14 := by omega
                                                   funext i; simp [r_sa, this])
    · rw [r_dec_tell hn]
      have r1 : RT (r_sa p 14 k 2) := rt.eq (fun x _ => rfl) (fun j hj => by have : j ≠ 14 := by omega
                                                                             funext i; simp [r_sa, this])
      exact (r1.tell (kind := 1) (v := p.2.1 11 k) (Or.inl rfl) (by omega) (fun _ => h8)).eq (fun x hx => by have : x ≠ 27 := by omega
                                                                                                             simp [r_si, this]) (fun j _ => rfl)
  · obtain ⟨v1, v2, v3, v4⟩ := rv
    have h27 := r_dec_27 (p := p) (k := k)
    refine ⟨fun i hi z1 z2 => ?_, fun i hi => ?_, fun i hi z1 => ?_, ?_⟩
    · rw [s14] at z1
      split at z1
      · omega
      · rw [a12] at z2
        rw [a13]
        exact v1 i (by rw [← e28]; exact hi) z1 z2
    · rw [a24, a11, s14]
      split
      · exact ⟨Or.inl (Nat.le_refl _), fun _ => Nat.le_refl _⟩
      · exact v2 i (by rw [← e28]; exact hi)
    · rw [a12, h27]
      rw [s14] at z1
      split at z1
      · rename_i e
        subst e
        split
        · omega
        · omega
      · have := v3 i (by rw [← e28]; exact hi) z1
        split
        · exact this
        · omega
    · rw [h27, e24]
      split
      · exact v4
      · omega
  · obtain ⟨kk, t, t1, t2, t3, t4⟩ := tm
    obtain ⟨v1, v2, v3, v4⟩ := rv
    have e12 := ex 12 (by decide) (by decide) (by decide)
    have e23 := ex 23 (by decide) (by decide) (by decide)
    have old : ∀ i, p.1 23 ≤ i → i < p.1 19 → ∀ t' : Nat → Nat, t' i = t i → t' (i + 1) = t (i + 1) → ∀ kk' : Nat → Nat, kk' i = kk i → t' i ≤ t' (i + 1) ∧ (p.2.1 8 i = 1 → kk' i < p.1 28 ∧ p.2.1 11 (kk' i) = p.2.1 9 i ∧ p.2.1 13 (kk' i) ≠ 0 ∧ (r_dec p k).2.1 14 (kk' i) = 2 ∧ ∀ x, x ≤ kk' i → p.2.1 11 x = p.2.1 9 i → p.2.1 13 x ≠ 0 → (r_dec p k).2.1 14 x = 2 ∧ p.2.1 12 x ≤ t' (i + 1)) ∧ (p.2.1 8 i = 2 → p.2.1 24 (p.2.1 9 i) ≠ 0) ∧ (p.2.1 8 i = 3 → t' i + p.2.1 9 i ≤ t' (i + 1)) := by
      intro i hi1 hi2 t' ht1 ht2 kk' hkk
      rw [ht1, ht2, hkk]
      obtain ⟨x1, x2, x3, x4⟩ := t3 i hi1 hi2
      refine ⟨x1, fun z => ?_, x3, x4⟩
      obtain ⟨y1, y2, y3, y4, y5⟩ := x2 z
      refine ⟨y1, y2, y3, ?_, fun x hx z1 z2 => ?_⟩
      · rw [s14]; split
        · rfl
        · exact y4
      · obtain ⟨w1, w2⟩ := y5 x hx z1 z2
        refine ⟨?_, w2⟩
        rw [s14]; split
        · rfl
        · exact w1
    by_cases hn : p.2.1 12 k = 0
    · have hd : r_dec p k = r_sa p 14 k 2 := by unfold r_dec; rw [if_pos hn]
      have d19 : (r_dec p k).1 19 = p.1 19 := by rw [hd]; rfl
      have d27 : (r_dec p k).1 27 = p.1 27 := by rw [hd]; rfl
      have d8 : (r_dec p k).2.1 8 = p.2.1 8 := by rw [hd]; funext i; simp [r_sa]
      have d9 : (r_dec p k).2.1 9 = p.2.1 9 := by rw [hd]; funext i; simp [r_sa]
      refine ⟨kk, t, by rw [e12, e23]; exact t1, by rw [d19, d27]; exact t2, fun i z1 z2 => ?_, fun i i' z1 z2 z3 => ?_⟩
      · rw [d8, d9, a11, a12, a13, a24, e28]
        rw [e23] at z1
        rw [d19] at z2
        exact old i z1 z2 t rfl rfl kk rfl
      · rw [d8, d9]
        rw [e23] at z1
        rw [d19] at z3
        exact t4 i i' z1 z2 z3
    · obtain ⟨o1, o2, o3, o4, o5, o6, o7⟩ := r_tell_old (r_sa p 14 k 2) 1 (p.2.1 11 k)
      have q8 : (r_sa p 14 k 2).2.1 8 = p.2.1 8 := by funext i; simp [r_sa]
      have q9 : (r_sa p 14 k 2).2.1 9 = p.2.1 9 := by funext i; simp [r_sa]
      rw [q8, q9] at o1
      have d19 : (r_dec p k).1 19 = p.1 19 + 1 := by rw [r_dec_tell hn]; exact o4
      have d27 : (r_dec p k).1 27 = max (p.2.1 12 k) (p.1 27) := by rw [r_dec_27, if_neg hn]
      have d8 : ∀ i, i < p.1 19 → (r_dec p k).2.1 8 i = p.2.1 8 i := fun i hi => by rw [r_dec_tell hn]; exact (o1 i hi).1
      have d9 : ∀ i, i < p.1 19 → (r_dec p k).2.1 9 i = p.2.1 9 i := fun i hi => by rw [r_dec_tell hn]; exact (o1 i hi).2.1
      have d8' : (r_dec p k).2.1 8 (p.1 19) = 1 := by rw [r_dec_tell hn]; exact o5
      have d9' : (r_dec p k).2.1 9 (p.1 19) = p.2.1 11 k := by rw [r_dec_tell hn]; exact o6
      have h23 := rt.2.1
      have g24 : p.2.1 24 (p.2.1 11 k) = 0 := by
        by_cases z : p.2.1 24 (p.2.1 11 k) = 0
        · exact z
        · have := (v2 k hk).2 z
          omega
      refine ⟨fun i => if i = p.1 19 then k else kk i, fun i => if i = p.1 19 + 1 then max (p.2.1 12 k) (p.1 27) else t i, ?_, ?_, fun i z1 z2 => ?_, fun i i' z1 z2 z3 z4 z5 => ?_⟩
      · rw [e12, e23]
        simp only [if_neg (show p.1 23 ≠ p.1 19 + 1 by omega)]
        exact t1
      · rw [d19, d27]
        simp only [if_pos]
      · rw [a11, a12, a13, a24, e28]
        rw [e23] at z1
        rw [d19] at z2
        by_cases e : i = p.1 19
        · subst e
          rw [d8', d9']
          simp only [if_pos, if_neg (show p.1 19 ≠ p.1 19 + 1 by omega)]
          refine ⟨by rw [t2]; omega, fun _ => ⟨hk, trivial, v1 k hk (by omega) hn, by rw [s14, if_pos rfl], fun x hx y1 y2 => ?_⟩, fun z => by omega, fun z => by omega⟩
          rw [s14]
          by_cases ex : x = k
          · subst ex
            rw [if_pos rfl]
            exact ⟨rfl, by omega⟩
          · rw [if_neg ex]
            have l2 := low x (by omega) y1
            have : p.2.1 14 x = 2 := by
              rcases (v2 x (by omega)).1 with q | q
              · omega
              · rw [y1] at q; exact absurd g24 q
            have := v3 x (by omega) this
            exact ⟨by assumption, by omega⟩
        · have hi : i < p.1 19 := by omega
          rw [d8 i hi, d9 i hi]
          exact old i z1 hi (fun i => if i = p.1 19 + 1 then max (p.2.1 12 k) (p.1 27) else t i) (if_neg (by omega)) (if_neg (by omega)) (fun i => if i = p.1 19 then k else kk i) (if_neg e)
      · rw [e23] at z1
        rw [d19] at z3
        have hi : i < p.1 19 := by omega
        rw [d8 i hi]
        by_cases e : i' = p.1 19
        · subst e
          rw [d9', d9 i hi] at z5
          simp only [if_pos, if_neg (show i ≠ p.1 19 by omega)]
          obtain ⟨x1, x2, x3, x4⟩ := t3 i z1 hi
          refine ⟨fun z => ?_, fun z => ?_⟩
          · have := x3 z
            rw [← z5] at this
            exact this g24
          · obtain ⟨y1, y2, y3, y4, y5⟩ := x2 z
            rcases Nat.lt_or_ge (kk i) k with q | q
            · exact q
            · exfalso
              by_cases ek : kk i = k
              · rw [ek] at y4; omega
              · have := or' k (kk i) (by omega) y1 (by rw [y2, z5]) (by omega)
                omega
        · have hi' : i' < p.1 19 := by omega
          rw [d8 i' hi'] at z4
          rw [d9 i' hi', d9 i hi] at z5
          simp only [if_neg e, if_neg (show i ≠ p.1 19 by omega)]
          exact t4 i i' z1 z2 hi' z4 z5
  · have hwd := r_wn_dec hk h1
    have hzd := r_wn_rg g
    have ht := r_dec_t (p := p) h8
    unfold RC at *
    rw [e28]
    omega
theorem RI.rel {c s : Nat} (hc : c ≤ 513) : ∀ (l : List Nat) (p : rs), lyl p s 1 = l → RI p c → RI (r_rel l p) c := by
  intro l
  induction l with
  | nil => intro p _ h; exact h
  | cons k l ih =>
    intro p hl h
    rw [r_rel]
    split
    · exact h
    · rename_i hle
      obtain ⟨hk, hks, hk1, hkm⟩ := lyl_rest hl
      exact ih _ (lyl_dec hl) (h.dec hc hk hk1 (by omega) (h.2.2.2.2.1.1.low hl))
theorem RI.goOn {p : rs} {c s : Nat} (h : RI p c) (hc : c ≤ 513) : RI (r_goOn p s) c := by
  rw [r_goOn_rel]
  exact RI.rel hc _ p rfl h
theorem RI.goTo {p : rs} {c : Nat} (h : RI p c) (hc : c ≤ 513) : ∀ n, RI (r_goTo p n) c := by
  intro n
  induction n with
  | zero => exact h
  | succ n ih => rw [r_goTo]; exact ih.goOn hc
theorem RI.dlv {p : rs} {c k : Nat} (h : RI p c) (hk : k < p.1 28) (h0 : p.2.1 14 k = 0) (hf : ∀ j, j < p.1 28 → p.2.1 11 j = p.2.1 11 k → p.2.1 14 j = 0 → k ≤ j) (h8 : r_lying p (p.2.1 11 k) 1 ≠ 8) : RI (del1 p k) c := by
  obtain ⟨ra, rw', rs', rt, ⟨or', ro, rv, tm⟩, rq, rc'⟩ := h
  have ea : ∀ j, j ≠ 14 → (del1 p k).2.1 j = p.2.1 j := fun j hj => del1_a hj
  refine ⟨ra.eq (ra.1.sa (by decide)) (fun _ _ => rfl) (ea 2 (by decide)) (ea 20 (by decide)) rfl rfl, rw'.eq (fun _ _ => rfl) (ea 5 (by decide)) (ea 6 (by decide)) rfl rfl, rs'.eq (fun _ _ => rfl) (fun j hj => ea j (by omega)) (fun _ _ => rfl), rt.eq (fun _ _ => rfl) (fun j hj => ea j (by omega)), ⟨or'.del1 hk h0 hf, ro.eq (fun _ _ => rfl) (fun j hj => ea j (by omega)), ?_, ?_⟩, fun s hs => ?_, ?_⟩
  · obtain ⟨v1, v2, v3, v4⟩ := rv
    refine ⟨fun i hi z1 z2 => ?_, fun i hi => ?_, fun i hi z1 => ?_, v4⟩
    · rw [ea 12 (by decide)] at z2
      rw [ea 13 (by decide)]
      rw [del1_14] at z1
      refine v1 i hi ?_ z2
      split at z1
      · rename_i e; rw [e]; omega
      · exact z1
    · rw [ea 24 (by decide), ea 11 (by decide), del1_14]
      split
      · rename_i e
        subst e
        refine ⟨Or.inl (by omega), fun z => ?_⟩
        have := (v2 i hi).2 z
        omega
      · exact v2 i hi
    · rw [del1_14] at z1
      rw [ea 12 (by decide)]
      split at z1
      · omega
      · exact v3 i hi z1
  · obtain ⟨kk, t, t1, t2, t3, t4⟩ := tm
    refine ⟨kk, t, t1, t2, fun i z1 z2 => ?_, fun i i' z1 z2 z3 => ?_⟩
    · rw [ea 8 (by decide), ea 9 (by decide), ea 11 (by decide), ea 12 (by decide), ea 13 (by decide), ea 24 (by decide)]
      obtain ⟨x1, x2, x3, x4⟩ := t3 i z1 z2
      refine ⟨x1, fun z => ?_, x3, x4⟩
      obtain ⟨y1, y2, y3, y4, y5⟩ := x2 z
      refine ⟨y1, y2, y3, ?_, fun x hx w1 w2 => ?_⟩
      · rw [del1_14, if_neg]
        · exact y4
        · intro e; rw [e] at y4; omega
      · obtain ⟨u1, u2⟩ := y5 x hx w1 w2
        refine ⟨?_, u2⟩
        rw [del1_14, if_neg]
        · exact u1
        · intro e; rw [e] at u1; omega
    · rw [ea 8 (by decide), ea 9 (by decide)]
      exact t4 i i' z1 z2 z3
  · have q := rq s hs
    constructor
    · refine Nat.le_trans ?_ q.1
      unfold r_lying r_lyTo
      refine cnt_imp _ (fun i _ hi => ?_)
      unfold r_lies at *
      rw [Bool.and_eq_true, beq_iff_eq, beq_iff_eq] at hi ⊢
      rw [ea 11 (by decide), del1_14] at hi
      split at hi
      · omega
      · exact hi
    · by_cases e : s = p.2.1 11 k
      · subst e
        have : r_lying (del1 p k) (p.2.1 11 k) 1 = r_lying p (p.2.1 11 k) 1 + 1 := by
          unfold r_lying r_lyTo
          refine (cnt_drop1 (k := k) (P := r_lies (del1 p k) (p.2.1 11 k) 1) (Q := r_lies p (p.2.1 11 k) 1) ?_ ?_ (fun i hi => ?_) _ hk).symm
          · unfold r_lies; rw [ea 11 (by decide), del1_14, if_pos rfl]; simp
          · unfold r_lies; rw [h0]; simp
          · unfold r_lies; rw [ea 11 (by decide), del1_14, if_neg hi]
        rw [this]
        omega
      · refine Nat.le_trans ?_ q.2
        unfold r_lying r_lyTo
        refine cnt_imp _ (fun i _ hi => ?_)
        unfold r_lies at *
        rw [Bool.and_eq_true, beq_iff_eq, beq_iff_eq] at hi ⊢
        rw [ea 11 (by decide), del1_14] at hi
        split at hi
        · rename_i e2; subst e2; exact absurd hi.1.symm e
        · exact hi
  · have wn1 : r_wn (del1 p k) = r_wn p + 1 := by
      unfold r_wn
      exact (cnt_drop1 (P := fun i => (del1 p k).2.1 14 i == 1) (Q := fun i => p.2.1 14 i == 1) (by rw [del1_14, if_pos rfl]; rfl) (by rw [h0]; rfl) (fun i hi => by rw [del1_14, if_neg hi]) _ hk).symm
    have zn1 : r_zn (del1 p k) + 1 = r_zn p := by
      unfold r_zn
      exact cnt_drop1 (Q := fun i => (del1 p k).2.1 14 i == 0) (P := fun i => p.2.1 14 i == 0) (by rw [h0]; rfl) (by rw [del1_14, if_pos rfl]; rfl) (fun i hi => by rw [del1_14, if_neg hi]) _ hk
    unfold RC at *
    show p.1 16 + _ ≤ _ + p.1 28 ∧ p.1 19 + _ ≤ _ + p.1 28
    omega
theorem RI.del {p : rs} {c k : Nat} {x : Int32} (h : RI p c) (hc : c ≤ 513) (hx : r_next p x = some k) (h8 : r_lying p (p.2.1 11 k) 1 ≠ 8) : RI (r_del p k) c := by
  obtain ⟨hk, hxe, h0, hmin⟩ := r_next_some hx
  refine RI.goOn (p := del1 p k) (h.dlv hk h0 (fun j h1 h2 h3 => ?_) h8) hc
  rcases Nat.lt_or_ge j k with q | q
  · exact absurd ⟨by rw [h2, hxe], h3⟩ (hmin j q)
  · exact q
theorem RI.got1 {p : rs} {c : Nat} (h : RI p c) (h6 : p.1 24 < p.1 6) (h5 : p.2.1 5 (p.1 24) ≤ p.1 15) : RI (r_got1 p) c := by
  have hD := h.D
  obtain ⟨dd, e24, e2, ex⟩ := hD.got1 h6
  obtain ⟨ra, rw', rs', rt, ⟨or', ro, rv, tm⟩, rq, rc'⟩ := h
  have ea : ∀ j, (r_got1 p).2.1 j = p.2.1 j := fun j => by rw [e2]
  have el : (r_got1 p).2.2 = p.2.2 := by rw [e2]
  refine ⟨ra.eq dd.1 (fun x hx => ex x (by omega) (by omega) (by omega)) (ea 2) (ea 20) (by rw [el]) (by rw [el]), ?_, rs'.eq (fun x hx => ex x (by omega) (by omega) (by omega)) (fun j _ => ea j) (fun j _ => by rw [el]), rt.eq (fun x hx => ex x (by omega) (by omega) (by omega)) (fun j _ => ea j), ⟨or'.eq (ex 28 (by decide) (by decide) (by decide)) (ea 11) (ea 14), ro.eq (fun x hx => ex x (by omega) (by omega) (by omega)) (fun j _ => ea j), ?_, tm.eq (fun x hx => ex x (by omega) (by omega) (by omega)) (fun j _ => ea j)⟩, rq.eq (ex 28 (by decide) (by decide) (by decide)) (ea 11) (ea 14), ?_⟩
  · obtain ⟨t1, t2, t3, t4, t5, t6, t7, t8⟩ := rw'
    refine ⟨t1.eq (ex 0 (by decide) (by decide) (by decide)) (ex 6 (by decide) (by decide) (by decide)) (ex 10 (by decide) (by decide) (by decide)) (ex 13 (by decide) (by decide) (by decide)) (ea 5) (ea 6) (by rw [el]) (by rw [el]), t2.got1 hD h6, by rw [ex 15 (by decide) (by decide) (by decide), ex 13 (by decide) (by decide) (by decide)]; exact t3, dd.2.2.1, dd.2.2.2.1, dd.2.2.2.2.1, dd.2.2.2.2.2.1, ?_⟩
    rw [e24, r_is_s, ea 5, ex 15 (by decide) (by decide) (by decide)]
    exact h5
  · obtain ⟨v1, v2, v3, v4⟩ := rv
    unfold RV
    rw [ex 28 (by decide) (by decide) (by decide), ex 27 (by decide) (by decide) (by decide), e24, e2]
    exact ⟨v1, v2, v3, by omega⟩
  · have wz := wn_eq (p' := r_got1 p) (ex 28 (by decide) (by decide) (by decide)) (ea 14)
    unfold RC at *
    rw [wz.1, wz.2, ex 16 (by decide) (by decide) (by decide), ex 19 (by decide) (by decide) (by decide), ex 28 (by decide) (by decide) (by decide)]
    exact rc'
theorem RI.gots {c : Nat} : ∀ (n : Nat) (p : rs), p.1 24 + n = p.1 6 → RI p c → RI (r_gots n p) c := by
  intro n
  induction n with
  | zero => intro p _ h; exact h
  | succ n ih =>
    intro p hn h
    rw [r_gots]
    split
    · rename_i h5
      obtain ⟨dd, e24, e2, ex⟩ := h.D.got1 (by omega)
      exact ih _ (by rw [e24, ex 6 (by decide) (by decide) (by decide)]; omega) (h.got1 (by omega) h5)
    · exact h
theorem RI.si15 {p : rs} {c v : Nat} (h : RI p c) (h1 : p.1 15 ≤ v) (h2 : v ≤ p.1 13) : RI (r_si p 15 v) c := by
  obtain ⟨ra, rw', rs', rt, ⟨or', ro, rv, tm⟩, rq, rc'⟩ := h
  have o13 := ra.1.1 13
  have ex : ∀ x, x ≠ 15 → (r_si p 15 v).1 x = p.1 x := fun x hx => by simp [r_si, hx]
  refine ⟨ra.eq (ra.1.si (by omega)) (fun x hx => ex x (by omega)) rfl rfl rfl rfl, ?_, rs'.eq (fun x hx => ex x (by omega)) (fun _ _ => rfl) (fun _ _ => rfl), rt.eq (fun x hx => ex x (by omega)) (fun _ _ => rfl), ⟨or'.eq (ex 28 (by decide)) rfl rfl, ro.eq (fun x hx => ex x (by omega)) (fun _ _ => rfl), rv.eq (fun x hx => ex x (by omega)) (fun _ _ => rfl), tm.eq (fun x hx => ex x (by omega)) (fun _ _ => rfl)⟩, rq.eq (ex 28 (by decide)) rfl rfl, rc'⟩
  obtain ⟨t1, t2, t3, t4, t5, t6, t7, t8⟩ := rw'
  have e15 : (r_si p 15 v).1 15 = v := by simp [r_si]
  refine ⟨t1.eq (ex 0 (by decide)) (ex 6 (by decide)) (ex 10 (by decide)) (ex 13 (by decide)) rfl rfl rfl rfl, t2, by rw [e15]; exact h2, t4, t5, t6.trans (r_sum_l (p := p) (q := r_si p 15 v) rfl _ _), t7, ?_⟩
  rw [e15]
  show r_is p (p.1 24) ≤ v
  omega
theorem RI.obey {p : rs} {c n : Nat} (h : RI p c) : RI (r_gots (p.1 6 - p.1 24) (r_si p 15 (p.1 15 + min (p.1 13 - p.1 15) n))) c := by
  have h13 := h.2.1.2.2.1
  have h24 := h.known.2.2.1
  have hm : min (p.1 13 - p.1 15) n ≤ p.1 13 - p.1 15 := Nat.min_le_left _ _
  refine RI.gots _ _ ?_ (h.si15 (by omega) (by omega))
  show p.1 24 + (p.1 6 - p.1 24) = p.1 6
  omega
theorem RI.mv0 {p : rs} {c n : Nat} (h : RI p c) (hc : c ≤ 513) : RI (r_mv0 p n) c := h.obey.goTo hc 8
