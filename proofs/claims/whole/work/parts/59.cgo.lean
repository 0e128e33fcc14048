/-! what going on leaves alone -/
def rg (p q : rs) : Prop := (∀ i, q.2.1 14 i = p.2.1 14 i ∨ (q.2.1 14 i = 2 ∧ p.2.1 14 i = 1)) ∧ (∀ i, i < p.1 19 → q.2.1 8 i = p.2.1 8 i ∧ q.2.1 9 i = p.2.1 9 i ∧ q.2.1 10 i = p.2.1 10 i) ∧ (∀ i, i < p.1 16 → q.2.1 7 i = p.2.1 7 i) ∧ p.1 16 ≤ q.1 16 ∧ p.1 19 ≤ q.1 19 ∧ p.1 27 ≤ q.1 27 ∧ (∀ x, x ≠ 16 → x ≠ 19 → x ≠ 27 → q.1 x = p.1 x) ∧ (∀ j, j ≠ 7 → j ≠ 8 → j ≠ 9 → j ≠ 10 → j ≠ 14 → q.2.1 j = p.2.1 j) ∧ q.2.2 = p.2.2
theorem rg.refl (p : rs) : rg p p := ⟨fun _ => Or.inl rfl, fun _ _ => ⟨rfl, rfl, rfl⟩, fun _ _ => rfl, Nat.le_refl _, Nat.le_refl _, Nat.le_refl _, fun _ _ _ _ => rfl, fun _ _ _ _ _ _ => rfl, rfl⟩
theorem rg.trans {p q r : rs} (a : rg p q) (b : rg q r) : rg p r := by
  obtain ⟨a1, a2, a3, a4, a5, a6, a7, a8, a9⟩ := a
  obtain ⟨b1, b2, b3, b4, b5, b6, b7, b8, b9⟩ := b
  refine ⟨fun i => ?_, fun i hi => ?_, fun i hi => ?_, by omega, by omega, by omega, fun x h1 h2 h3 => (b7 x h1 h2 h3).trans (a7 x h1 h2 h3), fun j h1 h2 h3 h4 h5 => (b8 j h1 h2 h3 h4 h5).trans (a8 j h1 h2 h3 h4 h5), b9.trans a9⟩
  · have x := a1 i
    have y := b1 i
    omega
  · have x := a2 i hi
    have y := b2 i (by omega)
    exact ⟨y.1.trans x.1, y.2.1.trans x.2.1, y.2.2.trans x.2.2⟩
  · exact (b3 i (by omega)).trans (a3 i hi)
/-- what a telling leaves alone -/
theorem r_tell_old (p : rs) (kind v : Nat) : (∀ i, i < p.1 19 → (r_tell p kind v).2.1 8 i = p.2.1 8 i ∧ (r_tell p kind v).2.1 9 i = p.2.1 9 i ∧ (r_tell p kind v).2.1 10 i = p.2.1 10 i) ∧ (∀ i, i < p.1 16 → (r_tell p kind v).2.1 7 i = p.2.1 7 i) ∧ (r_tell p kind v).1 16 = p.1 16 + (r_tb kind v).length ∧ (r_tell p kind v).1 19 = p.1 19 + 1 ∧ (r_tell p kind v).2.1 8 (p.1 19) = kind ∧ (r_tell p kind v).2.1 9 (p.1 19) = v ∧ (r_tell p kind v).2.1 10 (p.1 19) = p.1 16 + (r_tb kind v).length := by
  have e19 : (r_lays p 1 (r_tb kind v)).1 19 = p.1 19 := r_lays_k (by decide) _ _
  have e16 : (r_lays p 1 (r_tb kind v)).1 16 = p.1 16 + (r_tb kind v).length := r_lays_c 1 _ _
  have a8 : (r_lays p 1 (r_tb kind v)).2.1 8 = p.2.1 8 := r_lays_a (by decide) _ _
  have a9 : (r_lays p 1 (r_tb kind v)).2.1 9 = p.2.1 9 := r_lays_a (by decide) _ _
  have a10 : (r_lays p 1 (r_tb kind v)).2.1 10 = p.2.1 10 := r_lays_a (by decide) _ _
  refine ⟨fun i hi => ?_, fun i hi => ?_, ?_, ?_, ?_, ?_, ?_⟩
  · have : i ≠ p.1 19 := by omega
    simp [r_tell, r_told, r_si, r_sa, e19, this, a8, a9, a10]
  · have := r_lays_old 1 (r_tb kind v) p i hi
    simp [r_tell, r_told, r_si, r_sa]
    exact this
  · simp [r_tell, r_told, r_si, r_sa, e16]
  · simp [r_tell, r_told, r_si, r_sa, e19]
  · simp [r_tell, r_told, r_si, r_sa, e19]
  · simp [r_tell, r_told, r_si, r_sa, e19]
  · simp [r_tell, r_told, r_si, r_sa, e19, e16]
theorem rg.dec {p : rs} {k : Nat} (h1 : p.2.1 14 k = 1) : rg p (r_dec p k) := by
  refine ⟨fun i => ?_, ?_⟩
  · rw [r_dec_14]
    by_cases e : i = k
    · subst e; simp [h1]
    · simp [e]
  · have key : (∀ i, i < p.1 19 → (r_dec p k).2.1 8 i = p.2.1 8 i ∧ (r_dec p k).2.1 9 i = p.2.1 9 i ∧ (r_dec p k).2.1 10 i = p.2.1 10 i) ∧ (∀ i, i < p.1 16 → (r_dec p k).2.1 7 i = p.2.1 7 i) ∧ p.1 16 ≤ (r_dec p k).1 16 ∧ p.1 19 ≤ (r_dec p k).1 19 ∧ p.1 27 ≤ (r_dec p k).1 27 := by
      rw [r_dec_27]
      unfold r_dec
      split
      · refine ⟨fun i _ => ?_, fun i _ => ?_, Nat.le_refl _, Nat.le_refl _, Nat.le_refl _⟩ <;> simp [r_sa]
      · obtain ⟨x1, x2, x3, x4, -⟩ := r_tell_old (r_sa p 14 k 2) 1 (p.2.1 11 k)
        have z : ∀ j, j ≠ 14 → (r_sa p 14 k 2).2.1 j = p.2.1 j := fun j hj => by funext i; simp [r_sa, hj]
        refine ⟨fun i hi => ?_, fun i hi => ?_, ?_, ?_, by omega⟩
        · have := x1 i hi
          rw [z 8 (by decide), z 9 (by decide), z 10 (by decide)] at this
          exact this
        · have := x2 i hi
          rw [z 7 (by decide)] at this
          exact this
        · show p.1 16 ≤ (r_tell (r_sa p 14 k 2) 1 (p.2.1 11 k)).1 16
          rw [x3]
          show p.1 16 ≤ p.1 16 + _
          omega
        · show p.1 19 ≤ (r_tell (r_sa p 14 k 2) 1 (p.2.1 11 k)).1 19
          rw [x4]
          show p.1 19 ≤ p.1 19 + 1
          omega
    exact ⟨key.1, key.2.1, key.2.2.1, key.2.2.2.1, key.2.2.2.2, fun x a b c => r_dec_k a b c, fun j a b c d e => r_dec_a a b c d e, r_dec_l⟩
theorem rg.rel : ∀ (l : List Nat) (p : rs), l.Nodup → (∀ k ∈ l, p.2.1 14 k = 1) → rg p (r_rel l p) := by
  intro l
  induction l with
  | nil => intro p _ _; exact rg.refl p
  | cons k l ih =>
    intro p hn h
    rw [r_rel]
    split
    · exact rg.refl p
    · refine (rg.dec (h k (List.mem_cons_self))).trans (ih _ (List.nodup_cons.mp hn).2 (fun i hi => ?_))
      rw [r_dec_14]
      have : i ≠ k := fun e => (List.nodup_cons.mp hn).1 (e ▸ hi)
      simp only [if_neg this]
      exact h i (List.mem_cons_of_mem _ hi)
theorem lyl_nodup (p : rs) (s w : Nat) : (lyl p s w).Nodup := List.Pairwise.imp (fun h => Nat.ne_of_lt h) (lyl_sorted p s w)
theorem rg.goOn (p : rs) (s : Nat) : rg p (r_goOn p s) := by
  rw [r_goOn_rel]
  exact rg.rel _ p (lyl_nodup p s 1) (fun k hk => (lyl_mem.mp hk).2.2)
theorem rg.goTo (p : rs) : ∀ n, rg p (r_goTo p n) := by
  intro n
  induction n with
  | zero => exact rg.refl p
  | succ n ih => rw [r_goTo]; exact ih.trans (rg.goOn _ _)
/-- the last in line is decoded only if all are -/
theorem rel_end : ∀ (l : List Nat) (p : rs) (k : Nat), (l ++ [k]).Nodup → (∀ i ∈ l ++ [k], p.2.1 14 i = 1) → (r_rel (l ++ [k]) p).2.1 14 k = 2 → ∀ i ∈ l ++ [k], (r_rel (l ++ [k]) p).2.1 14 i = 2 := by
  intro l
  induction l with
  | nil =>
    intro p k _ h1 h2 i hi
    have : i = k := by simpa using hi
    rw [this]; exact h2
  | cons a l ih =>
    intro p k hn h1 h2 i hi
    rw [List.cons_append, r_rel] at h2 ⊢
    split at h2
    · exfalso
      have := h1 k (by simp)
      omega
    · rename_i hle
      rw [if_neg hle]
      rw [List.cons_append] at hn hi h1
      have hn' := List.nodup_cons.mp hn
      have hs : ∀ i ∈ l ++ [k], (r_dec p a).2.1 14 i = 1 := fun i hi => by
        rw [r_dec_14]
        have : i ≠ a := fun e => hn'.1 (e ▸ hi)
        simp only [if_neg this]
        exact h1 i (List.mem_cons_of_mem _ hi)
      rcases List.mem_cons.mp hi with rfl | hi
      · have := (rg.rel (l ++ [k]) (r_dec p i) hn'.2 hs).1 i
        have e2 : (r_dec p i).2.1 14 i = 2 := by rw [r_dec_14]; simp
        omega
      · exact ih (r_dec p a) k hn'.2 hs h2 i hi
section CP
variable {G : fp_G} {h h' : fp_H} {o : Nat} {A la ba sa ra fa oa K c1 c2 c3 ba' sa' ra' fa' c1' c2' c3' : Nat → Nat} {p q : rs} {S : Nat → Prop} {cB : Nat}
theorem CI.go (m : CI G h o A la ba sa ra fa oa K c1 c2 c3 p) (c : cf S h h') (hS : ∀ t, S t → t = 4 ∨ t = 11 ∨ t = 12 ∨ t = 16 ∨ 20 ≤ t) (d : DI G h' (A 3) (A 13) (A 11) cB la ba' sa' ra' fa' c1' c2' c3' q) (ex : ∀ x, x ≠ 15 → x ≠ 16 → x ≠ 19 → x ≠ 24 → x ≠ 25 → x ≠ 26 → x ≠ 27 → q.1 x = p.1 x) (ea : ∀ j, j ≠ 7 → j ≠ 8 → j ≠ 9 → j ≠ 10 → j ≠ 14 → q.2.1 j = p.2.1 j) (el : q.2.2 = p.2.2) (e10 : ∀ i, i < p.1 19 → q.2.1 10 i = p.2.1 10 i) (h23 : p.1 23 ≤ p.1 19) (m8 : h'.1 (A 10) = some (11, rc (A 9) (q.1 15) (r_is q (q.1 24), false))) : CI G h' o A la ba' sa' ra' fa' oa (fun i => if i = 3 then cB else K i) c1' c2' c3' q := by
  obtain ⟨m1, ⟨m2, m3, fl, m4, m5⟩, m6, m7, -, m9, fs, m10, m11⟩ := m
  have n : ∀ t, (t = 2 ∨ t = 3 ∨ t = 9 ∨ t = 10 ∨ t = 13 ∨ t = 14 ∨ t = 15 ∨ t = 17 ∨ t = 18) → ¬ S t := fun t ht z => by have := hS t z; omega
  have x : ∀ x, (x = 0 ∨ x = 1 ∨ x = 2 ∨ x = 6 ∨ x = 10 ∨ x = 11 ∨ x = 12 ∨ x = 13 ∨ x = 18 ∨ x = 23 ∨ x = 28) → q.1 x = p.1 x := fun y hy => ex y (by omega) (by omega) (by omega) (by omega) (by omega) (by omega) (by omega)
  have xa : ∀ j, (j = 2 ∨ j = 5 ∨ j = 6 ∨ j = 11 ∨ j = 12 ∨ j = 13 ∨ j = 19 ∨ j = 20) → q.2.1 j = p.2.1 j := fun y hy => ea y (by omega) (by omega) (by omega) (by omega) (by omega)
  refine ⟨by rw [x 28 (by omega)]; exact c.at m1 (n 2 (by omega)), ⟨c.at m2 (n 9 (by omega)), c.at m3 (n 9 (by omega)), fl, c.at m4 (n 9 (by omega)), m5⟩, ?_, d, m8, ?_, fs, m10.kept c (n 18 (by omega)), (m11.kept c (n 9 (by omega))).eq (x 2 (by omega)) (xa 2 (by omega)) (by rw [el]) (by rw [el])⟩
  · refine (m6.keptA c (fun t z => by have := hS t z; omega)).eq ⟨x 0 (by omega), x 1 (by omega), x 6 (by omega), x 10 (by omega), x 11 (by omega), x 12 (by omega), x 28 (by omega), xa 11 (by omega), xa 12 (by omega), xa 13 (by omega), xa 19 (by omega), xa 20 (by omega), by rw [el], by rw [el]⟩ ?_
    unfold wlx; rw [x 13 (by omega), xa 6 (by omega)]
  · have : r_st q (q.1 23) = r_st p (p.1 23) := by
      rw [x 23 (by omega)]
      unfold r_st
      split
      · rfl
      · exact e10 _ (by omega)
    rw [this, x 18 (by omega)]
    exact c.at m9 (n 13 (by omega))
end CP
