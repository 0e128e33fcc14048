/-! what the class keeps of the reference's state; when may a field come in -/
theorem minI {a b : Nat} (ha : a < 2 ^ 31) (hb : b < 2 ^ 31) : (if nI b < nI a then nI b else nI a) = nI (min a b) := by
  by_cases q : b < a
  · rw [if_pos (nI_lt q ha), Nat.min_eq_right (by omega)]
  · rw [if_neg (fun z => q ((nI_ltI hb ha).mp z)), Nat.min_eq_left (by omega)]
theorem maxI {a b : Nat} (ha : a < 2 ^ 31) (hb : b < 2 ^ 31) : (if nI a < nI b then nI b else nI a) = nI (max a b) := by
  by_cases q : a < b
  · rw [if_pos (nI_lt q hb), Nat.max_eq_right (by omega)]
  · rw [if_neg (fun z => q ((nI_ltI ha hb).mp z)), Nat.max_eq_left (by omega)]
def opn (p : rs) : List Nat := (List.range (p.1 28)).filter (fun k => p.2.1 13 k != 0)
theorem opn_mem {p : rs} {k : Nat} : k ∈ opn p ↔ k < p.1 28 ∧ p.2.1 13 k ≠ 0 := by simp [opn]
def wlx (p : rs) (c a : Nat) : List Nat := (List.range (p.1 c)).map (p.2.1 a)
theorem wlx_len (p : rs) (c a : Nat) : (wlx p c a).length = p.1 c := by simp [wlx]
theorem wlx_lay (p : rs) (w v : Nat) : wlx (r_lay p w v) (r_wc w) (r_wa w) = wlx p (r_wc w) (r_wa w) ++ [v] := by
  unfold wlx
  rw [r_lay_c, List.range_succ, List.map_append]
  congr 1
  · apply List.map_congr_left
    intro i hi
    have : i ≠ p.1 (r_wc w) := by have := List.mem_range.mp hi; omega
    simp [r_lay, r_si, r_sa, this]
  · simp [r_lay, r_si, r_sa]
theorem wlx_lays (w : Nat) : ∀ (l : List Nat) (p : rs), wlx (r_lays p w l) (r_wc w) (r_wa w) = wlx p (r_wc w) (r_wa w) ++ l := by
  intro l
  induction l with
  | nil => intro p; rw [List.append_nil]; rfl
  | cons b l ih => intro p; rw [r_lays_cons, ih, wlx_lay, List.append_assoc]; rfl
/-- the least of n references of section k -/
def leaTo (f : Nat → Nat) (k : Nat) : Nat → Nat
  | 0 => 1073741824
  | n + 1 => min (leaTo f k n) (f (12 * k + n))
def lea (p : rs) (k : Nat) : Nat := leaTo (p.2.1 19) k (p.2.1 20 k)
theorem leaTo_le (f : Nat → Nat) (k : Nat) : ∀ n i, i < n → leaTo f k n ≤ f (12 * k + i) := by
  intro n
  induction n with
  | zero => intro i h; omega
  | succ n ih =>
    intro i hi
    rw [leaTo]
    by_cases e : i = n
    · subst e; exact Nat.min_le_right _ _
    · exact Nat.le_trans (Nat.min_le_left _ _) (ih i (by omega))
theorem leaTo_in (f : Nat → Nat) (k : Nat) : ∀ n, leaTo f k n = 1073741824 ∨ ∃ i, i < n ∧ leaTo f k n = f (12 * k + i) := by
  intro n
  induction n with
  | zero => exact Or.inl rfl
  | succ n ih =>
    rw [leaTo]
    rcases Nat.le_total (leaTo f k n) (f (12 * k + n)) with q | q
    · rw [Nat.min_eq_left q]
      rcases ih with h | ⟨i, h1, h2⟩
      · exact Or.inl h
      · exact Or.inr ⟨i, by omega, h2⟩
    · rw [Nat.min_eq_right q]
      exact Or.inr ⟨n, by omega, rfl⟩
theorem leaTo_congr {f g : Nat → Nat} {k : Nat} : ∀ n, (∀ i, i < n → f (12 * k + i) = g (12 * k + i)) → leaTo f k n = leaTo g k n := by
  intro n
  induction n with
  | zero => intro _; rfl
  | succ n ih => intro h; rw [leaTo, leaTo, ih (fun i hi => h i (by omega)), h n (by omega)]
theorem leaTo_lt (f : Nat → Nat) (k n : Nat) : leaTo f k n < 2 ^ 31 := by
  induction n with
  | zero => show 1073741824 < 2 ^ 31; decide
  | succ n ih => rw [leaTo]; omega
def r_fb (p : rs) : Nat := (opn p).foldl (fun m k => min m (lea p k)) (min (p.1 12) (lea p (p.1 28)))
theorem fmin_le {g : Nat → Nat} : ∀ (l : List Nat) (m : Nat), l.foldl (fun m k => min m (g k)) m ≤ m ∧ ∀ k ∈ l, l.foldl (fun m k => min m (g k)) m ≤ g k := by
  intro l
  induction l with
  | nil => intro m; exact ⟨Nat.le_refl _, fun k h => by cases h⟩
  | cons a l ih =>
    intro m
    have := ih (min m (g a))
    refine ⟨Nat.le_trans this.1 (Nat.min_le_left _ _), fun k hk => ?_⟩
    rcases List.mem_cons.mp hk with rfl | hk
    · exact Nat.le_trans this.1 (Nat.min_le_right _ _)
    · exact this.2 k hk
theorem fmin_in {g : Nat → Nat} : ∀ (l : List Nat) (m : Nat), l.foldl (fun m k => min m (g k)) m = m ∨ ∃ k ∈ l, l.foldl (fun m k => min m (g k)) m = g k := by
  intro l
  induction l with
  | nil => intro m; exact Or.inl rfl
  | cons a l ih =>
    intro m
    rcases ih (min m (g a)) with h | ⟨k, h1, h2⟩
    · rcases Nat.le_total m (g a) with q | q
      · exact Or.inl (by rw [List.foldl_cons, h, Nat.min_eq_left q])
      · exact Or.inr ⟨a, List.mem_cons_self, by rw [List.foldl_cons, h, Nat.min_eq_right q]⟩
    · exact Or.inr ⟨k, List.mem_cons_of_mem _ h1, h2⟩
theorem fmin_lt {g : Nat → Nat} {l : List Nat} {m : Nat} (hm : m < 2 ^ 31) : l.foldl (fun m k => min m (g k)) m < 2 ^ 31 := Nat.lt_of_le_of_lt (fmin_le l m).1 hm
/-- what an open section, or the one that is being made, refers to is in the encoder's table -/
def r_act (p : rs) (k : Nat) : Prop := k = p.1 28 ∨ (k < p.1 28 ∧ p.2.1 13 k ≠ 0)
def r_I (p : rs) : Prop := (p.1 10 ≤ p.1 12 ∧ p.1 12 ≤ p.1 6) ∧ ∀ k, r_act p k → ∀ i, i < p.2.1 20 k → p.1 10 ≤ p.2.1 19 (12 * k + i) ∧ p.2.1 19 (12 * k + i) < p.1 6
theorem r_busy_iff {p : rs} {j : Nat} (hc : p.1 28 < 200) : r_busy p j = true ↔ p.1 12 ≤ j ∨ ∃ k, r_act p k ∧ ∃ i, i < p.2.1 20 k ∧ p.2.1 19 (12 * k + i) = j := by
  unfold r_busy r_busyTo
  rw [show min (p.1 28 + 1) 200 = p.1 28 + 1 by omega]
  simp only [Bool.or_eq_true, decide_eq_true_eq, List.any_eq_true, List.mem_range, r_busyAt, Bool.and_eq_true, r_busyIn, beq_iff_eq, bne_iff_ne]
  constructor
  · rintro (h | ⟨k, h1, h2, i, h3, h4⟩)
    · exact Or.inl h
    · refine Or.inr ⟨k, ?_, i, h3, h4⟩
      by_cases e : k = p.1 28
      · exact Or.inl e
      · exact Or.inr ⟨by omega, by rcases h2 with h2 | h2; exact absurd h2 e; exact h2⟩
  · rintro (h | ⟨k, h1, i, h3, h4⟩)
    · exact Or.inl h
    · refine Or.inr ⟨k, ?_, ?_, i, h3, h4⟩
      · rcases h1 with h1 | h1 <;> omega
      · rcases h1 with h1 | h1
        · exact Or.inl h1
        · exact Or.inr h1.2
theorem r_sz_tsz (p : rs) (i : Nat) : r_sz p i = tsz (p.2.2 3) (p.2.2 4) i := rfl
theorem r_sum_tsum (p : rs) : ∀ (n a : Nat), r_sum p a n = tsum (p.2.2 3) (p.2.2 4) a n := by
  intro n
  induction n with
  | zero => intro a; rfl
  | succ n ih => intro a; rw [r_sum, tsum, ih, r_sz_tsz]
theorem r_last_tlast (p : rs) (u v : Nat) (wv : Bool) : ∀ c, r_lastTo p u v wv c = tlast (p.2.2 3) (p.2.2 4) (p.1 10) u v wv c := by
  intro c
  induction c with
  | zero => rfl
  | succ c ih => rw [r_lastTo, tlast, ih]
theorem r_mayTo_iff {p : rs} {size : Nat} : ∀ (n now j : Nat), r_mayTo p size n now j = true ↔ ∀ i, j ≤ i → i < tbes (p.2.2 3) (p.2.2 4) (p.1 0) size n now j → r_busy p i = false := by
  intro n
  induction n with
  | zero => intro now j; exact ⟨fun _ i h1 h2 => by have : i < j := h2; omega, fun _ => rfl⟩
  | succ n ih =>
    intro now j
    rw [r_mayTo, tbes]
    by_cases c : now + size ≤ p.1 0
    · rw [if_pos c, if_pos c]
      exact ⟨fun _ i h1 h2 => by omega, fun _ => rfl⟩
    · rw [if_neg c, if_neg c]
      have hj : j + 1 ≤ tbes (p.2.2 3) (p.2.2 4) (p.1 0) size n (now - tsz (p.2.2 3) (p.2.2 4) j) (j + 1) := by
        have : ∀ (n now j : Nat), j ≤ tbes (p.2.2 3) (p.2.2 4) (p.1 0) size n now j := by
          intro n
          induction n with
          | zero => intro now j; exact Nat.le_refl _
          | succ n ih => intro now j; rw [tbes]; split; exact Nat.le_refl _; have := ih (now - tsz (p.2.2 3) (p.2.2 4) j) (j + 1); omega
        exact this _ _ _
      cases hb : r_busy p j with
      | true =>
        simp only [if_pos]
        constructor
        · intro h; cases h
        · intro h; have := h j (Nat.le_refl _) (by omega); rw [hb] at this; cases this
      | false =>
        rw [if_neg (by decide), r_sz_tsz, ih]
        constructor
        · intro h i h1 h2
          by_cases e : i = j
          · rw [e]; exact hb
          · exact h i (by omega) h2
        · intro h i h1 h2
          exact h i (by omega) h2
theorem r_may_iff {p : rs} {size : Nat} (hI : r_I p) (hc : p.1 28 < 200) (h10 : p.1 10 ≤ p.1 6) (h6 : p.1 6 ≤ 2400) (h11 : p.1 11 = r_sum p (p.1 10) (p.1 6 - p.1 10)) : r_may p size = true ↔ size ≤ p.1 0 ∧ tbes (p.2.2 3) (p.2.2 4) (p.1 0) size (p.1 6 - p.1 10) (p.1 11) (p.1 10) ≤ r_fb p := by
  unfold r_may
  rw [Bool.and_eq_true, decide_eq_true_eq, r_mayTo_iff]
  have sp := tbes_spec (p.2.2 3) (p.2.2 4) (p.1 0) size (p.1 6 - p.1 10) (p.1 10) (p.1 11) (by rw [h11, r_sum_tsum])
  obtain ⟨s1, s2, -, -⟩ := sp
  generalize tbes (p.2.2 3) (p.2.2 4) (p.1 0) size (p.1 6 - p.1 10) (p.1 11) (p.1 10) = K at s1 s2
  refine and_congr Iff.rfl ?_
  have f1 := fmin_le (g := lea p) (opn p) (min (p.1 12) (lea p (p.1 28)))
  constructor
  · intro h
    rcases Nat.lt_or_ge (r_fb p) K with q | q
    · exfalso
      have busyAt : ∀ k, r_act p k → r_fb p = lea p k → False := by
        intro k hk e
        rcases leaTo_in (p.2.1 19) k (p.2.1 20 k) with z | ⟨i, z1, z2⟩
        · rw [lea, z] at e
          omega
        · have := hI.2 k hk i z1
          rw [lea, z2] at e
          have b := h (r_fb p) (by omega) q
          rw [(r_busy_iff hc).mpr (Or.inr ⟨k, hk, i, z1, e.symm⟩)] at b
          cases b
      rcases fmin_in (g := lea p) (opn p) (min (p.1 12) (lea p (p.1 28))) with z | ⟨k, z1, z2⟩
      · rcases Nat.le_total (p.1 12) (lea p (p.1 28)) with y | y
        · rw [Nat.min_eq_left y] at z
          have e : r_fb p = p.1 12 := by unfold r_fb; rw [Nat.min_eq_left y]; exact z
          have := hI.1
          have b := h (r_fb p) (by omega) q
          rw [(r_busy_iff hc).mpr (Or.inl (by omega))] at b
          cases b
        · exact busyAt (p.1 28) (Or.inl rfl) (by unfold r_fb; rw [z]; exact Nat.min_eq_right y)
      · exact busyAt k (Or.inr (opn_mem.mp z1)) z2
    · exact q
  · intro hK i h1 h2
    cases hb : r_busy p i with
    | false => rfl
    | true =>
      exfalso
      have hi : i < r_fb p := by omega
      rcases (r_busy_iff hc).mp hb with z | ⟨k, hk, x, z1, z2⟩
      · have := f1.1
        unfold r_fb at hi
        omega
      · have hle := leaTo_le (p.2.1 19) k (p.2.1 20 k) x z1
        rw [z2] at hle
        rcases hk with rfl | hk
        · have := f1.1
          unfold r_fb at hi
          have : lea p (p.1 28) ≤ i := hle
          omega
        · have := f1.2 k (opn_mem.mpr hk)
          unfold r_fb at hi
          have : lea p k ≤ i := hle
          omega
