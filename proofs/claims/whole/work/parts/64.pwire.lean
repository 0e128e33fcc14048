/-! what the making of sections keeps: the encoder's wire -/
theorem nbt_256 : ∀ f l : Nat, l < 128 ^ (f + 1) → ∀ b ∈ nbt f l, b < 256 := by
  intro f
  induction f with
  | zero => intro l hl b hb; rw [nbt] at hb; have := List.mem_singleton.mp hb; omega
  | succ f ih =>
    intro l hl b hb
    rw [nbt] at hb
    split at hb
    · have := List.mem_singleton.mp hb; omega
    · rcases List.mem_cons.mp hb with h | h
      · omega
      · exact ih (l / 128) (by rw [Nat.div_lt_iff_lt_mul (by decide)]; rw [Nat.pow_succ] at hl; exact hl) b h
theorem nb_256 {F n v : Nat} (hF : F + (2 ^ n - 1) < 256) (hv : v < 2 ^ 30) : ∀ b ∈ nb F n v, b < 256 := by
  intro b hb
  unfold nb at hb
  split at hb
  · have := List.mem_singleton.mp hb; omega
  · rcases List.mem_cons.mp hb with h | h
    · omega
    · exact nbt_256 4 _ (by have : (128 : Nat) ^ (4 + 1) = 34359738368 := by decide
                            omega) b h
theorem txb_256 (u : Nat) : ∀ b ∈ txb u, b < 256 := by
  intro b hb
  unfold txb at hb
  obtain ⟨k, -, rfl⟩ := List.mem_map.mp hb
  exact bte_lt u k
theorem app_256 {a b : List Nat} (h1 : ∀ x ∈ a, x < 256) (h2 : ∀ x ∈ b, x < 256) : ∀ x ∈ a ++ b, x < 256 := fun x hx => (List.mem_append.mp hx).elim (h1 x) (h2 x)
theorem vlb_256 (v : Nat) : ∀ b ∈ vlb v, b < 256 := app_256 (nb_256 (by decide) (by have := bln_le v; omega)) (txb_256 v)
theorem r_lays_at (w : Nat) : ∀ (l : List Nat) (p : rs) (i : Nat), i < l.length → (r_lays p w l).2.1 (r_wa w) (p.1 (r_wc w) + i) = l.getD i 0 := by
  intro l
  induction l with
  | nil => intro p i hi; simp at hi
  | cons b l ih =>
    intro p i hi
    rw [r_lays_cons]
    cases i with
    | zero =>
      rw [Nat.add_zero, r_lays_old _ _ _ _ (by rw [r_lay_c]; omega)]
      simp [r_lay, r_si, r_sa]
    | succ i =>
      have := ih (r_lay p w b) i (by simpa using hi)
      rw [r_lay_c] at this
      rw [show p.1 (r_wc w) + (i + 1) = p.1 (r_wc w) + 1 + i by omega, this]
      simp
theorem tsum_split (nm vl : Nat → Nat) : ∀ (m n a : Nat), tsum nm vl a (m + n) = tsum nm vl a m + tsum nm vl (a + m) n := by
  intro m
  induction m with
  | zero => intro n a; simp [tsum]
  | succ m ih =>
    intro n a
    rw [show m + 1 + n = (m + n) + 1 by omega, tsum, tsum, ih, show a + 1 + m = a + (m + 1) by omega]
    omega
def ME (p : rs) : Prop := ∀ i, i < p.1 10 → p.1 0 < tsum (p.2.2 3) (p.2.2 4) i (p.1 6 - i)
def WI (p : rs) : Prop := IB p ∧ ME p ∧ (∀ x ∈ wlx p 13 6, x < 256) ∧ ∀ i, i < p.1 6 → r_sz p i ≤ p.1 0
theorem WI.eq {p q : rs} (t : WI p) (h0 : q.1 0 = p.1 0) (h6 : q.1 6 = p.1 6) (h10 : q.1 10 = p.1 10) (h13 : q.1 13 = p.1 13) (a5 : q.2.1 5 = p.2.1 5) (a6 : q.2.1 6 = p.2.1 6) (l3 : q.2.2 3 = p.2.2 3) (l4 : q.2.2 4 = p.2.2 4) : WI q := by
  unfold WI IB ME frm wlx r_sz r_is at *
  rw [h0, h6, h10, h13, a5, a6, l3, l4]
  exact t
theorem ibA (p : rs) (u v : Nat) : ∃ A, r_ib p u v = A ++ vlb v ∧ ((∃ k, k < 8 ∧ u = 97 + k ∧ A = nb 192 6 k) ∨ (∃ j, j < p.1 6 ∧ p.1 10 ≤ j ∧ p.2.2 3 j = u ∧ A = nb 128 6 (p.1 6 - 1 - j)) ∨ A = nb 64 5 (bln u) ++ txb u) := by
  unfold r_ib
  cases hf : fxn u with
  | some k =>
    refine ⟨nb 192 6 k, rfl, Or.inl ⟨k, ?_⟩⟩
    unfold fxn at hf
    split at hf
    · injection hf with hf; exact ⟨by omega, by omega, rfl⟩
    · cases hf
  | none =>
    cases hl : r_last p u 0 false with
    | some j =>
      obtain ⟨h1, h2, h3, -⟩ := r_lastTo_some hl
      exact ⟨nb 128 6 (p.1 6 - 1 - j), rfl, Or.inr (Or.inl ⟨j, h1, h2, h3, rfl⟩)⟩
    | none => exact ⟨_, rfl, Or.inr (Or.inr rfl)⟩
theorem WI.ins {p : rs} {u v a b : Nat} (t : WI p) (hJ : r_J p a b) (ha : a ≤ 12) (hfit : 32 + bln u + bln v ≤ p.1 0) : WI (r_ins p u v) := by
  obtain ⟨ib, me, by', sz⟩ := t
  obtain ⟨ok, h2, h3, h4, h5, h6, h7, h8, h9, h10, h11⟩ := hJ
  obtain ⟨A, hA, hc⟩ := ibA p u v
  have e0 : (r_ins p u v).1 0 = p.1 0 := r_ins_k (by decide) (by decide) (by decide) (by decide)
  have l3 := r_ins_3 p u v
  have l4 := r_ins_4 p u v
  have tc : ∀ i n, i + n ≤ p.1 6 → tsum ((r_ins p u v).2.2 3) ((r_ins p u v).2.2 4) i n = tsum (p.2.2 3) (p.2.2 4) i n := fun i n hi => tsum_congr n i (fun j h1 h2 => by rw [l3, l4, if_neg (by omega), if_neg (by omega)]; exact ⟨rfl, rfl⟩)
  have ris : ∀ i, i ≤ p.1 6 → r_is (r_ins p u v) i = r_is p i := fun i hi => by
    unfold r_is
    split
    · rfl
    · rw [r_ins_5, if_neg (by omega)]
  have hin : tsum (p.2.2 3) (p.2.2 4) (p.1 10) (p.1 6 - p.1 10) = p.1 11 := by rw [h7, r_sum_tsum]
  refine ⟨⟨fun i hi => ?_, ?_⟩, fun i hi => ?_, ?_, fun i hi => ?_⟩
  · rw [r_ins_6] at hi
    by_cases e : i = p.1 6
    · subst e
      refine ⟨A, ?_, ?_, ?_⟩
      · unfold frm
        rw [l3, if_pos rfl, e0]
        rcases hc with hc | ⟨j, q1, q2, q3, q4⟩ | hc
        · exact Or.inl hc
        · refine Or.inr (Or.inl ⟨j, q1, by rw [l3, if_neg (by omega)]; exact q3, ?_, q4⟩)
          rw [tc _ _ (by omega)]
          have := tsum_split (p.2.2 3) (p.2.2 4) (j - p.1 10) (p.1 6 - j) (p.1 10)
          rw [show j - p.1 10 + (p.1 6 - j) = p.1 6 - p.1 10 by omega, hin, show p.1 10 + (j - p.1 10) = j by omega] at this
          omega
        · exact Or.inr (Or.inr hc)
      · rw [l4, if_pos rfl, ris _ (Nat.le_refl _), ib.2, ← hA, r_ins_6a]
        exact fun k hk => r_lays_at 0 (r_ib p u v) p k hk
      · rw [l4, if_pos rfl, ris _ (Nat.le_refl _), ib.2, ← hA, r_ins_5, if_pos rfl, r_ins_13]
    · have hi' : i < p.1 6 := by omega
      obtain ⟨A', f1, f2, f3⟩ := ib.1 i hi'
      have hend := ib.end hi'
      refine ⟨A', ?_, ?_, ?_⟩
      · unfold frm at *
        rw [l3, if_neg e, e0]
        rcases f1 with f1 | ⟨j, q1, q2, q3, q4⟩ | f1
        · exact Or.inl f1
        · exact Or.inr (Or.inl ⟨j, q1, by rw [l3, if_neg (by omega)]; exact q2, by rw [tc _ _ (by omega)]; exact q3, q4⟩)
        · exact Or.inr (Or.inr f1)
      · rw [l4, if_neg e, ris _ (by omega), r_ins_6a]
        exact f2.congr (fun k _ hk => r_lays_old 0 (r_ib p u v) p k (by show k < p.1 13; omega))
      · rw [l4, if_neg e, ris _ (by omega), r_ins_5, if_neg e]
        exact f3
  · rw [r_ins_6]
    unfold r_is
    rw [if_neg (by omega), Nat.add_sub_cancel, r_ins_5, if_pos rfl]
  · rw [e0, r_ins_6]
    rw [r_ins_10] at hi
    have sp := tbes_spec (p.2.2 3) (p.2.2 4) (p.1 0) (32 + bln u + bln v) (p.1 6 - p.1 10) (p.1 10) (p.1 11) hin.symm
    rw [show p.1 10 + (p.1 6 - p.1 10) = p.1 6 by omega] at sp
    have hi6 : i ≤ p.1 6 := by omega
    have hs : tsum ((r_ins p u v).2.2 3) ((r_ins p u v).2.2 4) i (p.1 6 + 1 - i) = tsum (p.2.2 3) (p.2.2 4) i (p.1 6 - i) + (32 + bln u + bln v) := by
      rw [show p.1 6 + 1 - i = (p.1 6 - i) + 1 by omega, tsum_snoc, tc _ _ (by omega), show i + (p.1 6 - i) = p.1 6 by omega]
      unfold tsz
      rw [l3, l4, if_pos rfl, if_pos rfl]
    rw [hs]
    by_cases c : i < p.1 10
    · have := me i c
      omega
    · exact sp.2.2.2 i (by omega) hi
  · rw [r_ins_w, hA]
    refine app_256 by' (app_256 ?_ (vlb_256 v))
    rcases hc with ⟨k, q1, q2, q3⟩ | ⟨j, q1, q2, q3, q4⟩ | hc
    · rw [q3]; exact nb_256 (by decide) (by omega)
    · rw [q4]; exact nb_256 (by decide) (by omega)
    · rw [hc]; exact app_256 (nb_256 (by decide) (by have := bln_le u; omega)) (txb_256 u)
  · rw [r_ins_6] at hi
    unfold r_sz
    rw [l3, l4, e0]
    by_cases e : i = p.1 6
    · rw [if_pos e, if_pos e]; exact hfit
    · rw [if_neg e, if_neg e]; exact sz i (by omega)
/-- of the section in the making: what it needs is what its greatest reference asks -/
def NR (p : rs) (n : Nat) : Prop := (∀ j, isref p n j → j < p.2.1 12 n) ∧ (p.2.1 12 n ≠ 0 → ∃ j, isref p n j ∧ p.2.1 12 n = j + 1)
theorem isref.ref {p : rs} {j i : Nat} : isref (r_ref p j) (p.1 28) i ↔ isref p (p.1 28) i ∨ i = j := by
  have a20 : (r_ref p j).2.1 20 (p.1 28) = p.2.1 20 (p.1 28) + 1 := by simp [r_ref, r_sa]
  have a19 : ∀ x, x < p.2.1 20 (p.1 28) → (r_ref p j).2.1 19 (12 * p.1 28 + x) = p.2.1 19 (12 * p.1 28 + x) := fun x hx => by
    have : x ≠ p.2.1 20 (p.1 28) := by omega
    simp [r_ref, r_sa, this]
  have a19' : (r_ref p j).2.1 19 (12 * p.1 28 + p.2.1 20 (p.1 28)) = j := by simp [r_ref, r_sa]
  unfold isref
  rw [a20]
  constructor
  · rintro ⟨x, h1, h2⟩
    by_cases e : x = p.2.1 20 (p.1 28)
    · subst e; rw [a19'] at h2; exact Or.inr h2.symm
    · exact Or.inl ⟨x, by omega, by rw [← a19 x (by omega)]; exact h2⟩
  · rintro (⟨x, h1, h2⟩ | rfl)
    · exact ⟨x, by omega, by rw [a19 x h1]; exact h2⟩
    · exact ⟨_, by omega, a19'⟩
theorem NR.ref {p : rs} {j : Nat} (t : NR p (p.1 28)) : NR (r_ref p j) (p.1 28) := by
  have a12 : (r_ref p j).2.1 12 (p.1 28) = max (j + 1) (p.2.1 12 (p.1 28)) := by simp [r_ref, r_sa]
  obtain ⟨t1, t2⟩ := t
  refine ⟨fun i hi => ?_, fun _ => ?_⟩
  · rw [a12]
    rcases isref.ref.mp hi with h | rfl
    · have := t1 i h; omega
    · omega
  · rw [a12]
    rcases Nat.lt_or_ge (j + 1) (p.2.1 12 (p.1 28)) with q | q
    · obtain ⟨i, h1, h2⟩ := t2 (Nat.ne_of_gt (Nat.lt_of_le_of_lt (Nat.zero_le _) q))
      exact ⟨i, isref.ref.mpr (Or.inl h1), by rw [Nat.max_eq_right (Nat.le_of_lt q), h2]⟩
    · exact ⟨j, isref.ref.mpr (Or.inr rfl), Nat.max_eq_left q⟩
theorem NR.eq {p q : rs} {n : Nat} (t : NR p n) (a12 : q.2.1 12 n = p.2.1 12 n) (a20 : q.2.1 20 n = p.2.1 20 n) (a19 : ∀ i, i < p.2.1 20 n → q.2.1 19 (12 * n + i) = p.2.1 19 (12 * n + i)) : NR q n := by
  have ei : ∀ j, isref q n j ↔ isref p n j := fun j => by
    unfold isref
    rw [a20]
    constructor
    · rintro ⟨i, h1, h2⟩; exact ⟨i, h1, by rw [← a19 i h1]; exact h2⟩
    · rintro ⟨i, h1, h2⟩; exact ⟨i, h1, by rw [a19 i h1]; exact h2⟩
  obtain ⟨t1, t2⟩ := t
  refine ⟨fun j hj => by rw [a12]; exact t1 j ((ei j).mp hj), fun h => ?_⟩
  rw [a12] at h ⊢
  obtain ⟨j, h1, h2⟩ := t2 h
  exact ⟨j, (ei j).mpr h1, h2⟩
