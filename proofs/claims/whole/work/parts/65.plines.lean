/-! what the making of sections keeps: its lines -/
theorem lcat_snoc (ls : Nat → List Nat) : ∀ (n i : Nat), lcat ls i (n + 1) = lcat ls i n ++ ls (i + n) := by
  intro n
  induction n with
  | zero => intro i; simp [lcat]
  | succ n ih =>
    intro i
    rw [lcat, ih, lcat, List.append_assoc, show i + 1 + n = i + (n + 1) by omega]
theorem lcat_congr {ls ls' : Nat → List Nat} : ∀ (n i : Nat), (∀ g, i ≤ g → g < i + n → ls' g = ls g) → lcat ls' i n = lcat ls i n := by
  intro n
  induction n with
  | zero => intro i _; rfl
  | succ n ih =>
    intro i h
    rw [lcat, lcat, h i (Nat.le_refl _) (by omega), ih (i + 1) (fun g h1 h2 => h g (by omega) (by omega))]
theorem lnP.mono {P P' : Nat → Prop} {nm vl nm' vl' : Nat → Nat} {base u v s : Nat} {l : List Nat} (h : lnP P nm vl base u v s l) (e : ∀ j, P j → P' j ∧ nm' j = nm j ∧ vl' j = vl j) : lnP P' nm' vl' base u v s l := by
  rcases h with h | ⟨j, h1, h2, h3, h4⟩ | ⟨A, hA, hl⟩
  · exact Or.inl h
  · obtain ⟨e1, e2, e3⟩ := e j h1
    exact Or.inr (Or.inl ⟨j, e1, by rw [e2]; exact h2, by rw [e3]; exact h3, h4⟩)
  · refine Or.inr (Or.inr ⟨A, ?_, hl⟩)
    rcases hA with hA | ⟨j, h1, h2, h3⟩ | hA
    · exact Or.inl hA
    · obtain ⟨e1, e2, e3⟩ := e j h1
      exact Or.inr (Or.inl ⟨j, e1, by rw [e2]; exact h2, h3⟩)
    · exact Or.inr (Or.inr hA)
def LSx (q : rs) (n base f : Nat) (A : List Nat) : Prop := ∃ ls, wlx q 44 25 = lcat ls 0 f ++ A ∧ (∀ x ∈ wlx q 44 25, x < 256) ∧ ∀ g, g < f → lnP (isref q n) (q.2.2 3) (q.2.2 4) base (q.2.2 16 (12 * n + g)) (q.2.2 17 (12 * n + g)) (q.2.1 18 (12 * n + g)) (ls g) ∧ q.2.1 18 (12 * n + g) ≤ 1
theorem LSx.step {p q : rs} {n base f : Nat} {A l : List Nat} (t : LSx p n base f A) (e : wlx q 44 25 = wlx p 44 25 ++ l) (hl : ∀ x ∈ l, x < 256) (hr : ∀ j, isref p n j → isref q n j ∧ q.2.2 3 j = p.2.2 3 j ∧ q.2.2 4 j = p.2.2 4 j) (hs : ∀ g, g < f → q.2.2 16 (12 * n + g) = p.2.2 16 (12 * n + g) ∧ q.2.2 17 (12 * n + g) = p.2.2 17 (12 * n + g) ∧ q.2.1 18 (12 * n + g) = p.2.1 18 (12 * n + g)) : LSx q n base f (A ++ l) := by
  obtain ⟨ls, t1, t2, t3⟩ := t
  refine ⟨ls, by rw [e, t1, List.append_assoc], by rw [e]; exact app_256 t2 hl, fun g hg => ?_⟩
  obtain ⟨x1, x2⟩ := t3 g hg
  obtain ⟨y1, y2, y3⟩ := hs g hg
  rw [y1, y2, y3]
  exact ⟨x1.mono hr, x2⟩
theorem LSx.end {q : rs} {n base f : Nat} {A : List Nat} (t : LSx q n base f A) (h : lnP (isref q n) (q.2.2 3) (q.2.2 4) base (q.2.2 16 (12 * n + f)) (q.2.2 17 (12 * n + f)) (q.2.1 18 (12 * n + f)) A) (h18 : q.2.1 18 (12 * n + f) ≤ 1) : LSx q n base (f + 1) [] := by
  obtain ⟨ls, t1, t2, t3⟩ := t
  refine ⟨fun g => if g = f then A else ls g, ?_, t2, fun g hg => ?_⟩
  · rw [List.append_nil, lcat_snoc, t1, Nat.zero_add]
    simp only [if_pos]
    rw [lcat_congr (ls := ls) (ls' := fun g => if g = f then A else ls g) f 0 (fun g _ h2 => by simp only [if_neg (show g ≠ f by omega)])]
  · by_cases e : g = f
    · subst e
      simp only [if_pos]
      exact ⟨h, h18⟩
    · simp only [if_neg e]
      exact t3 g (by omega)
/-- while section n is made, f lines done and A of the next -/
def MK (q : rs) (n base f : Nat) (A : List Nat) : Prop := q.1 28 = n ∧ WI q ∧ NR q n ∧ LSx q n base f A
theorem isref_eq {p q : rs} {n : Nat} (a19 : q.2.1 19 = p.2.1 19) (a20 : q.2.1 20 = p.2.1 20) : isref q n = isref p n := by unfold isref; rw [a19, a20]
theorem MK.says {p : rs} {n base f : Nat} (t : MK p n base f []) : MK (r_says p f) n base f [] := by
  obtain ⟨t0, t1, t2, t3⟩ := t
  have a : ∀ j, j ≠ 18 → (r_says p f).2.1 j = p.2.1 j := fun j hj => r_says_a hj
  refine ⟨t0, t1.eq rfl rfl rfl rfl (a 5 (by decide)) (a 6 (by decide)) (r_says_l (by decide) (by decide)) (r_says_l (by decide) (by decide)), t2.eq (by rw [a 12 (by decide)]) (by rw [a 20 (by decide)]) (fun i _ => by rw [a 19 (by decide)]), ?_⟩
  have := t3.step (q := r_says p f) (l := []) (by unfold wlx; rw [a 25 (by decide), List.append_nil]; rfl) (by simp) (fun j hj => ⟨by rw [isref_eq (a 19 (by decide)) (a 20 (by decide))]; exact hj, by rw [r_says_l (by decide) (by decide)], by rw [r_says_l (by decide) (by decide)]⟩) (fun g hg => by
    have hne : g ≠ f := by omega
    subst t0
    simp [r_says, r_sa, r_sl, hne])
  exact this
theorem says_at (p : rs) (f : Nat) : (r_says p f).2.2 16 (12 * p.1 28 + f) = p.2.2 0 f ∧ (r_says p f).2.2 17 (12 * p.1 28 + f) = p.2.2 1 f ∧ (r_says p f).2.1 18 (12 * p.1 28 + f) = p.2.1 2 f := by
  simp [r_says, r_sa, r_sl]
theorem MK.sa18 {p : rs} {n base f v : Nat} (t : MK p n base f []) : MK (r_sa p 18 (12 * n + f) v) n base f [] := by
  obtain ⟨t0, t1, t2, t3⟩ := t
  have a : ∀ j, j ≠ 18 → (r_sa p 18 (12 * n + f) v).2.1 j = p.2.1 j := fun j hj => by funext i; simp [r_sa, hj]
  refine ⟨t0, t1.eq rfl rfl rfl rfl (a 5 (by decide)) (a 6 (by decide)) rfl rfl, t2.eq (by rw [a 12 (by decide)]) (by rw [a 20 (by decide)]) (fun i _ => by rw [a 19 (by decide)]), ?_⟩
  have := t3.step (q := r_sa p 18 (12 * n + f) v) (l := []) (by unfold wlx; rw [a 25 (by decide), List.append_nil]; rfl) (by simp) (fun j hj => ⟨by rw [isref_eq (a 19 (by decide)) (a 20 (by decide))]; exact hj, rfl, rfl⟩) (fun g hg => by
    have hne : g ≠ f := by omega
    simp [r_sa, hne])
  exact this
theorem MK.lays {p : rs} {n base f : Nat} {A l : List Nat} (t : MK p n base f A) (hl : ∀ x ∈ l, x < 256) : MK (r_lays p 2 l) n base f (A ++ l) := by
  obtain ⟨t0, t1, t2, t3⟩ := t
  have k : ∀ x, x ≠ 44 → (r_lays p 2 l).1 x = p.1 x := fun x hx => r_lays_k (show x ≠ r_wc 2 from hx) _ _
  have a : ∀ j, j ≠ 25 → (r_lays p 2 l).2.1 j = p.2.1 j := fun j hj => r_lays_a (show j ≠ r_wa 2 from hj) _ _
  have el : (r_lays p 2 l).2.2 = p.2.2 := r_lays_l _ _
  refine ⟨by rw [k 28 (by decide)]; exact t0, t1.eq (k 0 (by decide)) (k 6 (by decide)) (k 10 (by decide)) (k 13 (by decide)) (a 5 (by decide)) (a 6 (by decide)) (by rw [el]) (by rw [el]), t2.eq (by rw [a 12 (by decide)]) (by rw [a 20 (by decide)]) (fun i _ => by rw [a 19 (by decide)]), ?_⟩
  exact t3.step (wlx_lays 2 l p) hl (fun j hj => ⟨by rw [isref_eq (a 19 (by decide)) (a 20 (by decide))]; exact hj, by rw [el], by rw [el]⟩) (fun g _ => by rw [el, a 18 (by decide)]; exact ⟨rfl, rfl, rfl⟩)
theorem r_ref_a {p : rs} {j i : Nat} (h12 : i ≠ 12) (h19 : i ≠ 19) (h20 : i ≠ 20) : (r_ref p j).2.1 i = p.2.1 i := by funext x; simp [r_ref, r_sa, h12, h19, h20]
theorem MK.ref {p : rs} {n base f j : Nat} {A : List Nat} (t : MK p n base f A) : MK (r_ref p j) n base f A := by
  obtain ⟨t0, t1, t2, t3⟩ := t
  subst t0
  have a : ∀ i, i ≠ 12 → i ≠ 19 → i ≠ 20 → (r_ref p j).2.1 i = p.2.1 i := fun i h1 h2 h3 => r_ref_a h1 h2 h3
  refine ⟨rfl, t1.eq rfl rfl rfl rfl (a 5 (by decide) (by decide) (by decide)) (a 6 (by decide) (by decide) (by decide)) rfl rfl, t2.ref, ?_⟩
  have := t3.step (q := r_ref p j) (l := []) (by unfold wlx; rw [a 25 (by decide) (by decide) (by decide), List.append_nil]; rfl) (by simp) (fun i hi => ⟨isref.ref.mpr (Or.inl hi), rfl, rfl⟩) (fun g _ => by rw [a 18 (by decide) (by decide) (by decide)]; exact ⟨rfl, rfl, rfl⟩)
  rw [List.append_nil] at this
  exact this
theorem MK.ins {p : rs} {n base f u v a b : Nat} {A : List Nat} (t : MK p n base f A) (hJ : r_J p a b) (ha : a ≤ 12) (hI : r_I p) (hfit : 32 + bln u + bln v ≤ p.1 0) : MK (r_ins p u v) n base f A := by
  obtain ⟨t0, t1, t2, t3⟩ := t
  subst t0
  have aa : ∀ i, i ≠ 5 → i ≠ 6 → (r_ins p u v).2.1 i = p.2.1 i := fun i h1 h2 => r_ins_a h1 h2
  refine ⟨r_ins_k (by decide) (by decide) (by decide) (by decide), t1.ins hJ ha hfit, t2.eq (by rw [aa 12 (by decide) (by decide)]) (by rw [aa 20 (by decide) (by decide)]) (fun i _ => by rw [aa 19 (by decide) (by decide)]), ?_⟩
  have := t3.step (q := r_ins p u v) (l := []) (by unfold wlx; rw [aa 25 (by decide) (by decide), List.append_nil, r_ins_k (by decide) (by decide) (by decide) (by decide)]) (by simp) (fun i hi => by
    refine ⟨by rw [isref_eq (aa 19 (by decide) (by decide)) (aa 20 (by decide) (by decide))]; exact hi, ?_⟩
    obtain ⟨x, h1, h2⟩ := hi
    have := hI.2 (p.1 28) (Or.inl rfl) x h1
    rw [r_ins_3, r_ins_4, if_neg (by omega), if_neg (by omega)]
    exact ⟨rfl, rfl⟩) (fun g _ => by rw [aa 18 (by decide) (by decide), r_ins_l (by decide) (by decide), r_ins_l (by decide) (by decide)]; exact ⟨rfl, rfl, rfl⟩)
  rw [List.append_nil] at this
  exact this
/-- what the line says -/
def SY (q : rs) (n f u v s : Nat) : Prop := q.2.2 16 (12 * n + f) = u ∧ q.2.2 17 (12 * n + f) = v ∧ q.2.1 18 (12 * n + f) = s
theorem SY.of {p q : rs} {n f u v s : Nat} (h : SY p n f u v s) (l16 : q.2.2 16 = p.2.2 16) (l17 : q.2.2 17 = p.2.2 17) (a18 : q.2.1 18 = p.2.1 18) : SY q n f u v s := by unfold SY at *; rw [l16, l17, a18]; exact h
theorem SY.lays {p : rs} {n f u v s : Nat} {l : List Nat} (h : SY p n f u v s) : SY (r_lays p 2 l) n f u v s := h.of (by rw [r_lays_l]) (by rw [r_lays_l]) (r_lays_a (show 18 ≠ r_wa 2 by decide) _ _)
theorem SY.ref {p : rs} {n f u v s j : Nat} (h : SY p n f u v s) : SY (r_ref p j) n f u v s := h.of rfl rfl (r_ref_a (by decide) (by decide) (by decide))
theorem SY.ins {p : rs} {n f u v s a b : Nat} (h : SY p n f u v s) : SY (r_ins p a b) n f u v s := h.of (r_ins_l (by decide) (by decide)) (r_ins_l (by decide) (by decide)) (r_ins_a (by decide) (by decide))
theorem MK.fin {q : rs} {n base f u v s : Nat} {A : List Nat} (t : MK q n base f A) (hs : SY q n f u v s) (h : lnP (isref q n) (q.2.2 3) (q.2.2 4) base u v s A) (h1 : s ≤ 1) : MK q n base (f + 1) [] := by
  obtain ⟨t0, t1, t2, t3⟩ := t
  obtain ⟨e1, e2, e3⟩ := hs
  exact ⟨t0, t1, t2, t3.end (by rw [e1, e2, e3]; exact h) (by rw [e3]; exact h1)⟩
theorem wb_256 {j base : Nat} (hj : j < 2 ^ 28) (hb : base < 2 ^ 28) : ∀ x ∈ r_wb j base, x < 256 := by
  unfold r_wb
  split
  · exact nb_256 (by decide) (by omega)
  · exact nb_256 (by decide) (by omega)
theorem MK.whole {q : rs} {n base f u v j : Nat} (t : MK q n base f []) (hs : SY q n f u v 0) (hb : base < 2 ^ 28) (hj : j < 2 ^ 28) (hu : q.2.2 3 j = u) (hv : q.2.2 4 j = v) : MK (r_whole q j base) n base (f + 1) [] := by
  have t0 := t.1
  have m1 := (t.ref (j := j)).lays (l := r_wb j base) (wb_256 hj hb)
  unfold r_whole
  refine m1.fin (u := u) (v := v) (s := 0) hs.ref.lays ?_ (by decide)
  refine Or.inr (Or.inl ⟨j, ?_, ?_, ?_, rfl, rfl⟩)
  · rw [isref_eq (r_lays_a (show 19 ≠ r_wa 2 by decide) _ _) (r_lays_a (show 20 ≠ r_wa 2 by decide) _ _), ← t0]
    exact isref.ref.mpr (Or.inr rfl)
  · rw [r_lays_l]; exact hu
  · rw [r_lays_l]; exact hv
theorem MK.lb {q : rs} {n base f u v s : Nat} {risk : Bool} (t : MK q n base f []) (hs : SY q n f u v s) (hb : base < 2 ^ 28) (h6 : q.1 6 ≤ 2400) (h1 : s ≤ 1) : MK (r_lb q u v s base risk) n base (f + 1) [] := by
  have bu := bln_le u
  have t0 := t.1
  have key : ∀ (q' : rs) (A : List Nat), MK q' n base f A → SY q' n f u v s → ((∃ k, k < 8 ∧ u = 97 + k ∧ A = nb (80 + 32 * s) 4 k) ∨ (∃ j, isref q' n j ∧ q'.2.2 3 j = u ∧ A = if j < base then nb (64 + 32 * s) 4 (base - 1 - j) else nb (8 * s) 3 (j - base)) ∨ A = nb (32 + 16 * s) 3 (bln u) ++ txb u) → MK (r_lays q' 2 (nb 0 7 (bln v) ++ txb v)) n base (f + 1) [] := by
    intro q' A m y hA
    have m1 := m.lays (l := nb 0 7 (bln v) ++ txb v) (vlb_256 v)
    refine m1.fin y.lays ?_ h1
    refine Or.inr (Or.inr ⟨A, ?_, rfl⟩)
    rcases hA with hA | ⟨j, z1, z2, z3⟩ | hA
    · exact Or.inl hA
    · refine Or.inr (Or.inl ⟨j, ?_, by rw [r_lays_l]; exact z2, z3⟩)
      rw [isref_eq (r_lays_a (show 19 ≠ r_wa 2 by decide) _ _) (r_lays_a (show 20 ≠ r_wa 2 by decide) _ _)]
      exact z1
    · exact Or.inr (Or.inr hA)
  have txt : MK (r_lays (r_lays q 2 (nb (32 + 16 * s) 3 (bln u) ++ txb u)) 2 (nb 0 7 (bln v) ++ txb v)) n base (f + 1) [] := by
    refine key _ _ (t.lays (app_256 (nb_256 (by omega) (by omega)) (txb_256 u))) hs.lays (Or.inr (Or.inr rfl))
  unfold r_lb
  cases hf : fxn u with
  | some k =>
    have hk := fxn_some hf
    have hu : u = 97 + k := by unfold fxn at hf; split at hf; omega; cases hf
    exact key _ _ (t.lays (nb_256 (by omega) (by omega))) hs.lays (Or.inl ⟨k, hk.1, hu, rfl⟩)
  | none =>
    cases hl : r_last q u 0 false with
    | none => exact txt
    | some j =>
      simp only
      obtain ⟨j1, j2, j3, -⟩ := r_lastTo_some hl
      split
      · refine key _ _ ((t.ref (j := j)).lays ?_) hs.ref.lays (Or.inr (Or.inl ⟨j, ?_, by rw [r_lays_l]; exact j3, rfl⟩))
        · split
          · exact nb_256 (by omega) (by omega)
          · exact nb_256 (by omega) (by omega)
        · rw [isref_eq (r_lays_a (show 19 ≠ r_wa 2 by decide) _ _) (r_lays_a (show 20 ≠ r_wa 2 by decide) _ _), ← t0]
          exact isref.ref.mpr (Or.inr rfl)
      · exact txt
theorem r_may_fit {p : rs} {size : Nat} (h : r_may p size = true) : size ≤ p.1 0 := by
  unfold r_may at h
  rw [Bool.and_eq_true, decide_eq_true_eq] at h
  exact h.1
theorem MK.one {p : rs} {n base f : Nat} {risk : Bool} (t : MK p n base f []) (hJ : r_J p f f) (hI : r_I p) (hf : f < 12) (hb : base < 2 ^ 28) : MK (r_one p f base risk) n base (f + 1) [] := by
  have t0 := t.1
  have Js := hJ.says hf
  have Is := hI.says (f := f)
  have ts := t.says
  have sy := says_at p f
  rw [t0] at sy
  have s1 : p.2.1 2 f ≤ 1 := hJ.2.2.2.2.2.2.2.2.2.2 f hf
  have h6 : p.1 6 ≤ 12 * p.1 28 + f := hJ.2.2.2.2.2.1
  have h28 := hJ.2.1
  unfold r_one
  split
  · rename_i hfx
    unfold r_fixed at hfx
    cases hk : fxn (p.2.2 0 f) with
    | none => rw [hk] at hfx; cases hfx
    | some k =>
      rw [hk] at hfx
      have hk8 := fxn_some hk
      have hu : p.2.2 0 f = 97 + k := by unfold fxn at hk; split at hk; omega; cases hk
      have hv : fxv k = p.2.2 1 f := by simpa using hfx
      rw [t0]
      have m1 := (ts.sa18 (v := 0)).lays (l := nb 192 6 (p.2.2 0 f - 97)) (nb_256 (by decide) (by omega))
      refine m1.fin (u := p.2.2 0 f) (v := p.2.2 1 f) (s := 0) ?_ (Or.inl ⟨k, hk8.1, hu, hv.symm, rfl, ?_⟩) (by decide)
      · refine SY.lays ⟨sy.1, sy.2.1, ?_⟩
        simp [r_sa]
      · rw [hk8.2]; rfl
  · split
    · rename_i hs0
      have sy' : SY (r_says p f) n f (p.2.2 0 f) (p.2.2 1 f) 0 := ⟨sy.1, sy.2.1, by rw [sy.2.2, hs0]⟩
      unfold r_oneV
      cases hl : r_last (r_says p f) (p.2.2 0 f) (p.2.2 1 f) true with
      | some j =>
        simp only
        obtain ⟨j1, j2, j3, j4⟩ := r_lastTo_some hl
        have j1' : j < p.1 6 := j1
        split
        · exact ts.whole sy' hb (by omega) j3 (j4.elim (fun z => by cases z) id)
        · exact ts.lb sy' hb (by show p.1 6 ≤ 2400; omega) (by decide)
      | none =>
        simp only
        split
        · rename_i hm
          have hfit := r_may_fit hm
          have ti := ts.ins (u := p.2.2 0 f) (v := p.2.2 1 f) Js (by omega) Is hfit
          split
          · exact ti.whole sy'.ins hb (by show p.1 6 < 2 ^ 28; omega) (by rw [r_ins_3]; exact if_pos rfl) (by rw [r_ins_4]; exact if_pos rfl)
          · exact ti.lb sy'.ins hb (by rw [r_ins_6]; show p.1 6 + 1 ≤ 2400; omega) (by decide)
        · exact ts.lb sy' hb (by show p.1 6 ≤ 2400; omega) (by decide)
    · rename_i hs0
      have : p.2.1 2 f = 1 := by omega
      exact ts.lb ⟨sy.1, sy.2.1, by rw [sy.2.2, this]⟩ hb (by show p.1 6 ≤ 2400; omega) (by decide)
theorem MK.ones {p : rs} {n base : Nat} {risk : Bool} (t : MK p n base 0 []) (h : r_J p 0 0) (hI : r_I p) (hb : base < 2 ^ 28) (h44 : p.1 44 = 0) : ∀ f, f ≤ 12 → MK (r_ones p base risk f) n base f [] := by
  intro f
  induction f with
  | zero => intro _; exact t
  | succ f ih =>
    intro hf
    exact (ih (by omega)).one (r_ones_J h hb h44 f (by omega)).1 (r_ones_I h hI hb h44 f (by omega)) (by omega) hb
