/-! the decoder's side: lanes, sections -/
def lyl (p : rs) (s w : Nat) : List Nat := (List.range (p.1 28)).filter (r_lies p s w)
theorem lyl_mem {p : rs} {s w k : Nat} : k ∈ lyl p s w ↔ k < p.1 28 ∧ p.2.1 11 k = s ∧ p.2.1 14 k = w := by simp [lyl, r_lies]
theorem lyl_sorted (p : rs) (s w : Nat) : (lyl p s w).Pairwise (· < ·) := List.Pairwise.filter _ List.pairwise_lt_range
theorem lyl_len (p : rs) (s w : Nat) : (lyl p s w).length = r_lying p s w := rfl
def sbt (p : rs) (k : Nat) : List Nat := (List.range (p.2.1 22 k)).map (fun i => p.2.1 23 (p.2.1 21 k + i))
def cdo (p : rs) (k : Nat) : Nat := if p.2.1 12 k = 0 then 0 else p.2.1 12 k % (2 * (p.1 0 / 32)) + 1
def fdS (h : fp_H) (p : rs) (k : Nat) (as : List Nat) : Prop := as.length = p.2.1 15 k ∧ ∀ f, f < p.2.1 15 k → ∃ a, as[f]? = some a ∧ h.1 a = some (9, fO (p.2.2 16 (12 * k + f)) (p.2.2 17 (12 * k + f)) (p.2.1 18 (12 * k + f)))
def SK (G : fp_G) (h : fp_H) (ba sa ra fa : Nat → Nat) (p : rs) (k : Nat) : Prop :=
  (p.2.1 14 k = 0 → ∃ cap, byt h (1000 + k) (ba k) (sbt p k) cap) ∧
  (p.2.1 14 k = 1 → h.1 (sa k) = some (9, sO (ra k) (p.2.1 12 k) (fa k)) ∧ rdr h (2000 + k) (ra k) (1000 + k) (ba k) (sbt p k) (sbt p k).length ((nb 0 8 (cdo p k)).length, false) ∧ lst G h (3000 + k) (fa k) [] 0) ∧
  (p.2.1 14 k = 2 → h.1 (sa k) = some (9, sO (ra k) (p.2.1 12 k) (fa k)) ∧ ∃ as cF, lst G h (3000 + k) (fa k) as cF ∧ fdS h p k as)
theorem SK.kept {G : fp_G} {h h' : fp_H} {S : Nat → Prop} {ba sa ra fa : Nat → Nat} {p : rs} {k : Nat} (x : SK G h ba sa ra fa p k) (c : cf S h h') (h9 : ¬ S 9) (h1 : ¬ S (1000 + k)) (h2 : ¬ S (2000 + k)) (h3 : ¬ S (3000 + k)) : SK G h' ba sa ra fa p k := by
  refine ⟨fun z => ?_, fun z => ?_, fun z => ?_⟩
  · obtain ⟨cap, b⟩ := x.1 z
    exact ⟨cap, b.kept c h1⟩
  · obtain ⟨a1, a2, a3⟩ := x.2.1 z
    exact ⟨c.at a1 h9, a2.kept c h2 h1, a3.kept c h3⟩
  · obtain ⟨a1, as, cF, a2, a3, a4⟩ := x.2.2 z
    refine ⟨c.at a1 h9, as, cF, a2.kept c h3, a3, fun f hf => ?_⟩
    obtain ⟨a, b1, b2⟩ := a4 f hf
    exact ⟨a, b1, c.at b2 h9⟩
/-- what SK k reads of the state -/
def kEq (p p' : rs) (k : Nat) : Prop := p'.1 0 = p.1 0 ∧ p'.2.1 14 k = p.2.1 14 k ∧ p'.2.1 12 k = p.2.1 12 k ∧ p'.2.1 15 k = p.2.1 15 k ∧ sbt p' k = sbt p k ∧ ∀ f, f < 12 → p'.2.2 16 (12 * k + f) = p.2.2 16 (12 * k + f) ∧ p'.2.2 17 (12 * k + f) = p.2.2 17 (12 * k + f) ∧ p'.2.1 18 (12 * k + f) = p.2.1 18 (12 * k + f)
theorem SK.eq {G : fp_G} {h : fp_H} {ba sa ra fa ba' sa' ra' fa' : Nat → Nat} {p p' : rs} {k : Nat} (x : SK G h ba sa ra fa p k) (e : kEq p p' k) (h15 : p.2.1 15 k ≤ 12) (hb : ba' k = ba k) (hs : sa' k = sa k) (hr : ra' k = ra k) (hf : fa' k = fa k) : SK G h ba' sa' ra' fa' p' k := by
  obtain ⟨e0, e14, e12, e15, es, ef⟩ := e
  have ec : cdo p' k = cdo p k := by unfold cdo; rw [e12, e0]
  refine ⟨fun z => ?_, fun z => ?_, fun z => ?_⟩
  · rw [e14] at z
    rw [hb, es]
    exact x.1 z
  · rw [e14] at z
    rw [hb, hs, hr, hf, es, ec, e12]
    exact x.2.1 z
  · rw [e14] at z
    obtain ⟨a1, as, cF, a2, a3, a4⟩ := x.2.2 z
    rw [hs, hr, hf, e12]
    refine ⟨a1, as, cF, a2, by rw [e15]; exact a3, fun f hlt => ?_⟩
    rw [e15] at hlt
    obtain ⟨f1, f2, f3⟩ := ef f (by omega)
    rw [f1, f2, f3]
    exact a4 f hlt
/-- the lists of lane s -/
def LN (G : fp_G) (h : fp_H) (la ba sa : Nat → Nat) (p : rs) (c1 c2 c3 : Nat → Nat) (s : Nat) : Prop := ∃ onw wai red, h.1 (la s) = some (50 + s, .inr (5, [.int (nI s), .ref onw, .ref wai, .ref red, .int (nI (p.2.1 24 s))])) ∧ lst G h (20 + s) onw ((lyl p s 0).map ba) (c1 s) ∧ lst G h (30 + s) wai ((lyl p s 1).map sa) (c2 s) ∧ lst G h (40 + s) red ((lyl p s 2).map sa) (c3 s) ∧ c1 s ≠ 1 ∧ c2 s ≠ 1 ∧ c3 s ≠ 1 ∧ c1 s ≤ 26 ∧ c2 s ≤ 26 ∧ c3 s ≤ 410
theorem LN.kept {G : fp_G} {h h' : fp_H} {S : Nat → Prop} {la ba sa : Nat → Nat} {p : rs} {c1 c2 c3 : Nat → Nat} {s : Nat} (x : LN G h la ba sa p c1 c2 c3 s) (c : cf S h h') (h2 : ¬ S (20 + s)) (h3 : ¬ S (30 + s)) (h4 : ¬ S (40 + s)) (h5 : ¬ S (50 + s)) : LN G h' la ba sa p c1 c2 c3 s := by
  obtain ⟨onw, wai, red, a1, a2, a3, a4, a5⟩ := x
  exact ⟨onw, wai, red, c.at a1 h5, a2.kept c h2, a3.kept c h3, a4.kept c h4, a5⟩
theorem LN.eq {G : fp_G} {h : fp_H} {la ba sa ba' sa' : Nat → Nat} {p p' : rs} {c1 c2 c3 c1' c2' c3' : Nat → Nat} {s : Nat} (x : LN G h la ba sa p c1 c2 c3 s) (e24 : p'.2.1 24 s = p.2.1 24 s) (e0 : (lyl p' s 0).map ba' = (lyl p s 0).map ba) (e1 : (lyl p' s 1).map sa' = (lyl p s 1).map sa) (e2 : (lyl p' s 2).map sa' = (lyl p s 2).map sa) (f1 : c1' s = c1 s) (f2 : c2' s = c2 s) (f3 : c3' s = c3 s) : LN G h la ba' sa' p' c1' c2' c3' s := by
  unfold LN at *
  rw [e24, e0, e1, e2, f1, f2, f3]
  exact x
/-- the decoder's side -/
def DI (G : fp_G) (h : fp_H) (de td bk cB : Nat) (la ba sa ra fa : Nat → Nat) (c1 c2 c3 : Nat → Nat) (p : rs) : Prop := DN h de td p ∧ byt h 12 bk (wlx p 16 7) cB ∧ (∀ s, s < 8 → LN G h la ba sa p c1 c2 c3 s) ∧ (∀ k, k < p.1 28 → SK G h ba sa ra fa p k) ∧ fp_wf h
theorem lyl_eq {p p' : rs} {s w : Nat} (e28 : p'.1 28 = p.1 28) (h : ∀ k, k < p.1 28 → (p'.2.1 11 k = s ∧ p'.2.1 14 k = w ↔ p.2.1 11 k = s ∧ p.2.1 14 k = w)) : lyl p' s w = lyl p s w := by
  unfold lyl
  rw [e28]
  apply List.filter_congr
  intro k hk
  have := h k (List.mem_range.mp hk)
  unfold r_lies
  rw [Bool.eq_iff_iff, Bool.and_eq_true, Bool.and_eq_true, beq_iff_eq, beq_iff_eq, beq_iff_eq, beq_iff_eq]
  exact this
theorem sorted_snoc {P : Nat → Bool} {n k : Nat} (hk : k < n) (hP : P k = true) (hm : ∀ j, j < n → P j = true → j ≤ k) : (List.range n).filter P = (List.range n).filter (fun i => P i && i != k) ++ [k] := by
  induction n with
  | zero => omega
  | succ n ih =>
    rw [List.range_succ, List.filter_append, List.filter_append]
    by_cases e : k = n
    · subst e
      have e1 : (List.range k).filter (fun i => P i && i != k) = (List.range k).filter P := by
        apply List.filter_congr
        intro i hi
        have hi' := List.mem_range.mp hi
        have : (i != k) = true := by rw [bne_iff_ne]; omega
        rw [this, Bool.and_true]
      rw [e1]
      simp [hP]
    · have hn : P n = false := by
        cases hx : P n with
        | false => rfl
        | true => have := hm n (by omega) hx; omega
      rw [ih (by omega) (fun j hj => hm j (by omega))]
      simp [hn]
/-- of a stream, what comes later is no further -/
def OR (p : rs) : Prop := ∀ i j, i < j → j < p.1 28 → p.2.1 11 i = p.2.1 11 j → p.2.1 14 i < 2 → p.2.1 14 j ≤ p.2.1 14 i
theorem lyl_rest {p : rs} {s w k : Nat} {rest : List Nat} (h : lyl p s w = k :: rest) : k < p.1 28 ∧ p.2.1 11 k = s ∧ p.2.1 14 k = w ∧ ∀ j, j < p.1 28 → p.2.1 11 j = s → p.2.1 14 j = w → k ≤ j := by
  have hk : k ∈ lyl p s w := by rw [h]; simp
  have hk' := lyl_mem.mp hk
  refine ⟨hk'.1, hk'.2.1, hk'.2.2, fun j h1 h2 h3 => ?_⟩
  have hj : j ∈ lyl p s w := lyl_mem.mpr ⟨h1, h2, h3⟩
  have hs := lyl_sorted p s w
  rw [h] at hj hs
  rcases List.mem_cons.mp hj with rfl | hj
  · exact Nat.le_refl _
  · have := (List.pairwise_cons.mp hs).1 j hj; omega
theorem lyl_drop {p p' : rs} {s w k : Nat} {rest : List Nat} (h : lyl p s w = k :: rest) (e28 : p'.1 28 = p.1 28) (e : ∀ i, i < p.1 28 → (p'.2.1 11 i = s ∧ p'.2.1 14 i = w ↔ (p.2.1 11 i = s ∧ p.2.1 14 i = w) ∧ i ≠ k)) : lyl p' s w = rest := by
  have e1 : lyl p' s w = (lyl p s w).filter (fun i => i != k) := by
    unfold lyl
    rw [List.filter_filter, e28]
    apply List.filter_congr
    intro i hi
    have := e i (List.mem_range.mp hi)
    unfold r_lies
    rw [Bool.eq_iff_iff]
    simp only [Bool.and_eq_true, beq_iff_eq, bne_iff_ne]
    constructor
    · intro z; have := this.mp z; exact ⟨this.2, this.1⟩
    · intro z; exact this.mpr ⟨z.2, z.1⟩
  have hs := lyl_sorted p s w
  rw [h] at hs
  rw [e1, h, List.filter_cons]
  simp
  intro i hi
  have := (List.pairwise_cons.mp hs).1 i hi
  omega
theorem lyl_snoc {p p' : rs} {s w k : Nat} (hk : k < p.1 28) (hm : ∀ j, j < p.1 28 → p.2.1 11 j = s → p.2.1 14 j = w → j < k) (e28 : p'.1 28 = p.1 28) (e : ∀ i, i < p.1 28 → (p'.2.1 11 i = s ∧ p'.2.1 14 i = w ↔ (p.2.1 11 i = s ∧ p.2.1 14 i = w) ∨ i = k)) : lyl p' s w = lyl p s w ++ [k] := by
  have hkk := (e k hk).mpr (Or.inr rfl)
  have h1 : lyl p' s w = (List.range (p.1 28)).filter (fun i => r_lies p' s w i && i != k) ++ [k] := by
    unfold lyl
    rw [e28]
    refine sorted_snoc hk ?_ (fun j hj hP => ?_)
    · unfold r_lies; rw [Bool.and_eq_true, beq_iff_eq, beq_iff_eq]; exact hkk
    · unfold r_lies at hP
      rw [Bool.and_eq_true, beq_iff_eq, beq_iff_eq] at hP
      rcases (e j hj).mp hP with z | z
      · have := hm j hj z.1 z.2; omega
      · omega
  rw [h1]
  congr 1
  unfold lyl
  apply List.filter_congr
  intro i hi
  have hi' := List.mem_range.mp hi
  have := e i hi'
  unfold r_lies
  rw [Bool.eq_iff_iff]
  simp only [Bool.and_eq_true, beq_iff_eq, bne_iff_ne]
  constructor
  · intro z
    rcases this.mp z.1 with y | y
    · exact y
    · exact absurd y z.2
  · intro z
    exact ⟨this.mpr (Or.inl z), fun y => by have := hm i hi' z.1 z.2; omega⟩
/-- decode those of the list in turn -/
def r_rel : List Nat → rs → rs
  | [], p => p
  | k :: l, p => if p.1 24 < p.2.1 12 k then p else r_rel l (r_dec p k)
theorem r_go_rel {s : Nat} : ∀ (n k : Nat) (p : rs), r_go s n k p = r_rel ((List.range' k n).filter (r_lies p s 1)) p := by
  intro n
  induction n with
  | zero => intro k p; rfl
  | succ n ih =>
    intro k p
    rw [r_go, List.range'_succ, List.filter_cons]
    by_cases c : p.2.1 11 k = s ∧ p.2.1 14 k = 1
    · have hl : r_lies p s 1 k = true := by unfold r_lies; rw [Bool.and_eq_true, beq_iff_eq, beq_iff_eq]; exact c
      rw [if_pos c, if_pos hl, r_rel]
      by_cases c2 : p.1 24 < p.2.1 12 k
      · rw [if_pos c2, if_pos c2]
      · rw [if_neg c2, if_neg c2, ih]
        congr 1
        apply List.filter_congr
        intro i hi
        have hi' := (List.mem_range'_1.mp hi).1
        unfold r_lies
        rw [r_dec_14, r_dec_a (by decide) (by decide) (by decide) (by decide) (by decide)]
        show (p.2.1 11 i == s && (if i = k then 2 else p.2.1 14 i) == 1) = _
        rw [if_neg (by omega)]
    · have hl : ¬ r_lies p s 1 k = true := by unfold r_lies; rw [Bool.and_eq_true, beq_iff_eq, beq_iff_eq]; exact c
      rw [if_neg c, if_neg hl, ih]
theorem r_goOn_rel (p : rs) (s : Nat) : r_goOn p s = r_rel (lyl p s 1) p := by
  unfold r_goOn lyl
  rw [r_go_rel, List.range_eq_range']
/-- a line of a section, its references told by P -/
def lnP (P : Nat → Prop) (nm vl : Nat → Nat) (base u v s : Nat) (l : List Nat) : Prop := (∃ k, k < 8 ∧ u = 97 + k ∧ v = fxv k ∧ s = 0 ∧ l = nb 192 6 k) ∨ (∃ j, P j ∧ nm j = u ∧ vl j = v ∧ s = 0 ∧ l = r_wb j base) ∨ ∃ A, ((∃ k, k < 8 ∧ u = 97 + k ∧ A = nb (80 + 32 * s) 4 k) ∨ (∃ j, P j ∧ nm j = u ∧ A = if j < base then nb (64 + 32 * s) 4 (base - 1 - j) else nb (8 * s) 3 (j - base)) ∨ A = nb (32 + 16 * s) 3 (bln u) ++ txb u) ∧ l = A ++ vlb v
theorem lnP.toD {P : Nat → Prop} {nm vl : Nat → Nat} {F C base u v s : Nat} {l : List Nat} (h : lnP P nm vl base u v s l) (hP : ∀ j, P j → F ≤ j ∧ j < C) : lnD nm vl F C base u v s l := by
  rcases h with h | ⟨j, h1, h2⟩ | ⟨A, hA, hl⟩
  · exact Or.inl h
  · exact Or.inr (Or.inl ⟨j, (hP j h1).1, (hP j h1).2, h2⟩)
  · refine Or.inr (Or.inr ⟨A, ?_, hl⟩)
    rcases hA with hA | ⟨j, h1, h2, h3⟩ | hA
    · exact Or.inl hA
    · by_cases c : j < base
      · rw [if_pos c] at h3
        exact Or.inr (Or.inl ⟨j, (hP j h1).1, (hP j h1).2, h2, c, h3⟩)
      · rw [if_neg c] at h3
        exact Or.inr (Or.inr (Or.inl ⟨j, (hP j h1).1, (hP j h1).2, h2, by omega, h3⟩))
    · exact Or.inr (Or.inr (Or.inr hA))
def isref (p : rs) (k j : Nat) : Prop := ∃ i, i < p.2.1 20 k ∧ p.2.1 19 (12 * k + i) = j
/-- what the bytes of a section say -/
def SEC (p : rs) (k : Nat) : Prop := (∃ base ls, base < 2 ^ 20 ∧ sbt p k = nb 0 8 (cdo p k) ++ (bsb (p.2.1 12 k) base ++ lcat ls 0 (p.2.1 15 k)) ∧ ∀ f, f < p.2.1 15 k → lnP (isref p k) (p.2.2 3) (p.2.2 4) base (p.2.2 16 (12 * k + f)) (p.2.2 17 (12 * k + f)) (p.2.1 18 (12 * k + f)) (ls f) ∧ p.2.1 18 (12 * k + f) ≤ 1) ∧ (∀ x ∈ sbt p k, x < 256) ∧ p.2.1 15 k ≤ 12 ∧ p.2.1 11 k < 8 ∧ p.2.1 12 k ≤ 2400 ∧ (p.2.1 12 k ≠ 0 → 32 ≤ p.1 0)
def RD (p : rs) (k : Nat) : Prop := ∀ j, isref p k j → p.1 25 ≤ j ∧ j < p.2.1 12 k
