/-! what the making of a section leaves alone -/
def FR (p q : rs) : Prop :=
  (q.1 28 = p.1 28 ∧ p.1 6 ≤ q.1 6 ∧ p.1 13 ≤ q.1 13) ∧
  (∀ j, j < p.1 6 → q.2.2 3 j = p.2.2 3 j ∧ q.2.2 4 j = p.2.2 4 j ∧ q.2.1 5 j = p.2.1 5 j) ∧
  (∀ i, i < p.1 13 → q.2.1 6 i = p.2.1 6 i) ∧
  (∀ k, k ≠ p.1 28 → q.2.1 12 k = p.2.1 12 k ∧ q.2.1 20 k = p.2.1 20 k ∧ ∀ f, f < 12 → q.2.1 19 (12 * k + f) = p.2.1 19 (12 * k + f) ∧ q.2.1 18 (12 * k + f) = p.2.1 18 (12 * k + f) ∧ q.2.2 16 (12 * k + f) = p.2.2 16 (12 * k + f) ∧ q.2.2 17 (12 * k + f) = p.2.2 17 (12 * k + f))
theorem FR.refl (p : rs) : FR p p := ⟨⟨rfl, Nat.le_refl _, Nat.le_refl _⟩, fun _ _ => ⟨rfl, rfl, rfl⟩, fun _ _ => rfl, fun _ _ => ⟨rfl, rfl, fun _ _ => ⟨rfl, rfl, rfl, rfl⟩⟩⟩
theorem FR.trans {p q r : rs} (a : FR p q) (b : FR q r) : FR p r := by
  obtain ⟨⟨a1, a2, a3⟩, a4, a5, a6⟩ := a
  obtain ⟨⟨b1, b2, b3⟩, b4, b5, b6⟩ := b
  refine ⟨⟨by omega, by omega, by omega⟩, fun j hj => ?_, fun i hi => ?_, fun k hk => ?_⟩
  · have x := a4 j hj
    have y := b4 j (by omega)
    exact ⟨y.1.trans x.1, y.2.1.trans x.2.1, y.2.2.trans x.2.2⟩
  · exact (b5 i (by omega)).trans (a5 i hi)
  · have x := a6 k hk
    have y := b6 k (by omega)
    refine ⟨y.1.trans x.1, y.2.1.trans x.2.1, fun f hf => ?_⟩
    have x' := x.2.2 f hf
    have y' := y.2.2 f hf
    exact ⟨y'.1.trans x'.1, y'.2.1.trans x'.2.1, y'.2.2.1.trans x'.2.2.1, y'.2.2.2.trans x'.2.2.2⟩
theorem FR.says {p : rs} {f : Nat} (hf : f < 12) : FR p (r_says p f) := by
  refine ⟨⟨rfl, Nat.le_refl _, Nat.le_refl _⟩, fun j _ => ⟨by rw [r_says_l (by decide) (by decide)], by rw [r_says_l (by decide) (by decide)], by rw [r_says_a (by decide)]⟩, fun i _ => by rw [r_says_a (by decide)], fun k hk => ⟨by rw [r_says_a (by decide)], by rw [r_says_a (by decide)], fun g hg => ?_⟩⟩
  have hne : 12 * k + g ≠ 12 * p.1 28 + f := by omega
  refine ⟨by rw [r_says_a (by decide)], ?_, ?_, ?_⟩ <;> simp [r_says, r_sa, r_sl, hne]
theorem FR.sa18 {p : rs} {f v : Nat} (hf : f < 12) : FR p (r_sa p 18 (12 * p.1 28 + f) v) := by
  refine ⟨⟨rfl, Nat.le_refl _, Nat.le_refl _⟩, fun j _ => ⟨rfl, rfl, by simp [r_sa]⟩, fun i _ => by simp [r_sa], fun k hk => ⟨by simp [r_sa], by simp [r_sa], fun g hg => ?_⟩⟩
  have hne : 12 * k + g ≠ 12 * p.1 28 + f := by omega
  simp [r_sa, hne]
theorem FR.lays2 {p : rs} {l : List Nat} : FR p (r_lays p 2 l) := by
  have k : ∀ x, x ≠ 44 → (r_lays p 2 l).1 x = p.1 x := fun x hx => r_lays_k (show x ≠ r_wc 2 from hx) _ _
  have ka : ∀ j, j ≠ 25 → (r_lays p 2 l).2.1 j = p.2.1 j := fun j hj => r_lays_a (show j ≠ r_wa 2 from hj) _ _
  refine ⟨⟨k 28 (by decide), Nat.le_of_eq (k 6 (by decide)).symm, Nat.le_of_eq (k 13 (by decide)).symm⟩, fun j _ => ⟨by rw [r_lays_l], by rw [r_lays_l], by rw [ka 5 (by decide)]⟩, fun i _ => by rw [ka 6 (by decide)], fun j _ => ⟨by rw [ka 12 (by decide)], by rw [ka 20 (by decide)], fun f _ => ⟨by rw [ka 19 (by decide)], by rw [ka 18 (by decide)], by rw [r_lays_l], by rw [r_lays_l]⟩⟩⟩
theorem FR.ref {p : rs} {j : Nat} (hr : p.2.1 20 (p.1 28) < 12) : FR p (r_ref p j) := by
  refine ⟨⟨rfl, Nat.le_refl _, Nat.le_refl _⟩, fun i _ => ⟨rfl, rfl, by simp [r_ref, r_sa]⟩, fun i _ => by simp [r_ref, r_sa], fun k hk => ⟨by simp [r_ref, r_sa, hk], by simp [r_ref, r_sa, hk], fun f hf => ?_⟩⟩
  have hne : 12 * k + f ≠ 12 * p.1 28 + p.2.1 20 (p.1 28) := by omega
  refine ⟨by simp [r_ref, r_sa, hne], by simp [r_ref, r_sa], rfl, rfl⟩
theorem r_lays_old (w : Nat) : ∀ (l : List Nat) (p : rs) (i : Nat), i < p.1 (r_wc w) → (r_lays p w l).2.1 (r_wa w) i = p.2.1 (r_wa w) i := by
  intro l
  induction l with
  | nil => intro p i _; rfl
  | cons b l ih =>
    intro p i hi
    rw [r_lays_cons, ih _ _ (by rw [r_lay_c]; omega)]
    have : i ≠ p.1 (r_wc w) := by omega
    simp [r_lay, r_si, r_sa, this]
theorem r_ins_5 (p : rs) (u v i : Nat) : (r_ins p u v).2.1 5 i = if i = p.1 6 then (r_ins p u v).1 13 else p.2.1 5 i := by
  have e6 : (r_ev (r_lays p 0 (r_ib p u v)) (32 + bln u + bln v) (p.1 6 - p.1 10)).1 6 = p.1 6 := by rw [r_ev_k (by decide) (by decide), r_lays_k (by decide)]
  have e13 : (r_ins p u v).1 13 = (r_ev (r_lays p 0 (r_ib p u v)) (32 + bln u + bln v) (p.1 6 - p.1 10)).1 13 := by simp [r_ins, r_app, r_si, r_sa, r_sl]
  have : (r_ins p u v).2.1 5 i = if i = (r_ev (r_lays p 0 (r_ib p u v)) (32 + bln u + bln v) (p.1 6 - p.1 10)).1 6 then (r_ev (r_lays p 0 (r_ib p u v)) (32 + bln u + bln v) (p.1 6 - p.1 10)).1 13 else (r_ev (r_lays p 0 (r_ib p u v)) (32 + bln u + bln v) (p.1 6 - p.1 10)).2.1 5 i := by simp [r_ins, r_app, r_si, r_sa, r_sl]
  rw [this, e6, e13, r_ev_a, r_lays_a (show 5 ≠ r_wa 0 by decide)]
theorem r_ins_6a (p : rs) (u v : Nat) : (r_ins p u v).2.1 6 = (r_lays p 0 (r_ib p u v)).2.1 6 := by
  have : (r_ins p u v).2.1 6 = (r_ev (r_lays p 0 (r_ib p u v)) (32 + bln u + bln v) (p.1 6 - p.1 10)).2.1 6 := by funext i; simp [r_ins, r_app, r_si, r_sa, r_sl]
  rw [this, r_ev_a]
theorem FR.ins {p : rs} {u v : Nat} : FR p (r_ins p u v) := by
  refine ⟨⟨r_ins_k (by decide) (by decide) (by decide) (by decide), by rw [r_ins_6]; omega, by rw [r_ins_13]; omega⟩, fun j hj => ⟨by rw [r_ins_3, if_neg (by omega)], by rw [r_ins_4, if_neg (by omega)], by rw [r_ins_5, if_neg (by omega)]⟩, fun i hi => by rw [r_ins_6a]; exact r_lays_old 0 _ p i hi, fun k _ => ⟨by rw [r_ins_a (by decide) (by decide)], by rw [r_ins_a (by decide) (by decide)], fun f _ => ⟨by rw [r_ins_a (by decide) (by decide)], by rw [r_ins_a (by decide) (by decide)], by rw [r_ins_l (by decide) (by decide)], by rw [r_ins_l (by decide) (by decide)]⟩⟩⟩
theorem FR.lb {p : rs} {u v s base : Nat} {risk : Bool} (hr : p.2.1 20 (p.1 28) < 12) : FR p (r_lb p u v s base risk) := by
  unfold r_lb
  refine FR.trans ?_ FR.lays2
  cases fxn u with
  | some k => exact FR.lays2
  | none =>
    cases r_last p u 0 false with
    | none => exact FR.lays2
    | some j =>
      simp only
      split
      · exact (FR.ref hr).trans FR.lays2
      · exact FR.lays2
theorem FR.one {p : rs} {f base : Nat} {risk : Bool} (h : r_J p f f) (hf : f < 12) : FR p (r_one p f base risk) := by
  have hs := (h.says hf)
  have r20 : (r_says p f).2.1 20 ((r_says p f).1 28) < 12 := by have := hs.2.2.2.1; omega
  have i20 : ∀ u v, (r_ins (r_says p f) u v).2.1 20 ((r_ins (r_says p f) u v).1 28) < 12 := fun u v => by
    rw [r_ins_a (by decide) (by decide), r_ins_k (by decide) (by decide) (by decide) (by decide)]
    exact r20
  refine (FR.says hf).trans ?_
  unfold r_one
  split
  · exact (FR.sa18 (p := r_says p f) hf).trans FR.lays2
  · split
    · unfold r_oneV
      cases r_last (r_says p f) (p.2.2 0 f) (p.2.2 1 f) true with
      | some j =>
        simp only
        split
        · exact (FR.ref r20).trans FR.lays2
        · exact FR.lb r20
      | none =>
        simp only
        split
        · split
          · exact FR.ins.trans ((FR.ref (i20 _ _)).trans FR.lays2)
          · exact FR.ins.trans (FR.lb (i20 _ _))
        · exact FR.lb r20
    · exact FR.lb r20
theorem FR.ones {p : rs} {base : Nat} {risk : Bool} (h : r_J p 0 0) (hb : base < 2 ^ 28) (h44 : p.1 44 = 0) : ∀ f, f ≤ 12 → FR p (r_ones p base risk f) := by
  intro f
  induction f with
  | zero => intro _; exact FR.refl p
  | succ f ih => intro hf; exact (ih (by omega)).trans (FR.one (r_ones_J h hb h44 f (by omega)).1 (by omega))
theorem FR.enc0 (p : rs) : FR p (r_enc0 p) := by
  refine ⟨⟨rfl, Nat.le_refl _, Nat.le_refl _⟩, fun j _ => ⟨rfl, rfl, by rw [r_enc0_a (by decide) (by decide)]⟩, fun i _ => by rw [r_enc0_a (by decide) (by decide)], fun k hk => ⟨by simp [r_enc0, r_sa, r_si, hk], by simp [r_enc0, r_sa, r_si, hk], fun f _ => ⟨by rw [r_enc0_a (by decide) (by decide)], by rw [r_enc0_a (by decide) (by decide)], rfl, rfl⟩⟩⟩
theorem FR.mk {p : rs} {s : Nat} (h : r_J (r_enc0 p) 0 0) (h6 : p.1 6 ≤ 2400) (h2 : p.1 2 ≤ 12) : FR p (r_mk p s) := (FR.enc0 p).trans (FR.ones h (by omega) (by simp [r_enc0, r_si, r_sa]) _ h2)
/-- the bytes of the new section -/
theorem r_enc_41 (p : rs) (s : Nat) : (r_mk p s).1 41 = p.1 41 := by rw [r_mk, r_ones_k (by decide) (by decide) (by decide) (by decide) (by decide), r_enc0_1 (by decide)]
theorem r_enc_21 (p : rs) (s k : Nat) : (r_enc p s).2.1 21 k = if k = p.1 28 then p.1 41 else (r_mk p s).2.1 21 k := by
  rw [r_enc_lay (by decide) (by decide)]
  simp [r_enc2, r_sa, r_mk_28, r_enc_41]
theorem r_enc_22 (p : rs) (s k : Nat) : (r_enc p s).2.1 22 k = if k = p.1 28 then (r_front (r_mk p s) (p.1 6) ++ wlx (r_mk p s) 44 25).length else (r_mk p s).2.1 22 k := by
  have e41 : (r_lays (r_enc2 (r_mk p s) s) 3 (r_front (r_mk p s) (p.1 6) ++ r_lines (r_mk p s) ((r_mk p s).1 44))).1 41 = p.1 41 + (r_front (r_mk p s) (p.1 6) ++ wlx (r_mk p s) 44 25).length := by
    have := r_lays_c 3 (r_front (r_mk p s) (p.1 6) ++ r_lines (r_mk p s) ((r_mk p s).1 44)) (r_enc2 (r_mk p s) s)
    rw [show r_wc 3 = 41 from rfl] at this
    rw [this]
    show (r_mk p s).1 41 + _ = _
    rw [r_enc_41]
    rfl
  have e28 : (r_lays (r_enc2 (r_mk p s) s) 3 (r_front (r_mk p s) (p.1 6) ++ r_lines (r_mk p s) ((r_mk p s).1 44))).1 28 = p.1 28 := by
    rw [r_lays_k (show 28 ≠ r_wc 3 by decide)]
    exact r_mk_28 p s
  have e21 : (r_lays (r_enc2 (r_mk p s) s) 3 (r_front (r_mk p s) (p.1 6) ++ r_lines (r_mk p s) ((r_mk p s).1 44))).2.1 21 (p.1 28) = p.1 41 := by
    rw [r_lays_a (show 21 ≠ r_wa 3 by decide)]
    simp [r_enc2, r_sa, r_mk_28, r_enc_41]
  have e22 : (r_lays (r_enc2 (r_mk p s) s) 3 (r_front (r_mk p s) (p.1 6) ++ r_lines (r_mk p s) ((r_mk p s).1 44))).2.1 22 = (r_mk p s).2.1 22 := by
    rw [r_lays_a (show 22 ≠ r_wa 3 by decide)]
    funext i
    simp [r_enc2, r_sa]
  unfold r_enc r_enc3
  simp only [r_si, r_sa]
  rw [e28, e41, e21, e22]
  by_cases c : k = p.1 28
  · rw [if_pos ⟨trivial, c⟩, if_pos c]; omega
  · rw [if_neg (fun z => c z.2), if_neg c]
theorem r_enc_23 (p : rs) (s : Nat) : (r_enc p s).2.1 23 = (r_lays (r_enc2 (r_mk p s) s) 3 (r_front (r_mk p s) (p.1 6) ++ wlx (r_mk p s) 44 25)).2.1 23 := by
  funext i
  unfold r_enc r_enc3
  simp only [r_si, r_sa]
  rw [if_neg (by rintro ⟨z, -⟩; cases z)]
  rfl
theorem r_enc_1_41 (p : rs) (s : Nat) : (r_enc p s).1 41 = p.1 41 + (r_front (r_mk p s) (p.1 6) ++ wlx (r_mk p s) 44 25).length := by
  unfold r_enc r_enc3
  simp only [r_si, r_sa, if_neg (show (41 : Nat) ≠ 2 by decide), if_neg (show (41 : Nat) ≠ 28 by decide)]
  have := r_lays_c 3 (r_front (r_mk p s) (p.1 6) ++ r_lines (r_mk p s) ((r_mk p s).1 44)) (r_enc2 (r_mk p s) s)
  rw [show r_wc 3 = 41 from rfl] at this
  rw [this]
  show (r_mk p s).1 41 + _ = _
  rw [r_enc_41]
  rfl
theorem sbt_enc (p : rs) (s : Nat) : sbt (r_enc p s) (p.1 28) = r_front (r_mk p s) (p.1 6) ++ wlx (r_mk p s) 44 25 := by
  have w := wlx_lays 3 (r_front (r_mk p s) (p.1 6) ++ wlx (r_mk p s) 44 25) (r_enc2 (r_mk p s) s)
  rw [show r_wc 3 = 41 from rfl, show r_wa 3 = 23 from rfl] at w
  have e41 : (r_enc2 (r_mk p s) s).1 41 = p.1 41 := r_enc_41 p s
  unfold sbt
  rw [r_enc_21, if_pos rfl, r_enc_22, if_pos rfl, r_enc_23]
  apply List.ext_getElem?
  intro i
  rw [List.getElem?_map]
  by_cases c : i < (r_front (r_mk p s) (p.1 6) ++ wlx (r_mk p s) 44 25).length
  · rw [List.getElem?_range c]
    have h1 := congrArg (fun l : List Nat => l[p.1 41 + i]?) w
    rw [List.getElem?_append_right (by rw [wlx_len, e41]; omega), wlx_len, e41, show p.1 41 + i - p.1 41 = i by omega] at h1
    rw [← h1]
    unfold wlx
    rw [List.getElem?_map, List.getElem?_range]
    · rfl
    · have := r_lays_c 3 (r_front (r_mk p s) (p.1 6) ++ wlx (r_mk p s) 44 25) (r_enc2 (r_mk p s) s)
      rw [show r_wc 3 = 41 from rfl, e41] at this
      unfold wlx at this c
      rw [this]
      omega
  · rw [List.getElem?_eq_none (by rw [List.length_range]; omega), List.getElem?_eq_none (by omega)]
    rfl
theorem sbt_old {p : rs} {s k : Nat} (hk : k < p.1 28) (hby : p.2.1 21 k + p.2.1 22 k ≤ p.1 41) : sbt (r_enc p s) k = sbt p k := by
  have hne : k ≠ p.1 28 := by omega
  have a21 : (r_mk p s).2.1 21 = p.2.1 21 := by rw [r_mk, r_ones_a (by decide) (by decide) (by decide) (by decide) (by decide) (by decide) (by decide), r_enc0_a (by decide) (by decide)]
  have a22 : (r_mk p s).2.1 22 = p.2.1 22 := by rw [r_mk, r_ones_a (by decide) (by decide) (by decide) (by decide) (by decide) (by decide) (by decide), r_enc0_a (by decide) (by decide)]
  have a23 : (r_mk p s).2.1 23 = p.2.1 23 := by rw [r_mk, r_ones_a (by decide) (by decide) (by decide) (by decide) (by decide) (by decide) (by decide), r_enc0_a (by decide) (by decide)]
  have e41 : (r_enc2 (r_mk p s) s).1 41 = p.1 41 := r_enc_41 p s
  unfold sbt
  rw [r_enc_21, if_neg hne, r_enc_22, if_neg hne, r_enc_23, a21, a22]
  apply List.map_congr_left
  intro i hi
  have hi' := List.mem_range.mp hi
  have := r_lays_old 3 (r_front (r_mk p s) (p.1 6) ++ wlx (r_mk p s) 44 25) (r_enc2 (r_mk p s) s) (p.2.1 21 k + i) (by show _ < (r_enc2 (r_mk p s) s).1 41; rw [e41]; omega)
  rw [show r_wa 3 = 23 from rfl] at this
  rw [this]
  have e23 : (r_enc2 (r_mk p s) s).2.1 23 = (r_mk p s).2.1 23 := by funext x; simp [r_enc2, r_sa]
  rw [e23, a23]
