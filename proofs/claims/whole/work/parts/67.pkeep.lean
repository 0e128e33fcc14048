/-! what holds is kept: field, encode -/
theorem RW.eq {p q : rs} (t : RW p) (ex : ∀ x, (x = 0 ∨ x = 6 ∨ x = 10 ∨ x = 13 ∨ x = 15 ∨ x = 24 ∨ x = 25 ∨ x = 26) → q.1 x = p.1 x) (a5 : q.2.1 5 = p.2.1 5) (a6 : q.2.1 6 = p.2.1 6) (l3 : q.2.2 3 = p.2.2 3) (l4 : q.2.2 4 = p.2.2 4) : RW q := by
  obtain ⟨t1, t2, t3, t4, t5, t6, t7, t8⟩ := t
  refine ⟨t1.eq (ex 0 (by omega)) (ex 6 (by omega)) (ex 10 (by omega)) (ex 13 (by omega)) a5 a6 l3 l4, ?_, by rw [ex 15 (by omega), ex 13 (by omega)]; exact t3, by rw [ex 24 (by omega), ex 6 (by omega)]; exact t4, by rw [ex 25 (by omega), ex 24 (by omega)]; exact t5, ?_, by rw [ex 26 (by omega), ex 0 (by omega)]; exact t7, ?_⟩
  · unfold MD at *
    rw [ex 25 (by omega), ex 0 (by omega), ex 24 (by omega), l3, l4]
    exact t2
  · rw [ex 26 (by omega), ex 25 (by omega), ex 24 (by omega), t6]
    exact r_sum_eq _ _ (fun i _ _ => by unfold r_sz; rw [l3, l4])
  · unfold r_is at *
    rw [ex 24 (by omega), ex 15 (by omega), a5]
    exact t8
theorem RA.eq {p q : rs} (t : RA p) (ok : rok q) (ex : ∀ x, (x = 0 ∨ x = 2 ∨ x = 6 ∨ x = 10 ∨ x = 11 ∨ x = 13 ∨ x = 28) → q.1 x = p.1 x) (a2 : q.2.1 2 = p.2.1 2) (a20 : q.2.1 20 = p.2.1 20) (l3 : q.2.2 3 = p.2.2 3) (l4 : q.2.2 4 = p.2.2 4) : RA q := by
  obtain ⟨-, h2, h3, h4, h5, h6, h7, h8, h9, h10, h11⟩ := t
  refine ⟨ok, by rw [ex 28 (by omega)]; exact h2, by rw [ex 2 (by omega)]; exact h3, by rw [a2]; exact h4, by rw [a20]; exact h5, by rw [ex 10 (by omega), ex 6 (by omega)]; exact h6, by rw [ex 6 (by omega), ex 28 (by omega)]; exact h7, ?_, by rw [ex 11 (by omega), ex 0 (by omega)]; exact h9, by rw [ex 0 (by omega)]; exact h10, by rw [ex 13 (by omega), ex 6 (by omega)]; exact h11⟩
  rw [ex 11 (by omega), ex 10 (by omega), ex 6 (by omega), h8]
  exact r_sum_eq _ _ (fun i _ _ => by unfold r_sz; rw [l3, l4])
theorem RS.eq {p q : rs} (t : RS p) (ex : ∀ x, (x = 0 ∨ x = 6 ∨ x = 28 ∨ x = 41) → q.1 x = p.1 x) (ea : ∀ j, (j = 11 ∨ j = 12 ∨ j = 15 ∨ j = 18 ∨ j = 19 ∨ j = 20 ∨ j = 21 ∨ j = 22 ∨ j = 23) → q.2.1 j = p.2.1 j) (el : ∀ j, (j = 3 ∨ j = 4 ∨ j = 16 ∨ j = 17) → q.2.2 j = p.2.2 j) : RS q := by
  obtain ⟨t1, t2⟩ := t
  refine ⟨fun k hk => ?_, by rw [ex 41 (by omega), ex 28 (by omega)]; exact t2⟩
  rw [ex 28 (by omega)] at hk
  obtain ⟨x, y, z, w⟩ := t1 k hk
  refine ⟨?_, y.eq (by rw [ea 12 (by omega)]) (by rw [ea 20 (by omega)]) (fun i _ => by rw [ea 19 (by omega)]), by rw [ea 12 (by omega), ex 6 (by omega)]; exact z, by rw [ea 21 (by omega), ea 22 (by omega), ex 41 (by omega)]; exact w⟩
  have es : sbt q k = sbt p k := by unfold sbt; rw [ea 22 (by omega), ea 21 (by omega), ea 23 (by omega)]
  have ec : cdo q k = cdo p k := by unfold cdo; rw [ea 12 (by omega), ex 0 (by omega)]
  have er : isref q k = isref p k := isref_eq (ea 19 (by omega)) (ea 20 (by omega))
  unfold SEC at *
  rw [es, ec, er, ex 0 (by omega), el 3 (by omega), el 4 (by omega), el 16 (by omega), el 17 (by omega), ea 12 (by omega), ea 15 (by omega), ea 18 (by omega), ea 11 (by omega)]
  exact x
theorem RT.eq {p q : rs} (t : RT p) (ex : ∀ x, (x = 16 ∨ x = 18 ∨ x = 19 ∨ x = 23) → q.1 x = p.1 x) (ea : ∀ j, (j = 7 ∨ j = 8 ∨ j = 9 ∨ j = 10) → q.2.1 j = p.2.1 j) : RT q := by
  unfold RT TB wlx r_st at *
  rw [ex 16 (by omega), ex 18 (by omega), ex 19 (by omega), ex 23 (by omega), ea 7 (by omega), ea 8 (by omega), ea 9 (by omega), ea 10 (by omega)]
  exact t
theorem RO.eq {p q : rs} (t : RO p) (ex : ∀ x, (x = 6 ∨ x = 10 ∨ x = 12 ∨ x = 28) → q.1 x = p.1 x) (ea : ∀ j, (j = 13 ∨ j = 19 ∨ j = 20) → q.2.1 j = p.2.1 j) : RO q := by
  unfold RO isref at *
  rw [ex 6 (by omega), ex 10 (by omega), ex 12 (by omega), ex 28 (by omega), ea 13 (by omega), ea 19 (by omega), ea 20 (by omega)]
  exact t
theorem RV.eq {p q : rs} (t : RV p) (ex : ∀ x, (x = 24 ∨ x = 27 ∨ x = 28) → q.1 x = p.1 x) (ea : ∀ j, (j = 11 ∨ j = 12 ∨ j = 13 ∨ j = 14 ∨ j = 24) → q.2.1 j = p.2.1 j) : RV q := by
  unfold RV at *
  rw [ex 24 (by omega), ex 27 (by omega), ex 28 (by omega), ea 11 (by omega), ea 12 (by omega), ea 13 (by omega), ea 14 (by omega), ea 24 (by omega)]
  exact t
theorem TM.eq {p q : rs} (t : TM p) (ex : ∀ x, (x = 12 ∨ x = 19 ∨ x = 23 ∨ x = 27 ∨ x = 28) → q.1 x = p.1 x) (ea : ∀ j, (j = 8 ∨ j = 9 ∨ j = 11 ∨ j = 12 ∨ j = 13 ∨ j = 14 ∨ j = 24) → q.2.1 j = p.2.1 j) : TM q := by
  unfold TM TMx at *
  rw [ex 12 (by omega), ex 19 (by omega), ex 23 (by omega), ex 27 (by omega), ex 28 (by omega), ea 8 (by omega), ea 9 (by omega), ea 11 (by omega), ea 12 (by omega), ea 13 (by omega), ea 14 (by omega), ea 24 (by omega)]
  exact t
theorem OR.eq {p q : rs} (t : OR p) (e28 : q.1 28 = p.1 28) (a11 : q.2.1 11 = p.2.1 11) (a14 : q.2.1 14 = p.2.1 14) : OR q := by
  unfold OR at *
  rw [e28, a11, a14]
  exact t
theorem RQ.eq {p q : rs} (t : RQ p) (e28 : q.1 28 = p.1 28) (a11 : q.2.1 11 = p.2.1 11) (a14 : q.2.1 14 = p.2.1 14) : RQ q := by
  have e : ∀ s w, r_lying q s w = r_lying p s w := fun s w => by rw [← lyl_len, ← lyl_len, lyl_eq e28 (fun k _ => by rw [a11, a14])]
  intro s hs
  rw [e, e]
  exact t s hs
theorem RC.mono {p : rs} {c c' : Nat} (t : RC p c) (h : c ≤ c') : RC p c' := by unfold RC at *; omega
theorem RI.mono {p : rs} {c c' : Nat} (t : RI p c) (h : c ≤ c') : RI p c' := ⟨t.1, t.2.1, t.2.2.1, t.2.2.2.1, t.2.2.2.2.1, t.2.2.2.2.2.1, t.2.2.2.2.2.2.mono h⟩
theorem RI.field {p : rs} {c u v s : Nat} (h : RI p c) (hu : u < 2 ^ 64) (hv : v < 2 ^ 64) (hs : s ≤ 1) (hn : ¬ r_fieldNo p u v) : RI (r_field p u v s) (c + 1) := by
  obtain ⟨ra, rw', rs', rt, ⟨or', ro, rv, tm⟩, rq, rc'⟩ := h
  have h12 : p.1 2 < 12 := by
    have := ra.2.2.1
    rcases Nat.lt_or_ge (p.1 2) 12 with q | q
    · exact q
    · exact absurd (Or.inl (by omega)) hn
  have ea : ∀ j, j ≠ 2 → (r_field p u v s).2.1 j = p.2.1 j := fun j hj => by funext i; simp [r_field, r_si, r_sa, r_sl, hj]
  have el : ∀ j, j ≠ 0 → j ≠ 1 → (r_field p u v s).2.2 j = p.2.2 j := fun j h0 h1 => by funext i; simp [r_field, r_si, r_sa, r_sl, h0, h1]
  have ex : ∀ x, x ≠ 2 → (r_field p u v s).1 x = p.1 x := fun x hx => by simp [r_field, r_si, r_sa, r_sl, hx]
  refine ⟨?_, rw'.eq (fun x hx => ex x (by omega)) (ea 5 (by decide)) (ea 6 (by decide)) (el 3 (by decide) (by decide)) (el 4 (by decide) (by decide)), rs'.eq (fun x hx => ex x (by omega)) (fun j hj => ea j (by omega)) (fun j hj => el j (by omega) (by omega)), rt.eq (fun x hx => ex x (by omega)) (fun j hj => ea j (by omega)), ⟨or'.eq (ex 28 (by decide)) (ea 11 (by decide)) (ea 14 (by decide)), ro.eq (fun x hx => ex x (by omega)) (fun j hj => ea j (by omega)), rv.eq (fun x hx => ex x (by omega)) (fun j hj => ea j (by omega)), tm.eq (fun x hx => ex x (by omega)) (fun j hj => ea j (by omega))⟩, rq.eq (ex 28 (by decide)) (ea 11 (by decide)) (ea 14 (by decide)), ?_⟩
  · obtain ⟨ok, h2, h3, h4, h5, h6, h7, h8, h9, h10, h11⟩ := ra
    have e2 : (r_field p u v s).1 2 = p.1 2 + 1 := by simp [r_field, r_si]
    refine ⟨(((ok.sl hu).sl hv).sa (by omega)).si (by omega), by rw [ex 28 (by decide)]; exact h2, by rw [e2]; omega, fun i hi => ?_, by rw [ea 20 (by decide)]; exact h5, by rw [ex 10 (by decide), ex 6 (by decide)]; exact h6, by rw [ex 6 (by decide), ex 28 (by decide)]; exact h7, ?_, by rw [ex 11 (by decide), ex 0 (by decide)]; exact h9, by rw [ex 0 (by decide)]; exact h10, by rw [ex 13 (by decide), ex 6 (by decide)]; exact h11⟩
    · by_cases e : i = p.1 2
      · subst e; simp [r_field, r_si, r_sa, r_sl]; exact hs
      · have : (r_field p u v s).2.1 2 i = p.2.1 2 i := by simp [r_field, r_si, r_sa, r_sl, e]
        rw [this]; exact h4 i hi
    · rw [ex 11 (by decide), ex 10 (by decide), ex 6 (by decide), h8]
      exact r_sum_eq _ _ (fun i _ _ => by unfold r_sz; rw [el 3 (by decide) (by decide), el 4 (by decide) (by decide)])
  · have wz := wn_eq (p' := r_field p u v s) (ex 28 (by decide)) (ea 14 (by decide))
    unfold RC at *
    rw [wz.1, wz.2, ex 16 (by decide), ex 19 (by decide), ex 28 (by decide)]
    omega
set_option maxHeartbeats 1000000 in
theorem RI.enc {p : rs} {c s : Nat} (h : RI p c) (hs : s < 8) (hn : ¬ r_encNo p s) : RI (r_enc p s) (c + 1) := by
  have hkn := h.known
  have h200 : p.1 28 < 200 := by
    have := h.1.2.1
    rcases Nat.lt_or_ge (p.1 28) 200 with q | q
    · exact q
    · exact absurd (Or.inr (Or.inr (Or.inl (by omega)))) hn
  have h24z : p.2.1 24 s = 0 := by
    by_cases z : p.2.1 24 s = 0
    · exact z
    · exact absurd (Or.inl z) hn
  have hl8 : r_lying p s 0 ≠ 8 := fun z => hn (Or.inr (Or.inl z))
  obtain ⟨mk, J, I, h44, hcap, hle⟩ := h.mk (s := s) h200
  have J0 := h.1.J0 h200
  obtain ⟨ra, rw', rs', rt, ⟨or', ro, rv, tm⟩, rq, rc'⟩ := h
  obtain ⟨⟨-, f2, f3⟩, f4, f5, f6⟩ := FR.mk (s := s) J0 hkn.2.2.2 ra.2.2.1
  have ex := @r_enc_x p s
  have ex' : ∀ x, x ≠ 2 → x ≠ 28 → x ≠ 41 → x ≠ 6 → x ≠ 10 → x ≠ 11 → x ≠ 13 → x ≠ 44 → (r_enc p s).1 x = p.1 x := fun x a b c d e f g i => ex a b c d e f g i
  have em : ∀ x, x ≠ 2 → x ≠ 28 → x ≠ 41 → (r_enc p s).1 x = (r_mk p s).1 x := fun x a b c => r_enc_1 a b c
  have ea : ∀ j, (j = 2 ∨ j = 7 ∨ j = 8 ∨ j = 9 ∨ j = 10 ∨ j = 24) → (r_enc p s).2.1 j = p.2.1 j := fun j hj => r_enc_b (by omega) (by omega) (by omega) (by omega) (by omega) (by omega) (by omega) (by omega) (by omega) (by omega) (by omega) (by omega) (by omega) (by omega)
  have eam : ∀ j, j ≠ 11 → j ≠ 13 → j ≠ 14 → j ≠ 15 → j ≠ 21 → j ≠ 22 → j ≠ 23 → (r_enc p s).2.1 j = (r_mk p s).2.1 j := fun j a b c d e f g => r_enc_a a b c d e f g
  have el := @r_enc_l p s
  have elo : ∀ j, j < p.1 6 → (r_enc p s).2.2 3 j = p.2.2 3 j ∧ (r_enc p s).2.2 4 j = p.2.2 4 j := fun j hj => by rw [el]; exact ⟨(f4 j hj).1, (f4 j hj).2.1⟩
  have m0 : (r_enc p s).1 0 = p.1 0 := ex' 0 (by decide) (by decide) (by decide) (by decide) (by decide) (by decide) (by decide) (by decide)
  have a13 : ∀ k, k ≠ p.1 28 → (r_enc p s).2.1 13 k = p.2.1 13 k := fun k hk => by rw [r_enc_13, if_neg hk, r_mk_a (by decide) (by decide) (by decide) (by decide) (by decide) (by decide) (by decide)]
  have a13' : (r_enc p s).2.1 13 (p.1 28) = b2n (decide (0 < (r_mk p s).2.1 12 (p.1 28))) := by rw [r_enc_13, if_pos rfl]
  have a12 : ∀ k, k ≠ p.1 28 → (r_enc p s).2.1 12 k = p.2.1 12 k := fun k hk => by rw [eam 12 (by decide) (by decide) (by decide) (by decide) (by decide) (by decide) (by decide)]; exact (f6 k hk).1
  have a12' : (r_enc p s).2.1 12 (p.1 28) = (r_mk p s).2.1 12 (p.1 28) := by rw [eam 12 (by decide) (by decide) (by decide) (by decide) (by decide) (by decide) (by decide)]
  have a20 : ∀ k, k ≠ p.1 28 → (r_enc p s).2.1 20 k = p.2.1 20 k := fun k hk => by rw [eam 20 (by decide) (by decide) (by decide) (by decide) (by decide) (by decide) (by decide)]; exact (f6 k hk).2.1
  have a19 : ∀ k f, k ≠ p.1 28 → f < 12 → (r_enc p s).2.1 19 (12 * k + f) = p.2.1 19 (12 * k + f) := fun k f hk hf => by rw [eam 19 (by decide) (by decide) (by decide) (by decide) (by decide) (by decide) (by decide)]; exact ((f6 k hk).2.2 f hf).1
  have irf : ∀ k, k < p.1 28 → ∀ j, isref (r_enc p s) k j ↔ isref p k j := fun k hk j => by
    have hne : k ≠ p.1 28 := by omega
    have hc := ra.2.2.2.2.1 k (by omega)
    unfold isref
    rw [a20 k hne]
    constructor
    · rintro ⟨i, h1, h2⟩; exact ⟨i, h1, by rw [← a19 k i hne (by omega)]; exact h2⟩
    · rintro ⟨i, h1, h2⟩; exact ⟨i, h1, by rw [a19 k i hne (by omega)]; exact h2⟩
  have irn : isref (r_enc p s) (p.1 28) = isref (r_mk p s) (p.1 28) := isref_eq (eam 19 (by decide) (by decide) (by decide) (by decide) (by decide) (by decide) (by decide)) (eam 20 (by decide) (by decide) (by decide) (by decide) (by decide) (by decide) (by decide))
  have hLen : (r_front (r_mk p s) (p.1 6) ++ wlx (r_mk p s) 44 25).length ≤ 240 := by
    have := r_front_len (r_mk p s) (p.1 6)
    rw [List.length_append, wlx_len]
    omega
  have hL256 : ∀ x ∈ r_front (r_mk p s) (p.1 6) ++ wlx (r_mk p s) 44 25, x < 256 := by
    obtain ⟨ls, -, l2, -⟩ := mk.2.2.2
    have hJ6 := J.2.2.2.2.2.1
    have hJ0 := J.2.2.2.2.2.2.2.2.1
    rw [r_mk_28] at hJ6
    refine app_256 ?_ l2
    unfold r_front
    rw [r_mk_28]
    refine app_256 (nb_256 (by decide) ?_) ?_
    · split
      · decide
      · have h1 : (r_mk p s).2.1 12 (p.1 28) % (2 * ((r_mk p s).1 0 / 32)) ≤ (r_mk p s).2.1 12 (p.1 28) := Nat.mod_le _ _
        have := ra.2.2.1
        omega
    · have := ra.2.2.1
      split
      · exact nb_256 (by decide) (by omega)
      · exact nb_256 (by decide) (by omega)
  refine ⟨?_, ?_, ?_, ?_, ⟨?_, ?_, ?_, ?_⟩, ?_, ?_⟩
  · -- sizes
    obtain ⟨ok, j2, j3, j4, j5, j6, j7, j8, j9, j10, j11⟩ := J
    rw [r_mk_28] at j2 j6
    have h2 := ra.2.2.1
    have rk : rok (r_enc p s) := by
      unfold r_enc r_enc3
      have o2 : rok (r_enc2 (r_mk p s) s) := by
        unfold r_enc2
        refine ((((ok.sa (by omega)).sa (by decide)).sa (ok.1 2)).sa ?_).sa (ok.1 41)
        cases decide (0 < (r_mk p s).2.1 12 ((r_mk p s).1 28)) <;> decide
      have e41 : (r_enc2 (r_mk p s) s).1 41 = p.1 41 := r_enc_41 p s
      have h41 := rs'.2
      have ol : rok (r_lays (r_enc2 (r_mk p s) s) 3 (r_front (r_mk p s) (p.1 6) ++ r_lines (r_mk p s) ((r_mk p s).1 44))) := by
        refine rok.lays _ _ o2 (fun b hb => ?_) ?_
        · have := hL256 b hb; omega
        · show (r_enc2 (r_mk p s) s).1 41 + _ < _
          rw [e41]
          have : (r_front (r_mk p s) (p.1 6) ++ r_lines (r_mk p s) ((r_mk p s).1 44)).length ≤ 240 := hLen
          omega
      have q41 := ol.1 41
      have q28 : (r_lays (r_enc2 (r_mk p s) s) 3 (r_front (r_mk p s) (p.1 6) ++ r_lines (r_mk p s) ((r_mk p s).1 44))).1 28 = p.1 28 := by
        rw [r_lays_k (show 28 ≠ r_wc 3 by decide)]; exact r_mk_28 p s
      exact ((ol.sa (by omega)).si (by rw [q28]; omega)).si (by decide)
    refine ⟨rk, by rw [r_enc_28]; omega, by rw [r_enc_2]; omega, by rw [ea 2 (by omega)]; exact ra.2.2.2.1, by rw [eam 20 (by decide) (by decide) (by decide) (by decide) (by decide) (by decide) (by decide)]; exact j3, by rw [em 10 (by decide) (by decide) (by decide), em 6 (by decide) (by decide) (by decide)]; exact j5, by rw [em 6 (by decide) (by decide) (by decide), r_enc_28]; omega, ?_, by rw [em 11 (by decide) (by decide) (by decide), em 0 (by decide) (by decide) (by decide)]; exact j8, by rw [em 0 (by decide) (by decide) (by decide)]; exact j9, by rw [em 13 (by decide) (by decide) (by decide), em 6 (by decide) (by decide) (by decide)]; exact j10⟩
    rw [em 11 (by decide) (by decide) (by decide), em 10 (by decide) (by decide) (by decide), em 6 (by decide) (by decide) (by decide), j7]
    exact (r_sum_l el _ _).symm
  · -- the encoder's wire
    obtain ⟨t1, t2, t3, t4, t5, t6, t7, t8⟩ := rw'
    have e24 := ex' 24 (by decide) (by decide) (by decide) (by decide) (by decide) (by decide) (by decide) (by decide)
    have e25 := ex' 25 (by decide) (by decide) (by decide) (by decide) (by decide) (by decide) (by decide) (by decide)
    have e26 := ex' 26 (by decide) (by decide) (by decide) (by decide) (by decide) (by decide) (by decide) (by decide)
    have e15 := ex' 15 (by decide) (by decide) (by decide) (by decide) (by decide) (by decide) (by decide) (by decide)
    have e13 : (r_enc p s).1 13 = (r_mk p s).1 13 := em 13 (by decide) (by decide) (by decide)
    have e6 : (r_enc p s).1 6 = (r_mk p s).1 6 := em 6 (by decide) (by decide) (by decide)
    refine ⟨mk.2.1.eq (em 0 (by decide) (by decide) (by decide)) e6 (em 10 (by decide) (by decide) (by decide)) e13 (eam 5 (by decide) (by decide) (by decide) (by decide) (by decide) (by decide) (by decide)) (eam 6 (by decide) (by decide) (by decide) (by decide) (by decide) (by decide) (by decide)) (by rw [el]) (by rw [el]), fun i hi => ?_, by rw [e15, e13]; omega, by rw [e24, e6]; omega, by rw [e25, e24]; exact t5, ?_, by rw [e26, m0]; exact t7, ?_⟩
    · rw [e25] at hi
      rw [m0, e24, tsum_congr (p.1 24 - i) i (fun j h1 h2 => elo j (by omega))]
      exact t2 i hi
    · rw [e26, e25, e24, t6]
      refine (r_sum_eq _ _ (fun i h1 h2 => ?_)).symm
      unfold r_sz
      rw [(elo i (by omega)).1, (elo i (by omega)).2]
    · have : r_is (r_enc p s) ((r_enc p s).1 24) = r_is p (p.1 24) := by
        rw [e24]
        unfold r_is
        split
        · rfl
        · rw [eam 5 (by decide) (by decide) (by decide) (by decide) (by decide) (by decide) (by decide)]
          exact (f4 _ (by omega)).2.2
      rw [this, e15]
      exact t8
  · -- the sections
    have h41 := rs'.2
    refine ⟨fun k hk => ?_, by rw [r_enc_1_41, r_enc_28]; omega⟩
    rw [r_enc_28] at hk
    by_cases e : k = p.1 28
    · subst e
      have e15 : (r_enc p s).2.1 15 (p.1 28) = p.1 2 := by rw [r_enc_15, if_pos rfl]
      have e11 : (r_enc p s).2.1 11 (p.1 28) = s := by rw [r_enc_11', if_pos rfl]
      have hJ6 := J.2.2.2.2.2.1
      rw [r_mk_28] at hJ6
      have h2 := ra.2.2.1
      refine ⟨⟨?_, ?_, by rw [e15]; exact h2, by rw [e11]; exact hs, by rw [a12']; omega, fun hne => by rw [m0]; exact hcap (by rw [← a12']; exact hne)⟩, mk.2.2.1.eq a12' (by rw [eam 20 (by decide) (by decide) (by decide) (by decide) (by decide) (by decide) (by decide)]) (fun i _ => by rw [eam 19 (by decide) (by decide) (by decide) (by decide) (by decide) (by decide) (by decide)]), by rw [a12', em 6 (by decide) (by decide) (by decide)]; exact hle, ?_⟩
      · obtain ⟨ls, l1, l2, l3⟩ := mk.2.2.2
        refine ⟨p.1 6, ls, by omega, ?_, fun f hf => ?_⟩
        · rw [sbt_enc, l1, List.append_nil, e15]
          unfold r_front cdo bsb
          rw [a12', m0, r_mk_28, show (r_mk p s).1 0 = p.1 0 by rw [← em 0 (by decide) (by decide) (by decide)]; exact m0, List.append_assoc]
        · rw [e15] at hf
          rw [irn, el, eam 18 (by decide) (by decide) (by decide) (by decide) (by decide) (by decide) (by decide)]
          exact l3 f hf
      · rw [sbt_enc]; exact hL256
      · rw [r_enc_21, if_pos rfl, r_enc_22, if_pos rfl, r_enc_1_41]; exact Nat.le_refl _
    · have hk' : k < p.1 28 := by omega
      obtain ⟨⟨⟨base, ls, s1, s2, s3⟩, s4, s5, s6, s7, s8⟩, nr, n6, by'⟩ := rs'.1 k hk'
      have es := sbt_old (s := s) hk' by'
      have ec : cdo (r_enc p s) k = cdo p k := by unfold cdo; rw [a12 k e, m0]
      have e15 : (r_enc p s).2.1 15 k = p.2.1 15 k := by rw [r_enc_15, if_neg e]
      have e11 : (r_enc p s).2.1 11 k = p.2.1 11 k := by rw [r_enc_11', if_neg e]
      refine ⟨⟨⟨base, ls, s1, by rw [es, ec, a12 k e, e15]; exact s2, fun f hf => ?_⟩, by rw [es]; exact s4, by rw [e15]; exact s5, by rw [e11]; exact s6, by rw [a12 k e]; exact s7, by rw [a12 k e, m0]; exact s8⟩, ⟨fun j hj => ?_, fun hne => ?_⟩, by rw [a12 k e, em 6 (by decide) (by decide) (by decide)]; omega, ?_⟩
      · rw [e15] at hf
        have g := (f6 k e).2.2 f (by omega)
        rw [el, eam 18 (by decide) (by decide) (by decide) (by decide) (by decide) (by decide) (by decide), g.2.1, g.2.2.1, g.2.2.2]
        obtain ⟨y1, y2⟩ := s3 f hf
        refine ⟨y1.mono (fun j hj => ?_), y2⟩
        have hj6 := nr.1 j hj
        exact ⟨(irf k hk' j).mpr hj, (f4 j (by omega)).1, (f4 j (by omega)).2.1⟩
      · rw [a12 k e]; exact nr.1 j ((irf k hk' j).mp hj)
      · rw [a12 k e] at hne ⊢
        obtain ⟨j, j1, j2⟩ := nr.2 hne
        exact ⟨j, (irf k hk' j).mpr j1, j2⟩
      · rw [r_enc_21, if_neg e, r_enc_22, if_neg e, r_mk_a (by decide) (by decide) (by decide) (by decide) (by decide) (by decide) (by decide), r_mk_a (by decide) (by decide) (by decide) (by decide) (by decide) (by decide) (by decide), r_enc_1_41]
        omega
  · exact rt.eq (fun x hx => ex' x (by omega) (by omega) (by omega) (by omega) (by omega) (by omega) (by omega) (by omega)) (fun j hj => ea j (by omega))
  · -- order
    intro i j hij hj hst hi
    rw [r_enc_28] at hj
    have hi' : i ≠ p.1 28 := by omega
    rw [r_enc_14, if_neg hi'] at hi
    have e14i : (r_enc p s).2.1 14 i = p.2.1 14 i := by rw [r_enc_14, if_neg hi']
    rw [e14i, r_enc_14]
    split
    · omega
    · rename_i hj'
      rw [r_enc_11', r_enc_11', if_neg hi', if_neg hj'] at hst
      exact or' i j hij (by omega) hst hi
  · -- references
    refine ⟨by rw [em 10 (by decide) (by decide) (by decide), em 12 (by decide) (by decide) (by decide)]; exact I.1.1, fun k hk ho j hj => ?_⟩
    rw [em 10 (by decide) (by decide) (by decide), em 6 (by decide) (by decide) (by decide)]
    rw [r_enc_28] at hk
    have hj' : isref (r_mk p s) k j := by
      rw [← isref_eq (eam 19 (by decide) (by decide) (by decide) (by decide) (by decide) (by decide) (by decide)) (eam 20 (by decide) (by decide) (by decide) (by decide) (by decide) (by decide) (by decide))]; exact hj
    obtain ⟨i, i1, i2⟩ := hj'
    rw [← i2]
    refine I.2 k ?_ i i1
    by_cases e : k = p.1 28
    · exact Or.inl (by rw [e, r_mk_28])
    · refine Or.inr ⟨by rw [r_mk_28]; omega, ?_⟩
      rw [r_enc_13, if_neg e] at ho
      exact ho
  · -- states
    obtain ⟨v1, v2, v3, v4⟩ := rv
    have e27 := ex' 27 (by decide) (by decide) (by decide) (by decide) (by decide) (by decide) (by decide) (by decide)
    have e24 := ex' 24 (by decide) (by decide) (by decide) (by decide) (by decide) (by decide) (by decide) (by decide)
    refine ⟨fun k hk h1 h2 => ?_, fun k hk => ?_, fun k hk h1 => ?_, by rw [e27, e24]; exact v4⟩
    · rw [r_enc_28] at hk
      by_cases e : k = p.1 28
      · subst e
        rw [a12'] at h2
        rw [a13', decide_eq_true (by omega)]
        decide
      · rw [a13 k e]
        rw [r_enc_14, if_neg e] at h1
        rw [a12 k e] at h2
        exact v1 k (by omega) h1 h2
    · rw [r_enc_28] at hk
      rw [ea 24 (by omega), r_enc_14, r_enc_11']
      by_cases e : k = p.1 28
      · rw [if_pos e, if_pos e]
        exact ⟨Or.inl (by omega), fun z => absurd h24z z⟩
      · rw [if_neg e, if_neg e]
        exact v2 k (by omega)
    · rw [r_enc_28] at hk
      rw [r_enc_14] at h1
      split at h1
      · omega
      · rename_i e
        rw [a12 k e, e27]
        exact v3 k (by omega) h1
  · -- what goes back
    obtain ⟨kk, t, t1, t2, t3, t4⟩ := tm
    have e12 := ex' 12 (by decide) (by decide) (by decide) (by decide) (by decide) (by decide) (by decide) (by decide)
    have e23 := ex' 23 (by decide) (by decide) (by decide) (by decide) (by decide) (by decide) (by decide) (by decide)
    have e19 := ex' 19 (by decide) (by decide) (by decide) (by decide) (by decide) (by decide) (by decide) (by decide)
    have e27 := ex' 27 (by decide) (by decide) (by decide) (by decide) (by decide) (by decide) (by decide) (by decide)
    refine ⟨kk, t, by rw [e12, e23]; exact t1, by rw [e19, e27]; exact t2, fun i h1 h2 => ?_, fun i i' h1 h2 h3 => ?_⟩
    · rw [e23] at h1
      rw [e19] at h2
      obtain ⟨x1, x2, x3, x4⟩ := t3 i h1 h2
      rw [ea 8 (by omega), ea 9 (by omega), ea 24 (by omega), r_enc_28]
      refine ⟨x1, fun h8 => ?_, x3, x4⟩
      obtain ⟨y1, y2, y3, y4, y5⟩ := x2 h8
      have hne : kk i ≠ p.1 28 := by omega
      rw [r_enc_11', if_neg hne, a13 _ hne, r_enc_14, if_neg hne]
      refine ⟨by omega, y2, y3, y4, fun k hk z1 z2 => ?_⟩
      have hne' : k ≠ p.1 28 := by omega
      rw [r_enc_11', if_neg hne'] at z1
      rw [a13 _ hne'] at z2
      rw [r_enc_14, if_neg hne', a12 k hne']
      exact y5 k hk z1 z2
    · rw [e23] at h1
      rw [e19] at h3
      rw [ea 8 (by omega), ea 9 (by omega)]
      exact t4 i i' h1 h2 h3
  · -- lines of eight
    intro s' hs'
    have e : ∀ w, r_lying (r_enc p s) s' w = r_lying p s' w + (if s' = s ∧ w = 0 then 1 else 0) := fun w => by
      rw [← lyl_len, ← lyl_len, lyl_enc, List.length_append]
      congr 1
      split <;> rfl
    rw [e, e]
    have := rq s' hs'
    by_cases z : s' = s
    · subst z
      rw [if_pos ⟨rfl, rfl⟩, if_neg (by omega)]
      omega
    · rw [if_neg (fun y => z y.1), if_neg (fun y => z y.1)]
      omega
  · -- how much goes back
    have hzn : r_zn (r_enc p s) = r_zn p + 1 := by
      unfold r_zn
      rw [r_enc_28, cnt_s, r_enc_14, if_pos rfl]
      congr 1
      congr 1
      apply List.filter_congr
      intro k hk
      have : k ≠ p.1 28 := by have := List.mem_range.mp hk; omega
      rw [r_enc_14, if_neg this]
    have hwn : r_wn (r_enc p s) = r_wn p := by
      unfold r_wn
      rw [r_enc_28, cnt_s, r_enc_14, if_pos rfl]
      show _ + 0 = _
      rw [Nat.add_zero]
      congr 1
      apply List.filter_congr
      intro k hk
      have : k ≠ p.1 28 := by have := List.mem_range.mp hk; omega
      rw [r_enc_14, if_neg this]
    unfold RC at *
    rw [hzn, hwn, r_enc_28, ex' 16 (by decide) (by decide) (by decide) (by decide) (by decide) (by decide) (by decide) (by decide), ex' 19 (by decide) (by decide) (by decide) (by decide) (by decide) (by decide) (by decide) (by decide)]
    omega
