/-! Encoder, while a section is made -/
def eO (p : rs) (base : Nat) (rk : Bool) (tb op ln : Nat) : fp_E := .inr (3, [.ref tb, .int (nI (p.1 1)), .ref op, .int (nI (p.1 12)), .ref ln, .int (nI base), .int (nI (p.2.1 12 (p.1 28))), .int (nI (lea p (p.1 28))), .int (nI (b2n rk))])
def oO (p : rs) (k : Nat) : fp_E := .inr (6, [.int (nI (p.2.1 11 k)), .int (nI (p.2.1 12 k)), .int (nI (lea p k))])
def EM (G : fp_G) (h : fp_H) (en tb op ln wr cO : Nat) (oa : Nat → Nat) (p : rs) (base : Nat) (rk : Bool) (cW cL : Nat) : Prop := h.1 en = some (3, eO p base rk tb op ln) ∧ tbl h 15 tb (p.1 0) (p.2.2 3) (p.2.2 4) (p.1 10) (p.1 6) (p.1 11) ∧ byt h 10 wr (wlx p 13 6) cW ∧ byt h 14 ln (wlx p 44 25) cL ∧ lst G h 17 op ((opn p).map oa) cO ∧ (∀ k ∈ opn p, h.1 (oa k) = some (9, oO p k)) ∧ fp_wf h
def eS : Nat → Prop := fun t => t = 3 ∨ t = 10 ∨ t = 14 ∨ t = 15
def eQ (h h' : fp_H) (p' : rs) (cW cL cW' cL' : Nat) : Prop := cW ≤ cW' ∧ cL ≤ cL' ∧ cW' ≤ max cW (2 * p'.1 13 + 8) ∧ cL' ≤ max cL (2 * p'.1 44 + 8) ∧ cf eS h h' ∧ h'.2.2 + 2 * cW + 2 * cL ≤ h.2.2 + 2 * cW' + 2 * cL'
def eP (G : fp_G) (h : fp_H) (en tb op ln wr cO : Nat) (oa : Nat → Nat) (p' : rs) (base : Nat) (rk : Bool) (cW cL : Nat) : Option Value → fp_H → Prop := fun r h' => r = none ∧ ∃ cW' cL', EM G h' en tb op ln wr cO oa p' base rk cW' cL' ∧ eQ h h' p' cW cL cW' cL'
theorem eQ.step {G : fp_G} {h h1 h' : fp_H} {en tb op ln wr cO : Nat} {oa : Nat → Nat} {p1 p' : rs} {base : Nat} {rk : Bool} {cW cL cW1 cL1 : Nat} {r : Option Value} (a : eQ h h1 p1 cW cL cW1 cL1) (h13 : p1.1 13 ≤ p'.1 13) (h44 : p1.1 44 ≤ p'.1 44) (k : eP G h1 en tb op ln wr cO oa p' base rk cW1 cL1 r h') : eP G h en tb op ln wr cO oa p' base rk cW cL r h' := by
  obtain ⟨a1, a2, a3, a4, a5, a6⟩ := a
  obtain ⟨b0, cW2, cL2, m2, b1, b2, b3, b4, b5, b6⟩ := k
  exact ⟨b0, cW2, cL2, m2, by omega, by omega, by omega, by omega, a5.trans b5, by omega⟩
/-- all but lines and instructions -/
def eEq (p p' : rs) : Prop := p'.1 0 = p.1 0 ∧ p'.1 1 = p.1 1 ∧ p'.1 6 = p.1 6 ∧ p'.1 10 = p.1 10 ∧ p'.1 11 = p.1 11 ∧ p'.1 12 = p.1 12 ∧ p'.1 28 = p.1 28 ∧ p'.2.1 11 = p.2.1 11 ∧ p'.2.1 12 = p.2.1 12 ∧ p'.2.1 13 = p.2.1 13 ∧ p'.2.1 19 = p.2.1 19 ∧ p'.2.1 20 = p.2.1 20 ∧ p'.2.2 3 = p.2.2 3 ∧ p'.2.2 4 = p.2.2 4
theorem eEq.hO {p p' : rs} (e : eEq p p') {base : Nat} {rk : Bool} {tb op ln : Nat} : eO p' base rk tb op ln = eO p base rk tb op ln := by
  obtain ⟨e0, e1, e6, e10, e11, e12, e28, a11, a12, a13, a19, a20, l3, l4⟩ := e
  simp only [eO, lea, e1, e12, e28, a12, a19, a20]
theorem eEq.hOo {p p' : rs} (e : eEq p p') (k : Nat) : oO p' k = oO p k := by
  obtain ⟨e0, e1, e6, e10, e11, e12, e28, a11, a12, a13, a19, a20, l3, l4⟩ := e
  simp only [oO, lea, a11, a12, a19, a20]
theorem eEq.hop {p p' : rs} (e : eEq p p') : opn p' = opn p := by
  obtain ⟨e0, e1, e6, e10, e11, e12, e28, a11, a12, a13, a19, a20, l3, l4⟩ := e
  simp only [opn, e28, a13]
theorem EM.eq {G : fp_G} {h : fp_H} {en tb op ln wr cO : Nat} {oa : Nat → Nat} {p p' : rs} {base : Nat} {rk : Bool} {cW cL : Nat} (m : EM G h en tb op ln wr cO oa p base rk cW cL) (e : eEq p p') (e1 : wlx p' 13 6 = wlx p 13 6) (e2 : wlx p' 44 25 = wlx p 44 25) : EM G h en tb op ln wr cO oa p' base rk cW cL := by
  obtain ⟨m1, m2, m3, m4, m5, m6, m7⟩ := m
  refine ⟨by rw [e.hO]; exact m1, ?_, by rw [e1]; exact m3, by rw [e2]; exact m4, by rw [e.hop]; exact m5, fun k hk => by rw [e.hOo]; rw [e.hop] at hk; exact m6 k hk, m7⟩
  obtain ⟨e0, e1, e6, e10, e11, e12, e28, a11, a12, a13, a19, a20, l3, l4⟩ := e
  rw [e0, e6, e10, e11, l3, l4]
  exact m2
theorem eEq.lays2 (p : rs) (l : List Nat) : eEq p (r_lays p 2 l) := by
  have k : ∀ x, x ≠ 44 → (r_lays p 2 l).1 x = p.1 x := fun x hx => r_lays_k (show x ≠ r_wc 2 from hx) _ _
  have ka : ∀ j, j ≠ 25 → (r_lays p 2 l).2.1 j = p.2.1 j := fun j hj => r_lays_a (show j ≠ r_wa 2 from hj) _ _
  exact ⟨k 0 (by decide), k 1 (by decide), k 6 (by decide), k 10 (by decide), k 11 (by decide), k 12 (by decide), k 28 (by decide), ka 11 (by decide), ka 12 (by decide), ka 13 (by decide), ka 19 (by decide), ka 20 (by decide), by rw [r_lays_l], by rw [r_lays_l]⟩
theorem wlx0_lays2 (p : rs) (l : List Nat) : wlx (r_lays p 2 l) 13 6 = wlx p 13 6 := by
  unfold wlx
  rw [r_lays_k (show 13 ≠ r_wc 2 by decide), r_lays_a (show 6 ≠ r_wa 2 by decide)]
theorem EM.lines {G : fp_G} {h h' : fp_H} {en tb op ln wr cO : Nat} {oa : Nat → Nat} {p : rs} {base : Nat} {rk : Bool} {cW cL : Nat} {l : List Nat} {r : Option Value} (m : EM G h en tb op ln wr cO oa p base rk cW cL) (b : bP h 14 ln (wlx p 44 25 ++ l) cL r h') : eP G h en tb op ln wr cO oa (r_lays p 2 l) base rk cW cL r h' := by
  obtain ⟨m1, m2, m3, m4, m5, m6, m7⟩ := m
  obtain ⟨b0, cL', b1, b2, b3, b4, b5⟩ := b
  have e := eEq.lays2 p l
  refine ⟨b0, cW, cL', ⟨by rw [e.hO]; exact b4.at m1 (by decide), ?_, by rw [wlx0_lays2]; exact m3.kept b4 (by decide), by rw [show wlx (r_lays p 2 l) 44 25 = wlx p 44 25 ++ l from wlx_lays 2 l p]; exact b1, by rw [e.hop]; exact m5.kept b4 (by decide), fun k hk => by rw [e.hOo]; rw [e.hop] at hk; exact b4.at (m6 k hk) (by decide), b4.wf m7⟩, Nat.le_refl _, b2, Nat.le_max_left _ _, ?_, b4.mono (fun t ht => Or.inr (Or.inr (Or.inl ht))), by omega⟩
  · have m2' := m2.kept b4 (by decide)
    obtain ⟨e0, e1, e6, e10, e11, e12, e28, a11, a12, a13, a19, a20, l3, l4⟩ := e
    rw [e0, e6, e10, e11, l3, l4]
    exact m2'
  · rw [r_lays_44]
    rw [List.length_append, wlx_len] at b3
    exact b3
theorem lea_ref {p : rs} {j k : Nat} (hk : k ≠ p.1 28) (h12 : p.2.1 20 k ≤ 12) (hr : p.2.1 20 (p.1 28) < 12) : lea (r_ref p j) k = lea p k := by
  have e20 : (r_ref p j).2.1 20 k = p.2.1 20 k := by simp [r_ref, r_sa, hk]
  unfold lea
  rw [e20]
  refine leaTo_congr _ (fun i hi => ?_)
  have : 12 * k + i ≠ 12 * p.1 28 + p.2.1 20 (p.1 28) := by omega
  simp [r_ref, r_sa, this]
theorem lea_ref_self {p : rs} {j : Nat} : lea (r_ref p j) (p.1 28) = min (lea p (p.1 28)) j := by
  have e20 : (r_ref p j).2.1 20 (p.1 28) = p.2.1 20 (p.1 28) + 1 := by simp [r_ref, r_sa]
  unfold lea
  rw [e20, leaTo]
  congr 1
  · refine leaTo_congr _ (fun i hi => ?_)
    have : i ≠ p.2.1 20 (p.1 28) := by omega
    simp [r_ref, r_sa, this]
  · simp [r_ref, r_sa]
theorem r_ref_lay (p : rs) (j v : Nat) : r_ref (r_lay p 2 v) j = r_lay (r_ref p j) 2 v := by
  refine Prod.ext ?_ (Prod.ext ?_ rfl)
  · rfl
  · funext x y
    simp only [r_ref, r_lay, r_sa, r_si, r_wa, r_wc]
    by_cases e1 : x = 25
    · subst e1; simp
    · by_cases e2 : x = 12
      · subst e2; simp
      · by_cases e3 : x = 19
        · subst e3; simp
        · by_cases e4 : x = 20
          · subst e4; simp
          · simp [e1, e2, e3, e4]
theorem r_ref_lays (j : Nat) : ∀ (l : List Nat) (p : rs), r_ref (r_lays p 2 l) j = r_lays (r_ref p j) 2 l := by
  intro l
  induction l with
  | nil => intro p; rfl
  | cons b l ih => intro p; rw [r_lays_cons, ih, r_ref_lay]; rfl
theorem lea_lt (p : rs) (k : Nat) : lea p k < 2 ^ 31 := leaTo_lt _ _ _
theorem dX2_noteReference_0 : decode cX2_noteReference 0 = .ok (.aload_n 0, 1) := by decide +kernel
theorem dX2_noteReference_1 : decode cX2_noteReference 1 = .ok (.aload_n 0, 1) := by decide +kernel
theorem dX2_noteReference_2 : decode cX2_noteReference 2 = .ok (.getfield 47, 3) := by decide +kernel
theorem dX2_noteReference_5 : decode cX2_noteReference 5 = .ok (.iload_n 1, 1) := by decide +kernel
theorem dX2_noteReference_6 : decode cX2_noteReference 6 = .ok (.iconst 1, 1) := by decide +kernel
theorem dX2_noteReference_7 : decode cX2_noteReference 7 = .ok (.iadd, 1) := by decide +kernel
theorem dX2_noteReference_8 : decode cX2_noteReference 8 = .ok (.invokestatic 154, 3) := by decide +kernel
theorem dX2_noteReference_11 : decode cX2_noteReference 11 = .ok (.putfield 47, 3) := by decide +kernel
theorem dX2_noteReference_14 : decode cX2_noteReference 14 = .ok (.aload_n 0, 1) := by decide +kernel
theorem dX2_noteReference_15 : decode cX2_noteReference 15 = .ok (.aload_n 0, 1) := by decide +kernel
theorem dX2_noteReference_16 : decode cX2_noteReference 16 = .ok (.getfield 51, 3) := by decide +kernel
theorem dX2_noteReference_19 : decode cX2_noteReference 19 = .ok (.iload_n 1, 1) := by decide +kernel
theorem dX2_noteReference_20 : decode cX2_noteReference 20 = .ok (.invokestatic 160, 3) := by decide +kernel
theorem dX2_noteReference_23 : decode cX2_noteReference 23 = .ok (.putfield 51, 3) := by decide +kernel
theorem dX2_noteReference_26 : decode cX2_noteReference 26 = .ok (.return_, 1) := by decide +kernel
theorem dX2_mayReferTo_0 : decode cX2_mayReferTo 0 = .ok (.iload_n 1, 1) := by decide +kernel
theorem dX2_mayReferTo_1 : decode cX2_mayReferTo 1 = .ok (.aload_n 0, 1) := by decide +kernel
theorem dX2_mayReferTo_2 : decode cX2_mayReferTo 2 = .ok (.getfield 163, 3) := by decide +kernel
theorem dX2_mayReferTo_5 : decode cX2_mayReferTo 5 = .ok (.if_icmp .lt 10, 3) := by decide +kernel
theorem dX2_mayReferTo_8 : decode cX2_mayReferTo 8 = .ok (.aload_n 0, 1) := by decide +kernel
theorem dX2_mayReferTo_9 : decode cX2_mayReferTo 9 = .ok (.getfield 62, 3) := by decide +kernel
theorem dX2_mayReferTo_12 : decode cX2_mayReferTo 12 = .ok (.ifCond .eq 7, 3) := by decide +kernel
theorem dX2_mayReferTo_15 : decode cX2_mayReferTo 15 = .ok (.iconst 1, 1) := by decide +kernel
theorem dX2_mayReferTo_16 : decode cX2_mayReferTo 16 = .ok (.goto 4, 3) := by decide +kernel
theorem dX2_mayReferTo_19 : decode cX2_mayReferTo 19 = .ok (.iconst 0, 1) := by decide +kernel
theorem dX2_mayReferTo_20 : decode cX2_mayReferTo 20 = .ok (.ireturn, 1) := by decide +kernel
theorem dX2_putEntry_0 : decode cX2_putEntry 0 = .ok (.iload_n 1, 1) := by decide +kernel
theorem dX2_putEntry_1 : decode cX2_putEntry 1 = .ok (.aload_n 0, 1) := by decide +kernel
theorem dX2_putEntry_2 : decode cX2_putEntry 2 = .ok (.getfield 44, 3) := by decide +kernel
theorem dX2_putEntry_5 : decode cX2_putEntry 5 = .ok (.if_icmp .ge 26, 3) := by decide +kernel
theorem dX2_putEntry_8 : decode cX2_putEntry 8 = .ok (.aload_n 0, 1) := by decide +kernel
theorem dX2_putEntry_9 : decode cX2_putEntry 9 = .ok (.getfield 34, 3) := by decide +kernel
theorem dX2_putEntry_12 : decode cX2_putEntry 12 = .ok (.sipush 128, 3) := by decide +kernel
theorem dX2_putEntry_15 : decode cX2_putEntry 15 = .ok (.bipush 6, 2) := by decide +kernel
theorem dX2_putEntry_17 : decode cX2_putEntry 17 = .ok (.aload_n 0, 1) := by decide +kernel
theorem dX2_putEntry_18 : decode cX2_putEntry 18 = .ok (.getfield 44, 3) := by decide +kernel
theorem dX2_putEntry_21 : decode cX2_putEntry 21 = .ok (.iconst 1, 1) := by decide +kernel
theorem dX2_putEntry_22 : decode cX2_putEntry 22 = .ok (.isub, 1) := by decide +kernel
theorem dX2_putEntry_23 : decode cX2_putEntry 23 = .ok (.iload_n 1, 1) := by decide +kernel
theorem dX2_putEntry_24 : decode cX2_putEntry 24 = .ok (.isub, 1) := by decide +kernel
theorem dX2_putEntry_25 : decode cX2_putEntry 25 = .ok (.invokevirtual 97, 3) := by decide +kernel
theorem dX2_putEntry_28 : decode cX2_putEntry 28 = .ok (.goto 19, 3) := by decide +kernel
theorem dX2_putEntry_31 : decode cX2_putEntry 31 = .ok (.aload_n 0, 1) := by decide +kernel
theorem dX2_putEntry_32 : decode cX2_putEntry 32 = .ok (.getfield 34, 3) := by decide +kernel
theorem dX2_putEntry_35 : decode cX2_putEntry 35 = .ok (.bipush 16, 2) := by decide +kernel
theorem dX2_putEntry_37 : decode cX2_putEntry 37 = .ok (.iconst 4, 1) := by decide +kernel
theorem dX2_putEntry_38 : decode cX2_putEntry 38 = .ok (.iload_n 1, 1) := by decide +kernel
theorem dX2_putEntry_39 : decode cX2_putEntry 39 = .ok (.aload_n 0, 1) := by decide +kernel
theorem dX2_putEntry_40 : decode cX2_putEntry 40 = .ok (.getfield 44, 3) := by decide +kernel
theorem dX2_putEntry_43 : decode cX2_putEntry 43 = .ok (.isub, 1) := by decide +kernel
theorem dX2_putEntry_44 : decode cX2_putEntry 44 = .ok (.invokevirtual 97, 3) := by decide +kernel
theorem dX2_putEntry_47 : decode cX2_putEntry 47 = .ok (.aload_n 0, 1) := by decide +kernel
theorem dX2_putEntry_48 : decode cX2_putEntry 48 = .ok (.iload_n 1, 1) := by decide +kernel
theorem dX2_putEntry_49 : decode cX2_putEntry 49 = .ok (.invokevirtual 140, 3) := by decide +kernel
theorem dX2_putEntry_52 : decode cX2_putEntry 52 = .ok (.return_, 1) := by decide +kernel
theorem dX2_putNameOf_0 : decode cX2_putNameOf 0 = .ok (.iload_n 1, 1) := by decide +kernel
theorem dX2_putNameOf_1 : decode cX2_putNameOf 1 = .ok (.aload_n 0, 1) := by decide +kernel
theorem dX2_putNameOf_2 : decode cX2_putNameOf 2 = .ok (.getfield 44, 3) := by decide +kernel
theorem dX2_putNameOf_5 : decode cX2_putNameOf 5 = .ok (.if_icmp .ge 28, 3) := by decide +kernel
theorem dX2_putNameOf_8 : decode cX2_putNameOf 8 = .ok (.aload_n 0, 1) := by decide +kernel
theorem dX2_putNameOf_9 : decode cX2_putNameOf 9 = .ok (.getfield 34, 3) := by decide +kernel
theorem dX2_putNameOf_12 : decode cX2_putNameOf 12 = .ok (.bipush 64, 2) := by decide +kernel
theorem dX2_putNameOf_14 : decode cX2_putNameOf 14 = .ok (.iload_n 2, 1) := by decide +kernel
theorem dX2_putNameOf_15 : decode cX2_putNameOf 15 = .ok (.iconst 5, 1) := by decide +kernel
theorem dX2_putNameOf_16 : decode cX2_putNameOf 16 = .ok (.ishl, 1) := by decide +kernel
theorem dX2_putNameOf_17 : decode cX2_putNameOf 17 = .ok (.ior, 1) := by decide +kernel
theorem dX2_putNameOf_18 : decode cX2_putNameOf 18 = .ok (.iconst 4, 1) := by decide +kernel
theorem dX2_putNameOf_19 : decode cX2_putNameOf 19 = .ok (.aload_n 0, 1) := by decide +kernel
theorem dX2_putNameOf_20 : decode cX2_putNameOf 20 = .ok (.getfield 44, 3) := by decide +kernel
theorem dX2_putNameOf_23 : decode cX2_putNameOf 23 = .ok (.iconst 1, 1) := by decide +kernel
theorem dX2_putNameOf_24 : decode cX2_putNameOf 24 = .ok (.isub, 1) := by decide +kernel
theorem dX2_putNameOf_25 : decode cX2_putNameOf 25 = .ok (.iload_n 1, 1) := by decide +kernel
theorem dX2_putNameOf_26 : decode cX2_putNameOf 26 = .ok (.isub, 1) := by decide +kernel
theorem dX2_putNameOf_27 : decode cX2_putNameOf 27 = .ok (.invokevirtual 97, 3) := by decide +kernel
theorem dX2_putNameOf_30 : decode cX2_putNameOf 30 = .ok (.goto 20, 3) := by decide +kernel
theorem dX2_putNameOf_33 : decode cX2_putNameOf 33 = .ok (.aload_n 0, 1) := by decide +kernel
theorem dX2_putNameOf_34 : decode cX2_putNameOf 34 = .ok (.getfield 34, 3) := by decide +kernel
theorem dX2_putNameOf_37 : decode cX2_putNameOf 37 = .ok (.iload_n 2, 1) := by decide +kernel
theorem dX2_putNameOf_38 : decode cX2_putNameOf 38 = .ok (.iconst 3, 1) := by decide +kernel
theorem dX2_putNameOf_39 : decode cX2_putNameOf 39 = .ok (.ishl, 1) := by decide +kernel
theorem dX2_putNameOf_40 : decode cX2_putNameOf 40 = .ok (.iconst 3, 1) := by decide +kernel
theorem dX2_putNameOf_41 : decode cX2_putNameOf 41 = .ok (.iload_n 1, 1) := by decide +kernel
theorem dX2_putNameOf_42 : decode cX2_putNameOf 42 = .ok (.aload_n 0, 1) := by decide +kernel
theorem dX2_putNameOf_43 : decode cX2_putNameOf 43 = .ok (.getfield 44, 3) := by decide +kernel
theorem dX2_putNameOf_46 : decode cX2_putNameOf 46 = .ok (.isub, 1) := by decide +kernel
theorem dX2_putNameOf_47 : decode cX2_putNameOf 47 = .ok (.invokevirtual 97, 3) := by decide +kernel
theorem dX2_putNameOf_50 : decode cX2_putNameOf 50 = .ok (.aload_n 0, 1) := by decide +kernel
theorem dX2_putNameOf_51 : decode cX2_putNameOf 51 = .ok (.iload_n 1, 1) := by decide +kernel
theorem dX2_putNameOf_52 : decode cX2_putNameOf 52 = .ok (.invokevirtual 140, 3) := by decide +kernel
theorem dX2_putNameOf_55 : decode cX2_putNameOf 55 = .ok (.return_, 1) := by decide +kernel
theorem dX2_putLiteral_0 : decode cX2_putLiteral 0 = .ok (.aload_n 0, 1) := by decide +kernel
theorem dX2_putLiteral_1 : decode cX2_putLiteral 1 = .ok (.getfield 14, 3) := by decide +kernel
theorem dX2_putLiteral_4 : decode cX2_putLiteral 4 = .ok (.aload_n 1, 1) := by decide +kernel
theorem dX2_putLiteral_5 : decode cX2_putLiteral 5 = .ok (.getfield 100, 3) := by decide +kernel
theorem dX2_putLiteral_8 : decode cX2_putLiteral 8 = .ok (.invokevirtual 143, 3) := by decide +kernel
theorem dX2_putLiteral_11 : decode cX2_putLiteral 11 = .ok (.istore_n 3, 1) := by decide +kernel
theorem dX2_putLiteral_12 : decode cX2_putLiteral 12 = .ok (.aload_n 1, 1) := by decide +kernel
theorem dX2_putLiteral_13 : decode cX2_putLiteral 13 = .ok (.getfield 115, 3) := by decide +kernel
theorem dX2_putLiteral_16 : decode cX2_putLiteral 16 = .ok (.ifCond .eq 7, 3) := by decide +kernel
theorem dX2_putLiteral_19 : decode cX2_putLiteral 19 = .ok (.iconst 1, 1) := by decide +kernel
theorem dX2_putLiteral_20 : decode cX2_putLiteral 20 = .ok (.goto 4, 3) := by decide +kernel
theorem dX2_putLiteral_23 : decode cX2_putLiteral 23 = .ok (.iconst 0, 1) := by decide +kernel
theorem dX2_putLiteral_24 : decode cX2_putLiteral 24 = .ok (.istore 4, 2) := by decide +kernel
theorem dX2_putLiteral_26 : decode cX2_putLiteral 26 = .ok (.iload_n 2, 1) := by decide +kernel
theorem dX2_putLiteral_27 : decode cX2_putLiteral 27 = .ok (.iconst (-1), 1) := by decide +kernel
theorem dX2_putLiteral_28 : decode cX2_putLiteral 28 = .ok (.if_icmp .eq 22, 3) := by decide +kernel
theorem dX2_putLiteral_31 : decode cX2_putLiteral 31 = .ok (.aload_n 0, 1) := by decide +kernel
theorem dX2_putLiteral_32 : decode cX2_putLiteral 32 = .ok (.getfield 34, 3) := by decide +kernel
theorem dX2_putLiteral_35 : decode cX2_putLiteral 35 = .ok (.bipush 80, 2) := by decide +kernel
theorem dX2_putLiteral_37 : decode cX2_putLiteral 37 = .ok (.iload 4, 2) := by decide +kernel
theorem dX2_putLiteral_39 : decode cX2_putLiteral 39 = .ok (.iconst 5, 1) := by decide +kernel
theorem dX2_putLiteral_40 : decode cX2_putLiteral 40 = .ok (.ishl, 1) := by decide +kernel
theorem dX2_putLiteral_41 : decode cX2_putLiteral 41 = .ok (.ior, 1) := by decide +kernel
theorem dX2_putLiteral_42 : decode cX2_putLiteral 42 = .ok (.iconst 4, 1) := by decide +kernel
theorem dX2_putLiteral_43 : decode cX2_putLiteral 43 = .ok (.iload_n 2, 1) := by decide +kernel
theorem dX2_putLiteral_44 : decode cX2_putLiteral 44 = .ok (.invokevirtual 97, 3) := by decide +kernel
theorem dX2_putLiteral_47 : decode cX2_putLiteral 47 = .ok (.goto 45, 3) := by decide +kernel
theorem dX2_putLiteral_50 : decode cX2_putLiteral 50 = .ok (.iload_n 3, 1) := by decide +kernel
theorem dX2_putLiteral_51 : decode cX2_putLiteral 51 = .ok (.iconst (-1), 1) := by decide +kernel
theorem dX2_putLiteral_52 : decode cX2_putLiteral 52 = .ok (.if_icmp .eq 21, 3) := by decide +kernel
theorem dX2_putLiteral_55 : decode cX2_putLiteral 55 = .ok (.aload_n 0, 1) := by decide +kernel
theorem dX2_putLiteral_56 : decode cX2_putLiteral 56 = .ok (.iload_n 3, 1) := by decide +kernel
theorem dX2_putLiteral_57 : decode cX2_putLiteral 57 = .ok (.invokevirtual 134, 3) := by decide +kernel
theorem dX2_putLiteral_60 : decode cX2_putLiteral 60 = .ok (.ifCond .eq 13, 3) := by decide +kernel
theorem dX2_putLiteral_63 : decode cX2_putLiteral 63 = .ok (.aload_n 0, 1) := by decide +kernel
theorem dX2_putLiteral_64 : decode cX2_putLiteral 64 = .ok (.iload_n 3, 1) := by decide +kernel
theorem dX2_putLiteral_65 : decode cX2_putLiteral 65 = .ok (.iload 4, 2) := by decide +kernel
theorem dX2_putLiteral_67 : decode cX2_putLiteral 67 = .ok (.invokevirtual 146, 3) := by decide +kernel
theorem dX2_putLiteral_70 : decode cX2_putLiteral 70 = .ok (.goto 22, 3) := by decide +kernel
theorem dX2_putLiteral_73 : decode cX2_putLiteral 73 = .ok (.aload_n 0, 1) := by decide +kernel
theorem dX2_putLiteral_74 : decode cX2_putLiteral 74 = .ok (.getfield 34, 3) := by decide +kernel
theorem dX2_putLiteral_77 : decode cX2_putLiteral 77 = .ok (.bipush 32, 2) := by decide +kernel
theorem dX2_putLiteral_79 : decode cX2_putLiteral 79 = .ok (.iload 4, 2) := by decide +kernel
theorem dX2_putLiteral_81 : decode cX2_putLiteral 81 = .ok (.iconst 4, 1) := by decide +kernel
theorem dX2_putLiteral_82 : decode cX2_putLiteral 82 = .ok (.ishl, 1) := by decide +kernel
theorem dX2_putLiteral_83 : decode cX2_putLiteral 83 = .ok (.ior, 1) := by decide +kernel
theorem dX2_putLiteral_84 : decode cX2_putLiteral 84 = .ok (.iconst 3, 1) := by decide +kernel
theorem dX2_putLiteral_85 : decode cX2_putLiteral 85 = .ok (.aload_n 1, 1) := by decide +kernel
theorem dX2_putLiteral_86 : decode cX2_putLiteral 86 = .ok (.getfield 100, 3) := by decide +kernel
theorem dX2_putLiteral_89 : decode cX2_putLiteral 89 = .ok (.invokevirtual 150, 3) := by decide +kernel
theorem dX2_putLiteral_92 : decode cX2_putLiteral 92 = .ok (.aload_n 0, 1) := by decide +kernel
theorem dX2_putLiteral_93 : decode cX2_putLiteral 93 = .ok (.getfield 34, 3) := by decide +kernel
theorem dX2_putLiteral_96 : decode cX2_putLiteral 96 = .ok (.iconst 0, 1) := by decide +kernel
theorem dX2_putLiteral_97 : decode cX2_putLiteral 97 = .ok (.bipush 7, 2) := by decide +kernel
theorem dX2_putLiteral_99 : decode cX2_putLiteral 99 = .ok (.aload_n 1, 1) := by decide +kernel
theorem dX2_putLiteral_100 : decode cX2_putLiteral 100 = .ok (.getfield 112, 3) := by decide +kernel
theorem dX2_putLiteral_103 : decode cX2_putLiteral 103 = .ok (.invokevirtual 150, 3) := by decide +kernel
theorem dX2_putLiteral_106 : decode cX2_putLiteral 106 = .ok (.return_, 1) := by decide +kernel
theorem dX2_firstBusy_0 : decode cX2_firstBusy 0 = .ok (.aload_n 0, 1) := by decide +kernel
theorem dX2_firstBusy_1 : decode cX2_firstBusy 1 = .ok (.getfield 163, 3) := by decide +kernel
theorem dX2_firstBusy_4 : decode cX2_firstBusy 4 = .ok (.aload_n 0, 1) := by decide +kernel
theorem dX2_firstBusy_5 : decode cX2_firstBusy 5 = .ok (.getfield 51, 3) := by decide +kernel
theorem dX2_firstBusy_8 : decode cX2_firstBusy 8 = .ok (.invokestatic 160, 3) := by decide +kernel
theorem dX2_firstBusy_11 : decode cX2_firstBusy 11 = .ok (.istore_n 1, 1) := by decide +kernel
theorem dX2_firstBusy_12 : decode cX2_firstBusy 12 = .ok (.iconst 0, 1) := by decide +kernel
theorem dX2_firstBusy_13 : decode cX2_firstBusy 13 = .ok (.istore_n 2, 1) := by decide +kernel
theorem dX2_firstBusy_14 : decode cX2_firstBusy 14 = .ok (.iload_n 2, 1) := by decide +kernel
theorem dX2_firstBusy_15 : decode cX2_firstBusy 15 = .ok (.aload_n 0, 1) := by decide +kernel
theorem dX2_firstBusy_16 : decode cX2_firstBusy 16 = .ok (.getfield 27, 3) := by decide +kernel
theorem dX2_firstBusy_19 : decode cX2_firstBusy 19 = .ok (.invokevirtual 66, 3) := by decide +kernel
theorem dX2_firstBusy_22 : decode cX2_firstBusy 22 = .ok (.if_icmp .ge 28, 3) := by decide +kernel
theorem dX2_firstBusy_25 : decode cX2_firstBusy 25 = .ok (.iload_n 1, 1) := by decide +kernel
theorem dX2_firstBusy_26 : decode cX2_firstBusy 26 = .ok (.aload_n 0, 1) := by decide +kernel
theorem dX2_firstBusy_27 : decode cX2_firstBusy 27 = .ok (.getfield 27, 3) := by decide +kernel
theorem dX2_firstBusy_30 : decode cX2_firstBusy 30 = .ok (.iload_n 2, 1) := by decide +kernel
theorem dX2_firstBusy_31 : decode cX2_firstBusy 31 = .ok (.invokevirtual 68, 3) := by decide +kernel
theorem dX2_firstBusy_34 : decode cX2_firstBusy 34 = .ok (.checkcast 78, 3) := by decide +kernel
theorem dX2_firstBusy_37 : decode cX2_firstBusy 37 = .ok (.getfield 176, 3) := by decide +kernel
theorem dX2_firstBusy_40 : decode cX2_firstBusy 40 = .ok (.invokestatic 160, 3) := by decide +kernel
theorem dX2_firstBusy_43 : decode cX2_firstBusy 43 = .ok (.istore_n 1, 1) := by decide +kernel
theorem dX2_firstBusy_44 : decode cX2_firstBusy 44 = .ok (.iinc 2 1, 3) := by decide +kernel
theorem dX2_firstBusy_47 : decode cX2_firstBusy 47 = .ok (.goto (-33), 3) := by decide +kernel
theorem dX2_firstBusy_50 : decode cX2_firstBusy 50 = .ok (.iload_n 1, 1) := by decide +kernel
theorem dX2_firstBusy_51 : decode cX2_firstBusy 51 = .ok (.ireturn, 1) := by decide +kernel
theorem dX2_canInsert_0 : decode cX2_canInsert 0 = .ok (.aload_n 1, 1) := by decide +kernel
theorem dX2_canInsert_1 : decode cX2_canInsert 1 = .ok (.getfield 100, 3) := by decide +kernel
theorem dX2_canInsert_4 : decode cX2_canInsert 4 = .ok (.aload_n 1, 1) := by decide +kernel
theorem dX2_canInsert_5 : decode cX2_canInsert 5 = .ok (.getfield 112, 3) := by decide +kernel
theorem dX2_canInsert_8 : decode cX2_canInsert 8 = .ok (.invokestatic 166, 3) := by decide +kernel
theorem dX2_canInsert_11 : decode cX2_canInsert 11 = .ok (.istore_n 2, 1) := by decide +kernel
theorem dX2_canInsert_12 : decode cX2_canInsert 12 = .ok (.iload_n 2, 1) := by decide +kernel
theorem dX2_canInsert_13 : decode cX2_canInsert 13 = .ok (.aload_n 0, 1) := by decide +kernel
theorem dX2_canInsert_14 : decode cX2_canInsert 14 = .ok (.getfield 14, 3) := by decide +kernel
theorem dX2_canInsert_17 : decode cX2_canInsert 17 = .ok (.getfield 94, 3) := by decide +kernel
theorem dX2_canInsert_20 : decode cX2_canInsert 20 = .ok (.if_icmp .gt 22, 3) := by decide +kernel
theorem dX2_canInsert_23 : decode cX2_canInsert 23 = .ok (.aload_n 0, 1) := by decide +kernel
theorem dX2_canInsert_24 : decode cX2_canInsert 24 = .ok (.getfield 14, 3) := by decide +kernel
theorem dX2_canInsert_27 : decode cX2_canInsert 27 = .ok (.iload_n 2, 1) := by decide +kernel
theorem dX2_canInsert_28 : decode cX2_canInsert 28 = .ok (.invokevirtual 169, 3) := by decide +kernel
theorem dX2_canInsert_31 : decode cX2_canInsert 31 = .ok (.aload_n 0, 1) := by decide +kernel
theorem dX2_canInsert_32 : decode cX2_canInsert 32 = .ok (.invokevirtual 173, 3) := by decide +kernel
theorem dX2_canInsert_35 : decode cX2_canInsert 35 = .ok (.if_icmp .gt 7, 3) := by decide +kernel
theorem dX2_canInsert_38 : decode cX2_canInsert 38 = .ok (.iconst 1, 1) := by decide +kernel
theorem dX2_canInsert_39 : decode cX2_canInsert 39 = .ok (.goto 4, 3) := by decide +kernel
theorem dX2_canInsert_42 : decode cX2_canInsert 42 = .ok (.iconst 0, 1) := by decide +kernel
theorem dX2_canInsert_43 : decode cX2_canInsert 43 = .ok (.ireturn, 1) := by decide +kernel
theorem dX2_insert_0 : decode cX2_insert 0 = .ok (.aload_n 0, 1) := by decide +kernel
theorem dX2_insert_1 : decode cX2_insert 1 = .ok (.getfield 14, 3) := by decide +kernel
theorem dX2_insert_4 : decode cX2_insert 4 = .ok (.aload_n 1, 1) := by decide +kernel
theorem dX2_insert_5 : decode cX2_insert 5 = .ok (.getfield 100, 3) := by decide +kernel
theorem dX2_insert_8 : decode cX2_insert 8 = .ok (.invokevirtual 143, 3) := by decide +kernel
theorem dX2_insert_11 : decode cX2_insert 11 = .ok (.istore 4, 2) := by decide +kernel
theorem dX2_insert_13 : decode cX2_insert 13 = .ok (.iload_n 2, 1) := by decide +kernel
theorem dX2_insert_14 : decode cX2_insert 14 = .ok (.iconst (-1), 1) := by decide +kernel
theorem dX2_insert_15 : decode cX2_insert 15 = .ok (.if_icmp .eq 16, 3) := by decide +kernel
theorem dX2_insert_18 : decode cX2_insert 18 = .ok (.aload_n 3, 1) := by decide +kernel
theorem dX2_insert_19 : decode cX2_insert 19 = .ok (.sipush 192, 3) := by decide +kernel
theorem dX2_insert_22 : decode cX2_insert 22 = .ok (.bipush 6, 2) := by decide +kernel
theorem dX2_insert_24 : decode cX2_insert 24 = .ok (.iload_n 2, 1) := by decide +kernel
theorem dX2_insert_25 : decode cX2_insert 25 = .ok (.invokevirtual 97, 3) := by decide +kernel
theorem dX2_insert_28 : decode cX2_insert 28 = .ok (.goto 44, 3) := by decide +kernel
theorem dX2_insert_31 : decode cX2_insert 31 = .ok (.iload 4, 2) := by decide +kernel
theorem dX2_insert_33 : decode cX2_insert 33 = .ok (.iconst (-1), 1) := by decide +kernel
theorem dX2_insert_34 : decode cX2_insert 34 = .ok (.if_icmp .eq 27, 3) := by decide +kernel
theorem dX2_insert_37 : decode cX2_insert 37 = .ok (.aload_n 3, 1) := by decide +kernel
theorem dX2_insert_38 : decode cX2_insert 38 = .ok (.sipush 128, 3) := by decide +kernel
theorem dX2_insert_41 : decode cX2_insert 41 = .ok (.bipush 6, 2) := by decide +kernel
theorem dX2_insert_43 : decode cX2_insert 43 = .ok (.aload_n 0, 1) := by decide +kernel
theorem dX2_insert_44 : decode cX2_insert 44 = .ok (.getfield 14, 3) := by decide +kernel
theorem dX2_insert_47 : decode cX2_insert 47 = .ok (.getfield 41, 3) := by decide +kernel
theorem dX2_insert_50 : decode cX2_insert 50 = .ok (.iconst 1, 1) := by decide +kernel
theorem dX2_insert_51 : decode cX2_insert 51 = .ok (.isub, 1) := by decide +kernel
theorem dX2_insert_52 : decode cX2_insert 52 = .ok (.iload 4, 2) := by decide +kernel
theorem dX2_insert_54 : decode cX2_insert 54 = .ok (.isub, 1) := by decide +kernel
theorem dX2_insert_55 : decode cX2_insert 55 = .ok (.invokevirtual 97, 3) := by decide +kernel
theorem dX2_insert_58 : decode cX2_insert 58 = .ok (.goto 14, 3) := by decide +kernel
theorem dX2_insert_61 : decode cX2_insert 61 = .ok (.aload_n 3, 1) := by decide +kernel
theorem dX2_insert_62 : decode cX2_insert 62 = .ok (.bipush 64, 2) := by decide +kernel
theorem dX2_insert_64 : decode cX2_insert 64 = .ok (.iconst 5, 1) := by decide +kernel
theorem dX2_insert_65 : decode cX2_insert 65 = .ok (.aload_n 1, 1) := by decide +kernel
theorem dX2_insert_66 : decode cX2_insert 66 = .ok (.getfield 100, 3) := by decide +kernel
theorem dX2_insert_69 : decode cX2_insert 69 = .ok (.invokevirtual 150, 3) := by decide +kernel
theorem dX2_insert_72 : decode cX2_insert 72 = .ok (.aload_n 3, 1) := by decide +kernel
theorem dX2_insert_73 : decode cX2_insert 73 = .ok (.iconst 0, 1) := by decide +kernel
theorem dX2_insert_74 : decode cX2_insert 74 = .ok (.bipush 7, 2) := by decide +kernel
theorem dX2_insert_76 : decode cX2_insert 76 = .ok (.aload_n 1, 1) := by decide +kernel
theorem dX2_insert_77 : decode cX2_insert 77 = .ok (.getfield 112, 3) := by decide +kernel
theorem dX2_insert_80 : decode cX2_insert 80 = .ok (.invokevirtual 150, 3) := by decide +kernel
theorem dX2_insert_83 : decode cX2_insert 83 = .ok (.aload_n 0, 1) := by decide +kernel
theorem dX2_insert_84 : decode cX2_insert 84 = .ok (.getfield 14, 3) := by decide +kernel
theorem dX2_insert_87 : decode cX2_insert 87 = .ok (.aload_n 1, 1) := by decide +kernel
theorem dX2_insert_88 : decode cX2_insert 88 = .ok (.getfield 100, 3) := by decide +kernel
theorem dX2_insert_91 : decode cX2_insert 91 = .ok (.aload_n 1, 1) := by decide +kernel
theorem dX2_insert_92 : decode cX2_insert 92 = .ok (.getfield 112, 3) := by decide +kernel
theorem dX2_insert_95 : decode cX2_insert 95 = .ok (.invokevirtual 177, 3) := by decide +kernel
theorem dX2_insert_98 : decode cX2_insert 98 = .ok (.return_, 1) := by decide +kernel
theorem dX2_putField_0 : decode cX2_putField 0 = .ok (.aload_n 1, 1) := by decide +kernel
theorem dX2_putField_1 : decode cX2_putField 1 = .ok (.getfield 100, 3) := by decide +kernel
theorem dX2_putField_4 : decode cX2_putField 4 = .ok (.invokestatic 104, 3) := by decide +kernel
theorem dX2_putField_7 : decode cX2_putField 7 = .ok (.istore_n 3, 1) := by decide +kernel
theorem dX2_putField_8 : decode cX2_putField 8 = .ok (.iload_n 3, 1) := by decide +kernel
theorem dX2_putField_9 : decode cX2_putField 9 = .ok (.iconst (-1), 1) := by decide +kernel
theorem dX2_putField_10 : decode cX2_putField 10 = .ok (.if_icmp .eq 29, 3) := by decide +kernel
theorem dX2_putField_13 : decode cX2_putField 13 = .ok (.iload_n 3, 1) := by decide +kernel
theorem dX2_putField_14 : decode cX2_putField 14 = .ok (.invokestatic 108, 3) := by decide +kernel
theorem dX2_putField_17 : decode cX2_putField 17 = .ok (.aload_n 1, 1) := by decide +kernel
theorem dX2_putField_18 : decode cX2_putField 18 = .ok (.getfield 112, 3) := by decide +kernel
theorem dX2_putField_21 : decode cX2_putField 21 = .ok (.lcmp, 1) := by decide +kernel
theorem dX2_putField_22 : decode cX2_putField 22 = .ok (.ifCond .ne 17, 3) := by decide +kernel
theorem dX2_putField_25 : decode cX2_putField 25 = .ok (.aload_n 0, 1) := by decide +kernel
theorem dX2_putField_26 : decode cX2_putField 26 = .ok (.getfield 34, 3) := by decide +kernel
theorem dX2_putField_29 : decode cX2_putField 29 = .ok (.sipush 192, 3) := by decide +kernel
theorem dX2_putField_32 : decode cX2_putField 32 = .ok (.bipush 6, 2) := by decide +kernel
theorem dX2_putField_34 : decode cX2_putField 34 = .ok (.iload_n 3, 1) := by decide +kernel
theorem dX2_putField_35 : decode cX2_putField 35 = .ok (.invokevirtual 97, 3) := by decide +kernel
theorem dX2_putField_38 : decode cX2_putField 38 = .ok (.return_, 1) := by decide +kernel
theorem dX2_putField_39 : decode cX2_putField 39 = .ok (.aload_n 1, 1) := by decide +kernel
theorem dX2_putField_40 : decode cX2_putField 40 = .ok (.getfield 115, 3) := by decide +kernel
theorem dX2_putField_43 : decode cX2_putField 43 = .ok (.ifCond .eq 10, 3) := by decide +kernel
theorem dX2_putField_46 : decode cX2_putField 46 = .ok (.aload_n 0, 1) := by decide +kernel
theorem dX2_putField_47 : decode cX2_putField 47 = .ok (.aload_n 1, 1) := by decide +kernel
theorem dX2_putField_48 : decode cX2_putField 48 = .ok (.iload_n 3, 1) := by decide +kernel
theorem dX2_putField_49 : decode cX2_putField 49 = .ok (.invokevirtual 118, 3) := by decide +kernel
theorem dX2_putField_52 : decode cX2_putField 52 = .ok (.return_, 1) := by decide +kernel
theorem dX2_putField_53 : decode cX2_putField 53 = .ok (.aload_n 0, 1) := by decide +kernel
theorem dX2_putField_54 : decode cX2_putField 54 = .ok (.getfield 14, 3) := by decide +kernel
theorem dX2_putField_57 : decode cX2_putField 57 = .ok (.aload_n 1, 1) := by decide +kernel
theorem dX2_putField_58 : decode cX2_putField 58 = .ok (.getfield 100, 3) := by decide +kernel
theorem dX2_putField_61 : decode cX2_putField 61 = .ok (.aload_n 1, 1) := by decide +kernel
theorem dX2_putField_62 : decode cX2_putField 62 = .ok (.getfield 112, 3) := by decide +kernel
theorem dX2_putField_65 : decode cX2_putField 65 = .ok (.invokevirtual 122, 3) := by decide +kernel
theorem dX2_putField_68 : decode cX2_putField 68 = .ok (.istore 4, 2) := by decide +kernel
theorem dX2_putField_70 : decode cX2_putField 70 = .ok (.iload 4, 2) := by decide +kernel
theorem dX2_putField_72 : decode cX2_putField 72 = .ok (.iconst (-1), 1) := by decide +kernel
theorem dX2_putField_73 : decode cX2_putField 73 = .ok (.if_icmp .ne 29, 3) := by decide +kernel
theorem dX2_putField_76 : decode cX2_putField 76 = .ok (.aload_n 0, 1) := by decide +kernel
theorem dX2_putField_77 : decode cX2_putField 77 = .ok (.aload_n 1, 1) := by decide +kernel
theorem dX2_putField_78 : decode cX2_putField 78 = .ok (.invokevirtual 126, 3) := by decide +kernel
theorem dX2_putField_81 : decode cX2_putField 81 = .ok (.ifCond .eq 21, 3) := by decide +kernel
theorem dX2_putField_84 : decode cX2_putField 84 = .ok (.aload_n 0, 1) := by decide +kernel
theorem dX2_putField_85 : decode cX2_putField 85 = .ok (.aload_n 1, 1) := by decide +kernel
theorem dX2_putField_86 : decode cX2_putField 86 = .ok (.iload_n 3, 1) := by decide +kernel
theorem dX2_putField_87 : decode cX2_putField 87 = .ok (.aload_n 2, 1) := by decide +kernel
theorem dX2_putField_88 : decode cX2_putField 88 = .ok (.invokevirtual 130, 3) := by decide +kernel
theorem dX2_putField_91 : decode cX2_putField 91 = .ok (.aload_n 0, 1) := by decide +kernel
theorem dX2_putField_92 : decode cX2_putField 92 = .ok (.getfield 14, 3) := by decide +kernel
theorem dX2_putField_95 : decode cX2_putField 95 = .ok (.getfield 41, 3) := by decide +kernel
theorem dX2_putField_98 : decode cX2_putField 98 = .ok (.iconst 1, 1) := by decide +kernel
theorem dX2_putField_99 : decode cX2_putField 99 = .ok (.isub, 1) := by decide +kernel
theorem dX2_putField_100 : decode cX2_putField 100 = .ok (.istore 4, 2) := by decide +kernel
theorem dX2_putField_102 : decode cX2_putField 102 = .ok (.iload 4, 2) := by decide +kernel
theorem dX2_putField_104 : decode cX2_putField 104 = .ok (.iconst (-1), 1) := by decide +kernel
theorem dX2_putField_105 : decode cX2_putField 105 = .ok (.if_icmp .eq 21, 3) := by decide +kernel
theorem dX2_putField_108 : decode cX2_putField 108 = .ok (.aload_n 0, 1) := by decide +kernel
theorem dX2_putField_109 : decode cX2_putField 109 = .ok (.iload 4, 2) := by decide +kernel
theorem dX2_putField_111 : decode cX2_putField 111 = .ok (.invokevirtual 134, 3) := by decide +kernel
theorem dX2_putField_114 : decode cX2_putField 114 = .ok (.ifCond .eq 12, 3) := by decide +kernel
theorem dX2_putField_117 : decode cX2_putField 117 = .ok (.aload_n 0, 1) := by decide +kernel
theorem dX2_putField_118 : decode cX2_putField 118 = .ok (.iload 4, 2) := by decide +kernel
theorem dX2_putField_120 : decode cX2_putField 120 = .ok (.invokevirtual 137, 3) := by decide +kernel
theorem dX2_putField_123 : decode cX2_putField 123 = .ok (.goto 9, 3) := by decide +kernel
theorem dX2_putField_126 : decode cX2_putField 126 = .ok (.aload_n 0, 1) := by decide +kernel
theorem dX2_putField_127 : decode cX2_putField 127 = .ok (.aload_n 1, 1) := by decide +kernel
theorem dX2_putField_128 : decode cX2_putField 128 = .ok (.iload_n 3, 1) := by decide +kernel
theorem dX2_putField_129 : decode cX2_putField 129 = .ok (.invokevirtual 118, 3) := by decide +kernel
theorem dX2_putField_132 : decode cX2_putField 132 = .ok (.return_, 1) := by decide +kernel
section CE
variable {G : fp_G} {h : fp_H} {en tb op ln wr cO : Nat} {oa : Nat → Nat} {p : rs} {base : Nat} {rk : Bool} {cW cL : Nat}
theorem ce_note {j : Nat} (m : EM G h en tb op ln wr cO oa p base rk cW cL) (ok : rok p) (hj : j < 2 ^ 29) (h12 : ∀ k, k < 200 → p.2.1 20 k ≤ 12) (hc : p.1 28 < 200) (hr : p.2.1 20 (p.1 28) < 12) : fp_ct G rm_X2_noteReference M_X2_noteReference [.ref en, .int (nI j)] h (eP G h en tb op ln wr cO oa (r_ref p j) base rk cW cL) := by
  obtain ⟨m1, m2, m3, m4, m5, m6, m7⟩ := m
  have o12 := ok.2.1 12 (p.1 28)
  refine fp_meth pn_X2 (Nat.le_of_ble_eq_true rfl) rfl ?_
  refine wp_aload_n dX2_noteReference_0 rfl ?_
  refine wp_aload_n dX2_noteReference_1 rfl ?_
  refine wp_getf dX2_noteReference_2 fl_X2_47 m1 rfl ?_
  refine wp_iload_n dX2_noteReference_5 rfl ?_
  refine wp_iconst (v := 1) dX2_noteReference_6 rfl ?_
  refine wp_iadd dX2_noteReference_7 ?_
  rw [nI_1]
  refine wp_callS (As := [.int (nI (p.2.1 12 (p.1 28))), .int (nI (j + 1))]) (rest := [.ref en]) dX2_noteReference_8 me_J9_max_7cf53 cw_X2_154 ⟨(Nat.le_of_ble_eq_true rfl), (Nat.le_of_ble_eq_true rfl)⟩ rfl rfl rfl (Nat.le_of_ble_eq_true rfl) (ct_max _ _) (fun r h1 q => ?_)
  obtain ⟨rfl, rfl⟩ := q
  rw [maxI (by omega) (by omega)]
  have e1 : ∀ e : fp_E, (fp_put h1 en 3 e).1 en = some (3, e) := fun e => fp_put_eq
  refine wp_putf dX2_noteReference_11 (fs_X2_47 _) m1 (Nat.le_of_ble_eq_true rfl) rfl rfl ?_
  refine wp_aload_n dX2_noteReference_14 rfl ?_
  refine wp_aload_n dX2_noteReference_15 rfl ?_
  refine wp_getf dX2_noteReference_16 fl_X2_51 fp_put_eq rfl ?_
  refine wp_iload_n dX2_noteReference_19 rfl ?_
  refine wp_callS (As := [.int (nI (lea p (p.1 28))), .int (nI j)]) (rest := [.ref en]) dX2_noteReference_20 me_J9_min_7cf53 cw_X2_160 ⟨(Nat.le_of_ble_eq_true rfl), (Nat.le_of_ble_eq_true rfl)⟩ rfl rfl rfl (Nat.le_of_ble_eq_true rfl) (ct_min _ _) (fun r h2 q => ?_)
  obtain ⟨rfl, rfl⟩ := q
  rw [minI (lea_lt _ _) (by omega)]
  refine wp_putf dX2_noteReference_23 (fs_X2_51 _) fp_put_eq (Nat.le_of_ble_eq_true rfl) rfl rfl ?_
  refine wp_vret dX2_noteReference_26 rfl ?_
  rw [fp_put_put]
  have e12 : (r_ref p j).2.1 12 (p.1 28) = max (j + 1) (p.2.1 12 (p.1 28)) := by simp [r_ref, r_sa]
  have ee : eO (r_ref p j) base rk tb op ln = .inr (3, [.ref tb, .int (nI (p.1 1)), .ref op, .int (nI (p.1 12)), .ref ln, .int (nI base), .int (nI (max (p.2.1 12 (p.1 28)) (j + 1))), .int (nI (min (lea p (p.1 28)) j)), .int (nI (b2n rk))]) := by
    show (Sum.inr (3, [.ref tb, .int (nI (p.1 1)), .ref op, .int (nI (p.1 12)), .ref ln, .int (nI base), .int (nI ((r_ref p j).2.1 12 (p.1 28))), .int (nI (lea (r_ref p j) (p.1 28))), .int (nI (b2n rk))]) : fp_E) = _
    rw [e12, lea_ref_self, Nat.max_comm]
  have c1 : cf (fun x => x = 3) h1 (fp_put h1 en 3 (eO (r_ref p j) base rk tb op ln)) := cf.put1 m1
  have eop : opn (r_ref p j) = opn p := by
    unfold opn
    congr 1
  have key : EM G (fp_put h1 en 3 (eO (r_ref p j) base rk tb op ln)) en tb op ln wr cO oa (r_ref p j) base rk cW cL := by
    refine ⟨fp_put_eq, m2.kept c1 (by decide), m3.kept c1 (by decide), m4.kept c1 (by decide), by rw [eop]; exact m5.kept c1 (by decide), fun k hk => ?_, c1.wf m7⟩
    rw [eop] at hk
    have hkl := (opn_mem.mp hk).1
    have e0 : oO (r_ref p j) k = oO p k := by
      unfold oO
      rw [lea_ref (by omega) (h12 k (by omega)) hr, show (r_ref p j).2.1 11 k = p.2.1 11 k from rfl, show (r_ref p j).2.1 12 k = p.2.1 12 k by simp [r_ref, r_sa, show k ≠ p.1 28 by omega]]
    rw [e0]
    exact c1.at (m6 k hk) (by decide)
  rw [ee] at key c1
  exact ⟨rfl, cW, cL, key, Nat.le_refl _, Nat.le_refl _, Nat.le_max_left _ _, Nat.le_max_left _ _, c1.mono (fun t ht => Or.inl ht), Nat.le_refl _⟩
theorem ce_may {j : Nat} (m : EM G h en tb op ln wr cO oa p base rk cW cL) (hj : j < 2 ^ 30) (hk : p.1 12 < 2 ^ 30) : fp_ct G rm_X2_mayReferTo M_X2_mayReferTo [.ref en, .int (nI j)] h (fun r h' => h' = h ∧ r = some (.int (nI (b2n (decide (j < p.1 12 ∨ rk = true)))))) := by
  obtain ⟨m1, -⟩ := m
  refine fp_meth pn_X2 (Nat.le_of_ble_eq_true rfl) rfl ?_
  refine wp_iload_n dX2_mayReferTo_0 rfl ?_
  refine wp_aload_n dX2_mayReferTo_1 rfl ?_
  refine wp_getf dX2_mayReferTo_2 fl_X2_163 m1 rfl ?_
  refine wp_icmp_lt (tgt := 15) dX2_mayReferTo_5 rfl (fun c_5 => ?_) (fun c_5 => ?_)
  · have : j < p.1 12 := (nI_ltI (by omega) (by omega)).mp c_5
    refine wp_iconst (v := 1) dX2_mayReferTo_15 rfl ?_
    refine wp_goto (tgt := 20) dX2_mayReferTo_16 rfl ?_
    refine wp_iret dX2_mayReferTo_20 rfl rfl ?_
    exact ⟨rfl, by rw [decide_eq_true (Or.inl this)]; rfl⟩
  · have hn : ¬ j < p.1 12 := fun q => c_5 (nI_lt q (by omega))
    refine wp_aload_n dX2_mayReferTo_8 rfl ?_
    refine wp_getf dX2_mayReferTo_9 fl_X2_62 m1 rfl ?_
    refine wp_if_eq (tgt := 19) dX2_mayReferTo_12 rfl (fun c_12 => ?_) (fun c_12 => ?_)
    · have : rk = false := b2n_0.mp c_12
      refine wp_iconst (v := 0) dX2_mayReferTo_19 rfl ?_
      refine wp_iret dX2_mayReferTo_20 rfl rfl ?_
      exact ⟨rfl, by rw [decide_eq_false (by rw [this]; exact fun z => z.elim hn (by decide))]; rfl⟩
    · have : rk = true := by cases rk; exact absurd rfl c_12; rfl
      refine wp_iconst (v := 1) dX2_mayReferTo_15 rfl ?_
      refine wp_goto (tgt := 20) dX2_mayReferTo_16 rfl ?_
      refine wp_iret dX2_mayReferTo_20 rfl rfl ?_
      exact ⟨rfl, by rw [decide_eq_true (Or.inr this)]; rfl⟩
theorem ce_line {F n v : Nat} (m : EM G h en tb op ln wr cO oa p base rk cW cL) (h44 : p.1 44 ≤ 1000) (hn : n < 9) (hF : ∀ x, x < 2 ^ n → F ||| x = F + x) (hv : v < 2 ^ 30) : fp_ct G rm_X0_putNumber M_X0_putNumber [.ref ln, .int (nI F), .int (nI n), .int (nI v)] h (eP G h en tb op ln wr cO oa (r_lays p 2 (nb F n v)) base rk cW cL) :=
  (cc_putNumber m.2.2.2.2.2.2 m.2.2.2.1 (by rw [wlx_len]; omega) hn hF hv).mono (fun r h' b => m.lines b)
theorem ce_lineT {F n u : Nat} (m : EM G h en tb op ln wr cO oa p base rk cW cL) (h44 : p.1 44 ≤ 1000) (hn : n < 9) (hF : ∀ x, x < 2 ^ n → F ||| x = F + x) (hu : u < 2 ^ 64) : fp_ct G rm_X0_putText M_X0_putText [.ref ln, .int (nI F), .int (nI n), .long (lN u)] h (eP G h en tb op ln wr cO oa (r_lays p 2 (nb F n (bln u) ++ txb u)) base rk cW cL) :=
  (cc_putText m.2.2.2.2.2.2 m.2.2.2.1 (by rw [wlx_len]; omega) hn hF hu).mono (fun r h' b => m.lines b)
theorem EM.hln {G : fp_G} {h : fp_H} {en tb op ln wr cO : Nat} {oa : Nat → Nat} {p : rs} {base : Nat} {rk : Bool} {cW cL : Nat} (m : EM G h en tb op ln wr cO oa p base rk cW cL) : ∃ x, h.1 ln = some (14, .inr (1, x)) := by
  obtain ⟨r, f, h1, -⟩ := m.2.2.2.1
  exact ⟨_, h1⟩
theorem ce_entry {j : Nat} (m : EM G h en tb op ln wr cO oa p base rk cW cL) (ok : rok p) (hj : j < 2 ^ 29) (hb : base < 2 ^ 28) (h12 : ∀ k, k < 200 → p.2.1 20 k ≤ 12) (hc : p.1 28 < 200) (hr : p.2.1 20 (p.1 28) < 12) (h44 : p.1 44 ≤ 300) : fp_ct G rm_X2_putEntry M_X2_putEntry [.ref en, .int (nI j)] h (eP G h en tb op ln wr cO oa (r_whole p j base) base rk cW cL) := by
  obtain ⟨xl, hln⟩ := m.hln
  have m1 := m.1
  unfold r_whole
  have fin : ∀ (l : List Nat) (h1 : fp_H) (r0 : Option Value), (∀ b ∈ l, b < 2 ^ 30) → l.length ≤ 6 → eP G h en tb op ln wr cO oa (r_lays p 2 l) base rk cW cL r0 h1 → fp_wp G rm_X2_putEntry M_X2_putEntry 47 [some (.ref en), some (.int (nI j))] [] h1 (eP G h en tb op ln wr cO oa (r_lays (r_ref p j) 2 l) base rk cW cL) := by
    intro l h1 r0 hl hlen e
    obtain ⟨-, cW1, cL1, mm, eq⟩ := e
    have e20 : (r_lays p 2 l).2.1 20 = p.2.1 20 := r_lays_a (by decide) _ _
    have e28 : (r_lays p 2 l).1 28 = p.1 28 := r_lays_k (by decide) _ _
    refine wp_aload_n dX2_putEntry_47 rfl ?_
    refine wp_iload_n dX2_putEntry_48 rfl ?_
    refine wp_callV (As := [.int (nI j)]) (rest := []) dX2_putEntry_49 me_X2_noteReference cw_X2_140 rfl ⟨(Nat.le_of_ble_eq_true rfl), (Nat.le_of_ble_eq_true rfl)⟩ rfl rfl rfl (Nat.le_of_ble_eq_true rfl) mm.1 (ce_note mm (rok.lays (w := 2) l p ok hl (by show p.1 44 + _ < _; omega)) hj (by rw [e20]; exact h12) (by rw [e28]; exact hc) (by rw [e20, e28]; exact hr)) (fun r h2 q => ?_)
    obtain ⟨rfl, -⟩ := id q
    refine wp_vret dX2_putEntry_52 rfl ?_
    rw [← r_ref_lays]
    exact eq.step (Nat.le_refl _) (Nat.le_refl _) q
  refine fp_meth pn_X2 (Nat.le_of_ble_eq_true rfl) rfl ?_
  refine wp_iload_n dX2_putEntry_0 rfl ?_
  refine wp_aload_n dX2_putEntry_1 rfl ?_
  refine wp_getf dX2_putEntry_2 fl_X2_44 m1 rfl ?_
  refine wp_icmp_ge (tgt := 31) dX2_putEntry_5 rfl (fun c_5 => ?_) (fun c_5 => ?_)
  · have hge : ¬ j < base := fun q => nI_ge q (by omega) c_5
    rw [r_wb, if_neg hge]
    refine wp_aload_n dX2_putEntry_31 rfl ?_
    refine wp_getf dX2_putEntry_32 fl_X2_34 m1 rfl ?_
    refine wp_bipush (v := 16) dX2_putEntry_35 rfl ?_
    refine wp_iconst (v := 4) dX2_putEntry_37 rfl ?_
    refine wp_iload_n dX2_putEntry_38 rfl ?_
    refine wp_aload_n dX2_putEntry_39 rfl ?_
    refine wp_getf dX2_putEntry_40 fl_X2_44 m1 rfl ?_
    refine wp_isub dX2_putEntry_43 ?_
    rw [pk_sub (by omega)]
    refine wp_callV (As := [.int (nI 16), .int (nI 4), .int (nI (j - base))]) (rest := []) dX2_putEntry_44 me_X0_putNumber cw_X2_97 rfl ⟨(Nat.le_of_ble_eq_true rfl), (Nat.le_of_ble_eq_true rfl)⟩ rfl rfl rfl (Nat.le_of_ble_eq_true rfl) hln (ce_line m (by omega) (by decide) (by decide +kernel) (by omega)) (fun r h1 q => ?_)
    obtain ⟨rfl, -⟩ := id q
    exact fin _ h1 none (nb_lt (by decide) (by decide) (by omega)) (nb_len _ _ _) q
  · have hlt : j < base := by
      rcases Nat.lt_or_ge j base with q | q
      · exact q
      · exact absurd (nI_le q (by omega)) c_5
    rw [r_wb, if_pos hlt]
    refine wp_aload_n dX2_putEntry_8 rfl ?_
    refine wp_getf dX2_putEntry_9 fl_X2_34 m1 rfl ?_
    refine wp_sipush (v := 128) dX2_putEntry_12 rfl ?_
    refine wp_bipush (v := 6) dX2_putEntry_15 rfl ?_
    refine wp_aload_n dX2_putEntry_17 rfl ?_
    refine wp_getf dX2_putEntry_18 fl_X2_44 m1 rfl ?_
    refine wp_iconst (v := 1) dX2_putEntry_21 rfl ?_
    refine wp_isub dX2_putEntry_22 ?_
    refine wp_iload_n dX2_putEntry_23 rfl ?_
    refine wp_isub dX2_putEntry_24 ?_
    rw [nI_sub1 (by omega), pk_sub (by omega)]
    refine wp_callV (As := [.int (nI 128), .int (nI 6), .int (nI (base - 1 - j))]) (rest := []) dX2_putEntry_25 me_X0_putNumber cw_X2_97 rfl ⟨(Nat.le_of_ble_eq_true rfl), (Nat.le_of_ble_eq_true rfl)⟩ rfl rfl rfl (Nat.le_of_ble_eq_true rfl) hln (ce_line m (by omega) (by decide) (by decide +kernel) (by omega)) (fun r h1 q => ?_)
    obtain ⟨rfl, -⟩ := id q
    refine wp_goto (tgt := 47) dX2_putEntry_28 rfl ?_
    exact fin _ h1 none (nb_lt (by decide) (by decide) (by omega)) (nb_len _ _ _) q
end CE
