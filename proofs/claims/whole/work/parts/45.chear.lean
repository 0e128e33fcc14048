/-! Encoder: what it hears -/
theorem r_hr1_none {v : Nat} : ∀ (n k : Nat) (p : rs), (∀ j, k ≤ j → j < k + n → ¬ (p.2.1 11 j = v ∧ p.2.1 13 j ≠ 0)) → ∀ kind, r_hr kind v n k p = p := by
  intro n
  induction n with
  | zero => intro k p _ kind; rfl
  | succ n ih =>
    intro k p h kind
    rw [r_hr, if_neg (h k (Nat.le_refl _) (by omega))]
    exact ih (k + 1) p (fun j h1 h2 => h j (by omega) (by omega)) kind
theorem r_hr1_some {v i : Nat} : ∀ (n k : Nat) (p : rs), k ≤ i → i < k + n → p.2.1 11 i = v ∧ p.2.1 13 i ≠ 0 → (∀ j, k ≤ j → j < i → ¬ (p.2.1 11 j = v ∧ p.2.1 13 j ≠ 0)) → r_hr 1 v n k p = r_si (r_sa p 13 i 0) 12 (max (p.2.1 12 i) (p.1 12)) := by
  intro n
  induction n with
  | zero => intro k p h1 h2; omega
  | succ n ih =>
    intro k p h1 h2 h3 h4
    rw [r_hr]
    by_cases e : k = i
    · subst e
      rw [if_pos h3, if_pos rfl]
    · rw [if_neg (h4 k (Nat.le_refl _) (by omega))]
      exact ih (k + 1) p (by omega) (by omega) h3 (fun j h5 h6 => h4 j (by omega) h6)
theorem r_hr2 {v : Nat} : ∀ (n k : Nat) (p : rs), (r_hr 2 v n k p).1 = p.1 ∧ (∀ j, j ≠ 13 → (r_hr 2 v n k p).2.1 j = p.2.1 j) ∧ (r_hr 2 v n k p).2.2 = p.2.2 ∧ ∀ i, ((r_hr 2 v n k p).2.1 13 i ≠ 0 ↔ p.2.1 13 i ≠ 0 ∧ ¬ (k ≤ i ∧ i < k + n ∧ p.2.1 11 i = v)) := by
  intro n
  induction n with
  | zero => intro k p; exact ⟨rfl, fun _ _ => rfl, rfl, fun i => ⟨fun h => ⟨h, by omega⟩, fun h => h.1⟩⟩
  | succ n ih =>
    intro k p
    rw [r_hr]
    by_cases c : p.2.1 11 k = v ∧ p.2.1 13 k ≠ 0
    · rw [if_pos c, if_neg (by decide)]
      obtain ⟨h1, h2, h3, h4⟩ := ih (k + 1) (r_sa p 13 k 0)
      have e11 : (r_sa p 13 k 0).2.1 11 = p.2.1 11 := by funext i; simp [r_sa]
      refine ⟨h1, fun j hj => ?_, h3, fun i => ?_⟩
      · rw [h2 j hj]; funext i; simp [r_sa, hj]
      · rw [h4 i, e11]
        by_cases e : i = k
        · subst e
          simp [r_sa]
          intro _
          exact c.1
        · simp [r_sa, e]
          intro _
          constructor
          · intro h5 h6 h7; exact h5 (by omega) (by omega)
          · intro h5 h6 h7; exact h5 (by omega) (by omega)
    · rw [if_neg c]
      obtain ⟨h1, h2, h3, h4⟩ := ih (k + 1) p
      refine ⟨h1, h2, h3, fun i => ?_⟩
      rw [h4 i]
      by_cases e : i = k
      · subst e
        constructor
        · intro h5; exact ⟨h5.1, fun h6 => c ⟨h6.2.2, h5.1⟩⟩
        · intro h5; exact ⟨h5.1, fun h6 => by omega⟩
      · constructor
        · intro h5; exact ⟨h5.1, fun h6 => h5.2 ⟨by omega, by omega, h6.2.2⟩⟩
        · intro h5; exact ⟨h5.1, fun h6 => h5.2 ⟨by omega, by omega, h6.2.2⟩⟩
theorem opn_sorted (p : rs) : (opn p).Pairwise (· < ·) := by
  unfold opn
  exact List.Pairwise.filter _ List.pairwise_lt_range
theorem opn_erase {p p' : rs} {pre post : List Nat} {k : Nat} (hpre : opn p = pre ++ k :: post) (e28 : p'.1 28 = p.1 28) (h13 : ∀ i, p'.2.1 13 i ≠ 0 ↔ p.2.1 13 i ≠ 0 ∧ i ≠ k) : opn p' = pre ++ post := by
  have e1 : opn p' = (opn p).filter (fun i => i != k) := by
    unfold opn
    rw [List.filter_filter, e28]
    apply List.filter_congr
    intro i _
    have := h13 i
    by_cases c : p.2.1 13 i = 0
    · have : p'.2.1 13 i = 0 := Classical.byContradiction (fun z => ((h13 i).mp z).1 c)
      simp [c, this]
    · by_cases c2 : i = k
      · have : p'.2.1 13 i = 0 := Classical.byContradiction (fun z => ((h13 i).mp z).2 c2)
        simp [c2, this]
        rw [← c2]; exact this
      · have := (h13 i).mpr ⟨c, c2⟩
        have a1 : (p'.2.1 13 i != 0) = true := by rw [bne_iff_ne]; exact this
        have a2 : (p.2.1 13 i != 0) = true := by rw [bne_iff_ne]; exact c
        have a3 : (i != k) = true := by rw [bne_iff_ne]; exact c2
        rw [a1, a2, a3]
        rfl
  have hs := opn_sorted p
  rw [hpre] at hs
  rw [e1, hpre, List.filter_append, List.filter_cons]
  have hp : ∀ i ∈ pre, i ≠ k := fun i hi => by
    have := (List.pairwise_append.mp hs).2.2 i hi k List.mem_cons_self
    omega
  have hq : ∀ i ∈ post, i ≠ k := fun i hi => by
    have := (List.pairwise_cons.mp (List.pairwise_append.mp hs).2.1).1 i hi
    omega
  rw [List.filter_eq_self.mpr (fun i hi => by simp [hp i hi]), List.filter_eq_self.mpr (fun i hi => by simp [hq i hi])]
  simp
theorem eraseIdx_mid {α : Type} (pre post : List α) (k : α) : (pre ++ k :: post).eraseIdx pre.length = pre ++ post := by
  induction pre with
  | nil => rfl
  | cons a l ih => simp [ih]
def hS : Nat → Prop := fun t => t = 3 ∨ t = 17
theorem EN.el {G : fp_G} {h : fp_H} {en tb op ln wr cO : Nat} {oa : Nat → Nat} {p : rs} {cW cL : Nat} (m : EN G h en tb op ln wr cO oa p cW cL) : ∀ y ∈ (opn p).map oa, el h y := by
  intro y hy
  obtain ⟨k, hk, rfl⟩ := List.mem_map.mp hy
  exact ⟨9, 6, _, _, m.2.2.2.2.2.1 k hk, rfl, ca_X5_Object⟩
theorem dX2_closeOldest_0 : decode cX2_closeOldest 0 = .ok (.iconst 0, 1) := by decide +kernel
theorem dX2_closeOldest_1 : decode cX2_closeOldest 1 = .ok (.istore_n 2, 1) := by decide +kernel
theorem dX2_closeOldest_2 : decode cX2_closeOldest 2 = .ok (.iload_n 2, 1) := by decide +kernel
theorem dX2_closeOldest_3 : decode cX2_closeOldest 3 = .ok (.aload_n 0, 1) := by decide +kernel
theorem dX2_closeOldest_4 : decode cX2_closeOldest 4 = .ok (.getfield 27, 3) := by decide +kernel
theorem dX2_closeOldest_7 : decode cX2_closeOldest 7 = .ok (.invokevirtual 66, 3) := by decide +kernel
theorem dX2_closeOldest_10 : decode cX2_closeOldest 10 = .ok (.if_icmp .ge 62, 3) := by decide +kernel
theorem dX2_closeOldest_13 : decode cX2_closeOldest 13 = .ok (.aload_n 0, 1) := by decide +kernel
theorem dX2_closeOldest_14 : decode cX2_closeOldest 14 = .ok (.getfield 27, 3) := by decide +kernel
theorem dX2_closeOldest_17 : decode cX2_closeOldest 17 = .ok (.iload_n 2, 1) := by decide +kernel
theorem dX2_closeOldest_18 : decode cX2_closeOldest 18 = .ok (.invokevirtual 68, 3) := by decide +kernel
theorem dX2_closeOldest_21 : decode cX2_closeOldest 21 = .ok (.checkcast 78, 3) := by decide +kernel
theorem dX2_closeOldest_24 : decode cX2_closeOldest 24 = .ok (.getfield 180, 3) := by decide +kernel
theorem dX2_closeOldest_27 : decode cX2_closeOldest 27 = .ok (.iload_n 1, 1) := by decide +kernel
theorem dX2_closeOldest_28 : decode cX2_closeOldest 28 = .ok (.if_icmp .ne 38, 3) := by decide +kernel
theorem dX2_closeOldest_31 : decode cX2_closeOldest 31 = .ok (.aload_n 0, 1) := by decide +kernel
theorem dX2_closeOldest_32 : decode cX2_closeOldest 32 = .ok (.aload_n 0, 1) := by decide +kernel
theorem dX2_closeOldest_33 : decode cX2_closeOldest 33 = .ok (.getfield 163, 3) := by decide +kernel
theorem dX2_closeOldest_36 : decode cX2_closeOldest 36 = .ok (.aload_n 0, 1) := by decide +kernel
theorem dX2_closeOldest_37 : decode cX2_closeOldest 37 = .ok (.getfield 27, 3) := by decide +kernel
theorem dX2_closeOldest_40 : decode cX2_closeOldest 40 = .ok (.iload_n 2, 1) := by decide +kernel
theorem dX2_closeOldest_41 : decode cX2_closeOldest 41 = .ok (.invokevirtual 68, 3) := by decide +kernel
theorem dX2_closeOldest_44 : decode cX2_closeOldest 44 = .ok (.checkcast 78, 3) := by decide +kernel
theorem dX2_closeOldest_47 : decode cX2_closeOldest 47 = .ok (.getfield 183, 3) := by decide +kernel
theorem dX2_closeOldest_50 : decode cX2_closeOldest 50 = .ok (.invokestatic 154, 3) := by decide +kernel
theorem dX2_closeOldest_53 : decode cX2_closeOldest 53 = .ok (.putfield 163, 3) := by decide +kernel
theorem dX2_closeOldest_56 : decode cX2_closeOldest 56 = .ok (.aload_n 0, 1) := by decide +kernel
theorem dX2_closeOldest_57 : decode cX2_closeOldest 57 = .ok (.getfield 27, 3) := by decide +kernel
theorem dX2_closeOldest_60 : decode cX2_closeOldest 60 = .ok (.iload_n 2, 1) := by decide +kernel
theorem dX2_closeOldest_61 : decode cX2_closeOldest 61 = .ok (.invokevirtual 214, 3) := by decide +kernel
theorem dX2_closeOldest_64 : decode cX2_closeOldest 64 = .ok (.pop, 1) := by decide +kernel
theorem dX2_closeOldest_65 : decode cX2_closeOldest 65 = .ok (.return_, 1) := by decide +kernel
theorem dX2_closeOldest_66 : decode cX2_closeOldest 66 = .ok (.iinc 2 1, 3) := by decide +kernel
theorem dX2_closeOldest_69 : decode cX2_closeOldest 69 = .ok (.goto (-67), 3) := by decide +kernel
theorem dX2_closeOldest_72 : decode cX2_closeOldest 72 = .ok (.return_, 1) := by decide +kernel
theorem dX2_closeAll_0 : decode cX2_closeAll 0 = .ok (.aload_n 0, 1) := by decide +kernel
theorem dX2_closeAll_1 : decode cX2_closeAll 1 = .ok (.getfield 27, 3) := by decide +kernel
theorem dX2_closeAll_4 : decode cX2_closeAll 4 = .ok (.invokevirtual 66, 3) := by decide +kernel
theorem dX2_closeAll_7 : decode cX2_closeAll 7 = .ok (.iconst 1, 1) := by decide +kernel
theorem dX2_closeAll_8 : decode cX2_closeAll 8 = .ok (.isub, 1) := by decide +kernel
theorem dX2_closeAll_9 : decode cX2_closeAll 9 = .ok (.istore_n 2, 1) := by decide +kernel
theorem dX2_closeAll_10 : decode cX2_closeAll 10 = .ok (.iload_n 2, 1) := by decide +kernel
theorem dX2_closeAll_11 : decode cX2_closeAll 11 = .ok (.ifCond .lt 36, 3) := by decide +kernel
theorem dX2_closeAll_14 : decode cX2_closeAll 14 = .ok (.aload_n 0, 1) := by decide +kernel
theorem dX2_closeAll_15 : decode cX2_closeAll 15 = .ok (.getfield 27, 3) := by decide +kernel
theorem dX2_closeAll_18 : decode cX2_closeAll 18 = .ok (.iload_n 2, 1) := by decide +kernel
theorem dX2_closeAll_19 : decode cX2_closeAll 19 = .ok (.invokevirtual 68, 3) := by decide +kernel
theorem dX2_closeAll_22 : decode cX2_closeAll 22 = .ok (.checkcast 78, 3) := by decide +kernel
theorem dX2_closeAll_25 : decode cX2_closeAll 25 = .ok (.getfield 180, 3) := by decide +kernel
theorem dX2_closeAll_28 : decode cX2_closeAll 28 = .ok (.iload_n 1, 1) := by decide +kernel
theorem dX2_closeAll_29 : decode cX2_closeAll 29 = .ok (.if_icmp .ne 12, 3) := by decide +kernel
theorem dX2_closeAll_32 : decode cX2_closeAll 32 = .ok (.aload_n 0, 1) := by decide +kernel
theorem dX2_closeAll_33 : decode cX2_closeAll 33 = .ok (.getfield 27, 3) := by decide +kernel
theorem dX2_closeAll_36 : decode cX2_closeAll 36 = .ok (.iload_n 2, 1) := by decide +kernel
theorem dX2_closeAll_37 : decode cX2_closeAll 37 = .ok (.invokevirtual 214, 3) := by decide +kernel
theorem dX2_closeAll_40 : decode cX2_closeAll 40 = .ok (.pop, 1) := by decide +kernel
theorem dX2_closeAll_41 : decode cX2_closeAll 41 = .ok (.iinc 2 (-1), 3) := by decide +kernel
theorem dX2_closeAll_44 : decode cX2_closeAll 44 = .ok (.goto (-34), 3) := by decide +kernel
theorem dX2_closeAll_47 : decode cX2_closeAll 47 = .ok (.return_, 1) := by decide +kernel
theorem dX2_hearOne_0 : decode cX2_hearOne 0 = .ok (.aload_n 1, 1) := by decide +kernel
theorem dX2_hearOne_1 : decode cX2_hearOne 1 = .ok (.getfield 193, 3) := by decide +kernel
theorem dX2_hearOne_4 : decode cX2_hearOne 4 = .ok (.istore_n 2, 1) := by decide +kernel
theorem dX2_hearOne_5 : decode cX2_hearOne 5 = .ok (.aload_n 1, 1) := by decide +kernel
theorem dX2_hearOne_6 : decode cX2_hearOne 6 = .ok (.invokevirtual 196, 3) := by decide +kernel
theorem dX2_hearOne_9 : decode cX2_hearOne 9 = .ok (.istore_n 3, 1) := by decide +kernel
theorem dX2_hearOne_10 : decode cX2_hearOne 10 = .ok (.aload_n 1, 1) := by decide +kernel
theorem dX2_hearOne_11 : decode cX2_hearOne 11 = .ok (.iload_n 3, 1) := by decide +kernel
theorem dX2_hearOne_12 : decode cX2_hearOne 12 = .ok (.sipush 128, 3) := by decide +kernel
theorem dX2_hearOne_15 : decode cX2_hearOne 15 = .ok (.if_icmp .lt 8, 3) := by decide +kernel
theorem dX2_hearOne_18 : decode cX2_hearOne 18 = .ok (.bipush 7, 2) := by decide +kernel
theorem dX2_hearOne_20 : decode cX2_hearOne 20 = .ok (.goto 5, 3) := by decide +kernel
theorem dX2_hearOne_23 : decode cX2_hearOne 23 = .ok (.bipush 6, 2) := by decide +kernel
theorem dX2_hearOne_25 : decode cX2_hearOne 25 = .ok (.invokevirtual 199, 3) := by decide +kernel
theorem dX2_hearOne_28 : decode cX2_hearOne 28 = .ok (.istore 4, 2) := by decide +kernel
theorem dX2_hearOne_30 : decode cX2_hearOne 30 = .ok (.aload_n 1, 1) := by decide +kernel
theorem dX2_hearOne_31 : decode cX2_hearOne 31 = .ok (.getfield 202, 3) := by decide +kernel
theorem dX2_hearOne_34 : decode cX2_hearOne 34 = .ok (.ifCond .eq 10, 3) := by decide +kernel
theorem dX2_hearOne_37 : decode cX2_hearOne 37 = .ok (.aload_n 1, 1) := by decide +kernel
theorem dX2_hearOne_38 : decode cX2_hearOne 38 = .ok (.iload_n 2, 1) := by decide +kernel
theorem dX2_hearOne_39 : decode cX2_hearOne 39 = .ok (.invokevirtual 205, 3) := by decide +kernel
theorem dX2_hearOne_42 : decode cX2_hearOne 42 = .ok (.iconst 0, 1) := by decide +kernel
theorem dX2_hearOne_43 : decode cX2_hearOne 43 = .ok (.ireturn, 1) := by decide +kernel
theorem dX2_hearOne_44 : decode cX2_hearOne 44 = .ok (.iload_n 3, 1) := by decide +kernel
theorem dX2_hearOne_45 : decode cX2_hearOne 45 = .ok (.sipush 128, 3) := by decide +kernel
theorem dX2_hearOne_48 : decode cX2_hearOne 48 = .ok (.if_icmp .lt 12, 3) := by decide +kernel
theorem dX2_hearOne_51 : decode cX2_hearOne 51 = .ok (.aload_n 0, 1) := by decide +kernel
theorem dX2_hearOne_52 : decode cX2_hearOne 52 = .ok (.iload 4, 2) := by decide +kernel
theorem dX2_hearOne_54 : decode cX2_hearOne 54 = .ok (.invokevirtual 208, 3) := by decide +kernel
theorem dX2_hearOne_57 : decode cX2_hearOne 57 = .ok (.goto 29, 3) := by decide +kernel
theorem dX2_hearOne_60 : decode cX2_hearOne 60 = .ok (.iload_n 3, 1) := by decide +kernel
theorem dX2_hearOne_61 : decode cX2_hearOne 61 = .ok (.bipush 64, 2) := by decide +kernel
theorem dX2_hearOne_63 : decode cX2_hearOne 63 = .ok (.if_icmp .lt 12, 3) := by decide +kernel
theorem dX2_hearOne_66 : decode cX2_hearOne 66 = .ok (.aload_n 0, 1) := by decide +kernel
theorem dX2_hearOne_67 : decode cX2_hearOne 67 = .ok (.iload 4, 2) := by decide +kernel
theorem dX2_hearOne_69 : decode cX2_hearOne 69 = .ok (.invokevirtual 211, 3) := by decide +kernel
theorem dX2_hearOne_72 : decode cX2_hearOne 72 = .ok (.goto 14, 3) := by decide +kernel
theorem dX2_hearOne_75 : decode cX2_hearOne 75 = .ok (.aload_n 0, 1) := by decide +kernel
theorem dX2_hearOne_76 : decode cX2_hearOne 76 = .ok (.dup, 1) := by decide +kernel
theorem dX2_hearOne_77 : decode cX2_hearOne 77 = .ok (.getfield 163, 3) := by decide +kernel
theorem dX2_hearOne_80 : decode cX2_hearOne 80 = .ok (.iload 4, 2) := by decide +kernel
theorem dX2_hearOne_82 : decode cX2_hearOne 82 = .ok (.iadd, 1) := by decide +kernel
theorem dX2_hearOne_83 : decode cX2_hearOne 83 = .ok (.putfield 163, 3) := by decide +kernel
theorem dX2_hearOne_86 : decode cX2_hearOne 86 = .ok (.iconst 1, 1) := by decide +kernel
theorem dX2_hearOne_87 : decode cX2_hearOne 87 = .ok (.ireturn, 1) := by decide +kernel
theorem dX2_hear_0 : decode cX2_hear 0 = .ok (.iconst 1, 1) := by decide +kernel
theorem dX2_hear_1 : decode cX2_hear 1 = .ok (.istore_n 2, 1) := by decide +kernel
theorem dX2_hear_2 : decode cX2_hear 2 = .ok (.aload_n 1, 1) := by decide +kernel
theorem dX2_hear_3 : decode cX2_hear 3 = .ok (.invokevirtual 184, 3) := by decide +kernel
theorem dX2_hear_6 : decode cX2_hear 6 = .ok (.istore_n 3, 1) := by decide +kernel
theorem dX2_hear_7 : decode cX2_hear 7 = .ok (.iload_n 3, 1) := by decide +kernel
theorem dX2_hear_8 : decode cX2_hear 8 = .ok (.ifCond .le 19, 3) := by decide +kernel
theorem dX2_hear_11 : decode cX2_hear 11 = .ok (.iload_n 2, 1) := by decide +kernel
theorem dX2_hear_12 : decode cX2_hear 12 = .ok (.ifCond .eq 15, 3) := by decide +kernel
theorem dX2_hear_15 : decode cX2_hear 15 = .ok (.aload_n 0, 1) := by decide +kernel
theorem dX2_hear_16 : decode cX2_hear 16 = .ok (.aload_n 1, 1) := by decide +kernel
theorem dX2_hear_17 : decode cX2_hear 17 = .ok (.invokevirtual 189, 3) := by decide +kernel
theorem dX2_hear_20 : decode cX2_hear 20 = .ok (.istore_n 2, 1) := by decide +kernel
theorem dX2_hear_21 : decode cX2_hear 21 = .ok (.iinc 3 (-1), 3) := by decide +kernel
theorem dX2_hear_24 : decode cX2_hear 24 = .ok (.goto (-17), 3) := by decide +kernel
theorem dX2_hear_27 : decode cX2_hear 27 = .ok (.return_, 1) := by decide +kernel
section CH
variable {G : fp_G} {h : fp_H} {en tb op ln wr cO : Nat} {oa : Nat → Nat} {p : rs} {cW cL : Nat}
theorem ch_oldest {v : Nat} (m : EN G h en tb op ln wr cO oa p cW cL) (ok : rok p) (hv : v < 2 ^ 30) : fp_ct G rm_X2_closeOldest M_X2_closeOldest [.ref en, .int (nI v)] h (fun r h' => r = none ∧ EN G h' en tb op ln wr cO oa (r_hear p 1 v) cW cL ∧ cf hS h h' ∧ h'.2 = h.2) := by
  have hel := m.el
  obtain ⟨⟨x5, x6, x7, x8, m1⟩, m2, m3, m4, m5, m6, m7⟩ := id m
  obtain ⟨mc, ed, l1, l2⟩ := id m5
  have hlen := l2.lt
  rw [List.length_map] at hlen
  rw [r_hear, if_neg (by decide)]
  refine fp_meth pn_X2 (Nat.le_of_ble_eq_true rfl) rfl ?_
  refine wp_iconst (v := 0) dX2_closeOldest_0 rfl ?_
  refine wp_istore_n dX2_closeOldest_1 (Nat.le_of_ble_eq_true rfl) rfl ?_
  have loop : ∀ (l pre : List Nat), opn p = pre ++ l → (∀ k ∈ pre, p.2.1 11 k ≠ v) → fp_wp G rm_X2_closeOldest M_X2_closeOldest 2 [some (.ref en), some (.int (nI v)), some (.int (nI pre.length))] [] h (fun r h' => r = none ∧ EN G h' en tb op ln wr cO oa (r_hr 1 v (p.1 28) 0 p) cW cL ∧ cf hS h h' ∧ h'.2 = h.2) := by
    intro l
    induction l with
    | nil =>
      intro pre hpre hno
      rw [List.append_nil] at hpre
      refine wp_iload_n dX2_closeOldest_2 rfl ?_
      refine wp_aload_n dX2_closeOldest_3 rfl ?_
      refine wp_getf dX2_closeOldest_4 fl_X2_27 m1 rfl ?_
      refine wp_callV (As := []) (rest := [.int (nI pre.length)]) dX2_closeOldest_7 me_Jx4a65c_size_8abf5 cw_X2_66 rfl ⟨(Nat.le_of_ble_eq_true rfl), (Nat.le_of_ble_eq_true rfl)⟩ rfl rfl rfl (Nat.le_of_ble_eq_true rfl) l1 (ct_lsize m5) (fun r h2 q => ?_)
      obtain ⟨q0, rfl⟩ := q
      rw [q0]
      refine wp_icmp_ge (tgt := 72) dX2_closeOldest_10 rfl (fun c_10 => ?_) (fun c_10 => ?_)
      · refine wp_vret dX2_closeOldest_72 rfl ?_
        rw [r_hr1_none (p.1 28) 0 p (fun j _ hj hjj => ?_) 1]
        · exact ⟨rfl, m, cf.refl, rfl⟩
        · exact hno j (by rw [← hpre]; exact opn_mem.mpr ⟨by omega, hjj.2⟩) hjj.1
      · rw [List.length_map, hpre] at c_10
        rw [hpre] at hlen
        exact absurd (nI_le (Nat.le_refl _) (by omega)) c_10
    | cons k l ih =>
      intro pre hpre hno
      have hk : k ∈ opn p := by rw [hpre]; simp
      have hkm := opn_mem.mp hk
      have hget : ((opn p).map oa)[pre.length]? = some (oa k) := by rw [hpre]; simp
      have hlp : (opn p).length = pre.length + (l.length + 1) := by rw [hpre]; simp
      have o11 := ok.2.1 11 k
      have o12 := ok.2.1 12 k
      have o1 := ok.1 12
      refine wp_iload_n dX2_closeOldest_2 rfl ?_
      refine wp_aload_n dX2_closeOldest_3 rfl ?_
      refine wp_getf dX2_closeOldest_4 fl_X2_27 m1 rfl ?_
      refine wp_callV (As := []) (rest := [.int (nI pre.length)]) dX2_closeOldest_7 me_Jx4a65c_size_8abf5 cw_X2_66 rfl ⟨(Nat.le_of_ble_eq_true rfl), (Nat.le_of_ble_eq_true rfl)⟩ rfl rfl rfl (Nat.le_of_ble_eq_true rfl) l1 (ct_lsize m5) (fun r h2 q => ?_)
      obtain ⟨q0, rfl⟩ := q
      rw [q0]
      refine wp_icmp_ge (tgt := 72) dX2_closeOldest_10 rfl (fun c_10 => ?_) (fun c_10 => ?_)
      · rw [List.length_map] at c_10
        have := (nI_leI (by omega) (by omega)).mp c_10
        omega
      · refine wp_aload_n dX2_closeOldest_13 rfl ?_
        refine wp_getf dX2_closeOldest_14 fl_X2_27 m1 rfl ?_
        refine wp_iload_n dX2_closeOldest_17 rfl ?_
        refine wp_callV (As := [.int (nI pre.length)]) (rest := []) dX2_closeOldest_18 me_Jx4a65c_get_915e3 cw_X2_68 rfl ⟨(Nat.le_of_ble_eq_true rfl), (Nat.le_of_ble_eq_true rfl)⟩ rfl rfl rfl (Nat.le_of_ble_eq_true rfl) l1 (ct_lget m5 hget) (fun r h3 q => ?_)
        obtain ⟨q0, rfl⟩ := q
        rw [q0]
        refine wp_cast dX2_closeOldest_21 ck_X2_78 (m6 k hk) rfl ca_X5_X5 ?_
        refine wp_getf dX2_closeOldest_24 fl_X2_180 (m6 k hk) rfl ?_
        refine wp_iload_n dX2_closeOldest_27 rfl ?_
        refine wp_icmp_ne (tgt := 66) dX2_closeOldest_28 rfl (fun c_28 => ?_) (fun c_28 => ?_)
        · have : ¬ p.2.1 11 k = v := fun e => c_28 (by rw [e])
          refine wp_iinc dX2_closeOldest_66 rfl rfl ?_
          refine wp_goto (tgt := 2) dX2_closeOldest_69 rfl ?_
          rw [show nI pre.length + Int32.ofInt 1 = nI (pre ++ [k]).length by rw [List.length_append]; exact nI_1 _]
          refine ih (pre ++ [k]) (by rw [hpre]; simp) (fun i hi => ?_)
          rcases List.mem_append.mp hi with hi | hi
          · exact hno i hi
          · rw [List.mem_singleton.mp hi]; exact this
        · have hkv : p.2.1 11 k = v := (nI_eq (by omega) (by omega)).mp c_28
          refine wp_aload_n dX2_closeOldest_31 rfl ?_
          refine wp_aload_n dX2_closeOldest_32 rfl ?_
          refine wp_getf dX2_closeOldest_33 fl_X2_163 m1 rfl ?_
          refine wp_aload_n dX2_closeOldest_36 rfl ?_
          refine wp_getf dX2_closeOldest_37 fl_X2_27 m1 rfl ?_
          refine wp_iload_n dX2_closeOldest_40 rfl ?_
          refine wp_callV (As := [.int (nI pre.length)]) (rest := [.int (nI (p.1 12)), .ref en]) dX2_closeOldest_41 me_Jx4a65c_get_915e3 cw_X2_68 rfl ⟨(Nat.le_of_ble_eq_true rfl), (Nat.le_of_ble_eq_true rfl)⟩ rfl rfl rfl (Nat.le_of_ble_eq_true rfl) l1 (ct_lget m5 hget) (fun r h4 q => ?_)
          obtain ⟨q0, rfl⟩ := q
          rw [q0]
          refine wp_cast dX2_closeOldest_44 ck_X2_78 (m6 k hk) rfl ca_X5_X5 ?_
          refine wp_getf dX2_closeOldest_47 fl_X2_183 (m6 k hk) rfl ?_
          refine wp_callS (As := [.int (nI (p.1 12)), .int (nI (p.2.1 12 k))]) (rest := [.ref en]) dX2_closeOldest_50 me_J9_max_7cf53 cw_X2_154 ⟨(Nat.le_of_ble_eq_true rfl), (Nat.le_of_ble_eq_true rfl)⟩ rfl rfl rfl (Nat.le_of_ble_eq_true rfl) (ct_max _ _) (fun r h5 q => ?_)
          obtain ⟨q0, rfl⟩ := q
          rw [q0, maxI (by omega) (by omega)]
          have c1 : cf (fun x => x = 3) h (fp_put h en 3 (.inr (3, [.ref tb, .int (nI (p.1 1)), .ref op, .int (nI (max (p.1 12) (p.2.1 12 k))), .ref ln, .int x5, .int x6, .int x7, .int x8]))) := cf.put1 m1
          refine wp_putf dX2_closeOldest_53 (fs_X2_163 _) m1 (Nat.le_of_ble_eq_true rfl) rfl rfl ?_
          refine wp_aload_n dX2_closeOldest_56 rfl ?_
          refine wp_getf dX2_closeOldest_57 fl_X2_27 fp_put_eq rfl ?_
          refine wp_iload_n dX2_closeOldest_60 rfl ?_
          have s1 : (fp_put h en 3 (.inr (3, [.ref tb, .int (nI (p.1 1)), .ref op, .int (nI (max (p.1 12) (p.2.1 12 k))), .ref ln, .int x5, .int x6, .int x7, .int x8]))).2 = h.2 := rfl
          have e1 : (fp_put h en 3 (.inr (3, [.ref tb, .int (nI (p.1 1)), .ref op, .int (nI (max (p.1 12) (p.2.1 12 k))), .ref ln, .int x5, .int x6, .int x7, .int x8]))).1 en = some (3, .inr (3, [.ref tb, .int (nI (p.1 1)), .ref op, .int (nI (max (p.1 12) (p.2.1 12 k))), .ref ln, .int x5, .int x6, .int x7, .int x8])) := fp_put_eq
          refine fp_wp_h (h' := fp_put h en 3 (.inr (3, [.ref tb, .int (nI (p.1 1)), .ref op, .int (nI (max (p.1 12) (p.2.1 12 k))), .ref ln, .int x5, .int x6, .int x7, .int x8]))) rfl ?_
          generalize fp_put h en 3 (.inr (3, [.ref tb, .int (nI (p.1 1)), .ref op, .int (nI (max (p.1 12) (p.2.1 12 k))), .ref ln, .int x5, .int x6, .int x7, .int x8])) = h6 at c1 s1 e1 ⊢
          refine wp_callV (As := [.int (nI pre.length)]) (rest := []) dX2_closeOldest_61 me_Jx4a65c_remove_915e3 cw_X2_214 rfl ⟨(Nat.le_of_ble_eq_true rfl), (Nat.le_of_ble_eq_true rfl)⟩ rfl rfl rfl (Nat.le_of_ble_eq_true rfl) (c1.at l1 (by decide)) (ct_lremove (m5.kept c1 (by decide)) hget (fun y hy => (hel y hy).keep c1 (fun t e hh => ?hnt))) (fun r h7 q => ?_)
          case hnt =>
            obtain ⟨k2, hk2, rfl⟩ := List.mem_map.mp hy
            rw [m6 k2 hk2] at hh
            injection hh with hh; injection hh with hh _
            rw [← hh]; decide
          obtain ⟨rfl, q1, q2, q3⟩ := q
          refine wp_pop dX2_closeOldest_64 rfl ?_
          refine wp_vret dX2_closeOldest_65 rfl ?_
          have hp' : r_hr 1 v (p.1 28) 0 p = r_si (r_sa p 13 k 0) 12 (max (p.2.1 12 k) (p.1 12)) := by
            refine r_hr1_some (p.1 28) 0 p (Nat.zero_le _) (by omega) ⟨hkv, hkm.2⟩ (fun j _ hj hjj => ?_)
            have hjo : j ∈ opn p := opn_mem.mpr ⟨by omega, hjj.2⟩
            rw [hpre] at hjo
            rcases List.mem_append.mp hjo with z | z
            · exact hno j z hjj.1
            · have hs := opn_sorted p
              rw [hpre] at hs
              have hs2 := List.pairwise_cons.mp (List.pairwise_append.mp hs).2.1
              rcases List.mem_cons.mp z with z | z
              · omega
              · have := hs2.1 j z; omega
          rw [hp']
          have eopn : opn (r_si (r_sa p 13 k 0) 12 (max (p.2.1 12 k) (p.1 12))) = pre ++ l := by
            refine opn_erase hpre rfl (fun i => ?_)
            by_cases e : i = k
            · subst e; simp [r_si, r_sa]
            · simp [r_si, r_sa, e]
          have c2 : cf hS h h7 := (c1.mono (fun t z => Or.inl z)).trans (q2.mono (fun t z => Or.inr z))
          have eO : ∀ i, oO (r_si (r_sa p 13 k 0) 12 (max (p.2.1 12 k) (p.1 12))) i = oO p i := fun i => by
            unfold oO lea
            simp [r_si, r_sa]
          refine ⟨rfl, ⟨⟨x5, x6, x7, x8, ?_⟩, m2.kept c2 (by simp [hS]), ?_, ?_, ?_, fun i hi => ?_, c2.wf m7⟩, c2, by rw [q3, s1]⟩
          · rw [q2.at e1 (by decide)]
            unfold eN
            show some (3, Sum.inr (3, [_, _, _, Value.int (nI (max (p.1 12) (p.2.1 12 k))), _, _, _, _, _])) = some (3, Sum.inr (3, [_, _, _, Value.int (nI (max (p.2.1 12 k) (p.1 12))), _, _, _, _, _]))
            rw [Nat.max_comm]
            rfl
          · have : wlx (r_si (r_sa p 13 k 0) 12 (max (p.2.1 12 k) (p.1 12))) 13 6 = wlx p 13 6 := by unfold wlx; simp [r_si, r_sa]
            rw [this]
            exact m3.kept c2 (by simp [hS])
          · obtain ⟨xs, m4⟩ := m4
            exact ⟨xs, m4.kept c2 (by simp [hS])⟩
          · rw [eopn]
            have : ((opn p).map oa).eraseIdx pre.length = (pre ++ l).map oa := by
              rw [hpre, List.map_append, List.map_cons]
              have := eraseIdx_mid (pre.map oa) (l.map oa) (oa k)
              rw [List.length_map] at this
              rw [this, List.map_append]
            rw [← this]
            exact q1
          · rw [eopn] at hi
            rw [eO]
            have : i ∈ opn p := by rw [hpre]; rcases List.mem_append.mp hi with z | z; exact List.mem_append.mpr (Or.inl z); exact List.mem_append.mpr (Or.inr (List.mem_cons_of_mem _ z))
            exact c2.at (m6 i this) (by simp [hS])
  exact loop (opn p) [] rfl (fun k hk => by cases hk)
theorem ch_all {v : Nat} (m : EN G h en tb op ln wr cO oa p cW cL) (ok : rok p) (hv : v < 2 ^ 30) : fp_ct G rm_X2_closeAll M_X2_closeAll [.ref en, .int (nI v)] h (fun r h' => r = none ∧ EN G h' en tb op ln wr cO oa (r_hear p 2 v) cW cL ∧ cf hS h h' ∧ h'.2 = h.2) := by
  have hel := m.el
  obtain ⟨⟨x5, x6, x7, x8, m1⟩, m2, m3, m4, m5, m6, m7⟩ := id m
  obtain ⟨mc, ed, l1, l2⟩ := id m5
  have hlen := l2.lt
  rw [List.length_map] at hlen
  rw [r_hear, if_neg (by decide)]
  obtain ⟨e1, e2, e3, e4⟩ := r_hr2 (v := v) (p.1 28) 0 p
  have eopn : opn (r_hr 2 v (p.1 28) 0 p) = (opn p).filter (fun k => p.2.1 11 k != v) := by
    unfold opn
    rw [List.filter_filter, e1]
    apply List.filter_congr
    intro i hi
    have hi' := List.mem_range.mp hi
    have := e4 i
    by_cases c : (r_hr 2 v (p.1 28) 0 p).2.1 13 i = 0
    · have h1 : ¬ (p.2.1 13 i ≠ 0 ∧ ¬ (0 ≤ i ∧ i < 0 + p.1 28 ∧ p.2.1 11 i = v)) := fun z => (this.mpr z) c
      simp only [c]
      by_cases c2 : p.2.1 13 i = 0
      · simp [c2]
      · have : p.2.1 11 i = v := Classical.byContradiction (fun z => h1 ⟨c2, fun y => z y.2.2⟩)
        simp [this]
    · have h1 := this.mp c
      have : p.2.1 11 i ≠ v := fun z => h1.2 ⟨Nat.zero_le _, by omega, z⟩
      have a1 : ((r_hr 2 v (p.1 28) 0 p).2.1 13 i != 0) = true := by rw [bne_iff_ne]; exact c
      have a2 : (p.2.1 13 i != 0) = true := by rw [bne_iff_ne]; exact h1.1
      have a3 : (p.2.1 11 i != v) = true := by rw [bne_iff_ne]; exact this
      rw [a1, a2, a3]
      rfl
  -- what was left over
  have fin : ∀ h2 : fp_H, cf (fun x => x = 17) h h2 → h2.2 = h.2 → lst G h2 17 op (((opn p).filter (fun k => p.2.1 11 k != v)).map oa) cO → EN G h2 en tb op ln wr cO oa (r_hr 2 v (p.1 28) 0 p) cW cL ∧ cf hS h h2 ∧ h2.2 = h.2 := by
    intro h2 c s l
    refine ⟨⟨⟨x5, x6, x7, x8, ?_⟩, ?_, ?_, ?_, by rw [eopn]; exact l, fun k hk => ?_, c.wf m7⟩, c.mono (fun t z => Or.inr z), s⟩
    · rw [c.at m1 (by decide)]; unfold eN; rw [e1]
    · rw [e1, e3]; exact m2.kept c (by decide)
    · have : wlx (r_hr 2 v (p.1 28) 0 p) 13 6 = wlx p 13 6 := by unfold wlx; rw [e1, e2 6 (by decide)]
      rw [this]
      exact m3.kept c (by decide)
    · obtain ⟨xs, m4⟩ := m4
      exact ⟨xs, m4.kept c (by decide)⟩
    · rw [eopn] at hk
      have hk' := (List.mem_filter.mp hk).1
      have : oO (r_hr 2 v (p.1 28) 0 p) k = oO p k := by unfold oO lea; rw [e2 11 (by decide), e2 12 (by decide), e2 19 (by decide), e2 20 (by decide)]
      rw [this]
      exact c.at (m6 k hk') (by decide)
  refine fp_meth pn_X2 (Nat.le_of_ble_eq_true rfl) rfl ?_
  refine wp_aload_n dX2_closeAll_0 rfl ?_
  refine wp_getf dX2_closeAll_1 fl_X2_27 m1 rfl ?_
  refine wp_callV (As := []) (rest := []) dX2_closeAll_4 me_Jx4a65c_size_8abf5 cw_X2_66 rfl ⟨(Nat.le_of_ble_eq_true rfl), (Nat.le_of_ble_eq_true rfl)⟩ rfl rfl rfl (Nat.le_of_ble_eq_true rfl) l1 (ct_lsize m5) (fun r h2 q => ?_)
  obtain ⟨q0, rfl⟩ := q
  rw [q0]
  refine wp_iconst (v := 1) dX2_closeAll_7 rfl ?_
  refine wp_isub dX2_closeAll_8 ?_
  refine wp_istore_n dX2_closeAll_9 (Nat.le_of_ble_eq_true rfl) rfl ?_
  rw [List.length_map]
  have loop : ∀ (i : Nat) (h2 : fp_H), i ≤ (opn p).length → cf (fun x => x = 17) h h2 → h2.2 = h.2 → lst G h2 17 op (((opn p).take i ++ ((opn p).drop i).filter (fun k => p.2.1 11 k != v)).map oa) cO → fp_wp G rm_X2_closeAll M_X2_closeAll 10 [some (.ref en), some (.int (nI v)), some (.int (nI i - 1))] [] h2 (fun r h' => r = none ∧ EN G h' en tb op ln wr cO oa (r_hr 2 v (p.1 28) 0 p) cW cL ∧ cf hS h h' ∧ h'.2 = h.2) := by
    intro i
    induction i with
    | zero =>
      intro h2 _ c s l
      refine wp_iload_n dX2_closeAll_10 rfl ?_
      refine wp_if_lt (tgt := 47) dX2_closeAll_11 rfl (fun c_11 => ?_) (fun c_11 => ?_)
      · refine wp_vret dX2_closeAll_47 rfl ?_
        rw [List.take_zero, List.drop_zero, List.nil_append] at l
        exact ⟨rfl, fin h2 c s l⟩
      · exact absurd (by decide) c_11
    | succ i ih =>
      intro h2 hi c s l
      have hlt : i < (opn p).length := by omega
      rw [nI_pred]
      obtain ⟨mc2, ed2, l3, l4⟩ := id l
      have ht : (opn p).take (i + 1) = (opn p).take i ++ [(opn p)[i]] := by rw [List.take_succ, List.getElem?_eq_getElem hlt]; rfl
      have hd : (opn p).drop i = (opn p)[i] :: (opn p).drop (i + 1) := List.drop_eq_getElem_cons hlt
      have hmem : (opn p)[i] ∈ opn p := List.getElem_mem hlt
      have hlt1 : ((opn p).take i).length = i := by rw [List.length_take, Nat.min_eq_left (by omega)]
      rw [ht] at l
      rw [hd, List.filter_cons] at ih
      generalize (opn p)[i] = k at ih l hmem hd ht
      have hget : (((opn p).take i ++ [k] ++ ((opn p).drop (i + 1)).filter (fun k => p.2.1 11 k != v)).map oa)[i]? = some (oa k) := by
        rw [List.append_assoc, List.map_append, List.getElem?_append_right (by rw [List.length_map, hlt1]; omega), List.length_map, hlt1]
        simp
      have o11 := ok.2.1 11 k
      refine wp_iload_n dX2_closeAll_10 rfl ?_
      refine wp_if_lt (tgt := 47) dX2_closeAll_11 rfl (fun c_11 => ?_) (fun c_11 => ?_)
      · exact absurd c_11 (nI_pos (by omega))
      · refine wp_aload_n dX2_closeAll_14 rfl ?_
        refine wp_getf dX2_closeAll_15 fl_X2_27 (c.at m1 (by decide)) rfl ?_
        refine wp_iload_n dX2_closeAll_18 rfl ?_
        refine wp_callV (As := [.int (nI i)]) (rest := []) dX2_closeAll_19 me_Jx4a65c_get_915e3 cw_X2_68 rfl ⟨(Nat.le_of_ble_eq_true rfl), (Nat.le_of_ble_eq_true rfl)⟩ rfl rfl rfl (Nat.le_of_ble_eq_true rfl) l3 (ct_lget l hget) (fun r h3 q => ?_)
        obtain ⟨q0, rfl⟩ := q
        rw [q0]
        refine wp_cast dX2_closeAll_22 ck_X2_78 (c.at (m6 k hmem) (by decide)) rfl ca_X5_X5 ?_
        refine wp_getf dX2_closeAll_25 fl_X2_180 (c.at (m6 k hmem) (by decide)) rfl ?_
        refine wp_iload_n dX2_closeAll_28 rfl ?_
        refine wp_icmp_ne (tgt := 41) dX2_closeAll_29 rfl (fun c_29 => ?_) (fun c_29 => ?_)
        · have hne : p.2.1 11 k ≠ v := fun e => c_29 (by rw [e])
          refine wp_iinc dX2_closeAll_41 rfl rfl ?_
          refine wp_goto (tgt := 10) dX2_closeAll_44 rfl ?_
          rw [dec1]
          rw [if_pos (by simp [hne])] at ih
          refine ih h2 (by omega) c s ?_
          rw [List.append_assoc] at l
          exact l
        · have he : p.2.1 11 k = v := (nI_eq (by omega) (by omega)).mp c_29
          refine wp_aload_n dX2_closeAll_32 rfl ?_
          refine wp_getf dX2_closeAll_33 fl_X2_27 (c.at m1 (by decide)) rfl ?_
          refine wp_iload_n dX2_closeAll_36 rfl ?_
          refine wp_callV (As := [.int (nI i)]) (rest := []) dX2_closeAll_37 me_Jx4a65c_remove_915e3 cw_X2_214 rfl ⟨(Nat.le_of_ble_eq_true rfl), (Nat.le_of_ble_eq_true rfl)⟩ rfl rfl rfl (Nat.le_of_ble_eq_true rfl) l3 (ct_lremove l hget (fun y hy => ?hel)) (fun r h4 q => ?_)
          case hel =>
            obtain ⟨k2, hk2, rfl⟩ := List.mem_map.mp hy
            have : k2 ∈ opn p := by
              rcases List.mem_append.mp hk2 with z | z
              · rcases List.mem_append.mp z with z | z
                · exact List.mem_of_mem_take z
                · rw [List.mem_singleton.mp z]; exact hmem
              · exact List.mem_of_mem_drop (List.mem_filter.mp z).1
            exact ⟨9, 6, _, _, c.at (m6 k2 this) (by decide), rfl, ca_X5_Object⟩
          obtain ⟨rfl, q1, q2, q3⟩ := q
          refine wp_pop dX2_closeAll_40 rfl ?_
          refine wp_iinc dX2_closeAll_41 rfl rfl ?_
          refine wp_goto (tgt := 10) dX2_closeAll_44 rfl ?_
          rw [dec1]
          rw [if_neg (by simp [he])] at ih
          refine ih h4 (by omega) (c.trans q2) (by rw [q3, s]) ?_
          have e5 := eraseIdx_mid (((opn p).take i).map oa) ((((opn p).drop (i + 1)).filter (fun k => p.2.1 11 k != v)).map oa) (oa k)
          rw [List.length_map, hlt1] at e5
          rw [List.append_assoc, List.map_append, List.singleton_append, List.map_cons, e5] at q1
          rw [List.map_append]
          exact q1
  refine loop (opn p).length h (Nat.le_refl _) cf.refl rfl ?_
  rw [List.take_length, List.drop_length, List.filter_nil, List.append_nil]
  exact m5
end CH
