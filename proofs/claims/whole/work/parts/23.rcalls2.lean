/-! the reference: move of wire 1, deliver, increment, cancel -/
/-- what hearing leaves alone -/
def r_hk (p q : rs) : Prop := (∀ x, x ≠ 12 → q.1 x = p.1 x) ∧ (∀ j, j ≠ 13 → q.2.1 j = p.2.1 j) ∧ q.2.2 = p.2.2
theorem r_hr_hk {kind v : Nat} : ∀ (n k : Nat) (p : rs), r_hk p (r_hr kind v n k p) := by
  intro n
  induction n with
  | zero => intro k p; exact ⟨fun _ _ => rfl, fun _ _ => rfl, rfl⟩
  | succ n ih =>
    intro k p
    rw [r_hr]
    split
    · split
      · exact ⟨fun x hx => by simp [r_si, r_sa, hx], fun j hj => by funext i; simp [r_si, r_sa, hj], rfl⟩
      · obtain ⟨a, b, c⟩ := ih (k + 1) (r_sa p 13 k 0)
        exact ⟨a, fun j hj => (b j hj).trans (by funext i; simp [r_sa, hj]), c⟩
    · exact ih (k + 1) p
theorem r_hr_ok {kind v B : Nat} (hB : B < 2 ^ 30) : ∀ (n k : Nat) (p : rs), rok p → (∀ i, k ≤ i → i < k + n → p.2.1 12 i ≤ B) → rok (r_hr kind v n k p) ∧ (r_hr kind v n k p).1 12 ≤ max (p.1 12) B := by
  intro n
  induction n with
  | zero => intro k p ok _; exact ⟨ok, Nat.le_max_left _ _⟩
  | succ n ih =>
    intro k p ok hb
    have b0 := hb k (Nat.le_refl _) (by omega)
    have o12 := ok.1 12
    rw [r_hr]
    split
    · split
      · refine ⟨(ok.sa (by decide)).si (by omega), ?_⟩
        show max (p.2.1 12 k) (p.1 12) ≤ _
        omega
      · exact ih (k + 1) (r_sa p 13 k 0) (ok.sa (by decide)) (fun i h1 h2 => hb i (by omega) (by omega))
    · exact ih (k + 1) p ok (fun i h1 h2 => hb i (by omega) (by omega))
theorem r_hear_hk (p : rs) (kind v : Nat) : r_hk p (r_hear p kind v) := by
  unfold r_hear
  split
  · exact ⟨fun x hx => by simp [r_si, hx], fun _ _ => rfl, rfl⟩
  · exact r_hr_hk _ _ _
/-- what holds of what goes back -/
def r_B (p : rs) : Prop := rok p ∧ p.1 28 ≤ 200 ∧ p.1 19 ≤ 2000 ∧ p.1 23 ≤ p.1 19 ∧ (∀ i, i < p.1 19 → (p.2.1 8 i = 1 ∨ p.2.1 8 i = 2 ∨ p.2.1 8 i = 3) ∧ p.2.1 9 i ≤ 2400) ∧ p.1 12 ≤ 2400 * (p.1 23 + 1) ∧ ∀ k, k < p.1 28 → p.2.1 12 k ≤ 2400
theorem r_B.hear1 {p : rs} (h : r_B p) (hlt : p.1 23 < p.1 19) : r_B (r_hear1 p) ∧ (r_hear1 p).1 23 = p.1 23 + 1 ∧ (∀ x, x ≠ 12 → x ≠ 23 → (r_hear1 p).1 x = p.1 x) ∧ (∀ j, j ≠ 13 → (r_hear1 p).2.1 j = p.2.1 j) ∧ (r_hear1 p).2.2 = p.2.2 := by
  obtain ⟨ok, h1, h2, h3, h4, h5, h6⟩ := h
  obtain ⟨hk, hv⟩ := h4 _ hlt
  have hh := r_hear_hk p (p.2.1 8 (p.1 23)) (p.2.1 9 (p.1 23))
  have key : rok (r_hear p (p.2.1 8 (p.1 23)) (p.2.1 9 (p.1 23))) ∧ (r_hear p (p.2.1 8 (p.1 23)) (p.2.1 9 (p.1 23))).1 12 ≤ max (p.1 12) 2400 + 2400 := by
    unfold r_hear
    split
    · refine ⟨ok.si (by omega), ?_⟩
      show p.1 12 + _ ≤ _
      omega
    · obtain ⟨a, b⟩ := r_hr_ok (kind := p.2.1 8 (p.1 23)) (v := p.2.1 9 (p.1 23)) (B := 2400) (by decide) (p.1 28) 0 p ok (fun i _ hi => h6 i (by omega))
      exact ⟨a, by omega⟩
  have ek : ∀ x, x ≠ 12 → x ≠ 23 → (r_hear1 p).1 x = p.1 x := by
    intro x a b
    have : (r_hear1 p).1 x = (r_hear p (p.2.1 8 (p.1 23)) (p.2.1 9 (p.1 23))).1 x := by simp [r_hear1, r_si, b]
    rw [this, hh.1 x a]
  have ea : ∀ j, j ≠ 13 → (r_hear1 p).2.1 j = p.2.1 j := fun j hj => hh.2.1 j hj
  have e12 : (r_hear1 p).1 12 = (r_hear p (p.2.1 8 (p.1 23)) (p.2.1 9 (p.1 23))).1 12 := rfl
  have e23 : (r_hear1 p).1 23 = p.1 23 + 1 := rfl
  refine ⟨⟨key.1.si (by omega), ?_, ?_, ?_, ?_, ?_, ?_⟩, e23, ek, ea, hh.2.2⟩
  · rw [ek 28 (by decide) (by decide)]; exact h1
  · rw [ek 19 (by decide) (by decide)]; exact h2
  · rw [e23, ek 19 (by decide) (by decide)]; omega
  · rw [ek 19 (by decide) (by decide), ea 8 (by decide), ea 9 (by decide)]; exact h4
  · rw [e12, e23]; omega
  · rw [ek 28 (by decide) (by decide), ea 12 (by decide)]; exact h6
def r_mvNo (x y : Int32) : Prop := ¬ ((x = nI 0 ∨ x = nI 1) ∧ ∃ n, n ≤ 6000 ∧ y = nI n)
section RC2
variable {G : fp_G} {h0 : fp_H} {m : Nat}
theorem w_mv1 {p : rs} {n : Nat} {Q : Option Value → fp_H → Prop} (hB : r_B p) (hn : n ≤ 6000) (hht : p.1 18 ≤ p.1 16) (h16 : p.1 16 ≤ 4000) (hQ : Q (some (.int (nI (min (p.1 16 - p.1 18) n)))) (r_hp h0 m (r_mv1 p n))) :
    fp_wp G rm_X11_move M_X11_move 27 [some (.ref m), some (.int (nI 1)), some (.int (nI n)), none, none] [] (r_hp h0 m p) Q := by
  have main : ∀ now : Nat, now = min (p.1 16 - p.1 18) n → fp_wp G rm_X11_move M_X11_move 53 [some (.ref m), some (.int (nI 1)), some (.int (nI n)), none, none] [.int (nI now)] (r_hp h0 m p) Q := by
    intro now hnow
    refine wp_istore_n dX11_move_53 (Nat.le_of_ble_eq_true rfl) rfl ?_
    refine wp_aload_n dX11_move_54 rfl ?_
    refine wp_dup dX11_move_55 rfl ?_
    refine wr_geti 18 dX11_move_56 fl_X11_222 ⟨by decide, rfl⟩ ?_
    refine wp_iload_n dX11_move_59 rfl ?_
    refine wp_iadd dX11_move_60 ?_
    refine wr_puti dX11_move_61 (fs_X11_222 _) ⟨by decide, rfl⟩ (nI_add _ _) ?_
    have hB1 : r_B (r_si p 18 (p.1 18 + now)) := by
      obtain ⟨ok, h1, h2, h3, h4, h5, h6⟩ := hB
      exact ⟨ok.si (by omega), h1, h2, h3, h4, h5, h6⟩
    have hmv : r_mv1 p n = r_hears (p.1 19 - p.1 23) (r_si p 18 (p.1 18 + now)) := by rw [r_mv1, hnow]
    rw [hmv, ← hnow] at hQ
    generalize hp1 : r_si p 18 (p.1 18 + now) = p1 at hB1 hQ ⊢
    have a19 : p1.1 19 = p.1 19 := by rw [← hp1]; rfl
    have a23 : p1.1 23 = p.1 23 := by rw [← hp1]; rfl
    have hle := hB.2.2.2.1
    have loop : ∀ (k : Nat) (q : rs), r_B q → q.1 19 = p.1 19 → q.1 23 + k = p.1 19 → Q (some (.int (nI now))) (r_hp h0 m (r_hears k q)) → fp_wp G rm_X11_move M_X11_move 64 [some (.ref m), some (.int (nI 1)), some (.int (nI n)), some (.int (nI now)), none] [] (r_hp h0 m q) Q := by
      intro k
      induction k with
      | zero =>
        intro q hq e19 ek hQq
        have b := hq.2.2.1
        refine wp_aload_n dX11_move_64 rfl ?_
        refine wr_geti 23 dX11_move_65 fl_X11_225 ⟨by decide, rfl⟩ ?_
        refine wp_aload_n dX11_move_68 rfl ?_
        refine wr_geti 19 dX11_move_69 fl_X11_207 ⟨by decide, rfl⟩ ?_
        refine wp_icmp_ge (tgt := 126) dX11_move_72 rfl (fun c_72 => ?_) (fun c_72 => ?_)
        · refine wp_iload_n dX11_move_126 rfl ?_
          refine wp_iret dX11_move_127 rfl rfl ?_
          exact hQq
        · exact absurd (nI_le (show q.1 19 ≤ q.1 23 by omega) (by omega)) c_72
      | succ k ih =>
        intro q hq e19 ek hQq
        have b := hq.2.2.1
        have okq := hq.1
        have hlt : q.1 23 < q.1 19 := by omega
        have h10 := okq.2.1 10 (q.1 23)
        have o18 := okq.1 18
        obtain ⟨hkd, hnm⟩ := hq.2.2.2.2.1 _ hlt
        refine wp_aload_n dX11_move_64 rfl ?_
        refine wr_geti 23 dX11_move_65 fl_X11_225 ⟨by decide, rfl⟩ ?_
        refine wp_aload_n dX11_move_68 rfl ?_
        refine wr_geti 19 dX11_move_69 fl_X11_207 ⟨by decide, rfl⟩ ?_
        refine wp_icmp_ge (tgt := 126) dX11_move_72 rfl (fun c_72 => ?_) (fun c_72 => ?_)
        · exact absurd c_72 (nI_ge hlt (by omega))
        · refine wp_aload_n dX11_move_75 rfl ?_
          refine wr_geta 22 10 dX11_move_76 fl_X11_43 ⟨by decide, rfl⟩ ?_
          refine wp_aload_n dX11_move_79 rfl ?_
          refine wr_geti 23 dX11_move_80 fl_X11_225 ⟨by decide, rfl⟩ ?_
          refine wr_iald dX11_move_83 ⟨by decide, rfl⟩ rfl (by show q.1 23 < 2000; omega) (by decide) ?_
          refine wp_aload_n dX11_move_84 rfl ?_
          refine wr_geti 18 dX11_move_85 fl_X11_222 ⟨by decide, rfl⟩ ?_
          refine wp_icmp_gt (tgt := 126) dX11_move_88 rfl (fun c_88 => ?_) (fun c_88 => ?_)
          · have : ¬ q.2.1 10 (q.1 23) ≤ q.1 18 := by
              have := (nI_ltI (by omega) (by omega)).mp c_88
              omega
            rw [r_hears, if_neg this] at hQq
            refine wp_iload_n dX11_move_126 rfl ?_
            refine wp_iret dX11_move_127 rfl rfl ?_
            exact hQq
          · have hle2 : q.2.1 10 (q.1 23) ≤ q.1 18 := by
              rcases Nat.lt_or_ge (q.1 18) (q.2.1 10 (q.1 23)) with z | z
              · exact absurd (nI_lt z (by omega)) c_88
              · exact z
            rw [r_hears, if_pos hle2] at hQq
            obtain ⟨g1, g2, g3, g4, g5⟩ := hq.hear1 hlt
            have hh := r_hear_hk q (q.2.1 8 (q.1 23)) (q.2.1 9 (q.1 23))
            refine wp_aload_n dX11_move_91 rfl ?_
            refine wp_aload_n dX11_move_92 rfl ?_
            refine wr_geta 20 8 dX11_move_93 fl_X11_37 ⟨by decide, rfl⟩ ?_
            refine wp_aload_n dX11_move_96 rfl ?_
            refine wr_geti 23 dX11_move_97 fl_X11_225 ⟨by decide, rfl⟩ ?_
            refine wr_iald dX11_move_100 ⟨by decide, rfl⟩ rfl (by show q.1 23 < 2000; omega) (by decide) ?_
            refine wp_aload_n dX11_move_101 rfl ?_
            refine wr_geta 21 9 dX11_move_102 fl_X11_40 ⟨by decide, rfl⟩ ?_
            refine wp_aload_n dX11_move_105 rfl ?_
            refine wr_geti 23 dX11_move_106 fl_X11_225 ⟨by decide, rfl⟩ ?_
            refine wr_iald dX11_move_109 ⟨by decide, rfl⟩ rfl (by show q.1 23 < 2000; omega) (by decide) ?_
            refine wp_callV (As := [.int (nI (q.2.1 8 (q.1 23))), .int (nI (q.2.1 9 (q.1 23)))]) (rest := []) dX11_move_110 me_X11_hear cw_X11_228 rfl ⟨(Nat.le_of_ble_eq_true rfl), (Nat.le_of_ble_eq_true rfl)⟩ rfl rfl rfl (Nat.le_of_ble_eq_true rfl) r_at_m (ct_hear okq hkd (by omega) hq.2.1) (fun r h1 z => ?_)
            obtain ⟨rfl, rfl⟩ := z
            refine wp_aload_n dX11_move_113 rfl ?_
            refine wp_dup dX11_move_114 rfl ?_
            refine wr_geti 23 dX11_move_115 fl_X11_225 ⟨by decide, rfl⟩ ?_
            refine wp_iconst (v := 1) dX11_move_118 rfl ?_
            refine wp_iadd dX11_move_119 ?_
            refine wr_puti dX11_move_120 (fs_X11_225 _) ⟨by decide, rfl⟩ (nI_1 _) ?_
            refine wp_goto (tgt := 64) dX11_move_123 rfl ?_
            refine fp_wp_h (h' := r_hp h0 m (r_hear1 q)) (by rw [hh.1 23 (by decide)]; rfl) ?_
            exact ih (r_hear1 q) g1 (by rw [g3 19 (by decide) (by decide), e19]) (by omega) hQq
    exact loop (p.1 19 - p.1 23) p1 hB1 a19 (by omega) hQ
  refine wp_aload_n dX11_move_27 rfl ?_
  refine wr_geti 16 dX11_move_28 fl_X11_107 ⟨by decide, rfl⟩ ?_
  refine wp_aload_n dX11_move_31 rfl ?_
  refine wr_geti 18 dX11_move_32 fl_X11_222 ⟨by decide, rfl⟩ ?_
  refine wp_isub dX11_move_35 ?_
  rw [pk_sub hht]
  refine wp_iload_n dX11_move_36 rfl ?_
  refine wp_icmp_ge (tgt := 52) dX11_move_37 rfl (fun c_37 => ?_) (fun c_37 => ?_)
  · have : n ≤ p.1 16 - p.1 18 := (nI_leI (by omega) (by omega)).mp c_37
    refine wp_iload_n dX11_move_52 rfl ?_
    exact main n (by omega)
  · have : ¬ n ≤ p.1 16 - p.1 18 := fun z => c_37 (nI_le z (by omega))
    refine wp_aload_n dX11_move_40 rfl ?_
    refine wr_geti 16 dX11_move_41 fl_X11_107 ⟨by decide, rfl⟩ ?_
    refine wp_aload_n dX11_move_44 rfl ?_
    refine wr_geti 18 dX11_move_45 fl_X11_222 ⟨by decide, rfl⟩ ?_
    refine wp_isub dX11_move_48 ?_
    rw [pk_sub hht]
    refine wp_goto (tgt := 53) dX11_move_49 rfl ?_
    exact main _ (by omega)
theorem ct_move {p : rs} {x y : Int32} (hD : r_D p) (hB : r_B p) (hcs : p.1 15 ≤ p.1 13) (hs : p.1 13 ≤ 60000) (h8 : ∀ i, i < p.1 28 → p.2.1 11 i < 8) (hht : p.1 18 ≤ p.1 16) (h16 : p.1 16 + r_wn p ≤ 4000) (h19 : p.1 19 + r_wn p ≤ 2000) :
    fp_ct G rm_X11_move M_X11_move [.ref m, .int x, .int y] (r_hp h0 m p) (fun r h' => (r_mvNo x y ∧ r = some (.int (-1)) ∧ h' = r_hp h0 m p) ∨ (∃ n, n ≤ 6000 ∧ y = nI n ∧ x = nI 0 ∧ r = some (.int (nI (min (p.1 13 - p.1 15) n))) ∧ h' = r_hp h0 m (r_mv0 p n)) ∨ (∃ n, n ≤ 6000 ∧ y = nI n ∧ x = nI 1 ∧ r = some (.int (nI (min (p.1 16 - p.1 18) n))) ∧ h' = r_hp h0 m (r_mv1 p n))) := by
  refine fp_meth pn_X11 (Nat.le_of_ble_eq_true rfl) rfl ?_
  refine wp_eqL (L' := [some (.ref m), some (.int x), some (.int y), none, none]) rfl ?_
  have no : r_mvNo x y → fp_wp G rm_X11_move M_X11_move 20 [some (.ref m), some (.int x), some (.int y), none, none] [] (r_hp h0 m p) (fun r h' => (r_mvNo x y ∧ r = some (.int (-1)) ∧ h' = r_hp h0 m p) ∨ (∃ n, n ≤ 6000 ∧ y = nI n ∧ x = nI 0 ∧ r = some (.int (nI (min (p.1 13 - p.1 15) n))) ∧ h' = r_hp h0 m (r_mv0 p n)) ∨ (∃ n, n ≤ 6000 ∧ y = nI n ∧ x = nI 1 ∧ r = some (.int (nI (min (p.1 16 - p.1 18) n))) ∧ h' = r_hp h0 m (r_mv1 p n))) := by
    intro hn
    refine wp_iconst (v := (-1)) dX11_move_20 rfl ?_
    refine wp_iret dX11_move_21 rfl rfl ?_
    exact Or.inl ⟨hn, rfl, rfl⟩
  refine wp_iload_n dX11_move_0 rfl ?_
  refine wp_if_lt (tgt := 20) dX11_move_1 rfl (fun c_1 => ?_) (fun c_1 => ?_)
  · refine no ?_
    rintro ⟨rfl | rfl, -⟩
    · exact absurd c_1 (by decide)
    · exact absurd c_1 (by decide)
  · refine wp_iload_n dX11_move_4 rfl ?_
    refine wp_iconst (v := 1) dX11_move_5 rfl ?_
    refine wp_icmp_gt (tgt := 20) dX11_move_6 rfl (fun c_6 => ?_) (fun c_6 => ?_)
    · refine no ?_
      rintro ⟨rfl | rfl, -⟩
      · exact absurd c_6 (by decide)
      · exact absurd c_6 (by decide)
    · have hx : x = nI 0 ∨ x = nI 1 := by
        obtain ⟨j, hj, rfl⟩ := nI_of c_1
        have : j ≤ 1 := by
          rcases Nat.lt_or_ge 1 j with q | q
          · exact absurd (nI_lt (a := 1) q hj) c_6
          · exact q
        rcases (show j = 0 ∨ j = 1 by omega) with rfl | rfl
        · exact Or.inl rfl
        · exact Or.inr rfl
      refine wp_iload_n dX11_move_9 rfl ?_
      refine wp_if_lt (tgt := 20) dX11_move_10 rfl (fun c_10 => ?_) (fun c_10 => ?_)
      · refine no ?_
        rintro ⟨-, n, hn, rfl⟩
        exact nI_pos (by omega) c_10
      · refine wp_iload_n dX11_move_13 rfl ?_
        refine wp_sipush (v := 6000) dX11_move_14 rfl ?_
        refine wp_icmp_le (tgt := 22) dX11_move_17 rfl (fun c_17 => ?_) (fun c_17 => ?_)
        · obtain ⟨n, hn, rfl⟩ : ∃ n : Nat, n ≤ 6000 ∧ y = nI n := by
            obtain ⟨j, hj, rfl⟩ := nI_of c_10
            exact ⟨j, (nI_leI (b := 6000) hj (by decide)).mp c_17, rfl⟩
          rcases hx with rfl | rfl
          · refine wp_iload_n dX11_move_22 rfl ?_
            refine wp_iconst (v := 1) dX11_move_23 rfl ?_
            refine wp_icmp_ne (tgt := 128) dX11_move_24 rfl (fun c_24 => ?_) (fun c_24 => ?_)
            · exact w_mv0 hD hn hB.2.1 hcs hs h8 h16 h19 (Or.inr (Or.inl ⟨n, hn, rfl, rfl, rfl, rfl⟩))
            · exact absurd c_24 (by decide)
          · refine wp_iload_n dX11_move_22 rfl ?_
            refine wp_iconst (v := 1) dX11_move_23 rfl ?_
            refine wp_icmp_ne (tgt := 128) dX11_move_24 rfl (fun c_24 => ?_) (fun c_24 => ?_)
            · exact absurd rfl c_24
            · exact w_mv1 hB hn hht (by omega) (Or.inr (Or.inr ⟨n, hn, rfl, rfl, rfl, rfl⟩))
        · refine no ?_
          rintro ⟨-, n, hn, rfl⟩
          exact c_17 (nI_le (b := 6000) hn (by decide))
def r_del (p : rs) (k : Nat) : rs := r_goOn (r_sa p 14 k 1) (p.2.1 11 k)
theorem r_next_some {p : rs} {x : Int32} {k : Nat} (h : r_next p x = some k) : k < p.1 28 ∧ x = nI (p.2.1 11 k) ∧ p.2.1 14 k = 0 ∧ ∀ j, j < k → ¬ (nI (p.2.1 11 j) = x ∧ p.2.1 14 j = 0) := by
  rw [r_next, List.find?_range_eq_some] at h
  obtain ⟨h1, h2, h3⟩ := h
  simp [r_nx] at h1
  refine ⟨List.mem_range.mp h2, h1.1.symm, h1.2, fun j hj z => ?_⟩
  have := h3 j hj
  simp [r_nx, z.1, z.2] at this
theorem r_wn_del {p : rs} {k : Nat} (hk : k < p.1 28) (h0 : p.2.1 14 k = 0) : r_wn (r_sa p 14 k 1) = r_wn p + 1 := by
  have := cnt_drop (P := fun i => (r_sa p 14 k 1).2.1 14 i == 1) (P' := fun i => p.2.1 14 i == 1) (k := k) (by simp [r_sa]) (by simp [h0]) (fun i hi => by simp [r_sa, hi]) (p.1 28) hk
  exact this.symm
theorem ct_deliver {p : rs} {x : Int32} (ok : rok p) (hc : p.1 28 ≤ 200) (h8 : ∀ i, i < p.1 28 → p.2.1 11 i < 8) (h16 : p.1 16 + r_wn p < 4000) (h19 : p.1 19 + r_wn p < 2000) :
    fp_ct G rm_X11_deliver M_X11_deliver [.ref m, .int x] (r_hp h0 m p) (fun r h' => ((¬ ∃ k, r_next p x = some k ∧ r_lying p (p.2.1 11 k) 1 ≠ 8) ∧ r = some (.int (-1)) ∧ h' = r_hp h0 m p) ∨ ∃ k, r_next p x = some k ∧ r_lying p (p.2.1 11 k) 1 ≠ 8 ∧ r = some (.int (nI (b2n ((r_del p k).2.1 14 k == 2)))) ∧ h' = r_hp h0 m (r_del p k)) := by
  refine fp_meth pn_X11 (Nat.le_of_ble_eq_true rfl) rfl ?_
  refine wp_aload_n dX11_deliver_0 rfl ?_
  refine wp_iload_n dX11_deliver_1 rfl ?_
  refine wp_callV (As := [.int x]) (rest := []) dX11_deliver_2 me_X11_next cw_X11_240 rfl ⟨(Nat.le_of_ble_eq_true rfl), (Nat.le_of_ble_eq_true rfl)⟩ rfl rfl rfl (Nat.le_of_ble_eq_true rfl) r_at_m (ct_next ok hc) (fun r h1 q => ?_)
  obtain ⟨rfl, rfl⟩ := q
  cases hx : r_next p x with
  | none =>
    rw [show oI none = -1 from rfl]
    refine wp_istore_n dX11_deliver_5 (Nat.le_of_ble_eq_true rfl) rfl ?_
    refine wp_iload_n dX11_deliver_6 rfl ?_
    refine wp_iconst (v := (-1)) dX11_deliver_7 rfl ?_
    refine wp_icmp_eq (tgt := 22) dX11_deliver_8 rfl (fun c_8 => ?_) (fun c_8 => ?_)
    · refine wp_iconst (v := (-1)) dX11_deliver_22 rfl ?_
      refine wp_iret dX11_deliver_23 rfl rfl ?_
      exact Or.inl ⟨(by rintro ⟨k, hk, _⟩; cases hk), rfl, rfl⟩
    · exact absurd rfl c_8
  | some k =>
    obtain ⟨hk, hxk, h14, -⟩ := r_next_some hx
    have h11 := h8 k hk
    have hly : r_lying p (p.2.1 11 k) 1 ≤ 200 := Nat.le_trans (cnt_le _ _) hc
    rw [show oI (some k) = nI k from rfl]
    subst hxk
    refine wp_istore_n dX11_deliver_5 (Nat.le_of_ble_eq_true rfl) rfl ?_
    refine wp_iload_n dX11_deliver_6 rfl ?_
    refine wp_iconst (v := (-1)) dX11_deliver_7 rfl ?_
    refine wp_icmp_eq (tgt := 22) dX11_deliver_8 rfl (fun c_8 => ?_) (fun c_8 => ?_)
    · exact absurd c_8 (nI_m1 (by omega))
    · refine wp_aload_n dX11_deliver_11 rfl ?_
      refine wp_iload_n dX11_deliver_12 rfl ?_
      refine wp_iconst (v := 1) dX11_deliver_13 rfl ?_
      refine wp_callV (As := [.int (nI (p.2.1 11 k)), .int (nI 1)]) (rest := []) dX11_deliver_14 me_X11_lying cw_X11_192 rfl ⟨(Nat.le_of_ble_eq_true rfl), (Nat.le_of_ble_eq_true rfl)⟩ rfl rfl rfl (Nat.le_of_ble_eq_true rfl) r_at_m (ct_lying ok (by omega) (by decide) hc) (fun r h1 q => ?_)
      obtain ⟨rfl, rfl⟩ := q
      refine wp_bipush (v := 8) dX11_deliver_17 rfl ?_
      refine wp_icmp_ne (tgt := 24) dX11_deliver_19 rfl (fun c_19 => ?_) (fun c_19 => ?_)
      · have hne : r_lying p (p.2.1 11 k) 1 ≠ 8 := fun e => c_19 (by rw [e]; rfl)
        have hwn := r_wn_del hk h14
        have okd : rok (r_sa p 14 k 1) := ok.sa (by decide)
        have gk := r_go_gk (s := p.2.1 11 k) (p.1 28) 0 (r_sa p 14 k 1) (Nat.zero_add _) h8
        have gok := gk.2.2.2.2.2 okd (by show p.1 16 + _ ≤ _; omega) (by show p.1 19 + _ ≤ _; omega) h8
        refine wp_aload_n dX11_deliver_24 rfl ?_
        refine wr_geta 32 14 dX11_deliver_25 fl_X11_55 ⟨by decide, rfl⟩ ?_
        refine wp_iload_n dX11_deliver_28 rfl ?_
        refine wp_iconst (v := 1) dX11_deliver_29 rfl ?_
        refine wr_iast dX11_deliver_30 ⟨by decide, rfl⟩ rfl (by show k < 200; omega) (by decide) (show (1 : Int32) = nI 1 from rfl) ?_
        refine wp_aload_n dX11_deliver_31 rfl ?_
        refine wp_iload_n dX11_deliver_32 rfl ?_
        refine wp_callV (As := [.int (nI (p.2.1 11 k))]) (rest := []) dX11_deliver_33 me_X11_goOn cw_X11_237 rfl ⟨(Nat.le_of_ble_eq_true rfl), (Nat.le_of_ble_eq_true rfl)⟩ rfl rfl rfl (Nat.le_of_ble_eq_true rfl) r_at_m (ct_goOn okd (by omega) hc h8 (by show p.1 16 + _ ≤ _; omega) (by show p.1 19 + _ ≤ _; omega)) (fun r h1 q => ?_)
        obtain ⟨rfl, rfl⟩ := q
        have hrd : r_goOn (r_sa p 14 k 1) (p.2.1 11 k) = r_del p k := rfl
        have hgo : rok (r_del p k) := gok
        have hst := hgo.2.1 14 k
        rw [hrd]
        refine wp_aload_n dX11_deliver_36 rfl ?_
        refine wr_geta 32 14 dX11_deliver_37 fl_X11_55 ⟨by decide, rfl⟩ ?_
        refine wp_iload_n dX11_deliver_40 rfl ?_
        refine wr_iald dX11_deliver_41 ⟨by decide, rfl⟩ rfl (by show k < 200; omega) (by decide) ?_
        refine wp_iconst (v := 2) dX11_deliver_42 rfl ?_
        refine wp_icmp_ne (tgt := 50) dX11_deliver_43 rfl (fun c_43 => ?_) (fun c_43 => ?_)
        · have : (r_del p k).2.1 14 k ≠ 2 := fun e => c_43 (by rw [e]; rfl)
          refine wp_iconst (v := 0) dX11_deliver_50 rfl ?_
          refine wp_iret dX11_deliver_51 rfl rfl ?_
          exact Or.inr ⟨k, rfl, hne, by rw [show ((r_del p k).2.1 14 k == 2) = false by simp [this]]; rfl, rfl⟩
        · have : (r_del p k).2.1 14 k = 2 := (nI_eq (b := 2) (by omega) (by decide)).mp c_43
          refine wp_iconst (v := 1) dX11_deliver_46 rfl ?_
          refine wp_goto (tgt := 51) dX11_deliver_47 rfl ?_
          refine wp_iret dX11_deliver_51 rfl rfl ?_
          exact Or.inr ⟨k, rfl, hne, by rw [show ((r_del p k).2.1 14 k == 2) = true by simp [this]]; rfl, rfl⟩
      · have he : r_lying p (p.2.1 11 k) 1 = 8 := (nI_eq (b := 8) (by omega) (by decide)).mp c_19
        refine wp_iconst (v := (-1)) dX11_deliver_22 rfl ?_
        refine wp_iret dX11_deliver_23 rfl rfl ?_
        exact Or.inl ⟨(by rintro ⟨k', hk', hn⟩; cases hk'; exact hn he), rfl, rfl⟩
def r_inc (p : rs) : rs := r_si (r_tell p 3 (p.1 24 - p.1 27)) 27 (p.1 24)
theorem ct_increment {p : rs} (ok : rok p) (h24 : p.1 24 ≤ 2400) (h16 : p.1 16 + 6 ≤ 4000) (h19 : p.1 19 < 2000) : fp_ct G rm_X11_increment M_X11_increment [.ref m] (r_hp h0 m p) (fun r h' => (p.1 24 ≤ p.1 27 ∧ r = some (.int 0) ∧ h' = r_hp h0 m p) ∨ (p.1 27 < p.1 24 ∧ r = some (.int (nI (p.1 24 - p.1 27))) ∧ h' = r_hp h0 m (r_inc p))) := by
  have o27 := ok.1 27
  refine fp_meth pn_X11 (Nat.le_of_ble_eq_true rfl) rfl ?_
  by_cases hle : p.1 27 < p.1 24
  · have hlen := r_tb_len 3 (p.1 24 - p.1 27)
    refine wp_aload_n dX11_increment_0 rfl ?_
    refine wr_geti 24 dX11_increment_1 fl_X11_216 ⟨by decide, rfl⟩ ?_
    refine wp_aload_n dX11_increment_4 rfl ?_
    refine wr_geti 27 dX11_increment_5 fl_X11_213 ⟨by decide, rfl⟩ ?_
    refine wp_isub dX11_increment_8 ?_
    rw [pk_sub (Nat.le_of_lt hle)]
    refine wp_istore_n dX11_increment_9 (Nat.le_of_ble_eq_true rfl) rfl ?_
    refine wp_iload_n dX11_increment_10 rfl ?_
    refine wp_if_gt (tgt := 16) dX11_increment_11 rfl (fun c_11 => ?_) (fun c_11 => ?_)
    · refine wp_aload_n dX11_increment_16 rfl ?_
      refine wp_iconst (v := 3) dX11_increment_17 rfl ?_
      refine wp_iload_n dX11_increment_18 rfl ?_
      refine wp_callV (As := [.int (nI 3), .int (nI (p.1 24 - p.1 27))]) (rest := []) dX11_increment_19 me_X11_tell cw_X11_210 rfl ⟨(Nat.le_of_ble_eq_true rfl), (Nat.le_of_ble_eq_true rfl)⟩ rfl rfl rfl (Nat.le_of_ble_eq_true rfl) r_at_m (ct_tell (Or.inr (Or.inr rfl)) (by omega) (by omega) h19) (fun r h1 q => ?_)
      obtain ⟨rfl, rfl⟩ := q
      have t24 : (r_tell p 3 (p.1 24 - p.1 27)).1 24 = p.1 24 := r_tell_k (by decide) (by decide)
      refine wp_aload_n dX11_increment_22 rfl ?_
      refine wp_aload_n dX11_increment_23 rfl ?_
      refine wr_geti 24 dX11_increment_24 fl_X11_216 ⟨by decide, rfl⟩ ?_
      refine wr_puti dX11_increment_27 (fs_X11_213 _) ⟨by decide, rfl⟩ rfl ?_
      refine wp_iload_n dX11_increment_30 rfl ?_
      refine wp_iret dX11_increment_31 rfl rfl ?_
      refine Or.inr ⟨hle, rfl, ?_⟩
      rw [r_inc, t24]
    · exact absurd (nI_lt (a := 0) (show 0 < p.1 24 - p.1 27 by omega) (by omega)) c_11
  · refine wp_aload_n dX11_increment_0 rfl ?_
    refine wr_geti 24 dX11_increment_1 fl_X11_216 ⟨by decide, rfl⟩ ?_
    refine wp_aload_n dX11_increment_4 rfl ?_
    refine wr_geti 27 dX11_increment_5 fl_X11_213 ⟨by decide, rfl⟩ ?_
    refine wp_isub dX11_increment_8 ?_
    refine wp_istore_n dX11_increment_9 (Nat.le_of_ble_eq_true rfl) rfl ?_
    refine wp_iload_n dX11_increment_10 rfl ?_
    refine wp_if_gt (tgt := 16) dX11_increment_11 rfl (fun c_11 => ?_) (fun c_11 => ?_)
    · exfalso
      rw [Int32.lt_iff_toInt_lt, pk_sub_toInt (by omega) (by omega)] at c_11
      have h0' : (0 : Int32).toInt = 0 := by decide
      omega
    · refine wp_iconst (v := 0) dX11_increment_14 rfl ?_
      refine wp_iret dX11_increment_15 rfl rfl ?_
      exact Or.inl ⟨by omega, rfl, rfl⟩
/-- a stream is given up: n sections from k on are looked at -/
def r_cn (s : Nat) : Nat → Nat → rs → rs
  | 0, _, p => p
  | n + 1, k, p => r_cn s n (k + 1) (if p.2.1 11 k = s ∧ p.2.1 14 k < 2 then r_sa p 14 k 3 else p)
def r_cnN (p : rs) (s n : Nat) : Nat := ((List.range n).filter (fun k => p.2.1 11 k == s && decide (p.2.1 14 k < 2))).length
def r_can (p : rs) (s : Nat) : rs := r_tell (r_cn s (p.1 28) 0 (r_sa p 24 s 1)) 2 s
theorem r_cn_k {s : Nat} : ∀ (n k : Nat) (p : rs), (r_cn s n k p).1 = p.1 ∧ (∀ j, j ≠ 14 → (r_cn s n k p).2.1 j = p.2.1 j) ∧ (r_cn s n k p).2.2 = p.2.2 ∧ (rok p → rok (r_cn s n k p)) := by
  intro n
  induction n with
  | zero => intro k p; exact ⟨rfl, fun _ _ => rfl, rfl, id⟩
  | succ n ih =>
    intro k p
    rw [r_cn]
    split
    · obtain ⟨a, b, c, d⟩ := ih (k + 1) (r_sa p 14 k 3)
      exact ⟨a, fun j hj => (b j hj).trans (by funext i; simp [r_sa, hj]), c, fun ok => d (ok.sa (by decide))⟩
    · exact ih (k + 1) p
theorem ct_cancel {p : rs} {x : Int32} (ok : rok p) (hc : p.1 28 ≤ 200) (h16 : p.1 16 + 6 ≤ 4000) (h19 : p.1 19 < 2000) :
    fp_ct G rm_X11_cancel M_X11_cancel [.ref m, .int x] (r_hp h0 m p) (fun r h' => ((¬ ∃ s, s < 8 ∧ x = nI s ∧ p.2.1 24 s = 0) ∧ r = some (.int (-1)) ∧ h' = r_hp h0 m p) ∨ ∃ s, s < 8 ∧ x = nI s ∧ p.2.1 24 s = 0 ∧ r = some (.int (nI (r_cnN p s (p.1 28)))) ∧ h' = r_hp h0 m (r_can p s)) := by
  refine fp_meth pn_X11 (Nat.le_of_ble_eq_true rfl) rfl ?_
  refine wp_eqL (L' := [some (.ref m), some (.int x), none, none]) rfl ?_
  have no : (¬ ∃ s, s < 8 ∧ x = nI s ∧ p.2.1 24 s = 0) → fp_wp G rm_X11_cancel M_X11_cancel 19 [some (.ref m), some (.int x), none, none] [] (r_hp h0 m p) (fun r h' => ((¬ ∃ s, s < 8 ∧ x = nI s ∧ p.2.1 24 s = 0) ∧ r = some (.int (-1)) ∧ h' = r_hp h0 m p) ∨ ∃ s, s < 8 ∧ x = nI s ∧ p.2.1 24 s = 0 ∧ r = some (.int (nI (r_cnN p s (p.1 28)))) ∧ h' = r_hp h0 m (r_can p s)) := by
    intro hn
    refine wp_iconst (v := (-1)) dX11_cancel_19 rfl ?_
    refine wp_iret dX11_cancel_20 rfl rfl ?_
    exact Or.inl ⟨hn, rfl, rfl⟩
  refine wp_iload_n dX11_cancel_0 rfl ?_
  refine wp_if_lt (tgt := 19) dX11_cancel_1 rfl (fun c_1 => ?_) (fun c_1 => ?_)
  · refine no ?_
    rintro ⟨s, hs, rfl, -⟩
    exact nI_pos (by omega) c_1
  · refine wp_iload_n dX11_cancel_4 rfl ?_
    refine wp_bipush (v := 8) dX11_cancel_5 rfl ?_
    refine wp_icmp_ge (tgt := 19) dX11_cancel_7 rfl (fun c_7 => ?_) (fun c_7 => ?_)
    · refine no ?_
      rintro ⟨s, hs, rfl, -⟩
      have := (nI_leI (a := 8) (by decide) (by omega)).mp c_7
      omega
    · obtain ⟨s, hs, rfl⟩ : ∃ s : Nat, s < 8 ∧ x = nI s := by
        obtain ⟨j, hj, rfl⟩ := nI_of c_1
        refine ⟨j, ?_, rfl⟩
        rcases Nat.lt_or_ge j 8 with q | q
        · exact q
        · exact absurd (nI_le (a := 8) q hj) c_7
      have h24 := ok.2.1 24 s
      refine wp_aload_n dX11_cancel_10 rfl ?_
      refine wr_geta 43 24 dX11_cancel_11 fl_X11_85 ⟨by decide, rfl⟩ ?_
      refine wp_iload_n dX11_cancel_14 rfl ?_
      refine wr_zald dX11_cancel_15 ⟨by decide, rfl⟩ rfl (by show s < 8; omega) (by decide) ?_
      refine wp_if_eq (tgt := 21) dX11_cancel_16 rfl (fun c_16 => ?_) (fun c_16 => ?_)
      · have hz : p.2.1 24 s = 0 := (nI_eq (b := 0) (by omega) (by decide)).mp c_16
        refine wp_aload_n dX11_cancel_21 rfl ?_
        refine wr_geta 43 24 dX11_cancel_22 fl_X11_85 ⟨by decide, rfl⟩ ?_
        refine wp_iload_n dX11_cancel_25 rfl ?_
        refine wp_iconst (v := 1) dX11_cancel_26 rfl ?_
        refine wr_zast dX11_cancel_27 ⟨by decide, rfl⟩ rfl (by show s < 8; omega) (by decide) (show (1 : Int32) = nI 1 from rfl) (by decide) ?_
        refine wp_iconst (v := 0) dX11_cancel_28 rfl ?_
        refine wp_istore_n dX11_cancel_29 (Nat.le_of_ble_eq_true rfl) rfl ?_
        refine wp_iconst (v := 0) dX11_cancel_30 rfl ?_
        refine wp_istore_n dX11_cancel_31 (Nat.le_of_ble_eq_true rfl) rfl ?_
        have hlen := r_tb_len 2 s
        have loop : ∀ (n k : Nat) (q : rs), rok q → q.1 28 = p.1 28 → q.1 16 = p.1 16 → q.1 19 = p.1 19 → q.2.1 11 = p.2.1 11 → (∀ i, k ≤ i → q.2.1 14 i = p.2.1 14 i) → k + n = p.1 28 → r_cn s n k q = r_cn s (p.1 28) 0 (r_sa p 24 s 1) → fp_wp G rm_X11_cancel M_X11_cancel 32 [some (.ref m), some (.int (nI s)), some (.int (nI (r_cnN p s k))), some (.int (nI k))] [] (r_hp h0 m q) (fun r h' => ((¬ ∃ s', s' < 8 ∧ nI s = nI s' ∧ p.2.1 24 s' = 0) ∧ r = some (.int (-1)) ∧ h' = r_hp h0 m p) ∨ ∃ s', s' < 8 ∧ nI s = nI s' ∧ p.2.1 24 s' = 0 ∧ r = some (.int (nI (r_cnN p s' (p.1 28)))) ∧ h' = r_hp h0 m (r_can p s')) := by
          intro n
          induction n with
          | zero =>
            intro k q okq e28 e16 e19 e11 e14 hkn hcn
            refine wp_iload_n dX11_cancel_32 rfl ?_
            refine wp_aload_n dX11_cancel_33 rfl ?_
            refine wr_geti 28 dX11_cancel_34 fl_X11_143 ⟨by decide, rfl⟩ ?_
            refine wp_icmp_ge (tgt := 76) dX11_cancel_37 rfl (fun c_37 => ?_) (fun c_37 => ?_)
            · refine wp_aload_n dX11_cancel_76 rfl ?_
              refine wp_iconst (v := 2) dX11_cancel_77 rfl ?_
              refine wp_iload_n dX11_cancel_78 rfl ?_
              refine wp_callV (As := [.int (nI 2), .int (nI s)]) (rest := []) dX11_cancel_79 me_X11_tell cw_X11_210 rfl ⟨(Nat.le_of_ble_eq_true rfl), (Nat.le_of_ble_eq_true rfl)⟩ rfl rfl rfl (Nat.le_of_ble_eq_true rfl) r_at_m (ct_tell (Or.inr (Or.inl rfl)) (by omega) (by omega) (by omega)) (fun r h1 z => ?_)
              obtain ⟨rfl, rfl⟩ := z
              refine wp_iload_n dX11_cancel_82 rfl ?_
              refine wp_iret dX11_cancel_83 rfl rfl ?_
              refine Or.inr ⟨s, hs, rfl, hz, ?_, ?_⟩
              · rw [show k = p.1 28 by omega]
              · rw [r_can, ← hcn]; rfl
            · exact absurd (nI_le (show q.1 28 ≤ k by omega) (by omega)) c_37
          | succ n ih =>
            intro k q okq e28 e16 e19 e11 e14 hkn hcn
            have hk200 : k < 200 := by omega
            have h11 := okq.2.1 11 k
            have h14 := okq.2.1 14 k
            have hcs : r_cnN p s (k + 1) = r_cnN p s k + b2n (q.2.1 11 k == s && decide (q.2.1 14 k < 2)) := by rw [e11, e14 k (Nat.le_refl _)]; exact cnt_s _ _
            rw [r_cn] at hcn
            have back : ¬ (q.2.1 11 k = s ∧ q.2.1 14 k < 2) → fp_wp G rm_X11_cancel M_X11_cancel 70 [some (.ref m), some (.int (nI s)), some (.int (nI (r_cnN p s k))), some (.int (nI k))] [] (r_hp h0 m q) (fun r h' => ((¬ ∃ s', s' < 8 ∧ nI s = nI s' ∧ p.2.1 24 s' = 0) ∧ r = some (.int (-1)) ∧ h' = r_hp h0 m p) ∨ ∃ s', s' < 8 ∧ nI s = nI s' ∧ p.2.1 24 s' = 0 ∧ r = some (.int (nI (r_cnN p s' (p.1 28)))) ∧ h' = r_hp h0 m (r_can p s')) := by
              intro hn
              rw [if_neg hn] at hcn
              refine wp_iinc dX11_cancel_70 rfl rfl ?_
              refine wp_goto (tgt := 32) dX11_cancel_73 rfl ?_
              rw [show nI k + Int32.ofInt 1 = nI (k + 1) from nI_1 k]
              have := ih (k + 1) q okq e28 e16 e19 e11 (fun i hi => e14 i (by omega)) (by omega) hcn
              rw [hcs, show (q.2.1 11 k == s && decide (q.2.1 14 k < 2)) = false by
                cases hx : (q.2.1 11 k == s && decide (q.2.1 14 k < 2)) with
                | false => rfl
                | true => simp at hx; exact absurd hx hn] at this
              exact this
            refine wp_iload_n dX11_cancel_32 rfl ?_
            refine wp_aload_n dX11_cancel_33 rfl ?_
            refine wr_geti 28 dX11_cancel_34 fl_X11_143 ⟨by decide, rfl⟩ ?_
            refine wp_icmp_ge (tgt := 76) dX11_cancel_37 rfl (fun c_37 => ?_) (fun c_37 => ?_)
            · exact absurd c_37 (nI_ge (show k < q.1 28 by omega) (by omega))
            · refine wp_aload_n dX11_cancel_40 rfl ?_
              refine wr_geta 29 11 dX11_cancel_41 fl_X11_46 ⟨by decide, rfl⟩ ?_
              refine wp_iload_n dX11_cancel_44 rfl ?_
              refine wr_iald dX11_cancel_45 ⟨by decide, rfl⟩ rfl hk200 (by decide) ?_
              refine wp_iload_n dX11_cancel_46 rfl ?_
              refine wp_icmp_ne (tgt := 70) dX11_cancel_47 rfl (fun c_47 => ?_) (fun c_47 => ?_)
              · exact back (fun z => c_47 (by rw [z.1]))
              · have e1 : q.2.1 11 k = s := (nI_eq (by omega) (by omega)).mp c_47
                refine wp_aload_n dX11_cancel_50 rfl ?_
                refine wr_geta 32 14 dX11_cancel_51 fl_X11_55 ⟨by decide, rfl⟩ ?_
                refine wp_iload_n dX11_cancel_54 rfl ?_
                refine wr_iald dX11_cancel_55 ⟨by decide, rfl⟩ rfl hk200 (by decide) ?_
                refine wp_iconst (v := 2) dX11_cancel_56 rfl ?_
                refine wp_icmp_ge (tgt := 70) dX11_cancel_57 rfl (fun c_57 => ?_) (fun c_57 => ?_)
                · exact back (fun z => by have := (nI_leI (a := 2) (by decide) (by omega)).mp c_57; omega)
                · have e2 : q.2.1 14 k < 2 := by
                    rcases Nat.lt_or_ge (q.2.1 14 k) 2 with z | z
                    · exact z
                    · exact absurd (nI_le (a := 2) z (by omega)) c_57
                  rw [if_pos ⟨e1, e2⟩] at hcn
                  refine wp_aload_n dX11_cancel_60 rfl ?_
                  refine wr_geta 32 14 dX11_cancel_61 fl_X11_55 ⟨by decide, rfl⟩ ?_
                  refine wp_iload_n dX11_cancel_64 rfl ?_
                  refine wp_iconst (v := 3) dX11_cancel_65 rfl ?_
                  refine wr_iast dX11_cancel_66 ⟨by decide, rfl⟩ rfl hk200 (by decide) (show (3 : Int32) = nI 3 from rfl) ?_
                  refine wp_iinc dX11_cancel_67 rfl rfl ?_
                  refine wp_iinc dX11_cancel_70 rfl rfl ?_
                  refine wp_goto (tgt := 32) dX11_cancel_73 rfl ?_
                  rw [show nI k + Int32.ofInt 1 = nI (k + 1) from nI_1 k, show nI (r_cnN p s k) + Int32.ofInt 1 = nI (r_cnN p s k + 1) from nI_1 _]
                  have := ih (k + 1) (r_sa q 14 k 3) (okq.sa (by decide)) e28 e16 e19 (by rw [← e11]; funext i; simp [r_sa]) (fun i hi => by
                    rw [← e14 i (by omega)]
                    simp [r_sa]
                    intro e; omega) (by omega) hcn
                  rw [hcs, show (q.2.1 11 k == s && decide (q.2.1 14 k < 2)) = true by simp [e1, e2]] at this
                  exact this
        exact loop (p.1 28) 0 (r_sa p 24 s 1) (ok.sa (by decide)) rfl rfl rfl (by funext i; simp [r_sa]) (fun i _ => by simp [r_sa]) (by omega) rfl
      · refine no ?_
        rintro ⟨s', h1, h2, h3⟩
        have : s = s' := (nI_eq (by omega) (by omega)).mp h2
        subst this
        exact c_16 (by rw [h3]; rfl)
end RC2
