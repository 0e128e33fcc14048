/-! the reference: goOn, move, deliver, increment, cancel -/
theorem cnt_drop {P P' : Nat → Bool} {k : Nat} (hk : P k = true) (hk' : P' k = false) (ho : ∀ i, i ≠ k → P' i = P i) : ∀ n, k < n → ((List.range n).filter P').length + 1 = ((List.range n).filter P).length := by
  have same : ∀ n, n ≤ k → ((List.range n).filter P').length = ((List.range n).filter P).length := by
    intro n
    induction n with
    | zero => intro _; rfl
    | succ n ih => intro h; rw [cnt_s, cnt_s, ih (by omega), ho n (by omega)]
  intro n
  induction n with
  | zero => intro h; omega
  | succ n ih =>
    intro h
    rw [cnt_s, cnt_s]
    by_cases e : n = k
    · subst e
      rw [same n (Nat.le_refl _), hk, hk']
      rfl
    · rw [ho n e, ← ih (by omega)]
      omega
theorem cnt_eq {P P' : Nat → Bool} (n : Nat) (ho : ∀ i, i < n → P' i = P i) : ((List.range n).filter P').length = ((List.range n).filter P).length := by
  induction n with
  | zero => rfl
  | succ n ih => rw [cnt_s, cnt_s, ih (fun i hi => ho i (by omega)), ho n (by omega)]
theorem r_tell_k {p : rs} {kind v x : Nat} (h1 : x ≠ 16) (h2 : x ≠ 19) : (r_tell p kind v).1 x = p.1 x := by
  have : (r_tell p kind v).1 x = (r_lays p 1 (r_tb kind v)).1 x := by simp [r_tell, r_told, r_si, r_sa, h2]
  rw [this, r_lays_k (show x ≠ r_wc 1 from h1)]
theorem r_tell_16 {p : rs} {kind v : Nat} : (r_tell p kind v).1 16 = p.1 16 + (r_tb kind v).length := by
  have : (r_tell p kind v).1 16 = (r_lays p 1 (r_tb kind v)).1 16 := by simp [r_tell, r_told, r_si, r_sa]
  rw [this]
  exact r_lays_c 1 _ _
theorem r_tell_19 {p : rs} {kind v : Nat} : (r_tell p kind v).1 19 = p.1 19 + 1 := by
  have : (r_tell p kind v).1 19 = (r_lays p 1 (r_tb kind v)).1 19 + 1 := by simp [r_tell, r_told, r_si, r_sa]
  rw [this, r_lays_k (by decide)]
theorem r_tell_a {p : rs} {kind v j : Nat} (h7 : j ≠ 7) (h8 : j ≠ 8) (h9 : j ≠ 9) (h10 : j ≠ 10) : (r_tell p kind v).2.1 j = p.2.1 j := by
  have : (r_tell p kind v).2.1 j = (r_lays p 1 (r_tb kind v)).2.1 j := by funext i; simp [r_tell, r_told, r_si, r_sa, h8, h9, h10]
  rw [this, r_lays_a (show j ≠ r_wa 1 from h7)]
theorem r_tell_l {p : rs} {kind v : Nat} : (r_tell p kind v).2.2 = p.2.2 := by
  have : (r_tell p kind v).2.2 = (r_lays p 1 (r_tb kind v)).2.2 := rfl
  rw [this, r_lays_l]
theorem rok.tell {p : rs} {kind v : Nat} (ok : rok p) (hk : kind ≤ 3) (hv : v < 2 ^ 29) (h16 : p.1 16 ≤ 4000) (h19 : p.1 19 ≤ 2000) : rok (r_tell p kind v) := by
  have hl := r_tb_len kind v
  have hlt : ∀ b ∈ r_tb kind v, b < 2 ^ 30 := by
    unfold r_tb
    split
    · exact nb_lt (by decide) (by decide) hv
    · split
      · exact nb_lt (by decide) (by decide) hv
      · exact nb_lt (by decide) (by decide) hv
  have o1 : rok (r_lays p 1 (r_tb kind v)) := rok.lays _ _ ok hlt (by show p.1 16 + _ < _; omega)
  have k19 : (r_lays p 1 (r_tb kind v)).1 19 = p.1 19 := r_lays_k (by decide) _ _
  exact (((o1.sa (by omega)).sa (by omega)).sa (o1.1 16)).si (by rw [k19]; omega)
theorem r_dec_k {p : rs} {k x : Nat} (h1 : x ≠ 16) (h2 : x ≠ 19) (h3 : x ≠ 27) : (r_dec p k).1 x = p.1 x := by
  unfold r_dec
  split
  · rfl
  · have : ∀ (q : rs) (v : Nat), (r_si q 27 v).1 x = q.1 x := fun q v => by simp [r_si, h3]
    rw [this, r_tell_k h1 h2]
    rfl
theorem r_dec_a {p : rs} {k j : Nat} (h7 : j ≠ 7) (h8 : j ≠ 8) (h9 : j ≠ 9) (h10 : j ≠ 10) (h14 : j ≠ 14) : (r_dec p k).2.1 j = p.2.1 j := by
  unfold r_dec
  split
  · funext i; simp [r_sa, h14]
  · show (r_tell (r_sa p 14 k 2) 1 (p.2.1 11 k)).2.1 j = _
    rw [r_tell_a h7 h8 h9 h10]
    funext i; simp [r_sa, h14]
theorem r_dec_14 {p : rs} {k : Nat} : (r_dec p k).2.1 14 = fun i => if i = k then 2 else p.2.1 14 i := by
  unfold r_dec
  split
  · funext i; simp [r_sa]
  · show (r_tell (r_sa p 14 k 2) 1 (p.2.1 11 k)).2.1 14 = _
    rw [r_tell_a (by decide) (by decide) (by decide) (by decide)]
    funext i; simp [r_sa]
theorem r_dec_l {p : rs} {k : Nat} : (r_dec p k).2.2 = p.2.2 := by
  unfold r_dec
  split
  · rfl
  · exact r_tell_l
theorem r_dec_t {p : rs} {k : Nat} (h11 : p.2.1 11 k < 8) : (r_dec p k).1 16 ≤ p.1 16 + 1 ∧ (r_dec p k).1 19 ≤ p.1 19 + 1 := by
  unfold r_dec
  split
  · exact ⟨Nat.le_succ _, Nat.le_succ _⟩
  · have e : (r_si (r_tell (r_sa p 14 k 2) 1 (p.2.1 11 k)) 27 (max (p.2.1 12 k) (p.1 27))).1 16 = (r_tell (r_sa p 14 k 2) 1 (p.2.1 11 k)).1 16 := rfl
    have e2 : (r_si (r_tell (r_sa p 14 k 2) 1 (p.2.1 11 k)) 27 (max (p.2.1 12 k) (p.1 27))).1 19 = (r_tell (r_sa p 14 k 2) 1 (p.2.1 11 k)).1 19 := rfl
    rw [e, e2, r_tell_16, r_tell_19]
    have hlen : (r_tb 1 (p.2.1 11 k)).length = 1 := nb_len1 (by omega)
    rw [hlen]
    exact ⟨Nat.le_refl _, Nat.le_refl _⟩
theorem rok.dec {p : rs} {k : Nat} (ok : rok p) (h11 : p.2.1 11 k < 8) (h16 : p.1 16 ≤ 4000) (h19 : p.1 19 ≤ 2000) : rok (r_dec p k) := by
  have a := ok.2.1 12 k
  have b := ok.1 27
  unfold r_dec
  split
  · exact ok.sa (by decide)
  · exact (rok.tell (ok.sa (by decide)) (by decide) (by omega) h16 h19).si (by omega)
theorem r_wn_dec {p : rs} {k : Nat} (hk : k < p.1 28) (h1 : p.2.1 14 k = 1) : r_wn (r_dec p k) + 1 = r_wn p := by
  unfold r_wn
  rw [r_dec_k (by decide) (by decide) (by decide), r_dec_14]
  exact cnt_drop (k := k) (by simp [h1]) (by simp) (fun i hi => by simp [hi]) _ hk
/-- what goOn leaves alone, and what it keeps -/
def r_gk (p q : rs) : Prop := (∀ x, x ≠ 16 → x ≠ 19 → x ≠ 27 → q.1 x = p.1 x) ∧ (∀ j, j ≠ 7 → j ≠ 8 → j ≠ 9 → j ≠ 10 → j ≠ 14 → q.2.1 j = p.2.1 j) ∧ q.2.2 = p.2.2 ∧ q.1 16 + r_wn q ≤ p.1 16 + r_wn p ∧ q.1 19 + r_wn q ≤ p.1 19 + r_wn p ∧ (rok p → p.1 16 + r_wn p ≤ 4000 → p.1 19 + r_wn p ≤ 2000 → (∀ k, k < p.1 28 → p.2.1 11 k < 8) → rok q)
theorem r_gk.refl (p : rs) : r_gk p p := ⟨fun _ _ _ _ => rfl, fun _ _ _ _ _ _ => rfl, rfl, Nat.le_refl _, Nat.le_refl _, fun h _ _ _ => h⟩
theorem r_gk.trans {p q r : rs} (a : r_gk p q) (b : r_gk q r) : r_gk p r := by
  obtain ⟨a1, a2, a3, a4, a5, a6⟩ := a
  obtain ⟨b1, b2, b3, b4, b5, b6⟩ := b
  refine ⟨fun x h1 h2 h3 => (b1 x h1 h2 h3).trans (a1 x h1 h2 h3), fun j h1 h2 h3 h4 h5 => (b2 j h1 h2 h3 h4 h5).trans (a2 j h1 h2 h3 h4 h5), b3.trans a3, by omega, by omega, fun ok h1 h2 h3 => b6 (a6 ok h1 h2 h3) (by omega) (by omega) ?_⟩
  rw [a1 28 (by decide) (by decide) (by decide), a2 11 (by decide) (by decide) (by decide) (by decide) (by decide)]
  exact h3
theorem r_gk.dec {p : rs} {k : Nat} (hk : k < p.1 28) (h1 : p.2.1 14 k = 1) (h11 : p.2.1 11 k < 8) : r_gk p (r_dec p k) := by
  have hw := r_wn_dec hk h1
  have ht := r_dec_t (p := p) h11
  exact ⟨fun x a b c => r_dec_k a b c, fun j a b c d e => r_dec_a a b c d e, r_dec_l, by omega, by omega, fun ok h2 h3 _ => ok.dec h11 (by omega) (by omega)⟩
theorem r_go_gk {s : Nat} : ∀ (n k : Nat) (p : rs), k + n = p.1 28 → (∀ i, i < p.1 28 → p.2.1 11 i < 8) → r_gk p (r_go s n k p) := by
  intro n
  induction n with
  | zero => intro k p _ _; exact r_gk.refl p
  | succ n ih =>
    intro k p hkn h8
    rw [r_go]
    split
    · rename_i hc
      split
      · exact r_gk.refl p
      · have hd := r_gk.dec (p := p) (k := k) (by omega) hc.2 (h8 k (by omega))
        refine hd.trans (ih (k + 1) _ ?_ ?_)
        · rw [hd.1 28 (by decide) (by decide) (by decide)]; omega
        · rw [hd.1 28 (by decide) (by decide) (by decide), hd.2.1 11 (by decide) (by decide) (by decide) (by decide) (by decide)]; exact h8
    · exact ih (k + 1) p (by omega) h8
section RV
variable {G : fp_G} {h0 : fp_H} {m : Nat}
theorem ct_goOn {p : rs} {s : Nat} (ok : rok p) (hs : s < 2 ^ 29) (hc : p.1 28 ≤ 200) (h8 : ∀ i, i < p.1 28 → p.2.1 11 i < 8) (h16 : p.1 16 + r_wn p ≤ 4000) (h19 : p.1 19 + r_wn p ≤ 2000) : fp_ct G rm_X11_goOn M_X11_goOn [.ref m, .int (nI s)] (r_hp h0 m p) (fun r h' => r = none ∧ h' = r_hp h0 m (r_goOn p s)) := by
  refine fp_meth pn_X11 (Nat.le_of_ble_eq_true rfl) rfl ?_
  refine wp_iconst (v := 0) dX11_goOn_0 rfl ?_
  refine wp_istore_n dX11_goOn_1 (Nat.le_of_ble_eq_true rfl) rfl ?_
  have loop : ∀ (n k : Nat) (p : rs), rok p → p.1 28 ≤ 200 → (∀ i, i < p.1 28 → p.2.1 11 i < 8) → p.1 16 + r_wn p ≤ 4000 → p.1 19 + r_wn p ≤ 2000 → k + n = p.1 28 → fp_wp G rm_X11_goOn M_X11_goOn 2 [some (.ref m), some (.int (nI s)), some (.int (nI k))] [] (r_hp h0 m p) (fun r h' => r = none ∧ h' = r_hp h0 m (r_go s n k p)) := by
    intro n
    induction n with
    | zero =>
      intro k p ok hc _ _ _ hkn
      refine wp_iload_n dX11_goOn_2 rfl ?_
      refine wp_aload_n dX11_goOn_3 rfl ?_
      refine wr_geti 28 dX11_goOn_4 fl_X11_143 ⟨by decide, rfl⟩ ?_
      refine wp_icmp_ge (tgt := 55) dX11_goOn_7 rfl (fun c_7 => ?_) (fun c_7 => ?_)
      · refine wp_vret dX11_goOn_55 rfl ?_
        exact ⟨rfl, rfl⟩
      · exact absurd (nI_le (show p.1 28 ≤ k by omega) (by omega)) c_7
    | succ n ih =>
      intro k p ok hc h8 h16 h19 hkn
      have hk200 : k < 200 := by omega
      have h11 := h8 k (by omega)
      have h12 := ok.2.1 12 k
      have h14 := ok.2.1 14 k
      have o24 := ok.1 24
      rw [r_go]
      have back : ¬ (p.2.1 11 k = s ∧ p.2.1 14 k = 1) → fp_wp G rm_X11_goOn M_X11_goOn 49 [some (.ref m), some (.int (nI s)), some (.int (nI k))] [] (r_hp h0 m p) (fun r h' => r = none ∧ h' = r_hp h0 m (if p.2.1 11 k = s ∧ p.2.1 14 k = 1 then (if p.1 24 < p.2.1 12 k then p else r_go s n (k + 1) (r_dec p k)) else r_go s n (k + 1) p)) := by
        intro hn
        rw [if_neg hn]
        refine wp_iinc dX11_goOn_49 rfl rfl ?_
        refine wp_goto (tgt := 2) dX11_goOn_52 rfl ?_
        rw [show nI k + Int32.ofInt 1 = nI (k + 1) from nI_1 k]
        exact ih (k + 1) p ok hc h8 h16 h19 (by omega)
      refine wp_iload_n dX11_goOn_2 rfl ?_
      refine wp_aload_n dX11_goOn_3 rfl ?_
      refine wr_geti 28 dX11_goOn_4 fl_X11_143 ⟨by decide, rfl⟩ ?_
      refine wp_icmp_ge (tgt := 55) dX11_goOn_7 rfl (fun c_7 => ?_) (fun c_7 => ?_)
      · exact absurd c_7 (nI_ge (show k < p.1 28 by omega) (by omega))
      · refine wp_aload_n dX11_goOn_10 rfl ?_
        refine wr_geta 29 11 dX11_goOn_11 fl_X11_46 ⟨by decide, rfl⟩ ?_
        refine wp_iload_n dX11_goOn_14 rfl ?_
        refine wr_iald dX11_goOn_15 ⟨by decide, rfl⟩ rfl hk200 (by decide) ?_
        refine wp_iload_n dX11_goOn_16 rfl ?_
        refine wp_icmp_ne (tgt := 49) dX11_goOn_17 rfl (fun c_17 => ?_) (fun c_17 => ?_)
        · exact back (fun z => c_17 (by rw [z.1]))
        · have e11 : p.2.1 11 k = s := (nI_eq (by omega) (by omega)).mp c_17
          refine wp_aload_n dX11_goOn_20 rfl ?_
          refine wr_geta 32 14 dX11_goOn_21 fl_X11_55 ⟨by decide, rfl⟩ ?_
          refine wp_iload_n dX11_goOn_24 rfl ?_
          refine wr_iald dX11_goOn_25 ⟨by decide, rfl⟩ rfl hk200 (by decide) ?_
          refine wp_iconst (v := 1) dX11_goOn_26 rfl ?_
          refine wp_icmp_ne (tgt := 49) dX11_goOn_27 rfl (fun c_27 => ?_) (fun c_27 => ?_)
          · exact back (fun z => c_27 (by rw [z.2]; rfl))
          · have e14 : p.2.1 14 k = 1 := (nI_eq (b := 1) (by omega) (by decide)).mp c_27
            rw [if_pos ⟨e11, e14⟩]
            have hw := r_wn_dec (p := p) (k := k) (by omega) e14
            refine wp_aload_n dX11_goOn_30 rfl ?_
            refine wr_geta 30 12 dX11_goOn_31 fl_X11_49 ⟨by decide, rfl⟩ ?_
            refine wp_iload_n dX11_goOn_34 rfl ?_
            refine wr_iald dX11_goOn_35 ⟨by decide, rfl⟩ rfl hk200 (by decide) ?_
            refine wp_aload_n dX11_goOn_36 rfl ?_
            refine wr_geti 24 dX11_goOn_37 fl_X11_216 ⟨by decide, rfl⟩ ?_
            refine wp_icmp_le (tgt := 44) dX11_goOn_40 rfl (fun c_40 => ?_) (fun c_40 => ?_)
            · have hle : p.2.1 12 k ≤ p.1 24 := (nI_leI (by omega) (by omega)).mp c_40
              rw [if_neg (by omega)]
              have hd := r_gk.dec (p := p) (k := k) (by omega) e14 h11
              refine wp_aload_n dX11_goOn_44 rfl ?_
              refine wp_iload_n dX11_goOn_45 rfl ?_
              refine wp_callV (As := [.int (nI k)]) (rest := []) dX11_goOn_46 me_X11_decode cw_X11_219 rfl ⟨(Nat.le_of_ble_eq_true rfl), (Nat.le_of_ble_eq_true rfl)⟩ rfl rfl rfl (Nat.le_of_ble_eq_true rfl) r_at_m (ct_decode ok hk200 h11 (by omega) (by omega)) (fun r h1 q => ?_)
              obtain ⟨rfl, rfl⟩ := q
              refine wp_iinc dX11_goOn_49 rfl rfl ?_
              refine wp_goto (tgt := 2) dX11_goOn_52 rfl ?_
              rw [show nI k + Int32.ofInt 1 = nI (k + 1) from nI_1 k]
              have d28 := hd.1 28 (by decide) (by decide) (by decide)
              have d11 := hd.2.1 11 (by decide) (by decide) (by decide) (by decide) (by decide)
              have d4 := hd.2.2.2.1
              have d5 := hd.2.2.2.2.1
              exact ih (k + 1) _ (hd.2.2.2.2.2 ok h16 h19 h8) (by omega) (by rw [d28, d11]; exact h8) (by omega) (by omega) (by omega)
            · have hgt : p.1 24 < p.2.1 12 k := by
                rcases Nat.lt_or_ge (p.1 24) (p.2.1 12 k) with q | q
                · exact q
                · exact absurd (nI_le q (by omega)) c_40
              rw [if_pos hgt]
              refine wp_vret dX11_goOn_43 rfl ?_
              exact ⟨rfl, rfl⟩
  exact loop (p.1 28) 0 p ok hc h8 h16 h19 (by omega)
end RV
