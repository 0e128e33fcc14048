/-! Encoder.hear -/
theorem wlx_get {p : rs} {c a i : Nat} (h : i < p.1 c) : (wlx p c a).getD i 0 = p.2.1 a i := by
  unfold wlx
  rw [List.getD_eq_getElem?_getD, List.getElem?_map, List.getElem?_range h]
  rfl
theorem sb_wlx {p : rs} {c a x : Nat} {ys : List Nat} (h : sb (p.2.1 a) x ys) (hl : x + ys.length ≤ p.1 c) : sb (fun i => (wlx p c a).getD i 0) x ys := h.congr (fun i _ h2 => wlx_get (by omega))
/-- where tell i begins -/
def r_st (p : rs) (i : Nat) : Nat := if i = 0 then 0 else p.2.1 10 (i - 1)
def TB (p : rs) : Prop := (∀ i, i < p.1 19 → (p.2.1 8 i = 1 ∨ p.2.1 8 i = 2 ∨ p.2.1 8 i = 3) ∧ p.2.1 9 i ≤ 2400 ∧ (p.2.1 8 i ≠ 3 → p.2.1 9 i < 8) ∧ sb (p.2.1 7) (r_st p i) (r_tb (p.2.1 8 i) (p.2.1 9 i)) ∧ p.2.1 10 i = r_st p i + (r_tb (p.2.1 8 i) (p.2.1 9 i)).length) ∧ r_st p (p.1 19) = p.1 16
theorem r_tb_pos (kind v : Nat) : 1 ≤ (r_tb kind v).length := by
  have : ∀ F n v, 1 ≤ (nb F n v).length := fun F n v => by unfold nb; split <;> simp
  unfold r_tb
  split
  · exact this _ _ _
  · split <;> exact this _ _ _
theorem r_st_s (p : rs) (i : Nat) : r_st p (i + 1) = p.2.1 10 i := by unfold r_st; rw [if_neg (by omega)]; rfl
theorem TB.le {p : rs} (t : TB p) : ∀ n i, i + n ≤ p.1 19 → r_st p i + n ≤ r_st p (i + n) := by
  intro n
  induction n with
  | zero => intro i _; exact Nat.le_refl _
  | succ n ih =>
    intro i hi
    have h1 := ih i (by omega)
    have h2 := (t.1 (i + n) (by omega)).2.2.2.2
    have h3 := r_tb_pos (p.2.1 8 (i + n)) (p.2.1 9 (i + n))
    rw [show i + (n + 1) = (i + n) + 1 by omega, r_st_s, h2]
    omega
theorem TB.end {p : rs} (t : TB p) {i : Nat} (hi : i < p.1 19) : p.2.1 10 i ≤ p.1 16 := by
  have h := t.le (p.1 19 - (i + 1)) (i + 1) (by omega)
  rw [show i + 1 + (p.1 19 - (i + 1)) = p.1 19 by omega, t.2, r_st_s] at h
  omega
theorem TB.eq {p q : rs} (t : TB p) (h16 : q.1 16 = p.1 16) (h19 : q.1 19 = p.1 19) (a7 : q.2.1 7 = p.2.1 7) (a8 : q.2.1 8 = p.2.1 8) (a9 : q.2.1 9 = p.2.1 9) (a10 : q.2.1 10 = p.2.1 10) : TB q := by
  unfold TB r_st at *
  rw [h16, h19, a7, a8, a9, a10]
  exact t
theorem EN.eq {G : fp_G} {h : fp_H} {en tb op ln wr cO : Nat} {oa : Nat → Nat} {p p' : rs} {cW cL : Nat} (m : EN G h en tb op ln wr cO oa p cW cL) (e : eEq p p') (e1 : wlx p' 13 6 = wlx p 13 6) : EN G h en tb op ln wr cO oa p' cW cL := by
  obtain ⟨m1, m2, m3, m4, m5, m6, m7⟩ := m
  refine ⟨?_, ?_, by rw [e1]; exact m3, m4, by rw [e.hop]; exact m5, fun k hk => by rw [e.hOo]; rw [e.hop] at hk; exact m6 k hk, m7⟩
  · obtain ⟨x5, x6, x7, x8, m1⟩ := m1
    refine ⟨x5, x6, x7, x8, ?_⟩
    obtain ⟨e0, e1, e6, e10, e11, e12, e28, a11, a12, a13, a19, a20, l3, l4⟩ := e
    unfold eN at *
    rw [e1, e12]
    exact m1
  · obtain ⟨e0, e1, e6, e10, e11, e12, e28, a11, a12, a13, a19, a20, l3, l4⟩ := e
    rw [e0, e6, e10, e11, l3, l4]
    exact m2
theorem EN.kept {G : fp_G} {h h' : fp_H} {en tb op ln wr cO : Nat} {oa : Nat → Nat} {p : rs} {cW cL : Nat} {S : Nat → Prop} (m : EN G h en tb op ln wr cO oa p cW cL) (c : cf S h h') (h3 : ¬ S 3) (h9 : ¬ S 9) (h10 : ¬ S 10) (h14 : ¬ S 14) (h15 : ¬ S 15) (h17 : ¬ S 17) : EN G h' en tb op ln wr cO oa p cW cL := by
  obtain ⟨⟨x5, x6, x7, x8, m1⟩, m2, m3, ⟨xs, m4⟩, m5, m6, m7⟩ := m
  exact ⟨⟨x5, x6, x7, x8, c.at m1 h3⟩, m2.kept c h15, m3.kept c h10, ⟨xs, m4.kept c h14⟩, m5.kept c h17, fun k hk => c.at (m6 k hk) h9, c.wf m7⟩
theorem r_hear1_eq (p : rs) : r_hear1 p = r_si (r_hear p (p.2.1 8 (p.1 23)) (p.2.1 9 (p.1 23))) 23 (p.1 23 + 1) := rfl
def hS2 : Nat → Prop := fun t => t = 3 ∨ t = 17 ∨ t = 13
section CH
variable {G : fp_G} {h : fp_H} {en tb op ln wr cO ra ba e : Nat} {oa : Nat → Nat} {p : rs} {cW cL : Nat}
set_option maxHeartbeats 1000000 in
theorem ch_one (m : EN G h en tb op ln wr cO oa p cW cL) (hr : rdr h 13 ra 12 ba (wlx p 16 7) e (r_st p (p.1 23), false)) (hB : r_B p) (ht : TB p) : fp_ct G rm_X2_hearOne M_X2_hearOne [.ref en, .ref ra] h (fun r h' => (¬ (p.1 23 < p.1 19 ∧ p.2.1 10 (p.1 23) ≤ e) ∧ r = some (.int 0) ∧ h' = h) ∨ ((p.1 23 < p.1 19 ∧ p.2.1 10 (p.1 23) ≤ e) ∧ r = some (.int 1) ∧ EN G h' en tb op ln wr cO oa (r_hear1 p) cW cL ∧ h'.1 ra = some (13, rc ba e (r_st p (p.1 23 + 1), false)) ∧ cf hS2 h h' ∧ h'.2 = h.2)) := by
  have hlen := hr.2.2.1
  rw [wlx_len] at hlen
  have hat := hr.2.2.2.2.1
  have he24 := hr.2.2.2.2.2
  have hB23 := hB.2.2.2.1
  have ok := hB.1
  have hra := hr.1
  have hk : rdr (fp_put h ra 13 (rc ba e (k_fr (fun i => (wlx p 16 7).getD i 0) e (r_st p (p.1 23), false)).2)) 13 ra 12 ba (wlx p 16 7) e (k_fr (fun i => (wlx p 16 7).getD i 0) e (r_st p (p.1 23), false)).2 := hr.put (by unfold k_fr; split <;> exact hat)
  refine fp_meth pn_X2 (Nat.le_of_ble_eq_true rfl) rfl ?_
  refine wp_aload_n dX2_hearOne_0 rfl ?_
  refine wp_getf dX2_hearOne_1 fl_X2_193 hra rfl ?_
  refine wp_istore_n dX2_hearOne_4 (Nat.le_of_ble_eq_true rfl) rfl ?_
  refine wp_aload_n dX2_hearOne_5 rfl ?_
  refine wp_callV (As := []) (rest := []) dX2_hearOne_6 me_X6_front cw_X2_196 rfl ⟨(Nat.le_of_ble_eq_true rfl), (Nat.le_of_ble_eq_true rfl)⟩ rfl rfl rfl (Nat.le_of_ble_eq_true rfl) hra (cr_front hr) (fun r h1 q => ?_)
  obtain ⟨rfl, rfl⟩ := q
  -- behind the number
  have fin : ∀ (n F0 : Nat) (z : Nat × (Nat × Bool)), z.2.1 ≤ e → F0 < 2 ^ 20 → z.1 < 2 ^ 29 → (z.2.2 = true ∧ ¬ (p.1 23 < p.1 19 ∧ p.2.1 10 (p.1 23) ≤ e)) ∨ ((p.1 23 < p.1 19 ∧ p.2.1 10 (p.1 23) ≤ e) ∧ z = (p.2.1 9 (p.1 23), (p.2.1 10 (p.1 23), false)) ∧ (p.2.1 8 (p.1 23) = 1 ↔ 128 ≤ F0) ∧ (p.2.1 8 (p.1 23) = 2 ↔ 64 ≤ F0 ∧ F0 < 128)) → fp_wp G rm_X2_hearOne M_X2_hearOne 28 [some (.ref en), some (.ref ra), some (.int (nI (r_st p (p.1 23)))), some (.int (nI F0)), none] [.int (nI z.1)] (fp_put h ra 13 (rc ba e z.2)) (fun r h' => (¬ (p.1 23 < p.1 19 ∧ p.2.1 10 (p.1 23) ≤ e) ∧ r = some (.int 0) ∧ h' = h) ∨ ((p.1 23 < p.1 19 ∧ p.2.1 10 (p.1 23) ≤ e) ∧ r = some (.int 1) ∧ EN G h' en tb op ln wr cO oa (r_hear1 p) cW cL ∧ h'.1 ra = some (13, rc ba e (r_st p (p.1 23 + 1), false)) ∧ cf hS2 h h' ∧ h'.2 = h.2)) := by
    intro n F0 z hz hF0 hz1 hc
    have hrz := hr.put (s' := z.2) hz
    refine wp_istore dX2_hearOne_28 (Nat.le_of_ble_eq_true rfl) rfl ?_
    refine wp_aload_n dX2_hearOne_30 rfl ?_
    refine wp_getf dX2_hearOne_31 fl_X2_202 hrz.1 rfl ?_
    refine wp_if_eq (tgt := 44) dX2_hearOne_34 rfl (fun c_34 => ?_) (fun c_34 => ?_)
    · -- a whole one
      have hz2 : z.2.2 = false := b2n_0.mp c_34
      rcases hc with ⟨hc, -⟩ | ⟨hw, hze, hk1, hk2⟩
      · rw [hc] at hz2; cases hz2
      obtain ⟨t1, t2, t3, t4, t5⟩ := ht.1 _ hw.1
      have c1 : cf (fun x => x = 13) h (fp_put h ra 13 (rc ba e z.2)) := cf.put1 hra
      have s1 : (fp_put h ra 13 (rc ba e z.2)).2 = h.2 := rfl
      have m' := m.kept c1 (by decide) (by decide) (by decide) (by decide) (by decide) (by decide)
      have e1 : (fp_put h ra 13 (rc ba e z.2)).1 ra = some (13, rc ba e (r_st p (p.1 23 + 1), false)) := by rw [r_st_s, ← show z.2 = (p.2.1 10 (p.1 23), false) by rw [hze]]; exact fp_put_eq
      generalize fp_put h ra 13 (rc ba e z.2) = h2 at c1 s1 m' e1 ⊢
      have hz9 : z.1 = p.2.1 9 (p.1 23) := by rw [hze]
      rw [hz9]
      have done : ∀ h3 : fp_H, EN G h3 en tb op ln wr cO oa (r_hear p (p.2.1 8 (p.1 23)) (p.2.1 9 (p.1 23))) cW cL → cf hS h2 h3 → h3.2 = h2.2 → EN G h3 en tb op ln wr cO oa (r_hear1 p) cW cL ∧ h3.1 ra = some (13, rc ba e (r_st p (p.1 23 + 1), false)) ∧ cf hS2 h h3 ∧ h3.2 = h.2 := by
        intro h3 m3 c3 s3
        refine ⟨m3.eq ⟨rfl, rfl, rfl, rfl, rfl, rfl, rfl, rfl, rfl, rfl, rfl, rfl, rfl, rfl⟩ rfl, c3.at e1 (by simp [hS]), ?_, by rw [s3, s1]⟩
        exact (c1.mono (fun t z => Or.inr (Or.inr z))).trans (c3.mono (fun t z => by rcases z with z | z; exact Or.inl z; exact Or.inr (Or.inl z)))
      refine wp_iload_n dX2_hearOne_44 rfl ?_
      refine wp_sipush (v := 128) dX2_hearOne_45 rfl ?_
      refine wp_icmp_lt (tgt := 60) dX2_hearOne_48 rfl (fun c_48 => ?_) (fun c_48 => ?_)
      · have hlt : F0 < 128 := (nI_ltI (b := 128) (by omega) (by decide)).mp c_48
        have n1 : p.2.1 8 (p.1 23) ≠ 1 := fun e => by have := hk1.mp e; omega
        refine wp_iload_n dX2_hearOne_60 rfl ?_
        refine wp_bipush (v := 64) dX2_hearOne_61 rfl ?_
        refine wp_icmp_lt (tgt := 75) dX2_hearOne_63 rfl (fun c_63 => ?_) (fun c_63 => ?_)
        · have hlt2 : F0 < 64 := (nI_ltI (b := 64) (by omega) (by decide)).mp c_63
          have n2 : p.2.1 8 (p.1 23) ≠ 2 := fun e => by have := hk2.mp e; omega
          have k3 : p.2.1 8 (p.1 23) = 3 := by omega
          obtain ⟨⟨x5, x6, x7, x8, g1⟩, g2, g3, ⟨xs, g4⟩, g5, g6, g7⟩ := m'
          have kn := ok.1 12
          refine wp_aload_n dX2_hearOne_75 rfl ?_
          refine wp_dup dX2_hearOne_76 rfl ?_
          refine wp_getf dX2_hearOne_77 fl_X2_163 g1 rfl ?_
          refine wp_iload dX2_hearOne_80 rfl ?_
          refine wp_iadd dX2_hearOne_82 ?_
          rw [nI_add]
          refine wp_putf dX2_hearOne_83 (fs_X2_163 _) g1 (Nat.le_of_ble_eq_true rfl) rfl rfl ?_
          refine wp_iconst (v := 1) dX2_hearOne_86 rfl ?_
          refine wp_iret dX2_hearOne_87 rfl rfl ?_
          refine Or.inr ⟨hw, rfl, ?_⟩
          have c3 : cf (fun x => x = 3) h2 (fp_put h2 en 3 (.inr (3, [.ref tb, .int (nI (p.1 1)), .ref op, .int (nI (p.1 12 + p.2.1 9 (p.1 23))), .ref ln, .int x5, .int x6, .int x7, .int x8]))) := cf.put1 g1
          refine done _ ?_ (c3.mono (fun t z => Or.inl z)) rfl
          rw [k3, r_hear, if_pos rfl]
          exact ⟨⟨x5, x6, x7, x8, fp_put_eq⟩, g2.kept c3 (by decide), g3.kept c3 (by decide), ⟨xs, g4.kept c3 (by decide)⟩, g5.kept c3 (by decide), fun k hk => c3.at (g6 k hk) (by decide), c3.wf g7⟩
        · have hge2 : 64 ≤ F0 := by
            rcases Nat.lt_or_ge F0 64 with q | q
            · exact absurd (nI_lt (b := 64) q (by decide)) c_63
            · exact q
          have k2 : p.2.1 8 (p.1 23) = 2 := hk2.mpr ⟨hge2, hlt⟩
          obtain ⟨⟨x5, x6, x7, x8, g1⟩, -⟩ := id m'
          refine wp_aload_n dX2_hearOne_66 rfl ?_
          refine wp_iload dX2_hearOne_67 rfl ?_
          refine wp_callV (As := [.int (nI (p.2.1 9 (p.1 23)))]) (rest := []) dX2_hearOne_69 me_X2_closeAll cw_X2_211 rfl ⟨(Nat.le_of_ble_eq_true rfl), (Nat.le_of_ble_eq_true rfl)⟩ rfl rfl rfl (Nat.le_of_ble_eq_true rfl) g1 (ch_all m' ok (by omega)) (fun r h3 q => ?_)
          obtain ⟨rfl, q1, q2, q3⟩ := q
          refine wp_goto (tgt := 86) dX2_hearOne_72 rfl ?_
          refine wp_iconst (v := 1) dX2_hearOne_86 rfl ?_
          refine wp_iret dX2_hearOne_87 rfl rfl ?_
          rw [k2] at done
          exact Or.inr ⟨hw, rfl, done h3 q1 q2 q3⟩
      · have hge : 128 ≤ F0 := by
          rcases Nat.lt_or_ge F0 128 with q | q
          · exact absurd (nI_lt (b := 128) q (by decide)) c_48
          · exact q
        have k1 := hk1.mpr hge
        obtain ⟨⟨x5, x6, x7, x8, g1⟩, -⟩ := id m'
        refine wp_aload_n dX2_hearOne_51 rfl ?_
        refine wp_iload dX2_hearOne_52 rfl ?_
        refine wp_callV (As := [.int (nI (p.2.1 9 (p.1 23)))]) (rest := []) dX2_hearOne_54 me_X2_closeOldest cw_X2_208 rfl ⟨(Nat.le_of_ble_eq_true rfl), (Nat.le_of_ble_eq_true rfl)⟩ rfl rfl rfl (Nat.le_of_ble_eq_true rfl) g1 (ch_oldest m' ok (by omega)) (fun r h3 q => ?_)
        obtain ⟨rfl, q1, q2, q3⟩ := q
        refine wp_goto (tgt := 86) dX2_hearOne_57 rfl ?_
        refine wp_iconst (v := 1) dX2_hearOne_86 rfl ?_
        refine wp_iret dX2_hearOne_87 rfl rfl ?_
        rw [k1] at done
        exact Or.inr ⟨hw, rfl, done h3 q1 q2 q3⟩
    · have hz2 : z.2.2 = true := by
        cases hd : z.2.2 with
        | true => rfl
        | false => rw [hd] at c_34; exact absurd rfl c_34
      rcases hc with ⟨-, hc⟩ | ⟨-, hze, -⟩
      · refine wp_aload_n dX2_hearOne_37 rfl ?_
        refine wp_iload_n dX2_hearOne_38 rfl ?_
        refine wp_callV (As := [.int (nI (r_st p (p.1 23)))]) (rest := []) dX2_hearOne_39 me_X6_rewind cw_X2_205 rfl ⟨(Nat.le_of_ble_eq_true rfl), (Nat.le_of_ble_eq_true rfl)⟩ rfl rfl rfl (Nat.le_of_ble_eq_true rfl) hrz.1 (cr_rewind hrz) (fun r h3 q => ?_)
        obtain ⟨rfl, rfl⟩ := q
        refine wp_iconst (v := 0) dX2_hearOne_42 rfl ?_
        refine wp_iret dX2_hearOne_43 rfl rfl ?_
        refine Or.inl ⟨hc, rfl, ?_⟩
        rw [fp_put_put]
        exact fp_put_self hra
      · rw [hze] at hz2; cases hz2
  by_cases ha : r_st p (p.1 23) < e
  · -- something is there
    have h23 : p.1 23 < p.1 19 := by
      rcases Nat.lt_or_ge (p.1 23) (p.1 19) with q | q
      · exact q
      · have : p.1 23 = p.1 19 := by omega
        rw [this, ht.2] at ha
        omega
    obtain ⟨t1, t2, t3, t4, t5⟩ := ht.1 _ h23
    have hend := ht.end h23
    have hsb := sb_wlx (c := 16) t4 (by omega)
    have hfr : k_fr (fun i => (wlx p 16 7).getD i 0) e (r_st p (p.1 23), false) = ((wlx p 16 7).getD (r_st p (p.1 23)) 0, (r_st p (p.1 23), false)) := by unfold k_fr; rw [if_pos ha]
    rw [hfr] at hk ⊢
    -- the front byte
    have hf0 : ∃ F n, ((F = 128 ∧ n = 7 ∧ p.2.1 8 (p.1 23) = 1) ∨ (F = 64 ∧ n = 6 ∧ p.2.1 8 (p.1 23) = 2) ∨ (F = 0 ∧ n = 6 ∧ p.2.1 8 (p.1 23) = 3)) ∧ r_tb (p.2.1 8 (p.1 23)) (p.2.1 9 (p.1 23)) = nb F n (p.2.1 9 (p.1 23)) := by
      rcases t1 with t1 | t1 | t1
      · exact ⟨128, 7, Or.inl ⟨rfl, rfl, t1⟩, by rw [t1, r_tb, if_pos rfl]⟩
      · exact ⟨64, 6, Or.inr (Or.inl ⟨rfl, rfl, t1⟩), by rw [t1, r_tb, if_neg (by decide), if_pos rfl]⟩
      · exact ⟨0, 6, Or.inr (Or.inr ⟨rfl, rfl, t1⟩), by rw [t1, r_tb, if_neg (by decide), if_neg (by decide)]⟩
    obtain ⟨F, n, hFn, hnb⟩ := hf0
    rw [hnb] at hsb t5
    have hfirst : (wlx p 16 7).getD (r_st p (p.1 23)) 0 = if p.2.1 9 (p.1 23) < 2 ^ n - 1 then F + p.2.1 9 (p.1 23) else F + (2 ^ n - 1) := by
      have := hsb
      unfold nb at this
      split at this
      · rename_i c; rw [if_pos c]; exact this.cons.1
      · rename_i c; rw [if_neg c]; exact this.cons.1
    generalize (wlx p 16 7).getD (r_st p (p.1 23)) 0 = F0 at hfirst hk ⊢
    have hkn := k_num_nb (f := fun i => (wlx p 16 7).getD i 0) (e := e) (n := n) (F := F) (v := p.2.1 9 (p.1 23)) (a := r_st p (p.1 23)) (c := false) (by omega) (by rcases hFn with ⟨rfl, rfl, -⟩ | ⟨rfl, rfl, -⟩ | ⟨rfl, rfl, -⟩ <;> rfl) (by omega) hsb
    have hnlt := k_num_lt (fun i => (wlx p 16 7).getD i 0) e n (r_st p (p.1 23), false) (by omega)
    have hnle := (k_num_le (fun i => (wlx p 16 7).getD i 0) e n (r_st p (p.1 23), false)).2.1 hat
    have hF0 : (p.2.1 8 (p.1 23) = 1 ↔ 128 ≤ F0) ∧ (p.2.1 8 (p.1 23) = 2 ↔ 64 ≤ F0 ∧ F0 < 128) ∧ F0 < 256 ∧ (n = 7 ↔ 128 ≤ F0) := by
      rcases hFn with ⟨rfl, rfl, k⟩ | ⟨rfl, rfl, k⟩ | ⟨rfl, rfl, k⟩
      · have := t3 (by omega)
        rw [if_pos (by omega)] at hfirst
        omega
      · have := t3 (by omega)
        rw [if_pos (by omega)] at hfirst
        omega
      · split at hfirst <;> omega
    have hcase : ((k_num (fun i => (wlx p 16 7).getD i 0) e n (r_st p (p.1 23), false)).2.2 = true ∧ ¬ (p.1 23 < p.1 19 ∧ p.2.1 10 (p.1 23) ≤ e)) ∨ ((p.1 23 < p.1 19 ∧ p.2.1 10 (p.1 23) ≤ e) ∧ k_num (fun i => (wlx p 16 7).getD i 0) e n (r_st p (p.1 23), false) = (p.2.1 9 (p.1 23), (p.2.1 10 (p.1 23), false)) ∧ (p.2.1 8 (p.1 23) = 1 ↔ 128 ≤ F0) ∧ (p.2.1 8 (p.1 23) = 2 ↔ 64 ≤ F0 ∧ F0 < 128)) := by
      rcases Nat.lt_or_ge e (p.2.1 10 (p.1 23)) with q | q
      · exact Or.inl ⟨hkn.2 (by omega), fun z => by omega⟩
      · exact Or.inr ⟨⟨h23, q⟩, by rw [hkn.1 (by omega), ← t5], hF0.1, hF0.2.1⟩
    refine wp_istore_n dX2_hearOne_9 (Nat.le_of_ble_eq_true rfl) rfl ?_
    refine wp_aload_n dX2_hearOne_10 rfl ?_
    refine wp_iload_n dX2_hearOne_11 rfl ?_
    refine wp_sipush (v := 128) dX2_hearOne_12 rfl ?_
    refine wp_icmp_lt (tgt := 23) dX2_hearOne_15 rfl (fun c_15 => ?_) (fun c_15 => ?_)
    · have hlt : F0 < 128 := (nI_ltI (b := 128) (by omega) (by decide)).mp c_15
      have hn6 : n = 6 := by omega
      subst hn6
      refine wp_bipush (v := 6) dX2_hearOne_23 rfl ?_
      refine wp_callV (As := [.int (nI 6)]) (rest := []) dX2_hearOne_25 me_X6_takeNumber cw_X2_199 rfl ⟨(Nat.le_of_ble_eq_true rfl), (Nat.le_of_ble_eq_true rfl)⟩ rfl rfl rfl (Nat.le_of_ble_eq_true rfl) hk.1 (cr_num (by decide) hk) (fun r h2 q => ?_)
      obtain ⟨rfl, rfl⟩ := q
      rw [fp_put_put]
      exact fin 6 F0 _ hnle (by omega) hnlt hcase
    · have hge : 128 ≤ F0 := by
        rcases Nat.lt_or_ge F0 128 with q | q
        · exact absurd (nI_lt (b := 128) q (by decide)) c_15
        · exact q
      have hn7 : n = 7 := by omega
      subst hn7
      refine wp_bipush (v := 7) dX2_hearOne_18 rfl ?_
      refine wp_goto (tgt := 25) dX2_hearOne_20 rfl ?_
      refine wp_callV (As := [.int (nI 7)]) (rest := []) dX2_hearOne_25 me_X6_takeNumber cw_X2_199 rfl ⟨(Nat.le_of_ble_eq_true rfl), (Nat.le_of_ble_eq_true rfl)⟩ rfl rfl rfl (Nat.le_of_ble_eq_true rfl) hk.1 (cr_num (by decide) hk) (fun r h2 q => ?_)
      obtain ⟨rfl, rfl⟩ := q
      rw [fp_put_put]
      exact fin 7 F0 _ hnle (by omega) hnlt hcase
  · have hfr : k_fr (fun i => (wlx p 16 7).getD i 0) e (r_st p (p.1 23), false) = (0, (r_st p (p.1 23), true)) := by unfold k_fr; rw [if_neg ha]
    rw [hfr] at hk ⊢
    refine wp_istore_n dX2_hearOne_9 (Nat.le_of_ble_eq_true rfl) rfl ?_
    refine wp_aload_n dX2_hearOne_10 rfl ?_
    refine wp_iload_n dX2_hearOne_11 rfl ?_
    refine wp_sipush (v := 128) dX2_hearOne_12 rfl ?_
    refine wp_icmp_lt (tgt := 23) dX2_hearOne_15 rfl (fun c_15 => ?_) (fun c_15 => ?_)
    · refine wp_bipush (v := 6) dX2_hearOne_23 rfl ?_
      refine wp_callV (As := [.int (nI 6)]) (rest := []) dX2_hearOne_25 me_X6_takeNumber cw_X2_199 rfl ⟨(Nat.le_of_ble_eq_true rfl), (Nat.le_of_ble_eq_true rfl)⟩ rfl rfl rfl (Nat.le_of_ble_eq_true rfl) hk.1 (cr_num (by decide) hk) (fun r h2 q => ?_)
      obtain ⟨rfl, rfl⟩ := q
      rw [fp_put_put]
      have hle := k_num_le (fun i => (wlx p 16 7).getD i 0) e 6 (r_st p (p.1 23), true)
      refine fin 6 0 _ (hle.2.1 hat) (by decide) (k_num_lt _ _ _ _ (by decide)) (Or.inl ⟨hle.2.2 rfl, fun z => ?_⟩)
      have h1 := (ht.1 _ z.1).2.2.2.2
      have h2 := r_tb_pos (p.2.1 8 (p.1 23)) (p.2.1 9 (p.1 23))
      omega
    · exact absurd (show nI 0 < 128 by decide) c_15
theorem hears_stop {q : rs} (h : ¬ (q.1 23 < q.1 19 ∧ q.2.1 10 (q.1 23) ≤ q.1 18)) : r_hears (q.1 19 - q.1 23) q = q := by
  cases hn : q.1 19 - q.1 23 with
  | zero => rfl
  | succ n => rw [r_hears, if_neg (fun z => h ⟨by omega, z⟩)]
theorem hears_go {q : rs} (hB : r_B q) (h : q.1 23 < q.1 19 ∧ q.2.1 10 (q.1 23) ≤ q.1 18) : r_hears (q.1 19 - q.1 23) q = r_hears ((r_hear1 q).1 19 - (r_hear1 q).1 23) (r_hear1 q) := by
  obtain ⟨-, h1, h2, -⟩ := hB.hear1 h.1
  rw [h1, h2 19 (by decide) (by decide), show q.1 19 - q.1 23 = (q.1 19 - (q.1 23 + 1)) + 1 by omega, r_hears, if_pos h.2]
theorem ch_hear (m : EN G h en tb op ln wr cO oa p cW cL) (hr : rdr h 13 ra 12 ba (wlx p 16 7) (p.1 18) (r_st p (p.1 23), false)) (hB : r_B p) (ht : TB p) : fp_ct G rm_X2_hear M_X2_hear [.ref en, .ref ra] h (fun r h' => r = none ∧ EN G h' en tb op ln wr cO oa (r_hears (p.1 19 - p.1 23) p) cW cL ∧ h'.1 ra = some (13, rc ba (p.1 18) (r_st p ((r_hears (p.1 19 - p.1 23) p).1 23), false)) ∧ cf hS2 h h' ∧ h'.2 = h.2) := by
  have loop : ∀ (L : Nat) (p : rs) (h : fp_H), EN G h en tb op ln wr cO oa p cW cL → rdr h 13 ra 12 ba (wlx p 16 7) (p.1 18) (r_st p (p.1 23), false) → r_B p → TB p → p.1 18 - r_st p (p.1 23) ≤ L → L < 2 ^ 30 → fp_wp G rm_X2_hear M_X2_hear 7 [some (.ref en), some (.ref ra), some (.int 1), some (.int (nI L))] [] h (fun r h' => r = none ∧ EN G h' en tb op ln wr cO oa (r_hears (p.1 19 - p.1 23) p) cW cL ∧ h'.1 ra = some (13, rc ba (p.1 18) (r_st p ((r_hears (p.1 19 - p.1 23) p).1 23), false)) ∧ cf hS2 h h' ∧ h'.2 = h.2) := by
    intro L
    induction L with
    | zero =>
      intro p h m hr hB ht hL _
      refine wp_iload_n dX2_hear_7 rfl ?_
      refine wp_if_le (tgt := 27) dX2_hear_8 rfl (fun c_8 => ?_) (fun c_8 => ?_)
      · refine wp_vret dX2_hear_27 rfl ?_
        rw [hears_stop (fun z => ?_)]
        · exact ⟨rfl, m, hr.1, cf.refl, rfl⟩
        · have h1 := (ht.1 _ z.1).2.2.2.2
          have h2 := r_tb_pos (p.2.1 8 (p.1 23)) (p.2.1 9 (p.1 23))
          omega
      · exact absurd (by decide) c_8
    | succ L ih =>
      intro p h m hr hB ht hL hL2
      obtain ⟨⟨x5, x6, x7, x8, m1⟩, -⟩ := id m
      refine wp_iload_n dX2_hear_7 rfl ?_
      refine wp_if_le (tgt := 27) dX2_hear_8 rfl (fun c_8 => ?_) (fun c_8 => ?_)
      · exact absurd c_8 (nI_nle (by omega) (by omega))
      · refine wp_iload_n dX2_hear_11 rfl ?_
        refine wp_if_eq (tgt := 27) dX2_hear_12 rfl (fun c_12 => ?_) (fun c_12 => ?_)
        · exact absurd c_12 (by decide)
        · refine wp_aload_n dX2_hear_15 rfl ?_
          refine wp_aload_n dX2_hear_16 rfl ?_
          refine wp_callV (As := [.ref ra]) (rest := []) dX2_hear_17 me_X2_hearOne cw_X2_189 rfl ⟨(Nat.le_of_ble_eq_true rfl), (Nat.le_of_ble_eq_true rfl)⟩ rfl rfl rfl (Nat.le_of_ble_eq_true rfl) m1 (ch_one m hr hB ht) (fun r h1 q => ?_)
          rcases q with ⟨q1, rfl, rfl⟩ | ⟨q1, rfl, q2, q3, q4, q5⟩
          · refine wp_istore_n dX2_hear_20 (Nat.le_of_ble_eq_true rfl) rfl ?_
            refine wp_iinc dX2_hear_21 rfl rfl ?_
            refine wp_goto (tgt := 7) dX2_hear_24 rfl ?_
            refine wp_iload_n dX2_hear_7 rfl ?_
            refine wp_if_le (tgt := 27) dX2_hear_8 rfl (fun c_8 => ?_) (fun c_8 => ?_)
            · refine wp_vret dX2_hear_27 rfl ?_
              rw [hears_stop q1]
              exact ⟨rfl, m, hr.1, cf.refl, rfl⟩
            · refine wp_iload_n dX2_hear_11 rfl ?_
              refine wp_if_eq (tgt := 27) dX2_hear_12 rfl (fun c_12 => ?_) (fun c_12 => ?_)
              · refine wp_vret dX2_hear_27 rfl ?_
                rw [hears_stop q1]
                exact ⟨rfl, m, hr.1, cf.refl, rfl⟩
              · exact absurd rfl c_12
          · obtain ⟨b1, b2, b3, b4, b5⟩ := hB.hear1 q1.1
            have e18 := b3 18 (by decide) (by decide)
            have e16 := b3 16 (by decide) (by decide)
            have est : ∀ i, r_st (r_hear1 p) i = r_st p i := fun i => by unfold r_st; rw [b4 10 (by decide)]
            have ewl : wlx (r_hear1 p) 16 7 = wlx p 16 7 := by unfold wlx; rw [e16, b4 7 (by decide)]
            have ht' : TB (r_hear1 p) := ht.eq e16 (b3 19 (by decide) (by decide)) (b4 7 (by decide)) (b4 8 (by decide)) (b4 9 (by decide)) (b4 10 (by decide))
            have hend := (ht.1 _ q1.1).2.2.2.2
            have hpos := r_tb_pos (p.2.1 8 (p.1 23)) (p.2.1 9 (p.1 23))
            have hr' : rdr h1 13 ra 12 ba (wlx (r_hear1 p) 16 7) ((r_hear1 p).1 18) (r_st (r_hear1 p) ((r_hear1 p).1 23), false) := by
              rw [ewl, e18, est, b2]
              obtain ⟨-, ⟨cap, g2⟩, g3, g4, g5, g6⟩ := hr
              exact ⟨q3, ⟨cap, g2.kept q4 (by simp [hS2])⟩, g3, g4, by show r_st p (p.1 23 + 1) ≤ _; rw [r_st_s]; exact q1.2, g6⟩
            refine wp_istore_n dX2_hear_20 (Nat.le_of_ble_eq_true rfl) rfl ?_
            refine wp_iinc dX2_hear_21 rfl rfl ?_
            refine wp_goto (tgt := 7) dX2_hear_24 rfl ?_
            rw [dec1, nI_pred]
            refine (ih (r_hear1 p) h1 q2 hr' b1 ht' (by rw [est, e18, b2, r_st_s]; omega) (by omega)).mono (fun r h2 z => ?_)
            obtain ⟨z1, z2, z3, z4, z5⟩ := z
            rw [← hears_go hB q1] at z2 z3
            rw [e18, est] at z3
            exact ⟨z1, z2, z3, q4.trans z4, by rw [z5, q5]⟩
  have hlen := hr.2.2.2.2.2
  refine fp_meth pn_X2 (Nat.le_of_ble_eq_true rfl) rfl ?_
  refine wp_iconst (v := 1) dX2_hear_0 rfl ?_
  refine wp_istore_n dX2_hear_1 (Nat.le_of_ble_eq_true rfl) rfl ?_
  refine wp_aload_n dX2_hear_2 rfl ?_
  refine wp_callV (As := []) (rest := []) dX2_hear_3 me_X6_left cw_X2_184 rfl ⟨(Nat.le_of_ble_eq_true rfl), (Nat.le_of_ble_eq_true rfl)⟩ rfl rfl rfl (Nat.le_of_ble_eq_true rfl) hr.1 (cr_left hr) (fun r h1 q => ?_)
  obtain ⟨q0, rfl⟩ := q
  rw [q0]
  refine wp_istore_n dX2_hear_6 (Nat.le_of_ble_eq_true rfl) rfl ?_
  exact loop _ p h m hr hB ht (Nat.le_refl _) (by show p.1 18 - _ < _; omega)
end CH
