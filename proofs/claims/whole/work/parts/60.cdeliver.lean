/-! FieldPack: deliver -/
def del1 (p : rs) (k : Nat) : rs := r_sa p 14 k 1
theorem del1_14 (p : rs) (k i : Nat) : (del1 p k).2.1 14 i = if i = k then 1 else p.2.1 14 i := by simp [del1, r_sa]
theorem del1_a {p : rs} {k j : Nat} (h : j ≠ 14) : (del1 p k).2.1 j = p.2.1 j := by funext i; simp [del1, r_sa, h]
theorem OR.del1 {p : rs} {k : Nat} (o : OR p) (hk : k < p.1 28) (h0 : p.2.1 14 k = 0) (hf : ∀ j, j < p.1 28 → p.2.1 11 j = p.2.1 11 k → p.2.1 14 j = 0 → k ≤ j) : OR (del1 p k) := by
  intro i j hij hj hs hi
  rw [del1_a (by decide)] at hs
  change j < p.1 28 at hj
  rw [del1_14] at hi ⊢
  rw [del1_14]
  by_cases e : i = k
  · subst e
    rw [if_pos rfl, if_neg (by omega)]
    have := o i j hij hj hs (by omega)
    omega
  · rw [if_neg e] at hi ⊢
    by_cases e2 : j = k
    · subst e2
      rw [if_pos rfl]
      rcases Nat.eq_zero_or_pos (p.2.1 14 i) with q | q
      · have := hf i (by omega) hs q
        omega
      · exact q
    · rw [if_neg e2]
      exact o i j hij hj hs hi
theorem cnt_drop1 {P Q : Nat → Bool} {k : Nat} (hP : P k = true) (hQ : Q k = false) (h : ∀ i, i ≠ k → Q i = P i) : ∀ n, k < n → ((List.range n).filter Q).length + 1 = ((List.range n).filter P).length := fun n hk => cnt_drop (k := k) hP hQ (fun i hi => by rw [h i hi]) n hk
theorem r_wn_rg {p q : rs} (r : rg p q) : r_zn q ≤ r_zn p := by
  unfold r_zn
  rw [r.2.2.2.2.2.2.1 28 (by decide) (by decide) (by decide)]
  refine cnt_imp _ (fun i _ hi => ?_)
  rw [beq_iff_eq] at hi ⊢
  have := r.1 i
  omega
theorem dX10_deliver_0 : decode cX10_deliver 0 = .ok (.aload_n 0, 1) := by decide +kernel
theorem dX10_deliver_1 : decode cX10_deliver 1 = .ok (.iload_n 1, 1) := by decide +kernel
theorem dX10_deliver_2 : decode cX10_deliver 2 = .ok (.invokevirtual 77, 3) := by decide +kernel
theorem dX10_deliver_5 : decode cX10_deliver 5 = .ok (.astore_n 2, 1) := by decide +kernel
theorem dX10_deliver_6 : decode cX10_deliver 6 = .ok (.aload_n 2, 1) := by decide +kernel
theorem dX10_deliver_7 : decode cX10_deliver 7 = .ok (.ifnull 25, 3) := by decide +kernel
theorem dX10_deliver_10 : decode cX10_deliver 10 = .ok (.aload_n 2, 1) := by decide +kernel
theorem dX10_deliver_11 : decode cX10_deliver 11 = .ok (.getfield 85, 3) := by decide +kernel
theorem dX10_deliver_14 : decode cX10_deliver 14 = .ok (.invokevirtual 129, 3) := by decide +kernel
theorem dX10_deliver_17 : decode cX10_deliver 17 = .ok (.ifCond .ne 15, 3) := by decide +kernel
theorem dX10_deliver_20 : decode cX10_deliver 20 = .ok (.aload_n 2, 1) := by decide +kernel
theorem dX10_deliver_21 : decode cX10_deliver 21 = .ok (.getfield 133, 3) := by decide +kernel
theorem dX10_deliver_24 : decode cX10_deliver 24 = .ok (.invokevirtual 60, 3) := by decide +kernel
theorem dX10_deliver_27 : decode cX10_deliver 27 = .ok (.bipush 8, 2) := by decide +kernel
theorem dX10_deliver_29 : decode cX10_deliver 29 = .ok (.if_icmp .lt 5, 3) := by decide +kernel
theorem dX10_deliver_32 : decode cX10_deliver 32 = .ok (.iconst (-1), 1) := by decide +kernel
theorem dX10_deliver_33 : decode cX10_deliver 33 = .ok (.ireturn, 1) := by decide +kernel
theorem dX10_deliver_34 : decode cX10_deliver 34 = .ok (.aload_n 2, 1) := by decide +kernel
theorem dX10_deliver_35 : decode cX10_deliver 35 = .ok (.getfield 133, 3) := by decide +kernel
theorem dX10_deliver_38 : decode cX10_deliver 38 = .ok (.aload_n 0, 1) := by decide +kernel
theorem dX10_deliver_39 : decode cX10_deliver 39 = .ok (.getfield 42, 3) := by decide +kernel
theorem dX10_deliver_42 : decode cX10_deliver 42 = .ok (.aload_n 2, 1) := by decide +kernel
theorem dX10_deliver_43 : decode cX10_deliver 43 = .ok (.getfield 85, 3) := by decide +kernel
theorem dX10_deliver_46 : decode cX10_deliver 46 = .ok (.iconst 0, 1) := by decide +kernel
theorem dX10_deliver_47 : decode cX10_deliver 47 = .ok (.invokevirtual 136, 3) := by decide +kernel
theorem dX10_deliver_50 : decode cX10_deliver 50 = .ok (.checkcast 107, 3) := by decide +kernel
theorem dX10_deliver_53 : decode cX10_deliver 53 = .ok (.invokevirtual 140, 3) := by decide +kernel
theorem dX10_deliver_56 : decode cX10_deliver 56 = .ok (.invokevirtual 73, 3) := by decide +kernel
theorem dX10_deliver_59 : decode cX10_deliver 59 = .ok (.pop, 1) := by decide +kernel
theorem dX10_deliver_60 : decode cX10_deliver 60 = .ok (.aload_n 0, 1) := by decide +kernel
theorem dX10_deliver_61 : decode cX10_deliver 61 = .ok (.getfield 42, 3) := by decide +kernel
theorem dX10_deliver_64 : decode cX10_deliver 64 = .ok (.aload_n 2, 1) := by decide +kernel
theorem dX10_deliver_65 : decode cX10_deliver 65 = .ok (.aload_n 0, 1) := by decide +kernel
theorem dX10_deliver_66 : decode cX10_deliver 66 = .ok (.getfield 25, 3) := by decide +kernel
theorem dX10_deliver_69 : decode cX10_deliver 69 = .ok (.getfield 95, 3) := by decide +kernel
theorem dX10_deliver_72 : decode cX10_deliver 72 = .ok (.invokevirtual 125, 3) := by decide +kernel
theorem dX10_deliver_75 : decode cX10_deliver 75 = .ok (.aload_n 2, 1) := by decide +kernel
theorem dX10_deliver_76 : decode cX10_deliver 76 = .ok (.getfield 133, 3) := by decide +kernel
theorem dX10_deliver_79 : decode cX10_deliver 79 = .ok (.invokevirtual 129, 3) := by decide +kernel
theorem dX10_deliver_82 : decode cX10_deliver 82 = .ok (.ifCond .eq 7, 3) := by decide +kernel
theorem dX10_deliver_85 : decode cX10_deliver 85 = .ok (.iconst 1, 1) := by decide +kernel
theorem dX10_deliver_86 : decode cX10_deliver 86 = .ok (.goto 4, 3) := by decide +kernel
theorem dX10_deliver_89 : decode cX10_deliver 89 = .ok (.iconst 0, 1) := by decide +kernel
theorem dX10_deliver_90 : decode cX10_deliver 90 = .ok (.ireturn, 1) := by decide +kernel
section CP
variable {G : fp_G} {h : fp_H} {o : Nat} {A la : Nat → Nat} {p : rs} {B c : Nat}
def dvS (k s : Nat) : Nat → Prop := fun t => t = 20 + s ∨ t = 30 + s ∨ t = 2000 + k ∨ t = 3000 + k ∨ t = 4000 + k
set_option maxHeartbeats 2000000 in
theorem cp_deliver {x : Int32} (m : CC G h o A la p B c) (ok : rok p) (hc : p.1 28 ≤ 200) (h8 : ∀ i, i < p.1 28 → p.2.1 11 i < 8) (h16 : p.1 16 + r_wn p < 4000) (h19 : p.1 19 + r_wn p < 2000) (hsec : ∀ k, k < p.1 28 → p.2.1 14 k < 2 → SEC p k ∧ RD p k) (hm : ∀ k, k < p.1 28 → p.2.1 15 k ≤ 12) (hor : OR p) (hQ : ∀ s, s < 8 → r_lying p s 1 ≤ 8) (hR : ∀ k, k < p.1 28 → p.2.1 14 k = 0 → p.2.1 12 k ≠ 0 → 32 ≤ p.1 0 ∧ p.1 24 + 1 ≤ p.2.1 12 k + p.1 0 / 32 ∧ p.2.1 12 k ≤ p.1 24 + p.1 0 / 32) (h23 : p.1 23 ≤ p.1 19) (h0 : p.1 0 ≤ 400) : fp_ct G rm_X10_deliver M_X10_deliver [.ref o, .int x] h (fun r h' => ((¬ ∃ k, r_next p x = some k ∧ r_lying p (p.2.1 11 k) 1 ≠ 8) ∧ r = some (.int (-1)) ∧ h' = h) ∨ ∃ k, r_next p x = some k ∧ r_lying p (p.2.1 11 k) 1 ≠ 8 ∧ r = some (.int (nI (b2n ((r_del p k).2.1 14 k == 2)))) ∧ CC G h' o A la (r_del p k) B (c + 1) ∧ cf nR h h') := by
  obtain ⟨ba, sa, ra, fa, oa, K, c1, c2, c3, m, kb, cx⟩ := m
  have w := m.wf
  obtain ⟨m1, ⟨m2, m3, fl, m4, m5⟩, m6, m7, m8, m9, fs, m10, m11⟩ := id m
  obtain ⟨⟨d1, d2⟩, d3, d4, d5, d6⟩ := id m7
  refine fp_meth pn_X10 (Nat.le_of_ble_eq_true rfl) rfl ?_
  refine wp_aload_n dX10_deliver_0 rfl ?_
  refine wp_iload_n dX10_deliver_1 rfl ?_
  refine wp_callV (As := [.int x]) (rest := []) dX10_deliver_2 me_X10_laneOf cw_X10_77 rfl ⟨(Nat.le_of_ble_eq_true rfl), (Nat.le_of_ble_eq_true rfl)⟩ rfl rfl rfl (Nat.le_of_ble_eq_true rfl) m1 (cp_lane m) (fun r h1 q => ?_)
  obtain ⟨q0, q⟩ := q
  rw [q0]
  rcases q with ⟨q1, rfl⟩ | ⟨s, hs, rfl, rfl⟩
  · refine wp_astore_nN dX10_deliver_5 (Nat.le_of_ble_eq_true rfl) rfl ?_
    refine wp_aload_nN dX10_deliver_6 rfl ?_
    refine wp_ifnullN (tgt := 32) dX10_deliver_7 rfl ?_
    refine wp_iconst (v := (-1)) dX10_deliver_32 rfl ?_
    refine wp_iret dX10_deliver_33 rfl rfl ?_
    refine Or.inl ⟨?_, rfl, rfl⟩
    rintro ⟨k, h1, -⟩
    have := r_next_some h1
    exact q1 ⟨p.2.1 11 k, h8 k this.1, this.2.1⟩
  · rw [r_next_head ok (by omega)]
    obtain ⟨onw, wai, red, e1, e2, e3, e4, e5, e6, e7, e8, e9, e10⟩ := d4 s hs
    obtain ⟨mc1, ed1, l1, -⟩ := id e2
    obtain ⟨mc2, ed2, l2, -⟩ := id e3
    have hq8 := hQ s hs
    refine wp_astore_n dX10_deliver_5 (Nat.le_of_ble_eq_true rfl) rfl ?_
    refine wp_aload_n dX10_deliver_6 rfl ?_
    refine wp_ifnull dX10_deliver_7 ?_
    refine wp_aload_n dX10_deliver_10 rfl ?_
    refine wp_getf dX10_deliver_11 fl_X10_85 e1 rfl ?_
    refine wp_callV (As := []) (rest := []) dX10_deliver_14 me_Jx4a65c_isEmpty_aae02 cw_X10_129 rfl ⟨(Nat.le_of_ble_eq_true rfl), (Nat.le_of_ble_eq_true rfl)⟩ rfl rfl rfl (Nat.le_of_ble_eq_true rfl) l1 (ct_lempty e2) (fun r h2 q => ?_)
    obtain ⟨q0, rfl⟩ := q
    rw [q0]
    cases hl : lyl p s 0 with
    | nil =>
      refine wp_if_ne (tgt := 32) dX10_deliver_17 rfl (fun c_17 => ?_) (fun c_17 => ?_)
      · refine wp_iconst (v := (-1)) dX10_deliver_32 rfl ?_
        refine wp_iret dX10_deliver_33 rfl rfl ?_
        refine Or.inl ⟨?_, rfl, rfl⟩
        rintro ⟨k, h1, -⟩
        simp at h1
      · exact absurd c_17 (show ¬ nI 1 = 0 by decide)
    | cons k l =>
      obtain ⟨hk, hks, hk0, hkm⟩ := lyl_rest hl
      have hh : ∀ j, (k :: l).head? = some j ↔ j = k := fun j => by simp [eq_comm]
      refine wp_if_ne (tgt := 32) dX10_deliver_17 rfl (fun c_17 => ?_) (fun c_17 => ?_)
      · exact absurd rfl c_17
      · refine wp_aload_n dX10_deliver_20 rfl ?_
        refine wp_getf dX10_deliver_21 fl_X10_133 e1 rfl ?_
        refine wp_callV (As := []) (rest := []) dX10_deliver_24 me_Jx4a65c_size_8abf5 cw_X10_60 rfl ⟨(Nat.le_of_ble_eq_true rfl), (Nat.le_of_ble_eq_true rfl)⟩ rfl rfl rfl (Nat.le_of_ble_eq_true rfl) l2 (ct_lsize e3) (fun r h3 q => ?_)
        obtain ⟨q0, rfl⟩ := q
        rw [q0, List.length_map, lyl_len]
        refine wp_bipush (v := 8) dX10_deliver_27 rfl ?_
        refine wp_icmp_lt (tgt := 34) dX10_deliver_29 rfl (fun c_29 => ?_) (fun c_29 => ?_)
        · have hl8 : r_lying p s 1 < 8 := (nI_ltI (b := 8) (by omega) (by decide)).mp c_29
          rw [hl] at e2
          have hel : ∀ y ∈ (k :: l).map ba, el h y := fun y hy => by
            obtain ⟨i, hi, rfl⟩ := List.mem_map.mp hy
            rw [← hl] at hi
            have hi' := lyl_mem.mp hi
            obtain ⟨cap, hb⟩ := (d5 i hi'.1).1 hi'.2.2
            obtain ⟨rb', fb', hb', -⟩ := id hb
            exact ⟨_, _, _, _, hb', rfl, ca_X0_Object⟩
          obtain ⟨capb, bk0⟩ := (d5 k hk).1 hk0
          refine wp_aload_n dX10_deliver_34 rfl ?_
          refine wp_getf dX10_deliver_35 fl_X10_133 e1 rfl ?_
          refine wp_aload_n dX10_deliver_38 rfl ?_
          refine wp_getf dX10_deliver_39 fl_X10_42 m1 rfl ?_
          refine wp_aload_n dX10_deliver_42 rfl ?_
          refine wp_getf dX10_deliver_43 fl_X10_85 e1 rfl ?_
          refine wp_iconst (v := 0) dX10_deliver_46 rfl ?_
          refine wp_callV (As := [.int (nI 0)]) (rest := [.ref (A 3), .ref wai]) dX10_deliver_47 me_Jx4a65c_remove_915e3 cw_X10_136 rfl ⟨(Nat.le_of_ble_eq_true rfl), (Nat.le_of_ble_eq_true rfl)⟩ rfl rfl rfl (Nat.le_of_ble_eq_true rfl) l1 (ct_lremove e2 (y := ba k) rfl hel) (fun r h4 q => ?_)
          obtain ⟨rfl, q1, q2, q3⟩ := q
          have t2 : ∀ t, t ≠ 20 + s → ¬ (fun x => x = 20 + s) t := fun t h1 z => h1 z
          have bk4 := bk0.kept q2 (t2 _ (by omega))
          obtain ⟨rb4, fb4, hb4, -⟩ := id bk4
          have d14 := q2.at d1 (t2 _ (by omega))
          have d24 := d2.kept q2 (t2 _ (by omega))
          refine wp_cast dX10_deliver_50 ck_X10_107 hb4 rfl ca_X0_X0 ?_
          obtain ⟨⟨base, ls, sc1, sc2, sc3⟩, sc4, -⟩ := (hsec k hk (by omega)).1
          have hcd : cdo p k ≤ 24 := by
            unfold cdo
            split
            · omega
            · rename_i hn
              have := hR k hk hk0 hn
              have : p.2.1 12 k % (2 * (p.1 0 / 32)) < 2 * (p.1 0 / 32) := Nat.mod_lt _ (by omega)
              omega
          refine wp_callV (As := [.ref (ba k)]) (rest := [.ref wai]) dX10_deliver_53 me_X1_receive cw_X10_140 rfl ⟨(Nat.le_of_ble_eq_true rfl), (Nat.le_of_ble_eq_true rfl)⟩ rfl rfl rfl (Nat.le_of_ble_eq_true rfl) d14 (cd_receive (Tr := 2000 + k) (Tf := 3000 + k) (Ts := 4000 + k) (Tb := 1000 + k) (q2.wf w) d14 d24 rfl (hR k hk hk0) bk4 sc2 sc4 hcd ⟨by omega, by omega, by omega, by omega, by omega, by omega, by omega, by omega, by omega, by omega, by omega, by omega⟩) (fun r h5 z => ?_)
          obtain ⟨sec, rd, fl', rfl, z1, z2, z3, z4, z5⟩ := z
          have c5 : cf (fun t => t = 20 + s ∨ t = 2000 + k ∨ t = 3000 + k ∨ t = 4000 + k) h h5 := (q2.mono (fun _ z => Or.inl z)).trans (z4.mono (fun _ z => Or.inr z))
          have t5 : ∀ t, t ≠ 20 + s → t ≠ 2000 + k → t ≠ 3000 + k → t ≠ 4000 + k → ¬ (fun t => t = 20 + s ∨ t = 2000 + k ∨ t = 3000 + k ∨ t = 4000 + k) t := fun t a b c d z => by rcases z with z | z | z | z; exact a z; exact b z; exact c z; exact d z
          have e35 := e3.kept c5 (t5 _ (by omega) (by omega) (by omega) (by omega))
          obtain ⟨mc5, ed5, l5, -⟩ := id e35
          have hel2 : ∀ y ∈ (lyl p s 1).map sa, el h5 y := fun y hy => by
            obtain ⟨i, hi, rfl⟩ := List.mem_map.mp hy
            have hi' := lyl_mem.mp hi
            exact ⟨9, 8, _, _, c5.at ((d5 i hi'.1).2.1 hi'.2.2).1 (t5 _ (by omega) (by omega) (by omega) (by omega)), rfl, ca_X7_Object⟩
          refine wp_callV (As := [.ref sec]) (rest := []) dX10_deliver_56 me_Jx4a65c_add_9ea2d cw_X10_73 rfl ⟨(Nat.le_of_ble_eq_true rfl), (Nat.le_of_ble_eq_true rfl)⟩ rfl rfl rfl (Nat.le_of_ble_eq_true rfl) l5 (ct_ladd (c5.wf w) e35 (by omega) e6 hel2 z1 (by omega) rfl ca_X7_Object) (fun r h6 y => ?_)
          obtain ⟨cN, rfl, y1, y2, y3, y4, y5, y6⟩ := y
          rw [List.length_map, lyl_len] at y4
          have c6 : cf (dvS k s) h h6 := (c5.mono (fun t z => by unfold dvS; omega)).trans (y5.mono (fun t z => by unfold dvS; omega))
          have t6 : ∀ t, t ≠ 20 + s → t ≠ 30 + s → t ≠ 2000 + k → t ≠ 3000 + k → t ≠ 4000 + k → ¬ dvS k s t := fun t h1 h2 h3 h4 h5 z => by unfold dvS at z; omega
          -- the state between
          have g28 : (del1 p k).1 28 = p.1 28 := rfl
          have hgt : ∀ j, j < p.1 28 → p.2.1 11 j = s → p.2.1 14 j = 1 → j < k := fun j hj h1 h2 => by
            rcases Nat.lt_or_ge j k with q | q
            · exact q
            · exfalso
              by_cases e : j = k
              · subst e; omega
              · have := hor k j (by omega) hj (by rw [hks, h1]) (by omega)
                omega
          have ly0 : lyl (del1 p k) s 0 = l := by
            refine lyl_drop hl g28 (fun i hi => ?_)
            rw [del1_a (by decide), del1_14]
            by_cases e : i = k
            · subst e; simp
            · rw [if_neg e]; exact ⟨fun z => ⟨z, e⟩, fun z => z.1⟩
          have ly1 : lyl (del1 p k) s 1 = lyl p s 1 ++ [k] := by
            refine lyl_snoc hk hgt g28 (fun i hi => ?_)
            rw [del1_a (by decide), del1_14]
            by_cases e : i = k
            · subst e; simp [hks]
            · rw [if_neg e]; exact ⟨fun z => Or.inl z, fun z => z.elim id (fun y => absurd y e)⟩
          have lyo : ∀ s' w, ¬ (s' = s ∧ (w = 0 ∨ w = 1)) → lyl (del1 p k) s' w = lyl p s' w := fun s' w hn => by
            refine lyl_eq g28 (fun i hi => ?_)
            rw [del1_a (by decide), del1_14]
            by_cases e : i = k
            · subst e
              rw [if_pos rfl]
              constructor
              · intro z; exact absurd ⟨by rw [← z.1, hks], Or.inr z.2.symm⟩ hn
              · intro z; exact absurd ⟨by rw [← z.1, hks], Or.inl (by omega)⟩ hn
            · rw [if_neg e]
          have hmu : ∀ s' w, ¬ (s' = s ∧ w = 0) → (lyl p s' w).map (upd1 sa k sec) = (lyl p s' w).map sa := fun s' w hn => map_upd (fun i hi e => by
            have := lyl_mem.mp hi
            rw [e] at this
            exact hn ⟨by rw [← this.2.1, hks], by omega⟩)
          have DI6 : DI G h6 (A 3) (A 13) (A 11) (K 3) la ba (upd1 sa k sec) (upd1 ra k rd) (upd1 fa k fl') c1 (upd1 c2 s cN) c3 (del1 p k) := by
            refine ⟨⟨c6.at d1 (t6 _ (by omega) (by omega) (by omega) (by omega) (by omega)), d2.kept c6 (t6 _ (by omega) (by omega) (by omega) (by omega) (by omega))⟩, ?_, fun s' hs' => ?_, fun i hi => ?_, c6.wf w⟩
            · have : wlx (del1 p k) 16 7 = wlx p 16 7 := by unfold wlx; rw [del1_a (by decide)]; rfl
              rw [this]
              exact d3.kept c6 (t6 _ (by omega) (by omega) (by omega) (by omega) (by omega))
            · by_cases e : s' = s
              · subst e
                refine ⟨onw, wai, red, ?_, ?_, ?_, ?_, e5, ?_, e7, e8, ?_, e10⟩
                · rw [del1_a (by decide)]
                  exact c6.at e1 (t6 _ (by omega) (by omega) (by omega) (by omega) (by omega))
                · rw [ly0]
                  have q1' : lst G h4 (20 + s') onw (l.map ba) (c1 s') := q1
                  exact (q1'.kept z4 (fun z => by omega)).kept y5 (fun z => by omega)
                · rw [ly1, List.map_append, hmu s' 1 (by omega), List.map_cons, List.map_nil]
                  simp only [upd1, if_pos]
                  exact y1
                · rw [lyo s' 2 (by omega), hmu s' 2 (by omega)]
                  exact e4.kept c6 (t6 _ (by omega) (by omega) (by omega) (by omega) (by omega))
                · simp only [upd1, if_pos]; exact y2
                · simp only [upd1, if_pos]; omega
              · refine ((d4 s' hs').kept c6 (t6 _ (by omega) (by omega) (by omega) (by omega) (by omega)) (t6 _ (by omega) (by omega) (by omega) (by omega) (by omega)) (t6 _ (by omega) (by omega) (by omega) (by omega) (by omega)) (t6 _ (by omega) (by omega) (by omega) (by omega) (by omega))).eq (by rw [del1_a (by decide)]) ?_ ?_ ?_ rfl (by simp only [upd1, if_neg e]) rfl
                · rw [lyo s' 0 (fun z => e z.1)]
                · rw [lyo s' 1 (fun z => e z.1), hmu s' 1 (fun z => e z.1)]
                · rw [lyo s' 2 (fun z => e z.1), hmu s' 2 (fun z => e z.1)]
            · change i < p.1 28 at hi
              by_cases e : i = k
              · subst e
                have s1 : (del1 p i).2.1 14 i = 1 := by rw [del1_14, if_pos rfl]
                refine ⟨fun z => ?_, fun _ => ?_, fun z => ?_⟩
                · rw [s1] at z; cases z
                · simp only [upd1, if_pos]
                  have es : sbt (del1 p i) i = sbt p i := by unfold sbt; rw [del1_a (by decide), del1_a (by decide), del1_a (by decide)]
                  have ec : cdo (del1 p i) i = cdo p i := by unfold cdo; rw [del1_a (by decide)]; rfl
                  rw [es, ec, del1_a (by decide)]
                  exact ⟨y5.at z1 (fun z => by omega), z2.kept y5 (fun z => by omega) (fun z => by omega), z3.kept y5 (fun z => by omega)⟩
                · rw [s1] at z; cases z
              · exact ((d5 i hi).kept c6 (t6 _ (by omega) (by omega) (by omega) (by omega) (by omega)) (t6 _ (by omega) (by omega) (by omega) (by omega) (by omega)) (t6 _ (by omega) (by omega) (by omega) (by omega) (by omega)) (t6 _ (by omega) (by omega) (by omega) (by omega) (by omega))).eq (kEq.of rfl (by rw [del1_14, if_neg e]) (by rw [del1_a (by decide)]) (by rw [del1_a (by decide)]) (del1_a (by decide)) (del1_a (by decide)) (del1_a (by decide)) (del1_a (by decide)) rfl) (hm i hi) rfl (by simp only [upd1, if_neg e]) (by simp only [upd1, if_neg e]) (by simp only [upd1, if_neg e])
          have wn1 : r_wn (del1 p k) = r_wn p + 1 := by
            unfold r_wn
            exact (cnt_drop1 (P := fun i => (del1 p k).2.1 14 i == 1) (Q := fun i => p.2.1 14 i == 1) (by rw [del1_14, if_pos rfl]; rfl) (by rw [hk0]; rfl) (fun i hi => by rw [del1_14, if_neg hi]) _ hk).symm
          have zn1 : r_zn (del1 p k) + 1 = r_zn p := by
            unfold r_zn
            exact cnt_drop1 (Q := fun i => (del1 p k).2.1 14 i == 0) (P := fun i => p.2.1 14 i == 0) (by rw [hk0]; rfl) (by rw [del1_14, if_pos rfl]; rfl) (fun i hi => by rw [del1_14, if_neg hi]) _ hk
          have ok1 : rok (del1 p k) := ok.sa (by decide)
          have hsec1 : ∀ i, i < (del1 p k).1 28 → (del1 p k).2.1 14 i = 1 → SEC (del1 p k) i ∧ RD (del1 p k) i := fun i hi h1 => by
            rw [del1_14] at h1
            have hi2 : p.2.1 14 i < 2 := by
              split at h1
              · rename_i e; subst e; omega
              · omega
            obtain ⟨x1, x2⟩ := hsec i hi hi2
            have es : sbt (del1 p k) i = sbt p i := by unfold sbt; rw [del1_a (by decide), del1_a (by decide), del1_a (by decide)]
            have ec : cdo (del1 p k) i = cdo p i := by unfold cdo; rw [del1_a (by decide)]; rfl
            have er : isref (del1 p k) i = isref p i := by unfold isref; rw [del1_a (by decide), del1_a (by decide)]
            unfold SEC RD at *
            rw [es, ec, er, del1_a (by decide), del1_a (by decide), del1_a (by decide), del1_a (by decide)]
            exact ⟨x1, x2⟩
          have m16 := c6.at m1 (t6 2 (by omega) (by omega) (by omega) (by omega) (by omega))
          have m36 := c6.at m3 (t6 9 (by omega) (by omega) (by omega) (by omega) (by omega))
          refine wp_pop dX10_deliver_59 rfl ?_
          refine wp_aload_n dX10_deliver_60 rfl ?_
          refine wp_getf dX10_deliver_61 fl_X10_42 m16 rfl ?_
          refine wp_aload_n dX10_deliver_64 rfl ?_
          refine wp_aload_n dX10_deliver_65 rfl ?_
          refine wp_getf dX10_deliver_66 fl_X10_25 m16 rfl ?_
          refine wp_getf dX10_deliver_69 fl_X10_95 m36 rfl ?_
          refine wp_callV (As := [.ref (la s), .ref (A 11)]) (rest := []) dX10_deliver_72 me_X1_release cw_X10_125 rfl ⟨(Nat.le_of_ble_eq_true rfl), (Nat.le_of_ble_eq_true rfl)⟩ rfl rfl rfl (Nat.le_of_ble_eq_true rfl) DI6.1.1 (cd_release DI6 hs ok1 hc hsec1 (by rw [del1_a (by decide)]; exact hm) (hor.del1 hk hk0 (fun j h1 h2 h3 => hkm j h1 (by rw [h2, hks]) h3)) (by rw [del1_a (by decide)]; exact h8) (by rw [wn1]; show p.1 16 + (r_wn p + 1) ≤ 4000; omega) (by rw [wn1]; show p.1 19 + (r_wn p + 1) ≤ 2000; omega)) (fun r h7 v => ?_)
          obtain ⟨rfl, cB, cR, v1, v2, v3, v4, v5, v6⟩ := v
          have er : r_goOn (del1 p k) s = r_del p k := by unfold r_del; rw [hks]; rfl
          rw [er] at v1 v4 v6
          have g := rg.goOn (del1 p k) s
          rw [er] at g
          obtain ⟨onw', wai', red', f1, -, f3, -⟩ := v1.2.2.1 s hs
          have e17 := v2.at (c6.at e1 (t6 _ (by omega) (by omega) (by omega) (by omega) (by omega))) (show ¬ rlS s (50 + s) by unfold rlS; omega)
          rw [f1] at e17
          injection e17 with e17
          injection e17 with e17 e17'
          injection e17' with e17'
          injection e17' with e18 e19
          injection e19 with e20 e21
          injection e21 with e22 e23
          injection e23 with e24 e25
          injection e24 with e24
          subst e24
          obtain ⟨mc7, ed7, l7, -⟩ := id f3
          have hans : ((lyl (r_del p k) s 1).map (upd1 sa k sec)).isEmpty = ((r_del p k).2.1 14 k == 2) := by
            have g28' : (r_del p k).1 28 = p.1 28 := g.2.2.2.2.2.2.1 28 (by decide) (by decide) (by decide)
            have g11 : (r_del p k).2.1 11 = p.2.1 11 := by rw [g.2.2.2.2.2.2.2.1 11 (by decide) (by decide) (by decide) (by decide) (by decide), del1_a (by decide)]
            have hgk := g.1 k
            rw [del1_14, if_pos rfl] at hgk
            rw [Bool.eq_iff_iff, List.isEmpty_iff, List.map_eq_nil_iff, beq_iff_eq]
            constructor
            · intro z
              rcases hgk with y | y
              · have : k ∈ lyl (r_del p k) s 1 := lyl_mem.mpr ⟨by rw [g28']; exact hk, by rw [g11]; exact hks, y⟩
                rw [z] at this
                cases this
              · exact y.1
            · intro z
              have hrel : r_del p k = r_rel (lyl p s 1 ++ [k]) (del1 p k) := by rw [← er, r_goOn_rel, ly1]
              have hnd := lyl_nodup (del1 p k) s 1
              rw [ly1] at hnd
              have hall := rel_end (lyl p s 1) (del1 p k) k hnd (fun i hi => by rw [← ly1] at hi; exact (lyl_mem.mp hi).2.2) (by rw [← hrel]; exact z)
              rw [← hrel] at hall
              rw [List.eq_nil_iff_forall_not_mem]
              intro i hi
              have hi' := lyl_mem.mp hi
              have hgi := g.1 i
              have him : i ∈ lyl (del1 p k) s 1 := lyl_mem.mpr ⟨by rw [g28, ← g28']; exact hi'.1, by rw [del1_a (by decide), ← g11]; exact hi'.2.1, by omega⟩
              rw [ly1] at him
              have := hall i him
              omega
          have c7 : cf (fun t => t = 4 ∨ t = 12 ∨ 20 ≤ t) h h7 := (c6.mono (fun t z => by unfold dvS at z; omega)).trans (v2.mono (fun t z => by unfold rlS at z; omega))
          have fin : CC G h7 o A la (r_del p k) B (c + 1) ∧ cf nR h h7 := by
            refine ⟨⟨ba, upd1 sa k sec, upd1 ra k rd, upd1 fa k fl', oa, (fun i => if i = 3 then cB else K i), c1, upd1 c2 s cN, upd1 c3 s cR, ?_, ?_, ?_⟩, c7.mono (fun t z => by show t ≠ 1; omega)⟩
            · refine m.go c7 (fun t z => by omega) v1 (fun x _ h2 h3 _ _ _ h7 => (g.2.2.2.2.2.2.1 x h2 h3 h7).trans rfl) (fun j h1 h2 h3 h4 h5 => (g.2.2.2.2.2.2.2.1 j h1 h2 h3 h4 h5).trans (del1_a h5)) (g.2.2.2.2.2.2.2.2.trans rfl) (fun i hi => ((g.2.1 i hi).2.2).trans (by rw [del1_a (by decide)])) h23 ?_
              have : r_is (r_del p k) ((r_del p k).1 24) = r_is p (p.1 24) := by
                unfold r_is
                rw [g.2.2.2.2.2.2.1 24 (by decide) (by decide) (by decide), g.2.2.2.2.2.2.2.1 5 (by decide) (by decide) (by decide) (by decide) (by decide), del1_a (by decide)]
                rfl
              rw [this, g.2.2.2.2.2.2.1 15 (by decide) (by decide) (by decide)]
              exact c7.at m8 (fun z => by omega)
            · obtain ⟨k0, k1, k2, k3, k4, k5⟩ := kb
              have hh16 : p.1 16 ≤ (r_del p k).1 16 := g.2.2.2.1
              refine ⟨?_, k1, k2, ?_, k4, k5⟩
              · show K 0 ≤ max 64 (2 * (r_del p k).1 13 + 8)
                rw [g.2.2.2.2.2.2.1 13 (by decide) (by decide) (by decide)]
                exact k0
              · show cB ≤ max 64 (2 * (r_del p k).1 16 + 8)
                omega
            · have s1 := sum8_upd (c := c2) (v := cN) hs
              have s2 := sum8_upd (c := c3) (v := cR) hs
              have hz := r_wn_rg g
              have q3' : h4.2.2 = h.2.2 := by rw [q3]
              unfold CX at *
              rw [g.2.2.2.2.2.2.1 28 (by decide) (by decide) (by decide)]
              show h7.2.2 + 260 * r_zn (r_del p k) + 250 * r_wn (r_del p k) ≤ B + 2 * (K 0 + K 1 + cB) + 4 * (K 2 + K 4 + sum8 c1 + sum8 (upd1 c2 s cN) + sum8 (upd1 c3 s cR)) + 1400 * p.1 28 + 3 * (c + 1)
              omega
          have hne : r_lying p (p.2.1 11 k) 1 ≠ 8 := by rw [hks]; omega
          refine wp_aload_n dX10_deliver_75 rfl ?_
          refine wp_getf dX10_deliver_76 fl_X10_133 f1 rfl ?_
          refine wp_callV (As := []) (rest := []) dX10_deliver_79 me_Jx4a65c_isEmpty_aae02 cw_X10_129 rfl ⟨(Nat.le_of_ble_eq_true rfl), (Nat.le_of_ble_eq_true rfl)⟩ rfl rfl rfl (Nat.le_of_ble_eq_true rfl) l7 (ct_lempty f3) (fun r h8 u => ?_)
          obtain ⟨u0, rfl⟩ := u
          rw [u0, hans]
          cases hb : ((r_del p k).2.1 14 k == 2) with
          | true =>
            refine wp_if_eq (tgt := 89) dX10_deliver_82 rfl (fun c_82 => ?_) (fun c_82 => ?_)
            · exact absurd c_82 (show ¬ nI 1 = 0 by decide)
            · refine wp_iconst (v := 1) dX10_deliver_85 rfl ?_
              refine wp_goto (tgt := 90) dX10_deliver_86 rfl ?_
              refine wp_iret dX10_deliver_90 rfl rfl ?_
              exact Or.inr ⟨k, rfl, hne, by rw [hb]; rfl, fin⟩
          | false =>
            refine wp_if_eq (tgt := 89) dX10_deliver_82 rfl (fun c_82 => ?_) (fun c_82 => ?_)
            · refine wp_iconst (v := 0) dX10_deliver_89 rfl ?_
              refine wp_iret dX10_deliver_90 rfl rfl ?_
              exact Or.inr ⟨k, rfl, hne, by rw [hb]; rfl, fin⟩
            · exact absurd rfl c_82
        · refine wp_iconst (v := (-1)) dX10_deliver_32 rfl ?_
          refine wp_iret dX10_deliver_33 rfl rfl ?_
          refine Or.inl ⟨?_, rfl, rfl⟩
          rintro ⟨j, h1, h2⟩
          have := (hh j).mp h1
          subst this
          rw [hks] at h2
          rcases Nat.lt_or_ge (r_lying p s 1) 8 with q | q
          · exact absurd (nI_lt (b := 8) q (by decide)) c_29
          · omega
end CP
