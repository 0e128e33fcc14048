/-! Decoder.release, tellCome -/
theorem wlx_told (p : rs) (kind v : Nat) : wlx (r_tell p kind v) 16 7 = wlx p 16 7 ++ r_tb kind v := by
  have : wlx (r_tell p kind v) 16 7 = wlx (r_lays p 1 (r_tb kind v)) 16 7 := by
    unfold wlx
    have e1 : (r_tell p kind v).1 16 = (r_lays p 1 (r_tb kind v)).1 16 := by simp [r_tell, r_told, r_si, r_sa]
    have e2 : (r_tell p kind v).2.1 7 = (r_lays p 1 (r_tb kind v)).2.1 7 := by funext i; simp [r_tell, r_told, r_si, r_sa]
    rw [e1, e2]
  rw [this]
  exact wlx_lays 1 _ p
theorem r_dec_27 {p : rs} {k : Nat} : (r_dec p k).1 27 = if p.2.1 12 k = 0 then p.1 27 else max (p.2.1 12 k) (p.1 27) := by
  unfold r_dec
  split
  · rfl
  · simp [r_si]
theorem wlx_dec {p : rs} {k : Nat} : wlx (r_dec p k) 16 7 = wlx p 16 7 ++ (if p.2.1 12 k = 0 then [] else nb 128 7 (p.2.1 11 k)) := by
  unfold r_dec
  split
  · rw [List.append_nil]; unfold wlx; simp [r_sa]
  · have : wlx (r_si (r_tell (r_sa p 14 k 2) 1 (p.2.1 11 k)) 27 (max (p.2.1 12 k) (p.1 27))) 16 7 = wlx (r_tell (r_sa p 14 k 2) 1 (p.2.1 11 k)) 16 7 := rfl
    rw [this, wlx_told, r_tb, if_pos rfl]
    congr 1
theorem kEq.dec {p : rs} {k i : Nat} (hne : i ≠ k) : kEq p (r_dec p k) i := by
  refine ⟨r_dec_k (by decide) (by decide) (by decide), ?_, by rw [r_dec_a (by decide) (by decide) (by decide) (by decide) (by decide)], by rw [r_dec_a (by decide) (by decide) (by decide) (by decide) (by decide)], ?_, fun f _ => ⟨by rw [r_dec_l], by rw [r_dec_l], by rw [r_dec_a (by decide) (by decide) (by decide) (by decide) (by decide)]⟩⟩
  · rw [r_dec_14]; simp [hne]
  · unfold sbt
    rw [r_dec_a (show 22 ≠ 7 by decide) (by decide) (by decide) (by decide) (by decide), r_dec_a (show 23 ≠ 7 by decide) (by decide) (by decide) (by decide) (by decide), r_dec_a (show 21 ≠ 7 by decide) (by decide) (by decide) (by decide) (by decide)]
theorem OR.dec {p : rs} {k : Nat} (o : OR p) (hk : k < p.1 28) (h1 : p.2.1 14 k = 1) (hf : ∀ j, j < k → p.2.1 11 j = p.2.1 11 k → 2 ≤ p.2.1 14 j) : OR (r_dec p k) := by
  intro i j hij hj hs hi
  rw [r_dec_k (show 28 ≠ 16 by decide) (by decide) (by decide)] at hj
  rw [r_dec_a (show 11 ≠ 7 by decide) (by decide) (by decide) (by decide) (by decide)] at hs
  rw [r_dec_14] at hi ⊢
  show (if j = k then 2 else p.2.1 14 j) ≤ (if i = k then 2 else p.2.1 14 i)
  have hi' : (if i = k then 2 else p.2.1 14 i) < 2 := hi
  by_cases e : i = k
  · rw [if_pos e] at hi'; omega
  · rw [if_neg e] at hi' ⊢
    have hij' := o i j hij hj hs hi'
    by_cases e2 : j = k
    · subst e2
      have := hf i hij hs
      omega
    · rw [if_neg e2]; exact hij'
theorem dX1_release_0 : decode cX1_release 0 = .ok (.aload_n 1, 1) := by decide +kernel
theorem dX1_release_1 : decode cX1_release 1 = .ok (.getfield 91, 3) := by decide +kernel
theorem dX1_release_4 : decode cX1_release 4 = .ok (.invokevirtual 97, 3) := by decide +kernel
theorem dX1_release_7 : decode cX1_release 7 = .ok (.istore_n 3, 1) := by decide +kernel
theorem dX1_release_8 : decode cX1_release 8 = .ok (.iload_n 3, 1) := by decide +kernel
theorem dX1_release_9 : decode cX1_release 9 = .ok (.ifCond .le 100, 3) := by decide +kernel
theorem dX1_release_12 : decode cX1_release 12 = .ok (.aload_n 1, 1) := by decide +kernel
theorem dX1_release_13 : decode cX1_release 13 = .ok (.getfield 91, 3) := by decide +kernel
theorem dX1_release_16 : decode cX1_release 16 = .ok (.iconst 0, 1) := by decide +kernel
theorem dX1_release_17 : decode cX1_release 17 = .ok (.invokevirtual 101, 3) := by decide +kernel
theorem dX1_release_20 : decode cX1_release 20 = .ok (.checkcast 74, 3) := by decide +kernel
theorem dX1_release_23 : decode cX1_release 23 = .ok (.getfield 105, 3) := by decide +kernel
theorem dX1_release_26 : decode cX1_release 26 = .ok (.aload_n 0, 1) := by decide +kernel
theorem dX1_release_27 : decode cX1_release 27 = .ok (.getfield 14, 3) := by decide +kernel
theorem dX1_release_30 : decode cX1_release 30 = .ok (.getfield 60, 3) := by decide +kernel
theorem dX1_release_33 : decode cX1_release 33 = .ok (.if_icmp .le 4, 3) := by decide +kernel
theorem dX1_release_36 : decode cX1_release 36 = .ok (.return_, 1) := by decide +kernel
theorem dX1_release_37 : decode cX1_release 37 = .ok (.aload_n 1, 1) := by decide +kernel
theorem dX1_release_38 : decode cX1_release 38 = .ok (.getfield 91, 3) := by decide +kernel
theorem dX1_release_41 : decode cX1_release 41 = .ok (.iconst 0, 1) := by decide +kernel
theorem dX1_release_42 : decode cX1_release 42 = .ok (.invokevirtual 108, 3) := by decide +kernel
theorem dX1_release_45 : decode cX1_release 45 = .ok (.checkcast 74, 3) := by decide +kernel
theorem dX1_release_48 : decode cX1_release 48 = .ok (.astore 4, 2) := by decide +kernel
theorem dX1_release_50 : decode cX1_release 50 = .ok (.aload_n 0, 1) := by decide +kernel
theorem dX1_release_51 : decode cX1_release 51 = .ok (.aload 4, 2) := by decide +kernel
theorem dX1_release_53 : decode cX1_release 53 = .ok (.invokevirtual 111, 3) := by decide +kernel
theorem dX1_release_56 : decode cX1_release 56 = .ok (.aload_n 1, 1) := by decide +kernel
theorem dX1_release_57 : decode cX1_release 57 = .ok (.getfield 115, 3) := by decide +kernel
theorem dX1_release_60 : decode cX1_release 60 = .ok (.aload 4, 2) := by decide +kernel
theorem dX1_release_62 : decode cX1_release 62 = .ok (.invokevirtual 118, 3) := by decide +kernel
theorem dX1_release_65 : decode cX1_release 65 = .ok (.pop, 1) := by decide +kernel
theorem dX1_release_66 : decode cX1_release 66 = .ok (.aload 4, 2) := by decide +kernel
theorem dX1_release_68 : decode cX1_release 68 = .ok (.getfield 105, 3) := by decide +kernel
theorem dX1_release_71 : decode cX1_release 71 = .ok (.ifCond .le 32, 3) := by decide +kernel
theorem dX1_release_74 : decode cX1_release 74 = .ok (.aload_n 2, 1) := by decide +kernel
theorem dX1_release_75 : decode cX1_release 75 = .ok (.sipush 128, 3) := by decide +kernel
theorem dX1_release_78 : decode cX1_release 78 = .ok (.bipush 7, 2) := by decide +kernel
theorem dX1_release_80 : decode cX1_release 80 = .ok (.aload_n 1, 1) := by decide +kernel
theorem dX1_release_81 : decode cX1_release 81 = .ok (.getfield 122, 3) := by decide +kernel
theorem dX1_release_84 : decode cX1_release 84 = .ok (.invokevirtual 125, 3) := by decide +kernel
theorem dX1_release_87 : decode cX1_release 87 = .ok (.aload_n 0, 1) := by decide +kernel
theorem dX1_release_88 : decode cX1_release 88 = .ok (.aload_n 0, 1) := by decide +kernel
theorem dX1_release_89 : decode cX1_release 89 = .ok (.getfield 129, 3) := by decide +kernel
theorem dX1_release_92 : decode cX1_release 92 = .ok (.aload 4, 2) := by decide +kernel
theorem dX1_release_94 : decode cX1_release 94 = .ok (.getfield 105, 3) := by decide +kernel
theorem dX1_release_97 : decode cX1_release 97 = .ok (.invokestatic 132, 3) := by decide +kernel
theorem dX1_release_100 : decode cX1_release 100 = .ok (.putfield 129, 3) := by decide +kernel
theorem dX1_release_103 : decode cX1_release 103 = .ok (.iinc 3 (-1), 3) := by decide +kernel
theorem dX1_release_106 : decode cX1_release 106 = .ok (.goto (-98), 3) := by decide +kernel
theorem dX1_release_109 : decode cX1_release 109 = .ok (.return_, 1) := by decide +kernel
theorem dX1_tellCome_0 : decode cX1_tellCome 0 = .ok (.aload_n 0, 1) := by decide +kernel
theorem dX1_tellCome_1 : decode cX1_tellCome 1 = .ok (.getfield 14, 3) := by decide +kernel
theorem dX1_tellCome_4 : decode cX1_tellCome 4 = .ok (.getfield 60, 3) := by decide +kernel
theorem dX1_tellCome_7 : decode cX1_tellCome 7 = .ok (.aload_n 0, 1) := by decide +kernel
theorem dX1_tellCome_8 : decode cX1_tellCome 8 = .ok (.getfield 129, 3) := by decide +kernel
theorem dX1_tellCome_11 : decode cX1_tellCome 11 = .ok (.isub, 1) := by decide +kernel
theorem dX1_tellCome_12 : decode cX1_tellCome 12 = .ok (.istore_n 2, 1) := by decide +kernel
theorem dX1_tellCome_13 : decode cX1_tellCome 13 = .ok (.iload_n 2, 1) := by decide +kernel
theorem dX1_tellCome_14 : decode cX1_tellCome 14 = .ok (.ifCond .le 22, 3) := by decide +kernel
theorem dX1_tellCome_17 : decode cX1_tellCome 17 = .ok (.aload_n 1, 1) := by decide +kernel
theorem dX1_tellCome_18 : decode cX1_tellCome 18 = .ok (.iconst 0, 1) := by decide +kernel
theorem dX1_tellCome_19 : decode cX1_tellCome 19 = .ok (.bipush 6, 2) := by decide +kernel
theorem dX1_tellCome_21 : decode cX1_tellCome 21 = .ok (.iload_n 2, 1) := by decide +kernel
theorem dX1_tellCome_22 : decode cX1_tellCome 22 = .ok (.invokevirtual 125, 3) := by decide +kernel
theorem dX1_tellCome_25 : decode cX1_tellCome 25 = .ok (.aload_n 0, 1) := by decide +kernel
theorem dX1_tellCome_26 : decode cX1_tellCome 26 = .ok (.aload_n 0, 1) := by decide +kernel
theorem dX1_tellCome_27 : decode cX1_tellCome 27 = .ok (.getfield 14, 3) := by decide +kernel
theorem dX1_tellCome_30 : decode cX1_tellCome 30 = .ok (.getfield 60, 3) := by decide +kernel
theorem dX1_tellCome_33 : decode cX1_tellCome 33 = .ok (.putfield 129, 3) := by decide +kernel
theorem dX1_tellCome_36 : decode cX1_tellCome 36 = .ok (.iload_n 2, 1) := by decide +kernel
theorem dX1_tellCome_37 : decode cX1_tellCome 37 = .ok (.ireturn, 1) := by decide +kernel
def rlS (s : Nat) : Nat → Prop := fun t => t = 4 ∨ t = 12 ∨ t = 30 + s ∨ t = 40 + s ∨ 2000 ≤ t
section CR
variable {G : fp_G} {h : fp_H} {de td bk cB : Nat} {la ba sa ra fa c1 c2 c3 : Nat → Nat} {p : rs}
def upd1 (c : Nat → Nat) (s v : Nat) : Nat → Nat := fun x => if x = s then v else c x
def relP (G : fp_G) (h : fp_H) (de td bk cB : Nat) (la ba sa ra fa c1 c2 c3 : Nat → Nat) (p p' : rs) (s : Nat) : Option Value → fp_H → Prop := fun r h' => r = none ∧ ∃ cB' c3', DI G h' de td bk cB' la ba sa ra fa c1 c2 (upd1 c3 s c3') p' ∧ cf (rlS s) h h' ∧ cB ≤ cB' ∧ cB' ≤ max cB (2 * p'.1 16 + 8) ∧ c3 s ≤ c3' ∧ h'.2.2 + 250 * r_wn p' + 2 * cB + 4 * c3 s ≤ h.2.2 + 250 * r_wn p + 2 * cB' + 4 * c3'
theorem upd1_self (c : Nat → Nat) (s : Nat) : upd1 c s (c s) = c := by
  funext x
  unfold upd1
  split
  · rename_i e; rw [e]
  · rfl
set_option maxHeartbeats 4000000 in
theorem cd_release {s : Nat} (d : DI G h de td bk cB la ba sa ra fa c1 c2 c3 p) (hs : s < 8) (ok : rok p) (hc : p.1 28 ≤ 200) (hsec : ∀ k, k < p.1 28 → p.2.1 14 k = 1 → SEC p k ∧ RD p k) (hm : ∀ k, k < p.1 28 → p.2.1 15 k ≤ 12) (hor : OR p) (h8 : ∀ i, i < p.1 28 → p.2.1 11 i < 8) (h16 : p.1 16 + r_wn p ≤ 4000) (h19 : p.1 19 + r_wn p ≤ 2000) : fp_ct G rm_X1_release M_X1_release [.ref de, .ref (la s), .ref bk] h (relP G h de td bk cB la ba sa ra fa c1 c2 c3 p (r_goOn p s) s) := by
  rw [r_goOn_rel]
  have loop : ∀ (l : List Nat) (p : rs) (h : fp_H) (cB : Nat) (c3 : Nat → Nat) (x4 : Option Value), DI G h de td bk cB la ba sa ra fa c1 c2 c3 p → lyl p s 1 = l → rok p → p.1 28 ≤ 200 → (∀ k, k < p.1 28 → p.2.1 14 k = 1 → SEC p k ∧ RD p k) → (∀ k, k < p.1 28 → p.2.1 15 k ≤ 12) → OR p → (∀ i, i < p.1 28 → p.2.1 11 i < 8) → p.1 16 + r_wn p ≤ 4000 → p.1 19 + r_wn p ≤ 2000 → fp_wp G rm_X1_release M_X1_release 8 [some (.ref de), some (.ref (la s)), some (.ref bk), some (.int (nI l.length)), x4] [] h (relP G h de td bk cB la ba sa ra fa c1 c2 c3 p (r_rel l p) s) := by
    intro l
    induction l with
    | nil =>
      intro p h cB c3 x4 d hl ok hc hsec hm hor h8 h16 h19
      refine wp_iload_n dX1_release_8 rfl ?_
      refine wp_if_le (tgt := 109) dX1_release_9 rfl (fun c_9 => ?_) (fun c_9 => ?_)
      · refine wp_vret dX1_release_109 rfl ?_
        exact ⟨rfl, cB, c3 s, by rw [upd1_self]; exact d, cf.refl, Nat.le_refl _, Nat.le_max_left _ _, Nat.le_refl _, Nat.le_refl _⟩
      · exact absurd (show nI 0 ≤ 0 by decide) c_9
    | cons k l ih =>
      intro p h cB c3 x4 d hl ok hc hsec hm hor h8 h16 h19
      obtain ⟨hk, hks, hk1, hkm⟩ := lyl_rest hl
      obtain ⟨⟨d1, d2⟩, d3, d4, d5, d6⟩ := id d
      obtain ⟨n1, n2, n3, f1, f2, f3, a1, -⟩ := d2.ex
      obtain ⟨onw, wai, red, e1, e2, e3, e4, e5, e6, e7, e8, e9, e10⟩ := d4 s hs
      rw [hl] at e3
      obtain ⟨mcw, edw, w1, w2⟩ := id e3
      have hwl := w2.lt
      rw [List.length_map, List.length_cons] at hwl
      obtain ⟨⟨base, ls, sc1, sc2, sc3⟩, sc4, sc5, sc6, sc7, sc8⟩ := (hsec k hk hk1).1
      have rdk := (hsec k hk hk1).2
      obtain ⟨k1, k2, k3⟩ := (d5 k hk).2.1 hk1
      have hget : ((k :: l).map sa)[0]? = some (sa k) := rfl
      have h24 := d2.hC
      have hlen1 : (k :: l).length = l.length + 1 := rfl
      rw [r_rel]
      refine wp_iload_n dX1_release_8 rfl ?_
      refine wp_if_le (tgt := 109) dX1_release_9 rfl (fun c_9 => ?_) (fun c_9 => ?_)
      · exact absurd c_9 (nI_nle (by rw [hlen1]; omega) (by rw [hlen1]; omega))
      · refine wp_aload_n dX1_release_12 rfl ?_
        refine wp_getf dX1_release_13 fl_X1_91 e1 rfl ?_
        refine wp_iconst (v := 0) dX1_release_16 rfl ?_
        refine wp_callV (As := [.int (nI 0)]) (rest := []) dX1_release_17 me_Jx4a65c_get_915e3 cw_X1_101 rfl ⟨(Nat.le_of_ble_eq_true rfl), (Nat.le_of_ble_eq_true rfl)⟩ rfl rfl rfl (Nat.le_of_ble_eq_true rfl) w1 (ct_lget e3 hget) (fun r h1 q => ?_)
        obtain ⟨q0, rfl⟩ := q
        rw [q0]
        refine wp_cast dX1_release_20 ck_X1_74 k1 rfl ca_X7_X7 ?_
        refine wp_getf dX1_release_23 fl_X1_105 k1 rfl ?_
        refine wp_aload_n dX1_release_26 rfl ?_
        refine wp_getf dX1_release_27 fl_X1_14 d1 rfl ?_
        refine wp_getf dX1_release_30 fl_X1_60 a1 rfl ?_
        refine wp_icmp_le (tgt := 37) dX1_release_33 rfl (fun c_33 => ?_) (fun c_33 => ?_)
        · have hle : p.2.1 12 k ≤ p.1 24 := (nI_leI (by omega) (by omega)).mp c_33
          rw [if_neg (by omega)]
          have hwel : ∀ y ∈ (k :: l).map sa, el h y := fun y hy => by
            obtain ⟨k2, hk2, rfl⟩ := List.mem_map.mp hy
            rw [← hl] at hk2
            have := lyl_mem.mp hk2
            exact ⟨9, 8, _, _, ((d5 k2 this.1).2.1 this.2.2).1, rfl, ca_X7_Object⟩
          refine wp_aload_n dX1_release_37 rfl ?_
          refine wp_getf dX1_release_38 fl_X1_91 e1 rfl ?_
          refine wp_iconst (v := 0) dX1_release_41 rfl ?_
          refine wp_callV (As := [.int (nI 0)]) (rest := []) dX1_release_42 me_Jx4a65c_remove_915e3 cw_X1_108 rfl ⟨(Nat.le_of_ble_eq_true rfl), (Nat.le_of_ble_eq_true rfl)⟩ rfl rfl rfl (Nat.le_of_ble_eq_true rfl) w1 (ct_lremove e3 hget hwel) (fun r h2 q => ?_)
          obtain ⟨rfl, q1, q2, q3⟩ := q
          have q3s : h2.2.2 = h.2.2 := by rw [q3]
          have t30 : ∀ t, t ≠ 30 + s → ¬ (fun x => x = 30 + s) t := fun t ht z => ht z
          have k1' := q2.at k1 (t30 9 (by omega))
          have k2' := k2.kept q2 (t30 _ (by omega)) (t30 _ (by omega))
          have k3' := k3.kept q2 (t30 _ (by omega))
          have d1' := q2.at d1 (t30 4 (by omega))
          have d2' := d2.kept q2 (t30 16 (by omega))
          refine wp_cast dX1_release_45 ck_X1_74 k1' rfl ca_X7_X7 ?_
          refine wp_astore dX1_release_48 (Nat.le_of_ble_eq_true rfl) rfl ?_
          refine wp_aload_n dX1_release_50 rfl ?_
          refine wp_aload dX1_release_51 rfl ?_
          have hlens : (nb 0 8 (cdo p k)).length + (bsb (p.2.1 12 k) base ++ lcat ls 0 (p.2.1 15 k)).length = (sbt p k).length := by have := congrArg List.length sc2; rw [List.length_append] at this; omega
          have hsb : sb (fun i => (sbt p k).getD i 0) (nb 0 8 (cdo p k)).length (bsb (p.2.1 12 k) base ++ lcat ls 0 (p.2.1 15 k)) := by
            have : sb (fun i => (sbt p k).getD i 0) 0 (sbt p k) := fun i hi => by rw [Nat.zero_add]
            have h2 : sb (fun i => (sbt p k).getD i 0) 0 (nb 0 8 (cdo p k) ++ (bsb (p.2.1 12 k) base ++ lcat ls 0 (p.2.1 15 k))) := by rw [← sc2]; exact this
            have := h2.app.2
            rw [Nat.zero_add] at this
            exact this
          refine wp_callV (As := [.ref (sa k)]) (rest := []) dX1_release_53 me_X1_readLines cw_X1_111 rfl ⟨(Nat.le_of_ble_eq_true rfl), (Nat.le_of_ble_eq_true rfl)⟩ rfl rfl rfl (Nat.le_of_ble_eq_true rfl) d1' (cd_lines (uu := fun f => p.2.2 16 (12 * k + f)) (vv := fun f => p.2.2 17 (12 * k + f)) (ss := fun f => p.2.1 18 (12 * k + f)) (q2.wf d6) d1' d2' k1' k2' k3' (by omega) hsb hlens sc5 (fun f hf => ⟨(sc3 f hf).1.toD (fun j hj => by have := rdk j hj; omega), ok.2.2 _ _, ok.2.2 _ _, (sc3 f hf).2⟩) (by omega) (by omega)) (fun r h3 z => ?_)
          obtain ⟨rfl, as, cF, z1, z2, z3, z4, z5⟩ := z
          have c3' : cf (fun x => x = 30 + s ∨ x = 2000 + k ∨ x = 3000 + k) h h3 := (q2.mono (fun _ z => Or.inl z)).trans (z4.mono (fun _ z => Or.inr z))
          have tt : ∀ t, t ≠ 30 + s → t ≠ 2000 + k → t ≠ 3000 + k → ¬ (fun x => x = 30 + s ∨ x = 2000 + k ∨ x = 3000 + k) t := fun t h1 h2 h3 z => by rcases z with z | z | z; exact h1 z; exact h2 z; exact h3 z
          have e1' := c3'.at e1 (tt _ (by omega) (by omega) (by omega))
          have e4' := e4.kept c3' (tt _ (by omega) (by omega) (by omega))
          obtain ⟨mcr, edr, rr1, -⟩ := id e4'
          have k1'' := z4.at k1' (fun z => by omega)
          have hrel : ∀ y ∈ (lyl p s 2).map sa, el h3 y := fun y hy => by
            obtain ⟨k2, hk2, rfl⟩ := List.mem_map.mp hy
            have := lyl_mem.mp hk2
            exact ⟨9, 8, _, _, c3'.at ((d5 k2 this.1).2.2 this.2.2).1 (tt _ (by omega) (by omega) (by omega)), rfl, ca_X7_Object⟩
          refine wp_aload_n dX1_release_56 rfl ?_
          refine wp_getf dX1_release_57 fl_X1_115 e1' rfl ?_
          refine wp_aload dX1_release_60 rfl ?_
          refine wp_callV (As := [.ref (sa k)]) (rest := []) dX1_release_62 me_Jx4a65c_add_9ea2d cw_X1_118 rfl ⟨(Nat.le_of_ble_eq_true rfl), (Nat.le_of_ble_eq_true rfl)⟩ rfl rfl rfl (Nat.le_of_ble_eq_true rfl) rr1 (ct_ladd (z4.wf (q2.wf d6)) e4' (by omega) e7 hrel k1'' (by omega) rfl ca_X7_Object) (fun r h4 y => ?_)
          obtain ⟨cR, rfl, y1, y2, y3, y4, y5, y6⟩ := y
          have hlr : (lyl p s 2).length ≤ 200 := by have := cnt_le (r_lies p s 2) (p.1 28); show ((List.range (p.1 28)).filter (r_lies p s 2)).length ≤ 200; omega
          rw [List.length_map] at y4
          have c4 : cf (fun x => x = 30 + s ∨ x = 2000 + k ∨ x = 3000 + k ∨ x = 40 + s) h h4 := (c3'.mono (fun _ z => by rcases z with z | z | z; exact Or.inl z; exact Or.inr (Or.inl z); exact Or.inr (Or.inr (Or.inl z)))).trans (y5.mono (fun _ z => Or.inr (Or.inr (Or.inr z))))
          have t4 : ∀ t, t ≠ 30 + s → t ≠ 2000 + k → t ≠ 3000 + k → t ≠ 40 + s → ¬ (fun x => x = 30 + s ∨ x = 2000 + k ∨ x = 3000 + k ∨ x = 40 + s) t := fun t h1 h2 h3 h4 z => by rcases z with z | z | z | z; exact h1 z; exact h2 z; exact h3 z; exact h4 z
          have k14 := c4.at k1 (t4 9 (by omega) (by omega) (by omega) (by omega))
          have w4 := c4.wf d6
          have g28 : (r_dec p k).1 28 = p.1 28 := r_dec_k (by decide) (by decide) (by decide)
          have g24 : (r_dec p k).1 24 = p.1 24 := r_dec_k (by decide) (by decide) (by decide)
          have g11 : (r_dec p k).2.1 11 = p.2.1 11 := r_dec_a (by decide) (by decide) (by decide) (by decide) (by decide)
          have hlow : ∀ j, j < k → p.2.1 11 j = p.2.1 11 k → 2 ≤ p.2.1 14 j := fun j hj hjs => by
            rcases Nat.lt_or_ge (p.2.1 14 j) 2 with q | q
            · have h1 := hor j k hj hk hjs q
              have : p.2.1 14 j = 1 := by omega
              have := hkm j (by omega) (by rw [hjs, hks]) this
              omega
            · exact q
          have hst : ∀ i, (r_dec p k).2.1 14 i = if i = k then 2 else p.2.1 14 i := fun i => by rw [r_dec_14]
          have y1a : lyl (r_dec p k) s 1 = l := by
            refine lyl_drop hl g28 (fun i hi => ?_)
            rw [g11, hst]
            by_cases e : i = k
            · subst e; simp
            · rw [if_neg e]; exact ⟨fun z => ⟨z, e⟩, fun z => z.1⟩
          have y2a : lyl (r_dec p k) s 2 = lyl p s 2 ++ [k] := by
            refine lyl_snoc hk (fun j hj h1 h2 => ?_) g28 (fun i hi => ?_)
            · rcases Nat.lt_or_ge j k with q | q
              · exact q
              · exfalso
                by_cases e : j = k
                · subst e; omega
                · have := hor k j (by omega) hj (by rw [hks, h1]) (by omega)
                  omega
            · rw [g11, hst]
              by_cases e : i = k
              · subst e; simp [hks]
              · rw [if_neg e]; exact ⟨fun z => Or.inl z, fun z => z.elim id (fun y => absurd y e)⟩
          have yot : ∀ s' w, ¬ (s' = s ∧ (w = 1 ∨ w = 2)) → lyl (r_dec p k) s' w = lyl p s' w := fun s' w hn => by
            refine lyl_eq g28 (fun i hi => ?_)
            rw [g11, hst]
            by_cases e : i = k
            · subst e
              rw [if_pos rfl]
              constructor
              · intro z; exact absurd ⟨by rw [← z.1, hks], Or.inr z.2.symm⟩ hn
              · intro z; exact absurd ⟨by rw [← z.1, hks], Or.inl (by omega)⟩ hn
            · rw [if_neg e]
          have hwn := r_wn_dec hk hk1
          -- the new state, but for what is told back
          have fin : ∀ (h5 : fp_H) (cB' : Nat), cf (fun x => x = 4 ∨ x = 12) h4 h5 → h5.1 de = some (4, .inr (2, [.ref td, .int (nI ((r_dec p k).1 27))])) → byt h5 12 bk (wlx (r_dec p k) 16 7) cB' → cB ≤ cB' → cB' ≤ max cB (2 * (r_dec p k).1 16 + 8) → h5.2.2 + 2 * cB ≤ h4.2.2 + 2 * cB' → fp_wp G rm_X1_release M_X1_release 103 [some (.ref de), some (.ref (la s)), some (.ref bk), some (.int (nI (l.length + 1))), some (.ref (sa k))] [] h5 (relP G h de td bk cB la ba sa ra fa c1 c2 c3 p (r_rel l (r_dec p k)) s) := by
            intro h5 cB' g1 g2 g3 g4 g5 g6
            have tb5 : ∀ t, t ≠ 4 → t ≠ 12 → ¬ (fun x => x = 4 ∨ x = 12) t := fun t h1 h2 z => z.elim h1 h2
            have c5 : cf (rlS s) h h5 := (c4.mono (fun t z => by rcases z with z | z | z | z; exact Or.inr (Or.inr (Or.inl z)); exact Or.inr (Or.inr (Or.inr (Or.inr (by omega)))); exact Or.inr (Or.inr (Or.inr (Or.inr (by omega)))); exact Or.inr (Or.inr (Or.inr (Or.inl z))))).trans (g1.mono (fun t z => by rcases z with z | z; exact Or.inl z; exact Or.inr (Or.inl z)))
            have DI5 : DI G h5 de td bk cB' la ba sa ra fa c1 c2 (upd1 c3 s cR) (r_dec p k) := by
              refine ⟨⟨g2, ?_⟩, g3, fun s' hs' => ?_, fun i hi => ?_, g1.wf w4⟩
              · rw [r_dec_l, r_dec_k (show 0 ≠ 16 by decide) (by decide) (by decide), r_dec_k (show 25 ≠ 16 by decide) (by decide) (by decide), g24, r_dec_k (show 26 ≠ 16 by decide) (by decide) (by decide)]
                exact (d2.kept c4 (t4 16 (by omega) (by omega) (by omega) (by omega))).kept g1 (tb5 16 (by decide) (by decide))
              · by_cases e : s' = s
                · subst e
                  refine ⟨onw, wai, red, ?_, ?_, ?_, ?_, e5, e6, ?_, e8, e9, ?_⟩
                  · rw [r_dec_a (show 24 ≠ 7 by decide) (by decide) (by decide) (by decide) (by decide)]
                    exact g1.at (c4.at e1 (t4 _ (by omega) (by omega) (by omega) (by omega))) (tb5 _ (by omega) (by omega))
                  · rw [yot s' 0 (by omega)]
                    exact (e2.kept c4 (t4 _ (by omega) (by omega) (by omega) (by omega))).kept g1 (tb5 _ (by omega) (by omega))
                  · rw [y1a]
                    have q1' : lst G h2 (30 + s') wai (l.map sa) (c2 s') := q1
                    exact ((q1'.kept z4 (fun z => by omega)).kept y5 (fun z => by omega)).kept g1 (tb5 _ (by omega) (by omega))
                  · rw [y2a, List.map_append]
                    have : upd1 c3 s' cR s' = cR := by simp [upd1]
                    rw [this]
                    exact y1.kept g1 (tb5 _ (by omega) (by omega))
                  · have : upd1 c3 s' cR s' = cR := by simp [upd1]
                    rw [this]; exact y2
                  · have : upd1 c3 s' cR s' = cR := by simp [upd1]
                    rw [this]; omega
                · have x := d4 s' hs'
                  have x2 := ((x.kept c4 (t4 _ (by omega) (by omega) (by omega) (by omega)) (t4 _ (by omega) (by omega) (by omega) (by omega)) (t4 _ (by omega) (by omega) (by omega) (by omega)) (t4 _ (by omega) (by omega) (by omega) (by omega)))).kept g1 (tb5 _ (by omega) (by omega)) (tb5 _ (by omega) (by omega)) (tb5 _ (by omega) (by omega)) (tb5 _ (by omega) (by omega))
                  exact x2.eq (by rw [r_dec_a (by decide) (by decide) (by decide) (by decide) (by decide)]) (by rw [yot s' 0 (by omega)]) (by rw [yot s' 1 (by omega)]) (by rw [yot s' 2 (by omega)]) rfl rfl (by simp [upd1, e])
              · rw [g28] at hi
                by_cases e : i = k
                · subst e
                  refine ⟨fun z => ?_, fun z => ?_, fun _ => ?_⟩
                  · rw [hst, if_pos rfl] at z; cases z
                  · rw [hst, if_pos rfl] at z; cases z
                  · have g12 : (r_dec p i).2.1 12 = p.2.1 12 := r_dec_a (by decide) (by decide) (by decide) (by decide) (by decide)
                    have g15 : (r_dec p i).2.1 15 = p.2.1 15 := r_dec_a (by decide) (by decide) (by decide) (by decide) (by decide)
                    have g18 : (r_dec p i).2.1 18 = p.2.1 18 := r_dec_a (by decide) (by decide) (by decide) (by decide) (by decide)
                    refine ⟨by rw [g12]; exact g1.at k14 (tb5 9 (by decide) (by decide)), as, cF, (z1.kept y5 (fun z => by omega)).kept g1 (tb5 _ (by omega) (by omega)), by rw [g15]; exact z2, fun f hf => ?_⟩
                    rw [g15] at hf
                    obtain ⟨a, b1, b2⟩ := z3 f hf
                    rw [r_dec_l, g18]
                    exact ⟨a, b1, g1.at (y5.at b2 (fun z => by omega)) (tb5 9 (by decide) (by decide))⟩
                · have x := d5 i hi
                  have x2 := (x.kept c4 (t4 _ (by omega) (by omega) (by omega) (by omega)) (t4 _ (by omega) (by omega) (by omega) (by omega)) (t4 _ (by omega) (by omega) (by omega) (by omega)) (t4 _ (by omega) (by omega) (by omega) (by omega))).kept g1 (tb5 9 (by decide) (by decide)) (tb5 _ (by omega) (by omega)) (tb5 _ (by omega) (by omega)) (tb5 _ (by omega) (by omega))
                  exact x2.eq (kEq.dec e) (hm i hi) rfl rfl rfl rfl
            have gk := r_gk.dec hk hk1 (h8 k hk)
            have ok' := rok.dec (k := k) ok (h8 k hk) (by omega) (by omega)
            refine wp_iinc dX1_release_103 rfl rfl ?_
            refine wp_goto (tgt := 8) dX1_release_106 rfl ?_
            rw [dec1, nI_pred]
            refine (ih (r_dec p k) h5 cB' (upd1 c3 s cR) _ DI5 y1a ok' (by omega) (fun i hi hi1 => ?_) (fun i hi => ?_) (hor.dec hk hk1 hlow) (fun i hi => ?_) (by have := gk.2.2.2.1; omega) (by have := gk.2.2.2.2.1; omega)).mono (fun r h6 b => ?_)
            · rw [g28] at hi
              have hne : i ≠ k := fun e => by rw [hst, if_pos e] at hi1; cases hi1
              rw [hst, if_neg hne] at hi1
              obtain ⟨s1, s2⟩ := hsec i hi hi1
              have ke := kEq.dec (p := p) (k := k) (i := i) hne
              have g12 : (r_dec p k).2.1 12 = p.2.1 12 := r_dec_a (by decide) (by decide) (by decide) (by decide) (by decide)
              have g15 : (r_dec p k).2.1 15 = p.2.1 15 := r_dec_a (by decide) (by decide) (by decide) (by decide) (by decide)
              have g18 : (r_dec p k).2.1 18 = p.2.1 18 := r_dec_a (by decide) (by decide) (by decide) (by decide) (by decide)
              have g19 : (r_dec p k).2.1 19 = p.2.1 19 := r_dec_a (by decide) (by decide) (by decide) (by decide) (by decide)
              have g20 : (r_dec p k).2.1 20 = p.2.1 20 := r_dec_a (by decide) (by decide) (by decide) (by decide) (by decide)
              have g0 : (r_dec p k).1 0 = p.1 0 := r_dec_k (by decide) (by decide) (by decide)
              have g25 : (r_dec p k).1 25 = p.1 25 := r_dec_k (by decide) (by decide) (by decide)
              have gis : isref (r_dec p k) i = isref p i := by funext j; unfold isref; rw [g19, g20]
              have gcd : cdo (r_dec p k) i = cdo p i := by unfold cdo; rw [g12, g0]
              constructor
              · unfold SEC at *
                rw [ke.2.2.2.2.1, gis, gcd, g12, g15, g18, g11, g0, r_dec_l]
                exact s1
              · unfold RD at *
                rw [gis, g25, g12]
                exact s2
            · rw [g28] at hi
              rw [r_dec_a (show 15 ≠ 7 by decide) (by decide) (by decide) (by decide) (by decide)]
              exact hm i hi
            · rw [g28] at hi
              rw [g11]
              exact h8 i hi
            · obtain ⟨b0, cB2, c32, b1, b2, b3, b4, b5, b6⟩ := b
              have eu : upd1 c3 s cR s = cR := by simp [upd1]
              have euu : upd1 (upd1 c3 s cR) s c32 = upd1 c3 s c32 := by funext x; unfold upd1; split <;> rfl
              rw [eu] at b5 b6
              rw [euu] at b1
              have m16 : (r_dec p k).1 16 ≤ (r_rel l (r_dec p k)).1 16 := ?m16
              case m16 =>
                have mono : ∀ (l : List Nat) (q : rs), q.1 16 ≤ (r_rel l q).1 16 := by
                  intro l
                  induction l with
                  | nil => intro q; exact Nat.le_refl _
                  | cons a l ihl =>
                    intro q
                    rw [r_rel]
                    split
                    · exact Nat.le_refl _
                    · refine Nat.le_trans ?_ (ihl _)
                      unfold r_dec
                      split
                      · exact Nat.le_refl _
                      · show q.1 16 ≤ (r_tell (r_sa q 14 a 2) 1 (q.2.1 11 a)).1 16
                        rw [r_tell_16]
                        show q.1 16 ≤ q.1 16 + _
                        omega
                exact mono _ _
              exact ⟨b0, cB2, c32, b1, c5.trans b2, by omega, by omega, by omega, by omega⟩
          have k27 := ok.1 27
          have w12 := ok.2.1 12 k
          refine wp_pop dX1_release_65 rfl ?_
          refine wp_aload dX1_release_66 rfl ?_
          refine wp_getf dX1_release_68 fl_X1_105 k14 rfl ?_
          refine wp_if_le (tgt := 103) dX1_release_71 rfl (fun c_71 => ?_) (fun c_71 => ?_)
          · have hz : p.2.1 12 k = 0 := by
              have := (nI_leI (b := 0) (by omega) (by decide)).mp c_71
              omega
            refine fin h4 cB cf.refl ?_ ?_ (Nat.le_refl _) (Nat.le_max_left _ _) (Nat.le_refl _)
            · rw [r_dec_27, if_pos hz]
              exact c4.at d1 (t4 4 (by omega) (by omega) (by omega) (by omega))
            · rw [wlx_dec, if_pos hz, List.append_nil]
              exact d3.kept c4 (t4 12 (by omega) (by omega) (by omega) (by omega))
          · have hz : p.2.1 12 k ≠ 0 := fun e => c_71 (by rw [e]; decide)
            have d34 := d3.kept c4 (t4 12 (by omega) (by omega) (by omega) (by omega))
            obtain ⟨rb, fb, bb, -⟩ := id d34
            have e14 := c4.at e1 (t4 _ (by omega) (by omega) (by omega) (by omega))
            refine wp_aload_n dX1_release_74 rfl ?_
            refine wp_sipush (v := 128) dX1_release_75 rfl ?_
            refine wp_bipush (v := 7) dX1_release_78 rfl ?_
            refine wp_aload_n dX1_release_80 rfl ?_
            refine wp_getf dX1_release_81 fl_X1_122 e14 rfl ?_
            refine wp_callV (As := [.int (nI 128), .int (nI 7), .int (nI s)]) (rest := []) dX1_release_84 me_X0_putNumber cw_X1_125 rfl ⟨(Nat.le_of_ble_eq_true rfl), (Nat.le_of_ble_eq_true rfl)⟩ rfl rfl rfl (Nat.le_of_ble_eq_true rfl) bb (cc_putNumber w4 d34 (by rw [wlx_len]; omega) (by decide) (by decide +kernel) (by omega)) (fun r h5 b => ?_)
            obtain ⟨rfl, cB', b1, b2, b3, b4, b5⟩ := b
            have d15 := b4.at (c4.at d1 (t4 4 (by omega) (by omega) (by omega) (by omega))) (by decide)
            have k15 := b4.at k14 (by decide)
            refine wp_aload_n dX1_release_87 rfl ?_
            refine wp_aload_n dX1_release_88 rfl ?_
            refine wp_getf dX1_release_89 fl_X1_129 d15 rfl ?_
            refine wp_aload dX1_release_92 rfl ?_
            refine wp_getf dX1_release_94 fl_X1_105 k15 rfl ?_
            refine wp_callS (As := [.int (nI (p.1 27)), .int (nI (p.2.1 12 k))]) (rest := [.ref de]) dX1_release_97 me_J9_max_7cf53 cw_X1_132 ⟨(Nat.le_of_ble_eq_true rfl), (Nat.le_of_ble_eq_true rfl)⟩ rfl rfl rfl (Nat.le_of_ble_eq_true rfl) (ct_max _ _) (fun r h6 q => ?_)
            obtain ⟨q0, rfl⟩ := q
            rw [q0, maxI (by omega) (by omega)]
            refine wp_putf dX1_release_100 (fs_X1_129 _) d15 (Nat.le_of_ble_eq_true rfl) rfl rfl ?_
            have c6 : cf (fun x => x = 4) h5 (fp_put h5 de 4 (.inr (2, [.ref td, .int (nI (max (p.1 27) (p.2.1 12 k)))]))) := cf.put1 d15
            refine fin _ cB' ((b4.mono (fun _ z => Or.inr z)).trans (c6.mono (fun _ z => Or.inl z))) ?_ ?_ b2 ?_ (by show h5.2.2 + _ ≤ _; omega)
            · rw [r_dec_27, if_neg hz, Nat.max_comm]
              exact fp_put_eq
            · rw [wlx_dec, if_neg hz, hks]
              exact b1.kept c6 (by decide)
            · have := congrArg List.length (wlx_dec (p := p) (k := k))
              rw [if_neg hz, wlx_len, List.length_append, wlx_len] at this
              rw [List.length_append, wlx_len, ← hks] at b3
              omega
        · have hlt : p.1 24 < p.2.1 12 k := by
            rcases Nat.lt_or_ge (p.1 24) (p.2.1 12 k) with q | q
            · exact q
            · exact absurd (nI_le q (by omega)) c_33
          rw [if_pos hlt]
          refine wp_vret dX1_release_36 rfl ?_
          exact ⟨rfl, cB, c3 s, by rw [upd1_self]; exact d, cf.refl, Nat.le_refl _, Nat.le_max_left _ _, Nat.le_refl _, Nat.le_refl _⟩
  obtain ⟨onw, wai, red, e1, e2, e3, e4, -⟩ := d.2.2.1 s hs
  obtain ⟨mcw, edw, w1, w2⟩ := id e3
  refine fp_meth pn_X1 (Nat.le_of_ble_eq_true rfl) rfl ?_
  refine wp_aload_n dX1_release_0 rfl ?_
  refine wp_getf dX1_release_1 fl_X1_91 e1 rfl ?_
  refine wp_callV (As := []) (rest := []) dX1_release_4 me_Jx4a65c_size_8abf5 cw_X1_97 rfl ⟨(Nat.le_of_ble_eq_true rfl), (Nat.le_of_ble_eq_true rfl)⟩ rfl rfl rfl (Nat.le_of_ble_eq_true rfl) w1 (ct_lsize e3) (fun r h1 q => ?_)
  obtain ⟨q0, rfl⟩ := q
  rw [q0, List.length_map]
  refine wp_istore_n dX1_release_7 (Nat.le_of_ble_eq_true rfl) rfl ?_
  exact loop (lyl p s 1) p h cB c3 none d rfl ok hc hsec hm hor h8 h16 h19
end CR
