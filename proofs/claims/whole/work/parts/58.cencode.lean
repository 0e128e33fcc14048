/-! FieldPack: encode -/
theorem tbl.congr {h : fp_H} {t a cap F C S : Nat} {nm vl nm' vl' : Nat → Nat} (b : tbl h t a cap nm vl F C S) (e : ∀ j, j < C → nm' j = nm j ∧ vl' j = vl j) : tbl h t a cap nm' vl' F C S := by
  obtain ⟨⟨n1, n2, n3, f1, f2, f3, a1, a2, a3, a4, a5, a6, a7, a8⟩, b2, b3, b4, b5, b6, b7⟩ := b
  refine ⟨⟨n1, n2, n3, f1, f2, f3, a1, a2, a3, a4, a5, a6, a7, fun j h1 h2 => ?_⟩, b2, b3, b4, ?_, b6, fun j hj => ?_⟩
  · have := a8 j h1 h2
    unfold tsz at *
    rw [(e j h2).1, (e j h2).2]
    exact this
  · rw [b5]
    exact tsum_congr _ _ (fun i h1 h2 => by rw [(e i (by omega)).1, (e i (by omega)).2]; exact ⟨rfl, rfl⟩)
  · rw [(e j hj).1, (e j hj).2]; exact b7 j hj
theorem r_enc_x {p : rs} {s x : Nat} (h2 : x ≠ 2) (h28 : x ≠ 28) (h41 : x ≠ 41) (h6 : x ≠ 6) (h10 : x ≠ 10) (h11 : x ≠ 11) (h13 : x ≠ 13) (h44 : x ≠ 44) : (r_enc p s).1 x = p.1 x := by
  rw [r_enc_1 h2 h28 h41, r_mk, r_ones_k h6 h10 h11 h13 h44, r_enc0_1 h44]
theorem r_mk_a {p : rs} {s j : Nat} (h5 : j ≠ 5) (h6 : j ≠ 6) (h12 : j ≠ 12) (h18 : j ≠ 18) (h19 : j ≠ 19) (h20 : j ≠ 20) (h25 : j ≠ 25) : (r_mk p s).2.1 j = p.2.1 j := by
  rw [r_mk, r_ones_a h5 h6 h12 h18 h19 h20 h25, r_enc0_a h12 h20]
theorem r_enc_14 {p : rs} {s k : Nat} : (r_enc p s).2.1 14 k = if k = p.1 28 then 0 else p.2.1 14 k := by
  rw [r_enc_lay (by decide) (by decide)]
  simp [r_enc2, r_sa, r_mk_28]
  rw [r_mk_a (by decide) (by decide) (by decide) (by decide) (by decide) (by decide) (by decide)]
theorem r_enc_15 {p : rs} {s k : Nat} : (r_enc p s).2.1 15 k = if k = p.1 28 then p.1 2 else p.2.1 15 k := by
  rw [r_enc_lay (by decide) (by decide)]
  simp [r_enc2, r_sa, r_mk_28]
  rw [r_mk_a (by decide) (by decide) (by decide) (by decide) (by decide) (by decide) (by decide), show (r_mk p s).1 2 = p.1 2 by rw [r_mk, r_ones_k (by decide) (by decide) (by decide) (by decide) (by decide), r_enc0_1 (by decide)]]
theorem r_enc_11' {p : rs} {s k : Nat} : (r_enc p s).2.1 11 k = if k = p.1 28 then s else p.2.1 11 k := by
  rw [r_enc_11, r_mk_a (by decide) (by decide) (by decide) (by decide) (by decide) (by decide) (by decide)]
theorem r_enc_2 {p : rs} {s : Nat} : (r_enc p s).1 2 = 0 := by
  unfold r_enc r_enc3
  simp [r_si]
theorem r_enc_b {p : rs} {s j : Nat} (h5 : j ≠ 5) (h6 : j ≠ 6) (h12 : j ≠ 12) (h18 : j ≠ 18) (h19 : j ≠ 19) (h20 : j ≠ 20) (h25 : j ≠ 25) (h11 : j ≠ 11) (h13 : j ≠ 13) (h14 : j ≠ 14) (h15 : j ≠ 15) (h21 : j ≠ 21) (h22 : j ≠ 22) (h23 : j ≠ 23) : (r_enc p s).2.1 j = p.2.1 j := by
  rw [r_enc_a h11 h13 h14 h15 h21 h22 h23, r_mk_a h5 h6 h12 h18 h19 h20 h25]
theorem lyl_enc {p : rs} {s s' w : Nat} : lyl (r_enc p s) s' w = lyl p s' w ++ (if s' = s ∧ w = 0 then [p.1 28] else []) := by
  unfold lyl
  rw [r_enc_28, List.range_succ, List.filter_append]
  congr 1
  · apply List.filter_congr
    intro k hk
    have : k ≠ p.1 28 := by have := List.mem_range.mp hk; omega
    unfold r_lies
    rw [r_enc_14, r_enc_11', if_neg this, if_neg this]
  · rw [List.filter_cons]
    unfold r_lies
    rw [r_enc_14, r_enc_11', if_pos rfl, if_pos rfl]
    by_cases c : s' = s ∧ w = 0
    · rw [if_pos c, c.1, c.2]; simp
    · rw [if_neg c, if_neg]
      · rfl
      · simp; omega
theorem map_upd {l : List Nat} {f : Nat → Nat} {n v : Nat} (h : ∀ k ∈ l, k ≠ n) : l.map (upd1 f n v) = l.map f := by
  apply List.map_congr_left
  intro k hk
  unfold upd1
  rw [if_neg (h k hk)]
theorem dX10_encode_0 : decode cX10_encode 0 = .ok (.aload_n 0, 1) := by decide +kernel
theorem dX10_encode_1 : decode cX10_encode 1 = .ok (.iload_n 1, 1) := by decide +kernel
theorem dX10_encode_2 : decode cX10_encode 2 = .ok (.invokevirtual 77, 3) := by decide +kernel
theorem dX10_encode_5 : decode cX10_encode 5 = .ok (.astore_n 2, 1) := by decide +kernel
theorem dX10_encode_6 : decode cX10_encode 6 = .ok (.aload_n 2, 1) := by decide +kernel
theorem dX10_encode_7 : decode cX10_encode 7 = .ok (.ifnull 22, 3) := by decide +kernel
theorem dX10_encode_10 : decode cX10_encode 10 = .ok (.aload_n 2, 1) := by decide +kernel
theorem dX10_encode_11 : decode cX10_encode 11 = .ok (.getfield 81, 3) := by decide +kernel
theorem dX10_encode_14 : decode cX10_encode 14 = .ok (.ifCond .ne 15, 3) := by decide +kernel
theorem dX10_encode_17 : decode cX10_encode 17 = .ok (.aload_n 2, 1) := by decide +kernel
theorem dX10_encode_18 : decode cX10_encode 18 = .ok (.getfield 85, 3) := by decide +kernel
theorem dX10_encode_21 : decode cX10_encode 21 = .ok (.invokevirtual 60, 3) := by decide +kernel
theorem dX10_encode_24 : decode cX10_encode 24 = .ok (.bipush 8, 2) := by decide +kernel
theorem dX10_encode_26 : decode cX10_encode 26 = .ok (.if_icmp .lt 5, 3) := by decide +kernel
theorem dX10_encode_29 : decode cX10_encode 29 = .ok (.iconst (-1), 1) := by decide +kernel
theorem dX10_encode_30 : decode cX10_encode 30 = .ok (.ireturn, 1) := by decide +kernel
theorem dX10_encode_31 : decode cX10_encode 31 = .ok (.aload_n 0, 1) := by decide +kernel
theorem dX10_encode_32 : decode cX10_encode 32 = .ok (.getfield 88, 3) := by decide +kernel
theorem dX10_encode_35 : decode cX10_encode 35 = .ok (.sipush 200, 3) := by decide +kernel
theorem dX10_encode_38 : decode cX10_encode 38 = .ok (.if_icmp .ge 16, 3) := by decide +kernel
theorem dX10_encode_41 : decode cX10_encode 41 = .ok (.aload_n 0, 1) := by decide +kernel
theorem dX10_encode_42 : decode cX10_encode 42 = .ok (.getfield 21, 3) := by decide +kernel
theorem dX10_encode_45 : decode cX10_encode 45 = .ok (.invokevirtual 92, 3) := by decide +kernel
theorem dX10_encode_48 : decode cX10_encode 48 = .ok (.sipush 5000, 3) := by decide +kernel
theorem dX10_encode_51 : decode cX10_encode 51 = .ok (.if_icmp .le 5, 3) := by decide +kernel
theorem dX10_encode_54 : decode cX10_encode 54 = .ok (.iconst (-1), 1) := by decide +kernel
theorem dX10_encode_55 : decode cX10_encode 55 = .ok (.ireturn, 1) := by decide +kernel
theorem dX10_encode_56 : decode cX10_encode 56 = .ok (.aload_n 0, 1) := by decide +kernel
theorem dX10_encode_57 : decode cX10_encode 57 = .ok (.getfield 33, 3) := by decide +kernel
theorem dX10_encode_60 : decode cX10_encode 60 = .ok (.iload_n 1, 1) := by decide +kernel
theorem dX10_encode_61 : decode cX10_encode 61 = .ok (.aload_n 0, 1) := by decide +kernel
theorem dX10_encode_62 : decode cX10_encode 62 = .ok (.getfield 56, 3) := by decide +kernel
theorem dX10_encode_65 : decode cX10_encode 65 = .ok (.aload_n 0, 1) := by decide +kernel
theorem dX10_encode_66 : decode cX10_encode 66 = .ok (.getfield 21, 3) := by decide +kernel
theorem dX10_encode_69 : decode cX10_encode 69 = .ok (.getfield 95, 3) := by decide +kernel
theorem dX10_encode_72 : decode cX10_encode 72 = .ok (.invokevirtual 99, 3) := by decide +kernel
theorem dX10_encode_75 : decode cX10_encode 75 = .ok (.astore_n 3, 1) := by decide +kernel
theorem dX10_encode_76 : decode cX10_encode 76 = .ok (.aload_n 0, 1) := by decide +kernel
theorem dX10_encode_77 : decode cX10_encode 77 = .ok (.getfield 56, 3) := by decide +kernel
theorem dX10_encode_80 : decode cX10_encode 80 = .ok (.invokevirtual 103, 3) := by decide +kernel
theorem dX10_encode_83 : decode cX10_encode 83 = .ok (.aload_n 0, 1) := by decide +kernel
theorem dX10_encode_84 : decode cX10_encode 84 = .ok (.dup, 1) := by decide +kernel
theorem dX10_encode_85 : decode cX10_encode 85 = .ok (.getfield 88, 3) := by decide +kernel
theorem dX10_encode_88 : decode cX10_encode 88 = .ok (.iconst 1, 1) := by decide +kernel
theorem dX10_encode_89 : decode cX10_encode 89 = .ok (.iadd, 1) := by decide +kernel
theorem dX10_encode_90 : decode cX10_encode 90 = .ok (.putfield 88, 3) := by decide +kernel
theorem dX10_encode_93 : decode cX10_encode 93 = .ok (.aload_n 2, 1) := by decide +kernel
theorem dX10_encode_94 : decode cX10_encode 94 = .ok (.getfield 85, 3) := by decide +kernel
theorem dX10_encode_97 : decode cX10_encode 97 = .ok (.aload_n 3, 1) := by decide +kernel
theorem dX10_encode_98 : decode cX10_encode 98 = .ok (.invokevirtual 73, 3) := by decide +kernel
theorem dX10_encode_101 : decode cX10_encode 101 = .ok (.pop, 1) := by decide +kernel
theorem dX10_encode_102 : decode cX10_encode 102 = .ok (.aload_n 3, 1) := by decide +kernel
theorem dX10_encode_103 : decode cX10_encode 103 = .ok (.getfield 106, 3) := by decide +kernel
theorem dX10_encode_106 : decode cX10_encode 106 = .ok (.ireturn, 1) := by decide +kernel
section CP
variable {G : fp_G} {h : fp_H} {o : Nat} {A la : Nat → Nat} {p : rs} {B c : Nat}
def ecS (T s : Nat) : Nat → Prop := fun t => mS T t ∨ t = 18 ∨ t = 2 ∨ t = 20 + s
set_option maxHeartbeats 2000000 in
theorem cp_encode {x : Int32} (m : CC G h o A la p B c) (ok : rok p) (hc : p.1 28 ≤ 200) (hcs : p.1 15 ≤ p.1 13) (hJ : p.1 28 < 200 → r_J (r_enc0 p) 0 0) (hI : p.1 28 < 200 → r_I (r_enc0 p)) (hf : p.1 2 ≤ 12) (hcap : ∀ s, (r_mk p s).2.1 12 (p.1 28) ≠ 0 → 32 ≤ p.1 0) (hQ : ∀ s, s < 8 → r_lying p s 0 ≤ 8) (hBY : ∀ k, k < p.1 28 → p.2.1 21 k + p.2.1 22 k ≤ p.1 41) (h246 : p.1 24 ≤ p.1 6) (h62 : p.1 6 ≤ 2400) (hm : ∀ k, k < p.1 28 → p.2.1 15 k ≤ 12) : fp_ct G rm_X10_encode M_X10_encode [.ref o, .int x] h (fun r h' => ((¬ ∃ s, s < 8 ∧ x = nI s ∧ ¬ r_encNo p s) ∧ r = some (.int (-1)) ∧ h' = h) ∨ ∃ s, s < 8 ∧ x = nI s ∧ ¬ r_encNo p s ∧ r = some (.int (nI ((r_enc p s).2.1 22 (p.1 28)))) ∧ CC G h' o A la (r_enc p s) B (c + 1) ∧ cf nR h h') := by
  obtain ⟨ba, sa, ra, fa, oa, K, c1, c2, c3, m, kb, cx⟩ := m
  have w := m.wf
  obtain ⟨m1, ⟨m2, m3, fl, m4, m5⟩, m6, m7, m8, m9, fs, m10, m11⟩ := id m
  obtain ⟨⟨d1, d2⟩, d3, d4, d5, d6⟩ := id m7
  obtain ⟨n1, n2, n3, n4, n5, n6, n7⟩ := id m6
  refine fp_meth pn_X10 (Nat.le_of_ble_eq_true rfl) rfl ?_
  refine wp_aload_n dX10_encode_0 rfl ?_
  refine wp_iload_n dX10_encode_1 rfl ?_
  refine wp_callV (As := [.int x]) (rest := []) dX10_encode_2 me_X10_laneOf cw_X10_77 rfl ⟨(Nat.le_of_ble_eq_true rfl), (Nat.le_of_ble_eq_true rfl)⟩ rfl rfl rfl (Nat.le_of_ble_eq_true rfl) m1 (cp_lane m) (fun r h1 q => ?_)
  obtain ⟨q0, q⟩ := q
  rw [q0]
  rcases q with ⟨q1, rfl⟩ | ⟨s, hs, rfl, rfl⟩
  · refine wp_astore_nN dX10_encode_5 (Nat.le_of_ble_eq_true rfl) rfl ?_
    refine wp_aload_nN dX10_encode_6 rfl ?_
    refine wp_ifnullN (tgt := 29) dX10_encode_7 rfl ?_
    refine wp_iconst (v := (-1)) dX10_encode_29 rfl ?_
    refine wp_iret dX10_encode_30 rfl rfl ?_
    refine Or.inl ⟨?_, rfl, rfl⟩
    rintro ⟨s, h1, h2, -⟩
    exact q1 ⟨s, h1, h2⟩
  · have uni : r_encNo p s → ¬ ∃ s', s' < 8 ∧ nI s = nI s' ∧ ¬ r_encNo p s' := by
      rintro hn ⟨s', h1, h2, h3⟩
      have : s = s' := (nI_eq (by omega) (by omega)).mp h2
      subst this
      exact h3 hn
    obtain ⟨onw, wai, red, e1, e2, e3, e4, e5, e6, e7, e8, e9, e10⟩ := d4 s hs
    obtain ⟨mc1, ed1, l1, -⟩ := id e2
    have o24 := ok.2.1 24 s
    have hq8 := hQ s hs
    refine wp_astore_n dX10_encode_5 (Nat.le_of_ble_eq_true rfl) rfl ?_
    refine wp_aload_n dX10_encode_6 rfl ?_
    refine wp_ifnull dX10_encode_7 ?_
    refine wp_aload_n dX10_encode_10 rfl ?_
    refine wp_getf dX10_encode_11 fl_X10_81 e1 rfl ?_
    refine wp_if_ne (tgt := 29) dX10_encode_14 rfl (fun c_14 => ?_) (fun c_14 => ?_)
    · refine wp_iconst (v := (-1)) dX10_encode_29 rfl ?_
      refine wp_iret dX10_encode_30 rfl rfl ?_
      refine Or.inl ⟨uni (Or.inl (fun z => c_14 (by rw [z]; rfl))), rfl, rfl⟩
    · have hz : p.2.1 24 s = 0 := by
        by_cases z : p.2.1 24 s = 0
        · exact z
        · exact absurd (show nI (p.2.1 24 s) = 0 from Decidable.byContradiction (fun y => z (by exact absurd c_14 (fun q => y q)))) (fun y => z ((nI_eq (b := 0) (by omega) (by decide)).mp y))
      refine wp_aload_n dX10_encode_17 rfl ?_
      refine wp_getf dX10_encode_18 fl_X10_85 e1 rfl ?_
      refine wp_callV (As := []) (rest := []) dX10_encode_21 me_Jx4a65c_size_8abf5 cw_X10_60 rfl ⟨(Nat.le_of_ble_eq_true rfl), (Nat.le_of_ble_eq_true rfl)⟩ rfl rfl rfl (Nat.le_of_ble_eq_true rfl) l1 (ct_lsize e2) (fun r h2 q => ?_)
      obtain ⟨q0, rfl⟩ := q
      rw [q0, List.length_map, lyl_len]
      refine wp_bipush (v := 8) dX10_encode_24 rfl ?_
      refine wp_icmp_lt (tgt := 31) dX10_encode_26 rfl (fun c_26 => ?_) (fun c_26 => ?_)
      · have hl8 : r_lying p s 0 < 8 := (nI_ltI (b := 8) (by omega) (by decide)).mp c_26
        refine wp_aload_n dX10_encode_31 rfl ?_
        refine wp_getf dX10_encode_32 fl_X10_88 m1 rfl ?_
        refine wp_sipush (v := 200) dX10_encode_35 rfl ?_
        refine wp_icmp_ge (tgt := 54) dX10_encode_38 rfl (fun c_38 => ?_) (fun c_38 => ?_)
        · have : 200 ≤ p.1 28 := (nI_leI (a := 200) (by decide) (by omega)).mp c_38
          refine wp_iconst (v := (-1)) dX10_encode_54 rfl ?_
          refine wp_iret dX10_encode_55 rfl rfl ?_
          exact Or.inl ⟨uni (Or.inr (Or.inr (Or.inl (by omega)))), rfl, rfl⟩
        · have h200 : p.1 28 < 200 := by
            rcases Nat.lt_or_ge (p.1 28) 200 with q | q
            · exact q
            · exact absurd (nI_le (a := 200) q (by omega)) c_38
          have o13 := ok.1 13
          refine wp_aload_n dX10_encode_41 rfl ?_
          refine wp_getf dX10_encode_42 fl_X10_21 m1 rfl ?_
          refine wp_callV (As := []) (rest := []) dX10_encode_45 me_X9_left cw_X10_92 rfl ⟨(Nat.le_of_ble_eq_true rfl), (Nat.le_of_ble_eq_true rfl)⟩ rfl rfl rfl (Nat.le_of_ble_eq_true rfl) m2 (cw_left m2 n3 m8 (by rw [wlx_len]; omega)) (fun r h3 q => ?_)
          obtain ⟨q0, rfl⟩ := q
          rw [q0, wlx_len]
          refine wp_sipush (v := 5000) dX10_encode_48 rfl ?_
          refine wp_icmp_le (tgt := 56) dX10_encode_51 rfl (fun c_51 => ?_) (fun c_51 => ?_)
          · have hl5 : p.1 13 - p.1 15 ≤ 5000 := (nI_leI (b := 5000) (by omega) (by decide)).mp c_51
            have hno : ¬ r_encNo p s := by
              rintro (z | z | z | z)
              · exact z hz
              · omega
              · omega
              · omega
            obtain ⟨x5, x6, x7, x8, n1'⟩ := id n1
            refine wp_aload_n dX10_encode_56 rfl ?_
            refine wp_getf dX10_encode_57 fl_X10_33 m1 rfl ?_
            refine wp_iload_n dX10_encode_60 rfl ?_
            refine wp_aload_n dX10_encode_61 rfl ?_
            refine wp_getf dX10_encode_62 fl_X10_56 m1 rfl ?_
            refine wp_aload_n dX10_encode_65 rfl ?_
            refine wp_getf dX10_encode_66 fl_X10_21 m1 rfl ?_
            refine wp_getf dX10_encode_69 fl_X10_95 m2 rfl ?_
            refine wp_callV (As := [.int (nI s), .ref (A 5), .ref (A 9)]) (rest := []) dX10_encode_72 me_X2_makeSection cw_X10_99 rfl ⟨(Nat.le_of_ble_eq_true rfl), (Nat.le_of_ble_eq_true rfl)⟩ rfl rfl rfl (Nat.le_of_ble_eq_true rfl) n1' (cs_make (T := 1000 + p.1 28) m6 ⟨by omega, by omega, by omega, by omega, by omega, by omega⟩ ok hs m10 m11 hf (hJ h200) (hI h200) (hcap s) h62 (by have := kb.2.2.1.1; omega) kb.2.2.1.2) (fun r h4 q => ?_)
            obtain ⟨bs, cS, cW, cL, cO, oa', rfl, y1, y2, y3, y4, y5, y6, y7, y8, y9, y10, y11⟩ := q
            have tm : ∀ t, t ≠ 3 → t ≠ 10 → t ≠ 14 → t ≠ 15 → t ≠ 17 → t ≠ 1000 + p.1 28 → ¬ mS (1000 + p.1 28) t := fun t h1 h2 h3 h4 h5 h6 z => by unfold mS at z; omega
            have m14 := y3.at m1 (tm 2 (by omega) (by omega) (by omega) (by omega) (by omega) (by omega))
            have m104 := m10.kept y3 (tm 18 (by omega) (by omega) (by omega) (by omega) (by omega) (by omega))
            obtain ⟨mc4, ed4, l4, -⟩ := id m104
            have m105 : fp_wf h4 := y3.wf w
            refine wp_astore_n dX10_encode_75 (Nat.le_of_ble_eq_true rfl) rfl ?_
            refine wp_aload_n dX10_encode_76 rfl ?_
            refine wp_getf dX10_encode_77 fl_X10_56 m14 rfl ?_
            refine wp_callV (As := []) (rest := []) dX10_encode_80 me_Jx4a65c_clear_da8c8 cw_X10_103 rfl ⟨(Nat.le_of_ble_eq_true rfl), (Nat.le_of_ble_eq_true rfl)⟩ rfl rfl rfl (Nat.le_of_ble_eq_true rfl) l4 (ct_lclear m104) (fun r h5 q => ?_)
            obtain ⟨rfl, q1, q2, q3⟩ := q
            have m15 := q2.at m14 (by decide)
            have c5 : cf (fun t => mS (1000 + p.1 28) t ∨ t = 18) h h5 := (y3.mono (fun _ z => Or.inl z)).trans (q2.mono (fun _ z => Or.inr z))
            refine wp_aload_n dX10_encode_83 rfl ?_
            refine wp_dup dX10_encode_84 rfl ?_
            refine wp_getf dX10_encode_85 fl_X10_88 m15 rfl ?_
            refine wp_iconst (v := 1) dX10_encode_88 rfl ?_
            refine wp_iadd dX10_encode_89 ?_
            rw [show nI (p.1 28) + 1 = nI (p.1 28 + 1) from nI_add _ 1]
            have c6 : cf (fun x => x = 2) h5 (fp_put h5 o 2 (.inr (11, [.ref (A 0), .ref (A 1), .ref (A 2), .ref (A 3), .ref (A 4), .ref (A 5), .int (nI (p.1 28 + 1))]))) := cf.put1 m15
            have g6 : (fp_put h5 o 2 (.inr (11, [.ref (A 0), .ref (A 1), .ref (A 2), .ref (A 3), .ref (A 4), .ref (A 5), .int (nI (p.1 28 + 1))]))).1 o = some (2, .inr (11, [.ref (A 0), .ref (A 1), .ref (A 2), .ref (A 3), .ref (A 4), .ref (A 5), .int (nI (p.1 28 + 1))])) := fp_put_eq
            have z6 : (fp_put h5 o 2 (.inr (11, [.ref (A 0), .ref (A 1), .ref (A 2), .ref (A 3), .ref (A 4), .ref (A 5), .int (nI (p.1 28 + 1))]))).2.2 = h4.2.2 := by show h5.2.2 = _; rw [q3]
            refine wp_putf dX10_encode_90 (fs_X10_88 _) m15 (Nat.le_of_ble_eq_true rfl) rfl rfl ?_
            refine fp_wp_h (h' := fp_put h5 o 2 (.inr (11, [.ref (A 0), .ref (A 1), .ref (A 2), .ref (A 3), .ref (A 4), .ref (A 5), .int (nI (p.1 28 + 1))]))) rfl ?_
            generalize fp_put h5 o 2 (.inr (11, [.ref (A 0), .ref (A 1), .ref (A 2), .ref (A 3), .ref (A 4), .ref (A 5), .int (nI (p.1 28 + 1))])) = h6 at c6 g6 z6 ⊢
            have c56 : cf (fun t => mS (1000 + p.1 28) t ∨ t = 18 ∨ t = 2) h h6 := (c5.mono (fun _ z => by rcases z with z | z; exact Or.inl z; exact Or.inr (Or.inl z))).trans (c6.mono (fun _ z => Or.inr (Or.inr z)))
            have t6 : ∀ t, t ≠ 3 → t ≠ 10 → t ≠ 14 → t ≠ 15 → t ≠ 17 → t ≠ 1000 + p.1 28 → t ≠ 18 → t ≠ 2 → ¬ (fun t => mS (1000 + p.1 28) t ∨ t = 18 ∨ t = 2) t := fun t h1 h2 h3 h4 h5 h6 h7 h8 z => by
              rcases z with z | z | z
              · exact tm t h1 h2 h3 h4 h5 h6 z
              · exact h7 z
              · exact h8 z
            have e16 := c56.at e1 (t6 _ (by omega) (by omega) (by omega) (by omega) (by omega) (by omega) (by omega) (by omega))
            have e26 := e2.kept c56 (t6 _ (by omega) (by omega) (by omega) (by omega) (by omega) (by omega) (by omega) (by omega))
            obtain ⟨mc6, ed6, l6, -⟩ := id e26
            have y16 := (y1.kept q2 (show ¬ 1000 + p.1 28 = 18 by omega)).kept c6 (show ¬ 1000 + p.1 28 = 2 by omega)
            obtain ⟨rb, fb, b6, -⟩ := id y16
            have hel : ∀ y ∈ (lyl p s 0).map ba, el h6 y := fun y hy => by
              obtain ⟨k, hk, rfl⟩ := List.mem_map.mp hy
              have hk' := lyl_mem.mp hk
              obtain ⟨cap, hb⟩ := (d5 k hk'.1).1 hk'.2.2
              obtain ⟨rb', fb', hb', -⟩ := id hb
              exact ⟨_, _, _, _, c56.at hb' (t6 _ (by omega) (by omega) (by omega) (by omega) (by omega) (by omega) (by omega) (by omega)), rfl, ca_X0_Object⟩
            refine wp_aload_n dX10_encode_93 rfl ?_
            refine wp_getf dX10_encode_94 fl_X10_85 e16 rfl ?_
            refine wp_aload_n dX10_encode_97 rfl ?_
            refine wp_callV (As := [.ref bs]) (rest := []) dX10_encode_98 me_Jx4a65c_add_9ea2d cw_X10_73 rfl ⟨(Nat.le_of_ble_eq_true rfl), (Nat.le_of_ble_eq_true rfl)⟩ rfl rfl rfl (Nat.le_of_ble_eq_true rfl) l6 (ct_ladd (c56.wf w) e26 (by omega) e5 hel b6 (by omega) rfl ca_X0_Object) (fun r h7 z => ?_)
            obtain ⟨cN, rfl, z1, z2, z3, z4, z5, z7⟩ := z
            have b7 := z5.at b6 (show ¬ 1000 + p.1 28 = 20 + s by omega)
            refine wp_pop dX10_encode_101 rfl ?_
            refine wp_aload_n dX10_encode_102 rfl ?_
            refine wp_getf dX10_encode_103 fl_X10_106 b7 rfl ?_
            refine wp_iret dX10_encode_106 rfl rfl ?_
            have c7 : cf (ecS (1000 + p.1 28) s) h h7 := (c56.mono (fun _ z => by rcases z with z | z | z; exact Or.inl z; exact Or.inr (Or.inl z); exact Or.inr (Or.inr (Or.inl z)))).trans (z5.mono (fun _ z => Or.inr (Or.inr (Or.inr z))))
            have t7 : ∀ t, t ≠ 3 → t ≠ 10 → t ≠ 14 → t ≠ 15 → t ≠ 17 → t ≠ 1000 + p.1 28 → t ≠ 18 → t ≠ 2 → t ≠ 20 + s → ¬ ecS (1000 + p.1 28) s t := fun t h1 h2 h3 h4 h5 h6 h7 h8 h9 z => by unfold ecS mS at z; omega
            have c47 : cf (fun t => t = 18 ∨ t = 2 ∨ t = 20 + s) h4 h7 := (q2.mono (fun _ z => Or.inl z)).trans ((c6.mono (fun _ z => Or.inr (Or.inl z))).trans (z5.mono (fun _ z => Or.inr (Or.inr z))))
            refine Or.inr ⟨s, hs, rfl, hno, ?_, ?_, c7.mono (fun t z => by show t ≠ 1; unfold ecS mS at z; omega)⟩
            · rw [r_enc_22, if_pos rfl]
            · have fr := FR.mk (s := s) (hJ h200) h62 hf
              obtain ⟨⟨-, f2, f3⟩, f4, f5, f6⟩ := fr
              have ex := @r_enc_x p s
              have el : ∀ j, j < p.1 6 → (r_enc p s).2.2 3 j = p.2.2 3 j ∧ (r_enc p s).2.2 4 j = p.2.2 4 j := fun j hj => by rw [r_enc_l]; exact ⟨(f4 j hj).1, (f4 j hj).2.1⟩
              have m9t : ∀ t, (t = 4 ∨ t = 9 ∨ t = 11 ∨ t = 12 ∨ t = 13 ∨ t = 16 ∨ (20 ≤ t ∧ t ≠ 20 + s ∧ t ≠ 1000 + p.1 28)) → ¬ ecS (1000 + p.1 28) s t := fun t ht => t7 t (by omega) (by omega) (by omega) (by omega) (by omega) (by omega) (by omega) (by omega) (by omega)
              refine ⟨upd1 ba (p.1 28) bs, sa, ra, fa, oa', (fun i => if i = 0 then cW else if i = 1 then cL else if i = 2 then cO else K i), upd1 c1 s cN, c2, c3, ⟨?_, ⟨c7.at m2 (m9t 9 (by omega)), c7.at m3 (m9t 9 (by omega)), fl, c7.at m4 (m9t 9 (by omega)), m5⟩, y2.keptA c47 (fun t z => by omega), ⟨⟨?_, ?_⟩, ?_, fun s' hs' => ?_, fun k hk => ?_, c7.wf w⟩, ?_, ?_, [], (q1.kept c6 (by decide)).kept z5 (show ¬ 18 = 20 + s by omega), ?_, ?_⟩, ?_, ?_⟩
              · rw [r_enc_28]
                exact z5.at g6 (show ¬ 2 = 20 + s by omega)
              · rw [ex (x := 27) (by decide) (by decide) (by decide) (by decide) (by decide) (by decide) (by decide) (by decide)]
                exact c7.at d1 (m9t 4 (by omega))
              · rw [ex (x := 0) (by decide) (by decide) (by decide) (by decide) (by decide) (by decide) (by decide) (by decide), ex (x := 24) (by decide) (by decide) (by decide) (by decide) (by decide) (by decide) (by decide) (by decide), ex (x := 25) (by decide) (by decide) (by decide) (by decide) (by decide) (by decide) (by decide) (by decide), ex (x := 26) (by decide) (by decide) (by decide) (by decide) (by decide) (by decide) (by decide) (by decide)]
                exact (d2.kept c7 (m9t 16 (by omega))).congr (fun j hj => el j (by omega))
              · have : wlx (r_enc p s) 16 7 = wlx p 16 7 := by
                  unfold wlx
                  rw [ex (x := 16) (by decide) (by decide) (by decide) (by decide) (by decide) (by decide) (by decide) (by decide), r_enc_b (by decide) (by decide) (by decide) (by decide) (by decide) (by decide) (by decide) (by decide) (by decide) (by decide) (by decide) (by decide) (by decide) (by decide)]
                rw [this]
                exact d3.kept c7 (m9t 12 (by omega))
              · have a24 : (r_enc p s).2.1 24 = p.2.1 24 := r_enc_b (by decide) (by decide) (by decide) (by decide) (by decide) (by decide) (by decide) (by decide) (by decide) (by decide) (by decide) (by decide) (by decide) (by decide)
                have hmu : ∀ w, (lyl p s' w).map (upd1 ba (p.1 28) bs) = (lyl p s' w).map ba := fun w => map_upd (fun k hk => by have := (lyl_mem.mp hk).1; omega)
                by_cases e : s' = s
                · subst e
                  refine ⟨onw, wai, red, by rw [a24]; exact c7.at e1 (m9t _ (by omega)), ?_, ?_, ?_, ?_, e6, e7, ?_, e9, e10⟩
                  · rw [lyl_enc, if_pos ⟨rfl, rfl⟩, List.map_append, hmu, List.map_cons, List.map_nil]
                    simp only [upd1, if_pos]
                    exact z1
                  · rw [lyl_enc, if_neg (by omega), List.append_nil]
                    exact e3.kept c7 (m9t _ (by omega))
                  · rw [lyl_enc, if_neg (by omega), List.append_nil]
                    exact e4.kept c7 (m9t _ (by omega))
                  · simp only [upd1, if_pos]; exact z2
                  · simp only [upd1, if_pos]
                    rw [List.length_map, lyl_len] at z4
                    omega
                · refine ((d4 s' hs').kept c7 (m9t _ (by omega)) (m9t _ (by omega)) (m9t _ (by omega)) (m9t _ (by omega))).eq (by rw [a24]) ?_ ?_ ?_ (by simp only [upd1, if_neg e]) rfl rfl
                  · rw [lyl_enc, if_neg (fun z => e z.1), List.append_nil, hmu]
                  · rw [lyl_enc, if_neg (fun z => e z.1), List.append_nil]
                  · rw [lyl_enc, if_neg (fun z => e z.1), List.append_nil]
              · rw [r_enc_28] at hk
                by_cases e : k = p.1 28
                · subst e
                  have s0 : (r_enc p s).2.1 14 (p.1 28) = 0 := by rw [r_enc_14, if_pos rfl]
                  refine ⟨fun _ => ⟨cS, ?_⟩, fun z => ?_, fun z => ?_⟩
                  · rw [sbt_enc]
                    simp only [upd1, if_pos]
                    exact y16.kept z5 (show ¬ 1000 + p.1 28 = 20 + s by omega)
                  · rw [s0] at z; cases z
                  · rw [s0] at z; cases z
                · have hk' : k < p.1 28 := by omega
                  have x6 := f6 k e
                  refine ((d5 k hk').kept c7 (m9t _ (by omega)) (m9t _ (by omega)) (m9t _ (by omega)) (m9t _ (by omega))).eq ⟨ex (x := 0) (by decide) (by decide) (by decide) (by decide) (by decide) (by decide) (by decide) (by decide), by rw [r_enc_14, if_neg e], ?_, by rw [r_enc_15, if_neg e], sbt_old hk' (hBY k hk'), fun f hf => ?_⟩ (hm k hk') (by simp only [upd1, if_neg e]) rfl rfl rfl
                  · rw [r_enc_a (by decide) (by decide) (by decide) (by decide) (by decide) (by decide) (by decide)]
                    exact x6.1
                  · have x7 := x6.2.2 f hf
                    rw [r_enc_l, r_enc_a (by decide) (by decide) (by decide) (by decide) (by decide) (by decide) (by decide)]
                    exact ⟨x7.2.2.1, x7.2.2.2, x7.2.1⟩
              · have : r_is (r_enc p s) ((r_enc p s).1 24) = r_is p (p.1 24) := by
                  rw [ex (x := 24) (by decide) (by decide) (by decide) (by decide) (by decide) (by decide) (by decide) (by decide)]
                  unfold r_is
                  split
                  · rfl
                  · rw [r_enc_a (by decide) (by decide) (by decide) (by decide) (by decide) (by decide) (by decide)]
                    exact (f4 _ (by omega)).2.2
                rw [this, ex (x := 15) (by decide) (by decide) (by decide) (by decide) (by decide) (by decide) (by decide) (by decide)]
                exact c7.at m8 (m9t 11 (by omega))
              · have : r_st (r_enc p s) ((r_enc p s).1 23) = r_st p (p.1 23) := by
                  unfold r_st
                  rw [ex (x := 23) (by decide) (by decide) (by decide) (by decide) (by decide) (by decide) (by decide) (by decide), r_enc_b (by decide) (by decide) (by decide) (by decide) (by decide) (by decide) (by decide) (by decide) (by decide) (by decide) (by decide) (by decide) (by decide) (by decide)]
                rw [this, ex (x := 18) (by decide) (by decide) (by decide) (by decide) (by decide) (by decide) (by decide) (by decide)]
                exact c7.at m9 (m9t 13 (by omega))
              · rw [r_enc_2]; rfl
              · intro f hf; rw [r_enc_2] at hf; omega
              · obtain ⟨k0, k1, k2, k3, k4, k5⟩ := kb
                have lo : (opn p).length ≤ p.1 28 := cnt_le _ _
                have e13 : (r_enc p s).1 13 = (r_mk p s).1 13 := r_enc_1 (by decide) (by decide) (by decide)
                refine ⟨?_, ?_, ⟨?_, y4⟩, ?_, k4, k5⟩
                · show cW ≤ max 64 (2 * (r_enc p s).1 13 + 8)
                  omega
                · show cL ≤ 464
                  omega
                · show cO ≤ 410
                  omega
                · show K 3 ≤ max 64 (2 * (r_enc p s).1 16 + 8)
                  rw [ex (x := 16) (by decide) (by decide) (by decide) (by decide) (by decide) (by decide) (by decide) (by decide)]
                  exact k3
              · have hzn : r_zn (r_enc p s) = r_zn p + 1 := by
                  unfold r_zn
                  rw [r_enc_28, cnt_s, r_enc_14, if_pos rfl]
                  congr 1
                  congr 1
                  apply List.filter_congr
                  intro k hk
                  have : k ≠ p.1 28 := by have := List.mem_range.mp hk; omega
                  rw [r_enc_14, if_neg this]
                have hwn : r_wn (r_enc p s) = r_wn p := by
                  unfold r_wn
                  rw [r_enc_28, cnt_s, r_enc_14, if_pos rfl]
                  show _ + 0 = _
                  rw [Nat.add_zero]
                  congr 1
                  apply List.filter_congr
                  intro k hk
                  have : k ≠ p.1 28 := by have := List.mem_range.mp hk; omega
                  rw [r_enc_14, if_neg this]
                have s8 := sum8_upd (c := c1) (v := cN) hs
                unfold CX at *
                rw [hzn, hwn, r_enc_28]
                show h7.2.2 + 260 * (r_zn p + 1) + 250 * r_wn p ≤ B + 2 * (cW + cL + K 3) + 4 * (cO + K 4 + sum8 (upd1 c1 s cN) + sum8 c2 + sum8 c3) + 1400 * (p.1 28 + 1) + 3 * (c + 1)
                omega
          · refine wp_iconst (v := (-1)) dX10_encode_54 rfl ?_
            refine wp_iret dX10_encode_55 rfl rfl ?_
            refine Or.inl ⟨uni (Or.inr (Or.inr (Or.inr ?_))), rfl, rfl⟩
            rcases Nat.lt_or_ge 5000 (p.1 13 - p.1 15) with q | q
            · exact q
            · exact absurd (nI_le (b := 5000) q (by decide)) c_51
      · refine wp_iconst (v := (-1)) dX10_encode_29 rfl ?_
        refine wp_iret dX10_encode_30 rfl rfl ?_
        refine Or.inl ⟨uni (Or.inr (Or.inl ?_)), rfl, rfl⟩
        rcases Nat.lt_or_ge (r_lying p s 0) 8 with q | q
        · exact absurd (nI_lt (b := 8) q (by decide)) c_26
        · omega
end CP
