/-! Decoder.obey; Decoder.readLine -/
theorem gots_stop {q : rs} (h : ¬ (q.1 24 < q.1 6 ∧ q.2.1 5 (q.1 24) ≤ q.1 15)) : r_gots (q.1 6 - q.1 24) q = q := by
  cases hn : q.1 6 - q.1 24 with
  | zero => rfl
  | succ n => rw [r_gots, if_neg (fun z => h ⟨by omega, z⟩)]
theorem gots_go {q : rs} (hD : r_D q) (h : q.1 24 < q.1 6 ∧ q.2.1 5 (q.1 24) ≤ q.1 15) : r_gots (q.1 6 - q.1 24) q = r_gots ((r_got1 q).1 6 - (r_got1 q).1 24) (r_got1 q) := by
  obtain ⟨-, h1, -, h2⟩ := hD.got1 h.1
  rw [h1, h2 6 (by decide) (by decide) (by decide), show q.1 6 - q.1 24 = (q.1 6 - (q.1 24 + 1)) + 1 by omega, r_gots, if_pos h.2]
theorem frm_eq {p q : rs} {i : Nat} {A : List Nat} (e0 : q.1 0 = p.1 0) (e2 : q.2.2 = p.2.2) (h : frm p i A) : frm q i A := by
  unfold frm at *
  rw [e0, e2]
  exact h
theorem IB.eq {p q : rs} (t : IB p) (h0 : q.1 0 = p.1 0) (h6 : q.1 6 = p.1 6) (h13 : q.1 13 = p.1 13) (a5 : q.2.1 5 = p.2.1 5) (a6 : q.2.1 6 = p.2.1 6) (l : q.2.2 = p.2.2) : IB q := by
  have es : ∀ i, r_is q i = r_is p i := fun i => by unfold r_is; rw [a5]
  refine ⟨fun i hi => ?_, by rw [es, h6, h13]; exact t.2⟩
  rw [h6] at hi
  obtain ⟨A, h1, h2, h3⟩ := t.1 i hi
  exact ⟨A, frm_eq h0 l h1, by rw [es, a6, l]; exact h2, by rw [es, a5, l]; exact h3⟩
section CO
variable {G : fp_G} {h : fp_H} {de td ra ba e : Nat} {p : rs}
theorem co_obey (d : DN h de td p) (hr : rdr h 11 ra 10 ba (wlx p 13 6) (p.1 15) (r_is p (p.1 24), false)) (hD : r_D p) (hmd : MD p) (hib : IB p) : fp_ct G rm_X1_obey M_X1_obey [.ref de, .ref ra] h (fun r h' => r = none ∧ DN h' de td (r_gots (p.1 6 - p.1 24) p) ∧ MD (r_gots (p.1 6 - p.1 24) p) ∧ h'.1 ra = some (11, rc ba (p.1 15) (r_is p ((r_gots (p.1 6 - p.1 24) p).1 24), false)) ∧ cf oS h h' ∧ h'.2 = h.2) := by
  have loop : ∀ (L : Nat) (p : rs) (h : fp_H), DN h de td p → rdr h 11 ra 10 ba (wlx p 13 6) (p.1 15) (r_is p (p.1 24), false) → r_D p → MD p → IB p → p.1 15 - r_is p (p.1 24) ≤ L → L < 2 ^ 30 → fp_wp G rm_X1_obey M_X1_obey 7 [some (.ref de), some (.ref ra), some (.int 1), some (.int (nI L))] [] h (fun r h' => r = none ∧ DN h' de td (r_gots (p.1 6 - p.1 24) p) ∧ MD (r_gots (p.1 6 - p.1 24) p) ∧ h'.1 ra = some (11, rc ba (p.1 15) (r_is p ((r_gots (p.1 6 - p.1 24) p).1 24), false)) ∧ cf oS h h' ∧ h'.2 = h.2) := by
    intro L
    induction L with
    | zero =>
      intro p h d hr hD hmd hib hL _
      refine wp_iload_n dX1_obey_7 rfl ?_
      refine wp_if_le (tgt := 27) dX1_obey_8 rfl (fun c_8 => ?_) (fun c_8 => ?_)
      · refine wp_vret dX1_obey_27 rfl ?_
        rw [gots_stop (fun z => ?_)]
        · exact ⟨rfl, d, hmd, hr.1, cf.refl, rfl⟩
        · obtain ⟨A, -, -, h1⟩ := hib.1 _ z.1
          have h2 := vlb_pos (p.2.2 4 (p.1 24))
          rw [List.length_append] at h1
          omega
      · exact absurd (by decide) c_8
    | succ L ih =>
      intro p h d hr hD hmd hib hL hL2
      refine wp_iload_n dX1_obey_7 rfl ?_
      refine wp_if_le (tgt := 27) dX1_obey_8 rfl (fun c_8 => ?_) (fun c_8 => ?_)
      · exact absurd c_8 (nI_nle (by omega) (by omega))
      · refine wp_iload_n dX1_obey_11 rfl ?_
        refine wp_if_eq (tgt := 27) dX1_obey_12 rfl (fun c_12 => ?_) (fun c_12 => ?_)
        · exact absurd c_12 (by decide)
        · refine wp_aload_n dX1_obey_15 rfl ?_
          refine wp_aload_n dX1_obey_16 rfl ?_
          refine wp_callV (As := [.ref ra]) (rest := []) dX1_obey_17 me_X1_obeyOne cw_X1_26 rfl ⟨(Nat.le_of_ble_eq_true rfl), (Nat.le_of_ble_eq_true rfl)⟩ rfl rfl rfl (Nat.le_of_ble_eq_true rfl) d.1 (co_one d hr hD hmd hib) (fun r h1 q => ?_)
          rcases q with ⟨q1, rfl, rfl⟩ | ⟨q1, rfl, q2, q3, q4, q5⟩
          · refine wp_istore_n dX1_obey_20 (Nat.le_of_ble_eq_true rfl) rfl ?_
            refine wp_iinc dX1_obey_21 rfl rfl ?_
            refine wp_goto (tgt := 7) dX1_obey_24 rfl ?_
            refine wp_iload_n dX1_obey_7 rfl ?_
            refine wp_if_le (tgt := 27) dX1_obey_8 rfl (fun c_8 => ?_) (fun c_8 => ?_)
            · refine wp_vret dX1_obey_27 rfl ?_
              rw [gots_stop q1]
              exact ⟨rfl, d, hmd, hr.1, cf.refl, rfl⟩
            · refine wp_iload_n dX1_obey_11 rfl ?_
              refine wp_if_eq (tgt := 27) dX1_obey_12 rfl (fun c_12 => ?_) (fun c_12 => ?_)
              · refine wp_vret dX1_obey_27 rfl ?_
                rw [gots_stop q1]
                exact ⟨rfl, d, hmd, hr.1, cf.refl, rfl⟩
              · exact absurd rfl c_12
          · obtain ⟨b1, b2, b3, b4⟩ := hD.got1 q1.1
            have e15 := b4 15 (by decide) (by decide) (by decide)
            have e13 := b4 13 (by decide) (by decide) (by decide)
            have est : ∀ i, r_is (r_got1 p) i = r_is p i := fun i => by unfold r_is; rw [b3]
            have ewl : wlx (r_got1 p) 13 6 = wlx p 13 6 := by unfold wlx; rw [e13, b3]
            have hib' : IB (r_got1 p) := hib.eq (b4 0 (by decide) (by decide) (by decide)) (b4 6 (by decide) (by decide) (by decide)) e13 (by rw [b3]) (by rw [b3]) (by rw [b3])
            obtain ⟨A, -, -, hend⟩ := hib.1 _ q1.1
            have hpos := vlb_pos (p.2.2 4 (p.1 24))
            rw [List.length_append] at hend
            have hr' : rdr h1 11 ra 10 ba (wlx (r_got1 p) 13 6) ((r_got1 p).1 15) (r_is (r_got1 p) ((r_got1 p).1 24), false) := by
              rw [ewl, e15, est, b2]
              obtain ⟨-, ⟨cap, g2⟩, g3, g4, g5, g6⟩ := hr
              exact ⟨q3, ⟨cap, g2.kept q4 (by simp [oS])⟩, g3, g4, by show r_is p (p.1 24 + 1) ≤ _; rw [r_is_s]; exact q1.2, g6⟩
            refine wp_istore_n dX1_obey_20 (Nat.le_of_ble_eq_true rfl) rfl ?_
            refine wp_iinc dX1_obey_21 rfl rfl ?_
            refine wp_goto (tgt := 7) dX1_obey_24 rfl ?_
            rw [dec1, nI_pred]
            refine (ih (r_got1 p) h1 q2 hr' b1 (hmd.got1 hD q1.1) hib' (by rw [est, e15, b2, r_is_s]; omega) (by omega)).mono (fun r h2 z => ?_)
            obtain ⟨z1, z2, z3, z4, z5, z6⟩ := z
            rw [← gots_go hD q1] at z2 z3 z4
            rw [e15, est] at z4
            exact ⟨z1, z2, z3, z4, q4.trans z5, by rw [z6, q5]⟩
  have hlen := hr.2.2.2.2.2
  refine fp_meth pn_X1 (Nat.le_of_ble_eq_true rfl) rfl ?_
  refine wp_iconst (v := 1) dX1_obey_0 rfl ?_
  refine wp_istore_n dX1_obey_1 (Nat.le_of_ble_eq_true rfl) rfl ?_
  refine wp_aload_n dX1_obey_2 rfl ?_
  refine wp_callV (As := []) (rest := []) dX1_obey_3 me_X6_left cw_X1_20 rfl ⟨(Nat.le_of_ble_eq_true rfl), (Nat.le_of_ble_eq_true rfl)⟩ rfl rfl rfl (Nat.le_of_ble_eq_true rfl) hr.1 (cr_left hr) (fun r h1 q => ?_)
  obtain ⟨q0, rfl⟩ := q
  rw [q0]
  refine wp_istore_n dX1_obey_6 (Nat.le_of_ble_eq_true rfl) rfl ?_
  exact loop _ p h d hr hD hmd hib (Nat.le_refl _) (by show p.1 15 - _ < _; omega)
end CO
theorem nb_first {f : Nat → Nat} {a F n v : Nat} {l : List Nat} (h : sb f a (nb F n v ++ l)) : f a = F + min v (2 ^ n - 1) := by
  have := h.app.1
  unfold nb at this
  split at this
  · rename_i c; rw [this.cons.1, Nat.min_eq_left (by omega)]
  · rename_i c; rw [this.cons.1, Nat.min_eq_right (by omega)]
/-- how the name of a literal line is given -/
def lnN (nm : Nat → Nat) (F C base u s : Nat) (A : List Nat) : Prop := (∃ k, k < 8 ∧ u = 97 + k ∧ A = nb (80 + 32 * s) 4 k) ∨ (∃ j, F ≤ j ∧ j < C ∧ nm j = u ∧ j < base ∧ A = nb (64 + 32 * s) 4 (base - 1 - j)) ∨ (∃ j, F ≤ j ∧ j < C ∧ nm j = u ∧ base ≤ j ∧ A = nb (8 * s) 3 (j - base)) ∨ A = nb (32 + 16 * s) 3 (bln u) ++ txb u
/-- a line of a section -/
def lnD (nm vl : Nat → Nat) (F C base u v s : Nat) (l : List Nat) : Prop := (∃ k, k < 8 ∧ u = 97 + k ∧ v = fxv k ∧ s = 0 ∧ l = nb 192 6 k) ∨ (∃ j, F ≤ j ∧ j < C ∧ nm j = u ∧ vl j = v ∧ s = 0 ∧ l = r_wb j base) ∨ ∃ A, lnN nm F C base u s A ∧ l = A ++ vlb v
theorem cf.fresh {S : Nat → Prop} {h h2 : fp_H} {a t t' : Nat} {e e' : fp_E} (w : fp_wf h) (c : cf S h h2) (ha : h.2.1 ≤ a) (h2a : h2.1 a = some (t', e')) : cf S h (fp_put h2 a t e) := by
  refine ⟨⟨c.1.1, c.1.2.1, fun w => (c.wf w).put h2a, fun q t e hq hn => ?_⟩, c.2⟩
  have : q ≠ a := by have := w q _ hq; omega
  rw [fp_put_ne this]
  exact c.at hq hn
theorem rdr.new {h : fp_H} {t a tb b e t' k : Nat} {xs : List Nat} {s : Nat × Bool} {e' : fp_E} (r : rdr h t a tb b xs e s) (w : fp_wf h) (hk : 1 ≤ k) : rdr (fp_new h t' e' k) t a tb b xs e s := by
  have c : cf (fun _ => False) h (fp_new h t' e' k) := cf.new w hk
  obtain ⟨h1, ⟨cap, h2⟩, h3⟩ := r
  exact ⟨c.at h1 (fun z => z), ⟨cap, h2.kept c (fun z => z)⟩, h3⟩
theorem fp_put_new {h : fp_H} {t k : Nat} {e e' : fp_E} : fp_put (fp_new h t e k) h.2.1 t e' = fp_new h t e' k := by
  refine Prod.ext ?_ rfl
  funext q
  simp only [fp_put, fp_new]
  split <;> rfl
theorem tst1 : ∀ s, s < 2 → ∀ y, y < 8 → nI (80 + 32 * s + y) &&& 16 ≠ 0 ∧ (nI (80 + 32 * s + y) &&& 32 = 0 ↔ s = 0) := by decide +kernel
theorem tst2 : ∀ s, s < 2 → ∀ y, y < 16 → nI (64 + 32 * s + y) &&& 16 = 0 ∧ (nI (64 + 32 * s + y) &&& 32 = 0 ↔ s = 0) := by decide +kernel
theorem tst3 : ∀ s, s < 2 → ∀ y, y < 8 → (nI (32 + 16 * s + y) &&& 16 = 0 ↔ s = 0) := by decide +kernel
theorem tst4 : ∀ s, s < 2 → ∀ y, y < 8 → (nI (8 * s + y) &&& 8 = 0 ↔ s = 0) := by decide +kernel
theorem dX1_fieldAt_0 : decode cX1_fieldAt 0 = .ok (.new 146, 3) := by decide +kernel
theorem dX1_fieldAt_3 : decode cX1_fieldAt 3 = .ok (.dup, 1) := by decide +kernel
theorem dX1_fieldAt_4 : decode cX1_fieldAt 4 = .ok (.aload_n 0, 1) := by decide +kernel
theorem dX1_fieldAt_5 : decode cX1_fieldAt 5 = .ok (.getfield 14, 3) := by decide +kernel
theorem dX1_fieldAt_8 : decode cX1_fieldAt 8 = .ok (.iload_n 1, 1) := by decide +kernel
theorem dX1_fieldAt_9 : decode cX1_fieldAt 9 = .ok (.invokevirtual 63, 3) := by decide +kernel
theorem dX1_fieldAt_12 : decode cX1_fieldAt 12 = .ok (.aload_n 0, 1) := by decide +kernel
theorem dX1_fieldAt_13 : decode cX1_fieldAt 13 = .ok (.getfield 14, 3) := by decide +kernel
theorem dX1_fieldAt_16 : decode cX1_fieldAt 16 = .ok (.iload_n 1, 1) := by decide +kernel
theorem dX1_fieldAt_17 : decode cX1_fieldAt 17 = .ok (.invokevirtual 158, 3) := by decide +kernel
theorem dX1_fieldAt_20 : decode cX1_fieldAt 20 = .ok (.iconst 0, 1) := by decide +kernel
theorem dX1_fieldAt_21 : decode cX1_fieldAt 21 = .ok (.invokespecial 151, 3) := by decide +kernel
theorem dX1_fieldAt_24 : decode cX1_fieldAt 24 = .ok (.areturn, 1) := by decide +kernel
theorem dX1_readLine_0 : decode cX1_readLine 0 = .ok (.aload_n 1, 1) := by decide +kernel
theorem dX1_readLine_1 : decode cX1_readLine 1 = .ok (.invokevirtual 53, 3) := by decide +kernel
theorem dX1_readLine_4 : decode cX1_readLine 4 = .ok (.istore_n 3, 1) := by decide +kernel
theorem dX1_readLine_5 : decode cX1_readLine 5 = .ok (.iload_n 3, 1) := by decide +kernel
theorem dX1_readLine_6 : decode cX1_readLine 6 = .ok (.sipush 192, 3) := by decide +kernel
theorem dX1_readLine_9 : decode cX1_readLine 9 = .ok (.if_icmp .lt 31, 3) := by decide +kernel
theorem dX1_readLine_12 : decode cX1_readLine 12 = .ok (.aload_n 1, 1) := by decide +kernel
theorem dX1_readLine_13 : decode cX1_readLine 13 = .ok (.bipush 6, 2) := by decide +kernel
theorem dX1_readLine_15 : decode cX1_readLine 15 = .ok (.invokevirtual 56, 3) := by decide +kernel
theorem dX1_readLine_18 : decode cX1_readLine 18 = .ok (.istore 4, 2) := by decide +kernel
theorem dX1_readLine_20 : decode cX1_readLine 20 = .ok (.new 146, 3) := by decide +kernel
theorem dX1_readLine_23 : decode cX1_readLine 23 = .ok (.dup, 1) := by decide +kernel
theorem dX1_readLine_24 : decode cX1_readLine 24 = .ok (.bipush 97, 2) := by decide +kernel
theorem dX1_readLine_26 : decode cX1_readLine 26 = .ok (.iload 4, 2) := by decide +kernel
theorem dX1_readLine_28 : decode cX1_readLine 28 = .ok (.iadd, 1) := by decide +kernel
theorem dX1_readLine_29 : decode cX1_readLine 29 = .ok (.i2l, 1) := by decide +kernel
theorem dX1_readLine_30 : decode cX1_readLine 30 = .ok (.iload 4, 2) := by decide +kernel
theorem dX1_readLine_32 : decode cX1_readLine 32 = .ok (.invokestatic 148, 3) := by decide +kernel
theorem dX1_readLine_35 : decode cX1_readLine 35 = .ok (.iconst 0, 1) := by decide +kernel
theorem dX1_readLine_36 : decode cX1_readLine 36 = .ok (.invokespecial 151, 3) := by decide +kernel
theorem dX1_readLine_39 : decode cX1_readLine 39 = .ok (.areturn, 1) := by decide +kernel
theorem dX1_readLine_40 : decode cX1_readLine 40 = .ok (.iload_n 3, 1) := by decide +kernel
theorem dX1_readLine_41 : decode cX1_readLine 41 = .ok (.sipush 128, 3) := by decide +kernel
theorem dX1_readLine_44 : decode cX1_readLine 44 = .ok (.if_icmp .lt 18, 3) := by decide +kernel
theorem dX1_readLine_47 : decode cX1_readLine 47 = .ok (.aload_n 0, 1) := by decide +kernel
theorem dX1_readLine_48 : decode cX1_readLine 48 = .ok (.iload_n 2, 1) := by decide +kernel
theorem dX1_readLine_49 : decode cX1_readLine 49 = .ok (.iconst 1, 1) := by decide +kernel
theorem dX1_readLine_50 : decode cX1_readLine 50 = .ok (.isub, 1) := by decide +kernel
theorem dX1_readLine_51 : decode cX1_readLine 51 = .ok (.aload_n 1, 1) := by decide +kernel
theorem dX1_readLine_52 : decode cX1_readLine 52 = .ok (.bipush 6, 2) := by decide +kernel
theorem dX1_readLine_54 : decode cX1_readLine 54 = .ok (.invokevirtual 56, 3) := by decide +kernel
theorem dX1_readLine_57 : decode cX1_readLine 57 = .ok (.isub, 1) := by decide +kernel
theorem dX1_readLine_58 : decode cX1_readLine 58 = .ok (.invokevirtual 154, 3) := by decide +kernel
theorem dX1_readLine_61 : decode cX1_readLine 61 = .ok (.areturn, 1) := by decide +kernel
theorem dX1_readLine_62 : decode cX1_readLine 62 = .ok (.iload_n 3, 1) := by decide +kernel
theorem dX1_readLine_63 : decode cX1_readLine 63 = .ok (.bipush 64, 2) := by decide +kernel
theorem dX1_readLine_65 : decode cX1_readLine 65 = .ok (.if_icmp .lt 81, 3) := by decide +kernel
theorem dX1_readLine_68 : decode cX1_readLine 68 = .ok (.iload_n 3, 1) := by decide +kernel
theorem dX1_readLine_69 : decode cX1_readLine 69 = .ok (.bipush 16, 2) := by decide +kernel
theorem dX1_readLine_71 : decode cX1_readLine 71 = .ok (.iand, 1) := by decide +kernel
theorem dX1_readLine_72 : decode cX1_readLine 72 = .ok (.ifCond .eq 7, 3) := by decide +kernel
theorem dX1_readLine_75 : decode cX1_readLine 75 = .ok (.iconst 1, 1) := by decide +kernel
theorem dX1_readLine_76 : decode cX1_readLine 76 = .ok (.goto 4, 3) := by decide +kernel
theorem dX1_readLine_79 : decode cX1_readLine 79 = .ok (.iconst 0, 1) := by decide +kernel
theorem dX1_readLine_80 : decode cX1_readLine 80 = .ok (.istore 4, 2) := by decide +kernel
theorem dX1_readLine_82 : decode cX1_readLine 82 = .ok (.aload_n 1, 1) := by decide +kernel
theorem dX1_readLine_83 : decode cX1_readLine 83 = .ok (.iconst 4, 1) := by decide +kernel
theorem dX1_readLine_84 : decode cX1_readLine 84 = .ok (.invokevirtual 56, 3) := by decide +kernel
theorem dX1_readLine_87 : decode cX1_readLine 87 = .ok (.istore 5, 2) := by decide +kernel
theorem dX1_readLine_89 : decode cX1_readLine 89 = .ok (.iload 4, 2) := by decide +kernel
theorem dX1_readLine_91 : decode cX1_readLine 91 = .ok (.ifCond .eq 12, 3) := by decide +kernel
theorem dX1_readLine_94 : decode cX1_readLine 94 = .ok (.bipush 97, 2) := by decide +kernel
theorem dX1_readLine_96 : decode cX1_readLine 96 = .ok (.iload 5, 2) := by decide +kernel
theorem dX1_readLine_98 : decode cX1_readLine 98 = .ok (.iadd, 1) := by decide +kernel
theorem dX1_readLine_99 : decode cX1_readLine 99 = .ok (.i2l, 1) := by decide +kernel
theorem dX1_readLine_100 : decode cX1_readLine 100 = .ok (.goto 16, 3) := by decide +kernel
theorem dX1_readLine_103 : decode cX1_readLine 103 = .ok (.aload_n 0, 1) := by decide +kernel
theorem dX1_readLine_104 : decode cX1_readLine 104 = .ok (.getfield 14, 3) := by decide +kernel
theorem dX1_readLine_107 : decode cX1_readLine 107 = .ok (.iload_n 2, 1) := by decide +kernel
theorem dX1_readLine_108 : decode cX1_readLine 108 = .ok (.iconst 1, 1) := by decide +kernel
theorem dX1_readLine_109 : decode cX1_readLine 109 = .ok (.isub, 1) := by decide +kernel
theorem dX1_readLine_110 : decode cX1_readLine 110 = .ok (.iload 5, 2) := by decide +kernel
theorem dX1_readLine_112 : decode cX1_readLine 112 = .ok (.isub, 1) := by decide +kernel
theorem dX1_readLine_113 : decode cX1_readLine 113 = .ok (.invokevirtual 63, 3) := by decide +kernel
theorem dX1_readLine_116 : decode cX1_readLine 116 = .ok (.lstore 6, 2) := by decide +kernel
theorem dX1_readLine_118 : decode cX1_readLine 118 = .ok (.new 146, 3) := by decide +kernel
theorem dX1_readLine_121 : decode cX1_readLine 121 = .ok (.dup, 1) := by decide +kernel
theorem dX1_readLine_122 : decode cX1_readLine 122 = .ok (.lload 6, 2) := by decide +kernel
theorem dX1_readLine_124 : decode cX1_readLine 124 = .ok (.aload_n 1, 1) := by decide +kernel
theorem dX1_readLine_125 : decode cX1_readLine 125 = .ok (.bipush 7, 2) := by decide +kernel
theorem dX1_readLine_127 : decode cX1_readLine 127 = .ok (.invokevirtual 38, 3) := by decide +kernel
theorem dX1_readLine_130 : decode cX1_readLine 130 = .ok (.iload_n 3, 1) := by decide +kernel
theorem dX1_readLine_131 : decode cX1_readLine 131 = .ok (.bipush 32, 2) := by decide +kernel
theorem dX1_readLine_133 : decode cX1_readLine 133 = .ok (.iand, 1) := by decide +kernel
theorem dX1_readLine_134 : decode cX1_readLine 134 = .ok (.ifCond .eq 7, 3) := by decide +kernel
theorem dX1_readLine_137 : decode cX1_readLine 137 = .ok (.iconst 1, 1) := by decide +kernel
theorem dX1_readLine_138 : decode cX1_readLine 138 = .ok (.goto 4, 3) := by decide +kernel
theorem dX1_readLine_141 : decode cX1_readLine 141 = .ok (.iconst 0, 1) := by decide +kernel
theorem dX1_readLine_142 : decode cX1_readLine 142 = .ok (.invokespecial 151, 3) := by decide +kernel
theorem dX1_readLine_145 : decode cX1_readLine 145 = .ok (.areturn, 1) := by decide +kernel
theorem dX1_readLine_146 : decode cX1_readLine 146 = .ok (.iload_n 3, 1) := by decide +kernel
theorem dX1_readLine_147 : decode cX1_readLine 147 = .ok (.bipush 32, 2) := by decide +kernel
theorem dX1_readLine_149 : decode cX1_readLine 149 = .ok (.if_icmp .lt 38, 3) := by decide +kernel
theorem dX1_readLine_152 : decode cX1_readLine 152 = .ok (.aload_n 1, 1) := by decide +kernel
theorem dX1_readLine_153 : decode cX1_readLine 153 = .ok (.iconst 3, 1) := by decide +kernel
theorem dX1_readLine_154 : decode cX1_readLine 154 = .ok (.invokevirtual 38, 3) := by decide +kernel
theorem dX1_readLine_157 : decode cX1_readLine 157 = .ok (.lstore 4, 2) := by decide +kernel
theorem dX1_readLine_159 : decode cX1_readLine 159 = .ok (.new 146, 3) := by decide +kernel
theorem dX1_readLine_162 : decode cX1_readLine 162 = .ok (.dup, 1) := by decide +kernel
theorem dX1_readLine_163 : decode cX1_readLine 163 = .ok (.lload 4, 2) := by decide +kernel
theorem dX1_readLine_165 : decode cX1_readLine 165 = .ok (.aload_n 1, 1) := by decide +kernel
theorem dX1_readLine_166 : decode cX1_readLine 166 = .ok (.bipush 7, 2) := by decide +kernel
theorem dX1_readLine_168 : decode cX1_readLine 168 = .ok (.invokevirtual 38, 3) := by decide +kernel
theorem dX1_readLine_171 : decode cX1_readLine 171 = .ok (.iload_n 3, 1) := by decide +kernel
theorem dX1_readLine_172 : decode cX1_readLine 172 = .ok (.bipush 16, 2) := by decide +kernel
theorem dX1_readLine_174 : decode cX1_readLine 174 = .ok (.iand, 1) := by decide +kernel
theorem dX1_readLine_175 : decode cX1_readLine 175 = .ok (.ifCond .eq 7, 3) := by decide +kernel
theorem dX1_readLine_178 : decode cX1_readLine 178 = .ok (.iconst 1, 1) := by decide +kernel
theorem dX1_readLine_179 : decode cX1_readLine 179 = .ok (.goto 4, 3) := by decide +kernel
theorem dX1_readLine_182 : decode cX1_readLine 182 = .ok (.iconst 0, 1) := by decide +kernel
theorem dX1_readLine_183 : decode cX1_readLine 183 = .ok (.invokespecial 151, 3) := by decide +kernel
theorem dX1_readLine_186 : decode cX1_readLine 186 = .ok (.areturn, 1) := by decide +kernel
theorem dX1_readLine_187 : decode cX1_readLine 187 = .ok (.iload_n 3, 1) := by decide +kernel
theorem dX1_readLine_188 : decode cX1_readLine 188 = .ok (.bipush 16, 2) := by decide +kernel
theorem dX1_readLine_190 : decode cX1_readLine 190 = .ok (.if_icmp .lt 15, 3) := by decide +kernel
theorem dX1_readLine_193 : decode cX1_readLine 193 = .ok (.aload_n 0, 1) := by decide +kernel
theorem dX1_readLine_194 : decode cX1_readLine 194 = .ok (.iload_n 2, 1) := by decide +kernel
theorem dX1_readLine_195 : decode cX1_readLine 195 = .ok (.aload_n 1, 1) := by decide +kernel
theorem dX1_readLine_196 : decode cX1_readLine 196 = .ok (.iconst 4, 1) := by decide +kernel
theorem dX1_readLine_197 : decode cX1_readLine 197 = .ok (.invokevirtual 56, 3) := by decide +kernel
theorem dX1_readLine_200 : decode cX1_readLine 200 = .ok (.iadd, 1) := by decide +kernel
theorem dX1_readLine_201 : decode cX1_readLine 201 = .ok (.invokevirtual 154, 3) := by decide +kernel
theorem dX1_readLine_204 : decode cX1_readLine 204 = .ok (.areturn, 1) := by decide +kernel
theorem dX1_readLine_205 : decode cX1_readLine 205 = .ok (.aload_n 0, 1) := by decide +kernel
theorem dX1_readLine_206 : decode cX1_readLine 206 = .ok (.getfield 14, 3) := by decide +kernel
theorem dX1_readLine_209 : decode cX1_readLine 209 = .ok (.iload_n 2, 1) := by decide +kernel
theorem dX1_readLine_210 : decode cX1_readLine 210 = .ok (.aload_n 1, 1) := by decide +kernel
theorem dX1_readLine_211 : decode cX1_readLine 211 = .ok (.iconst 3, 1) := by decide +kernel
theorem dX1_readLine_212 : decode cX1_readLine 212 = .ok (.invokevirtual 56, 3) := by decide +kernel
theorem dX1_readLine_215 : decode cX1_readLine 215 = .ok (.iadd, 1) := by decide +kernel
theorem dX1_readLine_216 : decode cX1_readLine 216 = .ok (.invokevirtual 63, 3) := by decide +kernel
theorem dX1_readLine_219 : decode cX1_readLine 219 = .ok (.lstore 4, 2) := by decide +kernel
theorem dX1_readLine_221 : decode cX1_readLine 221 = .ok (.new 146, 3) := by decide +kernel
theorem dX1_readLine_224 : decode cX1_readLine 224 = .ok (.dup, 1) := by decide +kernel
theorem dX1_readLine_225 : decode cX1_readLine 225 = .ok (.lload 4, 2) := by decide +kernel
theorem dX1_readLine_227 : decode cX1_readLine 227 = .ok (.aload_n 1, 1) := by decide +kernel
theorem dX1_readLine_228 : decode cX1_readLine 228 = .ok (.bipush 7, 2) := by decide +kernel
theorem dX1_readLine_230 : decode cX1_readLine 230 = .ok (.invokevirtual 38, 3) := by decide +kernel
theorem dX1_readLine_233 : decode cX1_readLine 233 = .ok (.iload_n 3, 1) := by decide +kernel
theorem dX1_readLine_234 : decode cX1_readLine 234 = .ok (.bipush 8, 2) := by decide +kernel
theorem dX1_readLine_236 : decode cX1_readLine 236 = .ok (.iand, 1) := by decide +kernel
theorem dX1_readLine_237 : decode cX1_readLine 237 = .ok (.ifCond .eq 7, 3) := by decide +kernel
theorem dX1_readLine_240 : decode cX1_readLine 240 = .ok (.iconst 1, 1) := by decide +kernel
theorem dX1_readLine_241 : decode cX1_readLine 241 = .ok (.goto 4, 3) := by decide +kernel
theorem dX1_readLine_244 : decode cX1_readLine 244 = .ok (.iconst 0, 1) := by decide +kernel
theorem dX1_readLine_245 : decode cX1_readLine 245 = .ok (.invokespecial 151, 3) := by decide +kernel
theorem dX1_readLine_248 : decode cX1_readLine 248 = .ok (.areturn, 1) := by decide +kernel
section CL
variable {G : fp_G} {h : fp_H} {de td ra ba e T Tb F C S cap : Nat} {nm vl : Nat → Nat} {x27 : Int32} {xs : List Nat}
theorem cl_fieldAt {j : Nat} (w : fp_wf h) (hde : h.1 de = some (4, .inr (2, [.ref td, .int x27]))) (ht : tbl h 16 td cap nm vl F C S) (h1 : F ≤ j) (h2 : j < C) : fp_ct G rm_X1_fieldAt M_X1_fieldAt [.ref de, .int (nI j)] h (fun r h' => r = some (.ref h.2.1) ∧ h' = fp_new h 9 (fO (nm j) (vl j) 0) 3) := by
  have c1 : cf (fun _ => False) h (fp_new h 9 (.inr (4, [.long 0, .long 0, .int 0])) 3) := cf.new w (by decide)
  have ff : ∀ t : Nat, ¬ (fun _ : Nat => False) t := fun t z => z
  have hde' := c1.at hde (ff 4)
  have ht' := ht.kept c1 (ff 16)
  obtain ⟨n1, n2, n3, f1, f2, f3, a1, -⟩ := ht'.ex
  refine fp_meth pn_X1 (Nat.le_of_ble_eq_true rfl) rfl ?_
  refine wp_new 9 dX1_fieldAt_0 nw_X1_146 ?_
  refine wp_dup dX1_fieldAt_3 rfl ?_
  refine wp_aload_n dX1_fieldAt_4 rfl ?_
  refine wp_getf dX1_fieldAt_5 fl_X1_14 hde' rfl ?_
  refine wp_iload_n dX1_fieldAt_8 rfl ?_
  refine wp_callV (As := [.int (nI j)]) (rest := [.ref h.2.1, .ref h.2.1]) dX1_fieldAt_9 me_X8_nameAt cw_X1_63 rfl ⟨(Nat.le_of_ble_eq_true rfl), (Nat.le_of_ble_eq_true rfl)⟩ rfl rfl rfl (Nat.le_of_ble_eq_true rfl) a1 (cc_nameIn ht' h1 h2) (fun r h3 q => ?_)
  obtain ⟨q0, rfl⟩ := q
  rw [q0]
  refine wp_aload_n dX1_fieldAt_12 rfl ?_
  refine wp_getf dX1_fieldAt_13 fl_X1_14 hde' rfl ?_
  refine wp_iload_n dX1_fieldAt_16 rfl ?_
  refine wp_callV (As := [.int (nI j)]) (rest := [.long (lN (nm j)), .ref h.2.1, .ref h.2.1]) dX1_fieldAt_17 me_X8_valueAt cw_X1_158 rfl ⟨(Nat.le_of_ble_eq_true rfl), (Nat.le_of_ble_eq_true rfl)⟩ rfl rfl rfl (Nat.le_of_ble_eq_true rfl) a1 (cc_valueIn ht' h1 h2) (fun r h3 q => ?_)
  obtain ⟨q0, rfl⟩ := q
  rw [q0]
  refine wp_iconst (v := 0) dX1_fieldAt_20 rfl ?_
  refine wp_callI (As := [.long (lN (nm j)), .long (lN (vl j)), .int (nI 0)]) (rest := [.ref h.2.1]) dX1_fieldAt_21 me_X3_init rfl cw_X1_151 rfl ⟨(Nat.le_of_ble_eq_true rfl), (Nat.le_of_ble_eq_true rfl)⟩ rfl rfl rfl (Nat.le_of_ble_eq_true rfl) (cc_fnew (by decide) fp_new_eq) (fun r h3 q => ?_)
  obtain ⟨rfl, rfl⟩ := q
  refine wp_aret dX1_fieldAt_24 rfl (by first | exact Or.inl ⟨_, rfl⟩ | exact Or.inr ⟨_, rfl⟩) (Or.inr ⟨_, rfl⟩) ?_
  exact ⟨rfl, fp_put_new⟩
def lP (h : fp_H) (ra ba e T u v s at' : Nat) : Option Value → fp_H → Prop := fun r h' => ∃ a, r = some (.ref a) ∧ h'.1 a = some (9, fO u v s) ∧ h'.1 ra = some (T, rc ba e (at', false)) ∧ cf (fun x => x = T) h h' ∧ h'.2.2 = h.2.2 + 3
set_option maxHeartbeats 2000000 in
theorem cl_line {s0 base u v s : Nat} {l : List Nat} (w : fp_wf h) (hde : h.1 de = some (4, .inr (2, [.ref td, .int x27]))) (ht : tbl h 16 td cap nm vl F C S) (hr : rdr h T ra Tb ba xs e (s0, false)) (hT : T ≠ 4 ∧ T ≠ 16 ∧ T ≠ 9) (hl : lnD nm vl F C base u v s l) (hsb : sb (fun i => xs.getD i 0) s0 l) (hle : s0 + l.length ≤ e) (hs : s ≤ 1) (hu : u < 2 ^ 64) (hv : v < 2 ^ 64) (hb : base < 2 ^ 27) : fp_ct G rm_X1_readLine M_X1_readLine [.ref de, .ref ra, .int (nI base)] h (lP h ra ba e T u v s (s0 + l.length)) := by
  have hra := hr.1
  have hC := ht.hC
  have hat := hr.2.2.2.2.1
  have kT : ∀ t, t ≠ T → ¬ (fun x => x = T) t := fun t ht z => ht z
  have hTT : ¬ (fun x => x = T) 9 := kT 9 (Ne.symm hT.2.2)
  obtain ⟨n1, n2, n3, f1, f2, f3, a1, -⟩ := ht.ex
  have hlp : 0 < l.length := by
    rcases hl with ⟨k, -, -, -, -, rfl⟩ | ⟨j, -, -, -, -, -, rfl⟩ | ⟨A, -, rfl⟩
    · exact nb_pos _ _ _
    · unfold r_wb; split <;> exact nb_pos _ _ _
    · have := vlb_pos v; rw [List.length_append]; omega
  have hfr : k_fr (fun i => xs.getD i 0) e (s0, false) = (xs.getD s0 0, (s0, false)) := by unfold k_fr; rw [if_pos (by show s0 < e; omega)]
  refine fp_meth pn_X1 (Nat.le_of_ble_eq_true rfl) rfl ?_
  refine wp_aload_n dX1_readLine_0 rfl ?_
  refine wp_callV (As := []) (rest := []) dX1_readLine_1 me_X6_front cw_X1_53 rfl ⟨(Nat.le_of_ble_eq_true rfl), (Nat.le_of_ble_eq_true rfl)⟩ rfl rfl rfl (Nat.le_of_ble_eq_true rfl) hra (cr_front hr) (fun r h1 q => ?_)
  obtain ⟨rfl, rfl⟩ := q
  rw [hfr, fp_put_self hra]
  -- a literal: behind its name
  have litI : ∀ (A : List Nat), l = A ++ vlb v → sb (fun i => xs.getD i 0) (s0 + A.length) (vlb v) ∧ s0 + A.length + (vlb v).length = s0 + l.length := by
    intro A hA
    rw [hA] at hsb ⊢
    exact ⟨hsb.app.2, by rw [List.length_append]; omega⟩
  rcases hl with ⟨k, hk, rfl, rfl, rfl, rfl⟩ | ⟨j, hj1, hj2, rfl, rfl, rfl, rfl⟩ | ⟨A, hA, hlA⟩
  · -- fixed
    have h0 := nb_first (l := []) (by rw [List.append_nil]; exact hsb)
    rw [Nat.min_eq_left (by omega)] at h0
    have hkn := (k_num_nb (f := fun i => xs.getD i 0) (e := e) (n := 6) (F := 192) (v := k) (a := s0) (c := false) (by decide) rfl (by omega) hsb).1 hle
    have h0' : xs.getD s0 0 = 192 + k := h0
    rw [h0']
    refine wp_istore_n dX1_readLine_4 (Nat.le_of_ble_eq_true rfl) rfl ?_
    refine wp_iload_n dX1_readLine_5 rfl ?_
    refine wp_sipush (v := 192) dX1_readLine_6 rfl ?_
    refine wp_icmp_lt (tgt := 40) dX1_readLine_9 rfl (fun c_9 => ?_) (fun c_9 => ?_)
    · have := (nI_ltI (b := 192) (by omega) (by decide)).mp c_9
      omega
    · refine wp_aload_n dX1_readLine_12 rfl ?_
      refine wp_bipush (v := 6) dX1_readLine_13 rfl ?_
      refine wp_callV (As := [.int (nI 6)]) (rest := []) dX1_readLine_15 me_X6_takeNumber cw_X1_56 rfl ⟨(Nat.le_of_ble_eq_true rfl), (Nat.le_of_ble_eq_true rfl)⟩ rfl rfl rfl (Nat.le_of_ble_eq_true rfl) hra (cr_num (by decide) hr) (fun r h2 q => ?_)
      obtain ⟨rfl, rfl⟩ := q
      rw [hkn]
      have c1 : cf (fun x => x = T) h (fp_put h ra T (rc ba e (s0 + (nb 192 6 k).length, false))) := cf.put1 hra
      have w1 := c1.wf w
      have e1 : (fp_put h ra T (rc ba e (s0 + (nb 192 6 k).length, false))).1 ra = some (T, rc ba e (s0 + (nb 192 6 k).length, false)) := fp_put_eq
      have z1 : (fp_put h ra T (rc ba e (s0 + (nb 192 6 k).length, false))).2 = h.2 := rfl
      generalize fp_put h ra T (rc ba e (s0 + (nb 192 6 k).length, false)) = h2 at c1 w1 e1 z1 ⊢
      refine wp_istore dX1_readLine_18 (Nat.le_of_ble_eq_true rfl) rfl ?_
      refine wp_new 9 dX1_readLine_20 nw_X1_146 ?_
      refine wp_dup dX1_readLine_23 rfl ?_
      refine wp_bipush (v := 97) dX1_readLine_24 rfl ?_
      refine wp_iload dX1_readLine_26 rfl ?_
      refine wp_iadd dX1_readLine_28 ?_
      rw [show (97 : Int32) + nI k = nI (97 + k) from nI_add 97 k]
      refine wp_i2l dX1_readLine_29 ?_
      refine wp_iload dX1_readLine_30 rfl ?_
      rw [nI_l (by omega)]
      refine wp_callSN (As := [.int (nI k)]) (rest := [.long (lN (97 + k)), .ref h2.2.1, .ref h2.2.1]) dX1_readLine_32 me_X10_fixedValue cw_X1_148 ⟨(Nat.le_of_ble_eq_true rfl), (Nat.le_of_ble_eq_true rfl)⟩ rfl rfl rfl (Nat.le_of_ble_eq_true rfl) (cc_fixedValue (by omega)) (fun r h3 q => ?_)
      obtain ⟨q0, rfl⟩ := q
      rw [q0]
      refine wp_iconst (v := 0) dX1_readLine_35 rfl ?_
      refine wp_callI (As := [.long (lN (97 + k)), .long (lN (fxv k)), .int (nI 0)]) (rest := [.ref h2.2.1]) dX1_readLine_36 me_X3_init rfl cw_X1_151 rfl ⟨(Nat.le_of_ble_eq_true rfl), (Nat.le_of_ble_eq_true rfl)⟩ rfl rfl rfl (Nat.le_of_ble_eq_true rfl) (cc_fnew (by decide) fp_new_eq) (fun r h4 q => ?_)
      obtain ⟨rfl, rfl⟩ := q
      refine wp_aret dX1_readLine_39 rfl (by first | exact Or.inl ⟨_, rfl⟩ | exact Or.inr ⟨_, rfl⟩) (Or.inr ⟨_, rfl⟩) ?_
      rw [fp_put_new]
      exact ⟨_, rfl, fp_new_eq, (fp_new_ne (w1.ne e1)).trans e1, c1.trans (cf.new w1 (by decide)), by show h2.2.2 + 3 = _; rw [z1]⟩
  · -- an entry
    have fin : ∀ (h2 : fp_H) (at' : Nat), cf (fun x => x = T) h h2 → h2.2 = h.2 → h2.1 ra = some (T, rc ba e (at', false)) → (fun r h' => r = some (Value.ref h2.2.1) ∧ h' = fp_new h2 9 (fO (nm j) (vl j) 0) 3) = (fun r h' => r = some (Value.ref h2.2.1) ∧ h' = fp_new h2 9 (fO (nm j) (vl j) 0) 3) → lP h ra ba e T (nm j) (vl j) 0 at' (some (.ref h2.2.1)) (fp_new h2 9 (fO (nm j) (vl j) 0) 3) := by
      intro h2 at' c1 z1 e1 _
      exact ⟨_, rfl, fp_new_eq, (fp_new_ne ((c1.wf w).ne e1)).trans e1, c1.trans (cf.new (c1.wf w) (by decide)), by show h2.2.2 + 3 = _; rw [z1]⟩
    unfold r_wb at hsb hle hlp ⊢
    by_cases c : j < base
    · rw [if_pos c] at hsb hle hlp ⊢
      have h0 : xs.getD s0 0 = 128 + min (base - 1 - j) 63 := nb_first (l := []) (by rw [List.append_nil]; exact hsb)
      have hm : min (base - 1 - j) 63 ≤ 63 := Nat.min_le_right _ _
      have hkn := (k_num_nb (f := fun i => xs.getD i 0) (e := e) (n := 6) (F := 128) (v := base - 1 - j) (a := s0) (c := false) (by decide) rfl (by omega) hsb).1 hle
      rw [h0]
      generalize min (base - 1 - j) 63 = y at hm
      refine wp_istore_n dX1_readLine_4 (Nat.le_of_ble_eq_true rfl) rfl ?_
      refine wp_iload_n dX1_readLine_5 rfl ?_
      refine wp_sipush (v := 192) dX1_readLine_6 rfl ?_
      refine wp_icmp_lt (tgt := 40) dX1_readLine_9 rfl (fun c_9 => ?_) (fun c_9 => ?_)
      · refine wp_iload_n dX1_readLine_40 rfl ?_
        refine wp_sipush (v := 128) dX1_readLine_41 rfl ?_
        refine wp_icmp_lt (tgt := 62) dX1_readLine_44 rfl (fun c_44 => ?_) (fun c_44 => ?_)
        · have := (nI_ltI (b := 128) (by omega) (by decide)).mp c_44
          omega
        · refine wp_aload_n dX1_readLine_47 rfl ?_
          refine wp_iload_n dX1_readLine_48 rfl ?_
          refine wp_iconst (v := 1) dX1_readLine_49 rfl ?_
          refine wp_isub dX1_readLine_50 ?_
          rw [nI_sub1 (by omega)]
          refine wp_aload_n dX1_readLine_51 rfl ?_
          refine wp_bipush (v := 6) dX1_readLine_52 rfl ?_
          refine wp_callV (As := [.int (nI 6)]) (rest := [.int (nI (base - 1)), .ref de]) dX1_readLine_54 me_X6_takeNumber cw_X1_56 rfl ⟨(Nat.le_of_ble_eq_true rfl), (Nat.le_of_ble_eq_true rfl)⟩ rfl rfl rfl (Nat.le_of_ble_eq_true rfl) hra (cr_num (by decide) hr) (fun r h2 q => ?_)
          obtain ⟨rfl, rfl⟩ := q
          rw [hkn]
          have c1 : cf (fun x => x = T) h (fp_put h ra T (rc ba e (s0 + (nb 128 6 (base - 1 - j)).length, false))) := cf.put1 hra
          have z1 : (fp_put h ra T (rc ba e (s0 + (nb 128 6 (base - 1 - j)).length, false))).2 = h.2 := rfl
          have e1 : (fp_put h ra T (rc ba e (s0 + (nb 128 6 (base - 1 - j)).length, false))).1 ra = some (T, rc ba e (s0 + (nb 128 6 (base - 1 - j)).length, false)) := fp_put_eq
          generalize fp_put h ra T (rc ba e (s0 + (nb 128 6 (base - 1 - j)).length, false)) = h2 at c1 z1 e1 ⊢
          refine wp_isub dX1_readLine_57 ?_
          rw [show nI (base - 1) - nI (base - 1 - j) = nI j by rw [pk_sub (by omega)]; congr 1; omega]
          refine wp_callV (As := [.int (nI j)]) (rest := []) dX1_readLine_58 me_X1_fieldAt cw_X1_154 rfl ⟨(Nat.le_of_ble_eq_true rfl), (Nat.le_of_ble_eq_true rfl)⟩ rfl rfl rfl (Nat.le_of_ble_eq_true rfl) (c1.at hde (kT 4 (Ne.symm hT.1))) (cl_fieldAt (c1.wf w) (c1.at hde (kT 4 (Ne.symm hT.1))) (ht.kept c1 (kT 16 (Ne.symm hT.2.1))) hj1 hj2) (fun r h3 q => ?_)
          obtain ⟨rfl, rfl⟩ := q
          refine wp_aret dX1_readLine_61 rfl (by first | exact Or.inl ⟨_, rfl⟩ | exact Or.inr ⟨_, rfl⟩) (Or.inr ⟨_, rfl⟩) ?_
          exact fin h2 _ c1 z1 e1 rfl
      · exact absurd (nI_lt (b := 192) (show 128 + y < 192 by omega) (by decide)) c_9
    · rw [if_neg c] at hsb hle hlp ⊢
      have h0 : xs.getD s0 0 = 16 + min (j - base) 15 := nb_first (l := []) (by rw [List.append_nil]; exact hsb)
      have hm : min (j - base) 15 ≤ 15 := Nat.min_le_right _ _
      have hkn := (k_num_nb (f := fun i => xs.getD i 0) (e := e) (n := 4) (F := 16) (v := j - base) (a := s0) (c := false) (by decide) rfl (by omega) hsb).1 hle
      rw [h0]
      generalize min (j - base) 15 = y at hm
      refine wp_istore_n dX1_readLine_4 (Nat.le_of_ble_eq_true rfl) rfl ?_
      refine wp_iload_n dX1_readLine_5 rfl ?_
      refine wp_sipush (v := 192) dX1_readLine_6 rfl ?_
      refine wp_icmp_lt (tgt := 40) dX1_readLine_9 rfl (fun c_9 => ?_) (fun c_9 => ?_)
      · refine wp_iload_n dX1_readLine_40 rfl ?_
        refine wp_sipush (v := 128) dX1_readLine_41 rfl ?_
        refine wp_icmp_lt (tgt := 62) dX1_readLine_44 rfl (fun c_44 => ?_) (fun c_44 => ?_)
        · refine wp_iload_n dX1_readLine_62 rfl ?_
          refine wp_bipush (v := 64) dX1_readLine_63 rfl ?_
          refine wp_icmp_lt (tgt := 146) dX1_readLine_65 rfl (fun c_65 => ?_) (fun c_65 => ?_)
          · refine wp_iload_n dX1_readLine_146 rfl ?_
            refine wp_bipush (v := 32) dX1_readLine_147 rfl ?_
            refine wp_icmp_lt (tgt := 187) dX1_readLine_149 rfl (fun c_149 => ?_) (fun c_149 => ?_)
            · refine wp_iload_n dX1_readLine_187 rfl ?_
              refine wp_bipush (v := 16) dX1_readLine_188 rfl ?_
              refine wp_icmp_lt (tgt := 205) dX1_readLine_190 rfl (fun c_190 => ?_) (fun c_190 => ?_)
              · have := (nI_ltI (b := 16) (by omega) (by decide)).mp c_190
                omega
              · refine wp_aload_n dX1_readLine_193 rfl ?_
                refine wp_iload_n dX1_readLine_194 rfl ?_
                refine wp_aload_n dX1_readLine_195 rfl ?_
                refine wp_iconst (v := 4) dX1_readLine_196 rfl ?_
                refine wp_callV (As := [.int (nI 4)]) (rest := [.int (nI base), .ref de]) dX1_readLine_197 me_X6_takeNumber cw_X1_56 rfl ⟨(Nat.le_of_ble_eq_true rfl), (Nat.le_of_ble_eq_true rfl)⟩ rfl rfl rfl (Nat.le_of_ble_eq_true rfl) hra (cr_num (by decide) hr) (fun r h2 q => ?_)
                obtain ⟨rfl, rfl⟩ := q
                rw [hkn]
                have c1 : cf (fun x => x = T) h (fp_put h ra T (rc ba e (s0 + (nb 16 4 (j - base)).length, false))) := cf.put1 hra
                have z1 : (fp_put h ra T (rc ba e (s0 + (nb 16 4 (j - base)).length, false))).2 = h.2 := rfl
                have e1 : (fp_put h ra T (rc ba e (s0 + (nb 16 4 (j - base)).length, false))).1 ra = some (T, rc ba e (s0 + (nb 16 4 (j - base)).length, false)) := fp_put_eq
                generalize fp_put h ra T (rc ba e (s0 + (nb 16 4 (j - base)).length, false)) = h2 at c1 z1 e1 ⊢
                refine wp_iadd dX1_readLine_200 ?_
                rw [show nI base + nI (j - base) = nI j by rw [nI_add]; congr 1; omega]
                refine wp_callV (As := [.int (nI j)]) (rest := []) dX1_readLine_201 me_X1_fieldAt cw_X1_154 rfl ⟨(Nat.le_of_ble_eq_true rfl), (Nat.le_of_ble_eq_true rfl)⟩ rfl rfl rfl (Nat.le_of_ble_eq_true rfl) (c1.at hde (kT 4 (Ne.symm hT.1))) (cl_fieldAt (c1.wf w) (c1.at hde (kT 4 (Ne.symm hT.1))) (ht.kept c1 (kT 16 (Ne.symm hT.2.1))) hj1 hj2) (fun r h3 q => ?_)
                obtain ⟨rfl, rfl⟩ := q
                refine wp_aret dX1_readLine_204 rfl (by first | exact Or.inl ⟨_, rfl⟩ | exact Or.inr ⟨_, rfl⟩) (Or.inr ⟨_, rfl⟩) ?_
                exact fin h2 _ c1 z1 e1 rfl
            · exact absurd (nI_lt (b := 32) (show 16 + y < 32 by omega) (by decide)) c_149
          · exact absurd (nI_lt (b := 64) (show 16 + y < 64 by omega) (by decide)) c_65
        · exact absurd (nI_lt (b := 128) (show 16 + y < 128 by omega) (by decide)) c_44
      · exact absurd (nI_lt (b := 192) (show 16 + y < 192 by omega) (by decide)) c_9
  · obtain ⟨hsv, hlen⟩ := litI A hlA
    have hvp := vlb_pos v
    have hkt := (k_txt_tx (f := fun i => xs.getD i 0) (e := e) (n := 7) (F := 0) (u := v) (a := s0 + A.length) (c := false) (by decide) rfl hv hsv).1 (by unfold vlb at hlen; omega)
    rw [show s0 + A.length + (nb 0 7 (bln v) ++ txb v).length = s0 + l.length from hlen] at hkt
    have hsA : sb (fun i => xs.getD i 0) s0 A := by rw [hlA] at hsb; exact hsb.app.1
    have hAe : s0 + A.length ≤ e := by omega
    have fin118 : ∀ (F0 : Nat) (i4 i5 : Int32), (nI F0 &&& 32 = 0 ↔ s = 0) → fp_wp G rm_X1_readLine M_X1_readLine 118 [some (.ref de), some (.ref ra), some (.int (nI base)), some (.int (nI F0)), some (.int i4), some (.int i5), some (.long (lN u)), none] [] (fp_put h ra T (rc ba e (s0 + A.length, false))) (lP h ra ba e T u v s (s0 + l.length)) := by
      intro F0 i4 i5 hbit
      have c1 : cf (fun x => x = T) h (fp_put h ra T (rc ba e (s0 + A.length, false))) := cf.put1 hra
      have z1 : (fp_put h ra T (rc ba e (s0 + A.length, false))).2 = h.2 := rfl
      have r1 := hr.put (s' := (s0 + A.length, false)) (by show s0 + A.length ≤ e; omega)
      generalize fp_put h ra T (rc ba e (s0 + A.length, false)) = h2 at c1 z1 r1 ⊢
      have w1 := c1.wf w
      have r2 := r1.new (e' := .inr (4, [.long 0, .long 0, .int 0])) (t' := 9) (k := 3) w1 (by decide)
      have ea : (fp_new h2 9 (.inr (4, [.long 0, .long 0, .int 0])) 3).1 h2.2.1 = some (9, .inr (4, [.long 0, .long 0, .int 0])) := fp_new_eq
      have c2 : cf (fun x => x = T) h (fp_new h2 9 (.inr (4, [.long 0, .long 0, .int 0])) 3) := c1.trans (cf.new w1 (by decide))
      have z2 : (fp_new h2 9 (.inr (4, [.long 0, .long 0, .int 0])) 3).2.2 = h.2.2 + 3 := by rw [← z1]; rfl
      have hfa : h.2.1 ≤ h2.2.1 := by rw [z1]; exact Nat.le_refl _
      refine wp_new 9 dX1_readLine_118 nw_X1_146 ?_
      refine wp_dup dX1_readLine_121 rfl ?_
      refine wp_lload dX1_readLine_122 rfl ?_
      refine wp_aload_n dX1_readLine_124 rfl ?_
      refine wp_bipush (v := 7) dX1_readLine_125 rfl ?_
      generalize fp_new h2 9 (.inr (4, [.long 0, .long 0, .int 0])) 3 = h3 at r2 ea c2 z2 ⊢
      generalize h2.2.1 = a at ea hfa ⊢
      have hne : a ≠ ra := fun z => by rw [z, r2.1] at ea; cases ea
      refine wp_callV (As := [.int (nI 7)]) (rest := [.long (lN u), .ref a, .ref a]) dX1_readLine_127 me_X6_takeText cw_X1_38 rfl ⟨(Nat.le_of_ble_eq_true rfl), (Nat.le_of_ble_eq_true rfl)⟩ rfl rfl rfl (Nat.le_of_ble_eq_true rfl) r2.1 (cr_txt (by decide) r2) (fun r h4 q => ?_)
      obtain ⟨rfl, rfl⟩ := q
      rw [hkt]
      have ea4 := (fp_put_ne (h := h3) (t := T) (e := rc ba e (s0 + l.length, false)) hne).trans ea
      have c4 : cf (fun x => x = T) h (fp_put h3 ra T (rc ba e (s0 + l.length, false))) := c2.trans (cf.put1 r2.1)
      have out : lP h ra ba e T u v s (s0 + l.length) (some (.ref a)) (fp_put (fp_put h3 ra T (rc ba e (s0 + l.length, false))) a 9 (fO u v s)) := ⟨a, rfl, fp_put_eq, (fp_put_ne (Ne.symm hne)).trans fp_put_eq, c4.fresh w hfa ea4, z2⟩
      refine wp_iload_n dX1_readLine_130 rfl ?_
      refine wp_bipush (v := 32) dX1_readLine_131 rfl ?_
      refine wp_iand dX1_readLine_133 ?_
      refine wp_if_eq (tgt := 141) dX1_readLine_134 rfl (fun c_134 => ?_) (fun c_134 => ?_)
      · have : s = 0 := hbit.mp c_134
        subst this
        refine wp_iconst (v := 0) dX1_readLine_141 rfl ?_
        refine wp_callI (As := [.long (lN u), .long (lN v), .int (nI 0)]) (rest := [.ref a]) dX1_readLine_142 me_X3_init rfl cw_X1_151 rfl ⟨(Nat.le_of_ble_eq_true rfl), (Nat.le_of_ble_eq_true rfl)⟩ rfl rfl rfl (Nat.le_of_ble_eq_true rfl) (cc_fnew (by decide) ea4) (fun r h5 q => ?_)
        obtain ⟨rfl, rfl⟩ := q
        refine wp_aret dX1_readLine_145 rfl (by first | exact Or.inl ⟨_, rfl⟩ | exact Or.inr ⟨_, rfl⟩) (Or.inr ⟨_, rfl⟩) ?_
        exact out
      · have : s = 1 := by
          rcases (show s = 0 ∨ s = 1 by omega) with z | z
          · exact absurd (hbit.mpr z) c_134
          · exact z
        subst this
        refine wp_iconst (v := 1) dX1_readLine_137 rfl ?_
        refine wp_goto (tgt := 142) dX1_readLine_138 rfl ?_
        refine wp_callI (As := [.long (lN u), .long (lN v), .int (nI 1)]) (rest := [.ref a]) dX1_readLine_142 me_X3_init rfl cw_X1_151 rfl ⟨(Nat.le_of_ble_eq_true rfl), (Nat.le_of_ble_eq_true rfl)⟩ rfl rfl rfl (Nat.le_of_ble_eq_true rfl) (cc_fnew (by decide) ea4) (fun r h5 q => ?_)
        obtain ⟨rfl, rfl⟩ := q
        refine wp_aret dX1_readLine_145 rfl (by first | exact Or.inl ⟨_, rfl⟩ | exact Or.inr ⟨_, rfl⟩) (Or.inr ⟨_, rfl⟩) ?_
        exact out
    have fin159 : ∀ (F0 : Nat) (o6 o7 : Option Value), (nI F0 &&& 16 = 0 ↔ s = 0) → fp_wp G rm_X1_readLine M_X1_readLine 159 [some (.ref de), some (.ref ra), some (.int (nI base)), some (.int (nI F0)), some (.long (lN u)), none, o6, o7] [] (fp_put h ra T (rc ba e (s0 + A.length, false))) (lP h ra ba e T u v s (s0 + l.length)) := by
      intro F0 o6 o7 hbit
      have c1 : cf (fun x => x = T) h (fp_put h ra T (rc ba e (s0 + A.length, false))) := cf.put1 hra
      have z1 : (fp_put h ra T (rc ba e (s0 + A.length, false))).2 = h.2 := rfl
      have r1 := hr.put (s' := (s0 + A.length, false)) (by show s0 + A.length ≤ e; omega)
      generalize fp_put h ra T (rc ba e (s0 + A.length, false)) = h2 at c1 z1 r1 ⊢
      have w1 := c1.wf w
      have r2 := r1.new (e' := .inr (4, [.long 0, .long 0, .int 0])) (t' := 9) (k := 3) w1 (by decide)
      have ea : (fp_new h2 9 (.inr (4, [.long 0, .long 0, .int 0])) 3).1 h2.2.1 = some (9, .inr (4, [.long 0, .long 0, .int 0])) := fp_new_eq
      have c2 : cf (fun x => x = T) h (fp_new h2 9 (.inr (4, [.long 0, .long 0, .int 0])) 3) := c1.trans (cf.new w1 (by decide))
      have z2 : (fp_new h2 9 (.inr (4, [.long 0, .long 0, .int 0])) 3).2.2 = h.2.2 + 3 := by rw [← z1]; rfl
      have hfa : h.2.1 ≤ h2.2.1 := by rw [z1]; exact Nat.le_refl _
      refine wp_new 9 dX1_readLine_159 nw_X1_146 ?_
      refine wp_dup dX1_readLine_162 rfl ?_
      refine wp_lload dX1_readLine_163 rfl ?_
      refine wp_aload_n dX1_readLine_165 rfl ?_
      refine wp_bipush (v := 7) dX1_readLine_166 rfl ?_
      generalize fp_new h2 9 (.inr (4, [.long 0, .long 0, .int 0])) 3 = h3 at r2 ea c2 z2 ⊢
      generalize h2.2.1 = a at ea hfa ⊢
      have hne : a ≠ ra := fun z => by rw [z, r2.1] at ea; cases ea
      refine wp_callV (As := [.int (nI 7)]) (rest := [.long (lN u), .ref a, .ref a]) dX1_readLine_168 me_X6_takeText cw_X1_38 rfl ⟨(Nat.le_of_ble_eq_true rfl), (Nat.le_of_ble_eq_true rfl)⟩ rfl rfl rfl (Nat.le_of_ble_eq_true rfl) r2.1 (cr_txt (by decide) r2) (fun r h4 q => ?_)
      obtain ⟨rfl, rfl⟩ := q
      rw [hkt]
      have ea4 := (fp_put_ne (h := h3) (t := T) (e := rc ba e (s0 + l.length, false)) hne).trans ea
      have c4 : cf (fun x => x = T) h (fp_put h3 ra T (rc ba e (s0 + l.length, false))) := c2.trans (cf.put1 r2.1)
      have out : lP h ra ba e T u v s (s0 + l.length) (some (.ref a)) (fp_put (fp_put h3 ra T (rc ba e (s0 + l.length, false))) a 9 (fO u v s)) := ⟨a, rfl, fp_put_eq, (fp_put_ne (Ne.symm hne)).trans fp_put_eq, c4.fresh w hfa ea4, z2⟩
      refine wp_iload_n dX1_readLine_171 rfl ?_
      refine wp_bipush (v := 16) dX1_readLine_172 rfl ?_
      refine wp_iand dX1_readLine_174 ?_
      refine wp_if_eq (tgt := 182) dX1_readLine_175 rfl (fun c_175 => ?_) (fun c_175 => ?_)
      · have : s = 0 := hbit.mp c_175
        subst this
        refine wp_iconst (v := 0) dX1_readLine_182 rfl ?_
        refine wp_callI (As := [.long (lN u), .long (lN v), .int (nI 0)]) (rest := [.ref a]) dX1_readLine_183 me_X3_init rfl cw_X1_151 rfl ⟨(Nat.le_of_ble_eq_true rfl), (Nat.le_of_ble_eq_true rfl)⟩ rfl rfl rfl (Nat.le_of_ble_eq_true rfl) (cc_fnew (by decide) ea4) (fun r h5 q => ?_)
        obtain ⟨rfl, rfl⟩ := q
        refine wp_aret dX1_readLine_186 rfl (by first | exact Or.inl ⟨_, rfl⟩ | exact Or.inr ⟨_, rfl⟩) (Or.inr ⟨_, rfl⟩) ?_
        exact out
      · have : s = 1 := by
          rcases (show s = 0 ∨ s = 1 by omega) with z | z
          · exact absurd (hbit.mpr z) c_175
          · exact z
        subst this
        refine wp_iconst (v := 1) dX1_readLine_178 rfl ?_
        refine wp_goto (tgt := 183) dX1_readLine_179 rfl ?_
        refine wp_callI (As := [.long (lN u), .long (lN v), .int (nI 1)]) (rest := [.ref a]) dX1_readLine_183 me_X3_init rfl cw_X1_151 rfl ⟨(Nat.le_of_ble_eq_true rfl), (Nat.le_of_ble_eq_true rfl)⟩ rfl rfl rfl (Nat.le_of_ble_eq_true rfl) (cc_fnew (by decide) ea4) (fun r h5 q => ?_)
        obtain ⟨rfl, rfl⟩ := q
        refine wp_aret dX1_readLine_186 rfl (by first | exact Or.inl ⟨_, rfl⟩ | exact Or.inr ⟨_, rfl⟩) (Or.inr ⟨_, rfl⟩) ?_
        exact out
    have fin221 : ∀ (F0 : Nat) (o6 o7 : Option Value), (nI F0 &&& 8 = 0 ↔ s = 0) → fp_wp G rm_X1_readLine M_X1_readLine 221 [some (.ref de), some (.ref ra), some (.int (nI base)), some (.int (nI F0)), some (.long (lN u)), none, o6, o7] [] (fp_put h ra T (rc ba e (s0 + A.length, false))) (lP h ra ba e T u v s (s0 + l.length)) := by
      intro F0 o6 o7 hbit
      have c1 : cf (fun x => x = T) h (fp_put h ra T (rc ba e (s0 + A.length, false))) := cf.put1 hra
      have z1 : (fp_put h ra T (rc ba e (s0 + A.length, false))).2 = h.2 := rfl
      have r1 := hr.put (s' := (s0 + A.length, false)) (by show s0 + A.length ≤ e; omega)
      generalize fp_put h ra T (rc ba e (s0 + A.length, false)) = h2 at c1 z1 r1 ⊢
      have w1 := c1.wf w
      have r2 := r1.new (e' := .inr (4, [.long 0, .long 0, .int 0])) (t' := 9) (k := 3) w1 (by decide)
      have ea : (fp_new h2 9 (.inr (4, [.long 0, .long 0, .int 0])) 3).1 h2.2.1 = some (9, .inr (4, [.long 0, .long 0, .int 0])) := fp_new_eq
      have c2 : cf (fun x => x = T) h (fp_new h2 9 (.inr (4, [.long 0, .long 0, .int 0])) 3) := c1.trans (cf.new w1 (by decide))
      have z2 : (fp_new h2 9 (.inr (4, [.long 0, .long 0, .int 0])) 3).2.2 = h.2.2 + 3 := by rw [← z1]; rfl
      have hfa : h.2.1 ≤ h2.2.1 := by rw [z1]; exact Nat.le_refl _
      refine wp_new 9 dX1_readLine_221 nw_X1_146 ?_
      refine wp_dup dX1_readLine_224 rfl ?_
      refine wp_lload dX1_readLine_225 rfl ?_
      refine wp_aload_n dX1_readLine_227 rfl ?_
      refine wp_bipush (v := 7) dX1_readLine_228 rfl ?_
      generalize fp_new h2 9 (.inr (4, [.long 0, .long 0, .int 0])) 3 = h3 at r2 ea c2 z2 ⊢
      generalize h2.2.1 = a at ea hfa ⊢
      have hne : a ≠ ra := fun z => by rw [z, r2.1] at ea; cases ea
      refine wp_callV (As := [.int (nI 7)]) (rest := [.long (lN u), .ref a, .ref a]) dX1_readLine_230 me_X6_takeText cw_X1_38 rfl ⟨(Nat.le_of_ble_eq_true rfl), (Nat.le_of_ble_eq_true rfl)⟩ rfl rfl rfl (Nat.le_of_ble_eq_true rfl) r2.1 (cr_txt (by decide) r2) (fun r h4 q => ?_)
      obtain ⟨rfl, rfl⟩ := q
      rw [hkt]
      have ea4 := (fp_put_ne (h := h3) (t := T) (e := rc ba e (s0 + l.length, false)) hne).trans ea
      have c4 : cf (fun x => x = T) h (fp_put h3 ra T (rc ba e (s0 + l.length, false))) := c2.trans (cf.put1 r2.1)
      have out : lP h ra ba e T u v s (s0 + l.length) (some (.ref a)) (fp_put (fp_put h3 ra T (rc ba e (s0 + l.length, false))) a 9 (fO u v s)) := ⟨a, rfl, fp_put_eq, (fp_put_ne (Ne.symm hne)).trans fp_put_eq, c4.fresh w hfa ea4, z2⟩
      refine wp_iload_n dX1_readLine_233 rfl ?_
      refine wp_bipush (v := 8) dX1_readLine_234 rfl ?_
      refine wp_iand dX1_readLine_236 ?_
      refine wp_if_eq (tgt := 244) dX1_readLine_237 rfl (fun c_237 => ?_) (fun c_237 => ?_)
      · have : s = 0 := hbit.mp c_237
        subst this
        refine wp_iconst (v := 0) dX1_readLine_244 rfl ?_
        refine wp_callI (As := [.long (lN u), .long (lN v), .int (nI 0)]) (rest := [.ref a]) dX1_readLine_245 me_X3_init rfl cw_X1_151 rfl ⟨(Nat.le_of_ble_eq_true rfl), (Nat.le_of_ble_eq_true rfl)⟩ rfl rfl rfl (Nat.le_of_ble_eq_true rfl) (cc_fnew (by decide) ea4) (fun r h5 q => ?_)
        obtain ⟨rfl, rfl⟩ := q
        refine wp_aret dX1_readLine_248 rfl (by first | exact Or.inl ⟨_, rfl⟩ | exact Or.inr ⟨_, rfl⟩) (Or.inr ⟨_, rfl⟩) ?_
        exact out
      · have : s = 1 := by
          rcases (show s = 0 ∨ s = 1 by omega) with z | z
          · exact absurd (hbit.mpr z) c_237
          · exact z
        subst this
        refine wp_iconst (v := 1) dX1_readLine_240 rfl ?_
        refine wp_goto (tgt := 245) dX1_readLine_241 rfl ?_
        refine wp_callI (As := [.long (lN u), .long (lN v), .int (nI 1)]) (rest := [.ref a]) dX1_readLine_245 me_X3_init rfl cw_X1_151 rfl ⟨(Nat.le_of_ble_eq_true rfl), (Nat.le_of_ble_eq_true rfl)⟩ rfl rfl rfl (Nat.le_of_ble_eq_true rfl) (cc_fnew (by decide) ea4) (fun r h5 q => ?_)
        obtain ⟨rfl, rfl⟩ := q
        refine wp_aret dX1_readLine_248 rfl (by first | exact Or.inl ⟨_, rfl⟩ | exact Or.inr ⟨_, rfl⟩) (Or.inr ⟨_, rfl⟩) ?_
        exact out
    rcases hA with ⟨k, hk, rfl, rfl⟩ | ⟨j, hj1, hj2, rfl, hjb, rfl⟩ | ⟨j, hj1, hj2, rfl, hjb, rfl⟩ | rfl
    · have h0 : xs.getD s0 0 = 80 + 32 * s + min k 15 := nb_first (l := []) (by rw [List.append_nil]; exact hsA)
      rw [Nat.min_eq_left (by omega)] at h0
      have hkn := (k_num_nb (f := fun i => xs.getD i 0) (e := e) (n := 4) (F := 80 + 32 * s) (v := k) (a := s0) (c := false) (by decide) (by omega) (by omega) hsA).1 hAe
      have tt := tst1 s (by omega) k hk
      rw [h0]
      generalize hF0 : 80 + 32 * s + k = F0 at tt
      refine wp_istore_n dX1_readLine_4 (Nat.le_of_ble_eq_true rfl) rfl ?_
      refine wp_iload_n dX1_readLine_5 rfl ?_
      refine wp_sipush (v := 192) dX1_readLine_6 rfl ?_
      refine wp_icmp_lt (tgt := 40) dX1_readLine_9 rfl (fun c_9 => ?_) (fun c_9 => ?_)
      · refine wp_iload_n dX1_readLine_40 rfl ?_
        refine wp_sipush (v := 128) dX1_readLine_41 rfl ?_
        refine wp_icmp_lt (tgt := 62) dX1_readLine_44 rfl (fun c_44 => ?_) (fun c_44 => ?_)
        · refine wp_iload_n dX1_readLine_62 rfl ?_
          refine wp_bipush (v := 64) dX1_readLine_63 rfl ?_
          refine wp_icmp_lt (tgt := 146) dX1_readLine_65 rfl (fun c_65 => ?_) (fun c_65 => ?_)
          · have := (nI_ltI (b := 64) (by omega) (by decide)).mp c_65
            omega
          · refine wp_iload_n dX1_readLine_68 rfl ?_
            refine wp_bipush (v := 16) dX1_readLine_69 rfl ?_
            refine wp_iand dX1_readLine_71 ?_
            refine wp_if_eq (tgt := 79) dX1_readLine_72 rfl (fun c_72 => ?_) (fun c_72 => ?_)
            · exact absurd c_72 tt.1
            · refine wp_iconst (v := 1) dX1_readLine_75 rfl ?_
              refine wp_goto (tgt := 80) dX1_readLine_76 rfl ?_
              refine wp_istore dX1_readLine_80 (Nat.le_of_ble_eq_true rfl) rfl ?_
              refine wp_aload_n dX1_readLine_82 rfl ?_
              refine wp_iconst (v := 4) dX1_readLine_83 rfl ?_
              refine wp_callV (As := [.int (nI 4)]) (rest := []) dX1_readLine_84 me_X6_takeNumber cw_X1_56 rfl ⟨(Nat.le_of_ble_eq_true rfl), (Nat.le_of_ble_eq_true rfl)⟩ rfl rfl rfl (Nat.le_of_ble_eq_true rfl) hra (cr_num (by decide) hr) (fun r h2 q => ?_)
              obtain ⟨rfl, rfl⟩ := q
              rw [hkn]
              refine wp_istore dX1_readLine_87 (Nat.le_of_ble_eq_true rfl) rfl ?_
              refine wp_iload dX1_readLine_89 rfl ?_
              refine wp_if_eq (tgt := 103) dX1_readLine_91 rfl (fun c_91 => ?_) (fun c_91 => ?_)
              · exact absurd c_91 (by decide)
              · refine wp_bipush (v := 97) dX1_readLine_94 rfl ?_
                refine wp_iload dX1_readLine_96 rfl ?_
                refine wp_iadd dX1_readLine_98 ?_
                rw [show (97 : Int32) + nI k = nI (97 + k) from nI_add 97 k]
                refine wp_i2l dX1_readLine_99 ?_
                refine wp_goto (tgt := 116) dX1_readLine_100 rfl ?_
                rw [nI_l (by omega)]
                refine wp_lstore dX1_readLine_116 (Nat.le_of_ble_eq_true rfl) rfl ?_
                exact fin118 F0 1 (nI k) tt.2
        · exact absurd (nI_lt (b := 128) (show F0 < 128 by omega) (by decide)) c_44
      · exact absurd (nI_lt (b := 192) (show F0 < 192 by omega) (by decide)) c_9
    · have h0 : xs.getD s0 0 = 64 + 32 * s + min (base - 1 - j) 15 := nb_first (l := []) (by rw [List.append_nil]; exact hsA)
      have hm : min (base - 1 - j) 15 < 16 := by omega
      have hkn := (k_num_nb (f := fun i => xs.getD i 0) (e := e) (n := 4) (F := 64 + 32 * s) (v := base - 1 - j) (a := s0) (c := false) (by decide) (by omega) (by omega) hsA).1 hAe
      have tt := tst2 s (by omega) _ hm
      rw [h0]
      generalize hF0 : 64 + 32 * s + min (base - 1 - j) 15 = F0 at tt
      refine wp_istore_n dX1_readLine_4 (Nat.le_of_ble_eq_true rfl) rfl ?_
      refine wp_iload_n dX1_readLine_5 rfl ?_
      refine wp_sipush (v := 192) dX1_readLine_6 rfl ?_
      refine wp_icmp_lt (tgt := 40) dX1_readLine_9 rfl (fun c_9 => ?_) (fun c_9 => ?_)
      · refine wp_iload_n dX1_readLine_40 rfl ?_
        refine wp_sipush (v := 128) dX1_readLine_41 rfl ?_
        refine wp_icmp_lt (tgt := 62) dX1_readLine_44 rfl (fun c_44 => ?_) (fun c_44 => ?_)
        · refine wp_iload_n dX1_readLine_62 rfl ?_
          refine wp_bipush (v := 64) dX1_readLine_63 rfl ?_
          refine wp_icmp_lt (tgt := 146) dX1_readLine_65 rfl (fun c_65 => ?_) (fun c_65 => ?_)
          · have := (nI_ltI (b := 64) (by omega) (by decide)).mp c_65
            omega
          · refine wp_iload_n dX1_readLine_68 rfl ?_
            refine wp_bipush (v := 16) dX1_readLine_69 rfl ?_
            refine wp_iand dX1_readLine_71 ?_
            refine wp_if_eq (tgt := 79) dX1_readLine_72 rfl (fun c_72 => ?_) (fun c_72 => ?_)
            · refine wp_iconst (v := 0) dX1_readLine_79 rfl ?_
              refine wp_istore dX1_readLine_80 (Nat.le_of_ble_eq_true rfl) rfl ?_
              refine wp_aload_n dX1_readLine_82 rfl ?_
              refine wp_iconst (v := 4) dX1_readLine_83 rfl ?_
              refine wp_callV (As := [.int (nI 4)]) (rest := []) dX1_readLine_84 me_X6_takeNumber cw_X1_56 rfl ⟨(Nat.le_of_ble_eq_true rfl), (Nat.le_of_ble_eq_true rfl)⟩ rfl rfl rfl (Nat.le_of_ble_eq_true rfl) hra (cr_num (by decide) hr) (fun r h2 q => ?_)
              obtain ⟨rfl, rfl⟩ := q
              rw [hkn]
              have c1 : cf (fun x => x = T) h (fp_put h ra T (rc ba e (s0 + (nb (64 + 32 * s) 4 (base - 1 - j)).length, false))) := cf.put1 hra
              refine wp_istore dX1_readLine_87 (Nat.le_of_ble_eq_true rfl) rfl ?_
              refine wp_iload dX1_readLine_89 rfl ?_
              refine wp_if_eq (tgt := 103) dX1_readLine_91 rfl (fun c_91 => ?_) (fun c_91 => ?_)
              · refine wp_aload_n dX1_readLine_103 rfl ?_
                refine wp_getf dX1_readLine_104 fl_X1_14 (c1.at hde (kT 4 (Ne.symm hT.1))) rfl ?_
                refine wp_iload_n dX1_readLine_107 rfl ?_
                refine wp_iconst (v := 1) dX1_readLine_108 rfl ?_
                refine wp_isub dX1_readLine_109 ?_
                rw [nI_sub1 (by omega)]
                refine wp_iload dX1_readLine_110 rfl ?_
                refine wp_isub dX1_readLine_112 ?_
                rw [show nI (base - 1) - nI (base - 1 - j) = nI j by rw [pk_sub (by omega)]; congr 1; omega]
                refine wp_callV (As := [.int (nI j)]) (rest := []) dX1_readLine_113 me_X8_nameAt cw_X1_63 rfl ⟨(Nat.le_of_ble_eq_true rfl), (Nat.le_of_ble_eq_true rfl)⟩ rfl rfl rfl (Nat.le_of_ble_eq_true rfl) (c1.at a1 (kT 16 (Ne.symm hT.2.1))) (cc_nameIn (ht.kept c1 (kT 16 (Ne.symm hT.2.1))) hj1 hj2) (fun r h3 q => ?_)
                obtain ⟨q0, rfl⟩ := q
                rw [q0]
                refine wp_lstore dX1_readLine_116 (Nat.le_of_ble_eq_true rfl) rfl ?_
                exact fin118 F0 0 (nI (base - 1 - j)) tt.2
              · exact absurd rfl c_91
            · exact absurd tt.1 c_72
        · exact absurd (nI_lt (b := 128) (show F0 < 128 by omega) (by decide)) c_44
      · exact absurd (nI_lt (b := 192) (show F0 < 192 by omega) (by decide)) c_9
    · have h0 : xs.getD s0 0 = 8 * s + min (j - base) 7 := nb_first (l := []) (by rw [List.append_nil]; exact hsA)
      have hm : min (j - base) 7 < 8 := by omega
      have hkn := (k_num_nb (f := fun i => xs.getD i 0) (e := e) (n := 3) (F := 8 * s) (v := j - base) (a := s0) (c := false) (by decide) (by omega) (by omega) hsA).1 hAe
      have tt := tst4 s (by omega) _ hm
      rw [h0]
      generalize hF0 : 8 * s + min (j - base) 7 = F0 at tt
      refine wp_istore_n dX1_readLine_4 (Nat.le_of_ble_eq_true rfl) rfl ?_
      refine wp_iload_n dX1_readLine_5 rfl ?_
      refine wp_sipush (v := 192) dX1_readLine_6 rfl ?_
      refine wp_icmp_lt (tgt := 40) dX1_readLine_9 rfl (fun c_9 => ?_) (fun c_9 => ?_)
      · refine wp_iload_n dX1_readLine_40 rfl ?_
        refine wp_sipush (v := 128) dX1_readLine_41 rfl ?_
        refine wp_icmp_lt (tgt := 62) dX1_readLine_44 rfl (fun c_44 => ?_) (fun c_44 => ?_)
        · refine wp_iload_n dX1_readLine_62 rfl ?_
          refine wp_bipush (v := 64) dX1_readLine_63 rfl ?_
          refine wp_icmp_lt (tgt := 146) dX1_readLine_65 rfl (fun c_65 => ?_) (fun c_65 => ?_)
          · refine wp_iload_n dX1_readLine_146 rfl ?_
            refine wp_bipush (v := 32) dX1_readLine_147 rfl ?_
            refine wp_icmp_lt (tgt := 187) dX1_readLine_149 rfl (fun c_149 => ?_) (fun c_149 => ?_)
            · refine wp_iload_n dX1_readLine_187 rfl ?_
              refine wp_bipush (v := 16) dX1_readLine_188 rfl ?_
              refine wp_icmp_lt (tgt := 205) dX1_readLine_190 rfl (fun c_190 => ?_) (fun c_190 => ?_)
              · refine wp_aload_n dX1_readLine_205 rfl ?_
                refine wp_getf dX1_readLine_206 fl_X1_14 hde rfl ?_
                refine wp_iload_n dX1_readLine_209 rfl ?_
                refine wp_aload_n dX1_readLine_210 rfl ?_
                refine wp_iconst (v := 3) dX1_readLine_211 rfl ?_
                refine wp_callV (As := [.int (nI 3)]) (rest := [.int (nI base), .ref td]) dX1_readLine_212 me_X6_takeNumber cw_X1_56 rfl ⟨(Nat.le_of_ble_eq_true rfl), (Nat.le_of_ble_eq_true rfl)⟩ rfl rfl rfl (Nat.le_of_ble_eq_true rfl) hra (cr_num (by decide) hr) (fun r h2 q => ?_)
                obtain ⟨rfl, rfl⟩ := q
                rw [hkn]
                have c1 : cf (fun x => x = T) h (fp_put h ra T (rc ba e (s0 + (nb (8 * s) 3 (j - base)).length, false))) := cf.put1 hra
                refine wp_iadd dX1_readLine_215 ?_
                rw [show nI base + nI (j - base) = nI j by rw [nI_add]; congr 1; omega]
                refine wp_callV (As := [.int (nI j)]) (rest := []) dX1_readLine_216 me_X8_nameAt cw_X1_63 rfl ⟨(Nat.le_of_ble_eq_true rfl), (Nat.le_of_ble_eq_true rfl)⟩ rfl rfl rfl (Nat.le_of_ble_eq_true rfl) (c1.at a1 (kT 16 (Ne.symm hT.2.1))) (cc_nameIn (ht.kept c1 (kT 16 (Ne.symm hT.2.1))) hj1 hj2) (fun r h3 q => ?_)
                obtain ⟨q0, rfl⟩ := q
                rw [q0]
                refine wp_lstore dX1_readLine_219 (Nat.le_of_ble_eq_true rfl) rfl ?_
                exact fin221 F0 _ _ tt
              · exact absurd (nI_lt (b := 16) (show F0 < 16 by omega) (by decide)) c_190
            · exact absurd (nI_lt (b := 32) (show F0 < 32 by omega) (by decide)) c_149
          · exact absurd (nI_lt (b := 64) (show F0 < 64 by omega) (by decide)) c_65
        · exact absurd (nI_lt (b := 128) (show F0 < 128 by omega) (by decide)) c_44
      · exact absurd (nI_lt (b := 192) (show F0 < 192 by omega) (by decide)) c_9
    · have hb8 := bln_le u
      have h0 : xs.getD s0 0 = 32 + 16 * s + min (bln u) 7 := nb_first hsA
      have hm : min (bln u) 7 < 8 := by omega
      have hkn := (k_txt_tx (f := fun i => xs.getD i 0) (e := e) (n := 3) (F := 32 + 16 * s) (u := u) (a := s0) (c := false) (by decide) (by omega) hu hsA).1 hAe
      have tt := tst3 s (by omega) _ hm
      rw [h0]
      generalize hF0 : 32 + 16 * s + min (bln u) 7 = F0 at tt
      refine wp_istore_n dX1_readLine_4 (Nat.le_of_ble_eq_true rfl) rfl ?_
      refine wp_iload_n dX1_readLine_5 rfl ?_
      refine wp_sipush (v := 192) dX1_readLine_6 rfl ?_
      refine wp_icmp_lt (tgt := 40) dX1_readLine_9 rfl (fun c_9 => ?_) (fun c_9 => ?_)
      · refine wp_iload_n dX1_readLine_40 rfl ?_
        refine wp_sipush (v := 128) dX1_readLine_41 rfl ?_
        refine wp_icmp_lt (tgt := 62) dX1_readLine_44 rfl (fun c_44 => ?_) (fun c_44 => ?_)
        · refine wp_iload_n dX1_readLine_62 rfl ?_
          refine wp_bipush (v := 64) dX1_readLine_63 rfl ?_
          refine wp_icmp_lt (tgt := 146) dX1_readLine_65 rfl (fun c_65 => ?_) (fun c_65 => ?_)
          · refine wp_iload_n dX1_readLine_146 rfl ?_
            refine wp_bipush (v := 32) dX1_readLine_147 rfl ?_
            refine wp_icmp_lt (tgt := 187) dX1_readLine_149 rfl (fun c_149 => ?_) (fun c_149 => ?_)
            · have := (nI_ltI (b := 32) (by omega) (by decide)).mp c_149
              omega
            · refine wp_aload_n dX1_readLine_152 rfl ?_
              refine wp_iconst (v := 3) dX1_readLine_153 rfl ?_
              refine wp_callV (As := [.int (nI 3)]) (rest := []) dX1_readLine_154 me_X6_takeText cw_X1_38 rfl ⟨(Nat.le_of_ble_eq_true rfl), (Nat.le_of_ble_eq_true rfl)⟩ rfl rfl rfl (Nat.le_of_ble_eq_true rfl) hra (cr_txt (by decide) hr) (fun r h2 q => ?_)
              obtain ⟨rfl, rfl⟩ := q
              rw [hkn]
              refine wp_lstore dX1_readLine_157 (Nat.le_of_ble_eq_true rfl) rfl ?_
              exact fin159 F0 _ _ tt
          · exact absurd (nI_lt (b := 64) (show F0 < 64 by omega) (by decide)) c_65
        · exact absurd (nI_lt (b := 128) (show F0 < 128 by omega) (by decide)) c_44
      · exact absurd (nI_lt (b := 192) (show F0 < 192 by omega) (by decide)) c_9
end CL
