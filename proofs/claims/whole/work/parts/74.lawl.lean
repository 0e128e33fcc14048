/-! the law: its loop, and its start -/
theorem and15x (x : Int32) : ∃ k, k < 16 ∧ x &&& 15 = nI k := by
  refine ⟨(x &&& 15).toBitVec.toNat, ?_, ?_⟩
  · have : (x &&& 15).toBitVec = x.toBitVec &&& 15#32 := rfl
    rw [this, BitVec.toNat_and]
    exact Nat.lt_of_le_of_lt Nat.and_le_right (by decide)
  · apply Int32.toBitVec_inj.mp
    show _ = (Int32.ofNat _).toBitVec
    rw [Int32.toBitVec_ofNat']
    simp
section LW
variable {G : fp_G} {o : Nat} {A la : Nat → Nat} {mm B NB SB : Nat}
/-- the law answers 1, and both objects still stand for one state -/
def LQ (G : fp_G) (o : Nat) (A la : Nat → Nat) (mm B NB SB : Nat) : Option Value → fp_H → Prop := fun r h => r = some (.int 1) ∧ ∃ p c, c ≤ 513 ∧ ST G h o A la mm p B NB SB c
theorem law_loop (hG : G.2.2.2.1 3 ≤ 3074) : ∀ (g c : Nat) (h : fp_H) (p : rs), c + g = 513 → 6 * c ≤ G.2.2.2.1 3 → ST G h o A la mm p B NB SB c → fp_wp G rm_L_law M_L_law 38 [some (.ref (G.2.2.2.1 2)), some (.ref o), some (.ref mm), some (.int (nI (2 + 6 * c)))] [] h (LQ G o A la mm B NB SB) := by
  intro g
  induction g with
  | zero => intro c h p h1 h2 _; omega
  | succ g ih =>
    intro c h p h1 h2 st
    have tI : ∀ n : Nat, n < 2 ^ 20 → (nI n).toInt = (n : Int) := fun n hn => nI_toInt (by omega)
    have sub : (nI (G.2.2.2.1 3) - 6).toInt = (G.2.2.2.1 3 : Int) - 6 := i32_sub (tI _ (by omega)) (show (6 : Int32).toInt = 6 from rfl) (by omega) (by omega)
    refine wp_iload_n dL_law_38 rfl ?_
    refine wp_aload_n dL_law_39 rfl ?_
    refine wp_alenS dL_law_40 ?_
    refine wp_bipush (v := 6) dL_law_41 rfl ?_
    refine wp_isub dL_law_43 ?_
    refine wp_icmp_gt (tgt := 566) dL_law_44 rfl (fun c_44 => ?_) (fun c_44 => ?_)
    · refine wp_iconst (v := 1) dL_law_566 rfl ?_
      refine wp_iret dL_law_567 rfl rfl ?_
      exact ⟨rfl, p, c, by omega, st⟩
    · have hin : 2 + 6 * c + 6 ≤ G.2.2.2.1 3 := by
        rw [Int32.lt_iff_toInt_lt, sub, tI _ (by omega)] at c_44
        omega
      have nx : NX G o A la mm B NB SB c (2 + 6 * c) (LQ G o A la mm B NB SB) := by
        intro h' p' st'
        refine wp_iinc dL_law_560 rfl rfl ?_
        refine wp_goto (tgt := 38) dL_law_563 rfl ?_
        rw [show nI (2 + 6 * c) + Int32.ofInt 6 = nI (2 + 6 * (c + 1)) from nI_add _ 6]
        exact ih (c + 1) h' p' (by omega) (by omega) st'
      have i0 : vp_in (nI (2 + 6 * c)) (G.2.2.2.1 3) := vp_in_nI (by omega) (by omega)
      have hc : c ≤ 512 := by omega
      refine wp_aload_n dL_law_47 rfl ?_
      refine wp_iload_n dL_law_48 rfl ?_
      refine wp_ialdS dL_law_49 i0 ?_
      refine wp_bipush (v := 15) dL_law_50 rfl ?_
      refine wp_iand dL_law_52 ?_
      obtain ⟨k, hk, ek⟩ := and15x (G.2.2.2.2 (nI (2 + 6 * c)).toNatClampNeg)
      rw [ek]
      rcases (show k = 0 ∨ k = 1 ∨ k = 2 ∨ k = 3 ∨ k = 4 ∨ k = 5 ∨ k = 6 ∨ k = 7 ∨ k = 8 ∨ k = 9 ∨ k = 10 ∨ k = 11 ∨ 12 ≤ k by omega) with rfl | rfl | rfl | rfl | rfl | rfl | rfl | rfl | rfl | rfl | rfl | rfl | hk12
      · exact wp_tableIn (tgt := 116) dL_law_53 (by decide) (by decide) rfl rfl (l_field st hin hG nx)
      · exact wp_tableIn (tgt := 235) dL_law_53 (by decide) (by decide) rfl rfl (l_encode st hc hin hG nx)
      · exact wp_tableIn (tgt := 258) dL_law_53 (by decide) (by decide) rfl rfl (l_move st hc hin hG nx)
      · exact wp_tableIn (tgt := 291) dL_law_53 (by decide) (by decide) rfl rfl (l_deliver st hc hin hG nx)
      · exact wp_tableIn (tgt := 314) dL_law_53 (by decide) (by decide) rfl rfl (l_increment st hc nx)
      · exact wp_tableIn (tgt := 327) dL_law_53 (by decide) (by decide) rfl rfl (l_cancel st hc hin hG nx)
      · exact wp_tableIn (tgt := 350) dL_law_53 (by decide) (by decide) rfl rfl (l_waiting st hc hin hG nx)
      · exact wp_tableIn (tgt := 373) dL_law_53 (by decide) (by decide) rfl rfl (l_look st hc hin hG nx)
      · exact wp_tableIn (tgt := 406) dL_law_53 (by decide) (by decide) rfl rfl (l_told st hc hin hG nx)
      · exact wp_tableIn (tgt := 439) dL_law_53 (by decide) (by decide) rfl rfl (l_entry st hc hin hG nx)
      · exact wp_tableIn (tgt := 483) dL_law_53 (by decide) (by decide) rfl rfl (l_sections st hc hin hG nx)
      · exact wp_tableIn (tgt := 506) dL_law_53 (by decide) (by decide) rfl rfl (l_decoded st hc hin hG nx)
      · refine wp_tableOut (tgt := 560) dL_law_53 (Or.inr ?_) rfl (nx h p st.same)
        rw [tI k (by omega)]
        omega
end LW
