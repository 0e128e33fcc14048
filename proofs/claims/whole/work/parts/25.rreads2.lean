/-! the reference: told, entry, decoded -/
/-- told: what an end e says of what w -/
def r_says1 (p : rs) (e w : Nat) : Int32 := if e = 0 then (if w = 0 then nI (p.1 6) else if w = 1 then nI (p.1 6 - p.1 10) else if w = 2 then nI (p.1 11) else if w = 3 then nI (p.1 12) else if w = 4 then nI (r_opTo p (p.1 28)) else nI (r_atRisk p))
  else (if w = 0 then nI (p.1 24) else if w = 1 then nI (p.1 24 - p.1 25) else if w = 2 then nI (p.1 26) else if w = 3 then nI (r_wtTo p false 8) else if w = 4 then nI (r_wtTo p true 8) else -1)
theorem nI_iff {x : Int32} {n : Nat} (h0 : ¬ x < 0) (h : ¬ nI n < x) (hn : n < 2 ^ 31) : ∃ j, j ≤ n ∧ x = nI j := by
  obtain ⟨j, hj, rfl⟩ := nI_of h0
  refine ⟨j, ?_, rfl⟩
  rcases Nat.lt_or_ge n j with q | q
  · exact absurd (nI_lt q hj) h
  · exact q
section RS
variable {G : fp_G} {h0 : fp_H} {m : Nat}
theorem ct_told {p : rs} {x y : Int32} (ok : rok p) (hc : p.1 28 ≤ 200) (h10 : p.1 10 ≤ p.1 6) (h25 : p.1 25 ≤ p.1 24) : fp_ct G rm_X11_told M_X11_told [.ref m, .int x, .int y] (r_hp h0 m p) (fun r h' => h' = r_hp h0 m p ∧ (((¬ ∃ e w, e ≤ 1 ∧ w ≤ 5 ∧ x = nI e ∧ y = nI w) ∧ r = some (.int (-1))) ∨ ∃ e w, e ≤ 1 ∧ w ≤ 5 ∧ x = nI e ∧ y = nI w ∧ r = some (.int (r_says1 p e w)))) := by
  refine fp_meth pn_X11 (Nat.le_of_ble_eq_true rfl) rfl ?_
  refine wp_eqL (L' := [some (.ref m), some (.int x), some (.int y)]) rfl ?_
  refine wp_iload_n dX11_told_0 rfl ?_
  refine wp_if_lt (tgt := 9) dX11_told_1 rfl (fun c_1 => ?_) (fun c_1 => ?_)
  · refine wp_iconst (v := (-1)) dX11_told_9 rfl ?_
    refine wp_iret dX11_told_10 rfl rfl ?_
    refine ⟨rfl, Or.inl ⟨?_, rfl⟩⟩
    rintro ⟨e, w, he, hw, rfl, rfl⟩
    exact nI_pos (by omega) c_1
  · refine wp_iload_n dX11_told_4 rfl ?_
    refine wp_iconst (v := 1) dX11_told_5 rfl ?_
    refine wp_icmp_le (tgt := 11) dX11_told_6 rfl (fun c_6 => ?_) (fun c_6 => ?_)
    · obtain ⟨e, he, rfl⟩ : ∃ e : Nat, e ≤ 1 ∧ x = nI e := by
        obtain ⟨j, hj, rfl⟩ := nI_of c_1
        exact ⟨j, (nI_leI (b := 1) hj (by decide)).mp c_6, rfl⟩
      refine wp_iload_n dX11_told_11 rfl ?_
      by_cases hy : ∃ w : Nat, w ≤ 5 ∧ y = nI w
      · obtain ⟨w, hw, rfl⟩ := hy
        have hti : (nI w).toInt = (w : Int) := nI_toInt (by omega)
        have h1 : ¬ (nI w).toInt < 0 := by omega
        have h2 : ¬ (5 : Int) < (nI w).toInt := by omega
        have good : ∀ v : Int32, v = r_says1 p e w → (fun r h' => h' = r_hp h0 m p ∧ (((¬ ∃ e' w', e' ≤ 1 ∧ w' ≤ 5 ∧ nI e = nI e' ∧ nI w = nI w') ∧ r = some (.int (-1))) ∨ ∃ e' w', e' ≤ 1 ∧ w' ≤ 5 ∧ nI e = nI e' ∧ nI w = nI w' ∧ r = some (Value.int (r_says1 p e' w')))) (some (Value.int v)) (r_hp h0 m p) := by
          intro v hv
          exact ⟨rfl, Or.inr ⟨e, w, he, hw, rfl, rfl, by rw [hv]⟩⟩
        rcases (show e = 0 ∨ e = 1 by omega) with rfl | rfl
        · rcases (show w = 0 ∨ w = 1 ∨ w = 2 ∨ w = 3 ∨ w = 4 ∨ w = 5 by omega) with rfl | rfl | rfl | rfl | rfl | rfl
          · refine wp_tableIn (tgt := 52) dX11_told_12 h1 h2 (off := 40) rfl rfl ?_
            refine wp_iload_n dX11_told_52 rfl ?_
            refine wp_if_ne (tgt := 63) dX11_told_53 rfl (fun c_53 => ?_) (fun c_53 => ?_)
            · exact absurd rfl c_53
            · refine wp_aload_n dX11_told_56 rfl ?_
              refine wr_geti 6 dX11_told_57 fl_X11_137 ⟨by decide, rfl⟩ ?_
              refine wp_goto (tgt := 67) dX11_told_60 rfl ?_
              refine wp_iret dX11_told_67 rfl rfl ?_
              exact good _ rfl
          · refine wp_tableIn (tgt := 68) dX11_told_12 h1 h2 (off := 56) rfl rfl ?_
            refine wp_iload_n dX11_told_68 rfl ?_
            refine wp_if_ne (tgt := 84) dX11_told_69 rfl (fun c_69 => ?_) (fun c_69 => ?_)
            · exact absurd rfl c_69
            · refine wp_aload_n dX11_told_72 rfl ?_
              refine wr_geti 6 dX11_told_73 fl_X11_137 ⟨by decide, rfl⟩ ?_
              refine wp_aload_n dX11_told_76 rfl ?_
              refine wr_geti 10 dX11_told_77 fl_X11_140 ⟨by decide, rfl⟩ ?_
              refine wp_isub dX11_told_80 ?_
              rw [pk_sub h10]
              refine wp_goto (tgt := 93) dX11_told_81 rfl ?_
              refine wp_iret dX11_told_93 rfl rfl ?_
              exact good _ rfl
          · refine wp_tableIn (tgt := 94) dX11_told_12 h1 h2 (off := 82) rfl rfl ?_
            refine wp_iload_n dX11_told_94 rfl ?_
            refine wp_if_ne (tgt := 105) dX11_told_95 rfl (fun c_95 => ?_) (fun c_95 => ?_)
            · exact absurd rfl c_95
            · refine wp_aload_n dX11_told_98 rfl ?_
              refine wr_geti 11 dX11_told_99 fl_X11_153 ⟨by decide, rfl⟩ ?_
              refine wp_goto (tgt := 109) dX11_told_102 rfl ?_
              refine wp_iret dX11_told_109 rfl rfl ?_
              exact good _ rfl
          · refine wp_tableIn (tgt := 110) dX11_told_12 h1 h2 (off := 98) rfl rfl ?_
            refine wp_iload_n dX11_told_110 rfl ?_
            refine wp_if_ne (tgt := 133) dX11_told_111 rfl (fun c_111 => ?_) (fun c_111 => ?_)
            · exact absurd rfl c_111
            · refine wp_iload_n dX11_told_114 rfl ?_
              refine wp_iconst (v := 3) dX11_told_115 rfl ?_
              refine wp_icmp_ne (tgt := 126) dX11_told_116 rfl (fun c_116 => ?_) (fun c_116 => ?_)
              · exact absurd rfl c_116
              · refine wp_aload_n dX11_told_119 rfl ?_
                refine wr_geti 12 dX11_told_120 fl_X11_146 ⟨by decide, rfl⟩ ?_
                refine wp_goto (tgt := 151) dX11_told_123 rfl ?_
                refine wp_iret dX11_told_151 rfl rfl ?_
                exact good _ rfl
          · refine wp_tableIn (tgt := 110) dX11_told_12 h1 h2 (off := 98) rfl rfl ?_
            refine wp_iload_n dX11_told_110 rfl ?_
            refine wp_if_ne (tgt := 133) dX11_told_111 rfl (fun c_111 => ?_) (fun c_111 => ?_)
            · exact absurd rfl c_111
            · refine wp_iload_n dX11_told_114 rfl ?_
              refine wp_iconst (v := 3) dX11_told_115 rfl ?_
              refine wp_icmp_ne (tgt := 126) dX11_told_116 rfl (fun c_116 => ?_) (fun c_116 => ?_)
              · refine wp_aload_n dX11_told_126 rfl ?_
                refine wp_callV (As := []) (rest := []) dX11_told_127 me_X11_opens cw_X11_247 rfl ⟨(Nat.le_of_ble_eq_true rfl), (Nat.le_of_ble_eq_true rfl)⟩ rfl rfl rfl (Nat.le_of_ble_eq_true rfl) r_at_m (ct_opens ok hc) (fun r h1 q => ?_)
                obtain ⟨rfl, rfl⟩ := q
                refine wp_goto (tgt := 151) dX11_told_130 rfl ?_
                refine wp_iret dX11_told_151 rfl rfl ?_
                exact good _ rfl
              · exact absurd c_116 (by decide)
          · refine wp_tableIn (tgt := 152) dX11_told_12 h1 h2 (off := 140) rfl rfl ?_
            refine wp_iload_n dX11_told_152 rfl ?_
            refine wp_if_ne (tgt := 163) dX11_told_153 rfl (fun c_153 => ?_) (fun c_153 => ?_)
            · exact absurd rfl c_153
            · refine wp_aload_n dX11_told_156 rfl ?_
              refine wp_callV (As := []) (rest := []) dX11_told_157 me_X11_atRisk cw_X11_199 rfl ⟨(Nat.le_of_ble_eq_true rfl), (Nat.le_of_ble_eq_true rfl)⟩ rfl rfl rfl (Nat.le_of_ble_eq_true rfl) r_at_m (ct_atRisk ok hc) (fun r h1 q => ?_)
              obtain ⟨rfl, rfl⟩ := q
              refine wp_goto (tgt := 164) dX11_told_160 rfl ?_
              refine wp_iret dX11_told_164 rfl rfl ?_
              exact good _ rfl
        · rcases (show w = 0 ∨ w = 1 ∨ w = 2 ∨ w = 3 ∨ w = 4 ∨ w = 5 by omega) with rfl | rfl | rfl | rfl | rfl | rfl
          · refine wp_tableIn (tgt := 52) dX11_told_12 h1 h2 (off := 40) rfl rfl ?_
            refine wp_iload_n dX11_told_52 rfl ?_
            refine wp_if_ne (tgt := 63) dX11_told_53 rfl (fun c_53 => ?_) (fun c_53 => ?_)
            · refine wp_aload_n dX11_told_63 rfl ?_
              refine wr_geti 24 dX11_told_64 fl_X11_216 ⟨by decide, rfl⟩ ?_
              refine wp_iret dX11_told_67 rfl rfl ?_
              exact good _ rfl
            · exact absurd c_53 (by decide)
          · refine wp_tableIn (tgt := 68) dX11_told_12 h1 h2 (off := 56) rfl rfl ?_
            refine wp_iload_n dX11_told_68 rfl ?_
            refine wp_if_ne (tgt := 84) dX11_told_69 rfl (fun c_69 => ?_) (fun c_69 => ?_)
            · refine wp_aload_n dX11_told_84 rfl ?_
              refine wr_geti 24 dX11_told_85 fl_X11_216 ⟨by decide, rfl⟩ ?_
              refine wp_aload_n dX11_told_88 rfl ?_
              refine wr_geti 25 dX11_told_89 fl_X11_234 ⟨by decide, rfl⟩ ?_
              refine wp_isub dX11_told_92 ?_
              rw [pk_sub h25]
              refine wp_iret dX11_told_93 rfl rfl ?_
              exact good _ rfl
            · exact absurd c_69 (by decide)
          · refine wp_tableIn (tgt := 94) dX11_told_12 h1 h2 (off := 82) rfl rfl ?_
            refine wp_iload_n dX11_told_94 rfl ?_
            refine wp_if_ne (tgt := 105) dX11_told_95 rfl (fun c_95 => ?_) (fun c_95 => ?_)
            · refine wp_aload_n dX11_told_105 rfl ?_
              refine wr_geti 26 dX11_told_106 fl_X11_231 ⟨by decide, rfl⟩ ?_
              refine wp_iret dX11_told_109 rfl rfl ?_
              exact good _ rfl
            · exact absurd c_95 (by decide)
          · refine wp_tableIn (tgt := 110) dX11_told_12 h1 h2 (off := 98) rfl rfl ?_
            refine wp_iload_n dX11_told_110 rfl ?_
            refine wp_if_ne (tgt := 133) dX11_told_111 rfl (fun c_111 => ?_) (fun c_111 => ?_)
            · refine wp_iload_n dX11_told_133 rfl ?_
              refine wp_iconst (v := 3) dX11_told_134 rfl ?_
              refine wp_icmp_ne (tgt := 146) dX11_told_135 rfl (fun c_135 => ?_) (fun c_135 => ?_)
              · exact absurd rfl c_135
              · refine wp_aload_n dX11_told_138 rfl ?_
                refine wp_iconst (v := 0) dX11_told_139 rfl ?_
                refine wp_callV (As := [.int (nI (b2n false))]) (rest := []) dX11_told_140 me_X11_waits cw_X11_250 rfl ⟨(Nat.le_of_ble_eq_true rfl), (Nat.le_of_ble_eq_true rfl)⟩ rfl rfl rfl (Nat.le_of_ble_eq_true rfl) r_at_m (ct_waits ok hc) (fun r h1 q => ?_)
                obtain ⟨rfl, rfl⟩ := q
                refine wp_goto (tgt := 151) dX11_told_143 rfl ?_
                refine wp_iret dX11_told_151 rfl rfl ?_
                exact good _ rfl
            · exact absurd c_111 (by decide)
          · refine wp_tableIn (tgt := 110) dX11_told_12 h1 h2 (off := 98) rfl rfl ?_
            refine wp_iload_n dX11_told_110 rfl ?_
            refine wp_if_ne (tgt := 133) dX11_told_111 rfl (fun c_111 => ?_) (fun c_111 => ?_)
            · refine wp_iload_n dX11_told_133 rfl ?_
              refine wp_iconst (v := 3) dX11_told_134 rfl ?_
              refine wp_icmp_ne (tgt := 146) dX11_told_135 rfl (fun c_135 => ?_) (fun c_135 => ?_)
              · refine wp_aload_n dX11_told_146 rfl ?_
                refine wp_iconst (v := 1) dX11_told_147 rfl ?_
                refine wp_callV (As := [.int (nI (b2n true))]) (rest := []) dX11_told_148 me_X11_waits cw_X11_250 rfl ⟨(Nat.le_of_ble_eq_true rfl), (Nat.le_of_ble_eq_true rfl)⟩ rfl rfl rfl (Nat.le_of_ble_eq_true rfl) r_at_m (ct_waits ok hc) (fun r h1 q => ?_)
                obtain ⟨rfl, rfl⟩ := q
                refine wp_iret dX11_told_151 rfl rfl ?_
                exact good _ rfl
              · exact absurd c_135 (by decide)
            · exact absurd c_111 (by decide)
          · refine wp_tableIn (tgt := 152) dX11_told_12 h1 h2 (off := 140) rfl rfl ?_
            refine wp_iload_n dX11_told_152 rfl ?_
            refine wp_if_ne (tgt := 163) dX11_told_153 rfl (fun c_153 => ?_) (fun c_153 => ?_)
            · refine wp_iconst (v := (-1)) dX11_told_163 rfl ?_
              refine wp_iret dX11_told_164 rfl rfl ?_
              exact good _ rfl
            · exact absurd c_153 (by decide)
      · have hout : y.toInt < 0 ∨ (5 : Int) < y.toInt := by
          by_cases hl : y < 0
          · left
            have := Int32.lt_iff_toInt_lt.mp hl
            simpa using this
          · obtain ⟨j, hj, rfl⟩ := nI_of hl
            right
            rw [nI_toInt hj]
            have : ¬ j ≤ 5 := fun z => hy ⟨j, z, rfl⟩
            omega
        refine wp_tableOut (tgt := 165) dX11_told_12 hout rfl ?_
        refine wp_iconst (v := (-1)) dX11_told_165 rfl ?_
        refine wp_iret dX11_told_166 rfl rfl ?_
        refine ⟨rfl, Or.inl ⟨?_, rfl⟩⟩
        rintro ⟨e', w', -, hw', -, rfl⟩
        exact hy ⟨w', hw', rfl⟩
    · refine wp_iconst (v := (-1)) dX11_told_9 rfl ?_
      refine wp_iret dX11_told_10 rfl rfl ?_
      refine ⟨rfl, Or.inl ⟨?_, rfl⟩⟩
      rintro ⟨e, w, he, hw, rfl, rfl⟩
      exact c_6 (nI_le (b := 1) he (by decide))
/-- entry j of an end's table is there -/
def r_has (p : rs) (e j : Nat) : Prop := if e = 0 then p.1 10 ≤ j ∧ j < p.1 6 else p.1 25 ≤ j ∧ j < p.1 24
theorem ct_entry {p : rs} {x y z : Int32} (ok : rok p) (h6 : p.1 6 ≤ 2400) (h24 : p.1 24 ≤ p.1 6) : fp_ct G rm_X11_entry M_X11_entry [.ref m, .int x, .int y, .int z] (r_hp h0 m p) (fun r h' => h' = r_hp h0 m p ∧ (((¬ ∃ e j w, e ≤ 1 ∧ w ≤ 1 ∧ x = nI e ∧ y = nI j ∧ z = nI w ∧ j < 2 ^ 31 ∧ r_has p e j) ∧ r = some (.long (-1))) ∨ ∃ e j w, e ≤ 1 ∧ w ≤ 1 ∧ x = nI e ∧ y = nI j ∧ z = nI w ∧ j < 2 ^ 31 ∧ r_has p e j ∧ r = some (.long (lN (p.2.2 (3 + w) j))))) := by
  have o10 := ok.1 10
  have o25 := ok.1 25
  refine fp_meth pn_X11 (Nat.le_of_ble_eq_true rfl) rfl ?_
  refine wp_eqL (L' := [some (.ref m), some (.int x), some (.int y), some (.int z), none]) rfl ?_
  -- behind the look at the end and the number
  have no : (¬ ∃ e j, e ≤ 1 ∧ x = nI e ∧ y = nI j ∧ j < 2 ^ 31 ∧ r_has p e j) → fp_wp G rm_X11_entry M_X11_entry 54 [some (.ref m), some (.int x), some (.int y), some (.int z), none] [.int 0] (r_hp h0 m p) (fun r h' => h' = r_hp h0 m p ∧ (((¬ ∃ e j w, e ≤ 1 ∧ w ≤ 1 ∧ x = nI e ∧ y = nI j ∧ z = nI w ∧ j < 2 ^ 31 ∧ r_has p e j) ∧ r = some (.long (-1))) ∨ ∃ e j w, e ≤ 1 ∧ w ≤ 1 ∧ x = nI e ∧ y = nI j ∧ z = nI w ∧ j < 2 ^ 31 ∧ r_has p e j ∧ r = some (.long (lN (p.2.2 (3 + w) j))))) := by
    intro hn
    refine wp_istore dX11_entry_54 (Nat.le_of_ble_eq_true rfl) rfl ?_
    refine wp_iload dX11_entry_56 rfl ?_
    refine wp_if_eq (tgt := 70) dX11_entry_58 rfl (fun c_58 => ?_) (fun c_58 => ?_)
    · refine wp_ldc2 dX11_entry_70 kc_X11_254 ?_
      refine wp_goto (tgt := 95) dX11_entry_73 rfl ?_
      refine wp_lret dX11_entry_95 rfl ?_
      refine ⟨rfl, Or.inl ⟨?_, rfl⟩⟩
      rintro ⟨e, j, w, h1, -, h2, h3, -, h4, h5⟩
      exact hn ⟨e, j, h1, h2, h3, h4, h5⟩
    · exact absurd rfl c_58
  have yes : ∀ e j : Nat, e ≤ 1 → x = nI e → y = nI j → j < 2 ^ 31 → r_has p e j → j < 2400 → fp_wp G rm_X11_entry M_X11_entry 54 [some (.ref m), some (.int x), some (.int y), some (.int z), none] [.int 1] (r_hp h0 m p) (fun r h' => h' = r_hp h0 m p ∧ (((¬ ∃ e j w, e ≤ 1 ∧ w ≤ 1 ∧ x = nI e ∧ y = nI j ∧ z = nI w ∧ j < 2 ^ 31 ∧ r_has p e j) ∧ r = some (.long (-1))) ∨ ∃ e j w, e ≤ 1 ∧ w ≤ 1 ∧ x = nI e ∧ y = nI j ∧ z = nI w ∧ j < 2 ^ 31 ∧ r_has p e j ∧ r = some (.long (lN (p.2.2 (3 + w) j))))) := by
    intro e j he hx hy hj hh hj2
    subst hy
    refine wp_istore dX11_entry_54 (Nat.le_of_ble_eq_true rfl) rfl ?_
    refine wp_iload dX11_entry_56 rfl ?_
    refine wp_if_eq (tgt := 70) dX11_entry_58 rfl (fun c_58 => ?_) (fun c_58 => ?_)
    · exact absurd c_58 (by decide)
    · refine wp_iload_n dX11_entry_61 rfl ?_
      refine wp_if_lt (tgt := 70) dX11_entry_62 rfl (fun c_62 => ?_) (fun c_62 => ?_)
      · refine wp_ldc2 dX11_entry_70 kc_X11_254 ?_
        refine wp_goto (tgt := 95) dX11_entry_73 rfl ?_
        refine wp_lret dX11_entry_95 rfl ?_
        refine ⟨rfl, Or.inl ⟨?_, rfl⟩⟩
        rintro ⟨e', j', w, -, h1, -, -, rfl, -⟩
        exact nI_pos (by omega) c_62
      · refine wp_iload_n dX11_entry_65 rfl ?_
        refine wp_iconst (v := 1) dX11_entry_66 rfl ?_
        refine wp_icmp_le (tgt := 76) dX11_entry_67 rfl (fun c_67 => ?_) (fun c_67 => ?_)
        · obtain ⟨w, hw, rfl⟩ : ∃ w : Nat, w ≤ 1 ∧ z = nI w := by
            obtain ⟨k, hk, rfl⟩ := nI_of c_62
            exact ⟨k, (nI_leI (b := 1) hk (by decide)).mp c_67, rfl⟩
          rcases (show w = 0 ∨ w = 1 by omega) with rfl | rfl
          · refine wp_iload_n dX11_entry_76 rfl ?_
            refine wp_if_ne (tgt := 89) dX11_entry_77 rfl (fun c_77 => ?_) (fun c_77 => ?_)
            · exact absurd rfl c_77
            · refine wp_aload_n dX11_entry_80 rfl ?_
              refine wr_geta 7 3 dX11_entry_81 fl_X11_20 ⟨by decide, rfl⟩ ?_
              refine wp_iload_n dX11_entry_84 rfl ?_
              refine wr_lald dX11_entry_85 ⟨by decide, rfl⟩ rfl hj2 (by decide) ?_
              refine wp_goto (tgt := 95) dX11_entry_86 rfl ?_
              refine wp_lret dX11_entry_95 rfl ?_
              exact ⟨rfl, Or.inr ⟨e, j, 0, he, by decide, hx, rfl, rfl, hj, hh, rfl⟩⟩
          · refine wp_iload_n dX11_entry_76 rfl ?_
            refine wp_if_ne (tgt := 89) dX11_entry_77 rfl (fun c_77 => ?_) (fun c_77 => ?_)
            · refine wp_aload_n dX11_entry_89 rfl ?_
              refine wr_geta 8 4 dX11_entry_90 fl_X11_23 ⟨by decide, rfl⟩ ?_
              refine wp_iload_n dX11_entry_93 rfl ?_
              refine wr_lald dX11_entry_94 ⟨by decide, rfl⟩ rfl hj2 (by decide) ?_
              refine wp_lret dX11_entry_95 rfl ?_
              exact ⟨rfl, Or.inr ⟨e, j, 1, he, by decide, hx, rfl, rfl, hj, hh, rfl⟩⟩
            · exact absurd c_77 (by decide)
        · refine wp_ldc2 dX11_entry_70 kc_X11_254 ?_
          refine wp_goto (tgt := 95) dX11_entry_73 rfl ?_
          refine wp_lret dX11_entry_95 rfl ?_
          refine ⟨rfl, Or.inl ⟨?_, rfl⟩⟩
          rintro ⟨e', j', w, -, h1, -, -, rfl, -⟩
          exact c_67 (nI_le (b := 1) h1 (by decide))
  have inj : ∀ {a b : Nat}, a ≤ 1 → b ≤ 1 → nI a = nI b → a = b := fun ha hb e => (nI_eq (by omega) (by omega)).mp e
  refine wp_iload_n dX11_entry_0 rfl ?_
  refine wp_if_ne (tgt := 28) dX11_entry_1 rfl (fun c_1 => ?_) (fun c_1 => ?_)
  · by_cases hx1 : x = nI 1
    · subst hx1
      refine wp_iload_n dX11_entry_28 rfl ?_
      refine wp_iconst (v := 1) dX11_entry_29 rfl ?_
      refine wp_icmp_ne (tgt := 53) dX11_entry_30 rfl (fun c_30 => ?_) (fun c_30 => ?_)
      · exact absurd rfl c_30
      · refine wp_iload_n dX11_entry_33 rfl ?_
        refine wp_aload_n dX11_entry_34 rfl ?_
        refine wr_geti 25 dX11_entry_35 fl_X11_234 ⟨by decide, rfl⟩ ?_
        refine wp_icmp_lt (tgt := 53) dX11_entry_38 rfl (fun c_38 => ?_) (fun c_38 => ?_)
        · refine wp_iconst (v := 0) dX11_entry_53 rfl ?_
          refine no ?_
          rintro ⟨e, j, he, hx, rfl, hj, hh⟩
          have := inj (by omega) he hx
          subst this
          rw [r_has, if_neg (by decide)] at hh
          have := (nI_ltI hj (by omega)).mp c_38
          omega
        · refine wp_iload_n dX11_entry_41 rfl ?_
          refine wp_aload_n dX11_entry_42 rfl ?_
          refine wr_geti 24 dX11_entry_43 fl_X11_216 ⟨by decide, rfl⟩ ?_
          refine wp_icmp_ge (tgt := 53) dX11_entry_46 rfl (fun c_46 => ?_) (fun c_46 => ?_)
          · refine wp_iconst (v := 0) dX11_entry_53 rfl ?_
            refine no ?_
            rintro ⟨e, j, he, hx, rfl, hj, hh⟩
            have := inj (by omega) he hx
            subst this
            rw [r_has, if_neg (by decide)] at hh
            have := (nI_leI (by omega) hj).mp c_46
            omega
          · refine wp_iconst (v := 1) dX11_entry_49 rfl ?_
            refine wp_goto (tgt := 54) dX11_entry_50 rfl ?_
            have hy0 : ¬ y < 0 := by
              intro hl
              have a := Int32.lt_iff_toInt_lt.mp hl
              rw [Int32.lt_iff_toInt_lt, nI_toInt (by omega)] at c_38
              have a0 : (0 : Int32).toInt = 0 := by decide
              omega
            obtain ⟨j, hj, rfl⟩ := nI_of hy0
            have h1 : p.1 25 ≤ j := by
              rcases Nat.lt_or_ge j (p.1 25) with q | q
              · exact absurd (nI_lt q (by omega)) c_38
              · exact q
            have h2 : j < p.1 24 := by
              rcases Nat.lt_or_ge j (p.1 24) with q | q
              · exact q
              · exact absurd (nI_le q hj) c_46
            exact yes 1 j (by decide) rfl rfl hj (by rw [r_has, if_neg (by decide)]; exact ⟨h1, h2⟩) (by omega)
    · refine wp_iload_n dX11_entry_28 rfl ?_
      refine wp_iconst (v := 1) dX11_entry_29 rfl ?_
      refine wp_icmp_ne (tgt := 53) dX11_entry_30 rfl (fun c_30 => ?_) (fun c_30 => ?_)
      · refine wp_iconst (v := 0) dX11_entry_53 rfl ?_
        refine no ?_
        rintro ⟨e, j, he, hx, -⟩
        rcases (show e = 0 ∨ e = 1 by omega) with rfl | rfl
        · exact c_1 (by rw [hx]; rfl)
        · exact c_30 hx
      · exact absurd c_30 hx1
  · have hx0 : x = nI 0 := c_1
    refine wp_iload_n dX11_entry_4 rfl ?_
    refine wp_aload_n dX11_entry_5 rfl ?_
    refine wr_geti 10 dX11_entry_6 fl_X11_140 ⟨by decide, rfl⟩ ?_
    refine wp_icmp_lt (tgt := 24) dX11_entry_9 rfl (fun c_9 => ?_) (fun c_9 => ?_)
    · refine wp_iconst (v := 0) dX11_entry_24 rfl ?_
      refine wp_goto (tgt := 54) dX11_entry_25 rfl ?_
      refine no ?_
      rintro ⟨e, j, he, hx, rfl, hj, hh⟩
      have := inj (by omega) he (hx0.symm.trans hx)
      subst this
      rw [r_has, if_pos rfl] at hh
      have := (nI_ltI hj (by omega)).mp c_9
      omega
    · refine wp_iload_n dX11_entry_12 rfl ?_
      refine wp_aload_n dX11_entry_13 rfl ?_
      refine wr_geti 6 dX11_entry_14 fl_X11_137 ⟨by decide, rfl⟩ ?_
      refine wp_icmp_ge (tgt := 24) dX11_entry_17 rfl (fun c_17 => ?_) (fun c_17 => ?_)
      · refine wp_iconst (v := 0) dX11_entry_24 rfl ?_
        refine wp_goto (tgt := 54) dX11_entry_25 rfl ?_
        refine no ?_
        rintro ⟨e, j, he, hx, rfl, hj, hh⟩
        have := inj (by omega) he (hx0.symm.trans hx)
        subst this
        rw [r_has, if_pos rfl] at hh
        have := (nI_leI (by omega) hj).mp c_17
        omega
      · refine wp_iconst (v := 1) dX11_entry_20 rfl ?_
        refine wp_goto (tgt := 54) dX11_entry_21 rfl ?_
        have hy0 : ¬ y < 0 := by
          intro hl
          have a := Int32.lt_iff_toInt_lt.mp hl
          rw [Int32.lt_iff_toInt_lt, nI_toInt (by omega)] at c_9
          have a0 : (0 : Int32).toInt = 0 := by decide
          omega
        obtain ⟨j, hj, rfl⟩ := nI_of hy0
        have h1 : p.1 10 ≤ j := by
          rcases Nat.lt_or_ge j (p.1 10) with q | q
          · exact absurd (nI_lt q (by omega)) c_9
          · exact q
        have h2 : j < p.1 6 := by
          rcases Nat.lt_or_ge j (p.1 6) with q | q
          · exact q
          · exact absurd (nI_le q hj) c_17
        exact yes 0 j (by decide) hx0 rfl hj (by rw [r_has, if_pos rfl]; exact ⟨h1, h2⟩) (by omega)
end RS
