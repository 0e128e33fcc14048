/-! the reference: statics, lay, number, text -/
theorem wp_eqL {G : fp_G} {d : Nat × Nat} {M : fp_M} {pc : Nat} {L L' : List (Option Value)} {st : List Value} {h : fp_H} {Q : Option Value → fp_H → Prop} (e : L = L') (k : fp_wp G d M pc L' st h Q) : fp_wp G d M pc L st h Q := e ▸ k
/-- every byte of the text is there -/
def whl (u : Nat) : Bool := (List.range (bln u)).all (fun k => bte u k != 0)
def whlTo (u j : Nat) : Bool := (List.range j).all (fun k => bte u k != 0)
theorem whlTo_s (u j : Nat) : whlTo u (j + 1) = (whlTo u j && bte u j != 0) := by simp [whlTo, List.range_succ]
def b2n (b : Bool) : Nat := if b then 1 else 0
section RL
variable {G : fp_G} {h : fp_H}
theorem ct_sizeOf {u v : Nat} (hu : u < 2 ^ 64) (hv : v < 2 ^ 64) : fp_ct G rm_X11_sizeOf M_X11_sizeOf [.long (lN u), .long (lN v)] h (fun r h' => h' = h ∧ r = some (.int (nI (32 + bln u + bln v)))) := by
  refine fp_meth pn_X11 (Nat.le_of_ble_eq_true rfl) rfl ?_
  refine wp_bipush (v := 32) dX11_sizeOf_0 rfl ?_
  refine wp_lload_n dX11_sizeOf_2 rfl ?_
  refine wp_callS (As := [.long (lN u)]) (rest := [.int 32]) dX11_sizeOf_3 me_X11_length cw_X11_100 ⟨(Nat.le_of_ble_eq_true rfl), (Nat.le_of_ble_eq_true rfl)⟩ rfl rfl rfl (Nat.le_of_ble_eq_true rfl) (ct_length hu) (fun r h1 q => ?_)
  obtain ⟨rfl, rfl⟩ := q
  refine wp_iadd dX11_sizeOf_6 ?_
  refine wp_lload_n dX11_sizeOf_7 rfl ?_
  refine wp_callS (As := [.long (lN v)]) (rest := [.int (32 + nI (bln u))]) dX11_sizeOf_8 me_X11_length cw_X11_100 ⟨(Nat.le_of_ble_eq_true rfl), (Nat.le_of_ble_eq_true rfl)⟩ rfl rfl rfl (Nat.le_of_ble_eq_true rfl) (ct_length hv) (fun r h1 q => ?_)
  obtain ⟨rfl, rfl⟩ := q
  refine wp_iadd dX11_sizeOf_11 ?_
  refine wp_iret dX11_sizeOf_12 rfl rfl ?_
  exact ⟨rfl, by rw [show (32 : Int32) + nI (bln u) = nI (32 + bln u) from nI_add 32 _, nI_add]⟩
theorem ct_isWhole {u : Nat} (hu : u < 2 ^ 64) : fp_ct G rm_X11_isWhole M_X11_isWhole [.long (lN u)] h (fun r h' => h' = h ∧ r = some (.int (nI (b2n (whl u))))) := by
  refine fp_meth pn_X11 (Nat.le_of_ble_eq_true rfl) rfl ?_
  refine wp_iconst (v := 1) dX11_isWhole_0 rfl ?_
  refine wp_istore_n dX11_isWhole_1 (Nat.le_of_ble_eq_true rfl) rfl ?_
  refine wp_iconst (v := 0) dX11_isWhole_2 rfl ?_
  refine wp_istore_n dX11_isWhole_3 (Nat.le_of_ble_eq_true rfl) rfl ?_
  have loop : ∀ n j : Nat, j ≤ bln u → bln u - j < n → fp_wp G rm_X11_isWhole M_X11_isWhole 4 [some (.long (lN u)), none, some (.int (nI (b2n (whlTo u j)))), some (.int (nI j))] [] h (fun r h' => h' = h ∧ r = some (.int (nI (b2n (whl u))))) := by
    intro n
    induction n with
    | zero => intro j _ h2; omega
    | succ n ih =>
      intro j hj hn
      have hb8 := bln_le u
      refine wp_iload_n dX11_isWhole_4 rfl ?_
      refine wp_lload_n dX11_isWhole_5 rfl ?_
      refine wp_callS (As := [.long (lN u)]) (rest := [.int (nI j)]) dX11_isWhole_6 me_X11_length cw_X11_100 ⟨(Nat.le_of_ble_eq_true rfl), (Nat.le_of_ble_eq_true rfl)⟩ rfl rfl rfl (Nat.le_of_ble_eq_true rfl) (ct_length hu) (fun r h1 q => ?_)
      obtain ⟨rfl, rfl⟩ := q
      refine wp_icmp_ge (tgt := 43) dX11_isWhole_9 rfl (fun c_9 => ?_) (fun c_9 => ?_)
      · have e8 : j = bln u := by
          have := (nI_leI (by omega) (by omega)).mp c_9
          omega
        refine wp_iload_n dX11_isWhole_43 rfl ?_
        refine wp_iret dX11_isWhole_44 rfl (by unfold b2n; split <;> decide) ?_
        refine ⟨rfl, ?_⟩
        rw [e8]
        rfl
      · have hj8 : j < bln u := by
          rcases Nat.lt_or_ge j (bln u) with q | q
          · exact q
          · exact absurd (nI_le q (by omega)) c_9
        have hi := ih (j + 1) (by omega) (by omega)
        rw [whlTo_s] at hi
        refine wp_iload_n dX11_isWhole_12 rfl ?_
        refine wp_if_eq (tgt := 35) dX11_isWhole_13 rfl (fun c_13 => ?_) (fun c_13 => ?_)
        · have hw : whlTo u j = false := by
            cases hx : whlTo u j with
            | false => rfl
            | true => rw [hx] at c_13; exact absurd c_13 (by decide)
          refine wp_iconst (v := 0) dX11_isWhole_35 rfl ?_
          refine wp_istore_n dX11_isWhole_36 (Nat.le_of_ble_eq_true rfl) rfl ?_
          refine wp_iinc dX11_isWhole_37 rfl rfl ?_
          refine wp_goto (tgt := 4) dX11_isWhole_40 rfl ?_
          rw [show nI j + Int32.ofInt 1 = nI (j + 1) from nI_1 j]
          rw [hw, Bool.false_and] at hi
          exact hi
        · have hw : whlTo u j = true := by
            cases hx : whlTo u j with
            | true => rfl
            | false => rw [hx] at c_13; exact absurd rfl c_13
          refine wp_lload_n dX11_isWhole_16 rfl ?_
          refine wp_bipush (v := 8) dX11_isWhole_17 rfl ?_
          refine wp_iload_n dX11_isWhole_19 rfl ?_
          refine wp_imul dX11_isWhole_20 ?_
          refine wp_lushr dX11_isWhole_21 ?_
          refine wp_ldc2 dX11_isWhole_22 kc_X11_98 ?_
          refine wp_land dX11_isWhole_25 ?_
          refine wp_lconst (v := 0) dX11_isWhole_26 rfl ?_
          refine wp_lcmp dX11_isWhole_27 ?_
          refine wp_if_eq (tgt := 35) dX11_isWhole_28 rfl (fun c_28 => ?_) (fun c_28 => ?_)
          · rw [bte_long hu (by omega), cmp0, lN_ne0 (by have := bte_lt u j; omega)] at c_28
            refine wp_iconst (v := 0) dX11_isWhole_35 rfl ?_
            refine wp_istore_n dX11_isWhole_36 (Nat.le_of_ble_eq_true rfl) rfl ?_
            refine wp_iinc dX11_isWhole_37 rfl rfl ?_
            refine wp_goto (tgt := 4) dX11_isWhole_40 rfl ?_
            rw [show nI j + Int32.ofInt 1 = nI (j + 1) from nI_1 j]
            rw [hw, c_28] at hi
            exact hi
          · rw [bte_long hu (by omega), cmp0, lN_ne0 (by have := bte_lt u j; omega)] at c_28
            refine wp_iconst (v := 1) dX11_isWhole_31 rfl ?_
            refine wp_goto (tgt := 36) dX11_isWhole_32 rfl ?_
            refine wp_istore_n dX11_isWhole_36 (Nat.le_of_ble_eq_true rfl) rfl ?_
            refine wp_iinc dX11_isWhole_37 rfl rfl ?_
            refine wp_goto (tgt := 4) dX11_isWhole_40 rfl ?_
            rw [show nI j + Int32.ofInt 1 = nI (j + 1) from nI_1 j]
            rw [hw, show (bte u j != 0) = true by simp [c_28]] at hi
            exact hi
  exact loop (bln u + 1) 0 (by omega) (by omega)
/-- the fixed table: the entry of a name, and its value -/
def fxn (u : Nat) : Option Nat := if 97 ≤ u ∧ u ≤ 104 then some (u - 97) else none
def oI (o : Option Nat) : Int32 := match o with
  | some k => nI k
  | none => -1
def fxv (k : Nat) : Nat := if k % 2 = 0 then 0 else 49
theorem cmp_lt0 (x y : Int64) : lg_cmp x y < 0 ↔ x < y := by
  unfold lg_cmp
  by_cases h1 : y < x
  · simp only [h1, if_true]
    constructor
    · intro e; exact absurd e (by decide)
    · intro e
      rw [Int64.lt_iff_toInt_lt] at h1 e
      omega
  · by_cases h2 : x = y
    · subst h2
      simp only [if_neg h1, if_true]
      exact ⟨fun e => absurd e (by decide), fun e => absurd e h1⟩
    · simp only [if_neg h1, if_neg h2]
      refine ⟨fun _ => ?_, fun _ => by decide⟩
      rw [Int64.lt_iff_toInt_lt] at h1 ⊢
      have : x.toInt ≠ y.toInt := fun e => h2 (Int64.toInt_inj.mp e)
      omega
theorem cmp_gt0 (x y : Int64) : 0 < lg_cmp x y ↔ y < x := by
  unfold lg_cmp
  by_cases h1 : y < x
  · simp only [h1, if_true]
    exact ⟨fun _ => trivial, fun _ => by decide⟩
  · by_cases h2 : x = y
    · subst h2
      simp only [if_neg h1, if_true]
      exact ⟨fun e => absurd e (by decide), fun e => absurd e (by simp)⟩
    · simp only [if_neg h1, if_neg h2]
      exact ⟨fun e => absurd e (by decide), fun e => absurd e h1⟩
theorem lN_lt_small {u c : Nat} (hu : u < 2 ^ 64) (hc : c < 2 ^ 31) : lN u < lN c ↔ u < c ∨ 2 ^ 63 ≤ u := by
  rw [Int64.lt_iff_toInt_lt, lN_ti hu, lN_ti (by omega : c < 2 ^ 64), if_pos (by omega : c < 2 ^ 63)]
  split <;> omega
theorem lN_gt_small {u c : Nat} (hu : u < 2 ^ 64) (hc : c < 2 ^ 31) : lN c < lN u ↔ c < u ∧ u < 2 ^ 63 := by
  rw [Int64.lt_iff_toInt_lt, lN_ti hu, lN_ti (by omega : c < 2 ^ 64), if_pos (by omega : c < 2 ^ 63)]
  split <;> omega
theorem ct_fixedName {u : Nat} (hu : u < 2 ^ 64) : fp_ct G rm_X11_fixedName M_X11_fixedName [.long (lN u)] h (fun r h' => h' = h ∧ r = some (.int (oI (fxn u)))) := by
  refine fp_meth pn_X11 (Nat.le_of_ble_eq_true rfl) rfl ?_
  refine wp_lload_n dX11_fixedName_0 rfl ?_
  refine wp_ldc2 dX11_fixedName_1 kc_X11_131 ?_
  refine wp_lcmp dX11_fixedName_4 ?_
  refine wp_if_lt (tgt := 24) dX11_fixedName_5 rfl (fun c_5 => ?_) (fun c_5 => ?_)
  · rw [cmp_lt0] at c_5
    have := (lN_lt_small hu (c := 97) (by decide)).mp c_5
    refine wp_iconst (v := (-1)) dX11_fixedName_24 rfl ?_
    refine wp_iret dX11_fixedName_25 rfl rfl ?_
    exact ⟨rfl, by rw [fxn, if_neg (by omega)]; rfl⟩
  · rw [cmp_lt0] at c_5
    have h5 := fun z => c_5 ((lN_lt_small hu (c := 97) (by decide)).mpr z)
    refine wp_lload_n dX11_fixedName_8 rfl ?_
    refine wp_ldc2 dX11_fixedName_9 kc_X11_133 ?_
    refine wp_lcmp dX11_fixedName_12 ?_
    refine wp_if_gt (tgt := 24) dX11_fixedName_13 rfl (fun c_13 => ?_) (fun c_13 => ?_)
    · rw [cmp_gt0] at c_13
      have := (lN_gt_small hu (c := 104) (by decide)).mp c_13
      refine wp_iconst (v := (-1)) dX11_fixedName_24 rfl ?_
      refine wp_iret dX11_fixedName_25 rfl rfl ?_
      exact ⟨rfl, by rw [fxn, if_neg (by omega)]; rfl⟩
    · rw [cmp_gt0] at c_13
      have h13 := fun z => c_13 ((lN_gt_small hu (c := 104) (by decide)).mpr z)
      have hr : 97 ≤ u ∧ u ≤ 104 := by
        refine ⟨?_, ?_⟩
        · rcases Nat.lt_or_ge u 97 with q | q
          · exact absurd (Or.inl q) h5
          · exact q
        · rcases Nat.lt_or_ge 104 u with q | q
          · refine absurd ⟨q, ?_⟩ h13
            rcases Nat.lt_or_ge u (2 ^ 63) with q2 | q2
            · exact q2
            · exact absurd (Or.inr q2) h5
          · exact q
      refine wp_lload_n dX11_fixedName_16 rfl ?_
      refine wp_l2i dX11_fixedName_17 ?_
      refine wp_bipush (v := 97) dX11_fixedName_18 rfl ?_
      refine wp_isub dX11_fixedName_20 ?_
      refine wp_goto (tgt := 25) dX11_fixedName_21 rfl ?_
      refine wp_iret dX11_fixedName_25 rfl rfl ?_
      refine ⟨rfl, ?_⟩
      rw [fxn, if_pos hr, lN_i]
      show some (Value.int (nI u - nI 97)) = some (Value.int (nI (u - 97)))
      rw [pk_sub hr.1]
theorem ct_fixedValue {k : Nat} (hk : k < 2 ^ 31) : fp_ct G rm_X11_fixedValue M_X11_fixedValue [.int (nI k)] h (fun r h' => h' = h ∧ r = some (.long (lN (fxv k)))) := by
  refine fp_meth pn_X11 (Nat.le_of_ble_eq_true rfl) rfl ?_
  refine wp_iload_n dX11_fixedValue_0 rfl ?_
  refine wp_iconst (v := 2) dX11_fixedValue_1 rfl ?_
  refine wp_irem dX11_fixedValue_2 (by decide) ?_
  refine wp_if_ne (tgt := 10) dX11_fixedValue_3 rfl (fun c_3 => ?_) (fun c_3 => ?_)
  · have hm : nI k - nI k / 2 * 2 = nI (k % 2) := pk_rem (d := 2) hk (by decide) (by decide)
    rw [hm] at c_3
    have : k % 2 ≠ 0 := fun e => c_3 (by rw [e]; rfl)
    refine wp_ldc2 dX11_fixedValue_10 kc_X11_135 ?_
    refine wp_lret dX11_fixedValue_13 rfl ?_
    exact ⟨rfl, by rw [fxv, if_neg this]; rfl⟩
  · have hm : nI k - nI k / 2 * 2 = nI (k % 2) := pk_rem (d := 2) hk (by decide) (by decide)
    rw [hm] at c_3
    have : k % 2 = 0 := by
      have := (nI_eq (b := 0) (by omega) (by decide)).mp c_3
      exact this
    refine wp_lconst (v := 0) dX11_fixedValue_6 rfl ?_
    refine wp_goto (tgt := 13) dX11_fixedValue_7 rfl ?_
    refine wp_lret dX11_fixedValue_13 rfl ?_
    exact ⟨rfl, by rw [fxv, if_pos this]; rfl⟩
end RL
