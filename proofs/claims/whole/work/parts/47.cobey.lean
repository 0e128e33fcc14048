/-! Decoder: what it is told -/
def r_is (p : rs) (i : Nat) : Nat := if i = 0 then 0 else p.2.1 5 (i - 1)
theorem r_is_s (p : rs) (i : Nat) : r_is p (i + 1) = p.2.1 5 i := by unfold r_is; rw [if_neg (by omega)]; rfl
/-- how an instruction names the name of entry i -/
def frm (p : rs) (i : Nat) (A : List Nat) : Prop := (∃ k, k < 8 ∧ p.2.2 3 i = 97 + k ∧ A = nb 192 6 k) ∨ (∃ j, j < i ∧ p.2.2 3 j = p.2.2 3 i ∧ tsum (p.2.2 3) (p.2.2 4) j (i - j) ≤ p.1 0 ∧ A = nb 128 6 (i - 1 - j)) ∨ A = nb 64 5 (bln (p.2.2 3 i)) ++ txb (p.2.2 3 i)
def vlb (v : Nat) : List Nat := nb 0 7 (bln v) ++ txb v
def IB (p : rs) : Prop := (∀ i, i < p.1 6 → ∃ A, frm p i A ∧ sb (p.2.1 6) (r_is p i) (A ++ vlb (p.2.2 4 i)) ∧ p.2.1 5 i = r_is p i + (A ++ vlb (p.2.2 4 i)).length) ∧ r_is p (p.1 6) = p.1 13
def MD (p : rs) : Prop := ∀ i, i < p.1 25 → p.1 0 < tsum (p.2.2 3) (p.2.2 4) i (p.1 24 - i)
theorem nb_pos (F n v : Nat) : 1 ≤ (nb F n v).length := by unfold nb; split <;> simp
theorem vlb_pos (v : Nat) : 1 ≤ (vlb v).length := by have := nb_pos 0 7 (bln v); unfold vlb; rw [List.length_append]; omega
theorem IB.le {p : rs} (t : IB p) : ∀ n i, i + n ≤ p.1 6 → r_is p i + n ≤ r_is p (i + n) := by
  intro n
  induction n with
  | zero => intro i _; exact Nat.le_refl _
  | succ n ih =>
    intro i hi
    have h1 := ih i (by omega)
    obtain ⟨A, -, -, h2⟩ := t.1 (i + n) (by omega)
    have h3 := vlb_pos (p.2.2 4 (i + n))
    rw [List.length_append] at h2
    rw [show i + (n + 1) = (i + n) + 1 by omega, r_is_s, h2]
    omega
theorem IB.end {p : rs} (t : IB p) {i : Nat} (hi : i < p.1 6) : p.2.1 5 i ≤ p.1 13 := by
  have h := t.le (p.1 6 - (i + 1)) (i + 1) (by omega)
  rw [show i + 1 + (p.1 6 - (i + 1)) = p.1 6 by omega, t.2, r_is_s] at h
  omega
def DN (h : fp_H) (de td : Nat) (p : rs) : Prop := h.1 de = some (4, .inr (2, [.ref td, .int (nI (p.1 27))])) ∧ tbl h 16 td (p.1 0) (p.2.2 3) (p.2.2 4) (p.1 25) (p.1 24) (p.1 26)
theorem DN.kept {h h' : fp_H} {S : Nat → Prop} {de td : Nat} {p : rs} (d : DN h de td p) (c : cf S h h') (h4 : ¬ S 4) (h16 : ¬ S 16) : DN h' de td p := ⟨c.at d.1 h4, d.2.kept c h16⟩
theorem DN.eq {h : fp_H} {de td : Nat} {p p' : rs} (d : DN h de td p) (e0 : p'.1 0 = p.1 0) (e24 : p'.1 24 = p.1 24) (e25 : p'.1 25 = p.1 25) (e26 : p'.1 26 = p.1 26) (e27 : p'.1 27 = p.1 27) (l3 : p'.2.2 3 = p.2.2 3) (l4 : p'.2.2 4 = p.2.2 4) : DN h de td p' := by
  unfold DN at *
  rw [e0, e24, e25, e26, e27, l3, l4]
  exact d
theorem r_gev_tbes : ∀ (n : Nat) (p : rs) (size : Nat), (r_gev p size n).1 25 = tbes (p.2.2 3) (p.2.2 4) (p.1 0) size n (p.1 26) (p.1 25) := by
  intro n
  induction n with
  | zero => intro p size; rfl
  | succ n ih =>
    intro p size
    rw [r_gev, tbes]
    by_cases c : p.1 26 + size ≤ p.1 0
    · rw [if_pos c, if_pos c]
    · rw [if_neg c, if_neg c, ih]
      rfl
theorem r_got1_25 (p : rs) : (r_got1 p).1 25 = tbes (p.2.2 3) (p.2.2 4) (p.1 0) (r_sz p (p.1 24)) (p.1 24 - p.1 25) (p.1 26) (p.1 25) := by
  have : (r_got1 p).1 25 = (r_gev p (r_sz p (p.1 24)) (p.1 24 - p.1 25)).1 25 := by simp [r_got1, r_si]
  rw [this, r_gev_tbes]
theorem MD.got1 {p : rs} (m : MD p) (hD : r_D p) (hlt : p.1 24 < p.1 6) : MD (r_got1 p) := by
  obtain ⟨-, e24, e2, ek⟩ := hD.got1 hlt
  have e0 := ek 0 (by decide) (by decide) (by decide)
  obtain ⟨-, -, -, d25, d26, -⟩ := hD
  intro i hi
  rw [r_got1_25] at hi
  rw [e24, e2, e0]
  have sp := tbes_spec (p.2.2 3) (p.2.2 4) (p.1 0) (r_sz p (p.1 24)) (p.1 24 - p.1 25) (p.1 25) (p.1 26) (by rw [d26, r_sum_tsum])
  rw [show p.1 25 + (p.1 24 - p.1 25) = p.1 24 by omega] at sp
  have hs : tsum (p.2.2 3) (p.2.2 4) i (p.1 24 + 1 - i) = tsum (p.2.2 3) (p.2.2 4) i (p.1 24 - i) + r_sz p (p.1 24) := by
    rw [show p.1 24 + 1 - i = (p.1 24 - i) + 1 by omega, tsum_snoc, show i + (p.1 24 - i) = p.1 24 by omega]
    rfl
  rw [hs]
  by_cases c : i < p.1 25
  · have := m i c
    omega
  · exact sp.2.2.2 i (by omega) hi
theorem dX1_takeName_0 : decode cX1_takeName 0 = .ok (.aload_n 1, 1) := by decide +kernel
theorem dX1_takeName_1 : decode cX1_takeName 1 = .ok (.invokevirtual 53, 3) := by decide +kernel
theorem dX1_takeName_4 : decode cX1_takeName 4 = .ok (.istore_n 2, 1) := by decide +kernel
theorem dX1_takeName_5 : decode cX1_takeName 5 = .ok (.iload_n 2, 1) := by decide +kernel
theorem dX1_takeName_6 : decode cX1_takeName 6 = .ok (.sipush 192, 3) := by decide +kernel
theorem dX1_takeName_9 : decode cX1_takeName 9 = .ok (.if_icmp .lt 14, 3) := by decide +kernel
theorem dX1_takeName_12 : decode cX1_takeName 12 = .ok (.bipush 97, 2) := by decide +kernel
theorem dX1_takeName_14 : decode cX1_takeName 14 = .ok (.aload_n 1, 1) := by decide +kernel
theorem dX1_takeName_15 : decode cX1_takeName 15 = .ok (.bipush 6, 2) := by decide +kernel
theorem dX1_takeName_17 : decode cX1_takeName 17 = .ok (.invokevirtual 56, 3) := by decide +kernel
theorem dX1_takeName_20 : decode cX1_takeName 20 = .ok (.iadd, 1) := by decide +kernel
theorem dX1_takeName_21 : decode cX1_takeName 21 = .ok (.i2l, 1) := by decide +kernel
theorem dX1_takeName_22 : decode cX1_takeName 22 = .ok (.lreturn, 1) := by decide +kernel
theorem dX1_takeName_23 : decode cX1_takeName 23 = .ok (.iload_n 2, 1) := by decide +kernel
theorem dX1_takeName_24 : decode cX1_takeName 24 = .ok (.sipush 128, 3) := by decide +kernel
theorem dX1_takeName_27 : decode cX1_takeName 27 = .ok (.if_icmp .lt 27, 3) := by decide +kernel
theorem dX1_takeName_30 : decode cX1_takeName 30 = .ok (.aload_n 0, 1) := by decide +kernel
theorem dX1_takeName_31 : decode cX1_takeName 31 = .ok (.getfield 14, 3) := by decide +kernel
theorem dX1_takeName_34 : decode cX1_takeName 34 = .ok (.aload_n 0, 1) := by decide +kernel
theorem dX1_takeName_35 : decode cX1_takeName 35 = .ok (.getfield 14, 3) := by decide +kernel
theorem dX1_takeName_38 : decode cX1_takeName 38 = .ok (.getfield 60, 3) := by decide +kernel
theorem dX1_takeName_41 : decode cX1_takeName 41 = .ok (.iconst 1, 1) := by decide +kernel
theorem dX1_takeName_42 : decode cX1_takeName 42 = .ok (.isub, 1) := by decide +kernel
theorem dX1_takeName_43 : decode cX1_takeName 43 = .ok (.aload_n 1, 1) := by decide +kernel
theorem dX1_takeName_44 : decode cX1_takeName 44 = .ok (.bipush 6, 2) := by decide +kernel
theorem dX1_takeName_46 : decode cX1_takeName 46 = .ok (.invokevirtual 56, 3) := by decide +kernel
theorem dX1_takeName_49 : decode cX1_takeName 49 = .ok (.isub, 1) := by decide +kernel
theorem dX1_takeName_50 : decode cX1_takeName 50 = .ok (.invokevirtual 63, 3) := by decide +kernel
theorem dX1_takeName_53 : decode cX1_takeName 53 = .ok (.lreturn, 1) := by decide +kernel
theorem dX1_takeName_54 : decode cX1_takeName 54 = .ok (.aload_n 1, 1) := by decide +kernel
theorem dX1_takeName_55 : decode cX1_takeName 55 = .ok (.iconst 5, 1) := by decide +kernel
theorem dX1_takeName_56 : decode cX1_takeName 56 = .ok (.invokevirtual 38, 3) := by decide +kernel
theorem dX1_takeName_59 : decode cX1_takeName 59 = .ok (.lreturn, 1) := by decide +kernel
theorem dX1_obeyOne_0 : decode cX1_obeyOne 0 = .ok (.aload_n 1, 1) := by decide +kernel
theorem dX1_obeyOne_1 : decode cX1_obeyOne 1 = .ok (.getfield 30, 3) := by decide +kernel
theorem dX1_obeyOne_4 : decode cX1_obeyOne 4 = .ok (.istore_n 2, 1) := by decide +kernel
theorem dX1_obeyOne_5 : decode cX1_obeyOne 5 = .ok (.aload_n 0, 1) := by decide +kernel
theorem dX1_obeyOne_6 : decode cX1_obeyOne 6 = .ok (.aload_n 1, 1) := by decide +kernel
theorem dX1_obeyOne_7 : decode cX1_obeyOne 7 = .ok (.invokevirtual 34, 3) := by decide +kernel
theorem dX1_obeyOne_10 : decode cX1_obeyOne 10 = .ok (.lstore_n 3, 1) := by decide +kernel
theorem dX1_obeyOne_11 : decode cX1_obeyOne 11 = .ok (.aload_n 1, 1) := by decide +kernel
theorem dX1_obeyOne_12 : decode cX1_obeyOne 12 = .ok (.bipush 7, 2) := by decide +kernel
theorem dX1_obeyOne_14 : decode cX1_obeyOne 14 = .ok (.invokevirtual 38, 3) := by decide +kernel
theorem dX1_obeyOne_17 : decode cX1_obeyOne 17 = .ok (.lstore 5, 2) := by decide +kernel
theorem dX1_obeyOne_19 : decode cX1_obeyOne 19 = .ok (.aload_n 1, 1) := by decide +kernel
theorem dX1_obeyOne_20 : decode cX1_obeyOne 20 = .ok (.getfield 42, 3) := by decide +kernel
theorem dX1_obeyOne_23 : decode cX1_obeyOne 23 = .ok (.ifCond .eq 10, 3) := by decide +kernel
theorem dX1_obeyOne_26 : decode cX1_obeyOne 26 = .ok (.aload_n 1, 1) := by decide +kernel
theorem dX1_obeyOne_27 : decode cX1_obeyOne 27 = .ok (.iload_n 2, 1) := by decide +kernel
theorem dX1_obeyOne_28 : decode cX1_obeyOne 28 = .ok (.invokevirtual 46, 3) := by decide +kernel
theorem dX1_obeyOne_31 : decode cX1_obeyOne 31 = .ok (.iconst 0, 1) := by decide +kernel
theorem dX1_obeyOne_32 : decode cX1_obeyOne 32 = .ok (.ireturn, 1) := by decide +kernel
theorem dX1_obeyOne_33 : decode cX1_obeyOne 33 = .ok (.aload_n 0, 1) := by decide +kernel
theorem dX1_obeyOne_34 : decode cX1_obeyOne 34 = .ok (.getfield 14, 3) := by decide +kernel
theorem dX1_obeyOne_37 : decode cX1_obeyOne 37 = .ok (.lload_n 3, 1) := by decide +kernel
theorem dX1_obeyOne_38 : decode cX1_obeyOne 38 = .ok (.lload 5, 2) := by decide +kernel
theorem dX1_obeyOne_40 : decode cX1_obeyOne 40 = .ok (.invokevirtual 49, 3) := by decide +kernel
theorem dX1_obeyOne_43 : decode cX1_obeyOne 43 = .ok (.iconst 1, 1) := by decide +kernel
theorem dX1_obeyOne_44 : decode cX1_obeyOne 44 = .ok (.ireturn, 1) := by decide +kernel
theorem dX1_obey_0 : decode cX1_obey 0 = .ok (.iconst 1, 1) := by decide +kernel
theorem dX1_obey_1 : decode cX1_obey 1 = .ok (.istore_n 2, 1) := by decide +kernel
theorem dX1_obey_2 : decode cX1_obey 2 = .ok (.aload_n 1, 1) := by decide +kernel
theorem dX1_obey_3 : decode cX1_obey 3 = .ok (.invokevirtual 20, 3) := by decide +kernel
theorem dX1_obey_6 : decode cX1_obey 6 = .ok (.istore_n 3, 1) := by decide +kernel
theorem dX1_obey_7 : decode cX1_obey 7 = .ok (.iload_n 3, 1) := by decide +kernel
theorem dX1_obey_8 : decode cX1_obey 8 = .ok (.ifCond .le 19, 3) := by decide +kernel
theorem dX1_obey_11 : decode cX1_obey 11 = .ok (.iload_n 2, 1) := by decide +kernel
theorem dX1_obey_12 : decode cX1_obey 12 = .ok (.ifCond .eq 15, 3) := by decide +kernel
theorem dX1_obey_15 : decode cX1_obey 15 = .ok (.aload_n 0, 1) := by decide +kernel
theorem dX1_obey_16 : decode cX1_obey 16 = .ok (.aload_n 1, 1) := by decide +kernel
theorem dX1_obey_17 : decode cX1_obey 17 = .ok (.invokevirtual 26, 3) := by decide +kernel
theorem dX1_obey_20 : decode cX1_obey 20 = .ok (.istore_n 2, 1) := by decide +kernel
theorem dX1_obey_21 : decode cX1_obey 21 = .ok (.iinc 3 (-1), 3) := by decide +kernel
theorem dX1_obey_24 : decode cX1_obey 24 = .ok (.goto (-17), 3) := by decide +kernel
theorem dX1_obey_27 : decode cX1_obey 27 = .ok (.return_, 1) := by decide +kernel
section CO
variable {G : fp_G} {h : fp_H} {de td ra ba e : Nat} {p : rs}
theorem co_name {xs A : List Nat} {s0 : Nat} (d : DN h de td p) (hr : rdr h 11 ra 10 ba xs e (s0, false)) (hmd : MD p) (hA : s0 < e → p.1 24 < p.1 6 ∧ frm p (p.1 24) A ∧ sb (fun i => xs.getD i 0) s0 A) (hu : ∀ j, p.2.2 3 j < 2 ^ 64) : fp_ct G rm_X1_takeName M_X1_takeName [.ref de, .ref ra] h (fun r h' => ∃ x s', r = some (.long x) ∧ h' = fp_put h ra 11 (rc ba e s') ∧ s'.1 ≤ e ∧ ((s'.2 = true ∧ (e < s0 + A.length ∨ e ≤ s0)) ∨ (s0 < e ∧ s0 + A.length ≤ e ∧ x = lN (p.2.2 3 (p.1 24)) ∧ s' = (s0 + A.length, false)))) := by
  have hra := hr.1
  have hat := hr.2.2.2.2.1
  have d24 := d.2.hC
  obtain ⟨n1, n2, n3, f1, f2, f3, a1, -⟩ := d.2.ex
  refine fp_meth pn_X1 (Nat.le_of_ble_eq_true rfl) rfl ?_
  refine wp_aload_n dX1_takeName_0 rfl ?_
  refine wp_callV (As := []) (rest := []) dX1_takeName_1 me_X6_front cw_X1_53 rfl ⟨(Nat.le_of_ble_eq_true rfl), (Nat.le_of_ble_eq_true rfl)⟩ rfl rfl rfl (Nat.le_of_ble_eq_true rfl) hra (cr_front hr) (fun r h1 q => ?_)
  obtain ⟨rfl, rfl⟩ := q
  by_cases ha : s0 < e
  · obtain ⟨h24, hf, hsb⟩ := hA ha
    have hfr : k_fr (fun i => xs.getD i 0) e (s0, false) = (xs.getD s0 0, (s0, false)) := by unfold k_fr; rw [if_pos ha]
    rw [hfr, fp_put_self hra]
    have hu' := hu (p.1 24)
    rcases hf with ⟨k, hk, hku, rfl⟩ | ⟨j, hj, hju, hjs, rfl⟩ | rfl
    · -- a fixed name
      have e1 : nb 192 6 k = [192 + k] := by rw [nb, if_pos (by omega)]
      have h0 : xs.getD s0 0 = 192 + k := by rw [e1] at hsb; exact hsb.cons.1
      have hkn := k_num_nb (f := fun i => xs.getD i 0) (e := e) (n := 6) (F := 192) (v := k) (a := s0) (c := false) (by decide) rfl (by omega) hsb
      have hl1 : (nb 192 6 k).length = 1 := by rw [e1]; rfl
      rw [h0]
      refine wp_istore_n dX1_takeName_4 (Nat.le_of_ble_eq_true rfl) rfl ?_
      refine wp_iload_n dX1_takeName_5 rfl ?_
      refine wp_sipush (v := 192) dX1_takeName_6 rfl ?_
      refine wp_icmp_lt (tgt := 23) dX1_takeName_9 rfl (fun c_9 => ?_) (fun c_9 => ?_)
      · have := (nI_ltI (b := 192) (by omega) (by decide)).mp c_9
        omega
      · refine wp_bipush (v := 97) dX1_takeName_12 rfl ?_
        refine wp_aload_n dX1_takeName_14 rfl ?_
        refine wp_bipush (v := 6) dX1_takeName_15 rfl ?_
        refine wp_callV (As := [.int (nI 6)]) (rest := [.int 97]) dX1_takeName_17 me_X6_takeNumber cw_X1_56 rfl ⟨(Nat.le_of_ble_eq_true rfl), (Nat.le_of_ble_eq_true rfl)⟩ rfl rfl rfl (Nat.le_of_ble_eq_true rfl) hra (cr_num (by decide) hr) (fun r h2 q => ?_)
        obtain ⟨rfl, rfl⟩ := q
        rw [hkn.1 (by omega)]
        refine wp_iadd dX1_takeName_20 ?_
        refine wp_i2l dX1_takeName_21 ?_
        refine wp_lret dX1_takeName_22 rfl ?_
        refine ⟨_, (s0 + (nb 192 6 k).length, false), rfl, rfl, by show s0 + _ ≤ e; omega, Or.inr ⟨ha, by omega, ?_, rfl⟩⟩
        rw [show (97 : Int32) + nI k = nI (97 + k) from nI_add 97 k, nI_l (by omega), hku]
    · -- the name of an entry
      have hF : p.1 25 ≤ j := by
        rcases Nat.lt_or_ge j (p.1 25) with q | q
        · have := hmd j q; omega
        · exact q
      have hd24 : j < p.1 24 := hj
      have hkn := k_num_nb (f := fun i => xs.getD i 0) (e := e) (n := 6) (F := 128) (v := p.1 24 - 1 - j) (a := s0) (c := false) (by decide) rfl (by omega) hsb
      have h0 : xs.getD s0 0 = 128 + min (p.1 24 - 1 - j) 63 := by
        have := hsb
        unfold nb at this
        split at this
        · rename_i c; rw [this.cons.1, Nat.min_eq_left (by omega)]
        · rename_i c; rw [this.cons.1, Nat.min_eq_right (by omega)]
      rw [h0]
      have hm : min (p.1 24 - 1 - j) 63 ≤ 63 := Nat.min_le_right _ _
      generalize min (p.1 24 - 1 - j) 63 = y at hm
      refine wp_istore_n dX1_takeName_4 (Nat.le_of_ble_eq_true rfl) rfl ?_
      refine wp_iload_n dX1_takeName_5 rfl ?_
      refine wp_sipush (v := 192) dX1_takeName_6 rfl ?_
      refine wp_icmp_lt (tgt := 23) dX1_takeName_9 rfl (fun c_9 => ?_) (fun c_9 => ?_)
      · refine wp_iload_n dX1_takeName_23 rfl ?_
        refine wp_sipush (v := 128) dX1_takeName_24 rfl ?_
        refine wp_icmp_lt (tgt := 54) dX1_takeName_27 rfl (fun c_27 => ?_) (fun c_27 => ?_)
        · have := (nI_ltI (b := 128) (by omega) (by decide)).mp c_27
          omega
        · refine wp_aload_n dX1_takeName_30 rfl ?_
          refine wp_getf dX1_takeName_31 fl_X1_14 d.1 rfl ?_
          refine wp_aload_n dX1_takeName_34 rfl ?_
          refine wp_getf dX1_takeName_35 fl_X1_14 d.1 rfl ?_
          refine wp_getf dX1_takeName_38 fl_X1_60 a1 rfl ?_
          refine wp_iconst (v := 1) dX1_takeName_41 rfl ?_
          refine wp_isub dX1_takeName_42 ?_
          refine wp_aload_n dX1_takeName_43 rfl ?_
          refine wp_bipush (v := 6) dX1_takeName_44 rfl ?_
          rw [nI_sub1 (by omega)]
          refine wp_callV (As := [.int (nI 6)]) (rest := [.int (nI (p.1 24 - 1)), .ref td]) dX1_takeName_46 me_X6_takeNumber cw_X1_56 rfl ⟨(Nat.le_of_ble_eq_true rfl), (Nat.le_of_ble_eq_true rfl)⟩ rfl rfl rfl (Nat.le_of_ble_eq_true rfl) hra (cr_num (by decide) hr) (fun r h2 q => ?_)
          obtain ⟨rfl, rfl⟩ := q
          have c1 : cf (fun x => x = 11) h (fp_put h ra 11 (rc ba e (k_num (fun i => xs.getD i 0) e 6 (s0, false)).2)) := cf.put1 hra
          have d' := d.kept c1 (by decide) (by decide)
          have hle := (k_num_le (fun i => xs.getD i 0) e 6 (s0, false)).2.1 hat
          rcases Nat.lt_or_ge e (s0 + (nb 128 6 (p.1 24 - 1 - j)).length) with q | q
          · have hcut := hkn.2 q
            refine wp_isub dX1_takeName_49 ?_
            refine wp_callV (As := [.int (nI (p.1 24 - 1) - nI (k_num (fun i => xs.getD i 0) e 6 (s0, false)).1)]) (rest := []) dX1_takeName_50 me_X8_nameAt cw_X1_63 rfl ⟨(Nat.le_of_ble_eq_true rfl), (Nat.le_of_ble_eq_true rfl)⟩ rfl rfl rfl (Nat.le_of_ble_eq_true rfl) (c1.at a1 (by decide)) (cc_nameAt d'.2) (fun r h3 z => ?_)
            obtain ⟨z0, z⟩ := z
            rw [z0]
            rcases z with ⟨-, rfl⟩ | ⟨i, -, -, -, rfl⟩
            · refine wp_lret dX1_takeName_53 rfl ?_
              exact ⟨_, _, rfl, rfl, hle, Or.inl ⟨hcut, Or.inl q⟩⟩
            · refine wp_lret dX1_takeName_53 rfl ?_
              exact ⟨_, _, rfl, rfl, hle, Or.inl ⟨hcut, Or.inl q⟩⟩
          · rw [hkn.1 q] at c1 d' hle ⊢
            refine wp_isub dX1_takeName_49 ?_
            rw [show nI (p.1 24 - 1) - nI (p.1 24 - 1 - j) = nI j by rw [pk_sub (by omega)]; congr 1; omega]
            refine wp_callV (As := [.int (nI j)]) (rest := []) dX1_takeName_50 me_X8_nameAt cw_X1_63 rfl ⟨(Nat.le_of_ble_eq_true rfl), (Nat.le_of_ble_eq_true rfl)⟩ rfl rfl rfl (Nat.le_of_ble_eq_true rfl) (c1.at a1 (by decide)) (cc_nameIn d'.2 hF hd24) (fun r h3 z => ?_)
            obtain ⟨z0, rfl⟩ := z
            rw [z0]
            refine wp_lret dX1_takeName_53 rfl ?_
            exact ⟨_, _, rfl, rfl, hle, Or.inr ⟨ha, q, by rw [hju], rfl⟩⟩
      · exact absurd (nI_lt (b := 192) (show 128 + y < 192 by omega) (by decide)) c_9
    · -- a text
      have hb8 := bln_le (p.2.2 3 (p.1 24))
      have e1 : nb 64 5 (bln (p.2.2 3 (p.1 24))) = [64 + bln (p.2.2 3 (p.1 24))] := by rw [nb, if_pos (by omega)]
      have h0 : xs.getD s0 0 = 64 + bln (p.2.2 3 (p.1 24)) := by rw [e1] at hsb; exact hsb.cons.1
      have hkt := k_txt_tx (f := fun i => xs.getD i 0) (e := e) (n := 5) (F := 64) (u := p.2.2 3 (p.1 24)) (a := s0) (c := false) (by decide) rfl hu' hsb
      have hle := (k_txt_le (fun i => xs.getD i 0) e 5 (s0, false)).2.1 hat
      rw [h0]
      refine wp_istore_n dX1_takeName_4 (Nat.le_of_ble_eq_true rfl) rfl ?_
      refine wp_iload_n dX1_takeName_5 rfl ?_
      refine wp_sipush (v := 192) dX1_takeName_6 rfl ?_
      refine wp_icmp_lt (tgt := 23) dX1_takeName_9 rfl (fun c_9 => ?_) (fun c_9 => ?_)
      · refine wp_iload_n dX1_takeName_23 rfl ?_
        refine wp_sipush (v := 128) dX1_takeName_24 rfl ?_
        refine wp_icmp_lt (tgt := 54) dX1_takeName_27 rfl (fun c_27 => ?_) (fun c_27 => ?_)
        · refine wp_aload_n dX1_takeName_54 rfl ?_
          refine wp_iconst (v := 5) dX1_takeName_55 rfl ?_
          refine wp_callV (As := [.int (nI 5)]) (rest := []) dX1_takeName_56 me_X6_takeText cw_X1_38 rfl ⟨(Nat.le_of_ble_eq_true rfl), (Nat.le_of_ble_eq_true rfl)⟩ rfl rfl rfl (Nat.le_of_ble_eq_true rfl) hra (cr_txt (by decide) hr) (fun r h2 q => ?_)
          obtain ⟨rfl, rfl⟩ := q
          refine wp_lret dX1_takeName_59 rfl ?_
          refine ⟨_, _, rfl, rfl, hle, ?_⟩
          rcases Nat.lt_or_ge e (s0 + (nb 64 5 (bln (p.2.2 3 (p.1 24))) ++ txb (p.2.2 3 (p.1 24))).length) with q | q
          · exact Or.inl ⟨hkt.2 q hat, Or.inl q⟩
          · rw [hkt.1 q]
            exact Or.inr ⟨ha, q, rfl, rfl⟩
        · exact absurd (nI_lt (b := 128) (show 64 + bln (p.2.2 3 (p.1 24)) < 128 by omega) (by decide)) c_27
      · exact absurd (nI_lt (b := 192) (show 64 + bln (p.2.2 3 (p.1 24)) < 192 by omega) (by decide)) c_9
  · have hfr : k_fr (fun i => xs.getD i 0) e (s0, false) = (0, (s0, true)) := by unfold k_fr; rw [if_neg ha]
    rw [hfr]
    have hr1 := hr.put (s' := (s0, true)) hat
    refine wp_istore_n dX1_takeName_4 (Nat.le_of_ble_eq_true rfl) rfl ?_
    refine wp_iload_n dX1_takeName_5 rfl ?_
    refine wp_sipush (v := 192) dX1_takeName_6 rfl ?_
    refine wp_icmp_lt (tgt := 23) dX1_takeName_9 rfl (fun c_9 => ?_) (fun c_9 => ?_)
    · refine wp_iload_n dX1_takeName_23 rfl ?_
      refine wp_sipush (v := 128) dX1_takeName_24 rfl ?_
      refine wp_icmp_lt (tgt := 54) dX1_takeName_27 rfl (fun c_27 => ?_) (fun c_27 => ?_)
      · refine wp_aload_n dX1_takeName_54 rfl ?_
        refine wp_iconst (v := 5) dX1_takeName_55 rfl ?_
        refine wp_callV (As := [.int (nI 5)]) (rest := []) dX1_takeName_56 me_X6_takeText cw_X1_38 rfl ⟨(Nat.le_of_ble_eq_true rfl), (Nat.le_of_ble_eq_true rfl)⟩ rfl rfl rfl (Nat.le_of_ble_eq_true rfl) hr1.1 (cr_txt (by decide) hr1) (fun r h2 q => ?_)
        obtain ⟨rfl, rfl⟩ := q
        refine wp_lret dX1_takeName_59 rfl ?_
        have hle := k_txt_le (fun i => xs.getD i 0) e 5 (s0, true)
        rw [fp_put_put]
        exact ⟨_, _, rfl, rfl, hle.2.1 hat, Or.inl ⟨hle.2.2 rfl, Or.inr (by omega)⟩⟩
      · exact absurd (show nI 0 < 128 by decide) c_27
    · exact absurd (show nI 0 < 192 by decide) c_9
def oS : Nat → Prop := fun t => t = 11 ∨ t = 16
theorem co_one (d : DN h de td p) (hr : rdr h 11 ra 10 ba (wlx p 13 6) e (r_is p (p.1 24), false)) (hD : r_D p) (hmd : MD p) (hib : IB p) : fp_ct G rm_X1_obeyOne M_X1_obeyOne [.ref de, .ref ra] h (fun r h' => (¬ (p.1 24 < p.1 6 ∧ p.2.1 5 (p.1 24) ≤ e) ∧ r = some (.int 0) ∧ h' = h) ∨ ((p.1 24 < p.1 6 ∧ p.2.1 5 (p.1 24) ≤ e) ∧ r = some (.int 1) ∧ DN h' de td (r_got1 p) ∧ h'.1 ra = some (11, rc ba e (r_is p (p.1 24 + 1), false)) ∧ cf oS h h' ∧ h'.2 = h.2)) := by
  have hra := hr.1
  have hat := hr.2.2.2.2.1
  have hlen := hr.2.2.1
  rw [wlx_len] at hlen
  have d24 := hD.2.2.1
  have ok := hD.1
  obtain ⟨n1, n2, n3, f1, f2, f3, a1, -⟩ := d.2.ex
  have hex : ∃ A, (r_is p (p.1 24) < e → p.1 24 < p.1 6 ∧ frm p (p.1 24) A ∧ sb (fun i => (wlx p 13 6).getD i 0) (r_is p (p.1 24)) (A ++ vlb (p.2.2 4 (p.1 24))) ∧ p.2.1 5 (p.1 24) = r_is p (p.1 24) + (A ++ vlb (p.2.2 4 (p.1 24))).length) ∧ (p.1 24 < p.1 6 → r_is p (p.1 24) < p.2.1 5 (p.1 24)) := by
    by_cases c : p.1 24 < p.1 6
    · obtain ⟨A, h1, h2, h3⟩ := hib.1 _ c
      refine ⟨A, fun _ => ⟨c, h1, sb_wlx h2 ?_, h3⟩, fun _ => ?_⟩
      · have := hib.end c; omega
      · have := vlb_pos (p.2.2 4 (p.1 24)); rw [h3, List.length_append]; omega
    · refine ⟨[], fun z => ?_, fun z => absurd z c⟩
      have : p.1 24 = p.1 6 := by omega
      rw [this, hib.2] at z
      omega
  obtain ⟨A, hA, hpos⟩ := hex
  generalize hs0 : r_is p (p.1 24) = s0 at hr hra hat hA hpos ⊢
  refine fp_meth pn_X1 (Nat.le_of_ble_eq_true rfl) rfl ?_
  refine wp_aload_n dX1_obeyOne_0 rfl ?_
  refine wp_getf dX1_obeyOne_1 fl_X1_30 hra rfl ?_
  refine wp_istore_n dX1_obeyOne_4 (Nat.le_of_ble_eq_true rfl) rfl ?_
  refine wp_aload_n dX1_obeyOne_5 rfl ?_
  refine wp_aload_n dX1_obeyOne_6 rfl ?_
  refine wp_callV (As := [.ref ra]) (rest := []) dX1_obeyOne_7 me_X1_takeName cw_X1_34 rfl ⟨(Nat.le_of_ble_eq_true rfl), (Nat.le_of_ble_eq_true rfl)⟩ rfl rfl rfl (Nat.le_of_ble_eq_true rfl) d.1 (co_name d hr hmd (fun z => ⟨(hA z).1, (hA z).2.1, (hA z).2.2.1.app.1⟩) (fun j => ok.2.2 3 j)) (fun r h1 q => ?_)
  obtain ⟨x, s1, rfl, rfl, hs1, hc⟩ := q
  have hr1 := hr.put hs1
  refine wp_lstore_n dX1_obeyOne_10 (Nat.le_of_ble_eq_true rfl) rfl ?_
  refine wp_aload_n dX1_obeyOne_11 rfl ?_
  refine wp_bipush (v := 7) dX1_obeyOne_12 rfl ?_
  refine wp_callV (As := [.int (nI 7)]) (rest := []) dX1_obeyOne_14 me_X6_takeText cw_X1_38 rfl ⟨(Nat.le_of_ble_eq_true rfl), (Nat.le_of_ble_eq_true rfl)⟩ rfl rfl rfl (Nat.le_of_ble_eq_true rfl) hr1.1 (cr_txt (by decide) hr1) (fun r h2 q => ?_)
  obtain ⟨rfl, rfl⟩ := q
  rw [fp_put_put]
  have hle := k_txt_le (fun i => (wlx p 13 6).getD i 0) e 7 s1
  have hle1 := hle.2.1 hs1
  have hr2 := hr.put hle1
  -- whole, or not
  have hcase : ((k_txt (fun i => (wlx p 13 6).getD i 0) e 7 s1).2.2 = true ∧ ¬ (p.1 24 < p.1 6 ∧ p.2.1 5 (p.1 24) ≤ e)) ∨ ((p.1 24 < p.1 6 ∧ p.2.1 5 (p.1 24) ≤ e) ∧ x = lN (p.2.2 3 (p.1 24)) ∧ k_txt (fun i => (wlx p 13 6).getD i 0) e 7 s1 = (p.2.2 4 (p.1 24), (p.2.1 5 (p.1 24), false))) := by
    rcases hc with ⟨c1, c2⟩ | ⟨c1, c2, c3, c4⟩
    · refine Or.inl ⟨hle.2.2 c1, fun z => ?_⟩
      have hp := hpos z.1
      rcases c2 with c2 | c2
      · have := (hA (by omega)).2.2.2
        rw [List.length_append] at this
        omega
      · omega
    · obtain ⟨h24, -, hsb, hend⟩ := hA c1
      have hkt := k_txt_tx (f := fun i => (wlx p 13 6).getD i 0) (e := e) (n := 7) (F := 0) (u := p.2.2 4 (p.1 24)) (a := s0 + A.length) (c := false) (by decide) rfl (ok.2.2 4 _) hsb.app.2
      have hend2 : p.2.1 5 (p.1 24) = s0 + A.length + (nb 0 7 (bln (p.2.2 4 (p.1 24))) ++ txb (p.2.2 4 (p.1 24))).length := by rw [hend, List.length_append]; unfold vlb; omega
      rw [c4]
      rcases Nat.lt_or_ge e (p.2.1 5 (p.1 24)) with q | q
      · exact Or.inl ⟨hkt.2 (by omega) c2, fun z => by omega⟩
      · exact Or.inr ⟨⟨h24, q⟩, c3, by rw [hkt.1 (by omega), ← hend2]⟩
  generalize k_txt (fun i => (wlx p 13 6).getD i 0) e 7 s1 = z at hle hle1 hr2 hcase ⊢
  refine wp_lstore dX1_obeyOne_17 (Nat.le_of_ble_eq_true rfl) rfl ?_
  refine wp_aload_n dX1_obeyOne_19 rfl ?_
  refine wp_getf dX1_obeyOne_20 fl_X1_42 hr2.1 rfl ?_
  refine wp_if_eq (tgt := 33) dX1_obeyOne_23 rfl (fun c_23 => ?_) (fun c_23 => ?_)
  · have hz2 : z.2.2 = false := b2n_0.mp c_23
    rcases hcase with ⟨hc, -⟩ | ⟨hw, hx, hz⟩
    · rw [hc] at hz2; cases hz2
    have c1 : cf (fun x => x = 11) h (fp_put h ra 11 (rc ba e z.2)) := cf.put1 hra
    have s1' : (fp_put h ra 11 (rc ba e z.2)).2 = h.2 := rfl
    have d' := d.kept c1 (by decide) (by decide)
    have e1 : (fp_put h ra 11 (rc ba e z.2)).1 ra = some (11, rc ba e (r_is p (p.1 24 + 1), false)) := by rw [r_is_s, ← show z.2 = (p.2.1 5 (p.1 24), false) by rw [hz]]; exact fp_put_eq
    have hz1 : z.1 = p.2.2 4 (p.1 24) := by rw [hz]
    rw [hz1, hx]
    have a1' := c1.at a1 (by decide)
    generalize fp_put h ra 11 (rc ba e z.2) = h3 at c1 s1' d' e1 a1' ⊢
    obtain ⟨hD', g24, g2, gk⟩ := hD.got1 hw.1
    refine wp_aload_n dX1_obeyOne_33 rfl ?_
    refine wp_getf dX1_obeyOne_34 fl_X1_14 d'.1 rfl ?_
    refine wp_lload_n dX1_obeyOne_37 rfl ?_
    refine wp_lload dX1_obeyOne_38 rfl ?_
    refine wp_callV (As := [.long (lN (p.2.2 3 (p.1 24))), .long (lN (p.2.2 4 (p.1 24)))]) (rest := []) dX1_obeyOne_40 me_X8_insert cw_X1_49 rfl ⟨(Nat.le_of_ble_eq_true rfl), (Nat.le_of_ble_eq_true rfl)⟩ rfl rfl rfl (Nat.le_of_ble_eq_true rfl) a1' (cc_insert (nm' := p.2.2 3) (vl' := p.2.2 4) d'.2 (ok.2.2 3 _) (ok.2.2 4 _) (hD.2.2.2.2.2.2.2 _ hw.1) (by have := hD.2.1; omega) ⟨rfl, rfl⟩ (fun j _ => ⟨rfl, rfl⟩)) (fun r h4 y => ?_)
    obtain ⟨rfl, y1, y2, y3⟩ := y
    refine wp_iconst (v := 1) dX1_obeyOne_43 rfl ?_
    refine wp_iret dX1_obeyOne_44 rfl rfl ?_
    refine Or.inr ⟨hw, rfl, ⟨?_, ?_⟩, y2.at e1 (by decide), (c1.mono (fun t z => Or.inl z)).trans (y2.mono (fun t z => Or.inr z)), by rw [y3, s1']⟩
    · rw [gk 27 (by decide) (by decide) (by decide)]
      exact y2.at d'.1 (by decide)
    · have e26 := hD'.2.2.2.2.1
      rw [r_sum_tsum, g2, r_got1_25, g24] at e26
      rw [g2, gk 0 (by decide) (by decide) (by decide), g24, e26, r_got1_25]
      exact y1
  · have hz2 : z.2.2 = true := by
      cases hd : z.2.2 with
      | true => rfl
      | false => rw [hd] at c_23; exact absurd rfl c_23
    rcases hcase with ⟨-, hc⟩ | ⟨-, -, hz⟩
    · refine wp_aload_n dX1_obeyOne_26 rfl ?_
      refine wp_iload_n dX1_obeyOne_27 rfl ?_
      refine wp_callV (As := [.int (nI s0)]) (rest := []) dX1_obeyOne_28 me_X6_rewind cw_X1_46 rfl ⟨(Nat.le_of_ble_eq_true rfl), (Nat.le_of_ble_eq_true rfl)⟩ rfl rfl rfl (Nat.le_of_ble_eq_true rfl) hr2.1 (cr_rewind hr2) (fun r h3 q => ?_)
      obtain ⟨rfl, rfl⟩ := q
      refine wp_iconst (v := 0) dX1_obeyOne_31 rfl ?_
      refine wp_iret dX1_obeyOne_32 rfl rfl ?_
      refine Or.inl ⟨hc, rfl, ?_⟩
      rw [fp_put_put]
      exact fp_put_self hra
    · rw [hz] at hz2; cases hz2
end CO
