/-! the reference: next, opens, waits, isBusy, mayInsert -/
def r_nx (p : rs) (x : Int32) (k : Nat) : Bool := nI (p.2.1 11 k) == x && p.2.1 14 k == 0
def r_next (p : rs) (x : Int32) : Option Nat := (List.range (p.1 28)).find? (r_nx p x)
def r_opTo (p : rs) (n : Nat) : Nat := ((List.range n).filter (fun k => p.2.1 13 k != 0)).length
def r_wt (p : rs) (b : Bool) (s : Nat) : Nat := if b then b2n (decide (0 < r_lying p s 1)) else r_lying p s 1
def r_wtTo (p : rs) (b : Bool) : Nat → Nat
  | 0 => 0
  | s + 1 => r_wtTo p b s + r_wt p b s
def r_busyIn (p : rs) (j k n : Nat) : Bool := (List.range n).any (fun i => p.2.1 19 (12 * k + i) == j)
def r_busyAt (p : rs) (j k : Nat) : Bool := (k == p.1 28 || p.2.1 13 k != 0) && r_busyIn p j k (p.2.1 20 k)
def r_busyTo (p : rs) (j n : Nat) : Bool := decide (p.1 12 ≤ j) || (List.range n).any (r_busyAt p j)
def r_busy (p : rs) (j : Nat) : Bool := r_busyTo p j (min (p.1 28 + 1) 200)
def r_sz (p : rs) (i : Nat) : Nat := 32 + bln (p.2.2 3 i) + bln (p.2.2 4 i)
theorem r_sz_le (p : rs) (i : Nat) : 32 ≤ r_sz p i ∧ r_sz p i ≤ 48 := by
  have := bln_le (p.2.2 3 i); have := bln_le (p.2.2 4 i)
  unfold r_sz; omega
/-- the sizes of n entries from a on -/
def r_sum (p : rs) (a : Nat) : Nat → Nat
  | 0 => 0
  | n + 1 => r_sz p a + r_sum p (a + 1) n
/-- may a field of that size come in: n entries from j on are there, of size now -/
def r_mayTo (p : rs) (size : Nat) : Nat → Nat → Nat → Bool
  | 0, _, _ => true
  | n + 1, now, j => if now + size ≤ p.1 0 then true else if r_busy p j then false else r_mayTo p size n (now - r_sz p j) (j + 1)
def r_may (p : rs) (size : Nat) : Bool := decide (size ≤ p.1 0) && r_mayTo p size (p.1 6 - p.1 10) (p.1 11) (p.1 10)
theorem dX11_mayInsert_0 : decode cX11_mayInsert 0 = .ok (.iload_n 1, 1) := by decide +kernel
theorem dX11_mayInsert_1 : decode cX11_mayInsert 1 = .ok (.aload_n 0, 1) := by decide +kernel
theorem dX11_mayInsert_2 : decode cX11_mayInsert 2 = .ok (.getfield 91, 3) := by decide +kernel
theorem dX11_mayInsert_5 : decode cX11_mayInsert 5 = .ok (.if_icmp .le 5, 3) := by decide +kernel
theorem dX11_mayInsert_8 : decode cX11_mayInsert 8 = .ok (.iconst 0, 1) := by decide +kernel
theorem dX11_mayInsert_9 : decode cX11_mayInsert 9 = .ok (.ireturn, 1) := by decide +kernel
theorem dX11_mayInsert_10 : decode cX11_mayInsert 10 = .ok (.aload_n 0, 1) := by decide +kernel
theorem dX11_mayInsert_11 : decode cX11_mayInsert 11 = .ok (.getfield 153, 3) := by decide +kernel
theorem dX11_mayInsert_14 : decode cX11_mayInsert 14 = .ok (.istore_n 2, 1) := by decide +kernel
theorem dX11_mayInsert_15 : decode cX11_mayInsert 15 = .ok (.aload_n 0, 1) := by decide +kernel
theorem dX11_mayInsert_16 : decode cX11_mayInsert 16 = .ok (.getfield 140, 3) := by decide +kernel
theorem dX11_mayInsert_19 : decode cX11_mayInsert 19 = .ok (.istore_n 3, 1) := by decide +kernel
theorem dX11_mayInsert_20 : decode cX11_mayInsert 20 = .ok (.iload_n 2, 1) := by decide +kernel
theorem dX11_mayInsert_21 : decode cX11_mayInsert 21 = .ok (.iload_n 1, 1) := by decide +kernel
theorem dX11_mayInsert_22 : decode cX11_mayInsert 22 = .ok (.iadd, 1) := by decide +kernel
theorem dX11_mayInsert_23 : decode cX11_mayInsert 23 = .ok (.aload_n 0, 1) := by decide +kernel
theorem dX11_mayInsert_24 : decode cX11_mayInsert 24 = .ok (.getfield 91, 3) := by decide +kernel
theorem dX11_mayInsert_27 : decode cX11_mayInsert 27 = .ok (.if_icmp .le 37, 3) := by decide +kernel
theorem dX11_mayInsert_30 : decode cX11_mayInsert 30 = .ok (.aload_n 0, 1) := by decide +kernel
theorem dX11_mayInsert_31 : decode cX11_mayInsert 31 = .ok (.iload_n 3, 1) := by decide +kernel
theorem dX11_mayInsert_32 : decode cX11_mayInsert 32 = .ok (.invokevirtual 156, 3) := by decide +kernel
theorem dX11_mayInsert_35 : decode cX11_mayInsert 35 = .ok (.ifCond .eq 5, 3) := by decide +kernel
theorem dX11_mayInsert_38 : decode cX11_mayInsert 38 = .ok (.iconst 0, 1) := by decide +kernel
theorem dX11_mayInsert_39 : decode cX11_mayInsert 39 = .ok (.ireturn, 1) := by decide +kernel
theorem dX11_mayInsert_40 : decode cX11_mayInsert 40 = .ok (.iload_n 2, 1) := by decide +kernel
theorem dX11_mayInsert_41 : decode cX11_mayInsert 41 = .ok (.aload_n 0, 1) := by decide +kernel
theorem dX11_mayInsert_42 : decode cX11_mayInsert 42 = .ok (.getfield 20, 3) := by decide +kernel
theorem dX11_mayInsert_45 : decode cX11_mayInsert 45 = .ok (.iload_n 3, 1) := by decide +kernel
theorem dX11_mayInsert_46 : decode cX11_mayInsert 46 = .ok (.laload, 1) := by decide +kernel
theorem dX11_mayInsert_47 : decode cX11_mayInsert 47 = .ok (.aload_n 0, 1) := by decide +kernel
theorem dX11_mayInsert_48 : decode cX11_mayInsert 48 = .ok (.getfield 23, 3) := by decide +kernel
theorem dX11_mayInsert_51 : decode cX11_mayInsert 51 = .ok (.iload_n 3, 1) := by decide +kernel
theorem dX11_mayInsert_52 : decode cX11_mayInsert 52 = .ok (.laload, 1) := by decide +kernel
theorem dX11_mayInsert_53 : decode cX11_mayInsert 53 = .ok (.invokestatic 159, 3) := by decide +kernel
theorem dX11_mayInsert_56 : decode cX11_mayInsert 56 = .ok (.isub, 1) := by decide +kernel
theorem dX11_mayInsert_57 : decode cX11_mayInsert 57 = .ok (.istore_n 2, 1) := by decide +kernel
theorem dX11_mayInsert_58 : decode cX11_mayInsert 58 = .ok (.iinc 3 1, 3) := by decide +kernel
theorem dX11_mayInsert_61 : decode cX11_mayInsert 61 = .ok (.goto (-41), 3) := by decide +kernel
theorem dX11_mayInsert_64 : decode cX11_mayInsert 64 = .ok (.iconst 1, 1) := by decide +kernel
theorem dX11_mayInsert_65 : decode cX11_mayInsert 65 = .ok (.ireturn, 1) := by decide +kernel
section RM
variable {G : fp_G} {h0 : fp_H} {m : Nat}
theorem ct_next {p : rs} {x : Int32} (ok : rok p) (hc : p.1 28 ≤ 200) : fp_ct G rm_X11_next M_X11_next [.ref m, .int x] (r_hp h0 m p) (fun r h' => h' = r_hp h0 m p ∧ r = some (.int (oI (r_next p x)))) := by
  refine fp_meth pn_X11 (Nat.le_of_ble_eq_true rfl) rfl ?_
  refine wp_iconst (v := 0) dX11_next_0 rfl ?_
  refine wp_istore_n dX11_next_1 (Nat.le_of_ble_eq_true rfl) rfl ?_
  have loop : ∀ n j : Nat, j ≤ p.1 28 → p.1 28 - j < n → (∀ k, k < j → r_nx p x k = false) → fp_wp G rm_X11_next M_X11_next 2 [some (.ref m), some (.int x), some (.int (nI j))] [] (r_hp h0 m p) (fun r h' => h' = r_hp h0 m p ∧ r = some (.int (oI (r_next p x)))) := by
    intro n
    induction n with
    | zero => intro j _ h2 _; omega
    | succ n ih =>
      intro j hj hn hno
      refine wp_iload_n dX11_next_2 rfl ?_
      refine wp_aload_n dX11_next_3 rfl ?_
      refine wr_geti 28 dX11_next_4 fl_X11_143 ⟨by decide, rfl⟩ ?_
      refine wp_icmp_ge (tgt := 37) dX11_next_7 rfl (fun c_7 => ?_) (fun c_7 => ?_)
      · have e8 : j = p.1 28 := by
          have := (nI_leI (by omega) (by omega)).mp c_7
          omega
        refine wp_iconst (v := (-1)) dX11_next_37 rfl ?_
        refine wp_iret dX11_next_38 rfl rfl ?_
        refine ⟨rfl, ?_⟩
        have : r_next p x = none := by
          rw [r_next, List.find?_eq_none]
          intro k hk
          rw [hno k (by rw [e8]; exact List.mem_range.mp hk)]
          decide
        rw [this]
        rfl
      · have hj8 : j < p.1 28 := by
          rcases Nat.lt_or_ge j (p.1 28) with q | q
          · exact q
          · exact absurd (nI_le q (by omega)) c_7
        have h11 := ok.2.1 11 j
        have h14 := ok.2.1 14 j
        have back : r_nx p x j = false → fp_wp G rm_X11_next M_X11_next 31 [some (.ref m), some (.int x), some (.int (nI j))] [] (r_hp h0 m p) (fun r h' => h' = r_hp h0 m p ∧ r = some (.int (oI (r_next p x)))) := by
          intro hz
          refine wp_iinc dX11_next_31 rfl rfl ?_
          refine wp_goto (tgt := 2) dX11_next_34 rfl ?_
          rw [show nI j + Int32.ofInt 1 = nI (j + 1) from nI_1 j]
          exact ih (j + 1) (by omega) (by omega) (fun k hk => by
            rcases (show k < j ∨ k = j by omega) with q | q
            · exact hno k q
            · rw [q]; exact hz)
        refine wp_aload_n dX11_next_10 rfl ?_
        refine wr_geta 29 11 dX11_next_11 fl_X11_46 ⟨by decide, rfl⟩ ?_
        refine wp_iload_n dX11_next_14 rfl ?_
        refine wr_iald dX11_next_15 ⟨by decide, rfl⟩ rfl (by show j < 200; omega) (by decide) ?_
        refine wp_iload_n dX11_next_16 rfl ?_
        refine wp_icmp_ne (tgt := 31) dX11_next_17 rfl (fun c_17 => ?_) (fun c_17 => ?_)
        · exact back (by simp [r_nx, c_17])
        · refine wp_aload_n dX11_next_20 rfl ?_
          refine wr_geta 32 14 dX11_next_21 fl_X11_55 ⟨by decide, rfl⟩ ?_
          refine wp_iload_n dX11_next_24 rfl ?_
          refine wr_iald dX11_next_25 ⟨by decide, rfl⟩ rfl (by show j < 200; omega) (by decide) ?_
          refine wp_if_ne (tgt := 31) dX11_next_26 rfl (fun c_26 => ?_) (fun c_26 => ?_)
          · have : p.2.1 14 j ≠ 0 := fun e => c_26 (by rw [e]; rfl)
            exact back (by simp [r_nx, this])
          · have : p.2.1 14 j = 0 := (nI_eq (b := 0) (by omega) (by decide)).mp c_26
            refine wp_iload_n dX11_next_29 rfl ?_
            refine wp_iret dX11_next_30 rfl rfl ?_
            refine ⟨rfl, ?_⟩
            have : r_next p x = some j := by
              rw [r_next, List.find?_range_eq_some]
              refine ⟨by simp [r_nx, c_17, this], List.mem_range.mpr hj8, fun k hk => by rw [hno k hk]; rfl⟩
            rw [this]
            rfl
  exact loop (p.1 28 + 1) 0 (by omega) (by omega) (fun k hk => by omega)
theorem ct_opens {p : rs} (ok : rok p) (hc : p.1 28 ≤ 200) : fp_ct G rm_X11_opens M_X11_opens [.ref m] (r_hp h0 m p) (fun r h' => h' = r_hp h0 m p ∧ r = some (.int (nI (r_opTo p (p.1 28))))) := by
  refine fp_meth pn_X11 (Nat.le_of_ble_eq_true rfl) rfl ?_
  refine wp_iconst (v := 0) dX11_opens_0 rfl ?_
  refine wp_istore_n dX11_opens_1 (Nat.le_of_ble_eq_true rfl) rfl ?_
  refine wp_iconst (v := 0) dX11_opens_2 rfl ?_
  refine wp_istore_n dX11_opens_3 (Nat.le_of_ble_eq_true rfl) rfl ?_
  have loop : ∀ n j : Nat, j ≤ p.1 28 → p.1 28 - j < n → fp_wp G rm_X11_opens M_X11_opens 4 [some (.ref m), some (.int (nI (r_opTo p j))), some (.int (nI j))] [] (r_hp h0 m p) (fun r h' => h' = r_hp h0 m p ∧ r = some (.int (nI (r_opTo p (p.1 28))))) := by
    intro n
    induction n with
    | zero => intro j _ h2; omega
    | succ n ih =>
      intro j hj hn
      refine wp_iload_n dX11_opens_4 rfl ?_
      refine wp_aload_n dX11_opens_5 rfl ?_
      refine wr_geti 28 dX11_opens_6 fl_X11_143 ⟨by decide, rfl⟩ ?_
      refine wp_icmp_ge (tgt := 35) dX11_opens_9 rfl (fun c_9 => ?_) (fun c_9 => ?_)
      · have e8 : j = p.1 28 := by
          have := (nI_leI (by omega) (by omega)).mp c_9
          omega
        refine wp_iload_n dX11_opens_35 rfl ?_
        refine wp_iret dX11_opens_36 rfl rfl ?_
        exact ⟨rfl, by rw [← e8]⟩
      · have hj8 : j < p.1 28 := by
          rcases Nat.lt_or_ge j (p.1 28) with q | q
          · exact q
          · exact absurd (nI_le q (by omega)) c_9
        have h13 := ok.2.1 13 j
        have hi := ih (j + 1) (by omega) (by omega)
        rw [show r_opTo p (j + 1) = r_opTo p j + b2n (p.2.1 13 j != 0) from cnt_s _ _] at hi
        refine wp_iload_n dX11_opens_12 rfl ?_
        refine wp_aload_n dX11_opens_13 rfl ?_
        refine wr_geta 31 13 dX11_opens_14 fl_X11_52 ⟨by decide, rfl⟩ ?_
        refine wp_iload_n dX11_opens_17 rfl ?_
        refine wr_zald dX11_opens_18 ⟨by decide, rfl⟩ rfl (by show j < 200; omega) (by decide) ?_
        refine wp_if_eq (tgt := 26) dX11_opens_19 rfl (fun c_19 => ?_) (fun c_19 => ?_)
        · have : p.2.1 13 j = 0 := (nI_eq (b := 0) (by omega) (by decide)).mp c_19
          rw [this] at hi
          refine wp_iconst (v := 0) dX11_opens_26 rfl ?_
          refine wp_iadd dX11_opens_27 ?_
          refine wp_istore_n dX11_opens_28 (Nat.le_of_ble_eq_true rfl) rfl ?_
          refine wp_iinc dX11_opens_29 rfl rfl ?_
          refine wp_goto (tgt := 4) dX11_opens_32 rfl ?_
          rw [show nI j + Int32.ofInt 1 = nI (j + 1) from nI_1 j, show nI (r_opTo p j) + 0 = nI (r_opTo p j + 0) from nI_add _ 0]
          exact hi
        · have : p.2.1 13 j ≠ 0 := fun e => c_19 (by rw [e]; rfl)
          rw [show (p.2.1 13 j != 0) = true by simp [this]] at hi
          refine wp_iconst (v := 1) dX11_opens_22 rfl ?_
          refine wp_goto (tgt := 27) dX11_opens_23 rfl ?_
          refine wp_iadd dX11_opens_27 ?_
          refine wp_istore_n dX11_opens_28 (Nat.le_of_ble_eq_true rfl) rfl ?_
          refine wp_iinc dX11_opens_29 rfl rfl ?_
          refine wp_goto (tgt := 4) dX11_opens_32 rfl ?_
          rw [show nI j + Int32.ofInt 1 = nI (j + 1) from nI_1 j, nI_1]
          exact hi
  exact loop (p.1 28 + 1) 0 (by omega) (by omega)
theorem ct_waits {p : rs} {b : Bool} (ok : rok p) (hc : p.1 28 ≤ 200) : fp_ct G rm_X11_waits M_X11_waits [.ref m, .int (nI (b2n b))] (r_hp h0 m p) (fun r h' => h' = r_hp h0 m p ∧ r = some (.int (nI (r_wtTo p b 8)))) := by
  refine fp_meth pn_X11 (Nat.le_of_ble_eq_true rfl) rfl ?_
  refine wp_iconst (v := 0) dX11_waits_0 rfl ?_
  refine wp_istore_n dX11_waits_1 (Nat.le_of_ble_eq_true rfl) rfl ?_
  refine wp_iconst (v := 0) dX11_waits_2 rfl ?_
  refine wp_istore_n dX11_waits_3 (Nat.le_of_ble_eq_true rfl) rfl ?_
  have loop : ∀ (n j : Nat) (o4 : Option Value), j ≤ 8 → 8 - j < n → (∀ v, o4 = some v → v.category = 1) → fp_wp G rm_X11_waits M_X11_waits 4 [some (.ref m), some (.int (nI (b2n b))), some (.int (nI (r_wtTo p b j))), some (.int (nI j)), o4] [] (r_hp h0 m p) (fun r h' => h' = r_hp h0 m p ∧ r = some (.int (nI (r_wtTo p b 8)))) := by
    intro n
    induction n with
    | zero => intro j _ _ h2 _; omega
    | succ n ih =>
      intro j o4 hj hn ho4
      refine wp_iload_n dX11_waits_4 rfl ?_
      refine wp_bipush (v := 8) dX11_waits_5 rfl ?_
      refine wp_icmp_ge (tgt := 46) dX11_waits_7 rfl (fun c_7 => ?_) (fun c_7 => ?_)
      · have e8 : j = 8 := by
          have := (nI_leI (a := 8) (b := j) (by decide) (by omega)).mp c_7
          omega
        subst e8
        refine wp_iload_n dX11_waits_46 rfl ?_
        refine wp_iret dX11_waits_47 rfl rfl ?_
        exact ⟨rfl, rfl⟩
      · have hj8 : j < 8 := by
          rcases Nat.lt_or_ge j 8 with q | q
          · exact q
          · exact absurd (nI_le q (by omega)) c_7
        have hi := ih (j + 1) (some (.int (nI (r_lying p j 1)))) (by omega) (by omega) (fun v e => by cases e; rfl)
        rw [show r_wtTo p b (j + 1) = r_wtTo p b j + r_wt p b j from rfl] at hi
        have hly : r_lying p j 1 ≤ 200 := Nat.le_trans (cnt_le _ _) hc
        refine wp_aload_n dX11_waits_10 rfl ?_
        refine wp_iload_n dX11_waits_11 rfl ?_
        refine wp_iconst (v := 1) dX11_waits_12 rfl ?_
        refine wp_callV (As := [.int (nI j), .int (nI 1)]) (rest := []) dX11_waits_13 me_X11_lying cw_X11_192 rfl ⟨(Nat.le_of_ble_eq_true rfl), (Nat.le_of_ble_eq_true rfl)⟩ rfl rfl rfl (Nat.le_of_ble_eq_true rfl) r_at_m (ct_lying ok (by omega) (by decide) hc) (fun r h1 q => ?_)
        obtain ⟨rfl, rfl⟩ := q
        refine wp_istore dX11_waits_16 (Nat.le_of_ble_eq_true rfl) rfl ?_
        refine wp_iload_n dX11_waits_18 rfl ?_
        refine wp_iload_n dX11_waits_19 rfl ?_
        refine wp_if_eq (tgt := 36) dX11_waits_20 rfl (fun c_20 => ?_) (fun c_20 => ?_)
        · rw [show r_wt p b j = r_lying p j 1 by rw [r_wt, b2n_0.mp c_20]; rfl] at hi
          refine wp_iload dX11_waits_36 rfl ?_
          refine wp_iadd dX11_waits_38 ?_
          refine wp_istore_n dX11_waits_39 (Nat.le_of_ble_eq_true rfl) rfl ?_
          refine wp_iinc dX11_waits_40 rfl rfl ?_
          refine wp_goto (tgt := 4) dX11_waits_43 rfl ?_
          rw [show nI j + Int32.ofInt 1 = nI (j + 1) from nI_1 j, nI_add]
          exact hi
        · have hb : b = true := by cases b with | true => rfl | false => exact absurd rfl c_20
          subst hb
          refine wp_iload dX11_waits_23 rfl ?_
          refine wp_if_le (tgt := 32) dX11_waits_25 rfl (fun c_25 => ?_) (fun c_25 => ?_)
          · have : r_lying p j 1 = 0 := by
              have := (nI_leI (b := 0) (by omega) (by decide)).mp c_25
              omega
            rw [show r_wt p true j = 0 by simp [r_wt, this, b2n]] at hi
            refine wp_iconst (v := 0) dX11_waits_32 rfl ?_
            refine wp_goto (tgt := 38) dX11_waits_33 rfl ?_
            refine wp_iadd dX11_waits_38 ?_
            refine wp_istore_n dX11_waits_39 (Nat.le_of_ble_eq_true rfl) rfl ?_
            refine wp_iinc dX11_waits_40 rfl rfl ?_
            refine wp_goto (tgt := 4) dX11_waits_43 rfl ?_
            rw [show nI j + Int32.ofInt 1 = nI (j + 1) from nI_1 j, show nI (r_wtTo p true j) + 0 = nI (r_wtTo p true j + 0) from nI_add _ 0]
            exact hi
          · have : 0 < r_lying p j 1 := by
              rcases Nat.eq_zero_or_pos (r_lying p j 1) with q | q
              · exact absurd (by rw [q]; decide) c_25
              · exact q
            rw [show r_wt p true j = 1 by simp [r_wt, this, b2n]] at hi
            refine wp_iconst (v := 1) dX11_waits_28 rfl ?_
            refine wp_goto (tgt := 38) dX11_waits_29 rfl ?_
            refine wp_iadd dX11_waits_38 ?_
            refine wp_istore_n dX11_waits_39 (Nat.le_of_ble_eq_true rfl) rfl ?_
            refine wp_iinc dX11_waits_40 rfl rfl ?_
            refine wp_goto (tgt := 4) dX11_waits_43 rfl ?_
            rw [show nI j + Int32.ofInt 1 = nI (j + 1) from nI_1 j, nI_1]
            exact hi
  exact loop 9 0 none (by omega) (by omega) (fun v e => by cases e)
theorem ct_isBusy {p : rs} {j : Nat} (ok : rok p) (hj : j < 2 ^ 30) (hc : p.1 28 ≤ 200) (hrc : ∀ k, k < 200 → p.2.1 20 k ≤ 12) : fp_ct G rm_X11_isBusy M_X11_isBusy [.ref m, .int (nI j)] (r_hp h0 m p) (fun r h' => h' = r_hp h0 m p ∧ r = some (.int (nI (b2n (r_busy p j))))) := by
  have o12 := ok.1 12
  refine fp_meth pn_X11 (Nat.le_of_ble_eq_true rfl) rfl ?_
  have outer : ∀ (n k : Nat) (o4 : Option Value), k ≤ min (p.1 28 + 1) 200 → min (p.1 28 + 1) 200 - k < n → (∀ v, o4 = some v → v.category = 1) → fp_wp G rm_X11_isBusy M_X11_isBusy 16 [some (.ref m), some (.int (nI j)), some (.int (nI (b2n (r_busyTo p j k)))), some (.int (nI k)), o4] [] (r_hp h0 m p) (fun r h' => h' = r_hp h0 m p ∧ r = some (.int (nI (b2n (r_busy p j))))) := by
    intro n
    induction n with
    | zero => intro k _ _ h2 _; omega
    | succ n ih =>
      intro k o4 hk hn ho4
      have done : k = min (p.1 28 + 1) 200 → fp_wp G rm_X11_isBusy M_X11_isBusy 100 [some (.ref m), some (.int (nI j)), some (.int (nI (b2n (r_busyTo p j k)))), some (.int (nI k)), o4] [] (r_hp h0 m p) (fun r h' => h' = r_hp h0 m p ∧ r = some (.int (nI (b2n (r_busy p j))))) := by
        intro e
        refine wp_iload_n dX11_isBusy_100 rfl ?_
        refine wp_iret dX11_isBusy_101 rfl (by unfold b2n; split <;> decide) ?_
        exact ⟨rfl, by rw [r_busy, ← e]⟩
      refine wp_iload_n dX11_isBusy_16 rfl ?_
      refine wp_aload_n dX11_isBusy_17 rfl ?_
      refine wr_geti 28 dX11_isBusy_18 fl_X11_143 ⟨by decide, rfl⟩ ?_
      refine wp_icmp_gt (tgt := 100) dX11_isBusy_21 rfl (fun c_21 => ?_) (fun c_21 => ?_)
      · have := (nI_ltI (by omega) (by omega)).mp c_21
        exact done (by omega)
      · have h28 : k ≤ p.1 28 := by
          rcases Nat.lt_or_ge (p.1 28) k with q | q
          · exact absurd (nI_lt q (by omega)) c_21
          · exact q
        refine wp_iload_n dX11_isBusy_24 rfl ?_
        refine wp_sipush (v := 200) dX11_isBusy_25 rfl ?_
        refine wp_icmp_ge (tgt := 100) dX11_isBusy_28 rfl (fun c_28 => ?_) (fun c_28 => ?_)
        · have := (nI_leI (a := 200) (by decide) (by omega)).mp c_28
          exact done (by omega)
        · have h200 : k < 200 := by
            rcases Nat.lt_or_ge k 200 with q | q
            · exact q
            · exact absurd (nI_le (a := 200) q (by omega)) c_28
          have hrk := hrc k h200
          have hi : ∀ o4 : Option Value, (∀ v, o4 = some v → v.category = 1) → _ := fun o4 ho => ih (k + 1) o4 (by omega) (by omega) ho
          rw [show r_busyTo p j (k + 1) = (r_busyTo p j k || r_busyAt p j k) by rw [r_busyTo, r_busyTo, any_s, Bool.or_assoc]] at hi
          refine wp_iconst (v := 0) dX11_isBusy_31 rfl ?_
          refine wp_istore dX11_isBusy_32 (Nat.le_of_ble_eq_true rfl) rfl ?_
          -- out of the inner loop
          have out : ∀ (o4 : Option Value) (b : Bool), (∀ v, o4 = some v → v.category = 1) → b = (r_busyTo p j k || r_busyAt p j k) → fp_wp G rm_X11_isBusy M_X11_isBusy 94 [some (.ref m), some (.int (nI j)), some (.int (nI (b2n b))), some (.int (nI k)), o4] [] (r_hp h0 m p) (fun r h' => h' = r_hp h0 m p ∧ r = some (.int (nI (b2n (r_busy p j))))) := by
            intro o4 b ho hb
            refine wp_iinc dX11_isBusy_94 rfl rfl ?_
            refine wp_goto (tgt := 16) dX11_isBusy_97 rfl ?_
            rw [show nI k + Int32.ofInt 1 = nI (k + 1) from nI_1 k, hb]
            exact hi o4 ho
          have inner : ∀ n i : Nat, i ≤ p.2.1 20 k → p.2.1 20 k - i < n → fp_wp G rm_X11_isBusy M_X11_isBusy 34 [some (.ref m), some (.int (nI j)), some (.int (nI (b2n (r_busyTo p j k || ((k == p.1 28 || p.2.1 13 k != 0) && r_busyIn p j k i))))), some (.int (nI k)), some (.int (nI i))] [] (r_hp h0 m p) (fun r h' => h' = r_hp h0 m p ∧ r = some (.int (nI (b2n (r_busy p j))))) := by
            intro n
            induction n with
            | zero => intro i _ h2; omega
            | succ n ih2 =>
              intro i hi2 hn2
              refine wp_iload dX11_isBusy_34 rfl ?_
              refine wp_aload_n dX11_isBusy_36 rfl ?_
              refine wr_geta 38 20 dX11_isBusy_37 fl_X11_73 ⟨by decide, rfl⟩ ?_
              refine wp_iload_n dX11_isBusy_40 rfl ?_
              refine wr_iald dX11_isBusy_41 ⟨by decide, rfl⟩ rfl (by show k < 200; omega) (by decide) ?_
              refine wp_icmp_ge (tgt := 94) dX11_isBusy_42 rfl (fun c_42 => ?_) (fun c_42 => ?_)
              · have e : i = p.2.1 20 k := by
                  have := (nI_leI (by omega) (by omega)).mp c_42
                  omega
                exact out _ _ (fun v e => by cases e; rfl) (by rw [e]; rfl)
              · have hlt : i < p.2.1 20 k := by
                  rcases Nat.lt_or_ge i (p.2.1 20 k) with q | q
                  · exact q
                  · exact absurd (nI_le q (by omega)) c_42
                -- the body, once it is open or the one in making
                have body : (k == p.1 28 || p.2.1 13 k != 0) = true → fp_wp G rm_X11_isBusy M_X11_isBusy 62 [some (.ref m), some (.int (nI j)), some (.int (nI (b2n (r_busyTo p j k || ((k == p.1 28 || p.2.1 13 k != 0) && r_busyIn p j k i))))), some (.int (nI k)), some (.int (nI i))] [] (r_hp h0 m p) (fun r h' => h' = r_hp h0 m p ∧ r = some (.int (nI (b2n (r_busy p j))))) := by
                  intro ho
                  have hn3 := ih2 (i + 1) (by omega) (by omega)
                  rw [ho, Bool.true_and] at hn3 ⊢
                  rw [show r_busyIn p j k (i + 1) = (r_busyIn p j k i || p.2.1 19 (12 * k + i) == j) from any_s _ _] at hn3
                  have h19 := ok.2.1 19 (12 * k + i)
                  refine wp_iload_n dX11_isBusy_62 rfl ?_
                  refine wp_if_ne (tgt := 82) dX11_isBusy_63 rfl (fun c_63 => ?_) (fun c_63 => ?_)
                  · have hb : (r_busyTo p j k || r_busyIn p j k i) = true := by
                      cases hx : (r_busyTo p j k || r_busyIn p j k i) with
                      | true => rfl
                      | false => rw [hx] at c_63; exact absurd rfl c_63
                    refine wp_iconst (v := 1) dX11_isBusy_82 rfl ?_
                    refine wp_goto (tgt := 87) dX11_isBusy_83 rfl ?_
                    refine wp_istore_n dX11_isBusy_87 (Nat.le_of_ble_eq_true rfl) rfl ?_
                    refine wp_iinc dX11_isBusy_88 rfl rfl ?_
                    refine wp_goto (tgt := 34) dX11_isBusy_91 rfl ?_
                    rw [show nI i + Int32.ofInt 1 = nI (i + 1) from nI_1 i]
                    rw [← Bool.or_assoc, hb, Bool.true_or] at hn3
                    exact hn3
                  · have hb : (r_busyTo p j k || r_busyIn p j k i) = false := b2n_0.mp c_63
                    have e1 : (12 : Int32) * nI k + nI i = nI (12 * k + i) := by rw [show (12 : Int32) * nI k = nI (12 * k) from pk_mul 12 k, nI_add]
                    refine wp_aload_n dX11_isBusy_66 rfl ?_
                    refine wr_geta 37 19 dX11_isBusy_67 fl_X11_70 ⟨by decide, rfl⟩ ?_
                    refine wp_bipush (v := 12) dX11_isBusy_70 rfl ?_
                    refine wp_iload_n dX11_isBusy_72 rfl ?_
                    refine wp_imul dX11_isBusy_73 ?_
                    refine wp_iload dX11_isBusy_74 rfl ?_
                    refine wp_iadd dX11_isBusy_76 ?_
                    refine wr_iald dX11_isBusy_77 ⟨by decide, rfl⟩ e1 (by show 12 * k + i < 2400; omega) (by decide) ?_
                    refine wp_iload_n dX11_isBusy_78 rfl ?_
                    refine wp_icmp_ne (tgt := 86) dX11_isBusy_79 rfl (fun c_79 => ?_) (fun c_79 => ?_)
                    · have : p.2.1 19 (12 * k + i) ≠ j := fun e => c_79 (by rw [e])
                      refine wp_iconst (v := 0) dX11_isBusy_86 rfl ?_
                      refine wp_istore_n dX11_isBusy_87 (Nat.le_of_ble_eq_true rfl) rfl ?_
                      refine wp_iinc dX11_isBusy_88 rfl rfl ?_
                      refine wp_goto (tgt := 34) dX11_isBusy_91 rfl ?_
                      rw [show nI i + Int32.ofInt 1 = nI (i + 1) from nI_1 i]
                      rw [← Bool.or_assoc, hb, show (p.2.1 19 (12 * k + i) == j) = false by simp [this]] at hn3
                      exact hn3
                    · have : p.2.1 19 (12 * k + i) = j := (nI_eq (by omega) (by omega)).mp c_79
                      refine wp_iconst (v := 1) dX11_isBusy_82 rfl ?_
                      refine wp_goto (tgt := 87) dX11_isBusy_83 rfl ?_
                      refine wp_istore_n dX11_isBusy_87 (Nat.le_of_ble_eq_true rfl) rfl ?_
                      refine wp_iinc dX11_isBusy_88 rfl rfl ?_
                      refine wp_goto (tgt := 34) dX11_isBusy_91 rfl ?_
                      rw [show nI i + Int32.ofInt 1 = nI (i + 1) from nI_1 i]
                      rw [← Bool.or_assoc, hb, show (p.2.1 19 (12 * k + i) == j) = true by simp [this]] at hn3
                      exact hn3
                refine wp_iload_n dX11_isBusy_45 rfl ?_
                refine wp_aload_n dX11_isBusy_46 rfl ?_
                refine wr_geti 28 dX11_isBusy_47 fl_X11_143 ⟨by decide, rfl⟩ ?_
                refine wp_icmp_eq (tgt := 62) dX11_isBusy_50 rfl (fun c_50 => ?_) (fun c_50 => ?_)
                · have : k = p.1 28 := (nI_eq (by omega) (by omega)).mp c_50
                  exact body (by simp [this])
                · have hne : k ≠ p.1 28 := fun e => c_50 (by rw [e])
                  have h13 := ok.2.1 13 k
                  refine wp_aload_n dX11_isBusy_53 rfl ?_
                  refine wr_geta 31 13 dX11_isBusy_54 fl_X11_52 ⟨by decide, rfl⟩ ?_
                  refine wp_iload_n dX11_isBusy_57 rfl ?_
                  refine wr_zald dX11_isBusy_58 ⟨by decide, rfl⟩ rfl (by show k < 200; omega) (by decide) ?_
                  refine wp_if_eq (tgt := 94) dX11_isBusy_59 rfl (fun c_59 => ?_) (fun c_59 => ?_)
                  · have : p.2.1 13 k = 0 := (nI_eq (b := 0) (by omega) (by decide)).mp c_59
                    refine out _ _ (fun v e => by cases e; rfl) ?_
                    rw [r_busyAt, show (k == p.1 28 || p.2.1 13 k != 0) = false by simp [hne, this]]
                    rfl
                  · have : p.2.1 13 k ≠ 0 := fun e => c_59 (by rw [e]; rfl)
                    exact body (by simp [this])
          have := inner (p.2.1 20 k + 1) 0 (by omega) (by omega)
          rw [show r_busyIn p j k 0 = false from rfl, Bool.and_false, Bool.or_false] at this
          exact this
  refine wp_iload_n dX11_isBusy_0 rfl ?_
  refine wp_aload_n dX11_isBusy_1 rfl ?_
  refine wr_geti 12 dX11_isBusy_2 fl_X11_146 ⟨by decide, rfl⟩ ?_
  refine wp_icmp_lt (tgt := 12) dX11_isBusy_5 rfl (fun c_5 => ?_) (fun c_5 => ?_)
  · have : ¬ p.1 12 ≤ j := by
      have := (nI_ltI (by omega) (by omega)).mp c_5
      omega
    refine wp_iconst (v := 0) dX11_isBusy_12 rfl ?_
    refine wp_istore_n dX11_isBusy_13 (Nat.le_of_ble_eq_true rfl) rfl ?_
    refine wp_iconst (v := 0) dX11_isBusy_14 rfl ?_
    refine wp_istore_n dX11_isBusy_15 (Nat.le_of_ble_eq_true rfl) rfl ?_
    have ho := outer (min (p.1 28 + 1) 200 + 1) 0 none (by omega) (by omega) (fun v e => by cases e)
    rw [show r_busyTo p j 0 = false by simp [r_busyTo, this]] at ho
    exact ho
  · have : p.1 12 ≤ j := by
      rcases Nat.lt_or_ge j (p.1 12) with q | q
      · exact absurd (nI_lt q (by omega)) c_5
      · exact q
    refine wp_iconst (v := 1) dX11_isBusy_8 rfl ?_
    refine wp_goto (tgt := 13) dX11_isBusy_9 rfl ?_
    refine wp_istore_n dX11_isBusy_13 (Nat.le_of_ble_eq_true rfl) rfl ?_
    refine wp_iconst (v := 0) dX11_isBusy_14 rfl ?_
    refine wp_istore_n dX11_isBusy_15 (Nat.le_of_ble_eq_true rfl) rfl ?_
    have ho := outer (min (p.1 28 + 1) 200 + 1) 0 none (by omega) (by omega) (fun v e => by cases e)
    rw [show r_busyTo p j 0 = true by simp [r_busyTo, this]] at ho
    exact ho
end RM
