/-! the law: from its start -/
theorem r_ln26 : r_ln 26 = 148844 := by decide +kernel
theorem r_first {h : fp_H} {p : rs} (w : fp_wf h) : cf (fun t => t = 1) h (r_hp (h.1, h.2.1 + 27, h.2.2 + 46 + r_ln 26) h.2.1 p) := by
  have hln := r_ln26
  refine ⟨⟨Nat.le_add_right _ _, by show h.2.2 ≤ h.2.2 + 46 + r_ln 26; omega, fun _ q x hq => ?_, fun q t x hq _ => ?_⟩, ?_⟩
  · show q < h.2.1 + 27
    simp only [r_hp] at hq
    split at hq
    · omega
    · split at hq
      · omega
      · have := w q x hq
        omega
  · have := w q _ hq
    simp only [r_hp]
    rw [if_neg (by omega), if_neg (by omega)]
    exact hq
  · show h.2.1 + 27 + h.2.2 ≤ h.2.1 + (h.2.2 + 46 + r_ln 26)
    omega
section LW
variable {G : fp_G} {h : fp_H}
set_option maxHeartbeats 1000000 in
theorem law_start (hG : G.2.2.2.1 3 ≤ 3074) (w : fp_wf h) : fp_wp G rm_L_law M_L_law 0 [some (.ref (G.2.2.2.1 2)), none, none, none] [] h (fun r h' => r = some (.int 1) ∧ h'.2.1 ≤ h.2.1 + 600000 ∧ h'.2.2 ≤ h.2.2 + 7302250) := by
  have hln := r_ln26
  refine wp_new 2 dL_law_0 nw_L_7 ?_
  refine wp_dup dL_law_3 rfl ?_
  refine wp_aload_n dL_law_4 rfl ?_
  refine wp_iconst (v := 0) dL_law_5 rfl ?_
  have w1 := w.new (t := 2) (k := 7) (e := .inr (11, [.null, .null, .null, .null, .null, .null, .int 0]))
  have e1 : (fp_new h 2 (.inr (11, [.null, .null, .null, .null, .null, .null, .int 0])) 7).1 h.2.1 = some (2, .inr (11, [.null, .null, .null, .null, .null, .null, .int 0])) := fp_new_eq
  have s1 : (fp_new h 2 (.inr (11, [.null, .null, .null, .null, .null, .null, .int 0])) 7).2 = (h.2.1 + 1, h.2.2 + 7) := rfl
  refine fp_wp_h (h' := fp_new h 2 (.inr (11, [.null, .null, .null, .null, .null, .null, .int 0])) 7) rfl ?_
  generalize fp_new h 2 (.inr (11, [.null, .null, .null, .null, .null, .null, .int 0])) 7 = h1 at w1 e1 s1 ⊢
  generalize ho : h.2.1 = o at e1 ⊢
  refine wp_callS (As := [.ref (G.2.2.2.1 2), .int (nI 0)]) (rest := [.ref o, .ref o]) dL_law_6 me_L_cell cw_L_9 ⟨(Nat.le_of_ble_eq_true rfl), (Nat.le_of_ble_eq_true rfl)⟩ rfl rfl rfl (Nat.le_of_ble_eq_true rfl) (ct_cell hG (by decide)) (fun r h2 q => ?_)
  obtain ⟨q0, rfl⟩ := q
  rw [q0]
  refine wp_aload_n dL_law_9 rfl ?_
  refine wp_iconst (v := 1) dL_law_10 rfl ?_
  refine wp_callS (As := [.ref (G.2.2.2.1 2), .int (nI 1)]) (rest := [.int (cel G 0), .ref o, .ref o]) dL_law_11 me_L_cell cw_L_9 ⟨(Nat.le_of_ble_eq_true rfl), (Nat.le_of_ble_eq_true rfl)⟩ rfl rfl rfl (Nat.le_of_ble_eq_true rfl) (ct_cell hG (by decide)) (fun r h2 q => ?_)
  obtain ⟨q0, rfl⟩ := q
  rw [q0]
  refine wp_callI (As := [.int (cel G 0), .int (cel G 1)]) (rest := [.ref o]) dL_law_14 me_X10_init rfl cw_L_15 rfl ⟨(Nat.le_of_ble_eq_true rfl), (Nat.le_of_ble_eq_true rfl)⟩ rfl rfl rfl (Nat.le_of_ble_eq_true rfl) (cp_new w1 e1) (fun r h2 q => ?_)
  obtain ⟨rfl, A, la, cc, k2⟩ := q
  have w2 := cc.wf
  refine wp_astore_n dL_law_17 (Nat.le_of_ble_eq_true rfl) rfl ?_
  refine wp_new 1 dL_law_18 nw_L_18 ?_
  refine wp_dup dL_law_21 rfl ?_
  refine wp_aload_n dL_law_22 rfl ?_
  refine wp_iconst (v := 0) dL_law_23 rfl ?_
  refine fp_wp_h (h' := r_hi h2 h2.2.1 0) r_hi_0 ?_
  refine wp_callS (As := [.ref (G.2.2.2.1 2), .int (nI 0)]) (rest := [.ref h2.2.1, .ref h2.2.1]) dL_law_24 me_L_cell cw_L_9 ⟨(Nat.le_of_ble_eq_true rfl), (Nat.le_of_ble_eq_true rfl)⟩ rfl rfl rfl (Nat.le_of_ble_eq_true rfl) (ct_cell hG (by decide)) (fun r h3 q => ?_)
  obtain ⟨q0, rfl⟩ := q
  rw [q0]
  refine wp_aload_n dL_law_27 rfl ?_
  refine wp_iconst (v := 1) dL_law_28 rfl ?_
  refine wp_callS (As := [.ref (G.2.2.2.1 2), .int (nI 1)]) (rest := [.int (cel G 0), .ref h2.2.1, .ref h2.2.1]) dL_law_29 me_L_cell cw_L_9 ⟨(Nat.le_of_ble_eq_true rfl), (Nat.le_of_ble_eq_true rfl)⟩ rfl rfl rfl (Nat.le_of_ble_eq_true rfl) (ct_cell hG (by decide)) (fun r h3 q => ?_)
  obtain ⟨q0, rfl⟩ := q
  rw [q0]
  refine wp_callI (As := [.int (cel G 0), .int (cel G 1)]) (rest := [.ref h2.2.1]) dL_law_32 me_X11_init rfl cw_L_20 rfl ⟨(Nat.le_of_ble_eq_true rfl), (Nat.le_of_ble_eq_true rfl)⟩ rfl rfl rfl (Nat.le_of_ble_eq_true rfl) (ct_newR) (fun r h3 q => ?_)
  obtain ⟨rfl, rfl⟩ := q
  have k3 := r_first (p := r_new (cel G 0) (cel G 1)) w2
  have cc3 := cc.kept (d := 46 + r_ln 26) k3 (by show h2.2.2 + 46 + r_ln 26 ≤ h2.2.2 + (46 + r_ln 26); omega)
  have hp3 := r_hp_hp (h2.1, h2.2.1 + 27, h2.2.2 + 46 + r_ln 26) h2.2.1 (r_new (cel G 0) (cel G 1)) (r_new (cel G 0) (cel G 1))
  have s3 : (r_hp (h2.1, h2.2.1 + 27, h2.2.2 + 46 + r_ln 26) h2.2.1 (r_new (cel G 0) (cel G 1))).2 = (h2.2.1 + 27, h2.2.2 + 46 + r_ln 26) := rfl
  generalize r_hp (h2.1, h2.2.1 + 27, h2.2.2 + 46 + r_ln 26) h2.2.1 (r_new (cel G 0) (cel G 1)) = h3 at k3 cc3 hp3 s3 ⊢
  refine wp_astore_n dL_law_35 (Nat.le_of_ble_eq_true rfl) rfl ?_
  refine wp_iconst (v := 2) dL_law_36 rfl ?_
  refine wp_istore_n dL_law_37 (Nat.le_of_ble_eq_true rfl) rfl ?_
  refine (law_loop (A := A) (la := la) (B := h1.2.2 + 457 + (46 + r_ln 26)) (NB := h3.2.1) (SB := h3.2.2) hG 513 0 h3 (r_new (cel G 0) (cel G 1)) rfl (Nat.zero_le _) ⟨cc3, RI.new _ _, hp3, Nat.le_refl _⟩).mono ?_
  rintro r h' ⟨hr, p, c, hc, st⟩
  refine ⟨hr, ?_⟩
  have ri := st.2.1
  have hkn := ri.known
  have hw := ri.wn hc
  have h13 := ri.1.2.2.2.2.2.2.2.2.2.2
  have hs := st.1.slots ri.1.2.1 (by omega) (by omega) hc
  have hz := st.2.2.2
  have hk2 := k2.2
  have hz3 : h3.2.1 = h2.2.1 + 27 ∧ h3.2.2 = h2.2.2 + 46 + r_ln 26 := by rw [s3]; exact ⟨rfl, rfl⟩
  have hz1 : h1.2.1 = h.2.1 + 1 ∧ h1.2.2 = h.2.2 + 7 := by rw [s1]; exact ⟨rfl, rfl⟩
  omega
end LW
