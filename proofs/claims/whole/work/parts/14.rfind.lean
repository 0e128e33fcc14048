/-! the reference: what it looks up -/
def r_lastTo (p : rs) (u v : Nat) (wv : Bool) : Nat → Option Nat
  | 0 => none
  | j + 1 => if j < p.1 10 then none else if p.2.2 3 j = u ∧ (wv = false ∨ p.2.2 4 j = v) then some j else r_lastTo p u v wv j
def r_last (p : rs) (u v : Nat) (wv : Bool) : Option Nat := r_lastTo p u v wv (p.1 6)
def r_isRisk (p : rs) (s k : Nat) : Bool := p.2.1 11 k == s && (p.2.1 13 k != 0 && decide (p.1 12 < p.2.1 12 k))
def r_risk (p : rs) (s : Nat) : Bool := (List.range (p.1 28)).any (r_isRisk p s)
def r_riskTo (p : rs) (s : Nat) : Nat := ((List.range s).filter (r_risk p)).length
def r_atRisk (p : rs) : Nat := r_riskTo p 8
def r_lies (p : rs) (s w k : Nat) : Bool := p.2.1 11 k == s && p.2.1 14 k == w
def r_lyTo (p : rs) (s w n : Nat) : Nat := ((List.range n).filter (r_lies p s w)).length
def r_lying (p : rs) (s w : Nat) : Nat := r_lyTo p s w (p.1 28)
theorem cnt_s (P : Nat → Bool) (n : Nat) : ((List.range (n + 1)).filter P).length = ((List.range n).filter P).length + b2n (P n) := by
  rw [List.range_succ, List.filter_append, List.length_append]
  cases h : P n <;> simp [h, b2n]
theorem cnt_le (P : Nat → Bool) (n : Nat) : ((List.range n).filter P).length ≤ n := by
  have := List.length_filter_le P (List.range n)
  simpa using this
theorem any_s (P : Nat → Bool) (n : Nat) : (List.range (n + 1)).any P = ((List.range n).any P || P n) := by
  rw [List.range_succ, List.any_append]
  simp
theorem dX11_last_0 : decode cX11_last 0 = .ok (.aload_n 0, 1) := by decide +kernel
theorem dX11_last_1 : decode cX11_last 1 = .ok (.getfield 137, 3) := by decide +kernel
theorem dX11_last_4 : decode cX11_last 4 = .ok (.iconst 1, 1) := by decide +kernel
theorem dX11_last_5 : decode cX11_last 5 = .ok (.isub, 1) := by decide +kernel
theorem dX11_last_6 : decode cX11_last 6 = .ok (.istore 6, 2) := by decide +kernel
theorem dX11_last_8 : decode cX11_last 8 = .ok (.iload 6, 2) := by decide +kernel
theorem dX11_last_10 : decode cX11_last 10 = .ok (.aload_n 0, 1) := by decide +kernel
theorem dX11_last_11 : decode cX11_last 11 = .ok (.getfield 140, 3) := by decide +kernel
theorem dX11_last_14 : decode cX11_last 14 = .ok (.if_icmp .lt 41, 3) := by decide +kernel
theorem dX11_last_17 : decode cX11_last 17 = .ok (.aload_n 0, 1) := by decide +kernel
theorem dX11_last_18 : decode cX11_last 18 = .ok (.getfield 20, 3) := by decide +kernel
theorem dX11_last_21 : decode cX11_last 21 = .ok (.iload 6, 2) := by decide +kernel
theorem dX11_last_23 : decode cX11_last 23 = .ok (.laload, 1) := by decide +kernel
theorem dX11_last_24 : decode cX11_last 24 = .ok (.lload_n 1, 1) := by decide +kernel
theorem dX11_last_25 : decode cX11_last 25 = .ok (.lcmp, 1) := by decide +kernel
theorem dX11_last_26 : decode cX11_last 26 = .ok (.ifCond .ne 23, 3) := by decide +kernel
theorem dX11_last_29 : decode cX11_last 29 = .ok (.iload 5, 2) := by decide +kernel
theorem dX11_last_31 : decode cX11_last 31 = .ok (.ifCond .eq 15, 3) := by decide +kernel
theorem dX11_last_34 : decode cX11_last 34 = .ok (.aload_n 0, 1) := by decide +kernel
theorem dX11_last_35 : decode cX11_last 35 = .ok (.getfield 23, 3) := by decide +kernel
theorem dX11_last_38 : decode cX11_last 38 = .ok (.iload 6, 2) := by decide +kernel
theorem dX11_last_40 : decode cX11_last 40 = .ok (.laload, 1) := by decide +kernel
theorem dX11_last_41 : decode cX11_last 41 = .ok (.lload_n 3, 1) := by decide +kernel
theorem dX11_last_42 : decode cX11_last 42 = .ok (.lcmp, 1) := by decide +kernel
theorem dX11_last_43 : decode cX11_last 43 = .ok (.ifCond .ne 6, 3) := by decide +kernel
theorem dX11_last_46 : decode cX11_last 46 = .ok (.iload 6, 2) := by decide +kernel
theorem dX11_last_48 : decode cX11_last 48 = .ok (.ireturn, 1) := by decide +kernel
theorem dX11_last_49 : decode cX11_last 49 = .ok (.iinc 6 (-1), 3) := by decide +kernel
theorem dX11_last_52 : decode cX11_last 52 = .ok (.goto (-44), 3) := by decide +kernel
theorem dX11_last_55 : decode cX11_last 55 = .ok (.iconst (-1), 1) := by decide +kernel
theorem dX11_last_56 : decode cX11_last 56 = .ok (.ireturn, 1) := by decide +kernel
theorem dX11_isAtRisk_0 : decode cX11_isAtRisk 0 = .ok (.iconst 0, 1) := by decide +kernel
theorem dX11_isAtRisk_1 : decode cX11_isAtRisk 1 = .ok (.istore_n 2, 1) := by decide +kernel
theorem dX11_isAtRisk_2 : decode cX11_isAtRisk 2 = .ok (.iload_n 2, 1) := by decide +kernel
theorem dX11_isAtRisk_3 : decode cX11_isAtRisk 3 = .ok (.aload_n 0, 1) := by decide +kernel
theorem dX11_isAtRisk_4 : decode cX11_isAtRisk 4 = .ok (.getfield 143, 3) := by decide +kernel
theorem dX11_isAtRisk_7 : decode cX11_isAtRisk 7 = .ok (.if_icmp .ge 43, 3) := by decide +kernel
theorem dX11_isAtRisk_10 : decode cX11_isAtRisk 10 = .ok (.aload_n 0, 1) := by decide +kernel
theorem dX11_isAtRisk_11 : decode cX11_isAtRisk 11 = .ok (.getfield 46, 3) := by decide +kernel
theorem dX11_isAtRisk_14 : decode cX11_isAtRisk 14 = .ok (.iload_n 2, 1) := by decide +kernel
theorem dX11_isAtRisk_15 : decode cX11_isAtRisk 15 = .ok (.iaload, 1) := by decide +kernel
theorem dX11_isAtRisk_16 : decode cX11_isAtRisk 16 = .ok (.iload_n 1, 1) := by decide +kernel
theorem dX11_isAtRisk_17 : decode cX11_isAtRisk 17 = .ok (.if_icmp .ne 27, 3) := by decide +kernel
theorem dX11_isAtRisk_20 : decode cX11_isAtRisk 20 = .ok (.aload_n 0, 1) := by decide +kernel
theorem dX11_isAtRisk_21 : decode cX11_isAtRisk 21 = .ok (.getfield 52, 3) := by decide +kernel
theorem dX11_isAtRisk_24 : decode cX11_isAtRisk 24 = .ok (.iload_n 2, 1) := by decide +kernel
theorem dX11_isAtRisk_25 : decode cX11_isAtRisk 25 = .ok (.baload, 1) := by decide +kernel
theorem dX11_isAtRisk_26 : decode cX11_isAtRisk 26 = .ok (.ifCond .eq 18, 3) := by decide +kernel
theorem dX11_isAtRisk_29 : decode cX11_isAtRisk 29 = .ok (.aload_n 0, 1) := by decide +kernel
theorem dX11_isAtRisk_30 : decode cX11_isAtRisk 30 = .ok (.getfield 49, 3) := by decide +kernel
theorem dX11_isAtRisk_33 : decode cX11_isAtRisk 33 = .ok (.iload_n 2, 1) := by decide +kernel
theorem dX11_isAtRisk_34 : decode cX11_isAtRisk 34 = .ok (.iaload, 1) := by decide +kernel
theorem dX11_isAtRisk_35 : decode cX11_isAtRisk 35 = .ok (.aload_n 0, 1) := by decide +kernel
theorem dX11_isAtRisk_36 : decode cX11_isAtRisk 36 = .ok (.getfield 146, 3) := by decide +kernel
theorem dX11_isAtRisk_39 : decode cX11_isAtRisk 39 = .ok (.if_icmp .le 5, 3) := by decide +kernel
theorem dX11_isAtRisk_42 : decode cX11_isAtRisk 42 = .ok (.iconst 1, 1) := by decide +kernel
theorem dX11_isAtRisk_43 : decode cX11_isAtRisk 43 = .ok (.ireturn, 1) := by decide +kernel
theorem dX11_isAtRisk_44 : decode cX11_isAtRisk 44 = .ok (.iinc 2 1, 3) := by decide +kernel
theorem dX11_isAtRisk_47 : decode cX11_isAtRisk 47 = .ok (.goto (-45), 3) := by decide +kernel
theorem dX11_isAtRisk_50 : decode cX11_isAtRisk 50 = .ok (.iconst 0, 1) := by decide +kernel
theorem dX11_isAtRisk_51 : decode cX11_isAtRisk 51 = .ok (.ireturn, 1) := by decide +kernel
theorem dX11_atRisk_0 : decode cX11_atRisk 0 = .ok (.iconst 0, 1) := by decide +kernel
theorem dX11_atRisk_1 : decode cX11_atRisk 1 = .ok (.istore_n 1, 1) := by decide +kernel
theorem dX11_atRisk_2 : decode cX11_atRisk 2 = .ok (.iconst 0, 1) := by decide +kernel
theorem dX11_atRisk_3 : decode cX11_atRisk 3 = .ok (.istore_n 2, 1) := by decide +kernel
theorem dX11_atRisk_4 : decode cX11_atRisk 4 = .ok (.iload_n 2, 1) := by decide +kernel
theorem dX11_atRisk_5 : decode cX11_atRisk 5 = .ok (.bipush 8, 2) := by decide +kernel
theorem dX11_atRisk_7 : decode cX11_atRisk 7 = .ok (.if_icmp .ge 25, 3) := by decide +kernel
theorem dX11_atRisk_10 : decode cX11_atRisk 10 = .ok (.iload_n 1, 1) := by decide +kernel
theorem dX11_atRisk_11 : decode cX11_atRisk 11 = .ok (.aload_n 0, 1) := by decide +kernel
theorem dX11_atRisk_12 : decode cX11_atRisk 12 = .ok (.iload_n 2, 1) := by decide +kernel
theorem dX11_atRisk_13 : decode cX11_atRisk 13 = .ok (.invokevirtual 149, 3) := by decide +kernel
theorem dX11_atRisk_16 : decode cX11_atRisk 16 = .ok (.ifCond .eq 7, 3) := by decide +kernel
theorem dX11_atRisk_19 : decode cX11_atRisk 19 = .ok (.iconst 1, 1) := by decide +kernel
theorem dX11_atRisk_20 : decode cX11_atRisk 20 = .ok (.goto 4, 3) := by decide +kernel
theorem dX11_atRisk_23 : decode cX11_atRisk 23 = .ok (.iconst 0, 1) := by decide +kernel
theorem dX11_atRisk_24 : decode cX11_atRisk 24 = .ok (.iadd, 1) := by decide +kernel
theorem dX11_atRisk_25 : decode cX11_atRisk 25 = .ok (.istore_n 1, 1) := by decide +kernel
theorem dX11_atRisk_26 : decode cX11_atRisk 26 = .ok (.iinc 2 1, 3) := by decide +kernel
theorem dX11_atRisk_29 : decode cX11_atRisk 29 = .ok (.goto (-25), 3) := by decide +kernel
theorem dX11_atRisk_32 : decode cX11_atRisk 32 = .ok (.iload_n 1, 1) := by decide +kernel
theorem dX11_atRisk_33 : decode cX11_atRisk 33 = .ok (.ireturn, 1) := by decide +kernel
theorem dX11_lying_0 : decode cX11_lying 0 = .ok (.iconst 0, 1) := by decide +kernel
theorem dX11_lying_1 : decode cX11_lying 1 = .ok (.istore_n 3, 1) := by decide +kernel
theorem dX11_lying_2 : decode cX11_lying 2 = .ok (.iconst 0, 1) := by decide +kernel
theorem dX11_lying_3 : decode cX11_lying 3 = .ok (.istore 4, 2) := by decide +kernel
theorem dX11_lying_5 : decode cX11_lying 5 = .ok (.iload 4, 2) := by decide +kernel
theorem dX11_lying_7 : decode cX11_lying 7 = .ok (.aload_n 0, 1) := by decide +kernel
theorem dX11_lying_8 : decode cX11_lying 8 = .ok (.getfield 143, 3) := by decide +kernel
theorem dX11_lying_11 : decode cX11_lying 11 = .ok (.if_icmp .ge 39, 3) := by decide +kernel
theorem dX11_lying_14 : decode cX11_lying 14 = .ok (.iload_n 3, 1) := by decide +kernel
theorem dX11_lying_15 : decode cX11_lying 15 = .ok (.aload_n 0, 1) := by decide +kernel
theorem dX11_lying_16 : decode cX11_lying 16 = .ok (.getfield 46, 3) := by decide +kernel
theorem dX11_lying_19 : decode cX11_lying 19 = .ok (.iload 4, 2) := by decide +kernel
theorem dX11_lying_21 : decode cX11_lying 21 = .ok (.iaload, 1) := by decide +kernel
theorem dX11_lying_22 : decode cX11_lying 22 = .ok (.iload_n 1, 1) := by decide +kernel
theorem dX11_lying_23 : decode cX11_lying 23 = .ok (.if_icmp .ne 18, 3) := by decide +kernel
theorem dX11_lying_26 : decode cX11_lying 26 = .ok (.aload_n 0, 1) := by decide +kernel
theorem dX11_lying_27 : decode cX11_lying 27 = .ok (.getfield 55, 3) := by decide +kernel
theorem dX11_lying_30 : decode cX11_lying 30 = .ok (.iload 4, 2) := by decide +kernel
theorem dX11_lying_32 : decode cX11_lying 32 = .ok (.iaload, 1) := by decide +kernel
theorem dX11_lying_33 : decode cX11_lying 33 = .ok (.iload_n 2, 1) := by decide +kernel
theorem dX11_lying_34 : decode cX11_lying 34 = .ok (.if_icmp .ne 7, 3) := by decide +kernel
theorem dX11_lying_37 : decode cX11_lying 37 = .ok (.iconst 1, 1) := by decide +kernel
theorem dX11_lying_38 : decode cX11_lying 38 = .ok (.goto 4, 3) := by decide +kernel
theorem dX11_lying_41 : decode cX11_lying 41 = .ok (.iconst 0, 1) := by decide +kernel
theorem dX11_lying_42 : decode cX11_lying 42 = .ok (.iadd, 1) := by decide +kernel
theorem dX11_lying_43 : decode cX11_lying 43 = .ok (.istore_n 3, 1) := by decide +kernel
theorem dX11_lying_44 : decode cX11_lying 44 = .ok (.iinc 4 1, 3) := by decide +kernel
theorem dX11_lying_47 : decode cX11_lying 47 = .ok (.goto (-42), 3) := by decide +kernel
theorem dX11_lying_50 : decode cX11_lying 50 = .ok (.iload_n 3, 1) := by decide +kernel
theorem dX11_lying_51 : decode cX11_lying 51 = .ok (.ireturn, 1) := by decide +kernel
theorem dX11_next_0 : decode cX11_next 0 = .ok (.iconst 0, 1) := by decide +kernel
theorem dX11_next_1 : decode cX11_next 1 = .ok (.istore_n 2, 1) := by decide +kernel
theorem dX11_next_2 : decode cX11_next 2 = .ok (.iload_n 2, 1) := by decide +kernel
theorem dX11_next_3 : decode cX11_next 3 = .ok (.aload_n 0, 1) := by decide +kernel
theorem dX11_next_4 : decode cX11_next 4 = .ok (.getfield 143, 3) := by decide +kernel
theorem dX11_next_7 : decode cX11_next 7 = .ok (.if_icmp .ge 30, 3) := by decide +kernel
theorem dX11_next_10 : decode cX11_next 10 = .ok (.aload_n 0, 1) := by decide +kernel
theorem dX11_next_11 : decode cX11_next 11 = .ok (.getfield 46, 3) := by decide +kernel
theorem dX11_next_14 : decode cX11_next 14 = .ok (.iload_n 2, 1) := by decide +kernel
theorem dX11_next_15 : decode cX11_next 15 = .ok (.iaload, 1) := by decide +kernel
theorem dX11_next_16 : decode cX11_next 16 = .ok (.iload_n 1, 1) := by decide +kernel
theorem dX11_next_17 : decode cX11_next 17 = .ok (.if_icmp .ne 14, 3) := by decide +kernel
theorem dX11_next_20 : decode cX11_next 20 = .ok (.aload_n 0, 1) := by decide +kernel
theorem dX11_next_21 : decode cX11_next 21 = .ok (.getfield 55, 3) := by decide +kernel
theorem dX11_next_24 : decode cX11_next 24 = .ok (.iload_n 2, 1) := by decide +kernel
theorem dX11_next_25 : decode cX11_next 25 = .ok (.iaload, 1) := by decide +kernel
theorem dX11_next_26 : decode cX11_next 26 = .ok (.ifCond .ne 5, 3) := by decide +kernel
theorem dX11_next_29 : decode cX11_next 29 = .ok (.iload_n 2, 1) := by decide +kernel
theorem dX11_next_30 : decode cX11_next 30 = .ok (.ireturn, 1) := by decide +kernel
theorem dX11_next_31 : decode cX11_next 31 = .ok (.iinc 2 1, 3) := by decide +kernel
theorem dX11_next_34 : decode cX11_next 34 = .ok (.goto (-32), 3) := by decide +kernel
theorem dX11_next_37 : decode cX11_next 37 = .ok (.iconst (-1), 1) := by decide +kernel
theorem dX11_next_38 : decode cX11_next 38 = .ok (.ireturn, 1) := by decide +kernel
theorem dX11_opens_0 : decode cX11_opens 0 = .ok (.iconst 0, 1) := by decide +kernel
theorem dX11_opens_1 : decode cX11_opens 1 = .ok (.istore_n 1, 1) := by decide +kernel
theorem dX11_opens_2 : decode cX11_opens 2 = .ok (.iconst 0, 1) := by decide +kernel
theorem dX11_opens_3 : decode cX11_opens 3 = .ok (.istore_n 2, 1) := by decide +kernel
theorem dX11_opens_4 : decode cX11_opens 4 = .ok (.iload_n 2, 1) := by decide +kernel
theorem dX11_opens_5 : decode cX11_opens 5 = .ok (.aload_n 0, 1) := by decide +kernel
theorem dX11_opens_6 : decode cX11_opens 6 = .ok (.getfield 143, 3) := by decide +kernel
theorem dX11_opens_9 : decode cX11_opens 9 = .ok (.if_icmp .ge 26, 3) := by decide +kernel
theorem dX11_opens_12 : decode cX11_opens 12 = .ok (.iload_n 1, 1) := by decide +kernel
theorem dX11_opens_13 : decode cX11_opens 13 = .ok (.aload_n 0, 1) := by decide +kernel
theorem dX11_opens_14 : decode cX11_opens 14 = .ok (.getfield 52, 3) := by decide +kernel
theorem dX11_opens_17 : decode cX11_opens 17 = .ok (.iload_n 2, 1) := by decide +kernel
theorem dX11_opens_18 : decode cX11_opens 18 = .ok (.baload, 1) := by decide +kernel
theorem dX11_opens_19 : decode cX11_opens 19 = .ok (.ifCond .eq 7, 3) := by decide +kernel
theorem dX11_opens_22 : decode cX11_opens 22 = .ok (.iconst 1, 1) := by decide +kernel
theorem dX11_opens_23 : decode cX11_opens 23 = .ok (.goto 4, 3) := by decide +kernel
theorem dX11_opens_26 : decode cX11_opens 26 = .ok (.iconst 0, 1) := by decide +kernel
theorem dX11_opens_27 : decode cX11_opens 27 = .ok (.iadd, 1) := by decide +kernel
theorem dX11_opens_28 : decode cX11_opens 28 = .ok (.istore_n 1, 1) := by decide +kernel
theorem dX11_opens_29 : decode cX11_opens 29 = .ok (.iinc 2 1, 3) := by decide +kernel
theorem dX11_opens_32 : decode cX11_opens 32 = .ok (.goto (-28), 3) := by decide +kernel
theorem dX11_opens_35 : decode cX11_opens 35 = .ok (.iload_n 1, 1) := by decide +kernel
theorem dX11_opens_36 : decode cX11_opens 36 = .ok (.ireturn, 1) := by decide +kernel
theorem dX11_waits_0 : decode cX11_waits 0 = .ok (.iconst 0, 1) := by decide +kernel
theorem dX11_waits_1 : decode cX11_waits 1 = .ok (.istore_n 2, 1) := by decide +kernel
theorem dX11_waits_2 : decode cX11_waits 2 = .ok (.iconst 0, 1) := by decide +kernel
theorem dX11_waits_3 : decode cX11_waits 3 = .ok (.istore_n 3, 1) := by decide +kernel
theorem dX11_waits_4 : decode cX11_waits 4 = .ok (.iload_n 3, 1) := by decide +kernel
theorem dX11_waits_5 : decode cX11_waits 5 = .ok (.bipush 8, 2) := by decide +kernel
theorem dX11_waits_7 : decode cX11_waits 7 = .ok (.if_icmp .ge 39, 3) := by decide +kernel
theorem dX11_waits_10 : decode cX11_waits 10 = .ok (.aload_n 0, 1) := by decide +kernel
theorem dX11_waits_11 : decode cX11_waits 11 = .ok (.iload_n 3, 1) := by decide +kernel
theorem dX11_waits_12 : decode cX11_waits 12 = .ok (.iconst 1, 1) := by decide +kernel
theorem dX11_waits_13 : decode cX11_waits 13 = .ok (.invokevirtual 192, 3) := by decide +kernel
theorem dX11_waits_16 : decode cX11_waits 16 = .ok (.istore 4, 2) := by decide +kernel
theorem dX11_waits_18 : decode cX11_waits 18 = .ok (.iload_n 2, 1) := by decide +kernel
theorem dX11_waits_19 : decode cX11_waits 19 = .ok (.iload_n 1, 1) := by decide +kernel
theorem dX11_waits_20 : decode cX11_waits 20 = .ok (.ifCond .eq 16, 3) := by decide +kernel
theorem dX11_waits_23 : decode cX11_waits 23 = .ok (.iload 4, 2) := by decide +kernel
theorem dX11_waits_25 : decode cX11_waits 25 = .ok (.ifCond .le 7, 3) := by decide +kernel
theorem dX11_waits_28 : decode cX11_waits 28 = .ok (.iconst 1, 1) := by decide +kernel
theorem dX11_waits_29 : decode cX11_waits 29 = .ok (.goto 9, 3) := by decide +kernel
theorem dX11_waits_32 : decode cX11_waits 32 = .ok (.iconst 0, 1) := by decide +kernel
theorem dX11_waits_33 : decode cX11_waits 33 = .ok (.goto 5, 3) := by decide +kernel
theorem dX11_waits_36 : decode cX11_waits 36 = .ok (.iload 4, 2) := by decide +kernel
theorem dX11_waits_38 : decode cX11_waits 38 = .ok (.iadd, 1) := by decide +kernel
theorem dX11_waits_39 : decode cX11_waits 39 = .ok (.istore_n 2, 1) := by decide +kernel
theorem dX11_waits_40 : decode cX11_waits 40 = .ok (.iinc 3 1, 3) := by decide +kernel
theorem dX11_waits_43 : decode cX11_waits 43 = .ok (.goto (-39), 3) := by decide +kernel
theorem dX11_waits_46 : decode cX11_waits 46 = .ok (.iload_n 2, 1) := by decide +kernel
theorem dX11_waits_47 : decode cX11_waits 47 = .ok (.ireturn, 1) := by decide +kernel
theorem dX11_isBusy_0 : decode cX11_isBusy 0 = .ok (.iload_n 1, 1) := by decide +kernel
theorem dX11_isBusy_1 : decode cX11_isBusy 1 = .ok (.aload_n 0, 1) := by decide +kernel
theorem dX11_isBusy_2 : decode cX11_isBusy 2 = .ok (.getfield 146, 3) := by decide +kernel
theorem dX11_isBusy_5 : decode cX11_isBusy 5 = .ok (.if_icmp .lt 7, 3) := by decide +kernel
theorem dX11_isBusy_8 : decode cX11_isBusy 8 = .ok (.iconst 1, 1) := by decide +kernel
theorem dX11_isBusy_9 : decode cX11_isBusy 9 = .ok (.goto 4, 3) := by decide +kernel
theorem dX11_isBusy_12 : decode cX11_isBusy 12 = .ok (.iconst 0, 1) := by decide +kernel
theorem dX11_isBusy_13 : decode cX11_isBusy 13 = .ok (.istore_n 2, 1) := by decide +kernel
theorem dX11_isBusy_14 : decode cX11_isBusy 14 = .ok (.iconst 0, 1) := by decide +kernel
theorem dX11_isBusy_15 : decode cX11_isBusy 15 = .ok (.istore_n 3, 1) := by decide +kernel
theorem dX11_isBusy_16 : decode cX11_isBusy 16 = .ok (.iload_n 3, 1) := by decide +kernel
theorem dX11_isBusy_17 : decode cX11_isBusy 17 = .ok (.aload_n 0, 1) := by decide +kernel
theorem dX11_isBusy_18 : decode cX11_isBusy 18 = .ok (.getfield 143, 3) := by decide +kernel
theorem dX11_isBusy_21 : decode cX11_isBusy 21 = .ok (.if_icmp .gt 79, 3) := by decide +kernel
theorem dX11_isBusy_24 : decode cX11_isBusy 24 = .ok (.iload_n 3, 1) := by decide +kernel
theorem dX11_isBusy_25 : decode cX11_isBusy 25 = .ok (.sipush 200, 3) := by decide +kernel
theorem dX11_isBusy_28 : decode cX11_isBusy 28 = .ok (.if_icmp .ge 72, 3) := by decide +kernel
theorem dX11_isBusy_31 : decode cX11_isBusy 31 = .ok (.iconst 0, 1) := by decide +kernel
theorem dX11_isBusy_32 : decode cX11_isBusy 32 = .ok (.istore 4, 2) := by decide +kernel
theorem dX11_isBusy_34 : decode cX11_isBusy 34 = .ok (.iload 4, 2) := by decide +kernel
theorem dX11_isBusy_36 : decode cX11_isBusy 36 = .ok (.aload_n 0, 1) := by decide +kernel
theorem dX11_isBusy_37 : decode cX11_isBusy 37 = .ok (.getfield 73, 3) := by decide +kernel
theorem dX11_isBusy_40 : decode cX11_isBusy 40 = .ok (.iload_n 3, 1) := by decide +kernel
theorem dX11_isBusy_41 : decode cX11_isBusy 41 = .ok (.iaload, 1) := by decide +kernel
theorem dX11_isBusy_42 : decode cX11_isBusy 42 = .ok (.if_icmp .ge 52, 3) := by decide +kernel
theorem dX11_isBusy_45 : decode cX11_isBusy 45 = .ok (.iload_n 3, 1) := by decide +kernel
theorem dX11_isBusy_46 : decode cX11_isBusy 46 = .ok (.aload_n 0, 1) := by decide +kernel
theorem dX11_isBusy_47 : decode cX11_isBusy 47 = .ok (.getfield 143, 3) := by decide +kernel
theorem dX11_isBusy_50 : decode cX11_isBusy 50 = .ok (.if_icmp .eq 12, 3) := by decide +kernel
theorem dX11_isBusy_53 : decode cX11_isBusy 53 = .ok (.aload_n 0, 1) := by decide +kernel
theorem dX11_isBusy_54 : decode cX11_isBusy 54 = .ok (.getfield 52, 3) := by decide +kernel
theorem dX11_isBusy_57 : decode cX11_isBusy 57 = .ok (.iload_n 3, 1) := by decide +kernel
theorem dX11_isBusy_58 : decode cX11_isBusy 58 = .ok (.baload, 1) := by decide +kernel
theorem dX11_isBusy_59 : decode cX11_isBusy 59 = .ok (.ifCond .eq 35, 3) := by decide +kernel
theorem dX11_isBusy_62 : decode cX11_isBusy 62 = .ok (.iload_n 2, 1) := by decide +kernel
theorem dX11_isBusy_63 : decode cX11_isBusy 63 = .ok (.ifCond .ne 19, 3) := by decide +kernel
theorem dX11_isBusy_66 : decode cX11_isBusy 66 = .ok (.aload_n 0, 1) := by decide +kernel
theorem dX11_isBusy_67 : decode cX11_isBusy 67 = .ok (.getfield 70, 3) := by decide +kernel
theorem dX11_isBusy_70 : decode cX11_isBusy 70 = .ok (.bipush 12, 2) := by decide +kernel
theorem dX11_isBusy_72 : decode cX11_isBusy 72 = .ok (.iload_n 3, 1) := by decide +kernel
theorem dX11_isBusy_73 : decode cX11_isBusy 73 = .ok (.imul, 1) := by decide +kernel
theorem dX11_isBusy_74 : decode cX11_isBusy 74 = .ok (.iload 4, 2) := by decide +kernel
theorem dX11_isBusy_76 : decode cX11_isBusy 76 = .ok (.iadd, 1) := by decide +kernel
theorem dX11_isBusy_77 : decode cX11_isBusy 77 = .ok (.iaload, 1) := by decide +kernel
theorem dX11_isBusy_78 : decode cX11_isBusy 78 = .ok (.iload_n 1, 1) := by decide +kernel
theorem dX11_isBusy_79 : decode cX11_isBusy 79 = .ok (.if_icmp .ne 7, 3) := by decide +kernel
theorem dX11_isBusy_82 : decode cX11_isBusy 82 = .ok (.iconst 1, 1) := by decide +kernel
theorem dX11_isBusy_83 : decode cX11_isBusy 83 = .ok (.goto 4, 3) := by decide +kernel
theorem dX11_isBusy_86 : decode cX11_isBusy 86 = .ok (.iconst 0, 1) := by decide +kernel
theorem dX11_isBusy_87 : decode cX11_isBusy 87 = .ok (.istore_n 2, 1) := by decide +kernel
theorem dX11_isBusy_88 : decode cX11_isBusy 88 = .ok (.iinc 4 1, 3) := by decide +kernel
theorem dX11_isBusy_91 : decode cX11_isBusy 91 = .ok (.goto (-57), 3) := by decide +kernel
theorem dX11_isBusy_94 : decode cX11_isBusy 94 = .ok (.iinc 3 1, 3) := by decide +kernel
theorem dX11_isBusy_97 : decode cX11_isBusy 97 = .ok (.goto (-81), 3) := by decide +kernel
theorem dX11_isBusy_100 : decode cX11_isBusy 100 = .ok (.iload_n 2, 1) := by decide +kernel
theorem dX11_isBusy_101 : decode cX11_isBusy 101 = .ok (.ireturn, 1) := by decide +kernel
section RF
variable {G : fp_G} {h0 : fp_H} {m : Nat}
theorem ct_last {p : rs} {u v : Nat} {wv : Bool} (ok : rok p) (hu : u < 2 ^ 64) (hv : v < 2 ^ 64) (hc : p.1 6 ≤ 2400) : fp_ct G rm_X11_last M_X11_last [.ref m, .long (lN u), .long (lN v), .int (nI (b2n wv))] (r_hp h0 m p) (fun r h' => h' = r_hp h0 m p ∧ r = some (.int (oI (r_last p u v wv)))) := by
  have o10 := ok.1 10
  refine fp_meth pn_X11 (Nat.le_of_ble_eq_true rfl) rfl ?_
  refine wp_aload_n dX11_last_0 rfl ?_
  refine wr_geti 6 dX11_last_1 fl_X11_137 ⟨by decide, rfl⟩ ?_
  refine wp_iconst (v := 1) dX11_last_4 rfl ?_
  refine wp_isub dX11_last_5 ?_
  refine wp_istore dX11_last_6 (Nat.le_of_ble_eq_true rfl) rfl ?_
  have loop : ∀ c : Nat, c ≤ p.1 6 → fp_wp G rm_X11_last M_X11_last 8 [some (.ref m), some (.long (lN u)), none, some (.long (lN v)), none, some (.int (nI (b2n wv))), some (.int (nI c - 1))] [] (r_hp h0 m p) (fun r h' => h' = r_hp h0 m p ∧ r = some (.int (oI (r_lastTo p u v wv c)))) := by
    intro c
    induction c with
    | zero =>
      intro _
      refine wp_iload dX11_last_8 rfl ?_
      refine wp_aload_n dX11_last_10 rfl ?_
      refine wr_geti 10 dX11_last_11 fl_X11_140 ⟨by decide, rfl⟩ ?_
      refine wp_icmp_lt (tgt := 55) dX11_last_14 rfl (fun c_14 => ?_) (fun c_14 => ?_)
      · refine wp_iconst (v := (-1)) dX11_last_55 rfl ?_
        refine wp_iret dX11_last_56 rfl rfl ?_
        exact ⟨rfl, rfl⟩
      · refine absurd ?_ c_14
        have h1 : (nI 0 - 1).toInt = -1 := by decide
        rw [Int32.lt_iff_toInt_lt, h1, nI_toInt (by omega)]
        omega
    | succ j ih =>
      intro hj
      rw [nI_pred]
      refine wp_iload dX11_last_8 rfl ?_
      refine wp_aload_n dX11_last_10 rfl ?_
      refine wr_geti 10 dX11_last_11 fl_X11_140 ⟨by decide, rfl⟩ ?_
      refine wp_icmp_lt (tgt := 55) dX11_last_14 rfl (fun c_14 => ?_) (fun c_14 => ?_)
      · have : j < p.1 10 := (nI_ltI (by omega) (by omega)).mp c_14
        refine wp_iconst (v := (-1)) dX11_last_55 rfl ?_
        refine wp_iret dX11_last_56 rfl rfl ?_
        exact ⟨rfl, by rw [r_lastTo, if_pos this]; rfl⟩
      · have hf : ¬ j < p.1 10 := fun z => c_14 (nI_lt z (by omega))
        have back : (¬ (p.2.2 3 j = u ∧ (wv = false ∨ p.2.2 4 j = v))) → fp_wp G rm_X11_last M_X11_last 49 [some (.ref m), some (.long (lN u)), none, some (.long (lN v)), none, some (.int (nI (b2n wv))), some (.int (nI j))] [] (r_hp h0 m p) (fun r h' => h' = r_hp h0 m p ∧ r = some (.int (oI (r_lastTo p u v wv (j + 1))))) := by
          intro hn
          rw [r_lastTo, if_neg hf, if_neg hn]
          refine wp_iinc dX11_last_49 rfl rfl ?_
          refine wp_goto (tgt := 8) dX11_last_52 rfl ?_
          rw [dec1]
          exact ih (by omega)
        refine wp_aload_n dX11_last_17 rfl ?_
        refine wr_geta 7 3 dX11_last_18 fl_X11_20 ⟨by decide, rfl⟩ ?_
        refine wp_iload dX11_last_21 rfl ?_
        refine wr_lald dX11_last_23 ⟨by decide, rfl⟩ rfl (by show j < 2400; omega) (by decide) ?_
        refine wp_lload_n dX11_last_24 rfl ?_
        refine wp_lcmp dX11_last_25 ?_
        refine wp_if_ne (tgt := 49) dX11_last_26 rfl (fun c_26 => ?_) (fun c_26 => ?_)
        · rw [cmp0, lN_inj (ok.2.2 _ _) hu] at c_26
          exact back (fun z => c_26 z.1)
        · rw [cmp0, lN_inj (ok.2.2 _ _) hu] at c_26
          refine wp_iload dX11_last_29 rfl ?_
          refine wp_if_eq (tgt := 46) dX11_last_31 rfl (fun c_31 => ?_) (fun c_31 => ?_)
          · refine wp_iload dX11_last_46 rfl ?_
            refine wp_iret dX11_last_48 rfl rfl ?_
            refine ⟨rfl, ?_⟩
            rw [r_lastTo, if_neg hf, if_pos ⟨c_26, Or.inl (b2n_0.mp c_31)⟩]
            rfl
          · refine wp_aload_n dX11_last_34 rfl ?_
            refine wr_geta 8 4 dX11_last_35 fl_X11_23 ⟨by decide, rfl⟩ ?_
            refine wp_iload dX11_last_38 rfl ?_
            refine wr_lald dX11_last_40 ⟨by decide, rfl⟩ rfl (by show j < 2400; omega) (by decide) ?_
            refine wp_lload_n dX11_last_41 rfl ?_
            refine wp_lcmp dX11_last_42 ?_
            refine wp_if_ne (tgt := 49) dX11_last_43 rfl (fun c_43 => ?_) (fun c_43 => ?_)
            · rw [cmp0, lN_inj (ok.2.2 _ _) hv] at c_43
              refine back (fun z => ?_)
              rcases z.2 with z | z
              · exact c_31 (b2n_0.mpr z)
              · exact c_43 z
            · rw [cmp0, lN_inj (ok.2.2 _ _) hv] at c_43
              refine wp_iload dX11_last_46 rfl ?_
              refine wp_iret dX11_last_48 rfl rfl ?_
              refine ⟨rfl, ?_⟩
              rw [r_lastTo, if_neg hf, if_pos ⟨c_26, Or.inr c_43⟩]
              rfl
  exact loop (p.1 6) (Nat.le_refl _)
theorem ct_isAtRisk {p : rs} {s : Nat} (ok : rok p) (hs : s < 2 ^ 30) (hc : p.1 28 ≤ 200) : fp_ct G rm_X11_isAtRisk M_X11_isAtRisk [.ref m, .int (nI s)] (r_hp h0 m p) (fun r h' => h' = r_hp h0 m p ∧ r = some (.int (nI (b2n (r_risk p s))))) := by
  have o12 := ok.1 12
  refine fp_meth pn_X11 (Nat.le_of_ble_eq_true rfl) rfl ?_
  refine wp_iconst (v := 0) dX11_isAtRisk_0 rfl ?_
  refine wp_istore_n dX11_isAtRisk_1 (Nat.le_of_ble_eq_true rfl) rfl ?_
  have loop : ∀ n j : Nat, j ≤ p.1 28 → p.1 28 - j < n → (List.range j).any (r_isRisk p s) = false → fp_wp G rm_X11_isAtRisk M_X11_isAtRisk 2 [some (.ref m), some (.int (nI s)), some (.int (nI j))] [] (r_hp h0 m p) (fun r h' => h' = r_hp h0 m p ∧ r = some (.int (nI (b2n (r_risk p s))))) := by
    intro n
    induction n with
    | zero => intro j _ h2 _; omega
    | succ n ih =>
      intro j hj hn hno
      refine wp_iload_n dX11_isAtRisk_2 rfl ?_
      refine wp_aload_n dX11_isAtRisk_3 rfl ?_
      refine wr_geti 28 dX11_isAtRisk_4 fl_X11_143 ⟨by decide, rfl⟩ ?_
      refine wp_icmp_ge (tgt := 50) dX11_isAtRisk_7 rfl (fun c_7 => ?_) (fun c_7 => ?_)
      · have e8 : j = p.1 28 := by
          have := (nI_leI (by omega) (by omega)).mp c_7
          omega
        refine wp_iconst (v := 0) dX11_isAtRisk_50 rfl ?_
        refine wp_iret dX11_isAtRisk_51 rfl rfl ?_
        exact ⟨rfl, by rw [r_risk, ← e8, hno]; rfl⟩
      · have hj8 : j < p.1 28 := by
          rcases Nat.lt_or_ge j (p.1 28) with q | q
          · exact q
          · exact absurd (nI_le q (by omega)) c_7
        have back : r_isRisk p s j = false → fp_wp G rm_X11_isAtRisk M_X11_isAtRisk 44 [some (.ref m), some (.int (nI s)), some (.int (nI j))] [] (r_hp h0 m p) (fun r h' => h' = r_hp h0 m p ∧ r = some (.int (nI (b2n (r_risk p s))))) := by
          intro hz
          refine wp_iinc dX11_isAtRisk_44 rfl rfl ?_
          refine wp_goto (tgt := 2) dX11_isAtRisk_47 rfl ?_
          rw [show nI j + Int32.ofInt 1 = nI (j + 1) from nI_1 j]
          exact ih (j + 1) (by omega) (by omega) (by rw [any_s, hno, hz]; rfl)
        have h11 := ok.2.1 11 j
        have h12 := ok.2.1 12 j
        have h13 := ok.2.1 13 j
        refine wp_aload_n dX11_isAtRisk_10 rfl ?_
        refine wr_geta 29 11 dX11_isAtRisk_11 fl_X11_46 ⟨by decide, rfl⟩ ?_
        refine wp_iload_n dX11_isAtRisk_14 rfl ?_
        refine wr_iald dX11_isAtRisk_15 ⟨by decide, rfl⟩ rfl (by show j < 200; omega) (by decide) ?_
        refine wp_iload_n dX11_isAtRisk_16 rfl ?_
        refine wp_icmp_ne (tgt := 44) dX11_isAtRisk_17 rfl (fun c_17 => ?_) (fun c_17 => ?_)
        · exact back (by
            have : p.2.1 11 j ≠ s := fun e => c_17 (by rw [e])
            simp [r_isRisk, this])
        · have e11 : p.2.1 11 j = s := (nI_eq (by omega) (by omega)).mp c_17
          refine wp_aload_n dX11_isAtRisk_20 rfl ?_
          refine wr_geta 31 13 dX11_isAtRisk_21 fl_X11_52 ⟨by decide, rfl⟩ ?_
          refine wp_iload_n dX11_isAtRisk_24 rfl ?_
          refine wr_zald dX11_isAtRisk_25 ⟨by decide, rfl⟩ rfl (by show j < 200; omega) (by decide) ?_
          refine wp_if_eq (tgt := 44) dX11_isAtRisk_26 rfl (fun c_26 => ?_) (fun c_26 => ?_)
          · have : p.2.1 13 j = 0 := (nI_eq (b := 0) (by omega) (by decide)).mp c_26
            exact back (by simp [r_isRisk, this])
          · have e13 : p.2.1 13 j ≠ 0 := fun e => c_26 (by rw [e]; rfl)
            refine wp_aload_n dX11_isAtRisk_29 rfl ?_
            refine wr_geta 30 12 dX11_isAtRisk_30 fl_X11_49 ⟨by decide, rfl⟩ ?_
            refine wp_iload_n dX11_isAtRisk_33 rfl ?_
            refine wr_iald dX11_isAtRisk_34 ⟨by decide, rfl⟩ rfl (by show j < 200; omega) (by decide) ?_
            refine wp_aload_n dX11_isAtRisk_35 rfl ?_
            refine wr_geti 12 dX11_isAtRisk_36 fl_X11_146 ⟨by decide, rfl⟩ ?_
            refine wp_icmp_le (tgt := 44) dX11_isAtRisk_39 rfl (fun c_39 => ?_) (fun c_39 => ?_)
            · have : p.2.1 12 j ≤ p.1 12 := (nI_leI (by omega) (by omega)).mp c_39
              exact back (by simp [r_isRisk]; intro _ _; omega)
            · have h12' : p.1 12 < p.2.1 12 j := by
                rcases Nat.lt_or_ge (p.1 12) (p.2.1 12 j) with q | q
                · exact q
                · exact absurd (nI_le q (by omega)) c_39
              refine wp_iconst (v := 1) dX11_isAtRisk_42 rfl ?_
              refine wp_iret dX11_isAtRisk_43 rfl rfl ?_
              refine ⟨rfl, ?_⟩
              have : r_risk p s = true := by
                rw [r_risk, List.any_eq_true]
                exact ⟨j, List.mem_range.mpr hj8, by simp [r_isRisk, e11, e13, h12']⟩
              rw [this]
              rfl
  exact loop (p.1 28 + 1) 0 (by omega) (by omega) rfl
theorem ct_atRisk {p : rs} (ok : rok p) (hc : p.1 28 ≤ 200) : fp_ct G rm_X11_atRisk M_X11_atRisk [.ref m] (r_hp h0 m p) (fun r h' => h' = r_hp h0 m p ∧ r = some (.int (nI (r_atRisk p)))) := by
  refine fp_meth pn_X11 (Nat.le_of_ble_eq_true rfl) rfl ?_
  refine wp_iconst (v := 0) dX11_atRisk_0 rfl ?_
  refine wp_istore_n dX11_atRisk_1 (Nat.le_of_ble_eq_true rfl) rfl ?_
  refine wp_iconst (v := 0) dX11_atRisk_2 rfl ?_
  refine wp_istore_n dX11_atRisk_3 (Nat.le_of_ble_eq_true rfl) rfl ?_
  have loop : ∀ n j : Nat, j ≤ 8 → 8 - j < n → fp_wp G rm_X11_atRisk M_X11_atRisk 4 [some (.ref m), some (.int (nI (r_riskTo p j))), some (.int (nI j))] [] (r_hp h0 m p) (fun r h' => h' = r_hp h0 m p ∧ r = some (.int (nI (r_atRisk p)))) := by
    intro n
    induction n with
    | zero => intro j _ h2; omega
    | succ n ih =>
      intro j hj hn
      refine wp_iload_n dX11_atRisk_4 rfl ?_
      refine wp_bipush (v := 8) dX11_atRisk_5 rfl ?_
      refine wp_icmp_ge (tgt := 32) dX11_atRisk_7 rfl (fun c_7 => ?_) (fun c_7 => ?_)
      · have e8 : j = 8 := by
          have := (nI_leI (a := 8) (b := j) (by decide) (by omega)).mp c_7
          omega
        subst e8
        refine wp_iload_n dX11_atRisk_32 rfl ?_
        refine wp_iret dX11_atRisk_33 rfl rfl ?_
        exact ⟨rfl, rfl⟩
      · have hj8 : j < 8 := by
          rcases Nat.lt_or_ge j 8 with q | q
          · exact q
          · exact absurd (nI_le q (by omega)) c_7
        have hi := ih (j + 1) (by omega) (by omega)
        rw [show r_riskTo p (j + 1) = r_riskTo p j + b2n (r_risk p j) from cnt_s _ _] at hi
        refine wp_iload_n dX11_atRisk_10 rfl ?_
        refine wp_aload_n dX11_atRisk_11 rfl ?_
        refine wp_iload_n dX11_atRisk_12 rfl ?_
        refine wp_callV (As := [.int (nI j)]) (rest := [.int (nI (r_riskTo p j))]) dX11_atRisk_13 me_X11_isAtRisk cw_X11_149 rfl ⟨(Nat.le_of_ble_eq_true rfl), (Nat.le_of_ble_eq_true rfl)⟩ rfl rfl rfl (Nat.le_of_ble_eq_true rfl) r_at_m (ct_isAtRisk ok (by omega) hc) (fun r h1 q => ?_)
        obtain ⟨rfl, rfl⟩ := q
        refine wp_if_eq (tgt := 23) dX11_atRisk_16 rfl (fun c_16 => ?_) (fun c_16 => ?_)
        · rw [b2n_0.mp c_16] at hi
          refine wp_iconst (v := 0) dX11_atRisk_23 rfl ?_
          refine wp_iadd dX11_atRisk_24 ?_
          refine wp_istore_n dX11_atRisk_25 (Nat.le_of_ble_eq_true rfl) rfl ?_
          refine wp_iinc dX11_atRisk_26 rfl rfl ?_
          refine wp_goto (tgt := 4) dX11_atRisk_29 rfl ?_
          rw [show nI j + Int32.ofInt 1 = nI (j + 1) from nI_1 j, show nI (r_riskTo p j) + 0 = nI (r_riskTo p j + 0) from nI_add _ 0]
          exact hi
        · rw [show r_risk p j = true by cases hx : r_risk p j with | true => rfl | false => rw [hx] at c_16; exact absurd rfl c_16] at hi
          refine wp_iconst (v := 1) dX11_atRisk_19 rfl ?_
          refine wp_goto (tgt := 24) dX11_atRisk_20 rfl ?_
          refine wp_iadd dX11_atRisk_24 ?_
          refine wp_istore_n dX11_atRisk_25 (Nat.le_of_ble_eq_true rfl) rfl ?_
          refine wp_iinc dX11_atRisk_26 rfl rfl ?_
          refine wp_goto (tgt := 4) dX11_atRisk_29 rfl ?_
          rw [show nI j + Int32.ofInt 1 = nI (j + 1) from nI_1 j, nI_1]
          exact hi
  exact loop 9 0 (by omega) (by omega)
theorem ct_lying {p : rs} {s w : Nat} (ok : rok p) (hs : s < 2 ^ 30) (hw : w < 2 ^ 30) (hc : p.1 28 ≤ 200) : fp_ct G rm_X11_lying M_X11_lying [.ref m, .int (nI s), .int (nI w)] (r_hp h0 m p) (fun r h' => h' = r_hp h0 m p ∧ r = some (.int (nI (r_lying p s w)))) := by
  refine fp_meth pn_X11 (Nat.le_of_ble_eq_true rfl) rfl ?_
  refine wp_iconst (v := 0) dX11_lying_0 rfl ?_
  refine wp_istore_n dX11_lying_1 (Nat.le_of_ble_eq_true rfl) rfl ?_
  refine wp_iconst (v := 0) dX11_lying_2 rfl ?_
  refine wp_istore dX11_lying_3 (Nat.le_of_ble_eq_true rfl) rfl ?_
  have loop : ∀ n j : Nat, j ≤ p.1 28 → p.1 28 - j < n → fp_wp G rm_X11_lying M_X11_lying 5 [some (.ref m), some (.int (nI s)), some (.int (nI w)), some (.int (nI (r_lyTo p s w j))), some (.int (nI j))] [] (r_hp h0 m p) (fun r h' => h' = r_hp h0 m p ∧ r = some (.int (nI (r_lying p s w)))) := by
    intro n
    induction n with
    | zero => intro j _ h2; omega
    | succ n ih =>
      intro j hj hn
      refine wp_iload dX11_lying_5 rfl ?_
      refine wp_aload_n dX11_lying_7 rfl ?_
      refine wr_geti 28 dX11_lying_8 fl_X11_143 ⟨by decide, rfl⟩ ?_
      refine wp_icmp_ge (tgt := 50) dX11_lying_11 rfl (fun c_11 => ?_) (fun c_11 => ?_)
      · have e8 : j = p.1 28 := by
          have := (nI_leI (by omega) (by omega)).mp c_11
          omega
        refine wp_iload_n dX11_lying_50 rfl ?_
        refine wp_iret dX11_lying_51 rfl rfl ?_
        exact ⟨rfl, by rw [r_lying, ← e8]⟩
      · have hj8 : j < p.1 28 := by
          rcases Nat.lt_or_ge j (p.1 28) with q | q
          · exact q
          · exact absurd (nI_le q (by omega)) c_11
        have h11 := ok.2.1 11 j
        have h14 := ok.2.1 14 j
        have hi := ih (j + 1) (by omega) (by omega)
        rw [show r_lyTo p s w (j + 1) = r_lyTo p s w j + b2n (r_lies p s w j) from cnt_s _ _] at hi
        have back : r_lies p s w j = false → fp_wp G rm_X11_lying M_X11_lying 41 [some (.ref m), some (.int (nI s)), some (.int (nI w)), some (.int (nI (r_lyTo p s w j))), some (.int (nI j))] [.int (nI (r_lyTo p s w j))] (r_hp h0 m p) (fun r h' => h' = r_hp h0 m p ∧ r = some (.int (nI (r_lying p s w)))) := by
          intro hz
          rw [hz] at hi
          refine wp_iconst (v := 0) dX11_lying_41 rfl ?_
          refine wp_iadd dX11_lying_42 ?_
          refine wp_istore_n dX11_lying_43 (Nat.le_of_ble_eq_true rfl) rfl ?_
          refine wp_iinc dX11_lying_44 rfl rfl ?_
          refine wp_goto (tgt := 5) dX11_lying_47 rfl ?_
          rw [show nI j + Int32.ofInt 1 = nI (j + 1) from nI_1 j, show nI (r_lyTo p s w j) + 0 = nI (r_lyTo p s w j + 0) from nI_add _ 0]
          exact hi
        refine wp_iload_n dX11_lying_14 rfl ?_
        refine wp_aload_n dX11_lying_15 rfl ?_
        refine wr_geta 29 11 dX11_lying_16 fl_X11_46 ⟨by decide, rfl⟩ ?_
        refine wp_iload dX11_lying_19 rfl ?_
        refine wr_iald dX11_lying_21 ⟨by decide, rfl⟩ rfl (by show j < 200; omega) (by decide) ?_
        refine wp_iload_n dX11_lying_22 rfl ?_
        refine wp_icmp_ne (tgt := 41) dX11_lying_23 rfl (fun c_23 => ?_) (fun c_23 => ?_)
        · exact back (by
            have : p.2.1 11 j ≠ s := fun e => c_23 (by rw [e])
            simp [r_lies, this])
        · have e11 : p.2.1 11 j = s := (nI_eq (by omega) (by omega)).mp c_23
          refine wp_aload_n dX11_lying_26 rfl ?_
          refine wr_geta 32 14 dX11_lying_27 fl_X11_55 ⟨by decide, rfl⟩ ?_
          refine wp_iload dX11_lying_30 rfl ?_
          refine wr_iald dX11_lying_32 ⟨by decide, rfl⟩ rfl (by show j < 200; omega) (by decide) ?_
          refine wp_iload_n dX11_lying_33 rfl ?_
          refine wp_icmp_ne (tgt := 41) dX11_lying_34 rfl (fun c_34 => ?_) (fun c_34 => ?_)
          · exact back (by
              have : p.2.1 14 j ≠ w := fun e => c_34 (by rw [e])
              simp [r_lies, this])
          · have e14 : p.2.1 14 j = w := (nI_eq (by omega) (by omega)).mp c_34
            rw [show r_lies p s w j = true by simp [r_lies, e11, e14]] at hi
            refine wp_iconst (v := 1) dX11_lying_37 rfl ?_
            refine wp_goto (tgt := 42) dX11_lying_38 rfl ?_
            refine wp_iadd dX11_lying_42 ?_
            refine wp_istore_n dX11_lying_43 (Nat.le_of_ble_eq_true rfl) rfl ?_
            refine wp_iinc dX11_lying_44 rfl rfl ?_
            refine wp_goto (tgt := 5) dX11_lying_47 rfl ?_
            rw [show nI j + Int32.ofInt 1 = nI (j + 1) from nI_1 j, nI_1]
            exact hi
  exact loop (p.1 28 + 1) 0 (by omega) (by omega)
end RF
