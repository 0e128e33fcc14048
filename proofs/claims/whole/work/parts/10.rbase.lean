/-! THE REFERENCE's cells: one object at m, its 26 arrays behind it; all numbers are Nats -/
abbrev rs : Type := (Nat → Nat) × (Nat → Nat → Nat) × (Nat → Nat → Nat)
/-- the rank of an array field, 0 for the others -/
def r_rk (k : Nat) : Nat := [0, 0, 0, 1, 2, 3, 0, 4, 5, 6, 0, 0, 0, 0, 7, 0, 0, 8, 0, 0, 9, 10, 11, 0, 0, 0, 0, 0, 0, 12, 13, 14, 15, 16, 17, 18, 19, 20, 21, 22, 23, 0, 24, 25, 0, 26].getD k 0
/-- kind (0 int, 1 long, 2 boolean) and length of the array of rank j + 1 -/
def r_kd (j : Nat) : Nat × Nat := [(1, 12), (1, 12), (2, 12), (1, 2400), (1, 2400), (0, 2400), (0, 60000), (0, 4000), (0, 2000), (0, 2000), (0, 2000), (0, 200), (0, 200), (2, 200), (0, 200), (0, 200), (1, 2400), (1, 2400), (2, 2400), (0, 2400), (0, 200), (0, 200), (0, 200), (0, 60000), (2, 8), (0, 400)].getD j (0, 0)
def r_fd (m : Nat) (p : rs) (k : Nat) : Value := if r_rk k = 0 then .int (nI (p.1 k)) else .ref (m + r_rk k)
def r_obj (m : Nat) (p : rs) : List Value := (List.range 46).map (r_fd m p)
def r_arr (p : rs) (j : Nat) : fp_E := if (r_kd j).1 = 1 then .inl (1, (r_kd j).2, .inr (.inl (fun i => lN (p.2.2 j i)))) else .inl ((r_kd j).1, (r_kd j).2, .inl (fun i => nI (p.2.1 j i)))
def r_hp (h0 : fp_H) (m : Nat) (p : rs) : fp_H := (fun q => if q = m then some (1, .inr (12, r_obj m p)) else if m < q ∧ q ≤ m + 26 then some (1, r_arr p (q - m - 1)) else h0.1 q, h0.2)
theorem r_at_m {h0 : fp_H} {m : Nat} {p : rs} : (r_hp h0 m p).1 m = some (1, .inr (12, r_obj m p)) := by simp [r_hp]
theorem r_at_a {h0 : fp_H} {m : Nat} {p : rs} (j : Nat) (hj : j < 26) : (r_hp h0 m p).1 (m + (j + 1)) = some (1, r_arr p j) := by
  have e1 : ¬ m + (j + 1) = m := by omega
  have e2 : m < m + (j + 1) ∧ m + (j + 1) ≤ m + 26 := by omega
  simp only [r_hp, if_neg e1, if_pos e2]
  rw [show m + (j + 1) - m - 1 = j by omega]
theorem r_obj_at {m : Nat} {p : rs} {k : Nat} (hk : k < 46) : (r_obj m p)[k]? = some (r_fd m p k) := by
  simp [r_obj, List.getElem?_map, List.getElem?_range hk]
theorem r_obj_set {m : Nat} {p : rs} {k v : Nat} (hk : k < 46) (hz : r_rk k = 0) : (r_obj m p).set k (.int (nI v)) = r_obj m (fun x => if x = k then v else p.1 x, p.2) := by
  apply List.ext_getElem?
  intro i
  by_cases e : k = i
  · subst e
    rw [List.getElem?_set_self (by simp [r_obj]; exact hk), r_obj_at hk]
    simp [r_fd, hz]
  · rw [List.getElem?_set_ne e]
    by_cases hi : i < 46
    · rw [r_obj_at hi, r_obj_at hi]
      simp [r_fd, Ne.symm e]
    · rw [List.getElem?_eq_none (by simp [r_obj]; omega), List.getElem?_eq_none (by simp [r_obj]; omega)]
/-- one int field -/
def r_si (p : rs) (k v : Nat) : rs := (fun x => if x = k then v else p.1 x, p.2)
/-- one place of an array of ints or booleans, or of longs -/
def r_sa (p : rs) (j i v : Nat) : rs := (p.1, (fun x y => if x = j ∧ y = i then v else p.2.1 x y), p.2.2)
def r_sl (p : rs) (j i v : Nat) : rs := (p.1, p.2.1, fun x y => if x = j ∧ y = i then v else p.2.2 x y)
theorem r_put_m {h0 : fp_H} {m : Nat} {p : rs} {k v : Nat} (hk : k < 46) (hz : r_rk k = 0) : fp_put (r_hp h0 m p) m 1 (.inr (12, (r_obj m p).set k (.int (nI v)))) = r_hp h0 m (r_si p k v) := by
  rw [r_obj_set hk hz]
  refine Prod.ext ?_ rfl
  funext q
  by_cases e : q = m
  · simp [fp_put, r_hp, e, r_si]
  · simp only [fp_put, r_hp, if_neg e]
    rfl
theorem r_put_a {h0 : fp_H} {m : Nat} {p p' : rs} {j : Nat} (hj : j < 26) (h1 : p'.1 = p.1) (h2 : ∀ x, x ≠ j → r_arr p' x = r_arr p x) : fp_put (r_hp h0 m p) (m + (j + 1)) 1 (r_arr p' j) = r_hp h0 m p' := by
  refine Prod.ext ?_ rfl
  funext q
  by_cases e : q = m + (j + 1)
  · subst e
    rw [fp_put_eq, r_at_a j hj]
  · rw [fp_put_ne e]
    by_cases e2 : q = m
    · subst e2
      rw [r_at_m, r_at_m]
      simp [r_obj, r_fd, h1]
    · simp only [r_hp, if_neg e2]
      by_cases e3 : m < q ∧ q ≤ m + 26
      · rw [if_pos e3, if_pos e3, h2]
        omega
      · rw [if_neg e3, if_neg e3]
theorem r_arr_sa {p : rs} {j i v : Nat} : ∀ x, x ≠ j → r_arr (r_sa p j i v) x = r_arr p x := fun x hx => by
  simp [r_arr, r_sa, hx]
theorem r_arr_sl {p : rs} {j i v : Nat} : ∀ x, x ≠ j → r_arr (r_sl p j i v) x = r_arr p x := fun x hx => by
  simp [r_arr, r_sl, hx]
section RB
variable {G : fp_G} {d : Nat × Nat} {M : fp_M} {pc : Nat} {L : List (Option Value)} {rest : List Value} {h0 : fp_H} {m : Nat} {p : rs} {Q : Option Value → fp_H → Prop}
theorem wr_geti {i : Nat} (k0 : Nat) (hd : decode M.2.1 pc = .ok (.getfield i, 3)) (hf : fp_fl M.1.cls i 12 k0) (hk : k0 < 46 ∧ r_rk k0 = 0) (k : fp_wp G d M (pc + 3) L (.int (nI (p.1 k0)) :: rest) (r_hp h0 m p) Q) : fp_wp G d M pc L (.ref m :: rest) (r_hp h0 m p) Q :=
  wp_getf hd hf r_at_m (by rw [r_obj_at hk.1, r_fd, if_pos hk.2]) k
theorem wr_geta {i : Nat} (k0 j : Nat) (hd : decode M.2.1 pc = .ok (.getfield i, 3)) (hf : fp_fl M.1.cls i 12 k0) (hk : k0 < 46 ∧ r_rk k0 = j + 1) (k : fp_wp G d M (pc + 3) L (.ref (m + (j + 1)) :: rest) (r_hp h0 m p) Q) : fp_wp G d M pc L (.ref m :: rest) (r_hp h0 m p) Q :=
  wp_getf hd hf r_at_m (by rw [r_obj_at hk.1, r_fd, hk.2, if_neg (by omega)]) k
theorem wr_puti {i k0 v : Nat} {x : Int32} (hd : decode M.2.1 pc = .ok (.putfield i, 3)) (hf : fp_fs M.1.cls M.1.name i 12 k0 .int) (hk : k0 < 46 ∧ r_rk k0 = 0) (hx : x = nI v) (k : fp_wp G d M (pc + 3) L rest (r_hp h0 m (r_si p k0 v)) Q) : fp_wp G d M pc L (.int x :: .ref m :: rest) (r_hp h0 m p) Q := by
  subst hx
  refine wp_putf hd hf r_at_m (by simp [r_obj]; exact hk.1) rfl rfl ?_
  rw [r_put_m hk.1 hk.2]
  exact k
theorem wr_iald {j i : Nat} {x : Int32} (hd : decode M.2.1 pc = .ok (.iaload, 1)) (hj : j < 26 ∧ (r_kd j).1 = 0) (hx : x = nI i) (hi : i < (r_kd j).2) (hs : (r_kd j).2 < 2 ^ 31) (k : fp_wp G d M (pc + 1) L (.int (nI (p.2.1 j i)) :: rest) (r_hp h0 m p) Q) : fp_wp G d M pc L (.int x :: .ref (m + (j + 1)) :: rest) (r_hp h0 m p) Q := by
  subst hx
  refine wp_iald (kd := 0) (n := (r_kd j).2) (f := fun i => nI (p.2.1 j i)) hd rfl (by rw [r_at_a j hj.1, r_arr, hj.2]; rfl) (vp_in_nI hi hs) ?_
  rw [nI_clamp (by omega)]
  exact k
theorem wr_zald {j i : Nat} {x : Int32} (hd : decode M.2.1 pc = .ok (.baload, 1)) (hj : j < 26 ∧ (r_kd j).1 = 2) (hx : x = nI i) (hi : i < (r_kd j).2) (hs : (r_kd j).2 < 2 ^ 31) (k : fp_wp G d M (pc + 1) L (.int (nI (p.2.1 j i)) :: rest) (r_hp h0 m p) Q) : fp_wp G d M pc L (.int x :: .ref (m + (j + 1)) :: rest) (r_hp h0 m p) Q := by
  subst hx
  refine wp_zald (kd := 2) (n := (r_kd j).2) (f := fun i => nI (p.2.1 j i)) hd rfl (by rw [r_at_a j hj.1, r_arr, hj.2]; rfl) (vp_in_nI hi hs) ?_
  rw [nI_clamp (by omega)]
  exact k
theorem wr_lald {j i : Nat} {x : Int32} (hd : decode M.2.1 pc = .ok (.laload, 1)) (hj : j < 26 ∧ (r_kd j).1 = 1) (hx : x = nI i) (hi : i < (r_kd j).2) (hs : (r_kd j).2 < 2 ^ 31) (k : fp_wp G d M (pc + 1) L (.long (lN (p.2.2 j i)) :: rest) (r_hp h0 m p) Q) : fp_wp G d M pc L (.int x :: .ref (m + (j + 1)) :: rest) (r_hp h0 m p) Q := by
  subst hx
  refine wp_lald (kd := 1) (n := (r_kd j).2) (f := fun i => lN (p.2.2 j i)) hd rfl (by rw [r_at_a j hj.1, r_arr, hj.2]; rfl) (vp_in_nI hi hs) ?_
  rw [nI_clamp (by omega)]
  exact k
theorem r_upd_sa {p : rs} {j i v : Nat} : upd (fun i => nI (p.2.1 j i)) i (nI v) = fun y => nI ((r_sa p j i v).2.1 j y) := by
  funext y
  by_cases e : y = i
  · simp [upd, r_sa, e]
  · simp [upd, r_sa, e]
theorem wr_iast {j i v : Nat} {x y : Int32} (hd : decode M.2.1 pc = .ok (.iastore, 1)) (hj : j < 26 ∧ (r_kd j).1 = 0) (hx : x = nI i) (hi : i < (r_kd j).2) (hs : (r_kd j).2 < 2 ^ 31) (hy : y = nI v) (k : fp_wp G d M (pc + 1) L rest (r_hp h0 m (r_sa p j i v)) Q) : fp_wp G d M pc L (.int y :: .int x :: .ref (m + (j + 1)) :: rest) (r_hp h0 m p) Q := by
  subst hx; subst hy
  refine wp_iast (kd := 0) (n := (r_kd j).2) (f := fun i => nI (p.2.1 j i)) hd rfl (by rw [r_at_a j hj.1, r_arr, hj.2]; rfl) (vp_in_nI hi hs) ?_
  rw [nI_clamp (by omega), r_upd_sa]
  have := r_put_a (h0 := h0) (m := m) (p := p) (p' := r_sa p j i v) hj.1 rfl r_arr_sa
  rw [r_arr, if_neg (by rw [hj.2]; decide), hj.2] at this
  rw [this]
  exact k
theorem wr_zast {j i v : Nat} {x y : Int32} (hd : decode M.2.1 pc = .ok (.bastore, 1)) (hj : j < 26 ∧ (r_kd j).1 = 2) (hx : x = nI i) (hi : i < (r_kd j).2) (hs : (r_kd j).2 < 2 ^ 31) (hy : y = nI v) (hv : v ≤ 1) (k : fp_wp G d M (pc + 1) L rest (r_hp h0 m (r_sa p j i v)) Q) : fp_wp G d M pc L (.int y :: .int x :: .ref (m + (j + 1)) :: rest) (r_hp h0 m p) Q := by
  subst hx; subst hy
  refine wp_zast (kd := 2) (n := (r_kd j).2) (f := fun i => nI (p.2.1 j i)) hd rfl (by rw [r_at_a j hj.1, r_arr, hj.2]; rfl) (vp_in_nI hi hs) (by rcases (show v = 0 ∨ v = 1 by omega) with rfl | rfl <;> decide) ?_
  rw [nI_clamp (by omega), r_upd_sa]
  have := r_put_a (h0 := h0) (m := m) (p := p) (p' := r_sa p j i v) hj.1 rfl r_arr_sa
  rw [r_arr, if_neg (by rw [hj.2]; decide), hj.2] at this
  rw [this]
  exact k
theorem wr_last {j i v : Nat} {x : Int32} {y : Int64} (hd : decode M.2.1 pc = .ok (.lastore, 1)) (hj : j < 26 ∧ (r_kd j).1 = 1) (hx : x = nI i) (hi : i < (r_kd j).2) (hs : (r_kd j).2 < 2 ^ 31) (hy : y = lN v) (k : fp_wp G d M (pc + 1) L rest (r_hp h0 m (r_sl p j i v)) Q) : fp_wp G d M pc L (.long y :: .int x :: .ref (m + (j + 1)) :: rest) (r_hp h0 m p) Q := by
  subst hx; subst hy
  refine wp_last (kd := 1) (n := (r_kd j).2) (f := fun i => lN (p.2.2 j i)) hd rfl (by rw [r_at_a j hj.1, r_arr, hj.2]; rfl) (vp_in_nI hi hs) ?_
  have e : vp_updL (fun i => lN (p.2.2 j i)) (nI i).toNatClampNeg (lN v) = fun y => lN ((r_sl p j i v).2.2 j y) := by
    rw [nI_clamp (by omega)]
    funext y
    by_cases e : y = i
    · simp [vp_updL, r_sl, e]
    · simp [vp_updL, r_sl, e]
  rw [e]
  have := r_put_a (h0 := h0) (m := m) (p := p) (p' := r_sl p j i v) hj.1 rfl r_arr_sl
  rw [r_arr, if_pos hj.2] at this
  rw [this]
  exact k
/-- every number is small enough -/
def rok (p : rs) : Prop := (∀ k, p.1 k < 2 ^ 30) ∧ (∀ j i, p.2.1 j i < 2 ^ 30) ∧ ∀ j i, p.2.2 j i < 2 ^ 64
theorem rok.si {p : rs} (h : rok p) {k v : Nat} (hv : v < 2 ^ 30) : rok (r_si p k v) := ⟨fun x => by
  simp only [r_si]; split
  · exact hv
  · exact h.1 x, h.2.1, h.2.2⟩
theorem rok.sa {p : rs} (h : rok p) {j i v : Nat} (hv : v < 2 ^ 30) : rok (r_sa p j i v) := ⟨h.1, fun x y => by
  simp only [r_sa]; split
  · exact hv
  · exact h.2.1 x y, h.2.2⟩
theorem rok.sl {p : rs} (h : rok p) {j i v : Nat} (hv : v < 2 ^ 64) : rok (r_sl p j i v) := ⟨h.1, h.2.1, fun x y => by
  simp only [r_sl]; split
  · exact hv
  · exact h.2.2 x y⟩
end RB
