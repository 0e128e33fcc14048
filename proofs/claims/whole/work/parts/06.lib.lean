/-! small rows on heaps: what a put and a new leave, tags and frames; then Math and Arrays.copyOf of ints -/
theorem fp_put_eq {h : fp_H} {a t : Nat} {e : fp_E} : (fp_put h a t e).1 a = some (t, e) := by simp [fp_put]
theorem fp_put_ne {h : fp_H} {a t q : Nat} {e : fp_E} (hne : q ≠ a) : (fp_put h a t e).1 q = h.1 q := by simp [fp_put, hne]
theorem fp_new_eq {h : fp_H} {t k : Nat} {e : fp_E} : (fp_new h t e k).1 h.2.1 = some (t, e) := by simp [fp_new]
theorem fp_new_ne {h : fp_H} {t k q : Nat} {e : fp_E} (hne : q ≠ h.2.1) : (fp_new h t e k).1 q = h.1 q := by simp [fp_new, hne]
def fp_wf (h : fp_H) : Prop := ∀ (q : Nat) (x : Nat × fp_E), h.1 q = some x → q < h.2.1
theorem fp_wf.ne {h : fp_H} (w : fp_wf h) {q : Nat} {x : Nat × fp_E} (hq : h.1 q = some x) : q ≠ h.2.1 := Nat.ne_of_lt (w q x hq)
theorem fp_wf.put {h : fp_H} (w : fp_wf h) {a t t' : Nat} {e e' : fp_E} (ha : h.1 a = some (t', e')) : fp_wf (fp_put h a t e) := fun q x hq => by
  by_cases e : q = a
  · subst e; exact w q _ ha
  · rw [fp_put_ne e] at hq; exact w q x hq
theorem fp_wf.new {h : fp_H} (w : fp_wf h) {t k : Nat} {e : fp_E} : fp_wf (fp_new h t e k) := fun q x hq => by
  show q < h.2.1 + 1
  by_cases e : q = h.2.1
  · omega
  · rw [fp_new_ne e] at hq; exact Nat.lt_succ_of_lt (w q x hq)
/-- cells whose tag isn't in S stay as they are -/
def fp_fr (S : Nat → Prop) (h h' : fp_H) : Prop := h.2.1 ≤ h'.2.1 ∧ h.2.2 ≤ h'.2.2 ∧ (fp_wf h → fp_wf h') ∧ ∀ (q t : Nat) (e : fp_E), h.1 q = some (t, e) → ¬ S t → h'.1 q = some (t, e)
theorem fp_fr.refl {S : Nat → Prop} {h : fp_H} : fp_fr S h h := ⟨Nat.le_refl _, Nat.le_refl _, id, fun _ _ _ x _ => x⟩
theorem fp_fr.trans {S : Nat → Prop} {h h1 h2 : fp_H} (a : fp_fr S h h1) (b : fp_fr S h1 h2) : fp_fr S h h2 := ⟨Nat.le_trans a.1 b.1, Nat.le_trans a.2.1 b.2.1, fun w => b.2.2.1 (a.2.2.1 w), fun q t e x n => b.2.2.2 q t e (a.2.2.2 q t e x n) n⟩
theorem fp_fr.mono {S S' : Nat → Prop} {h h1 : fp_H} (a : fp_fr S h h1) (hs : ∀ t, S t → S' t) : fp_fr S' h h1 := ⟨a.1, a.2.1, a.2.2.1, fun q t e x n => a.2.2.2 q t e x (fun z => n (hs t z))⟩
theorem fp_fr.put {S : Nat → Prop} {h : fp_H} {a t t' : Nat} {e e' : fp_E} (ha : h.1 a = some (t', e')) (hS : S t') : fp_fr S h (fp_put h a t e) := ⟨Nat.le_refl _, Nat.le_refl _, fun w => w.put ha, fun q t2 e2 x n => by
  by_cases e : q = a
  · subst e; rw [ha] at x; cases x; exact absurd hS n
  · rw [fp_put_ne e]; exact x⟩
theorem fp_fr.new {S : Nat → Prop} {h : fp_H} {t k : Nat} {e : fp_E} (w : fp_wf h) : fp_fr S h (fp_new h t e k) := ⟨Nat.le_succ _, Nat.le_add_right _ _, fun w => w.new, fun q t2 e2 x _ => by rw [fp_new_ne (w.ne x)]; exact x⟩
/-- the same, of a class that the machine has entries for -/
theorem fp_methF {G : fp_G} {d : Nat × Nat} {M : fp_M} {av : List Value} {L0 : List (Option Value)} {h : fp_H} {Q : Option Value → fp_H → Prop} (hn : plainFor M.1 = true) (hle : (lg_sl av).length ≤ M.2.2.1) (hL : fp_ent av M.2.2.1 = L0) (k : fp_wp G d M 0 L0 [] h Q) : fp_ct G d M av h Q := by
  obtain ⟨r, h', ⟨m1, m2, w⟩, q⟩ := k
  refine ⟨r, h', ⟨m1, m2, fun l => ?_⟩, q⟩
  refine va_MetF (cc := M.2.1) (maxL := M.2.2.1) (ret := M.2.2.2) hn rfl ?_
  intro p e s m args below meth c s₁ B hml hv
  obtain ⟨rfl, hP, hK⟩ := hv
  have hts := atoms_spec (ws := fp_ws M) B.pre
  rw [lg_entry_eq]
  have hh := lv_entry av (n := M.2.2.1) hle
  exact w p l e s m _ below meth c s.heap [] 0 0 _ _ _ ⟨B.exec, B.bytes, hml, B.returns, B.notSynchronized, findClass_of_methodNamed B.named, (name_of_methodNamed B.named B.method).1, fun w hw => hts w (List.mem_cons_of_mem _ hw)⟩ hK hP (fun q hq => by cases hq)
    ⟨by rw [hh.1, ← hL, fp_ent_len _ _ hle], hh.2.1, fun i v hi => by rw [← hL] at hi; simpa using fp_ent_slots av M.2.2.1 i v hi⟩ (Nat.zero_add _) (Nat.zero_add _)
theorem dJ9_max_7cf53_0 : decode cJ9_max_7cf53 0 = .ok (.iload_n 0, 1) := by decide +kernel
theorem dJ9_max_7cf53_1 : decode cJ9_max_7cf53 1 = .ok (.iload_n 1, 1) := by decide +kernel
theorem dJ9_max_7cf53_2 : decode cJ9_max_7cf53 2 = .ok (.if_icmp .lt 7, 3) := by decide +kernel
theorem dJ9_max_7cf53_5 : decode cJ9_max_7cf53 5 = .ok (.iload_n 0, 1) := by decide +kernel
theorem dJ9_max_7cf53_6 : decode cJ9_max_7cf53 6 = .ok (.goto 4, 3) := by decide +kernel
theorem dJ9_max_7cf53_9 : decode cJ9_max_7cf53 9 = .ok (.iload_n 1, 1) := by decide +kernel
theorem dJ9_max_7cf53_10 : decode cJ9_max_7cf53 10 = .ok (.ireturn, 1) := by decide +kernel
theorem dJ9_min_7cf53_0 : decode cJ9_min_7cf53 0 = .ok (.iload_n 0, 1) := by decide +kernel
theorem dJ9_min_7cf53_1 : decode cJ9_min_7cf53 1 = .ok (.iload_n 1, 1) := by decide +kernel
theorem dJ9_min_7cf53_2 : decode cJ9_min_7cf53 2 = .ok (.if_icmp .gt 7, 3) := by decide +kernel
theorem dJ9_min_7cf53_5 : decode cJ9_min_7cf53 5 = .ok (.iload_n 0, 1) := by decide +kernel
theorem dJ9_min_7cf53_6 : decode cJ9_min_7cf53 6 = .ok (.goto 4, 3) := by decide +kernel
theorem dJ9_min_7cf53_9 : decode cJ9_min_7cf53 9 = .ok (.iload_n 1, 1) := by decide +kernel
theorem dJ9_min_7cf53_10 : decode cJ9_min_7cf53 10 = .ok (.ireturn, 1) := by decide +kernel
theorem dJ9_floorMod_7cf53_0 : decode cJ9_floorMod_7cf53 0 = .ok (.iload_n 0, 1) := by decide +kernel
theorem dJ9_floorMod_7cf53_1 : decode cJ9_floorMod_7cf53 1 = .ok (.iload_n 1, 1) := by decide +kernel
theorem dJ9_floorMod_7cf53_2 : decode cJ9_floorMod_7cf53 2 = .ok (.irem, 1) := by decide +kernel
theorem dJ9_floorMod_7cf53_3 : decode cJ9_floorMod_7cf53 3 = .ok (.istore_n 2, 1) := by decide +kernel
theorem dJ9_floorMod_7cf53_4 : decode cJ9_floorMod_7cf53 4 = .ok (.iload_n 0, 1) := by decide +kernel
theorem dJ9_floorMod_7cf53_5 : decode cJ9_floorMod_7cf53 5 = .ok (.iload_n 1, 1) := by decide +kernel
theorem dJ9_floorMod_7cf53_6 : decode cJ9_floorMod_7cf53 6 = .ok (.ixor, 1) := by decide +kernel
theorem dJ9_floorMod_7cf53_7 : decode cJ9_floorMod_7cf53 7 = .ok (.ifCond .ge 11, 3) := by decide +kernel
theorem dJ9_floorMod_7cf53_10 : decode cJ9_floorMod_7cf53 10 = .ok (.iload_n 2, 1) := by decide +kernel
theorem dJ9_floorMod_7cf53_11 : decode cJ9_floorMod_7cf53 11 = .ok (.ifCond .eq 7, 3) := by decide +kernel
theorem dJ9_floorMod_7cf53_14 : decode cJ9_floorMod_7cf53 14 = .ok (.iload_n 2, 1) := by decide +kernel
theorem dJ9_floorMod_7cf53_15 : decode cJ9_floorMod_7cf53 15 = .ok (.iload_n 1, 1) := by decide +kernel
theorem dJ9_floorMod_7cf53_16 : decode cJ9_floorMod_7cf53 16 = .ok (.iadd, 1) := by decide +kernel
theorem dJ9_floorMod_7cf53_17 : decode cJ9_floorMod_7cf53 17 = .ok (.ireturn, 1) := by decide +kernel
theorem dJ9_floorMod_7cf53_18 : decode cJ9_floorMod_7cf53 18 = .ok (.iload_n 2, 1) := by decide +kernel
theorem dJ9_floorMod_7cf53_19 : decode cJ9_floorMod_7cf53 19 = .ok (.ireturn, 1) := by decide +kernel
theorem dJ7_copyOf_59c91_0 : decode cJ7_copyOf_59c91 0 = .ok (.iload_n 1, 1) := by decide +kernel
theorem dJ7_copyOf_59c91_1 : decode cJ7_copyOf_59c91 1 = .ok (.aload_n 0, 1) := by decide +kernel
theorem dJ7_copyOf_59c91_2 : decode cJ7_copyOf_59c91 2 = .ok (.arraylength, 1) := by decide +kernel
theorem dJ7_copyOf_59c91_3 : decode cJ7_copyOf_59c91 3 = .ok (.if_icmp .ne 11, 3) := by decide +kernel
theorem dJ7_copyOf_59c91_6 : decode cJ7_copyOf_59c91 6 = .ok (.aload_n 0, 1) := by decide +kernel
theorem dJ7_copyOf_59c91_7 : decode cJ7_copyOf_59c91 7 = .ok (.invokevirtual 316, 3) := by decide +kernel
theorem dJ7_copyOf_59c91_10 : decode cJ7_copyOf_59c91 10 = .ok (.checkcast 317, 3) := by decide +kernel
theorem dJ7_copyOf_59c91_13 : decode cJ7_copyOf_59c91 13 = .ok (.areturn, 1) := by decide +kernel
theorem dJ7_copyOf_59c91_14 : decode cJ7_copyOf_59c91 14 = .ok (.iload_n 1, 1) := by decide +kernel
theorem dJ7_copyOf_59c91_15 : decode cJ7_copyOf_59c91 15 = .ok (.newarray .int, 2) := by decide +kernel
theorem dJ7_copyOf_59c91_17 : decode cJ7_copyOf_59c91 17 = .ok (.astore_n 2, 1) := by decide +kernel
theorem dJ7_copyOf_59c91_18 : decode cJ7_copyOf_59c91 18 = .ok (.aload_n 0, 1) := by decide +kernel
theorem dJ7_copyOf_59c91_19 : decode cJ7_copyOf_59c91 19 = .ok (.iconst 0, 1) := by decide +kernel
theorem dJ7_copyOf_59c91_20 : decode cJ7_copyOf_59c91 20 = .ok (.aload_n 2, 1) := by decide +kernel
theorem dJ7_copyOf_59c91_21 : decode cJ7_copyOf_59c91 21 = .ok (.iconst 0, 1) := by decide +kernel
theorem dJ7_copyOf_59c91_22 : decode cJ7_copyOf_59c91 22 = .ok (.aload_n 0, 1) := by decide +kernel
theorem dJ7_copyOf_59c91_23 : decode cJ7_copyOf_59c91 23 = .ok (.arraylength, 1) := by decide +kernel
theorem dJ7_copyOf_59c91_24 : decode cJ7_copyOf_59c91 24 = .ok (.iload_n 1, 1) := by decide +kernel
theorem dJ7_copyOf_59c91_25 : decode cJ7_copyOf_59c91 25 = .ok (.invokestatic 304, 3) := by decide +kernel
theorem dJ7_copyOf_59c91_28 : decode cJ7_copyOf_59c91 28 = .ok (.invokestatic 150, 3) := by decide +kernel
theorem dJ7_copyOf_59c91_31 : decode cJ7_copyOf_59c91 31 = .ok (.aload_n 2, 1) := by decide +kernel
theorem dJ7_copyOf_59c91_32 : decode cJ7_copyOf_59c91 32 = .ok (.areturn, 1) := by decide +kernel
section LIB
variable {G : fp_G} {h : fp_H}
theorem ct_max (x y : Int32) : fp_ct G rm_J9_max_7cf53 M_J9_max_7cf53 [.int x, .int y] h (fun r h' => h' = h ∧ r = some (.int (if x < y then y else x))) := by
  refine fp_methF (by decide +kernel) (Nat.le_of_ble_eq_true rfl) rfl ?_
  refine wp_iload_n dJ9_max_7cf53_0 rfl ?_
  refine wp_iload_n dJ9_max_7cf53_1 rfl ?_
  refine wp_icmp_lt (tgt := 9) dJ9_max_7cf53_2 rfl (fun c_2 => ?_) (fun c_2 => ?_)
  · refine wp_iload_n dJ9_max_7cf53_9 rfl ?_
    refine wp_iret dJ9_max_7cf53_10 rfl rfl ?_
    exact ⟨rfl, by rw [if_pos c_2]⟩
  · refine wp_iload_n dJ9_max_7cf53_5 rfl ?_
    refine wp_goto (tgt := 10) dJ9_max_7cf53_6 rfl ?_
    refine wp_iret dJ9_max_7cf53_10 rfl rfl ?_
    exact ⟨rfl, by rw [if_neg c_2]⟩
theorem ct_min (x y : Int32) : fp_ct G rm_J9_min_7cf53 M_J9_min_7cf53 [.int x, .int y] h (fun r h' => h' = h ∧ r = some (.int (if y < x then y else x))) := by
  refine fp_methF (by decide +kernel) (Nat.le_of_ble_eq_true rfl) rfl ?_
  refine wp_iload_n dJ9_min_7cf53_0 rfl ?_
  refine wp_iload_n dJ9_min_7cf53_1 rfl ?_
  refine wp_icmp_gt (tgt := 9) dJ9_min_7cf53_2 rfl (fun c_2 => ?_) (fun c_2 => ?_)
  · refine wp_iload_n dJ9_min_7cf53_9 rfl ?_
    refine wp_iret dJ9_min_7cf53_10 rfl rfl ?_
    exact ⟨rfl, by rw [if_pos c_2]⟩
  · refine wp_iload_n dJ9_min_7cf53_5 rfl ?_
    refine wp_goto (tgt := 10) dJ9_min_7cf53_6 rfl ?_
    refine wp_iret dJ9_min_7cf53_10 rfl rfl ?_
    exact ⟨rfl, by rw [if_neg c_2]⟩
/-- copyOf(int[], n), n above the old length -/
theorem ct_copyi {a0 t0 n0 N : Nat} {f : Nat → Int32} (t : Nat) (w : fp_wf h) (ha : h.1 a0 = some (t0, .inl (0, n0, .inl f))) (hlt : n0 < N) (hN : N * 4 ≤ 536870912) : fp_ct G rm_J7_copyOf_59c91 M_J7_copyOf_59c91 [.ref a0, .int (nI N)] h (fun r h' => h' = fp_put (fp_new h t (.inl (0, N, .inl (fun _ => 0))) N) h.2.1 t (.inl (0, N, .inl (va_cpy f (fun _ => 0) 0 0 n0))) ∧ r = some (.ref h.2.1)) := by
  have hN31 : N < 2 ^ 31 := by omega
  refine fp_meth pn_J7 (Nat.le_of_ble_eq_true rfl) rfl ?_
  refine wp_iload_n dJ7_copyOf_59c91_0 rfl ?_
  refine wp_aload_n dJ7_copyOf_59c91_1 rfl ?_
  refine wp_alen dJ7_copyOf_59c91_2 rfl ha ?_
  refine wp_icmp_ne (tgt := 14) dJ7_copyOf_59c91_3 rfl (fun c_3 => ?_) (fun c_3 => ?_)
  · refine wp_iload_n dJ7_copyOf_59c91_14 rfl ?_
    refine wp_newa (a0 := (_, .inl (fun _ => 0))) t dJ7_copyOf_59c91_15 (kd := 0) rfl ac_int (fun _ => rfl) (nI_pos hN31) (nI_clamp hN31) hN ?_
    refine wp_astore_n dJ7_copyOf_59c91_17 (Nat.le_of_ble_eq_true rfl) rfl ?_
    refine wp_aload_n dJ7_copyOf_59c91_18 rfl ?_
    refine wp_iconst (v := 0) dJ7_copyOf_59c91_19 rfl ?_
    refine wp_aload_n dJ7_copyOf_59c91_20 rfl ?_
    refine wp_iconst (v := 0) dJ7_copyOf_59c91_21 rfl ?_
    refine wp_aload_n dJ7_copyOf_59c91_22 rfl ?_
    refine wp_alen dJ7_copyOf_59c91_23 rfl (show (fp_new h t (.inl (0, N, .inl (fun _ => 0))) N).1 a0 = _ from (fp_new_ne (w.ne ha)).trans ha) ?_
    refine wp_iload_n dJ7_copyOf_59c91_24 rfl ?_
    refine wp_callS (As := [.int (nI n0), .int (nI N)]) (rest := [.int 0, .ref h.2.1, .int 0, .ref a0]) dJ7_copyOf_59c91_25 me_J9_min_7cf53 cw_J7_304 ⟨(Nat.le_of_ble_eq_true rfl), (Nat.le_of_ble_eq_true rfl)⟩ rfl rfl rfl (Nat.le_of_ble_eq_true rfl) (ct_min _ _) (fun r h1 q => ?_)
    obtain ⟨rfl, rfl⟩ := q
    rw [if_neg (nI_nlt (Nat.le_of_lt hlt) hN31)]
    refine wp_copyi (n := nI n0) (sp := 0) (dp := 0) dJ7_copyOf_59c91_28 cw_J7_150 ⟨(Nat.le_of_ble_eq_true rfl), (Nat.le_of_ble_eq_true rfl)⟩ rfl (Nat.le_of_ble_eq_true rfl) ((fp_new_ne (w.ne ha)).trans ha) fp_new_eq (by decide) (by decide) (nI_pos (by omega)) (by rw [nI_clamp (by omega)]; show 0 + n0 ≤ n0; omega) (by rw [nI_clamp (by omega)]; show 0 + n0 ≤ N; omega) ?_
    rw [nI_clamp (by omega)]
    refine wp_aload_n dJ7_copyOf_59c91_31 rfl ?_
    refine wp_aret dJ7_copyOf_59c91_32 rfl (by first | exact Or.inl ⟨_, rfl⟩ | exact Or.inr ⟨_, rfl⟩) (Or.inr ⟨_, rfl⟩) ?_
    exact ⟨rfl, rfl⟩
  · exact absurd c_3 (fun e => by have := (nI_eq hN31 (by omega)).mp e; omega)
end LIB
