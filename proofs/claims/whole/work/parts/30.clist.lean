/-! ArrayList, by a tag: t is its object's and its array's -/
/-- cells of other tags stay; there are no more new cells than new slots -/
def cf (S : Nat → Prop) (h h' : fp_H) : Prop := fp_fr S h h' ∧ h'.2.1 + h.2.2 ≤ h.2.1 + h'.2.2
theorem cf.refl {S : Nat → Prop} {h : fp_H} : cf S h h := ⟨fp_fr.refl, Nat.le_refl _⟩
theorem cf.trans {S : Nat → Prop} {h h1 h2 : fp_H} (a : cf S h h1) (b : cf S h1 h2) : cf S h h2 := ⟨a.1.trans b.1, by have := a.2; have := b.2; omega⟩
theorem cf.mono {S S' : Nat → Prop} {h h1 : fp_H} (a : cf S h h1) (hs : ∀ t, S t → S' t) : cf S' h h1 := ⟨a.1.mono hs, a.2⟩
theorem cf.put {S : Nat → Prop} {h : fp_H} {a t t' : Nat} {e e' : fp_E} (ha : h.1 a = some (t', e')) (hS : S t') : cf S h (fp_put h a t e) := ⟨fp_fr.put ha hS, Nat.le_refl _⟩
theorem cf.new {S : Nat → Prop} {h : fp_H} {t k : Nat} {e : fp_E} (w : fp_wf h) (hk : 1 ≤ k) : cf S h (fp_new h t e k) := ⟨fp_fr.new w, by show h.2.1 + 1 + h.2.2 ≤ h.2.1 + (h.2.2 + k); omega⟩
theorem cf.put1 {h : fp_H} {a t t' : Nat} {e e' : fp_E} (ha : h.1 a = some (t', e')) : cf (fun x => x = t') h (fp_put h a t e) := cf.put (S := fun x => x = t') ha rfl
theorem cf.wf {S : Nat → Prop} {h h' : fp_H} (a : cf S h h') (w : fp_wf h) : fp_wf h' := a.1.2.2.1 w
theorem cf.at {S : Nat → Prop} {h h' : fp_H} (a : cf S h h') {q t : Nat} {e : fp_E} (hq : h.1 q = some (t, e)) (hn : ¬ S t) : h'.1 q = some (t, e) := a.1.2.2.2 q t e hq hn
theorem kind_ne {h : fp_H} {a b t t' : Nat} {x : Nat × vp_A} {y : Nat × List Value} (ha : h.1 a = some (t, .inl x)) (hb : h.1 b = some (t', .inr y)) : a ≠ b := fun e => by rw [e, hb] at ha; cases ha
/-- y may lie in a list -/
def el (h : fp_H) (y : Nat) : Prop := ∃ (ty ci : Nat) (fs : List Value) (r : vw_C), h.1 y = some (ty, .inr (ci, fs)) ∧ vwCl[ci]? = some r ∧ Cond.castable r.1 "java/lang/Object" ∈ fp_tn
def lsA (G : fp_G) (h : fp_H) (t ed : Nat) (as : List Nat) (cap : Nat) : Prop := (cap = 0 ∧ as = [] ∧ ed = G.2.2.2.1 0) ∨ (0 < cap ∧ ∃ f, h.1 ed = some (t, .inl (4, cap, .inr (.inr (.inr (.inr f))))) ∧ as.length ≤ cap ∧ cap < 2 ^ 20 ∧ ∀ i, i < as.length → f i = as[i]?)
def lst (G : fp_G) (h : fp_H) (t a : Nat) (as : List Nat) (cap : Nat) : Prop := ∃ (mc : Int32) (ed : Nat), h.1 a = some (t, .inr (0, [.int mc, .ref ed, .int (nI as.length)])) ∧ lsA G h t ed as cap
theorem lsA.lt {G : fp_G} {h : fp_H} {t ed cap : Nat} {as : List Nat} (h1 : lsA G h t ed as cap) : as.length ≤ cap ∧ cap < 2 ^ 20 := by
  rcases h1 with ⟨rfl, rfl, -⟩ | ⟨-, f, -, h2, h3, -⟩
  · exact ⟨Nat.le_refl _, by decide⟩
  · exact ⟨h2, h3⟩
theorem lst.kept {G : fp_G} {h h' : fp_H} {S : Nat → Prop} {t a cap : Nat} {as : List Nat} (hl : lst G h t a as cap) (hc : cf S h h') (hn : ¬ S t) : lst G h' t a as cap := by
  obtain ⟨mc, ed, h1, h2⟩ := hl
  refine ⟨mc, ed, hc.at h1 hn, ?_⟩
  rcases h2 with h2 | ⟨h2, f, h3, h4⟩
  · exact Or.inl h2
  · exact Or.inr ⟨h2, f, hc.at h3 hn, h4⟩
theorem dJxa1e45_init_da8c8_0 : decode cJxa1e45_init_da8c8 0 = .ok (.aload_n 0, 1) := by decide +kernel
theorem dJxa1e45_init_da8c8_1 : decode cJxa1e45_init_da8c8 1 = .ok (.invokespecial 1, 3) := by decide +kernel
theorem dJxa1e45_init_da8c8_4 : decode cJxa1e45_init_da8c8 4 = .ok (.return_, 1) := by decide +kernel
theorem dJxc12de_init_da8c8_0 : decode cJxc12de_init_da8c8 0 = .ok (.aload_n 0, 1) := by decide +kernel
theorem dJxc12de_init_da8c8_1 : decode cJxc12de_init_da8c8 1 = .ok (.invokespecial 1, 3) := by decide +kernel
theorem dJxc12de_init_da8c8_4 : decode cJxc12de_init_da8c8 4 = .ok (.aload_n 0, 1) := by decide +kernel
theorem dJxc12de_init_da8c8_5 : decode cJxc12de_init_da8c8 5 = .ok (.iconst 0, 1) := by decide +kernel
theorem dJxc12de_init_da8c8_6 : decode cJxc12de_init_da8c8 6 = .ok (.putfield 7, 3) := by decide +kernel
theorem dJxc12de_init_da8c8_9 : decode cJxc12de_init_da8c8 9 = .ok (.return_, 1) := by decide +kernel
theorem dJx4a65c_init_da8c8_0 : decode cJx4a65c_init_da8c8 0 = .ok (.aload_n 0, 1) := by decide +kernel
theorem dJx4a65c_init_da8c8_1 : decode cJx4a65c_init_da8c8 1 = .ok (.invokespecial 1, 3) := by decide +kernel
theorem dJx4a65c_init_da8c8_4 : decode cJx4a65c_init_da8c8 4 = .ok (.aload_n 0, 1) := by decide +kernel
theorem dJx4a65c_init_da8c8_5 : decode cJx4a65c_init_da8c8 5 = .ok (.getstatic 39, 3) := by decide +kernel
theorem dJx4a65c_init_da8c8_8 : decode cJx4a65c_init_da8c8 8 = .ok (.putfield 9, 3) := by decide +kernel
theorem dJx4a65c_init_da8c8_11 : decode cJx4a65c_init_da8c8 11 = .ok (.return_, 1) := by decide +kernel
theorem dJx4a65c_add_9ea2d_0 : decode cJx4a65c_add_9ea2d 0 = .ok (.aload_n 0, 1) := by decide +kernel
theorem dJx4a65c_add_9ea2d_1 : decode cJx4a65c_add_9ea2d 1 = .ok (.dup, 1) := by decide +kernel
theorem dJx4a65c_add_9ea2d_2 : decode cJx4a65c_add_9ea2d 2 = .ok (.getfield 63, 3) := by decide +kernel
theorem dJx4a65c_add_9ea2d_5 : decode cJx4a65c_add_9ea2d 5 = .ok (.iconst 1, 1) := by decide +kernel
theorem dJx4a65c_add_9ea2d_6 : decode cJx4a65c_add_9ea2d 6 = .ok (.iadd, 1) := by decide +kernel
theorem dJx4a65c_add_9ea2d_7 : decode cJx4a65c_add_9ea2d 7 = .ok (.putfield 63, 3) := by decide +kernel
theorem dJx4a65c_add_9ea2d_10 : decode cJx4a65c_add_9ea2d 10 = .ok (.aload_n 0, 1) := by decide +kernel
theorem dJx4a65c_add_9ea2d_11 : decode cJx4a65c_add_9ea2d 11 = .ok (.aload_n 1, 1) := by decide +kernel
theorem dJx4a65c_add_9ea2d_12 : decode cJx4a65c_add_9ea2d 12 = .ok (.aload_n 0, 1) := by decide +kernel
theorem dJx4a65c_add_9ea2d_13 : decode cJx4a65c_add_9ea2d 13 = .ok (.getfield 9, 3) := by decide +kernel
theorem dJx4a65c_add_9ea2d_16 : decode cJx4a65c_add_9ea2d 16 = .ok (.aload_n 0, 1) := by decide +kernel
theorem dJx4a65c_add_9ea2d_17 : decode cJx4a65c_add_9ea2d 17 = .ok (.getfield 48, 3) := by decide +kernel
theorem dJx4a65c_add_9ea2d_20 : decode cJx4a65c_add_9ea2d 20 = .ok (.invokevirtual 131, 3) := by decide +kernel
theorem dJx4a65c_add_9ea2d_23 : decode cJx4a65c_add_9ea2d 23 = .ok (.iconst 1, 1) := by decide +kernel
theorem dJx4a65c_add_9ea2d_24 : decode cJx4a65c_add_9ea2d 24 = .ok (.ireturn, 1) := by decide +kernel
theorem dJx4a65c_add_72be8_0 : decode cJx4a65c_add_72be8 0 = .ok (.iload_n 3, 1) := by decide +kernel
theorem dJx4a65c_add_72be8_1 : decode cJx4a65c_add_72be8 1 = .ok (.aload_n 2, 1) := by decide +kernel
theorem dJx4a65c_add_72be8_2 : decode cJx4a65c_add_72be8 2 = .ok (.arraylength, 1) := by decide +kernel
theorem dJx4a65c_add_72be8_3 : decode cJx4a65c_add_72be8 3 = .ok (.if_icmp .ne 8, 3) := by decide +kernel
theorem dJx4a65c_add_72be8_6 : decode cJx4a65c_add_72be8 6 = .ok (.aload_n 0, 1) := by decide +kernel
theorem dJx4a65c_add_72be8_7 : decode cJx4a65c_add_72be8 7 = .ok (.invokevirtual 129, 3) := by decide +kernel
theorem dJx4a65c_add_72be8_10 : decode cJx4a65c_add_72be8 10 = .ok (.astore_n 2, 1) := by decide +kernel
theorem dJx4a65c_add_72be8_11 : decode cJx4a65c_add_72be8 11 = .ok (.aload_n 2, 1) := by decide +kernel
theorem dJx4a65c_add_72be8_12 : decode cJx4a65c_add_72be8 12 = .ok (.iload_n 3, 1) := by decide +kernel
theorem dJx4a65c_add_72be8_13 : decode cJx4a65c_add_72be8 13 = .ok (.aload_n 1, 1) := by decide +kernel
theorem dJx4a65c_add_72be8_14 : decode cJx4a65c_add_72be8 14 = .ok (.aastore, 1) := by decide +kernel
theorem dJx4a65c_add_72be8_15 : decode cJx4a65c_add_72be8 15 = .ok (.aload_n 0, 1) := by decide +kernel
theorem dJx4a65c_add_72be8_16 : decode cJx4a65c_add_72be8 16 = .ok (.iload_n 3, 1) := by decide +kernel
theorem dJx4a65c_add_72be8_17 : decode cJx4a65c_add_72be8 17 = .ok (.iconst 1, 1) := by decide +kernel
theorem dJx4a65c_add_72be8_18 : decode cJx4a65c_add_72be8 18 = .ok (.iadd, 1) := by decide +kernel
theorem dJx4a65c_add_72be8_19 : decode cJx4a65c_add_72be8 19 = .ok (.putfield 48, 3) := by decide +kernel
theorem dJx4a65c_add_72be8_22 : decode cJx4a65c_add_72be8 22 = .ok (.return_, 1) := by decide +kernel
theorem dJx4a65c_grow_d5877_0 : decode cJx4a65c_grow_d5877 0 = .ok (.aload_n 0, 1) := by decide +kernel
theorem dJx4a65c_grow_d5877_1 : decode cJx4a65c_grow_d5877 1 = .ok (.aload_n 0, 1) := by decide +kernel
theorem dJx4a65c_grow_d5877_2 : decode cJx4a65c_grow_d5877 2 = .ok (.getfield 48, 3) := by decide +kernel
theorem dJx4a65c_grow_d5877_5 : decode cJx4a65c_grow_d5877 5 = .ok (.iconst 1, 1) := by decide +kernel
theorem dJx4a65c_grow_d5877_6 : decode cJx4a65c_grow_d5877 6 = .ok (.iadd, 1) := by decide +kernel
theorem dJx4a65c_grow_d5877_7 : decode cJx4a65c_grow_d5877 7 = .ok (.invokevirtual 69, 3) := by decide +kernel
theorem dJx4a65c_grow_d5877_10 : decode cJx4a65c_grow_d5877 10 = .ok (.areturn, 1) := by decide +kernel
theorem dJx4a65c_grow_92f84_0 : decode cJx4a65c_grow_92f84 0 = .ok (.aload_n 0, 1) := by decide +kernel
theorem dJx4a65c_grow_92f84_1 : decode cJx4a65c_grow_92f84 1 = .ok (.getfield 9, 3) := by decide +kernel
theorem dJx4a65c_grow_92f84_4 : decode cJx4a65c_grow_92f84 4 = .ok (.arraylength, 1) := by decide +kernel
theorem dJx4a65c_grow_92f84_5 : decode cJx4a65c_grow_92f84 5 = .ok (.istore_n 2, 1) := by decide +kernel
theorem dJx4a65c_grow_92f84_6 : decode cJx4a65c_grow_92f84 6 = .ok (.iload_n 2, 1) := by decide +kernel
theorem dJx4a65c_grow_92f84_7 : decode cJx4a65c_grow_92f84 7 = .ok (.ifCond .gt 13, 3) := by decide +kernel
theorem dJx4a65c_grow_92f84_10 : decode cJx4a65c_grow_92f84 10 = .ok (.aload_n 0, 1) := by decide +kernel
theorem dJx4a65c_grow_92f84_11 : decode cJx4a65c_grow_92f84 11 = .ok (.getfield 9, 3) := by decide +kernel
theorem dJx4a65c_grow_92f84_14 : decode cJx4a65c_grow_92f84 14 = .ok (.getstatic 39, 3) := by decide +kernel
theorem dJx4a65c_grow_92f84_17 : decode cJx4a65c_grow_92f84 17 = .ok (.if_acmp .eq 28, 3) := by decide +kernel
theorem dJx4a65c_grow_92f84_20 : decode cJx4a65c_grow_92f84 20 = .ok (.iload_n 2, 1) := by decide +kernel
theorem dJx4a65c_grow_92f84_21 : decode cJx4a65c_grow_92f84 21 = .ok (.iload_n 1, 1) := by decide +kernel
theorem dJx4a65c_grow_92f84_22 : decode cJx4a65c_grow_92f84 22 = .ok (.iload_n 2, 1) := by decide +kernel
theorem dJx4a65c_grow_92f84_23 : decode cJx4a65c_grow_92f84 23 = .ok (.isub, 1) := by decide +kernel
theorem dJx4a65c_grow_92f84_24 : decode cJx4a65c_grow_92f84 24 = .ok (.iload_n 2, 1) := by decide +kernel
theorem dJx4a65c_grow_92f84_25 : decode cJx4a65c_grow_92f84 25 = .ok (.iconst 1, 1) := by decide +kernel
theorem dJx4a65c_grow_92f84_26 : decode cJx4a65c_grow_92f84 26 = .ok (.ishr, 1) := by decide +kernel
theorem dJx4a65c_grow_92f84_27 : decode cJx4a65c_grow_92f84 27 = .ok (.invokestatic 73, 3) := by decide +kernel
theorem dJx4a65c_grow_92f84_30 : decode cJx4a65c_grow_92f84 30 = .ok (.istore_n 3, 1) := by decide +kernel
theorem dJx4a65c_grow_92f84_31 : decode cJx4a65c_grow_92f84 31 = .ok (.aload_n 0, 1) := by decide +kernel
theorem dJx4a65c_grow_92f84_32 : decode cJx4a65c_grow_92f84 32 = .ok (.aload_n 0, 1) := by decide +kernel
theorem dJx4a65c_grow_92f84_33 : decode cJx4a65c_grow_92f84 33 = .ok (.getfield 9, 3) := by decide +kernel
theorem dJx4a65c_grow_92f84_36 : decode cJx4a65c_grow_92f84 36 = .ok (.iload_n 3, 1) := by decide +kernel
theorem dJx4a65c_grow_92f84_37 : decode cJx4a65c_grow_92f84 37 = .ok (.invokestatic 66, 3) := by decide +kernel
theorem dJx4a65c_grow_92f84_40 : decode cJx4a65c_grow_92f84 40 = .ok (.dup_x1, 1) := by decide +kernel
theorem dJx4a65c_grow_92f84_41 : decode cJx4a65c_grow_92f84 41 = .ok (.putfield 9, 3) := by decide +kernel
theorem dJx4a65c_grow_92f84_44 : decode cJx4a65c_grow_92f84 44 = .ok (.areturn, 1) := by decide +kernel
theorem dJx4a65c_grow_92f84_45 : decode cJx4a65c_grow_92f84 45 = .ok (.aload_n 0, 1) := by decide +kernel
theorem dJx4a65c_grow_92f84_46 : decode cJx4a65c_grow_92f84 46 = .ok (.bipush 10, 2) := by decide +kernel
theorem dJx4a65c_grow_92f84_48 : decode cJx4a65c_grow_92f84 48 = .ok (.iload_n 1, 1) := by decide +kernel
theorem dJx4a65c_grow_92f84_49 : decode cJx4a65c_grow_92f84 49 = .ok (.invokestatic 79, 3) := by decide +kernel
theorem dJx4a65c_grow_92f84_52 : decode cJx4a65c_grow_92f84 52 = .ok (.anewarray 7, 3) := by decide +kernel
theorem dJx4a65c_grow_92f84_55 : decode cJx4a65c_grow_92f84 55 = .ok (.dup_x1, 1) := by decide +kernel
theorem dJx4a65c_grow_92f84_56 : decode cJx4a65c_grow_92f84 56 = .ok (.putfield 9, 3) := by decide +kernel
theorem dJx4a65c_grow_92f84_59 : decode cJx4a65c_grow_92f84 59 = .ok (.areturn, 1) := by decide +kernel
theorem dJ8_newLength_cabcc_0 : decode cJ8_newLength_cabcc 0 = .ok (.iload_n 0, 1) := by decide +kernel
theorem dJ8_newLength_cabcc_1 : decode cJ8_newLength_cabcc 1 = .ok (.iload_n 1, 1) := by decide +kernel
theorem dJ8_newLength_cabcc_2 : decode cJ8_newLength_cabcc 2 = .ok (.iload_n 2, 1) := by decide +kernel
theorem dJ8_newLength_cabcc_3 : decode cJ8_newLength_cabcc 3 = .ok (.invokestatic 194, 3) := by decide +kernel
theorem dJ8_newLength_cabcc_6 : decode cJ8_newLength_cabcc 6 = .ok (.iadd, 1) := by decide +kernel
theorem dJ8_newLength_cabcc_7 : decode cJ8_newLength_cabcc 7 = .ok (.istore_n 3, 1) := by decide +kernel
theorem dJ8_newLength_cabcc_8 : decode cJ8_newLength_cabcc 8 = .ok (.iconst 0, 1) := by decide +kernel
theorem dJ8_newLength_cabcc_9 : decode cJ8_newLength_cabcc 9 = .ok (.iload_n 3, 1) := by decide +kernel
theorem dJ8_newLength_cabcc_10 : decode cJ8_newLength_cabcc 10 = .ok (.if_icmp .ge 11, 3) := by decide +kernel
theorem dJ8_newLength_cabcc_13 : decode cJ8_newLength_cabcc 13 = .ok (.iload_n 3, 1) := by decide +kernel
theorem dJ8_newLength_cabcc_14 : decode cJ8_newLength_cabcc 14 = .ok (.ldc 200, 2) := by decide +kernel
theorem dJ8_newLength_cabcc_16 : decode cJ8_newLength_cabcc 16 = .ok (.if_icmp .gt 5, 3) := by decide +kernel
theorem dJ8_newLength_cabcc_19 : decode cJ8_newLength_cabcc 19 = .ok (.iload_n 3, 1) := by decide +kernel
theorem dJ8_newLength_cabcc_20 : decode cJ8_newLength_cabcc 20 = .ok (.ireturn, 1) := by decide +kernel
theorem dJ8_newLength_cabcc_21 : decode cJ8_newLength_cabcc 21 = .ok (.iload_n 0, 1) := by decide +kernel
theorem dJ8_newLength_cabcc_22 : decode cJ8_newLength_cabcc 22 = .ok (.iload_n 1, 1) := by decide +kernel
theorem dJ8_newLength_cabcc_23 : decode cJ8_newLength_cabcc 23 = .ok (.invokestatic 201, 3) := by decide +kernel
theorem dJ8_newLength_cabcc_26 : decode cJ8_newLength_cabcc 26 = .ok (.ireturn, 1) := by decide +kernel
theorem dJ7_copyOf_1904c_0 : decode cJ7_copyOf_1904c 0 = .ok (.aload_n 0, 1) := by decide +kernel
theorem dJ7_copyOf_1904c_1 : decode cJ7_copyOf_1904c 1 = .ok (.iload_n 1, 1) := by decide +kernel
theorem dJ7_copyOf_1904c_2 : decode cJ7_copyOf_1904c 2 = .ok (.aload_n 0, 1) := by decide +kernel
theorem dJ7_copyOf_1904c_3 : decode cJ7_copyOf_1904c 3 = .ok (.invokevirtual 86, 3) := by decide +kernel
theorem dJ7_copyOf_1904c_6 : decode cJ7_copyOf_1904c 6 = .ok (.invokestatic 300, 3) := by decide +kernel
theorem dJ7_copyOf_1904c_9 : decode cJ7_copyOf_1904c 9 = .ok (.areturn, 1) := by decide +kernel
theorem dJ7_copyOf_6403c_0 : decode cJ7_copyOf_6403c 0 = .ok (.aload_n 2, 1) := by decide +kernel
theorem dJ7_copyOf_6403c_1 : decode cJ7_copyOf_6403c 1 = .ok (.ldc 110, 2) := by decide +kernel
theorem dJ7_copyOf_6403c_3 : decode cJ7_copyOf_6403c 3 = .ok (.if_acmp .ne 10, 3) := by decide +kernel
theorem dJ7_copyOf_6403c_6 : decode cJ7_copyOf_6403c 6 = .ok (.iload_n 1, 1) := by decide +kernel
theorem dJ7_copyOf_6403c_7 : decode cJ7_copyOf_6403c 7 = .ok (.anewarray 2, 3) := by decide +kernel
theorem dJ7_copyOf_6403c_10 : decode cJ7_copyOf_6403c 10 = .ok (.goto 14, 3) := by decide +kernel
theorem dJ7_copyOf_6403c_13 : decode cJ7_copyOf_6403c 13 = .ok (.aload_n 2, 1) := by decide +kernel
theorem dJ7_copyOf_6403c_14 : decode cJ7_copyOf_6403c 14 = .ok (.invokevirtual 90, 3) := by decide +kernel
theorem dJ7_copyOf_6403c_17 : decode cJ7_copyOf_6403c 17 = .ok (.iload_n 1, 1) := by decide +kernel
theorem dJ7_copyOf_6403c_18 : decode cJ7_copyOf_6403c 18 = .ok (.invokestatic 95, 3) := by decide +kernel
theorem dJ7_copyOf_6403c_21 : decode cJ7_copyOf_6403c 21 = .ok (.checkcast 110, 3) := by decide +kernel
theorem dJ7_copyOf_6403c_24 : decode cJ7_copyOf_6403c 24 = .ok (.astore_n 3, 1) := by decide +kernel
theorem dJ7_copyOf_6403c_25 : decode cJ7_copyOf_6403c 25 = .ok (.aload_n 0, 1) := by decide +kernel
theorem dJ7_copyOf_6403c_26 : decode cJ7_copyOf_6403c 26 = .ok (.iconst 0, 1) := by decide +kernel
theorem dJ7_copyOf_6403c_27 : decode cJ7_copyOf_6403c 27 = .ok (.aload_n 3, 1) := by decide +kernel
theorem dJ7_copyOf_6403c_28 : decode cJ7_copyOf_6403c 28 = .ok (.iconst 0, 1) := by decide +kernel
theorem dJ7_copyOf_6403c_29 : decode cJ7_copyOf_6403c 29 = .ok (.aload_n 0, 1) := by decide +kernel
theorem dJ7_copyOf_6403c_30 : decode cJ7_copyOf_6403c 30 = .ok (.arraylength, 1) := by decide +kernel
theorem dJ7_copyOf_6403c_31 : decode cJ7_copyOf_6403c 31 = .ok (.iload_n 1, 1) := by decide +kernel
theorem dJ7_copyOf_6403c_32 : decode cJ7_copyOf_6403c 32 = .ok (.invokestatic 304, 3) := by decide +kernel
theorem dJ7_copyOf_6403c_35 : decode cJ7_copyOf_6403c 35 = .ok (.invokestatic 150, 3) := by decide +kernel
theorem dJ7_copyOf_6403c_38 : decode cJ7_copyOf_6403c 38 = .ok (.aload_n 3, 1) := by decide +kernel
theorem dJ7_copyOf_6403c_39 : decode cJ7_copyOf_6403c 39 = .ok (.areturn, 1) := by decide +kernel
theorem dJx4a65c_get_915e3_0 : decode cJx4a65c_get_915e3 0 = .ok (.iload_n 1, 1) := by decide +kernel
theorem dJx4a65c_get_915e3_1 : decode cJx4a65c_get_915e3 1 = .ok (.aload_n 0, 1) := by decide +kernel
theorem dJx4a65c_get_915e3_2 : decode cJx4a65c_get_915e3 2 = .ok (.getfield 48, 3) := by decide +kernel
theorem dJx4a65c_get_915e3_5 : decode cJx4a65c_get_915e3 5 = .ok (.invokestatic 118, 3) := by decide +kernel
theorem dJx4a65c_get_915e3_8 : decode cJx4a65c_get_915e3 8 = .ok (.pop, 1) := by decide +kernel
theorem dJx4a65c_get_915e3_9 : decode cJx4a65c_get_915e3 9 = .ok (.aload_n 0, 1) := by decide +kernel
theorem dJx4a65c_get_915e3_10 : decode cJx4a65c_get_915e3 10 = .ok (.iload_n 1, 1) := by decide +kernel
theorem dJx4a65c_get_915e3_11 : decode cJx4a65c_get_915e3 11 = .ok (.invokevirtual 123, 3) := by decide +kernel
theorem dJx4a65c_get_915e3_14 : decode cJx4a65c_get_915e3 14 = .ok (.areturn, 1) := by decide +kernel
theorem dJx4a65c_elementData_915e3_0 : decode cJx4a65c_elementData_915e3 0 = .ok (.aload_n 0, 1) := by decide +kernel
theorem dJx4a65c_elementData_915e3_1 : decode cJx4a65c_elementData_915e3 1 = .ok (.getfield 9, 3) := by decide +kernel
theorem dJx4a65c_elementData_915e3_4 : decode cJx4a65c_elementData_915e3 4 = .ok (.iload_n 1, 1) := by decide +kernel
theorem dJx4a65c_elementData_915e3_5 : decode cJx4a65c_elementData_915e3 5 = .ok (.aaload, 1) := by decide +kernel
theorem dJx4a65c_elementData_915e3_6 : decode cJx4a65c_elementData_915e3 6 = .ok (.areturn, 1) := by decide +kernel
theorem dJ15_checkIndex_7cf53_0 : decode cJ15_checkIndex_7cf53 0 = .ok (.iload_n 0, 1) := by decide +kernel
theorem dJ15_checkIndex_7cf53_1 : decode cJ15_checkIndex_7cf53 1 = .ok (.iload_n 1, 1) := by decide +kernel
theorem dJ15_checkIndex_7cf53_2 : decode cJ15_checkIndex_7cf53 2 = .ok (.aconst_null, 1) := by decide +kernel
theorem dJ15_checkIndex_7cf53_3 : decode cJ15_checkIndex_7cf53 3 = .ok (.invokestatic 105, 3) := by decide +kernel
theorem dJ15_checkIndex_7cf53_6 : decode cJ15_checkIndex_7cf53 6 = .ok (.ireturn, 1) := by decide +kernel
theorem dJ3_checkIndex_8e157_0 : decode cJ3_checkIndex_8e157 0 = .ok (.iload_n 0, 1) := by decide +kernel
theorem dJ3_checkIndex_8e157_1 : decode cJ3_checkIndex_8e157 1 = .ok (.ifCond .lt 8, 3) := by decide +kernel
theorem dJ3_checkIndex_8e157_4 : decode cJ3_checkIndex_8e157 4 = .ok (.iload_n 0, 1) := by decide +kernel
theorem dJ3_checkIndex_8e157_5 : decode cJ3_checkIndex_8e157 5 = .ok (.iload_n 1, 1) := by decide +kernel
theorem dJ3_checkIndex_8e157_6 : decode cJ3_checkIndex_8e157 6 = .ok (.if_icmp .lt 10, 3) := by decide +kernel
theorem dJ3_checkIndex_8e157_9 : decode cJ3_checkIndex_8e157 9 = .ok (.aload_n 2, 1) := by decide +kernel
theorem dJ3_checkIndex_8e157_10 : decode cJ3_checkIndex_8e157 10 = .ok (.iload_n 0, 1) := by decide +kernel
theorem dJ3_checkIndex_8e157_11 : decode cJ3_checkIndex_8e157 11 = .ok (.iload_n 1, 1) := by decide +kernel
theorem dJ3_checkIndex_8e157_12 : decode cJ3_checkIndex_8e157 12 = .ok (.invokestatic 95, 3) := by decide +kernel
theorem dJ3_checkIndex_8e157_15 : decode cJ3_checkIndex_8e157 15 = .ok (.athrow, 1) := by decide +kernel
theorem dJ3_checkIndex_8e157_16 : decode cJ3_checkIndex_8e157 16 = .ok (.iload_n 0, 1) := by decide +kernel
theorem dJ3_checkIndex_8e157_17 : decode cJ3_checkIndex_8e157 17 = .ok (.ireturn, 1) := by decide +kernel
theorem dJx4a65c_remove_915e3_0 : decode cJx4a65c_remove_915e3 0 = .ok (.iload_n 1, 1) := by decide +kernel
theorem dJx4a65c_remove_915e3_1 : decode cJx4a65c_remove_915e3 1 = .ok (.aload_n 0, 1) := by decide +kernel
theorem dJx4a65c_remove_915e3_2 : decode cJx4a65c_remove_915e3 2 = .ok (.getfield 48, 3) := by decide +kernel
theorem dJx4a65c_remove_915e3_5 : decode cJx4a65c_remove_915e3 5 = .ok (.invokestatic 118, 3) := by decide +kernel
theorem dJx4a65c_remove_915e3_8 : decode cJx4a65c_remove_915e3 8 = .ok (.pop, 1) := by decide +kernel
theorem dJx4a65c_remove_915e3_9 : decode cJx4a65c_remove_915e3 9 = .ok (.aload_n 0, 1) := by decide +kernel
theorem dJx4a65c_remove_915e3_10 : decode cJx4a65c_remove_915e3 10 = .ok (.getfield 9, 3) := by decide +kernel
theorem dJx4a65c_remove_915e3_13 : decode cJx4a65c_remove_915e3 13 = .ok (.astore_n 2, 1) := by decide +kernel
theorem dJx4a65c_remove_915e3_14 : decode cJx4a65c_remove_915e3 14 = .ok (.aload_n 2, 1) := by decide +kernel
theorem dJx4a65c_remove_915e3_15 : decode cJx4a65c_remove_915e3 15 = .ok (.iload_n 1, 1) := by decide +kernel
theorem dJx4a65c_remove_915e3_16 : decode cJx4a65c_remove_915e3 16 = .ok (.aaload, 1) := by decide +kernel
theorem dJx4a65c_remove_915e3_17 : decode cJx4a65c_remove_915e3 17 = .ok (.astore_n 3, 1) := by decide +kernel
theorem dJx4a65c_remove_915e3_18 : decode cJx4a65c_remove_915e3 18 = .ok (.aload_n 0, 1) := by decide +kernel
theorem dJx4a65c_remove_915e3_19 : decode cJx4a65c_remove_915e3 19 = .ok (.aload_n 2, 1) := by decide +kernel
theorem dJx4a65c_remove_915e3_20 : decode cJx4a65c_remove_915e3 20 = .ok (.iload_n 1, 1) := by decide +kernel
theorem dJx4a65c_remove_915e3_21 : decode cJx4a65c_remove_915e3 21 = .ok (.invokevirtual 144, 3) := by decide +kernel
theorem dJx4a65c_remove_915e3_24 : decode cJx4a65c_remove_915e3 24 = .ok (.aload_n 3, 1) := by decide +kernel
theorem dJx4a65c_remove_915e3_25 : decode cJx4a65c_remove_915e3 25 = .ok (.areturn, 1) := by decide +kernel
theorem dJx4a65c_fastRemove_b59b0_0 : decode cJx4a65c_fastRemove_b59b0 0 = .ok (.aload_n 0, 1) := by decide +kernel
theorem dJx4a65c_fastRemove_b59b0_1 : decode cJx4a65c_fastRemove_b59b0 1 = .ok (.dup, 1) := by decide +kernel
theorem dJx4a65c_fastRemove_b59b0_2 : decode cJx4a65c_fastRemove_b59b0 2 = .ok (.getfield 63, 3) := by decide +kernel
theorem dJx4a65c_fastRemove_b59b0_5 : decode cJx4a65c_fastRemove_b59b0 5 = .ok (.iconst 1, 1) := by decide +kernel
theorem dJx4a65c_fastRemove_b59b0_6 : decode cJx4a65c_fastRemove_b59b0 6 = .ok (.iadd, 1) := by decide +kernel
theorem dJx4a65c_fastRemove_b59b0_7 : decode cJx4a65c_fastRemove_b59b0 7 = .ok (.putfield 63, 3) := by decide +kernel
theorem dJx4a65c_fastRemove_b59b0_10 : decode cJx4a65c_fastRemove_b59b0 10 = .ok (.aload_n 0, 1) := by decide +kernel
theorem dJx4a65c_fastRemove_b59b0_11 : decode cJx4a65c_fastRemove_b59b0 11 = .ok (.getfield 48, 3) := by decide +kernel
theorem dJx4a65c_fastRemove_b59b0_14 : decode cJx4a65c_fastRemove_b59b0 14 = .ok (.iconst 1, 1) := by decide +kernel
theorem dJx4a65c_fastRemove_b59b0_15 : decode cJx4a65c_fastRemove_b59b0 15 = .ok (.isub, 1) := by decide +kernel
theorem dJx4a65c_fastRemove_b59b0_16 : decode cJx4a65c_fastRemove_b59b0 16 = .ok (.dup, 1) := by decide +kernel
theorem dJx4a65c_fastRemove_b59b0_17 : decode cJx4a65c_fastRemove_b59b0 17 = .ok (.istore_n 3, 1) := by decide +kernel
theorem dJx4a65c_fastRemove_b59b0_18 : decode cJx4a65c_fastRemove_b59b0 18 = .ok (.iload_n 2, 1) := by decide +kernel
theorem dJx4a65c_fastRemove_b59b0_19 : decode cJx4a65c_fastRemove_b59b0 19 = .ok (.if_icmp .le 15, 3) := by decide +kernel
theorem dJx4a65c_fastRemove_b59b0_22 : decode cJx4a65c_fastRemove_b59b0 22 = .ok (.aload_n 1, 1) := by decide +kernel
theorem dJx4a65c_fastRemove_b59b0_23 : decode cJx4a65c_fastRemove_b59b0 23 = .ok (.iload_n 2, 1) := by decide +kernel
theorem dJx4a65c_fastRemove_b59b0_24 : decode cJx4a65c_fastRemove_b59b0 24 = .ok (.iconst 1, 1) := by decide +kernel
theorem dJx4a65c_fastRemove_b59b0_25 : decode cJx4a65c_fastRemove_b59b0 25 = .ok (.iadd, 1) := by decide +kernel
theorem dJx4a65c_fastRemove_b59b0_26 : decode cJx4a65c_fastRemove_b59b0 26 = .ok (.aload_n 1, 1) := by decide +kernel
theorem dJx4a65c_fastRemove_b59b0_27 : decode cJx4a65c_fastRemove_b59b0 27 = .ok (.iload_n 2, 1) := by decide +kernel
theorem dJx4a65c_fastRemove_b59b0_28 : decode cJx4a65c_fastRemove_b59b0 28 = .ok (.iload_n 3, 1) := by decide +kernel
theorem dJx4a65c_fastRemove_b59b0_29 : decode cJx4a65c_fastRemove_b59b0 29 = .ok (.iload_n 2, 1) := by decide +kernel
theorem dJx4a65c_fastRemove_b59b0_30 : decode cJx4a65c_fastRemove_b59b0 30 = .ok (.isub, 1) := by decide +kernel
theorem dJx4a65c_fastRemove_b59b0_31 : decode cJx4a65c_fastRemove_b59b0 31 = .ok (.invokestatic 112, 3) := by decide +kernel
theorem dJx4a65c_fastRemove_b59b0_34 : decode cJx4a65c_fastRemove_b59b0 34 = .ok (.aload_n 1, 1) := by decide +kernel
theorem dJx4a65c_fastRemove_b59b0_35 : decode cJx4a65c_fastRemove_b59b0 35 = .ok (.aload_n 0, 1) := by decide +kernel
theorem dJx4a65c_fastRemove_b59b0_36 : decode cJx4a65c_fastRemove_b59b0 36 = .ok (.iload_n 3, 1) := by decide +kernel
theorem dJx4a65c_fastRemove_b59b0_37 : decode cJx4a65c_fastRemove_b59b0 37 = .ok (.dup_x1, 1) := by decide +kernel
theorem dJx4a65c_fastRemove_b59b0_38 : decode cJx4a65c_fastRemove_b59b0 38 = .ok (.putfield 48, 3) := by decide +kernel
theorem dJx4a65c_fastRemove_b59b0_41 : decode cJx4a65c_fastRemove_b59b0 41 = .ok (.aconst_null, 1) := by decide +kernel
theorem dJx4a65c_fastRemove_b59b0_42 : decode cJx4a65c_fastRemove_b59b0 42 = .ok (.aastore, 1) := by decide +kernel
theorem dJx4a65c_fastRemove_b59b0_43 : decode cJx4a65c_fastRemove_b59b0 43 = .ok (.return_, 1) := by decide +kernel
theorem dJx4a65c_clear_da8c8_0 : decode cJx4a65c_clear_da8c8 0 = .ok (.aload_n 0, 1) := by decide +kernel
theorem dJx4a65c_clear_da8c8_1 : decode cJx4a65c_clear_da8c8 1 = .ok (.dup, 1) := by decide +kernel
theorem dJx4a65c_clear_da8c8_2 : decode cJx4a65c_clear_da8c8 2 = .ok (.getfield 63, 3) := by decide +kernel
theorem dJx4a65c_clear_da8c8_5 : decode cJx4a65c_clear_da8c8 5 = .ok (.iconst 1, 1) := by decide +kernel
theorem dJx4a65c_clear_da8c8_6 : decode cJx4a65c_clear_da8c8 6 = .ok (.iadd, 1) := by decide +kernel
theorem dJx4a65c_clear_da8c8_7 : decode cJx4a65c_clear_da8c8 7 = .ok (.putfield 63, 3) := by decide +kernel
theorem dJx4a65c_clear_da8c8_10 : decode cJx4a65c_clear_da8c8 10 = .ok (.aload_n 0, 1) := by decide +kernel
theorem dJx4a65c_clear_da8c8_11 : decode cJx4a65c_clear_da8c8 11 = .ok (.getfield 9, 3) := by decide +kernel
theorem dJx4a65c_clear_da8c8_14 : decode cJx4a65c_clear_da8c8 14 = .ok (.astore_n 1, 1) := by decide +kernel
theorem dJx4a65c_clear_da8c8_15 : decode cJx4a65c_clear_da8c8 15 = .ok (.aload_n 0, 1) := by decide +kernel
theorem dJx4a65c_clear_da8c8_16 : decode cJx4a65c_clear_da8c8 16 = .ok (.getfield 48, 3) := by decide +kernel
theorem dJx4a65c_clear_da8c8_19 : decode cJx4a65c_clear_da8c8 19 = .ok (.istore_n 2, 1) := by decide +kernel
theorem dJx4a65c_clear_da8c8_20 : decode cJx4a65c_clear_da8c8 20 = .ok (.aload_n 0, 1) := by decide +kernel
theorem dJx4a65c_clear_da8c8_21 : decode cJx4a65c_clear_da8c8 21 = .ok (.iconst 0, 1) := by decide +kernel
theorem dJx4a65c_clear_da8c8_22 : decode cJx4a65c_clear_da8c8 22 = .ok (.dup_x1, 1) := by decide +kernel
theorem dJx4a65c_clear_da8c8_23 : decode cJx4a65c_clear_da8c8 23 = .ok (.putfield 48, 3) := by decide +kernel
theorem dJx4a65c_clear_da8c8_26 : decode cJx4a65c_clear_da8c8 26 = .ok (.istore_n 3, 1) := by decide +kernel
theorem dJx4a65c_clear_da8c8_27 : decode cJx4a65c_clear_da8c8 27 = .ok (.iload_n 3, 1) := by decide +kernel
theorem dJx4a65c_clear_da8c8_28 : decode cJx4a65c_clear_da8c8 28 = .ok (.iload_n 2, 1) := by decide +kernel
theorem dJx4a65c_clear_da8c8_29 : decode cJx4a65c_clear_da8c8 29 = .ok (.if_icmp .ge 13, 3) := by decide +kernel
theorem dJx4a65c_clear_da8c8_32 : decode cJx4a65c_clear_da8c8 32 = .ok (.aload_n 1, 1) := by decide +kernel
theorem dJx4a65c_clear_da8c8_33 : decode cJx4a65c_clear_da8c8 33 = .ok (.iload_n 3, 1) := by decide +kernel
theorem dJx4a65c_clear_da8c8_34 : decode cJx4a65c_clear_da8c8 34 = .ok (.aconst_null, 1) := by decide +kernel
theorem dJx4a65c_clear_da8c8_35 : decode cJx4a65c_clear_da8c8 35 = .ok (.aastore, 1) := by decide +kernel
theorem dJx4a65c_clear_da8c8_36 : decode cJx4a65c_clear_da8c8 36 = .ok (.iinc 3 1, 3) := by decide +kernel
theorem dJx4a65c_clear_da8c8_39 : decode cJx4a65c_clear_da8c8 39 = .ok (.goto (-12), 3) := by decide +kernel
theorem dJx4a65c_clear_da8c8_42 : decode cJx4a65c_clear_da8c8 42 = .ok (.return_, 1) := by decide +kernel
theorem dJx4a65c_size_8abf5_0 : decode cJx4a65c_size_8abf5 0 = .ok (.aload_n 0, 1) := by decide +kernel
theorem dJx4a65c_size_8abf5_1 : decode cJx4a65c_size_8abf5 1 = .ok (.getfield 48, 3) := by decide +kernel
theorem dJx4a65c_size_8abf5_4 : decode cJx4a65c_size_8abf5 4 = .ok (.ireturn, 1) := by decide +kernel
theorem dJx4a65c_isEmpty_aae02_0 : decode cJx4a65c_isEmpty_aae02 0 = .ok (.aload_n 0, 1) := by decide +kernel
theorem dJx4a65c_isEmpty_aae02_1 : decode cJx4a65c_isEmpty_aae02 1 = .ok (.getfield 48, 3) := by decide +kernel
theorem dJx4a65c_isEmpty_aae02_4 : decode cJx4a65c_isEmpty_aae02 4 = .ok (.ifCond .ne 7, 3) := by decide +kernel
theorem dJx4a65c_isEmpty_aae02_7 : decode cJx4a65c_isEmpty_aae02 7 = .ok (.iconst 1, 1) := by decide +kernel
theorem dJx4a65c_isEmpty_aae02_8 : decode cJx4a65c_isEmpty_aae02 8 = .ok (.goto 4, 3) := by decide +kernel
theorem dJx4a65c_isEmpty_aae02_11 : decode cJx4a65c_isEmpty_aae02 11 = .ok (.iconst 0, 1) := by decide +kernel
theorem dJx4a65c_isEmpty_aae02_12 : decode cJx4a65c_isEmpty_aae02 12 = .ok (.ireturn, 1) := by decide +kernel
section CL
variable {G : fp_G} {h : fp_H}
theorem ct_aCol {a : Nat} : fp_ct G rm_Jxa1e45_init_da8c8 M_Jxa1e45_init_da8c8 [.ref a] h (fun r h' => r = none ∧ h' = h) := by
  refine fp_meth pn_Jxa1e45 (Nat.le_of_ble_eq_true rfl) rfl ?_
  refine wp_aload_n dJxa1e45_init_da8c8_0 rfl ?_
  refine wp_objInit dJxa1e45_init_da8c8_1 cw_Jxa1e45_1 ⟨(Nat.le_of_ble_eq_true rfl), (Nat.le_of_ble_eq_true rfl)⟩ rfl (Nat.le_of_ble_eq_true rfl) ?_
  refine wp_vret dJxa1e45_init_da8c8_4 rfl ?_
  exact ⟨rfl, rfl⟩
theorem ct_aLis {a t : Nat} {x : Int32} {y z : Value} (ha : h.1 a = some (t, .inr (0, [.int x, y, z]))) : fp_ct G rm_Jxc12de_init_da8c8 M_Jxc12de_init_da8c8 [.ref a] h (fun r h' => r = none ∧ h' = fp_put h a t (.inr (0, [.int 0, y, z]))) := by
  refine fp_meth pn_Jxc12de (Nat.le_of_ble_eq_true rfl) rfl ?_
  refine wp_aload_n dJxc12de_init_da8c8_0 rfl ?_
  refine wp_callI (As := []) (rest := []) dJxc12de_init_da8c8_1 me_Jxa1e45_init_da8c8 rfl cw_Jxc12de_1 rfl ⟨(Nat.le_of_ble_eq_true rfl), (Nat.le_of_ble_eq_true rfl)⟩ rfl rfl rfl (Nat.le_of_ble_eq_true rfl) (ct_aCol) (fun r h1 q => ?_)
  obtain ⟨rfl, rfl⟩ := q
  refine wp_aload_n dJxc12de_init_da8c8_4 rfl ?_
  refine wp_iconst (v := 0) dJxc12de_init_da8c8_5 rfl ?_
  refine wp_putf dJxc12de_init_da8c8_6 (fs_Jxc12de_7 _) ha (Nat.le_of_ble_eq_true rfl) rfl rfl ?_
  refine wp_vret dJxc12de_init_da8c8_9 rfl ?_
  exact ⟨rfl, rfl⟩
theorem ct_lnew {a t : Nat} {z : Int32} {y : Value} (ha : h.1 a = some (t, .inr (0, [.int z, y, .int 0]))) : fp_ct G rm_Jx4a65c_init_da8c8 M_Jx4a65c_init_da8c8 [.ref a] h (fun r h' => r = none ∧ lst G h' t a [] 0 ∧ cf (fun x => x = t) h h' ∧ h'.2 = h.2) := by
  refine fp_meth pn_Jx4a65c (Nat.le_of_ble_eq_true rfl) rfl ?_
  refine wp_aload_n dJx4a65c_init_da8c8_0 rfl ?_
  refine wp_callI (As := []) (rest := []) dJx4a65c_init_da8c8_1 me_Jxc12de_init_da8c8 rfl cw_Jx4a65c_1 rfl ⟨(Nat.le_of_ble_eq_true rfl), (Nat.le_of_ble_eq_true rfl)⟩ rfl rfl rfl (Nat.le_of_ble_eq_true rfl) (ct_aLis ha) (fun r h1 q => ?_)
  obtain ⟨rfl, rfl⟩ := q
  refine wp_aload_n dJx4a65c_init_da8c8_4 rfl ?_
  refine wp_getsE dJx4a65c_init_da8c8_5 gs_Jx4a65c_39 ?_
  refine wp_putf dJx4a65c_init_da8c8_8 (fs_Jx4a65c_9 _) fp_put_eq (Nat.le_of_ble_eq_true rfl) rfl rfl ?_
  refine wp_vret dJx4a65c_init_da8c8_11 rfl ?_
  refine ⟨rfl, ⟨0, G.2.2.2.1 0, fp_put_eq, Or.inl ⟨rfl, rfl, rfl⟩⟩, ?_, rfl⟩
  exact (cf.put1 ha).trans (cf.put1 fp_put_eq)
theorem ct_lsize {a t cap : Nat} {as : List Nat} (hl : lst G h t a as cap) : fp_ct G rm_Jx4a65c_size_8abf5 M_Jx4a65c_size_8abf5 [.ref a] h (fun r h' => h' = h ∧ r = some (.int (nI as.length))) := by
  obtain ⟨mc, ed, h1, -⟩ := hl
  refine fp_meth pn_Jx4a65c (Nat.le_of_ble_eq_true rfl) rfl ?_
  refine wp_aload_n dJx4a65c_size_8abf5_0 rfl ?_
  refine wp_getf dJx4a65c_size_8abf5_1 fl_Jx4a65c_48 h1 rfl ?_
  refine wp_iret dJx4a65c_size_8abf5_4 rfl rfl ?_
  exact ⟨rfl, rfl⟩
theorem ct_lempty {a t cap : Nat} {as : List Nat} (hl : lst G h t a as cap) : fp_ct G rm_Jx4a65c_isEmpty_aae02 M_Jx4a65c_isEmpty_aae02 [.ref a] h (fun r h' => h' = h ∧ r = some (.int (nI (b2n as.isEmpty)))) := by
  obtain ⟨mc, ed, h1, h2⟩ := hl
  have hlt := h2.lt
  refine fp_meth pn_Jx4a65c (Nat.le_of_ble_eq_true rfl) rfl ?_
  refine wp_aload_n dJx4a65c_isEmpty_aae02_0 rfl ?_
  refine wp_getf dJx4a65c_isEmpty_aae02_1 fl_Jx4a65c_48 h1 rfl ?_
  refine wp_if_ne (tgt := 11) dJx4a65c_isEmpty_aae02_4 rfl (fun c_4 => ?_) (fun c_4 => ?_)
  · refine wp_iconst (v := 0) dJx4a65c_isEmpty_aae02_11 rfl ?_
    refine wp_iret dJx4a65c_isEmpty_aae02_12 rfl rfl ?_
    refine ⟨rfl, ?_⟩
    cases as with
    | nil => exact absurd rfl c_4
    | cons x l => rfl
  · refine wp_iconst (v := 1) dJx4a65c_isEmpty_aae02_7 rfl ?_
    refine wp_goto (tgt := 12) dJx4a65c_isEmpty_aae02_8 rfl ?_
    refine wp_iret dJx4a65c_isEmpty_aae02_12 rfl rfl ?_
    refine ⟨rfl, ?_⟩
    have : as.length = 0 := (nI_eq (b := 0) (by omega) (by decide)).mp c_4
    rw [List.eq_nil_of_length_eq_zero this]
    rfl
theorem ct_chk {i n : Nat} (hi : i < n) (hn : n < 2 ^ 31) : fp_ct G rm_J15_checkIndex_7cf53 M_J15_checkIndex_7cf53 [.int (nI i), .int (nI n)] h (fun r h' => h' = h ∧ r = some (.int (nI i))) := by
  have inner : fp_ct G rm_J3_checkIndex_8e157 M_J3_checkIndex_8e157 [.int (nI i), .int (nI n), .null] h (fun r h' => h' = h ∧ r = some (.int (nI i))) := by
    refine fp_meth pn_J3 (Nat.le_of_ble_eq_true rfl) rfl ?_
    refine wp_iload_n dJ3_checkIndex_8e157_0 rfl ?_
    refine wp_if_lt (tgt := 9) dJ3_checkIndex_8e157_1 rfl (fun c_1 => ?_) (fun c_1 => ?_)
    · exact absurd c_1 (nI_pos (by omega))
    · refine wp_iload_n dJ3_checkIndex_8e157_4 rfl ?_
      refine wp_iload_n dJ3_checkIndex_8e157_5 rfl ?_
      refine wp_icmp_lt (tgt := 16) dJ3_checkIndex_8e157_6 rfl (fun c_6 => ?_) (fun c_6 => ?_)
      · refine wp_iload_n dJ3_checkIndex_8e157_16 rfl ?_
        refine wp_iret dJ3_checkIndex_8e157_17 rfl rfl ?_
        exact ⟨rfl, rfl⟩
      · exact absurd (nI_lt hi hn) c_6
  refine fp_meth pn_J15 (Nat.le_of_ble_eq_true rfl) rfl ?_
  refine wp_iload_n dJ15_checkIndex_7cf53_0 rfl ?_
  refine wp_iload_n dJ15_checkIndex_7cf53_1 rfl ?_
  refine wp_null dJ15_checkIndex_7cf53_2 ?_
  refine wp_callS (As := [.int (nI i), .int (nI n), .null]) (rest := []) dJ15_checkIndex_7cf53_3 me_J3_checkIndex_8e157 cw_J15_105 ⟨(Nat.le_of_ble_eq_true rfl), (Nat.le_of_ble_eq_true rfl)⟩ rfl rfl rfl (Nat.le_of_ble_eq_true rfl) (inner) (fun r h1 q => ?_)
  obtain ⟨rfl, rfl⟩ := q
  refine wp_iret dJ15_checkIndex_7cf53_6 rfl rfl ?_
  exact ⟨rfl, rfl⟩
theorem ct_lget {a t cap i y : Nat} {as : List Nat} (hl : lst G h t a as cap) (hy : as[i]? = some y) : fp_ct G rm_Jx4a65c_get_915e3 M_Jx4a65c_get_915e3 [.ref a, .int (nI i)] h (fun r h' => h' = h ∧ r = some (.ref y)) := by
  obtain ⟨mc, ed, h1, h2⟩ := hl
  have hi : i < as.length := (List.getElem?_eq_some_iff.mp hy).1
  have hlt := h2.lt
  rcases h2 with ⟨-, rfl, -⟩ | ⟨hc0, f, h3, h4, h5, h6⟩
  · simp at hi
  have hed : fp_ct G rm_Jx4a65c_elementData_915e3 M_Jx4a65c_elementData_915e3 [.ref a, .int (nI i)] h (fun r h' => h' = h ∧ r = some (.ref y)) := by
    refine fp_meth pn_Jx4a65c (Nat.le_of_ble_eq_true rfl) rfl ?_
    refine wp_aload_n dJx4a65c_elementData_915e3_0 rfl ?_
    refine wp_getf dJx4a65c_elementData_915e3_1 fl_Jx4a65c_9 h1 rfl ?_
    refine wp_iload_n dJx4a65c_elementData_915e3_4 rfl ?_
    refine wp_aaldR dJx4a65c_elementData_915e3_5 rfl h3 (vp_in_nI (by omega) (by omega)) (show f (nI i).toNatClampNeg = some y by rw [nI_clamp (by omega), h6 i hi, hy]) ?_
    refine wp_aret dJx4a65c_elementData_915e3_6 rfl (by first | exact Or.inl ⟨_, rfl⟩ | exact Or.inr ⟨_, rfl⟩) (Or.inr ⟨_, rfl⟩) ?_
    exact ⟨rfl, rfl⟩
  refine fp_meth pn_Jx4a65c (Nat.le_of_ble_eq_true rfl) rfl ?_
  refine wp_iload_n dJx4a65c_get_915e3_0 rfl ?_
  refine wp_aload_n dJx4a65c_get_915e3_1 rfl ?_
  refine wp_getf dJx4a65c_get_915e3_2 fl_Jx4a65c_48 h1 rfl ?_
  refine wp_callS (As := [.int (nI i), .int (nI as.length)]) (rest := []) dJx4a65c_get_915e3_5 me_J15_checkIndex_7cf53 cw_Jx4a65c_118 ⟨(Nat.le_of_ble_eq_true rfl), (Nat.le_of_ble_eq_true rfl)⟩ rfl rfl rfl (Nat.le_of_ble_eq_true rfl) (ct_chk hi (by omega)) (fun r h2 q => ?_)
  obtain ⟨rfl, rfl⟩ := q
  refine wp_pop dJx4a65c_get_915e3_8 rfl ?_
  refine wp_aload_n dJx4a65c_get_915e3_9 rfl ?_
  refine wp_iload_n dJx4a65c_get_915e3_10 rfl ?_
  refine wp_callV (As := [.int (nI i)]) (rest := []) dJx4a65c_get_915e3_11 me_Jx4a65c_elementData_915e3 cw_Jx4a65c_123 rfl ⟨(Nat.le_of_ble_eq_true rfl), (Nat.le_of_ble_eq_true rfl)⟩ rfl rfl rfl (Nat.le_of_ble_eq_true rfl) h1 (hed) (fun r h2 q => ?_)
  obtain ⟨rfl, rfl⟩ := q
  refine wp_aret dJx4a65c_get_915e3_14 rfl (by first | exact Or.inl ⟨_, rfl⟩ | exact Or.inr ⟨_, rfl⟩) (Or.inr ⟨_, rfl⟩) ?_
  exact ⟨rfl, rfl⟩
theorem ct_lclear {a t cap : Nat} {as : List Nat} (hl : lst G h t a as cap) : fp_ct G rm_Jx4a65c_clear_da8c8 M_Jx4a65c_clear_da8c8 [.ref a] h (fun r h' => r = none ∧ lst G h' t a [] cap ∧ cf (fun x => x = t) h h' ∧ h'.2 = h.2) := by
  obtain ⟨mc, ed, h1, h2⟩ := hl
  have hlt := h2.lt
  refine fp_meth pn_Jx4a65c (Nat.le_of_ble_eq_true rfl) rfl ?_
  refine wp_aload_n dJx4a65c_clear_da8c8_0 rfl ?_
  refine wp_dup dJx4a65c_clear_da8c8_1 rfl ?_
  refine wp_getf dJx4a65c_clear_da8c8_2 fl_Jx4a65c_63 h1 rfl ?_
  refine wp_iconst (v := 1) dJx4a65c_clear_da8c8_5 rfl ?_
  refine wp_iadd dJx4a65c_clear_da8c8_6 ?_
  refine wp_putf dJx4a65c_clear_da8c8_7 (fs_Jx4a65c_63 _) h1 (Nat.le_of_ble_eq_true rfl) rfl rfl ?_
  refine wp_aload_n dJx4a65c_clear_da8c8_10 rfl ?_
  refine wp_getf dJx4a65c_clear_da8c8_11 fl_Jx4a65c_9 fp_put_eq rfl ?_
  refine wp_astore_n dJx4a65c_clear_da8c8_14 (Nat.le_of_ble_eq_true rfl) rfl ?_
  refine wp_aload_n dJx4a65c_clear_da8c8_15 rfl ?_
  refine wp_getf dJx4a65c_clear_da8c8_16 fl_Jx4a65c_48 fp_put_eq rfl ?_
  refine wp_istore_n dJx4a65c_clear_da8c8_19 (Nat.le_of_ble_eq_true rfl) rfl ?_
  refine wp_aload_n dJx4a65c_clear_da8c8_20 rfl ?_
  refine wp_iconst (v := 0) dJx4a65c_clear_da8c8_21 rfl ?_
  refine wp_dup_x1 dJx4a65c_clear_da8c8_22 rfl rfl ?_
  refine wp_putf dJx4a65c_clear_da8c8_23 (fs_Jx4a65c_48 _) fp_put_eq (Nat.le_of_ble_eq_true rfl) rfl rfl ?_
  refine wp_istore_n dJx4a65c_clear_da8c8_26 (Nat.le_of_ble_eq_true rfl) rfl ?_
  refine wp_eqL (L' := [some (.ref a), some (.ref ed), some (.int (nI as.length)), some (.int 0)]) rfl ?_
  have c1 : cf (fun x => x = t) h (fp_put (fp_put h a t (.inr (0, [.int mc, .ref ed, .int (nI as.length)].set 0 (.int (mc + 1))))) a t (.inr (0, ([.int mc, .ref ed, .int (nI as.length)].set 0 (.int (mc + 1))).set 2 (.int 0)))) := (cf.put1 h1).trans (cf.put1 fp_put_eq)
  have e1 : (fp_put (fp_put h a t (.inr (0, [.int mc, .ref ed, .int (nI as.length)].set 0 (.int (mc + 1))))) a t (.inr (0, ([.int mc, .ref ed, .int (nI as.length)].set 0 (.int (mc + 1))).set 2 (.int 0)))).1 a = some (t, .inr (0, [.int (mc + 1), .ref ed, .int 0])) := fp_put_eq
  have e2 : (fp_put (fp_put h a t (.inr (0, [.int mc, .ref ed, .int (nI as.length)].set 0 (.int (mc + 1))))) a t (.inr (0, ([.int mc, .ref ed, .int (nI as.length)].set 0 (.int (mc + 1))).set 2 (.int 0)))).2 = h.2 := rfl
  have e3 : ∀ q, q ≠ a → (fp_put (fp_put h a t (.inr (0, [.int mc, .ref ed, .int (nI as.length)].set 0 (.int (mc + 1))))) a t (.inr (0, ([.int mc, .ref ed, .int (nI as.length)].set 0 (.int (mc + 1))).set 2 (.int 0)))).1 q = h.1 q := fun q hq => by rw [fp_put_ne hq, fp_put_ne hq]
  generalize fp_put (fp_put h a t (.inr (0, [.int mc, .ref ed, .int (nI as.length)].set 0 (.int (mc + 1))))) a t (.inr (0, ([.int mc, .ref ed, .int (nI as.length)].set 0 (.int (mc + 1))).set 2 (.int 0))) = h2' at c1 e1 e2 e3 ⊢
  rcases h2 with ⟨rfl, rfl, rfl⟩ | ⟨hc0, f, h3, h4, h5, h6⟩
  · refine wp_iload_n dJx4a65c_clear_da8c8_27 rfl ?_
    refine wp_iload_n dJx4a65c_clear_da8c8_28 rfl ?_
    refine wp_icmp_ge (tgt := 42) dJx4a65c_clear_da8c8_29 rfl (fun c_29 => ?_) (fun c_29 => ?_)
    · refine wp_vret dJx4a65c_clear_da8c8_42 rfl ?_
      exact ⟨rfl, ⟨_, _, e1, Or.inl ⟨rfl, rfl, rfl⟩⟩, c1, e2⟩
    · exact absurd (by decide) c_29
  · have hea : ed ≠ a := kind_ne h3 h1
    have loop : ∀ (n i : Nat) (h2 : fp_H) (f : Nat → Option Nat), i ≤ as.length → as.length - i < n → h2.1 a = some (t, .inr (0, [.int (mc + 1), .ref ed, .int 0])) → h2.1 ed = some (t, .inl (4, cap, .inr (.inr (.inr (.inr f))))) → cf (fun x => x = t) h h2 → h2.2 = h.2 → fp_wp G rm_Jx4a65c_clear_da8c8 M_Jx4a65c_clear_da8c8 27 [some (.ref a), some (.ref ed), some (.int (nI as.length)), some (.int (nI i))] [] h2 (fun r h' => r = none ∧ lst G h' t a [] cap ∧ cf (fun x => x = t) h h' ∧ h'.2 = h.2) := by
      intro n
      induction n with
      | zero => intro i _ _ _ h2; omega
      | succ n ih =>
        intro i h2 f hi hn g1 g2 g3 g4
        refine wp_iload_n dJx4a65c_clear_da8c8_27 rfl ?_
        refine wp_iload_n dJx4a65c_clear_da8c8_28 rfl ?_
        refine wp_icmp_ge (tgt := 42) dJx4a65c_clear_da8c8_29 rfl (fun c_29 => ?_) (fun c_29 => ?_)
        · refine wp_vret dJx4a65c_clear_da8c8_42 rfl ?_
          exact ⟨rfl, ⟨_, ed, g1, Or.inr ⟨hc0, f, g2, Nat.zero_le _, h5, fun i hi => by simp at hi⟩⟩, g3, g4⟩
        · have hlt : i < as.length := by
            rcases Nat.lt_or_ge i as.length with q | q
            · exact q
            · exact absurd (nI_le q (by omega)) c_29
          refine wp_aload_n dJx4a65c_clear_da8c8_32 rfl ?_
          refine wp_iload_n dJx4a65c_clear_da8c8_33 rfl ?_
          refine wp_null dJx4a65c_clear_da8c8_34 ?_
          refine wp_aastN dJx4a65c_clear_da8c8_35 rfl g2 (vp_in_nI (by omega) (by omega)) ?_
          refine wp_iinc dJx4a65c_clear_da8c8_36 rfl rfl ?_
          refine wp_goto (tgt := 27) dJx4a65c_clear_da8c8_39 rfl ?_
          rw [show nI i + Int32.ofInt 1 = nI (i + 1) from nI_1 i]
          exact ih (i + 1) _ _ (by omega) (by omega) ((fp_put_ne (Ne.symm hea)).trans g1) fp_put_eq (g3.trans (cf.put g2 rfl)) g4
    exact loop (as.length + 1) 0 h2' f (by omega) (by omega) e1 ((e3 ed hea).trans h3) c1 e2
theorem ct_newLen {n : Nat} (h2 : 2 ≤ n) (hn : n < 2 ^ 20) : fp_ct G rm_J8_newLength_cabcc M_J8_newLength_cabcc [.int (nI n), .int (nI 1), .int (nI (n / 2))] h (fun r h' => h' = h ∧ r = some (.int (nI (n + n / 2)))) := by
  refine fp_meth pn_J8 (Nat.le_of_ble_eq_true rfl) rfl ?_
  refine wp_iload_n dJ8_newLength_cabcc_0 rfl ?_
  refine wp_iload_n dJ8_newLength_cabcc_1 rfl ?_
  refine wp_iload_n dJ8_newLength_cabcc_2 rfl ?_
  refine wp_callS (As := [.int (nI 1), .int (nI (n / 2))]) (rest := [.int (nI n)]) dJ8_newLength_cabcc_3 me_J9_max_7cf53 cw_J8_194 ⟨(Nat.le_of_ble_eq_true rfl), (Nat.le_of_ble_eq_true rfl)⟩ rfl rfl rfl (Nat.le_of_ble_eq_true rfl) (ct_max _ _) (fun r h1 q => ?_)
  obtain ⟨rfl, rfl⟩ := q
  have em : (if nI 1 < nI (n / 2) then nI (n / 2) else nI 1) = nI (n / 2) := by
    by_cases e : n / 2 = 1
    · rw [e]; split <;> rfl
    · rw [if_pos (nI_lt (by omega) (by omega))]
  rw [em]
  refine wp_iadd dJ8_newLength_cabcc_6 ?_
  rw [nI_add]
  refine wp_istore_n dJ8_newLength_cabcc_7 (Nat.le_of_ble_eq_true rfl) rfl ?_
  refine wp_iconst (v := 0) dJ8_newLength_cabcc_8 rfl ?_
  refine wp_iload_n dJ8_newLength_cabcc_9 rfl ?_
  refine wp_icmp_ge (tgt := 21) dJ8_newLength_cabcc_10 rfl (fun c_10 => ?_) (fun c_10 => ?_)
  · exact absurd c_10 (nI_nle (by omega) (by omega))
  · refine wp_iload_n dJ8_newLength_cabcc_13 rfl ?_
    refine wp_ldc dJ8_newLength_cabcc_14 kc_J8_200 ?_
    refine wp_icmp_gt (tgt := 21) dJ8_newLength_cabcc_16 rfl (fun c_16 => ?_) (fun c_16 => ?_)
    · exact absurd c_16 (nI_nlt (a := 2147483639) (by omega) (by decide))
    · refine wp_iload_n dJ8_newLength_cabcc_19 rfl ?_
      refine wp_iret dJ8_newLength_cabcc_20 rfl rfl ?_
      exact ⟨rfl, rfl⟩
/-- copyOf(Object[], n), n above the old length -/
theorem ct_copyq {a0 t0 n0 N : Nat} {f : Nat → Option Nat} (t : Nat) (w : fp_wf h) (ha : h.1 a0 = some (t0, .inl (4, n0, .inr (.inr (.inr (.inr f)))))) (hel : ∀ i, i < n0 → ∀ y, f i = some y → el h y) (hlt : n0 < N) (hN : N < 2 ^ 20) : fp_ct G rm_J7_copyOf_1904c M_J7_copyOf_1904c [.ref a0, .int (nI N)] h (fun r h' => h' = fp_put (fp_new h t (.inl (4, N, .inr (.inr (.inr (.inr (fun _ => none)))))) N) h.2.1 t (.inl (4, N, .inr (.inr (.inr (.inr (va_cpy f (fun _ => none) 0 0 n0)))))) ∧ r = some (.ref h.2.1)) := by
  have inner : fp_ct G rm_J7_copyOf_6403c M_J7_copyOf_6403c [.ref a0, .int (nI N), .ref (G.2.2.2.1 1)] h (fun r h' => h' = fp_put (fp_new h t (.inl (4, N, .inr (.inr (.inr (.inr (fun _ => none)))))) N) h.2.1 t (.inl (4, N, .inr (.inr (.inr (.inr (va_cpy f (fun _ => none) 0 0 n0)))))) ∧ r = some (.ref h.2.1)) := by
    refine fp_meth pn_J7 (Nat.le_of_ble_eq_true rfl) rfl ?_
    refine wp_aload_n dJ7_copyOf_6403c_0 rfl ?_
    refine wp_ldcM dJ7_copyOf_6403c_1 ck_J7_110 ?_
    refine wp_acmp_ne (rx := some (G.2.2.2.1 1)) (ry := some (G.2.2.2.1 1)) (tgt := 13) dJ7_copyOf_6403c_3 rfl (fun c => absurd rfl c) (fun _ => ?_)
    refine wp_iload_n dJ7_copyOf_6403c_6 rfl ?_
    refine wp_anew t dJ7_copyOf_6403c_7 (kd := 4) rfl ck_J7_2 (Or.inr rfl) (nI_pos (by omega)) (nI_clamp (by omega)) (by omega) ?_
    have hne := w.ne ha
    refine wp_goto (tgt := 24) dJ7_copyOf_6403c_10 rfl ?_
    refine wp_astore_n dJ7_copyOf_6403c_24 (Nat.le_of_ble_eq_true rfl) rfl ?_
    refine wp_aload_n dJ7_copyOf_6403c_25 rfl ?_
    refine wp_iconst (v := 0) dJ7_copyOf_6403c_26 rfl ?_
    refine wp_aload_n dJ7_copyOf_6403c_27 rfl ?_
    refine wp_iconst (v := 0) dJ7_copyOf_6403c_28 rfl ?_
    refine wp_aload_n dJ7_copyOf_6403c_29 rfl ?_
    refine wp_alen dJ7_copyOf_6403c_30 rfl (show (fp_new h t (.inl (4, N, .inr (.inr (.inr (.inr (fun _ => none)))))) N).1 a0 = _ from (fp_new_ne hne).trans ha) ?_
    refine wp_iload_n dJ7_copyOf_6403c_31 rfl ?_
    refine wp_callS (As := [.int (nI n0), .int (nI N)]) (rest := [.int 0, .ref h.2.1, .int 0, .ref a0]) dJ7_copyOf_6403c_32 me_J9_min_7cf53 cw_J7_304 ⟨(Nat.le_of_ble_eq_true rfl), (Nat.le_of_ble_eq_true rfl)⟩ rfl rfl rfl (Nat.le_of_ble_eq_true rfl) (ct_min _ _) (fun r h1 q => ?_)
    obtain ⟨rfl, rfl⟩ := q
    rw [if_neg (nI_nlt (Nat.le_of_lt hlt) (by omega))]
    refine wp_copyq (n := nI n0) (sp := 0) (dp := 0) dJ7_copyOf_6403c_35 cw_J7_150 ⟨(Nat.le_of_ble_eq_true rfl), (Nat.le_of_ble_eq_true rfl)⟩ rfl (Nat.le_of_ble_eq_true rfl) ((fp_new_ne hne).trans ha) fp_new_eq (by decide) (by decide) (nI_pos (by omega)) (by rw [nI_clamp (by omega)]; show 0 + n0 ≤ n0; omega) (by rw [nI_clamp (by omega)]; show 0 + n0 ≤ N; omega) (fun i hi y hy => by
      rw [nI_clamp (by omega)] at hi
      obtain ⟨ty, ci, fs, r, q1, q2, q3⟩ := hel i hi y (by rw [← hy]; show f i = f (0 + i); rw [Nat.zero_add])
      exact ⟨ty, ci, fs, r, (fp_new_ne (w.ne q1)).trans q1, q2, q3⟩) ?_
    rw [nI_clamp (by omega)]
    refine wp_aload_n dJ7_copyOf_6403c_38 rfl ?_
    refine wp_aret dJ7_copyOf_6403c_39 rfl (by first | exact Or.inl ⟨_, rfl⟩ | exact Or.inr ⟨_, rfl⟩) (Or.inr ⟨_, rfl⟩) ?_
    exact ⟨rfl, rfl⟩
  refine fp_meth pn_J7 (Nat.le_of_ble_eq_true rfl) rfl ?_
  refine wp_aload_n dJ7_copyOf_1904c_0 rfl ?_
  refine wp_iload_n dJ7_copyOf_1904c_1 rfl ?_
  refine wp_aload_n dJ7_copyOf_1904c_2 rfl ?_
  refine wp_getC dJ7_copyOf_1904c_3 cw_J7_86 ⟨(Nat.le_of_ble_eq_true rfl), (Nat.le_of_ble_eq_true rfl)⟩ rfl (Nat.le_of_ble_eq_true rfl) ha ?_
  refine wp_callS (As := [.ref a0, .int (nI N), .ref (G.2.2.2.1 1)]) (rest := []) dJ7_copyOf_1904c_6 me_J7_copyOf_6403c cw_J7_300 ⟨(Nat.le_of_ble_eq_true rfl), (Nat.le_of_ble_eq_true rfl)⟩ rfl rfl rfl (Nat.le_of_ble_eq_true rfl) (inner) (fun r h1 q => ?_)
  obtain ⟨rfl, rfl⟩ := q
  refine wp_aret dJ7_copyOf_1904c_9 rfl (by first | exact Or.inl ⟨_, rfl⟩ | exact Or.inr ⟨_, rfl⟩) (Or.inr ⟨_, rfl⟩) ?_
  exact ⟨rfl, rfl⟩
/-- the array grows: it was full -/
theorem ct_lgrow {a t ed cap : Nat} {mc : Int32} {as : List Nat} (w : fp_wf h) (ha : h.1 a = some (t, .inr (0, [.int mc, .ref ed, .int (nI as.length)]))) (hA : lsA G h t ed as cap) (hfull : as.length = cap) (hc : cap < 2 ^ 18) (hc2 : cap ≠ 1) (hel : ∀ y ∈ as, el h y) : fp_ct G rm_Jx4a65c_grow_d5877 M_Jx4a65c_grow_d5877 [.ref a] h (fun r h' => ∃ ed' cap' f, r = some (.ref ed') ∧ h'.1 a = some (t, .inr (0, [.int mc, .ref ed', .int (nI as.length)])) ∧ h'.1 ed' = some (t, .inl (4, cap', .inr (.inr (.inr (.inr f))))) ∧ (∀ i, i < as.length → f i = as[i]?) ∧ cap < cap' ∧ cap' < 2 ^ 20 ∧ cap' ≤ 2 * cap + 10 ∧ cap' ≠ 1 ∧ cf (fun x => x = t) h h' ∧ h'.2.2 + 4 * cap ≤ h.2.2 + 4 * cap') := by
  have inner : fp_ct G rm_Jx4a65c_grow_92f84 M_Jx4a65c_grow_92f84 [.ref a, .int (nI (cap + 1))] h (fun r h' => ∃ ed' cap' f, r = some (.ref ed') ∧ h'.1 a = some (t, .inr (0, [.int mc, .ref ed', .int (nI as.length)])) ∧ h'.1 ed' = some (t, .inl (4, cap', .inr (.inr (.inr (.inr f))))) ∧ (∀ i, i < as.length → f i = as[i]?) ∧ cap < cap' ∧ cap' < 2 ^ 20 ∧ cap' ≤ 2 * cap + 10 ∧ cap' ≠ 1 ∧ cf (fun x => x = t) h h' ∧ h'.2.2 + 4 * cap ≤ h.2.2 + 4 * cap') := by
    refine fp_meth pn_Jx4a65c (Nat.le_of_ble_eq_true rfl) rfl ?_
    have hna := w.ne ha
    rcases hA with ⟨rfl, rfl, rfl⟩ | ⟨hc0, f, h3, h4, h5, h6⟩
    · refine wp_aload_n dJx4a65c_grow_92f84_0 rfl ?_
      refine wp_getf dJx4a65c_grow_92f84_1 fl_Jx4a65c_9 ha rfl ?_
      refine wp_alenE dJx4a65c_grow_92f84_4 ?_
      refine wp_istore_n dJx4a65c_grow_92f84_5 (Nat.le_of_ble_eq_true rfl) rfl ?_
      refine wp_iload_n dJx4a65c_grow_92f84_6 rfl ?_
      refine wp_if_gt (tgt := 20) dJx4a65c_grow_92f84_7 rfl (fun c_7 => ?_) (fun c_7 => ?_)
      · exact absurd c_7 (by decide)
      · refine wp_aload_n dJx4a65c_grow_92f84_10 rfl ?_
        refine wp_getf dJx4a65c_grow_92f84_11 fl_Jx4a65c_9 ha rfl ?_
        refine wp_getsE dJx4a65c_grow_92f84_14 gs_Jx4a65c_39 ?_
        refine wp_acmp_eq (rx := some (G.2.2.2.1 0)) (ry := some (G.2.2.2.1 0)) (tgt := 45) dJx4a65c_grow_92f84_17 rfl (fun _ => ?_) (fun c => absurd rfl c)
        refine wp_aload_n dJx4a65c_grow_92f84_45 rfl ?_
        refine wp_bipush (v := 10) dJx4a65c_grow_92f84_46 rfl ?_
        refine wp_iload_n dJx4a65c_grow_92f84_48 rfl ?_
        refine wp_callS (As := [.int (nI 10), .int (nI 1)]) (rest := [.ref a]) dJx4a65c_grow_92f84_49 me_J9_max_7cf53 cw_Jx4a65c_79 ⟨(Nat.le_of_ble_eq_true rfl), (Nat.le_of_ble_eq_true rfl)⟩ rfl rfl rfl (Nat.le_of_ble_eq_true rfl) (ct_max _ _) (fun r h1 q => ?_)
        obtain ⟨rfl, rfl⟩ := q
        rw [show (if nI 10 < nI 1 then nI 1 else nI 10) = nI 10 by decide]
        refine wp_anew t dJx4a65c_grow_92f84_52 (kd := 4) (N := 10) rfl ck_Jx4a65c_7 (Or.inr rfl) (by decide) (by decide) (by decide) ?_
        refine wp_dup_x1 dJx4a65c_grow_92f84_55 rfl rfl ?_
        refine wp_putf dJx4a65c_grow_92f84_56 (fs_Jx4a65c_9 _) ((fp_new_ne hna).trans ha) (Nat.le_of_ble_eq_true rfl) rfl rfl ?_
        refine wp_aret dJx4a65c_grow_92f84_59 rfl (by first | exact Or.inl ⟨_, rfl⟩ | exact Or.inr ⟨_, rfl⟩) (Or.inr ⟨_, rfl⟩) ?_
        have hne : h1.2.1 ≠ a := Ne.symm hna
        refine ⟨h1.2.1, 10, fun _ => none, rfl, fp_put_eq, (fp_put_ne hne).trans fp_new_eq, fun i hi => by simp at hi, by decide, by decide, by decide, by decide, ?_, ?_⟩
        · exact (cf.new w (by decide)).trans (cf.put1 ((fp_new_ne hna).trans ha))
        · show h1.2.2 + 10 + 4 * 0 ≤ h1.2.2 + 4 * 10
          omega
    · have hedne := w.ne h3
      refine wp_aload_n dJx4a65c_grow_92f84_0 rfl ?_
      refine wp_getf dJx4a65c_grow_92f84_1 fl_Jx4a65c_9 ha rfl ?_
      refine wp_alen dJx4a65c_grow_92f84_4 rfl h3 ?_
      refine wp_istore_n dJx4a65c_grow_92f84_5 (Nat.le_of_ble_eq_true rfl) rfl ?_
      refine wp_iload_n dJx4a65c_grow_92f84_6 rfl ?_
      refine wp_if_gt (tgt := 20) dJx4a65c_grow_92f84_7 rfl (fun c_7 => ?_) (fun c_7 => ?_)
      · refine wp_iload_n dJx4a65c_grow_92f84_20 rfl ?_
        refine wp_iload_n dJx4a65c_grow_92f84_21 rfl ?_
        refine wp_iload_n dJx4a65c_grow_92f84_22 rfl ?_
        refine wp_isub dJx4a65c_grow_92f84_23 ?_
        refine wp_iload_n dJx4a65c_grow_92f84_24 rfl ?_
        refine wp_iconst (v := 1) dJx4a65c_grow_92f84_25 rfl ?_
        refine wp_ishr dJx4a65c_grow_92f84_26 ?_
        rw [show nI (cap + 1) - nI cap = nI 1 by rw [pk_sub (by omega), show cap + 1 - cap = 1 by omega], show nI cap >>> ((1 : Int32) &&& 31) = nI (cap / 2) by have k := pk_shrN (n := cap) (by omega) ((1 : Int32) &&& 31) 1 (by decide); rw [Nat.pow_one] at k; exact k]
        refine wp_callS (As := [.int (nI cap), .int (nI 1), .int (nI (cap / 2))]) (rest := []) dJx4a65c_grow_92f84_27 me_J8_newLength_cabcc cw_Jx4a65c_73 ⟨(Nat.le_of_ble_eq_true rfl), (Nat.le_of_ble_eq_true rfl)⟩ rfl rfl rfl (Nat.le_of_ble_eq_true rfl) (ct_newLen (by omega) (by omega)) (fun r h1 q => ?_)
        obtain ⟨rfl, rfl⟩ := q
        refine wp_istore_n dJx4a65c_grow_92f84_30 (Nat.le_of_ble_eq_true rfl) rfl ?_
        refine wp_aload_n dJx4a65c_grow_92f84_31 rfl ?_
        refine wp_aload_n dJx4a65c_grow_92f84_32 rfl ?_
        refine wp_getf dJx4a65c_grow_92f84_33 fl_Jx4a65c_9 ha rfl ?_
        refine wp_iload_n dJx4a65c_grow_92f84_36 rfl ?_
        refine wp_callS (As := [.ref ed, .int (nI (cap + cap / 2))]) (rest := [.ref a]) dJx4a65c_grow_92f84_37 me_J7_copyOf_1904c cw_Jx4a65c_66 ⟨(Nat.le_of_ble_eq_true rfl), (Nat.le_of_ble_eq_true rfl)⟩ rfl rfl rfl (Nat.le_of_ble_eq_true rfl) (ct_copyq t w h3 (fun i hi y hy => hel y (List.mem_of_getElem? (by rw [← h6 i (by omega)]; exact hy))) (by omega) (by omega)) (fun r h2 q => ?_)
        obtain ⟨rfl, rfl⟩ := q
        have hne : h1.2.1 ≠ a := Ne.symm hna
        have ha2 : (fp_put (fp_new h1 t (.inl (4, cap + cap / 2, .inr (.inr (.inr (.inr (fun _ => none)))))) (cap + cap / 2)) h1.2.1 t (.inl (4, cap + cap / 2, .inr (.inr (.inr (.inr (va_cpy f (fun _ => none) 0 0 cap))))))).1 a = some (t, .inr (0, [.int mc, .ref ed, .int (nI as.length)])) := by rw [fp_put_ne (Ne.symm hne), fp_new_ne hna]; exact ha
        refine wp_dup_x1 dJx4a65c_grow_92f84_40 rfl rfl ?_
        refine wp_putf dJx4a65c_grow_92f84_41 (fs_Jx4a65c_9 _) ha2 (Nat.le_of_ble_eq_true rfl) rfl rfl ?_
        refine wp_aret dJx4a65c_grow_92f84_44 rfl (by first | exact Or.inl ⟨_, rfl⟩ | exact Or.inr ⟨_, rfl⟩) (Or.inr ⟨_, rfl⟩) ?_
        refine ⟨h1.2.1, cap + cap / 2, va_cpy f (fun _ => none) 0 0 cap, rfl, fp_put_eq, ?_, fun i hi => ?_, by omega, by omega, by omega, by omega, ?_, ?_⟩
        · rw [fp_put_ne hne]; exact fp_put_eq
        · rw [pk_cpy_in (Nat.zero_le _) (by omega), ← h6 i hi]
          congr 1
          omega
        · exact ((cf.new w (by omega)).trans (cf.put1 fp_new_eq)).trans (cf.put1 ha2)
        · show h1.2.2 + (cap + cap / 2) + 4 * cap ≤ h1.2.2 + 4 * (cap + cap / 2)
          omega
      · exact absurd (nI_lt (a := 0) hc0 (by omega)) c_7
  refine fp_meth pn_Jx4a65c (Nat.le_of_ble_eq_true rfl) rfl ?_
  refine wp_aload_n dJx4a65c_grow_d5877_0 rfl ?_
  refine wp_aload_n dJx4a65c_grow_d5877_1 rfl ?_
  refine wp_getf dJx4a65c_grow_d5877_2 fl_Jx4a65c_48 ha rfl ?_
  refine wp_iconst (v := 1) dJx4a65c_grow_d5877_5 rfl ?_
  refine wp_iadd dJx4a65c_grow_d5877_6 ?_
  rw [nI_1, hfull]
  rw [hfull] at inner ha
  refine wp_callV (As := [.int (nI (cap + 1))]) (rest := []) dJx4a65c_grow_d5877_7 me_Jx4a65c_grow_92f84 cw_Jx4a65c_69 rfl ⟨(Nat.le_of_ble_eq_true rfl), (Nat.le_of_ble_eq_true rfl)⟩ rfl rfl rfl (Nat.le_of_ble_eq_true rfl) ha (inner) (fun r h1 q => ?_)
  obtain ⟨ed', cap', f, rfl, q⟩ := q
  refine wp_aret dJx4a65c_grow_d5877_10 rfl (by first | exact Or.inl ⟨_, rfl⟩ | exact Or.inr ⟨_, rfl⟩) (Or.inr ⟨_, rfl⟩) ?_
  exact ⟨ed', cap', f, rfl, q⟩
theorem el.keep {h h' : fp_H} {S : Nat → Prop} {y : Nat} (he : el h y) (hc : cf S h h') (hn : ∀ t e, h.1 y = some (t, e) → ¬ S t) : el h' y := by
  obtain ⟨ty, ci, fs, r, q1, q2⟩ := he
  exact ⟨ty, ci, fs, r, hc.at q1 (hn _ _ q1), q2⟩
theorem ct_ladd {a t cap v tv cv : Nat} {as : List Nat} {vs : List Value} {r : vw_C} (w : fp_wf h) (hl : lst G h t a as cap) (hc : cap < 2 ^ 18) (hc2 : cap ≠ 1) (hel : ∀ y ∈ as, el h y) (hv : h.1 v = some (tv, .inr (cv, vs))) (hvt : tv ≠ t) (hcv : vwCl[cv]? = some r) (hcast : Cond.castable r.1 "java/lang/Object" ∈ fp_tn) : fp_ct G rm_Jx4a65c_add_9ea2d M_Jx4a65c_add_9ea2d [.ref a, .ref v] h (fun q h' => ∃ cap', q = some (.int 1) ∧ lst G h' t a (as ++ [v]) cap' ∧ cap' ≠ 1 ∧ cap ≤ cap' ∧ cap' ≤ max cap (2 * as.length + 10) ∧ cf (fun x => x = t) h h' ∧ h'.2.2 + 4 * cap ≤ h.2.2 + 4 * cap') := by
  obtain ⟨mc, ed, h1, h2⟩ := hl
  have hlt := h2.lt
  -- the helper
  have inner : ∀ (h : fp_H) (mc : Int32), fp_wf h → h.1 a = some (t, .inr (0, [.int mc, .ref ed, .int (nI as.length)])) → lsA G h t ed as cap → (∀ y ∈ as, el h y) → h.1 v = some (tv, .inr (cv, vs)) → fp_ct G rm_Jx4a65c_add_72be8 M_Jx4a65c_add_72be8 [.ref a, .ref v, .ref ed, .int (nI as.length)] h (fun q h' => ∃ cap', q = none ∧ lst G h' t a (as ++ [v]) cap' ∧ cap' ≠ 1 ∧ cap ≤ cap' ∧ cap' ≤ max cap (2 * as.length + 10) ∧ cf (fun x => x = t) h h' ∧ h'.2.2 + 4 * cap ≤ h.2.2 + 4 * cap') := by
    intro h mc w h1 h2 hel hv
    refine fp_meth pn_Jx4a65c (Nat.le_of_ble_eq_true rfl) rfl ?_
    -- the store
    have fin : ∀ (h2 : fp_H) (ed' cap' : Nat) (f : Nat → Option Nat), h2.1 a = some (t, .inr (0, [.int mc, .ref ed', .int (nI as.length)])) → h2.1 ed' = some (t, .inl (4, cap', .inr (.inr (.inr (.inr f))))) → (∀ i, i < as.length → f i = as[i]?) → as.length < cap' → cap' < 2 ^ 20 → cap' ≠ 1 → cap ≤ cap' → cap' ≤ max cap (2 * as.length + 10) → cf (fun x => x = t) h h2 → h2.2.2 + 4 * cap ≤ h.2.2 + 4 * cap' → fp_wp G rm_Jx4a65c_add_72be8 M_Jx4a65c_add_72be8 11 [some (.ref a), some (.ref v), some (.ref ed'), some (.int (nI as.length))] [] h2 (fun q h' => ∃ cap', q = none ∧ lst G h' t a (as ++ [v]) cap' ∧ cap' ≠ 1 ∧ cap ≤ cap' ∧ cap' ≤ max cap (2 * as.length + 10) ∧ cf (fun x => x = t) h h' ∧ h'.2.2 + 4 * cap ≤ h.2.2 + 4 * cap') := by
      intro h2 ed' cap' f g1 g2 g3 g4 g5 g6 g7 g8 g9 g10
      have hv2 := g9.at hv hvt
      have hne : ed' ≠ a := kind_ne g2 g1
      refine wp_aload_n dJx4a65c_add_72be8_11 rfl ?_
      refine wp_iload_n dJx4a65c_add_72be8_12 rfl ?_
      refine wp_aload_n dJx4a65c_add_72be8_13 rfl ?_
      refine wp_aast dJx4a65c_add_72be8_14 rfl g2 (vp_in_nI g4 (by omega)) hv2 hcv (Or.inl hcast) ?_
      rw [nI_clamp (by omega)]
      refine wp_aload_n dJx4a65c_add_72be8_15 rfl ?_
      refine wp_iload_n dJx4a65c_add_72be8_16 rfl ?_
      refine wp_iconst (v := 1) dJx4a65c_add_72be8_17 rfl ?_
      refine wp_iadd dJx4a65c_add_72be8_18 ?_
      refine wp_putf dJx4a65c_add_72be8_19 (fs_Jx4a65c_48 _) ((fp_put_ne (Ne.symm hne)).trans g1) (Nat.le_of_ble_eq_true rfl) rfl rfl ?_
      refine wp_vret dJx4a65c_add_72be8_22 rfl ?_
      refine ⟨cap', rfl, ⟨mc, ed', ?_, Or.inr ⟨by omega, va_up f as.length (some v), (fp_put_ne hne).trans fp_put_eq, by simp; omega, g5, fun i hi => ?_⟩⟩, g6, g7, g8, ?_, g10⟩
      · rw [fp_put_eq, nI_1, List.length_append]
        rfl
      · rw [List.length_append] at hi
        by_cases e : i = as.length
        · subst e
          simp [va_up]
        · have hi2 : i < as.length := by simp at hi; omega
          rw [List.getElem?_append_left hi2, ← g3 i hi2]
          simp [va_up, e]
      · exact (g9.trans (cf.put1 g2)).trans (cf.put1 ((fp_put_ne (Ne.symm hne)).trans g1))
    have grown : as.length = cap → fp_wp G rm_Jx4a65c_add_72be8 M_Jx4a65c_add_72be8 6 [some (.ref a), some (.ref v), some (.ref ed), some (.int (nI as.length))] [] h (fun q h' => ∃ cap', q = none ∧ lst G h' t a (as ++ [v]) cap' ∧ cap' ≠ 1 ∧ cap ≤ cap' ∧ cap' ≤ max cap (2 * as.length + 10) ∧ cf (fun x => x = t) h h' ∧ h'.2.2 + 4 * cap ≤ h.2.2 + 4 * cap') := by
      intro hfull
      refine wp_aload_n dJx4a65c_add_72be8_6 rfl ?_
      refine wp_callV (As := []) (rest := []) dJx4a65c_add_72be8_7 me_Jx4a65c_grow_d5877 cw_Jx4a65c_129 rfl ⟨(Nat.le_of_ble_eq_true rfl), (Nat.le_of_ble_eq_true rfl)⟩ rfl rfl rfl (Nat.le_of_ble_eq_true rfl) h1 (ct_lgrow w h1 h2 hfull hc hc2 hel) (fun r h2 q => ?_)
      obtain ⟨ed', cap', f, rfl, q1, q2, q3, q4, q5, q6, q7, q8, q9⟩ := q
      refine wp_astore_n dJx4a65c_add_72be8_10 (Nat.le_of_ble_eq_true rfl) rfl ?_
      exact fin h2 ed' cap' f q1 q2 q3 (by omega) q5 q7 (by omega) (by omega) q8 q9
    rcases h2 with ⟨hz1, hz2, hz3⟩ | ⟨hc0, f, h3, h4, h5, h6⟩
    · have hA : lsA G h t ed as cap := Or.inl ⟨hz1, hz2, hz3⟩
      subst hz3
      refine wp_iload_n dJx4a65c_add_72be8_0 rfl ?_
      refine wp_aload_n dJx4a65c_add_72be8_1 rfl ?_
      refine wp_alenE dJx4a65c_add_72be8_2 ?_
      refine wp_icmp_ne (tgt := 11) dJx4a65c_add_72be8_3 rfl (fun c_3 => ?_) (fun c_3 => ?_)
      · exact absurd (by rw [hz2]; rfl) c_3
      · exact grown (by rw [hz1, hz2]; rfl)
    · refine wp_iload_n dJx4a65c_add_72be8_0 rfl ?_
      refine wp_aload_n dJx4a65c_add_72be8_1 rfl ?_
      refine wp_alen dJx4a65c_add_72be8_2 rfl h3 ?_
      refine wp_icmp_ne (tgt := 11) dJx4a65c_add_72be8_3 rfl (fun c_3 => ?_) (fun c_3 => ?_)
      · exact fin h ed cap f h1 h3 h6 (by rcases Nat.lt_or_ge as.length cap with q | q; exact q; exact absurd (by rw [show as.length = cap by omega]) c_3) h5 hc2 (Nat.le_refl _) (Nat.le_max_left _ _) cf.refl (Nat.le_refl _)
      · exact grown ((nI_eq (by omega) (by omega)).mp c_3)
  refine fp_meth pn_Jx4a65c (Nat.le_of_ble_eq_true rfl) rfl ?_
  have hva : v ≠ a := fun e => by rw [e, h1] at hv; cases hv; exact hvt rfl
  refine wp_aload_n dJx4a65c_add_9ea2d_0 rfl ?_
  refine wp_dup dJx4a65c_add_9ea2d_1 rfl ?_
  refine wp_getf dJx4a65c_add_9ea2d_2 fl_Jx4a65c_63 h1 rfl ?_
  refine wp_iconst (v := 1) dJx4a65c_add_9ea2d_5 rfl ?_
  refine wp_iadd dJx4a65c_add_9ea2d_6 ?_
  refine wp_putf dJx4a65c_add_9ea2d_7 (fs_Jx4a65c_63 _) h1 (Nat.le_of_ble_eq_true rfl) rfl rfl ?_
  refine wp_aload_n dJx4a65c_add_9ea2d_10 rfl ?_
  refine wp_aload_n dJx4a65c_add_9ea2d_11 rfl ?_
  refine wp_aload_n dJx4a65c_add_9ea2d_12 rfl ?_
  refine wp_getf dJx4a65c_add_9ea2d_13 fl_Jx4a65c_9 fp_put_eq rfl ?_
  refine wp_aload_n dJx4a65c_add_9ea2d_16 rfl ?_
  refine wp_getf dJx4a65c_add_9ea2d_17 fl_Jx4a65c_48 fp_put_eq rfl ?_
  have hA2 : lsA G (fp_put h a t (.inr (0, [.int (mc + 1), .ref ed, .int (nI as.length)]))) t ed as cap := by
    rcases h2 with h2 | ⟨hc0, f, h3, h4⟩
    · exact Or.inl h2
    · exact Or.inr ⟨hc0, f, (fp_put_ne (kind_ne h3 h1)).trans h3, h4⟩
  have hel2 : ∀ y ∈ as, el (fp_put h a t (.inr (0, [.int (mc + 1), .ref ed, .int (nI as.length)]))) y := by
    intro y hy
    obtain ⟨ty, ci, fs, r, q1, q2, q3⟩ := hel y hy
    by_cases e : y = a
    · subst e
      rw [h1] at q1
      cases q1
      exact ⟨t, 0, _, r, fp_put_eq, q2, q3⟩
    · exact ⟨ty, ci, fs, r, (fp_put_ne e).trans q1, q2, q3⟩
  refine wp_callV (As := [.ref v, .ref ed, .int (nI as.length)]) (rest := []) dJx4a65c_add_9ea2d_20 me_Jx4a65c_add_72be8 cw_Jx4a65c_131 rfl ⟨(Nat.le_of_ble_eq_true rfl), (Nat.le_of_ble_eq_true rfl)⟩ rfl rfl rfl (Nat.le_of_ble_eq_true rfl) fp_put_eq (inner _ (mc + 1) (w.put h1) fp_put_eq hA2 hel2 ((fp_put_ne hva).trans hv)) (fun q h2 z => ?_)
  obtain ⟨cap', rfl, z1, z2, z3, z4, z5, z6⟩ := z
  refine wp_iconst (v := 1) dJx4a65c_add_9ea2d_23 rfl ?_
  refine wp_iret dJx4a65c_add_9ea2d_24 rfl rfl ?_
  exact ⟨cap', rfl, z1, z2, z3, z4, (cf.put1 h1).trans z5, z6⟩
end CL
