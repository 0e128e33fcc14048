/-! THE BASE, its second half: arrays of references and of booleans, casts, what stood before the start, natives, static calls of a nest mate -/
section FPB
variable {G : fp_G} {d d' : Nat × Nat} {M M' : fp_M} {pc : Nat} {L : List (Option Value)} {rest : List Value} {h : fp_H} {Q Q' : Option Value → fp_H → Prop}
theorem wp_zast {a t kd n : Nat} {i x : Int32} {f : Nat → Int32} (hd : decode M.2.1 pc = .ok (.bastore, 1)) (hty : fp_ty[kd]? = some .boolean) (ha : h.1 a = some (t, .inl (kd, n, .inl f))) (hin : vp_in i n) (hx : vp_nar .boolean x = x) (k : fp_wp G d M (pc + 1) L rest (fp_put h a t (.inl (kd, n, .inl (upd f i.toNatClampNeg x)))) Q) : fp_wp G d M pc L (.int x :: .int i :: .ref a :: rest) h Q := by
  refine fp_liftH (h1 := fp_put h a t (.inl (kd, n, .inl (upd f i.toNatClampNeg x)))) (dc := 0) (ds := 0) rfl rfl (fun p l e mc ms s m args below meth c H locs cells slots Qz ls C K P F hl _ _ kk => ?_) k
  refine W.zast C.1 C.2.1 (P.2.2.2 a t _ ha).2 ((K.1.2 kd _ (fp_tys_at hty)).1 n (fun j => .int (f j))) (fun q => by cases q) (by show ¬ (i < 0 ∨ (arrV _ _ _).slots.size ≤ _); rw [arrV_size]; exact hin) rfl rfl hd fun H1 e z oq => ?_
  refine kk H1 _ (P.put ha ?_ z oq) (fp_locs F (P.2.2.2 a t _ ha).1)
  show H1[a]? = some (vp_cell _ _)
  rw [e]
  show some ((vp_cell _ _).setSlot _ _) = _
  rw [vp_cell_i, vp_cell_i, arrV_store]
  congr 2
  funext q
  by_cases hq : q = i.toNatClampNeg
  · subst hq
    have hx2 : narrow .boolean (.int x) = .int x := by
      have : narrow .boolean (.int x) = .int (vp_nar .boolean x) := rfl
      rw [this, hx]
    simp only [updV, upd, if_true]
    first | exact hx2 | (have := hx2; simpa [narrow] using this)
  · simp [updV, upd, hq]
theorem wp_aast {a t kd n v tv ci : Nat} {i : Int32} {f : Nat → Option Nat} {E : String} {r : vw_C} {vs : List Value} (hd : decode M.2.1 pc = .ok (.aastore, 1)) (hty : fp_ty[kd]? = some (.object E)) (ha : h.1 a = some (t, .inl (kd, n, .inr (.inr (.inr (.inr f)))))) (hin : vp_in i n) (hv : h.1 v = some (tv, .inr (ci, vs))) (hc : vwCl[ci]? = some r) (hca : Cond.castable r.1 E ∈ fp_tn ∨ r.1 = E)
    (k : fp_wp G d M (pc + 1) L rest (fp_put h a t (.inl (kd, n, .inr (.inr (.inr (.inr (va_up f i.toNatClampNeg (some v)))))))) Q) : fp_wp G d M pc L (.ref v :: .int i :: .ref a :: rest) h Q := by
  refine fp_liftH (h1 := fp_put h a t (.inl (kd, n, .inr (.inr (.inr (.inr (va_up f i.toNatClampNeg (some v)))))))) (dc := 0) (ds := 0) rfl rfl (fun p l e mc ms s m args below meth c H locs cells slots Qz ls C K P F hl _ _ kk => ?_) k
  have hlt : i.toNatClampNeg < n := Nat.not_le.mp fun q => hin (Or.inr q)
  have h0 : ¬ i < 0 := fun q => hin (Or.inl q)
  obtain ⟨r', hr', cellV, g1, g2, g3, -⟩ := (P.2.2.2 v tv _ hv).2
  have hcls := (K.1.1 ci r hc).2
  obtain ⟨kA, comp, k1, k2, k3, -⟩ := (K.1.2 kd _ (fp_tys_at hty)).2
  obtain ⟨kE, hkE, -⟩ := Vm.findClass_spec k3
  obtain ⟨kC, hkC, -⟩ := hcls.2
  have hasg : s.vm.assignable (G.2.1.1 ci) comp = true := by
    rcases hca with hca | hca
    · exact vb_asgC (K.2.2 _ hca) comp _ k3 hcls.1
    · subst hca
      cases k3.symm.trans hcls.1
      exact va_assign hcls
  refine W.aast C.1 C.2.1 (P.2.2.2 a t _ ha).2 (fun q h => by cases h) (fun h => by cases h) k1 k2 rfl hkE ⟨h0, by show _ < (arrV _ _ _).slots.size; rw [arrV_size]; exact hlt⟩ g1 (fun q h => by rw [g3] at h; cases h) (by rw [g2]; exact hkC) (by rw [g2]; exact hasg) rfl rfl hd fun H1 e z oq => ?_
  refine kk H1 _ (P.put ha ?_ z oq) (fp_locs F (P.2.2.2 a t _ ha).1)
  show H1[a]? = some (vp_cell _ _)
  rw [e]
  show some ((vp_cell _ _).setSlot _ _) = _
  rw [vp_cell_q, vp_cell_q, arrV_store]
  congr 2
  funext q
  by_cases hq : q = i.toNatClampNeg
  · subst hq
    simp [updV, va_up, va_rf]
  · simp [updV, va_up, hq]
theorem wp_aastN {a t kd n : Nat} {i : Int32} {f : Nat → Option Nat} {E : String} (hd : decode M.2.1 pc = .ok (.aastore, 1)) (hty : fp_ty[kd]? = some (.object E)) (ha : h.1 a = some (t, .inl (kd, n, .inr (.inr (.inr (.inr f)))))) (hin : vp_in i n)
    (k : fp_wp G d M (pc + 1) L rest (fp_put h a t (.inl (kd, n, .inr (.inr (.inr (.inr (va_up f i.toNatClampNeg none))))))) Q) : fp_wp G d M pc L (.null :: .int i :: .ref a :: rest) h Q := by
  refine fp_liftH (h1 := fp_put h a t (.inl (kd, n, .inr (.inr (.inr (.inr (va_up f i.toNatClampNeg none))))))) (dc := 0) (ds := 0) rfl rfl (fun p l e mc ms s m args below meth c H locs cells slots Qz ls C K P F hl _ _ kk => ?_) k
  refine va_WaastN (C := E) C.1 C.2.1 (P.2.2.2 a t _ ha).2 ((K.1.2 kd _ (fp_tys_at hty)).1 n (fun j => va_rf (f j))) (fun h => by cases h) (by show ¬ (i < 0 ∨ (arrV _ _ _).slots.size ≤ _); rw [arrV_size]; exact hin) rfl rfl hd fun H1 e z oq => ?_
  refine kk H1 _ (P.put ha ?_ z oq) (fp_locs F (P.2.2.2 a t _ ha).1)
  show H1[a]? = some (vp_cell _ _)
  rw [e]
  show some ((vp_cell _ _).setSlot _ _) = _
  rw [vp_cell_q, vp_cell_q, arrV_store]
  congr 2
  funext q
  by_cases hq : q = i.toNatClampNeg
  · subst hq
    simp [updV, va_up, va_rf]
  · simp [updV, va_up, hq]
theorem wp_anew {i kd N : Nat} {n : Int32} {E : String} (t : Nat) (hd : decode M.2.1 pc = .ok (.anewarray i, 3)) (hty : fp_ty[kd]? = some (.object E)) (hw : Cond.classLink M.1.cls i E ∈ fp_tw) (hE : E = "FieldPack$Lane" ∨ E = "java/lang/Object") (hn : ¬ n < 0) (hN : n.toNatClampNeg = N) (hb : N * 4 ≤ 536870912)
    (k : fp_wp G d M (pc + 3) L (.ref h.2.1 :: rest) (fp_new h t (.inl (kd, N, .inr (.inr (.inr (.inr (fun _ => none)))))) N) Q) : fp_wp G d M pc L (.int n :: rest) h Q := by
  subst hN
  refine fp_liftH (h1 := fp_new h t (.inl (kd, n.toNatClampNeg, .inr (.inr (.inr (.inr (fun _ => none)))))) n.toNatClampNeg) (dc := 1) (ds := n.toNatClampNeg) rfl rfl (fun p l e mc ms s m args below meth c H locs cells slots Qz ls C K P F hl hcells hslots kk => ?_) k
  have hAO : va_AO E s := by
    rcases hE with rfl | rfl
    · exact K.2.1.2.2.2.2.1
    · exact K.2.1.2.2.2.2.2
  refine W.anew C.1 C.2.1 C.2.2.2.2.2.1 (C.2.2.2.2.2.2.2 _ hw) (va_AO.use hAO) rfl hd rfl hn hb hcells hslots fun cA kA comp f1 f2 f3 f4 => ?_
  have hcA : cA = G.2.2.1 kd := by
    obtain ⟨kA2, comp2, r1, r2, r3, r4⟩ := (K.1.2 kd _ (fp_tys_at hty)).2
    exact Option.some.inj (f1.symm.trans r4)
  subst hcA
  generalize hH1 : H.push ({ cls := G.2.2.1 kd, slots := Array.replicate n.toNatClampNeg .null, vm := .none } : Cell) = H1
  have z1 : H1.size = H.size + 1 := by rw [← hH1, Array.size_push]
  have e1 : H1[H.size]? = some (arrV (G.2.2.1 kd) n.toNatClampNeg (fun _ => .null)) := by rw [← hH1, Array.getElem?_push_size, ← arrV_new]
  have o1 : ∀ q : Nat, q < H.size → H1[q]? = H[q]? := fun q hq => by rw [← hH1, Array.getElem?_push, if_neg (Nat.ne_of_lt hq)]
  have hP1 : fp_rep G (fp_new h t (.inl (kd, n.toNatClampNeg, .inr (.inr (.inr (.inr (fun _ => none)))))) n.toNatClampNeg) H1 := P.new (by show H1[H.size]? = some (vp_cell _ _); rw [vp_cell_q]; exact e1) z1 o1
  have := kk H1 locs hP1 F
  rw [← P.1] at this
  exact this
theorem wp_cast {i a t ci : Nat} {nm : String} {r : vw_C} {fs : List Value} (hd : decode M.2.1 pc = .ok (.checkcast i, 3)) (hw : Cond.classLink M.1.cls i nm ∈ fp_tw) (ha : h.1 a = some (t, .inr (ci, fs))) (hc : vwCl[ci]? = some r) (hca : Cond.castable r.1 nm ∈ fp_tn)
    (k : fp_wp G d M (pc + 3) L (.ref a :: rest) h Q) : fp_wp G d M pc L (.ref a :: rest) h Q :=
  fp_lift (fun p l e R s m args below meth c H locs cells slots Qz ls C K P hl kk => va_castY C.1 C.2.1 C.2.2.2.2.2.1 (C.2.2.2.2.2.2.2 _ hw) (K.2.2 _ hca) (va_recv K.1 (P.one ha) (ci := ci) (q0 := 0) hc rfl) hd (kk ls hl)) k
theorem wp_castN {i : Nat} (hd : decode M.2.1 pc = .ok (.checkcast i, 3)) (k : fp_wp G d M (pc + 3) L (.null :: rest) h Q) : fp_wp G d M pc L (.null :: rest) h Q :=
  fp_lift (fun p l e R s m args below meth c H locs cells slots Qz ls C K P hl kk => lv_castN C.1 C.2.1 hd (kk ls hl)) k
/-- ArrayList's empty array -/
theorem wp_getsE {i : Nat} (hd : decode M.2.1 pc = .ok (.getstatic i, 3)) (hw : Cond.fieldLink M.1.cls i "java/util/ArrayList" "DEFAULTCAPACITY_EMPTY_ELEMENTDATA" "[Ljava/lang/Object;" ∈ fp_tw) (k : fp_wp G d M (pc + 3) L (.ref (G.2.2.2.1 0) :: rest) h Q) : fp_wp G d M pc L rest h Q := by
  refine fp_lift (fun p l e R s m args below meth c H locs cells slots Qz ls C K P hl kk => ?_) k
  obtain ⟨cf, kf, fi, f, a, cell, h1, h2, h3, h4, h5, h6, h7, h8⟩ := K.2.1.1
  exact W.gets C.1 C.2.1 C.2.2.2.2.2.1 (C.2.2.2.2.2.2.2 _ hw) h1 h2 h3 h4 (by rw [P.2.2.1 a (Nat.not_le.mp h8)]; exact h5) (fun e => by rw [e] at h6; cases h6) h7 rfl hd (kk ls hl)
theorem fp_oldT {ty : FieldType} {a N : Nat} {f : Nat → Value} {U : State} {H : Heap} (P : fp_rep G h H) (hT : va_T ty a N f (fp_old G) U G.1) : va_T ty a N f (fp_old G) U H := hT.kept (fun q _ hq => P.2.2.1 q (Nat.not_le.mp hq))
theorem wp_alenE (hd : decode M.2.1 pc = .ok (.arraylength, 1)) (k : fp_wp G d M (pc + 1) L (.int 0 :: rest) h Q) : fp_wp G d M pc L (.ref (G.2.2.2.1 0) :: rest) h Q := by
  refine fp_lift (fun p l e R s m args below meth c H locs cells slots Qz ls C K P hl kk => ?_) k
  obtain ⟨cell, h1, h2, h3, h4, h5, h6, h7⟩ := fp_oldT P K.2.1.2.1
  exact W.alen C.1 C.2.1 h1 h2 h5 rfl rfl hd (kk ls hl)
/-- the script -/
theorem wp_alenS (hd : decode M.2.1 pc = .ok (.arraylength, 1)) (k : fp_wp G d M (pc + 1) L (.int (nI (G.2.2.2.1 3)) :: rest) h Q) : fp_wp G d M pc L (.ref (G.2.2.2.1 2) :: rest) h Q := by
  refine fp_lift (fun p l e R s m args below meth c H locs cells slots Qz ls C K P hl kk => ?_) k
  obtain ⟨cell, h1, h2, h3, h4, h5, h6, h7⟩ := fp_oldT P K.2.1.2.2.2.1
  exact W.alen C.1 C.2.1 h1 h2 h5 rfl rfl hd (kk ls hl)
theorem wp_ialdS {i : Int32} (hd : decode M.2.1 pc = .ok (.iaload, 1)) (hin : vp_in i (G.2.2.2.1 3)) (k : fp_wp G d M (pc + 1) L (.int (G.2.2.2.2 i.toNatClampNeg) :: rest) h Q) : fp_wp G d M pc L (.int i :: .ref (G.2.2.2.1 2) :: rest) h Q := by
  refine fp_lift (fun p l e R s m args below meth c H locs cells slots Qz ls C K P hl kk => ?_) k
  obtain ⟨cell, h1, h2, h3, h4, h5, h6, h7⟩ := fp_oldT P K.2.1.2.2.2.1
  have hlt : i.toNatClampNeg < G.2.2.2.1 3 := Nat.not_le.mp fun q => hin (Or.inr q)
  exact W.iald C.1 C.2.1 h1 h2 h3 (fun q => by
    rcases q with q | q
    · exact hin (Or.inl q)
    · omega) (h6 _ hlt) rfl rfl hd (kk ls hl)
/-- a class constant, and getClass of an array of Objects -/
theorem wp_ldcM {i : Nat} (hd : decode M.2.1 pc = .ok (.ldc i, 2)) (hw : Cond.classLink M.1.cls i "[Ljava/lang/Object;" ∈ fp_tw) (k : fp_wp G d M (pc + 2) L (.ref (G.2.2.2.1 1) :: rest) h Q) : fp_wp G d M pc L rest h Q :=
  fp_lift (fun p l e R s m args below meth c H locs cells slots Qz ls C K P hl kk => va_ldcM C.1 C.2.1 C.2.2.2.2.2.1 (C.2.2.2.2.2.2.2 _ hw) K.2.1.2.2.1 hd (kk ls hl)) k
abbrev fp_yGC : MethodName := ⟨"java/lang/Object", "getClass", "()Ljava/lang/Class;"⟩
theorem wp_getC {i a t n : Nat} {f : Nat → Option Nat} (hd : decode M.2.1 pc = .ok (.invokevirtual i, 3)) (hw : Cond.methodLink M.1.cls i fp_yGC ∈ fp_tw ∧ Cond.declares fp_yGC ∈ fp_tn ∧ Cond.selects "[Ljava/lang/Object;" fp_yGC fp_yGC ∈ fp_tw ∧ Cond.instanceMethod fp_yGC ∈ fp_tw ∧ Cond.native fp_yGC ∈ fp_tw) (hdd : 1 ≤ d.1 ∧ 22 ≤ d.2) (hLen : L.length = M.2.2.1) (hroom : (rest.map fun v => v.category).sum ≤ 8)
    (ha : h.1 a = some (t, .inl (4, n, .inr (.inr (.inr (.inr f)))))) (k : fp_wp G d M (pc + 3) L (.ref (G.2.2.2.1 1) :: rest) h Q) : fp_wp G d M pc L (.ref a :: rest) h Q := by
  refine fp_liftH (h1 := h) (dc := 0) (ds := 0) rfl rfl (fun p l e mc ms s m args below meth c H locs cells slots Qz ls C K P F hl _ _ kk => ?_) k
  obtain ⟨hx, hb, hml, -, -, hown, hname, hts⟩ := C
  have hRA := (K.1.2 4 _ (fp_tys_at (G := G) (k := 4) (t := .object "java/lang/Object") rfl)).2
  exact va_getC hx hb (by rw [hml, ← hLen]; exact hl.1.symm) hown (hts _ hw.1) (va_Nw.use rfl (K.2.2 _ hw.2.1)) (hts _ hw.2.2.1) (hts _ hw.2.2.2.1) (hts _ hw.2.2.2.2) K.2.1.2.2.1
    ⟨_, (P.2.2.2 a t _ ha).2, rfl, va_nmO hRA (by decide)⟩ hdd.1 (by show _ ≤ d.2; omega) hd (kk H locs P F)
theorem fp_nn (z : Int32) (hz : ¬ z < 0) : z.toInt = (z.toNatClampNeg : Int) := by
  have hz0 : (0 : Int) ≤ z.toInt := by
    have := Int32.not_lt.mp hz
    simpa using Int32.le_iff_toInt_le.mp this
  show z.toInt = ((z.toInt.toNat : Nat) : Int)
  omega
/-- System.arraycopy, of ints -/
theorem wp_copyi {i a0 t0 n0 a t n1 : Nat} {sp dp n : Int32} {f g : Nat → Int32} (hd : decode M.2.1 pc = .ok (.invokestatic i, 3)) (hw : Cond.methodLink M.1.cls i arraycopyName ∈ fp_tw ∧ Cond.native arraycopyName ∈ fp_tw ∧ Cond.static arraycopyName ∈ fp_tw ∧ Cond.initialized "java/lang/System" ∈ fp_tw) (hdd : 1 ≤ d.1 ∧ 26 ≤ d.2) (hLen : L.length = M.2.2.1) (hroom : (rest.map fun v => v.category).sum ≤ 8)
    (ha0 : h.1 a0 = some (t0, .inl (0, n0, .inl f))) (ha : h.1 a = some (t, .inl (0, n1, .inl g))) (h1 : ¬ sp < 0) (h2 : ¬ dp < 0) (h3 : ¬ n < 0) (h4 : sp.toNatClampNeg + n.toNatClampNeg ≤ n0) (h5 : dp.toNatClampNeg + n.toNatClampNeg ≤ n1)
    (k : fp_wp G d M (pc + 3) L rest (fp_put h a t (.inl (0, n1, .inl (va_cpy f g sp.toNatClampNeg dp.toNatClampNeg n.toNatClampNeg)))) Q) : fp_wp G d M pc L (.int n :: .int dp :: .ref a :: .int sp :: .ref a0 :: rest) h Q := by
  refine fp_liftH (h1 := fp_put h a t (.inl (0, n1, .inl (va_cpy f g sp.toNatClampNeg dp.toNatClampNeg n.toNatClampNeg)))) (dc := 0) (ds := 0) rfl rfl (fun p l e mc ms s m args below meth c H locs cells slots Qz ls C K P F hl _ _ kk => ?_) k
  obtain ⟨hx, hb, hml, -, -, hown, hname, hts⟩ := C
  intro T hT X
  have hc0 : H[a0]? = some (arrV (G.2.2.1 0) n0 (fun j => .int (f j))) := (P.2.2.2 a0 t0 _ ha0).2
  have hc1 : H[a]? = some (arrV (G.2.2.1 0) n1 (fun j => .int (g j))) := (P.2.2.2 a t _ ha).2
  obtain ⟨-, k0, hk0, cm0, hkk0⟩ := (K.1.2 0 _ (fp_tys_at (G := G) (k := 0) (t := .int) rfl)).1 n0 (fun j => .int (f j))
  obtain ⟨vm', X', step⟩ := X.arraycopy hx hown (hts _ hw.1) (hts _ hw.2.1) (hts _ hw.2.2.1) (hts _ hw.2.2.2) (src := a0) (dst := a) (cs := arrV (G.2.2.1 0) n0 (fun j => .int (f j))) (cd := arrV (G.2.2.1 0) n1 (fun j => .int (g j))) (srcPos := sp) (destPos := dp) (n := n) (by rw [hT]; exact hc0) (by rw [hT]; exact hc1)
    (fun _ h => by cases h) (fun _ h => by cases h) (fun h => by cases h) (fun h => by cases h) hk0 hk0 hkk0 hkk0 (by simp [refKind]) h1 h2 h3
    (by rw [fp_nn sp h1, fp_nn n h3, arrV_size]; omega) (by rw [fp_nn dp h2, fp_nn n h3, arrV_size]; omega)
    (fun vm₁ _ i hi => by
      rw [Array.getD_eq_getD_getElem?, arrV_read _ _ (by omega)]
      exact ⟨rfl, trivial⟩)
    (g := F0 m pc ls (.int n :: .int dp :: .ref a :: .int sp :: .ref a0 :: rest)) rfl (by rw [hml, ← hLen]; exact hl.1) (rest := rest) rfl (by rw [hb]; exact hd) hdd.1 (by show 2 * 0 + _ + _ ≤ d.2; have hw : nativeFrameWords "java/lang/System" "arraycopy" 5 = 7 := (by decide); omega)
  have e1 : copied (arrV (G.2.2.1 0) n0 (fun j => .int (f j))) (arrV (G.2.2.1 0) n1 (fun j => .int (g j))) sp dp n = arrV (G.2.2.1 0) n1 (fun j => .int (va_cpy f g sp.toNatClampNeg dp.toNatClampNeg n.toNatClampNeg j)) := va_copied (fun z => .int z) _ _ f g h4
  rw [e1] at X' step
  have hla : a < H.size := (Array.getElem?_eq_some_iff.mp hc1).1
  obtain ⟨t2, a1, b1⟩ := kk (H.setIfInBounds a (arrV (G.2.2.1 0) n1 (fun j => .int (va_cpy f g sp.toNatClampNeg dp.toNatClampNeg n.toNatClampNeg j)))) _
    (P.put ha (show (H.setIfInBounds a _)[a]? = some _ by simp [Array.getElem?_setIfInBounds, hla]; rfl) (by simp) (fun q hq => by simp [Array.getElem?_setIfInBounds, Ne.symm hq]))
    (fun q hq => by
      rcases List.mem_append.mp hq with hq | hq
      · exact F q hq
      · obtain ⟨z, -, hz⟩ := List.mem_map.mp hq
        rw [← hz]
        exact (P.2.2.2 a t _ ha).1) _ (by rw [← hT]; rfl) X'
  exact ⟨t2, step t2 a1, b1⟩
/-- System.arraycopy, of references, of arrays of Objects -/
theorem wp_copyq {i a0 t0 n0 a t n1 : Nat} {sp dp n : Int32} {f g : Nat → Option Nat} (hd : decode M.2.1 pc = .ok (.invokestatic i, 3)) (hw : Cond.methodLink M.1.cls i arraycopyName ∈ fp_tw ∧ Cond.native arraycopyName ∈ fp_tw ∧ Cond.static arraycopyName ∈ fp_tw ∧ Cond.initialized "java/lang/System" ∈ fp_tw) (hdd : 1 ≤ d.1 ∧ 26 ≤ d.2) (hLen : L.length = M.2.2.1) (hroom : (rest.map fun v => v.category).sum ≤ 8)
    (ha0 : h.1 a0 = some (t0, .inl (4, n0, .inr (.inr (.inr (.inr f)))))) (ha : h.1 a = some (t, .inl (4, n1, .inr (.inr (.inr (.inr g)))))) (h1 : ¬ sp < 0) (h2 : ¬ dp < 0) (h3 : ¬ n < 0) (h4 : sp.toNatClampNeg + n.toNatClampNeg ≤ n0) (h5 : dp.toNatClampNeg + n.toNatClampNeg ≤ n1)
    (hel : ∀ i : Nat, i < n.toNatClampNeg → ∀ y : Nat, f (sp.toNatClampNeg + i) = some y → ∃ (ty ci : Nat) (fs : List Value) (r : vw_C), h.1 y = some (ty, .inr (ci, fs)) ∧ vwCl[ci]? = some r ∧ Cond.castable r.1 "java/lang/Object" ∈ fp_tn)
    (k : fp_wp G d M (pc + 3) L rest (fp_put h a t (.inl (4, n1, .inr (.inr (.inr (.inr (va_cpy f g sp.toNatClampNeg dp.toNatClampNeg n.toNatClampNeg))))))) Q) : fp_wp G d M pc L (.int n :: .int dp :: .ref a :: .int sp :: .ref a0 :: rest) h Q := by
  refine fp_liftH (h1 := fp_put h a t (.inl (4, n1, .inr (.inr (.inr (.inr (va_cpy f g sp.toNatClampNeg dp.toNatClampNeg n.toNatClampNeg))))))) (dc := 0) (ds := 0) rfl rfl (fun p l e mc ms s m args below meth c H locs cells slots Qz ls C K P F hl _ _ kk => ?_) k
  obtain ⟨hx, hb, hml, -, -, hown, hname, hts⟩ := C
  intro T hT X
  have hc0 : H[a0]? = some (arrV (G.2.2.1 4) n0 (fun j => va_rf (f j))) := (P.2.2.2 a0 t0 _ ha0).2
  have hc1 : H[a]? = some (arrV (G.2.2.1 4) n1 (fun j => va_rf (g j))) := (P.2.2.2 a t _ ha).2
  obtain ⟨-, k0, hk0, cm0, hkk0⟩ := (K.1.2 4 _ (fp_tys_at (G := G) (k := 4) (t := .object "java/lang/Object") rfl)).1 n0 (fun j => va_rf (f j))
  obtain ⟨vm', X', step⟩ := X.arraycopy hx hown (hts _ hw.1) (hts _ hw.2.1) (hts _ hw.2.2.1) (hts _ hw.2.2.2) (src := a0) (dst := a) (cs := arrV (G.2.2.1 4) n0 (fun j => va_rf (f j))) (cd := arrV (G.2.2.1 4) n1 (fun j => va_rf (g j))) (srcPos := sp) (destPos := dp) (n := n) (by rw [hT]; exact hc0) (by rw [hT]; exact hc1)
    (fun _ h => by cases h) (fun _ h => by cases h) (fun h => by cases h) (fun h => by cases h) hk0 hk0 hkk0 hkk0 (by simp [refKind]) h1 h2 h3
    (by rw [fp_nn sp h1, fp_nn n h3, arrV_size]; omega) (by rw [fp_nn dp h2, fp_nn n h3, arrV_size]; omega)
    (fun vm₁ hal i hi => by
      rw [Array.getD_eq_getD_getElem?, arrV_read _ _ (by omega)]
      show fits _ (va_rf (f _)) = true ∧ _
      cases hy : f (sp.toNatClampNeg + i) with
      | none => exact ⟨rfl, trivial⟩
      | some y =>
        obtain ⟨ty, ci, fs, r, q1, q2, q3⟩ := hel i hi y hy
        obtain ⟨r', hr', cellV, g1, g2, g3, -⟩ := (P.2.2.2 y ty _ q1).2
        have hcls := (K.1.1 ci r q2).2
        obtain ⟨kA, comp, r1, r2, r3, -⟩ := (K.1.2 4 _ (fp_tys_at (G := G) (k := 4) (t := .object "java/lang/Object") rfl)).2
        cases hk0.symm.trans r1
        cases hkk0.symm.trans r2
        obtain ⟨kC, hkC, -⟩ := hcls.2
        obtain ⟨kE, hkE, -⟩ := Vm.findClass_spec r3
        obtain ⟨kC', hkC', -⟩ := hal.2.2 _ _ hkC
        obtain ⟨kE', hkE', -⟩ := hal.2.2 _ _ hkE
        refine ⟨rfl, cellV, (show T.heap[y]? = some cellV by rw [hT]; exact g1), (fun q h => by rw [g3] at h; cases h), ⟨kC', by rw [g2]; exact hkC'⟩, ⟨kE', hkE'⟩, ?_⟩
        show vm₁.assignable _ _ = true
        rw [hal.assignable, g2]
        exact vb_asgC (K.2.2 _ q3) _ _ r3 hcls.1)
    (g := F0 m pc ls (.int n :: .int dp :: .ref a :: .int sp :: .ref a0 :: rest)) rfl (by rw [hml, ← hLen]; exact hl.1) (rest := rest) rfl (by rw [hb]; exact hd) hdd.1 (by show 2 * 0 + _ + _ ≤ d.2; have hw : nativeFrameWords "java/lang/System" "arraycopy" 5 = 7 := (by decide); omega)
  have e1 : copied (arrV (G.2.2.1 4) n0 (fun j => va_rf (f j))) (arrV (G.2.2.1 4) n1 (fun j => va_rf (g j))) sp dp n = arrV (G.2.2.1 4) n1 (fun j => va_rf (va_cpy f g sp.toNatClampNeg dp.toNatClampNeg n.toNatClampNeg j)) := va_copied (fun z => va_rf z) _ _ f g h4
  rw [e1] at X' step
  have hla : a < H.size := (Array.getElem?_eq_some_iff.mp hc1).1
  obtain ⟨t2, a1, b1⟩ := kk (H.setIfInBounds a (arrV (G.2.2.1 4) n1 (fun j => va_rf (va_cpy f g sp.toNatClampNeg dp.toNatClampNeg n.toNatClampNeg j)))) _
    (P.put ha (show (H.setIfInBounds a _)[a]? = some _ by simp [Array.getElem?_setIfInBounds, hla]; rfl) (by simp) (fun q hq => by simp [Array.getElem?_setIfInBounds, Ne.symm hq]))
    (fun q hq => by
      rcases List.mem_append.mp hq with hq | hq
      · exact F q hq
      · obtain ⟨z, -, hz⟩ := List.mem_map.mp hq
        rw [← hz]
        exact (P.2.2.2 a t _ ha).1) _ (by rw [← hT]; rfl) X'
  exact ⟨t2, step t2 a1, b1⟩
theorem wp_callSN {i n : Nat} {st As : List Value} {host : String} (hd : decode M.2.1 pc = .ok (.invokestatic i, 3)) (hme : fp_me M' n) (hw : Cond.methodLinkNest M.1.cls i M'.1 host ∈ fp_tn ∧ Cond.static M'.1 ∈ fp_tw) (hdd : d'.1 + 1 ≤ d.1 ∧ 8 + (M'.2.2.1 + 11) + d'.2 ≤ d.2) (hLen : L.length = M.2.2.1) (hn : As.length = n) (hst : st = As.reverse ++ rest) (hroom : (rest.map fun v => v.category).sum ≤ 8)
    (hc : fp_ct G d' M' As h Q') (k : ∀ r h1, Q' r h1 → fp_wp G d M (pc + 3) L (r.toList ++ rest) h1 Q) : fp_wp G d M pc L st h Q := by
  obtain ⟨r, h1, ⟨m1, m2, hM⟩, q'⟩ := hc
  refine fp_liftH (h1 := h1) (dc := h1.2.1 - h.2.1) (ds := h1.2.2 - h.2.2) (by omega) (by omega) (fun p l e mc ms s m args below meth c H locs cells slots Qz ls C K P F hl hcells hslots kk => ?_) (k r h1 q')
  obtain ⟨hx, hb, hml, -, -, hown, hname, hts⟩ := C
  exact fp_go (va_runSN (As := As) (rest := rest) ⟨hx, hb, hml, hown, hts⟩ (hM l) ⟨va_cnB n hts (fp_goodIn (fp_ws_in hme)) rfl rfl rfl (K.2.2 _ hw.1) (hts _ hme.2.1) hme.2.2 hdd, hts _ hw.2, trivial⟩
    ⟨fp_blind, fun U hU hW => ⟨rfl, by rw [hU]; exact P, K.moved hW⟩⟩ rfl hn (hl.1.trans hLen) hst (lv_room hroom) hd ⟨hcells, hslots⟩) F kk
end FPB
