/-! THE BASE: an exact picture of the heap (cells by address, the next address, slots used), and a calculus of exact runs over it -/
abbrev fp_E : Type := (Nat × vp_A) ⊕ (Nat × List Value)
abbrev fp_H : Type := (Nat → Option (Nat × fp_E)) × Nat × Nat
abbrev fp_G : Type := Heap × va_G × (Nat → ClassId) × (Nat → Nat) × (Nat → Int32)
abbrev fp_M : Type := MethodName × ByteArray × Nat × Option FieldType
def fp_cv (G : fp_G) (e : fp_E) : va_E := match e with
  | .inl x => .inl (G.2.2.1 x.1, x.2)
  | .inr o => .inr o
def fp_rep (G : fp_G) (h : fp_H) (H : Heap) : Prop := H.size = h.2.1 ∧ G.1.size ≤ h.2.1 ∧ (∀ q : Nat, q < G.1.size → H[q]? = G.1[q]?) ∧ ∀ (q t : Nat) (e : fp_E), h.1 q = some (t, e) → G.1.size ≤ q ∧ va_at G.2.1 vwCl (q, fp_cv G e) H
def fp_put (h : fp_H) (q t : Nat) (e : fp_E) : fp_H := (fun x => if x = q then some (t, e) else h.1 x, h.2.1, h.2.2)
def fp_new (h : fp_H) (t : Nat) (e : fp_E) (k : Nat) : fp_H := (fun x => if x = h.2.1 then some (t, e) else h.1 x, h.2.1 + 1, h.2.2 + k)
def fp_tys (G : fp_G) : List (ClassId × FieldType) := fp_ty.zipIdx.map (fun x => (G.2.2.1 x.2, x.1))
theorem fp_tys_gen (f : Nat → ClassId) (l : List FieldType) {k : Nat} {t : FieldType} (h : l[k]? = some t) : (l.zipIdx.map (fun x => (f x.2, x.1)))[k]? = some (f k, t) := by
  simp [List.getElem?_map, List.getElem?_zipIdx, h]
theorem fp_tys_at {G : fp_G} {k : Nat} {t : FieldType} (h : fp_ty[k]? = some t) : (fp_tys G)[k]? = some (G.2.2.1 k, t) := fp_tys_gen _ _ h
/-- what stood before the start: the empty array of ArrayList, the Class object of Object[], the script -/
def fp_old (G : fp_G) : Nat → Prop := fun q => G.1.size ≤ q
def fp_X (G : fp_G) (U : State) : Prop := va_Z "java/util/ArrayList" "DEFAULTCAPACITY_EMPTY_ELEMENTDATA" "[Ljava/lang/Object;" (.ref (G.2.2.2.1 0)) (fp_old G) U G.1 ∧ va_T (.object "java/lang/Object") (G.2.2.2.1 0) 0 (fun _ => .null) (fp_old G) U G.1 ∧ va_Mi "[Ljava/lang/Object;" (G.2.2.2.1 1) U ∧ va_T .int (G.2.2.2.1 2) (G.2.2.2.1 3) (fun j => .int (G.2.2.2.2 j)) (fp_old G) U G.1 ∧ va_AO "FieldPack$Lane" U ∧ va_AO "java/lang/Object" U
def fp_K (G : fp_G) (U : State) : Prop := va_K G.2.1 vwCl (fp_tys G) U ∧ fp_X G U ∧ ∀ w ∈ fp_tn, va_Nw w U
theorem fp_mv_moved {w : Cond} (h : fp_mv w = true) {u U : State} (hW : u.WarmedH U.vm) (hn : va_Nw w u) : va_Nw w U := by
  cases w <;> first | (simp [fp_mv] at h; done) | exact va_Nw.warmC hW hn | exact va_Nw.warmD hW hn | exact va_Nw.warmM hW hn
theorem fp_K.moved {G : fp_G} {u U : State} (hW : u.WarmedH U.vm) (h : fp_K G u) : fp_K G U :=
  have hvm := hW.alike
  ⟨va_K.moved hvm h.1, ⟨h.2.1.1.moved hvm, h.2.1.2.1.moved hvm, h.2.1.2.2.1.moved hvm, h.2.1.2.2.2.1.moved hvm, h.2.1.2.2.2.2.1.moved hvm, h.2.1.2.2.2.2.2.moved hvm⟩, fun w hw => fp_mv_moved (List.mem_filter.mp hw).2 hW (h.2.2 w hw)⟩
def fp_Cx (M : fp_M) (p : Program) (s : State) (m : MethodId) (args : Array Value) (meth : Method) (c : Code) : Prop :=
  p.tables.exec = Jvm.exec ∧ c.code = M.2.1 ∧ c.maxLocals = M.2.2.1 ∧ meth.sig.returnType = M.2.2.2 ∧ meth.locks = false ∧ s.vm.findClass M.1.cls = some m.cls ∧ meth.name = M.1.name ∧ ∀ w ∈ fp_tw, w.before args s = true
def fp_L (ls : Array Slot) (L : List (Option Value)) : Prop := ls.size = L.length ∧ lv_wf ls ∧ ∀ (i : Nat) (v : Value), L[i]? = some (some v) → ls[i]? = some (.val v)
def fp_lv (L : List (Option Value)) : List (Nat × Value) := L.zipIdx.filterMap (fun x => x.1.map (fun v => (x.2, v)))
theorem fp_lv_mem {L : List (Option Value)} {q : Nat × Value} : q ∈ fp_lv L ↔ L[q.1]? = some (some q.2) := by
  unfold fp_lv
  rw [List.mem_filterMap]
  constructor
  · rintro ⟨⟨o, i⟩, h1, h2⟩
    have h3 := List.mem_zipIdx_iff_getElem?.mp h1
    cases o with
    | none => simp at h2
    | some v => simp at h2; subst h2; exact h3
  · intro h
    exact ⟨(some q.2, q.1), List.mem_zipIdx_iff_getElem?.mpr h, by simp⟩
theorem fp_L.has {ls : Array Slot} {L : List (Option Value)} (h : fp_L ls L) : lv_has ls L.length (fp_lv L) := ⟨h.1, h.2.1, fun q hq => h.2.2 q.1 q.2 (fp_lv_mem.mp hq)⟩
/-- no value of two slots begins just ahead of place i -/
def fp_ok (L : List (Option Value)) (i : Nat) : Bool := match i with
  | 0 => true
  | j + 1 => match L[j]? with
    | some (some v) => v.category == 1
    | _ => true
theorem fp_ok_spec {L : List (Option Value)} {i j : Nat} {v : Value} (h : fp_ok L i = true) (hj : j + 1 = i) (hv : L[j]? = some (some v)) : ¬ v.category = 2 := by
  subst hj
  simp [fp_ok, hv] at h
  omega
theorem fp_L.set1 {ls' : Array Slot} {L : List (Option Value)} {i : Nat} {v : Value} (ho : fp_ok L i = true) (h : lv_has ls' L.length ((i, v) :: (fp_lv L).filter (fun q => !(q.1 == i) && !(q.1 + 1 == i && q.2.category == 2)))) : fp_L ls' (L.set i (some v)) := by
  refine ⟨by rw [List.length_set]; exact h.1, h.2.1, fun j w hj => ?_⟩
  by_cases e : i = j
  · subst e
    rw [List.getElem?_set_self'] at hj
    cases hL : L[i]? with
    | none => rw [hL] at hj; simp at hj
    | some x => rw [hL] at hj; simp at hj; subst hj; exact h.2.2 (i, v) List.mem_cons_self
  · rw [List.getElem?_set_ne e] at hj
    refine h.2.2 (j, w) (List.mem_cons_of_mem _ (List.mem_filter.mpr ⟨fp_lv_mem.mpr hj, ?_⟩))
    have e2 : (j == i) = false := by simpa using fun q => e q.symm
    simp only [e2, Bool.not_false, Bool.true_and]
    by_cases e3 : j + 1 = i
    · have := fp_ok_spec ho e3 hj
      simp [this]
    · simp [e3]
theorem fp_L.set2 {ls' : Array Slot} {L : List (Option Value)} {i : Nat} {v : Value} (ho : fp_ok L i = true) (h : lv_has ls' L.length ((i, v) :: (fp_lv L).filter (fun q => !(q.1 == i) && (!(q.1 == i + 1) && !(q.1 + 1 == i && q.2.category == 2))))) : fp_L ls' ((L.set i (some v)).set (i + 1) none) := by
  refine ⟨by rw [List.length_set, List.length_set]; exact h.1, h.2.1, fun j w hj => ?_⟩
  by_cases e0 : i + 1 = j
  · subst e0
    rw [List.getElem?_set_self'] at hj
    cases hL : (L.set i (some v))[i + 1]? with
    | none => rw [hL] at hj; simp at hj
    | some x => rw [hL] at hj; simp at hj
  rw [List.getElem?_set_ne e0] at hj
  by_cases e : i = j
  · subst e
    rw [List.getElem?_set_self'] at hj
    cases hL : L[i]? with
    | none => rw [hL] at hj; simp at hj
    | some x => rw [hL] at hj; simp at hj; subst hj; exact h.2.2 (i, v) List.mem_cons_self
  · rw [List.getElem?_set_ne e] at hj
    refine h.2.2 (j, w) (List.mem_cons_of_mem _ (List.mem_filter.mpr ⟨fp_lv_mem.mpr hj, ?_⟩))
    have e2 : (j == i) = false := by simpa using fun q => e q.symm
    have e4 : (j == i + 1) = false := by simpa using fun q => e0 q.symm
    simp only [e2, e4, Bool.not_false, Bool.true_and]
    by_cases e3 : j + 1 = i
    · have := fp_ok_spec ho e3 hj
      simp [this]
    · simp [e3]
def fp_ent (av : List Value) (n : Nat) : List (Option Value) := let a := av.flatMap (fun v => if v.category = 2 then [some v, none] else [some v]); a ++ List.replicate (n - a.length) none
def fp_rm (d : Nat × Nat) (mc ms : Nat) : Room := { frames := d.1, cells := mc, slots := ms, locals := d.2 }
def fp_free (G : fp_G) : Addr → Prop := fun q => G.1.size ≤ q
def fp_Qc (G : fp_G) (r : Option Value) (h' : fp_H) : Array Value → State → Outcome → State → Prop := fun _ _ o t => o = .returned r ∧ fp_rep G h' t.heap
def fp_ws (M : fp_M) : List Cond := .code M.1 M.2.1 M.2.2.1 M.2.2.2 :: fp_tw
/-- the method M, called with av over h, returns r, the heap being h' -/
def fp_R (G : fp_G) (d : Nat × Nat) (M : fp_M) (av : List Value) (h : fp_H) (r : Option Value) (h' : fp_H) : Prop := h.2.1 ≤ h'.2.1 ∧ h.2.2 ≤ h'.2.2 ∧ ∀ l : Launch,
  Met l M.1 (fp_ws M) (fp_rm d (h'.2.1 - h.2.1) (h'.2.2 - h.2.2)) (va_Pc av (fun U => fp_rep G h U.heap ∧ fp_K G U)) (fp_Qc G r h') (h'.2.1 - h.2.1) (h'.2.2 - h.2.2) (fp_free G)
/-- from this frame on the method M returns r, the heap being h' -/
def fp_W (G : fp_G) (d : Nat × Nat) (M : fp_M) (pc : Nat) (L : List (Option Value)) (st : List Value) (h : fp_H) (r : Option Value) (h' : fp_H) : Prop := h.2.1 ≤ h'.2.1 ∧ h.2.2 ≤ h'.2.2 ∧
  ∀ (p : Program) (l : Launch) (e : Env) (s : State) (m : MethodId) (args : Array Value) (below : List Frame) (meth : Method) (c : Code) (H : Heap) (locs : List Loc) (cells slots mc ms : Nat) (ls : Array Slot),
    fp_Cx M p s m args meth c → fp_K G s → fp_rep G h H → (∀ q ∈ locs, fp_free G q.base) → fp_L ls L → cells + (h'.2.1 - h.2.1) = mc → slots + (h'.2.2 - h.2.2) = ms →
    W p l e (fp_rm d mc ms) s m args below meth c H locs cells slots (MQ below (fp_Qc G r h') args s mc ms (fp_free G)) (F0 m pc ls st)
def fp_ct (G : fp_G) (d : Nat × Nat) (M : fp_M) (av : List Value) (h : fp_H) (Q : Option Value → fp_H → Prop) : Prop := ∃ r h', fp_R G d M av h r h' ∧ Q r h'
def fp_wp (G : fp_G) (d : Nat × Nat) (M : fp_M) (pc : Nat) (L : List (Option Value)) (st : List Value) (h : fp_H) (Q : Option Value → fp_H → Prop) : Prop := ∃ r h', fp_W G d M pc L st h r h' ∧ Q r h'
theorem fp_wp.mono {G : fp_G} {d : Nat × Nat} {M : fp_M} {pc : Nat} {L : List (Option Value)} {st : List Value} {h : fp_H} {Q Q' : Option Value → fp_H → Prop} (k : fp_wp G d M pc L st h Q) (f : ∀ r h', Q r h' → Q' r h') : fp_wp G d M pc L st h Q' := by
  obtain ⟨r, h', a, b⟩ := k
  exact ⟨r, h', a, f r h' b⟩
theorem fp_ct.mono {G : fp_G} {d : Nat × Nat} {M : fp_M} {av : List Value} {h : fp_H} {Q Q' : Option Value → fp_H → Prop} (k : fp_ct G d M av h Q) (f : ∀ r h', Q r h' → Q' r h') : fp_ct G d M av h Q' := by
  obtain ⟨r, h', a, b⟩ := k
  exact ⟨r, h', a, f r h' b⟩
section FPL
variable {G : fp_G} {d : Nat × Nat} {M : fp_M} {pc : Nat} {L : List (Option Value)} {st : List Value} {h : fp_H} {Q : Option Value → fp_H → Prop}
/-- a step that leaves the heap alone -/
theorem fp_lift {pc' : Nat} {L' : List (Option Value)} {st' : List Value} (step : ∀ (p : Program) (l : Launch) (e : Env) (R : Room) (s : State) (m : MethodId) (args : Array Value) (below : List Frame) (meth : Method) (c : Code) (H : Heap) (locs : List Loc) (cells slots : Nat) (Qz : State → Prop) (ls : Array Slot),
    fp_Cx M p s m args meth c → fp_K G s → fp_rep G h H → fp_L ls L → (∀ ls', fp_L ls' L' → W p l e R s m args below meth c H locs cells slots Qz (F0 m pc' ls' st')) → W p l e R s m args below meth c H locs cells slots Qz (F0 m pc ls st))
    (k : fp_wp G d M pc' L' st' h Q) : fp_wp G d M pc L st h Q := by
  obtain ⟨r, h', ⟨m1, m2, w⟩, q⟩ := k
  exact ⟨r, h', ⟨m1, m2, fun p l e s m args below meth c H locs cells slots mc ms ls C K P F hl e1 e2 => step p l e _ s m args below meth c H locs cells slots _ ls C K P hl (fun ls' hl' => w p l e s m args below meth c H locs cells slots mc ms ls' C K P F hl' e1 e2)⟩, q⟩
/-- a step that changes the heap -/
theorem fp_liftH {h1 : fp_H} {dc ds pc' : Nat} {st' : List Value} (hn : h1.2.1 = h.2.1 + dc) (hs : h1.2.2 = h.2.2 + ds)
    (step : ∀ (p : Program) (l : Launch) (e : Env) (mc ms : Nat) (s : State) (m : MethodId) (args : Array Value) (below : List Frame) (meth : Method) (c : Code) (H : Heap) (locs : List Loc) (cells slots : Nat) (Qz : State → Prop) (ls : Array Slot),
    fp_Cx M p s m args meth c → fp_K G s → fp_rep G h H → (∀ q ∈ locs, fp_free G q.base) → fp_L ls L → cells + dc ≤ mc → slots + ds ≤ ms →
    (∀ (H1 : Heap) (locs1 : List Loc), fp_rep G h1 H1 → (∀ q ∈ locs1, fp_free G q.base) → W p l e (fp_rm d mc ms) s m args below meth c H1 locs1 (cells + dc) (slots + ds) Qz (F0 m pc' ls st')) → W p l e (fp_rm d mc ms) s m args below meth c H locs cells slots Qz (F0 m pc ls st))
    (k : fp_wp G d M pc' L st' h1 Q) : fp_wp G d M pc L st h Q := by
  obtain ⟨r, h', ⟨m1, m2, w⟩, q⟩ := k
  refine ⟨r, h', ⟨by omega, by omega, fun p l e s m args below meth c H locs cells slots mc ms ls C K P F hl e1 e2 => step p l e mc ms s m args below meth c H locs cells slots _ ls C K P F hl ?_ ?_ (fun H1 locs1 P1 F1 => w p l e s m args below meth c H1 locs1 (cells + dc) (slots + ds) mc ms ls C K P1 F1 hl ?_ ?_)⟩, q⟩
  · omega
  · omega
  · omega
  · omega
end FPL

section FPI
variable {G : fp_G} {d : Nat × Nat} {M : fp_M} {pc : Nat} {L : List (Option Value)} {rest : List Value} {h : fp_H} {Q : Option Value → fp_H → Prop}
theorem wp_iconst {n : Int} {v : Int32} (hd : decode M.2.1 pc = .ok (.iconst n, 1)) (hv : Int32.ofInt n = v) (k : fp_wp G d M (pc + 1) L (.int v :: rest) h Q) : fp_wp G d M pc L (rest) h Q := fp_lift (fun p l e R s m args below meth c H locs cells slots Qz ls C K P hl kk => lv_iconst C.1 C.2.1 hd hv (kk ls hl)) k
theorem wp_bipush {n : Int} {v : Int32} (hd : decode M.2.1 pc = .ok (.bipush n, 2)) (hv : (Int8.ofInt n).toInt32 = v) (k : fp_wp G d M (pc + 2) L (.int v :: rest) h Q) : fp_wp G d M pc L (rest) h Q := fp_lift (fun p l e R s m args below meth c H locs cells slots Qz ls C K P hl kk => lv_bipush C.1 C.2.1 hd hv (kk ls hl)) k
theorem wp_sipush {n : Int} {v : Int32} (hd : decode M.2.1 pc = .ok (.sipush n, 3)) (hv : (Int16.ofInt n).toInt32 = v) (k : fp_wp G d M (pc + 3) L (.int v :: rest) h Q) : fp_wp G d M pc L (rest) h Q := fp_lift (fun p l e R s m args below meth c H locs cells slots Qz ls C K P hl kk => lv_sipush C.1 C.2.1 hd hv (kk ls hl)) k
theorem wp_lconst {n : Fin 2} {v : Int64} (hd : decode M.2.1 pc = .ok (.lconst n, 1)) (hv : Int64.ofNat (n : Nat) = v) (k : fp_wp G d M (pc + 1) L (.long v :: rest) h Q) : fp_wp G d M pc L (rest) h Q := fp_lift (fun p l e R s m args below meth c H locs cells slots Qz ls C K P hl kk => lv_lconst C.1 C.2.1 hd hv (kk ls hl)) k
theorem wp_null (hd : decode M.2.1 pc = .ok (.aconst_null, 1)) (k : fp_wp G d M (pc + 1) L (.null :: rest) h Q) : fp_wp G d M pc L (rest) h Q := fp_lift (fun p l e R s m args below meth c H locs cells slots Qz ls C K P hl kk => lv_null C.1 C.2.1 hd (kk ls hl)) k
theorem wp_ldc {i : Nat} {v : Int32} (hd : decode M.2.1 pc = .ok (.ldc i, 2)) (hw : Cond.constant M.1.cls i v ∈ fp_tw) (k : fp_wp G d M (pc + 2) L (.int v :: rest) h Q) : fp_wp G d M pc L (rest) h Q := fp_lift (fun p l e R s m args below meth c H locs cells slots Qz ls C K P hl kk => lv_ldc C.1 C.2.1 C.2.2.2.2.2.1 (C.2.2.2.2.2.2.2 _ hw) hd (kk ls hl)) k
theorem wp_ldc2 {i : Nat} {v : Int64} (hd : decode M.2.1 pc = .ok (.ldc2_w i, 3)) (hw : Cond.constantLong M.1.cls i v ∈ fp_tw) (k : fp_wp G d M (pc + 3) L (.long v :: rest) h Q) : fp_wp G d M pc L (rest) h Q := fp_lift (fun p l e R s m args below meth c H locs cells slots Qz ls C K P hl kk => lv_ldc2 C.1 C.2.1 C.2.2.2.2.2.1 (C.2.2.2.2.2.2.2 _ hw) hd (kk ls hl)) k
theorem wp_iload_n {k0 : Fin 4} {x : Int32} (hd : decode M.2.1 pc = .ok (.iload_n k0, 1)) (hl0 : L[(k0 : Nat)]? = some (some (.int x))) (k : fp_wp G d M (pc + 1) L (.int x :: rest) h Q) : fp_wp G d M pc L (rest) h Q := fp_lift (fun p l e R s m args below meth c H locs cells slots Qz ls C K P hl kk => lv_iload_n C.1 C.2.1 hd rfl (hl.2.2 _ _ hl0) (kk ls hl)) k
theorem wp_iload {i : Nat} {x : Int32} (hd : decode M.2.1 pc = .ok (.iload i, 2)) (hl0 : L[i]? = some (some (.int x))) (k : fp_wp G d M (pc + 2) L (.int x :: rest) h Q) : fp_wp G d M pc L (rest) h Q := fp_lift (fun p l e R s m args below meth c H locs cells slots Qz ls C K P hl kk => lv_iload C.1 C.2.1 hd (hl.2.2 _ _ hl0) (kk ls hl)) k
theorem wp_lload_n {k0 : Fin 4} {x : Int64} (hd : decode M.2.1 pc = .ok (.lload_n k0, 1)) (hl0 : L[(k0 : Nat)]? = some (some (.long x))) (k : fp_wp G d M (pc + 1) L (.long x :: rest) h Q) : fp_wp G d M pc L (rest) h Q := fp_lift (fun p l e R s m args below meth c H locs cells slots Qz ls C K P hl kk => lv_lload_n C.1 C.2.1 hd rfl (hl.2.2 _ _ hl0) (kk ls hl)) k
theorem wp_lload {i : Nat} {x : Int64} (hd : decode M.2.1 pc = .ok (.lload i, 2)) (hl0 : L[i]? = some (some (.long x))) (k : fp_wp G d M (pc + 2) L (.long x :: rest) h Q) : fp_wp G d M pc L (rest) h Q := fp_lift (fun p l e R s m args below meth c H locs cells slots Qz ls C K P hl kk => lv_lload C.1 C.2.1 hd (hl.2.2 _ _ hl0) (kk ls hl)) k
theorem wp_aload_n {k0 : Fin 4} {x : Nat} (hd : decode M.2.1 pc = .ok (.aload_n k0, 1)) (hl0 : L[(k0 : Nat)]? = some (some (.ref x))) (k : fp_wp G d M (pc + 1) L (.ref x :: rest) h Q) : fp_wp G d M pc L (rest) h Q := fp_lift (fun p l e R s m args below meth c H locs cells slots Qz ls C K P hl kk => lv_aload_n C.1 C.2.1 hd rfl (hl.2.2 _ _ hl0) (kk ls hl)) k
theorem wp_aload {i : Nat} {x : Nat} (hd : decode M.2.1 pc = .ok (.aload i, 2)) (hl0 : L[i]? = some (some (.ref x))) (k : fp_wp G d M (pc + 2) L (.ref x :: rest) h Q) : fp_wp G d M pc L (rest) h Q := fp_lift (fun p l e R s m args below meth c H locs cells slots Qz ls C K P hl kk => lv_aload C.1 C.2.1 hd (hl.2.2 _ _ hl0) (kk ls hl)) k
theorem wp_aload_nN {k0 : Fin 4} (hd : decode M.2.1 pc = .ok (.aload_n k0, 1)) (hl0 : L[(k0 : Nat)]? = some (some .null)) (k : fp_wp G d M (pc + 1) L (.null :: rest) h Q) : fp_wp G d M pc L (rest) h Q := fp_lift (fun p l e R s m args below meth c H locs cells slots Qz ls C K P hl kk => lv_aload_nN C.1 C.2.1 hd rfl (hl.2.2 _ _ hl0) (kk ls hl)) k
theorem wp_aloadN {i : Nat} (hd : decode M.2.1 pc = .ok (.aload i, 2)) (hl0 : L[i]? = some (some .null)) (k : fp_wp G d M (pc + 2) L (.null :: rest) h Q) : fp_wp G d M pc L (rest) h Q := fp_lift (fun p l e R s m args below meth c H locs cells slots Qz ls C K P hl kk => lv_aloadN C.1 C.2.1 hd (hl.2.2 _ _ hl0) (kk ls hl)) k
theorem wp_istore_n {k0 : Fin 4} {x : Int32} (hd : decode M.2.1 pc = .ok (.istore_n k0, 1)) (hi : (k0 : Nat) < L.length) (ho : fp_ok L (k0 : Nat) = true) (k : fp_wp G d M (pc + 1) (L.set (k0 : Nat) (some (.int x))) rest h Q) : fp_wp G d M pc L (.int x :: rest) h Q := fp_lift (fun p l e R s m args below meth c H locs cells slots Qz ls C K P hl kk => lv_istore_n C.1 C.2.1 hd rfl hl.has hi rfl (fun ls2 h2 => kk ls2 (fp_L.set1 ho h2))) k
theorem wp_istore {i : Nat} {x : Int32} (hd : decode M.2.1 pc = .ok (.istore i, 2)) (hi : i < L.length) (ho : fp_ok L i = true) (k : fp_wp G d M (pc + 2) (L.set i (some (.int x))) rest h Q) : fp_wp G d M pc L (.int x :: rest) h Q := fp_lift (fun p l e R s m args below meth c H locs cells slots Qz ls C K P hl kk => lv_istore C.1 C.2.1 hd hl.has hi rfl (fun ls2 h2 => kk ls2 (fp_L.set1 ho h2))) k
theorem wp_lstore_n {k0 : Fin 4} {x : Int64} (hd : decode M.2.1 pc = .ok (.lstore_n k0, 1)) (hi : (k0 : Nat) + 1 < L.length) (ho : fp_ok L (k0 : Nat) = true) (k : fp_wp G d M (pc + 1) ((L.set (k0 : Nat) (some (.long x))).set ((k0 : Nat) + 1) none) rest h Q) : fp_wp G d M pc L (.long x :: rest) h Q := fp_lift (fun p l e R s m args below meth c H locs cells slots Qz ls C K P hl kk => lv_lstore_n C.1 C.2.1 hd rfl hl.has hi rfl (fun ls2 h2 => kk ls2 (fp_L.set2 ho h2))) k
theorem wp_lstore {i : Nat} {x : Int64} (hd : decode M.2.1 pc = .ok (.lstore i, 2)) (hi : i + 1 < L.length) (ho : fp_ok L i = true) (k : fp_wp G d M (pc + 2) ((L.set i (some (.long x))).set (i + 1) none) rest h Q) : fp_wp G d M pc L (.long x :: rest) h Q := fp_lift (fun p l e R s m args below meth c H locs cells slots Qz ls C K P hl kk => lv_lstore C.1 C.2.1 hd hl.has hi rfl (fun ls2 h2 => kk ls2 (fp_L.set2 ho h2))) k
theorem wp_astore_n {k0 : Fin 4} {x : Nat} (hd : decode M.2.1 pc = .ok (.astore_n k0, 1)) (hi : (k0 : Nat) < L.length) (ho : fp_ok L (k0 : Nat) = true) (k : fp_wp G d M (pc + 1) (L.set (k0 : Nat) (some (.ref x))) rest h Q) : fp_wp G d M pc L (.ref x :: rest) h Q := fp_lift (fun p l e R s m args below meth c H locs cells slots Qz ls C K P hl kk => lv_astore_n C.1 C.2.1 hd rfl hl.has hi rfl (fun ls2 h2 => kk ls2 (fp_L.set1 ho h2))) k
theorem wp_astore {i : Nat} {x : Nat} (hd : decode M.2.1 pc = .ok (.astore i, 2)) (hi : i < L.length) (ho : fp_ok L i = true) (k : fp_wp G d M (pc + 2) (L.set i (some (.ref x))) rest h Q) : fp_wp G d M pc L (.ref x :: rest) h Q := fp_lift (fun p l e R s m args below meth c H locs cells slots Qz ls C K P hl kk => lv_astore C.1 C.2.1 hd hl.has hi rfl (fun ls2 h2 => kk ls2 (fp_L.set1 ho h2))) k
theorem wp_astore_nN {k0 : Fin 4} (hd : decode M.2.1 pc = .ok (.astore_n k0, 1)) (hi : (k0 : Nat) < L.length) (ho : fp_ok L (k0 : Nat) = true) (k : fp_wp G d M (pc + 1) (L.set (k0 : Nat) (some (.null))) rest h Q) : fp_wp G d M pc L (.null :: rest) h Q := fp_lift (fun p l e R s m args below meth c H locs cells slots Qz ls C K P hl kk => lv_astore_nN C.1 C.2.1 hd rfl hl.has hi rfl (fun ls2 h2 => kk ls2 (fp_L.set1 ho h2))) k
theorem wp_astoreN {i : Nat} (hd : decode M.2.1 pc = .ok (.astore i, 2)) (hi : i < L.length) (ho : fp_ok L i = true) (k : fp_wp G d M (pc + 2) (L.set i (some (.null))) rest h Q) : fp_wp G d M pc L (.null :: rest) h Q := fp_lift (fun p l e R s m args below meth c H locs cells slots Qz ls C K P hl kk => lv_astoreN C.1 C.2.1 hd hl.has hi rfl (fun ls2 h2 => kk ls2 (fp_L.set1 ho h2))) k
theorem fp_lv_place {L : List (Option Value)} {i : Nat} {v : Value} (h : L[i]? = some (some v)) : ∃ k : Nat, (fp_lv L)[k]? = some (i, v) := List.getElem?_of_mem (fp_lv_mem.mpr h)
theorem wp_iinc {i : Nat} {n : Int} {x : Int32} (hd : decode M.2.1 pc = .ok (.iinc i n, 3)) (hl0 : L[i]? = some (some (.int x))) (ho : fp_ok L i = true) (k : fp_wp G d M (pc + 3) (L.set i (some (.int (x + Int32.ofInt n)))) rest h Q) : fp_wp G d M pc L rest h Q := by
  obtain ⟨kp, hkp⟩ := fp_lv_place hl0
  exact fp_lift (fun p l e R s m args below meth c H locs cells slots Qz ls C K P hl kk => lv_iinc C.1 C.2.1 hd hl.has hkp rfl (List.getElem?_eq_some_iff.mp hl0).1 rfl (fun ls2 h2 => kk ls2 (fp_L.set1 ho h2))) k
theorem wp_iadd {x y : Int32} (hd : decode M.2.1 pc = .ok (.iadd, 1)) (k : fp_wp G d M (pc + 1) L (.int (x + y) :: rest) h Q) : fp_wp G d M pc L (.int y :: .int x :: rest) h Q := fp_lift (fun p l e R s m args below meth c H locs cells slots Qz ls C K P hl kk => lv_iadd C.1 C.2.1 hd (kk ls hl)) k
theorem wp_isub {x y : Int32} (hd : decode M.2.1 pc = .ok (.isub, 1)) (k : fp_wp G d M (pc + 1) L (.int (x - y) :: rest) h Q) : fp_wp G d M pc L (.int y :: .int x :: rest) h Q := fp_lift (fun p l e R s m args below meth c H locs cells slots Qz ls C K P hl kk => lv_isub C.1 C.2.1 hd (kk ls hl)) k
theorem wp_imul {x y : Int32} (hd : decode M.2.1 pc = .ok (.imul, 1)) (k : fp_wp G d M (pc + 1) L (.int (x * y) :: rest) h Q) : fp_wp G d M pc L (.int y :: .int x :: rest) h Q := fp_lift (fun p l e R s m args below meth c H locs cells slots Qz ls C K P hl kk => lv_imul C.1 C.2.1 hd (kk ls hl)) k
theorem wp_iand {x y : Int32} (hd : decode M.2.1 pc = .ok (.iand, 1)) (k : fp_wp G d M (pc + 1) L (.int (x &&& y) :: rest) h Q) : fp_wp G d M pc L (.int y :: .int x :: rest) h Q := fp_lift (fun p l e R s m args below meth c H locs cells slots Qz ls C K P hl kk => lv_iand C.1 C.2.1 hd (kk ls hl)) k
theorem wp_ior {x y : Int32} (hd : decode M.2.1 pc = .ok (.ior, 1)) (k : fp_wp G d M (pc + 1) L (.int (x ||| y) :: rest) h Q) : fp_wp G d M pc L (.int y :: .int x :: rest) h Q := fp_lift (fun p l e R s m args below meth c H locs cells slots Qz ls C K P hl kk => lv_ior C.1 C.2.1 hd (kk ls hl)) k
theorem wp_ixor {x y : Int32} (hd : decode M.2.1 pc = .ok (.ixor, 1)) (k : fp_wp G d M (pc + 1) L (.int (x ^^^ y) :: rest) h Q) : fp_wp G d M pc L (.int y :: .int x :: rest) h Q := fp_lift (fun p l e R s m args below meth c H locs cells slots Qz ls C K P hl kk => lv_ixor C.1 C.2.1 hd (kk ls hl)) k
theorem wp_ishl {x y : Int32} (hd : decode M.2.1 pc = .ok (.ishl, 1)) (k : fp_wp G d M (pc + 1) L (.int (x <<< (y &&& 31)) :: rest) h Q) : fp_wp G d M pc L (.int y :: .int x :: rest) h Q := fp_lift (fun p l e R s m args below meth c H locs cells slots Qz ls C K P hl kk => lv_ishl C.1 C.2.1 hd (kk ls hl)) k
theorem wp_ishr {x y : Int32} (hd : decode M.2.1 pc = .ok (.ishr, 1)) (k : fp_wp G d M (pc + 1) L (.int (x >>> (y &&& 31)) :: rest) h Q) : fp_wp G d M pc L (.int y :: .int x :: rest) h Q := fp_lift (fun p l e R s m args below meth c H locs cells slots Qz ls C K P hl kk => lv_ishr C.1 C.2.1 hd (kk ls hl)) k
theorem wp_iushr {x y : Int32} (hd : decode M.2.1 pc = .ok (.iushr, 1)) (k : fp_wp G d M (pc + 1) L (.int ((x.toUInt32 >>> (y.toUInt32 &&& Int32.toUInt32 31)).toInt32) :: rest) h Q) : fp_wp G d M pc L (.int y :: .int x :: rest) h Q := fp_lift (fun p l e R s m args below meth c H locs cells slots Qz ls C K P hl kk => lv_iushr C.1 C.2.1 hd rfl (kk ls hl)) k
theorem wp_idiv {x y : Int32} (hd : decode M.2.1 pc = .ok (.idiv, 1)) (hne : ¬ y = 0) (k : fp_wp G d M (pc + 1) L (.int (x / y) :: rest) h Q) : fp_wp G d M pc L (.int y :: .int x :: rest) h Q := fp_lift (fun p l e R s m args below meth c H locs cells slots Qz ls C K P hl kk => lv_idiv C.1 C.2.1 hd hne (kk ls hl)) k
theorem wp_irem {x y : Int32} (hd : decode M.2.1 pc = .ok (.irem, 1)) (hne : ¬ y = 0) (k : fp_wp G d M (pc + 1) L (.int (x - x / y * y) :: rest) h Q) : fp_wp G d M pc L (.int y :: .int x :: rest) h Q := fp_lift (fun p l e R s m args below meth c H locs cells slots Qz ls C K P hl kk => lv_irem C.1 C.2.1 hd hne (kk ls hl)) k
theorem wp_ineg {x : Int32} (hd : decode M.2.1 pc = .ok (.ineg, 1)) (k : fp_wp G d M (pc + 1) L (.int (-x) :: rest) h Q) : fp_wp G d M pc L (.int x :: rest) h Q := fp_lift (fun p l e R s m args below meth c H locs cells slots Qz ls C K P hl kk => lv_ineg C.1 C.2.1 hd (kk ls hl)) k
theorem wp_ladd {x y : Int64} (hd : decode M.2.1 pc = .ok (.ladd, 1)) (k : fp_wp G d M (pc + 1) L (.long (x + y) :: rest) h Q) : fp_wp G d M pc L (.long y :: .long x :: rest) h Q := fp_lift (fun p l e R s m args below meth c H locs cells slots Qz ls C K P hl kk => lv_ladd C.1 C.2.1 hd (kk ls hl)) k
theorem wp_lsub {x y : Int64} (hd : decode M.2.1 pc = .ok (.lsub, 1)) (k : fp_wp G d M (pc + 1) L (.long (x - y) :: rest) h Q) : fp_wp G d M pc L (.long y :: .long x :: rest) h Q := fp_lift (fun p l e R s m args below meth c H locs cells slots Qz ls C K P hl kk => lv_lsub C.1 C.2.1 hd (kk ls hl)) k
theorem wp_lmul {x y : Int64} (hd : decode M.2.1 pc = .ok (.lmul, 1)) (k : fp_wp G d M (pc + 1) L (.long (x * y) :: rest) h Q) : fp_wp G d M pc L (.long y :: .long x :: rest) h Q := fp_lift (fun p l e R s m args below meth c H locs cells slots Qz ls C K P hl kk => lv_lmul C.1 C.2.1 hd (kk ls hl)) k
theorem wp_land {x y : Int64} (hd : decode M.2.1 pc = .ok (.land, 1)) (k : fp_wp G d M (pc + 1) L (.long (x &&& y) :: rest) h Q) : fp_wp G d M pc L (.long y :: .long x :: rest) h Q := fp_lift (fun p l e R s m args below meth c H locs cells slots Qz ls C K P hl kk => lv_land C.1 C.2.1 hd (kk ls hl)) k
theorem wp_lor {x y : Int64} (hd : decode M.2.1 pc = .ok (.lor, 1)) (k : fp_wp G d M (pc + 1) L (.long (x ||| y) :: rest) h Q) : fp_wp G d M pc L (.long y :: .long x :: rest) h Q := fp_lift (fun p l e R s m args below meth c H locs cells slots Qz ls C K P hl kk => lv_lor C.1 C.2.1 hd (kk ls hl)) k
theorem wp_lxor {x y : Int64} (hd : decode M.2.1 pc = .ok (.lxor, 1)) (k : fp_wp G d M (pc + 1) L (.long (x ^^^ y) :: rest) h Q) : fp_wp G d M pc L (.long y :: .long x :: rest) h Q := fp_lift (fun p l e R s m args below meth c H locs cells slots Qz ls C K P hl kk => lv_lxor C.1 C.2.1 hd (kk ls hl)) k
theorem wp_lushr {x : Int64} {y : Int32} (hd : decode M.2.1 pc = .ok (.lushr, 1)) (k : fp_wp G d M (pc + 1) L (.long ((x.toUInt64 >>> (y.toInt64.toUInt64 &&& Int64.toUInt64 63)).toInt64) :: rest) h Q) : fp_wp G d M pc L (.int y :: .long x :: rest) h Q := fp_lift (fun p l e R s m args below meth c H locs cells slots Qz ls C K P hl kk => lv_lushr C.1 C.2.1 hd rfl (kk ls hl)) k
theorem wp_lshl {x : Int64} {y : Int32} (hd : decode M.2.1 pc = .ok (.lshl, 1)) (k : fp_wp G d M (pc + 1) L (.long (x <<< (y.toInt64 &&& 63)) :: rest) h Q) : fp_wp G d M pc L (.int y :: .long x :: rest) h Q := fp_lift (fun p l e R s m args below meth c H locs cells slots Qz ls C K P hl kk => lv_lshl C.1 C.2.1 hd rfl (kk ls hl)) k
theorem wp_lshr {x : Int64} {y : Int32} (hd : decode M.2.1 pc = .ok (.lshr, 1)) (k : fp_wp G d M (pc + 1) L (.long (x >>> (y.toInt64 &&& 63)) :: rest) h Q) : fp_wp G d M pc L (.int y :: .long x :: rest) h Q := fp_lift (fun p l e R s m args below meth c H locs cells slots Qz ls C K P hl kk => lv_lshr C.1 C.2.1 hd rfl (kk ls hl)) k
theorem wp_lcmp {x y : Int64} (hd : decode M.2.1 pc = .ok (.lcmp, 1)) (k : fp_wp G d M (pc + 1) L (.int (lg_cmp x y) :: rest) h Q) : fp_wp G d M pc L (.long y :: .long x :: rest) h Q := fp_lift (fun p l e R s m args below meth c H locs cells slots Qz ls C K P hl kk => W.lcmp C.1 C.2.1 hd (kk ls hl)) k
theorem wp_i2l {x : Int32} (hd : decode M.2.1 pc = .ok (.i2l, 1)) (k : fp_wp G d M (pc + 1) L (.long x.toInt64 :: rest) h Q) : fp_wp G d M pc L (.int x :: rest) h Q := fp_lift (fun p l e R s m args below meth c H locs cells slots Qz ls C K P hl kk => lv_i2l C.1 C.2.1 hd rfl (kk ls hl)) k
theorem wp_l2i {x : Int64} (hd : decode M.2.1 pc = .ok (.l2i, 1)) (k : fp_wp G d M (pc + 1) L (.int x.toInt32 :: rest) h Q) : fp_wp G d M pc L (.long x :: rest) h Q := fp_lift (fun p l e R s m args below meth c H locs cells slots Qz ls C K P hl kk => lv_l2i C.1 C.2.1 hd rfl (kk ls hl)) k
theorem wp_i2b {x : Int32} (hd : decode M.2.1 pc = .ok (.i2b, 1)) (k : fp_wp G d M (pc + 1) L (.int x.toInt8.toInt32 :: rest) h Q) : fp_wp G d M pc L (.int x :: rest) h Q := fp_lift (fun p l e R s m args below meth c H locs cells slots Qz ls C K P hl kk => lv_i2b C.1 C.2.1 hd rfl (kk ls hl)) k
theorem wp_dup {va : Value} (hd : decode M.2.1 pc = .ok (.dup, 1)) (hva : va.category = 1) (k : fp_wp G d M (pc + 1) L (va :: va :: rest) h Q) : fp_wp G d M pc L (va :: rest) h Q := fp_lift (fun p l e R s m args below meth c H locs cells slots Qz ls C K P hl kk => lv_dup C.1 C.2.1 hd hva (kk ls hl)) k
theorem wp_pop {va : Value} (hd : decode M.2.1 pc = .ok (.pop, 1)) (hva : va.category = 1) (k : fp_wp G d M (pc + 1) L (rest) h Q) : fp_wp G d M pc L (va :: rest) h Q := fp_lift (fun p l e R s m args below meth c H locs cells slots Qz ls C K P hl kk => lv_pop C.1 C.2.1 hd hva (kk ls hl)) k
theorem wp_dup_x1 {va vb : Value} (hd : decode M.2.1 pc = .ok (.dup_x1, 1)) (hva : va.category = 1) (hvb : vb.category = 1) (k : fp_wp G d M (pc + 1) L (va :: vb :: va :: rest) h Q) : fp_wp G d M pc L (va :: vb :: rest) h Q := fp_lift (fun p l e R s m args below meth c H locs cells slots Qz ls C K P hl kk => lv_dup_x1 C.1 C.2.1 hd hva hvb (kk ls hl)) k
theorem wp_dup_x2 {va vb vd : Value} (hd : decode M.2.1 pc = .ok (.dup_x2, 1)) (hva : va.category = 1) (hvb : vb.category = 1) (hvd : vd.category = 1) (k : fp_wp G d M (pc + 1) L (va :: vb :: vd :: va :: rest) h Q) : fp_wp G d M pc L (va :: vb :: vd :: rest) h Q := fp_lift (fun p l e R s m args below meth c H locs cells slots Qz ls C K P hl kk => lv_dup_x2 C.1 C.2.1 hd hva hvb hvd (kk ls hl)) k
theorem wp_dup2_11 {va vb : Value} (hd : decode M.2.1 pc = .ok (.dup2, 1)) (hva : va.category = 1) (hvb : vb.category = 1) (k : fp_wp G d M (pc + 1) L (va :: vb :: va :: vb :: rest) h Q) : fp_wp G d M pc L (va :: vb :: rest) h Q := fp_lift (fun p l e R s m args below meth c H locs cells slots Qz ls C K P hl kk => lv_dup2_11 C.1 C.2.1 hd hva hvb (kk ls hl)) k
theorem wp_dup2_2 {va : Value} (hd : decode M.2.1 pc = .ok (.dup2, 1)) (hva : va.category = 2) (k : fp_wp G d M (pc + 1) L (va :: va :: rest) h Q) : fp_wp G d M pc L (va :: rest) h Q := fp_lift (fun p l e R s m args below meth c H locs cells slots Qz ls C K P hl kk => lv_dup2_2 C.1 C.2.1 hd hva (kk ls hl)) k
theorem wp_pop2_2 {va : Value} (hd : decode M.2.1 pc = .ok (.pop2, 1)) (hva : va.category = 2) (k : fp_wp G d M (pc + 1) L (rest) h Q) : fp_wp G d M pc L (va :: rest) h Q := fp_lift (fun p l e R s m args below meth c H locs cells slots Qz ls C K P hl kk => lv_pop2_2 C.1 C.2.1 hd hva (kk ls hl)) k
theorem wp_if_eq {x : Int32} {off : Int} {tgt : Nat} (hd : decode M.2.1 pc = .ok (.ifCond .eq off, 3)) (ht : (pc : Int) + off = (tgt : Int)) (kt : (x = 0) → fp_wp G d M tgt L rest h Q) (kf : ¬ (x = 0) → fp_wp G d M (pc + 3) L rest h Q) : fp_wp G d M pc L (.int x :: rest) h Q := by
  by_cases hc : (x = 0)
  · exact fp_lift (fun p l e R s m args below meth c H locs cells slots Qz ls C K P hl kk => lv_if_eq C.1 C.2.1 hd ht (fun _ => kk ls hl) (fun n => absurd hc n)) (kt hc)
  · exact fp_lift (fun p l e R s m args below meth c H locs cells slots Qz ls C K P hl kk => lv_if_eq C.1 C.2.1 hd ht (fun y => absurd y hc) (fun _ => kk ls hl)) (kf hc)
theorem wp_if_lt {x : Int32} {off : Int} {tgt : Nat} (hd : decode M.2.1 pc = .ok (.ifCond .lt off, 3)) (ht : (pc : Int) + off = (tgt : Int)) (kt : (x < 0) → fp_wp G d M tgt L rest h Q) (kf : ¬ (x < 0) → fp_wp G d M (pc + 3) L rest h Q) : fp_wp G d M pc L (.int x :: rest) h Q := by
  by_cases hc : (x < 0)
  · exact fp_lift (fun p l e R s m args below meth c H locs cells slots Qz ls C K P hl kk => lv_if_lt C.1 C.2.1 hd ht (fun _ => kk ls hl) (fun n => absurd hc n)) (kt hc)
  · exact fp_lift (fun p l e R s m args below meth c H locs cells slots Qz ls C K P hl kk => lv_if_lt C.1 C.2.1 hd ht (fun y => absurd y hc) (fun _ => kk ls hl)) (kf hc)
theorem wp_if_ge {x : Int32} {off : Int} {tgt : Nat} (hd : decode M.2.1 pc = .ok (.ifCond .ge off, 3)) (ht : (pc : Int) + off = (tgt : Int)) (kt : (0 ≤ x) → fp_wp G d M tgt L rest h Q) (kf : ¬ (0 ≤ x) → fp_wp G d M (pc + 3) L rest h Q) : fp_wp G d M pc L (.int x :: rest) h Q := by
  by_cases hc : (0 ≤ x)
  · exact fp_lift (fun p l e R s m args below meth c H locs cells slots Qz ls C K P hl kk => lv_if_ge C.1 C.2.1 hd ht (fun _ => kk ls hl) (fun n => absurd hc n)) (kt hc)
  · exact fp_lift (fun p l e R s m args below meth c H locs cells slots Qz ls C K P hl kk => lv_if_ge C.1 C.2.1 hd ht (fun y => absurd y hc) (fun _ => kk ls hl)) (kf hc)
theorem wp_if_gt {x : Int32} {off : Int} {tgt : Nat} (hd : decode M.2.1 pc = .ok (.ifCond .gt off, 3)) (ht : (pc : Int) + off = (tgt : Int)) (kt : (0 < x) → fp_wp G d M tgt L rest h Q) (kf : ¬ (0 < x) → fp_wp G d M (pc + 3) L rest h Q) : fp_wp G d M pc L (.int x :: rest) h Q := by
  by_cases hc : (0 < x)
  · exact fp_lift (fun p l e R s m args below meth c H locs cells slots Qz ls C K P hl kk => lv_if_gt C.1 C.2.1 hd ht (fun _ => kk ls hl) (fun n => absurd hc n)) (kt hc)
  · exact fp_lift (fun p l e R s m args below meth c H locs cells slots Qz ls C K P hl kk => lv_if_gt C.1 C.2.1 hd ht (fun y => absurd y hc) (fun _ => kk ls hl)) (kf hc)
theorem wp_if_le {x : Int32} {off : Int} {tgt : Nat} (hd : decode M.2.1 pc = .ok (.ifCond .le off, 3)) (ht : (pc : Int) + off = (tgt : Int)) (kt : (x ≤ 0) → fp_wp G d M tgt L rest h Q) (kf : ¬ (x ≤ 0) → fp_wp G d M (pc + 3) L rest h Q) : fp_wp G d M pc L (.int x :: rest) h Q := by
  by_cases hc : (x ≤ 0)
  · exact fp_lift (fun p l e R s m args below meth c H locs cells slots Qz ls C K P hl kk => lv_if_le C.1 C.2.1 hd ht (fun _ => kk ls hl) (fun n => absurd hc n)) (kt hc)
  · exact fp_lift (fun p l e R s m args below meth c H locs cells slots Qz ls C K P hl kk => lv_if_le C.1 C.2.1 hd ht (fun y => absurd y hc) (fun _ => kk ls hl)) (kf hc)
theorem wp_icmp_eq {x y : Int32} {off : Int} {tgt : Nat} (hd : decode M.2.1 pc = .ok (.if_icmp .eq off, 3)) (ht : (pc : Int) + off = (tgt : Int)) (kt : (x = y) → fp_wp G d M tgt L rest h Q) (kf : ¬ (x = y) → fp_wp G d M (pc + 3) L rest h Q) : fp_wp G d M pc L (.int y :: .int x :: rest) h Q := by
  by_cases hc : (x = y)
  · exact fp_lift (fun p l e R s m args below meth c H locs cells slots Qz ls C K P hl kk => lv_icmp_eq C.1 C.2.1 hd ht (fun _ => kk ls hl) (fun n => absurd hc n)) (kt hc)
  · exact fp_lift (fun p l e R s m args below meth c H locs cells slots Qz ls C K P hl kk => lv_icmp_eq C.1 C.2.1 hd ht (fun y => absurd y hc) (fun _ => kk ls hl)) (kf hc)
theorem wp_icmp_lt {x y : Int32} {off : Int} {tgt : Nat} (hd : decode M.2.1 pc = .ok (.if_icmp .lt off, 3)) (ht : (pc : Int) + off = (tgt : Int)) (kt : (x < y) → fp_wp G d M tgt L rest h Q) (kf : ¬ (x < y) → fp_wp G d M (pc + 3) L rest h Q) : fp_wp G d M pc L (.int y :: .int x :: rest) h Q := by
  by_cases hc : (x < y)
  · exact fp_lift (fun p l e R s m args below meth c H locs cells slots Qz ls C K P hl kk => lv_icmp_lt C.1 C.2.1 hd ht (fun _ => kk ls hl) (fun n => absurd hc n)) (kt hc)
  · exact fp_lift (fun p l e R s m args below meth c H locs cells slots Qz ls C K P hl kk => lv_icmp_lt C.1 C.2.1 hd ht (fun y => absurd y hc) (fun _ => kk ls hl)) (kf hc)
theorem wp_icmp_ge {x y : Int32} {off : Int} {tgt : Nat} (hd : decode M.2.1 pc = .ok (.if_icmp .ge off, 3)) (ht : (pc : Int) + off = (tgt : Int)) (kt : (y ≤ x) → fp_wp G d M tgt L rest h Q) (kf : ¬ (y ≤ x) → fp_wp G d M (pc + 3) L rest h Q) : fp_wp G d M pc L (.int y :: .int x :: rest) h Q := by
  by_cases hc : (y ≤ x)
  · exact fp_lift (fun p l e R s m args below meth c H locs cells slots Qz ls C K P hl kk => lv_icmp_ge C.1 C.2.1 hd ht (fun _ => kk ls hl) (fun n => absurd hc n)) (kt hc)
  · exact fp_lift (fun p l e R s m args below meth c H locs cells slots Qz ls C K P hl kk => lv_icmp_ge C.1 C.2.1 hd ht (fun y => absurd y hc) (fun _ => kk ls hl)) (kf hc)
theorem wp_icmp_gt {x y : Int32} {off : Int} {tgt : Nat} (hd : decode M.2.1 pc = .ok (.if_icmp .gt off, 3)) (ht : (pc : Int) + off = (tgt : Int)) (kt : (y < x) → fp_wp G d M tgt L rest h Q) (kf : ¬ (y < x) → fp_wp G d M (pc + 3) L rest h Q) : fp_wp G d M pc L (.int y :: .int x :: rest) h Q := by
  by_cases hc : (y < x)
  · exact fp_lift (fun p l e R s m args below meth c H locs cells slots Qz ls C K P hl kk => lv_icmp_gt C.1 C.2.1 hd ht (fun _ => kk ls hl) (fun n => absurd hc n)) (kt hc)
  · exact fp_lift (fun p l e R s m args below meth c H locs cells slots Qz ls C K P hl kk => lv_icmp_gt C.1 C.2.1 hd ht (fun y => absurd y hc) (fun _ => kk ls hl)) (kf hc)
theorem wp_icmp_le {x y : Int32} {off : Int} {tgt : Nat} (hd : decode M.2.1 pc = .ok (.if_icmp .le off, 3)) (ht : (pc : Int) + off = (tgt : Int)) (kt : (x ≤ y) → fp_wp G d M tgt L rest h Q) (kf : ¬ (x ≤ y) → fp_wp G d M (pc + 3) L rest h Q) : fp_wp G d M pc L (.int y :: .int x :: rest) h Q := by
  by_cases hc : (x ≤ y)
  · exact fp_lift (fun p l e R s m args below meth c H locs cells slots Qz ls C K P hl kk => lv_icmp_le C.1 C.2.1 hd ht (fun _ => kk ls hl) (fun n => absurd hc n)) (kt hc)
  · exact fp_lift (fun p l e R s m args below meth c H locs cells slots Qz ls C K P hl kk => lv_icmp_le C.1 C.2.1 hd ht (fun y => absurd y hc) (fun _ => kk ls hl)) (kf hc)
theorem wp_if_ne {x : Int32} {off : Int} {tgt : Nat} (hd : decode M.2.1 pc = .ok (.ifCond .ne off, 3)) (ht : (pc : Int) + off = (tgt : Int)) (kt : ¬ x = 0 → fp_wp G d M tgt L rest h Q) (kf : x = 0 → fp_wp G d M (pc + 3) L rest h Q) : fp_wp G d M pc L (.int x :: rest) h Q := by
  by_cases hc : x = 0
  · exact fp_lift (fun p l e R s m args below meth c H locs cells slots Qz ls C K P hl kk => lv_if_ne C.1 C.2.1 hd ht (fun n => absurd hc n) (fun _ => kk ls hl)) (kf hc)
  · exact fp_lift (fun p l e R s m args below meth c H locs cells slots Qz ls C K P hl kk => lv_if_ne C.1 C.2.1 hd ht (fun _ => kk ls hl) (fun y => absurd y hc)) (kt hc)
theorem wp_icmp_ne {x y : Int32} {off : Int} {tgt : Nat} (hd : decode M.2.1 pc = .ok (.if_icmp .ne off, 3)) (ht : (pc : Int) + off = (tgt : Int)) (kt : ¬ x = y → fp_wp G d M tgt L rest h Q) (kf : x = y → fp_wp G d M (pc + 3) L rest h Q) : fp_wp G d M pc L (.int y :: .int x :: rest) h Q := by
  by_cases hc : x = y
  · exact fp_lift (fun p l e R s m args below meth c H locs cells slots Qz ls C K P hl kk => lv_icmp_ne C.1 C.2.1 hd ht (fun n => absurd hc n) (fun _ => kk ls hl)) (kf hc)
  · exact fp_lift (fun p l e R s m args below meth c H locs cells slots Qz ls C K P hl kk => lv_icmp_ne C.1 C.2.1 hd ht (fun _ => kk ls hl) (fun y => absurd y hc)) (kt hc)
theorem wp_acmp_eq {rx ry : Option Nat} {off : Int} {tgt : Nat} (hd : decode M.2.1 pc = .ok (.if_acmp .eq off, 3)) (ht : (pc : Int) + off = (tgt : Int)) (kt : rx = ry → fp_wp G d M tgt L rest h Q) (kf : ¬ rx = ry → fp_wp G d M (pc + 3) L rest h Q) : fp_wp G d M pc L (va_rf ry :: va_rf rx :: rest) h Q := by
  by_cases hc : rx = ry
  · exact fp_lift (fun p l e R s m args below meth c H locs cells slots Qz ls C K P hl kk => lv_acmp_eq C.1 C.2.1 hd ht (fun _ => kk ls hl) (fun n => absurd hc n)) (kt hc)
  · exact fp_lift (fun p l e R s m args below meth c H locs cells slots Qz ls C K P hl kk => lv_acmp_eq C.1 C.2.1 hd ht (fun y => absurd y hc) (fun _ => kk ls hl)) (kf hc)
theorem wp_acmp_ne {rx ry : Option Nat} {off : Int} {tgt : Nat} (hd : decode M.2.1 pc = .ok (.if_acmp .ne off, 3)) (ht : (pc : Int) + off = (tgt : Int)) (kt : ¬ rx = ry → fp_wp G d M tgt L rest h Q) (kf : rx = ry → fp_wp G d M (pc + 3) L rest h Q) : fp_wp G d M pc L (va_rf ry :: va_rf rx :: rest) h Q := by
  by_cases hc : rx = ry
  · exact fp_lift (fun p l e R s m args below meth c H locs cells slots Qz ls C K P hl kk => lv_acmp_ne C.1 C.2.1 hd ht (fun n => absurd hc n) (fun _ => kk ls hl)) (kf hc)
  · exact fp_lift (fun p l e R s m args below meth c H locs cells slots Qz ls C K P hl kk => lv_acmp_ne C.1 C.2.1 hd ht (fun _ => kk ls hl) (fun y => absurd y hc)) (kt hc)
theorem wp_goto {off : Int} {tgt : Nat} (hd : decode M.2.1 pc = .ok (.goto off, 3)) (ht : (pc : Int) + off = (tgt : Int)) (k : fp_wp G d M tgt L rest h Q) : fp_wp G d M pc L rest h Q := fp_lift (fun p l e R s m args below meth c H locs cells slots Qz ls C K P hl kk => lv_goto C.1 C.2.1 hd ht (kk ls hl)) k
theorem wp_ifnonnull {x : Nat} {off : Int} {tgt : Nat} (hd : decode M.2.1 pc = .ok (.ifnonnull off, 3)) (ht : (pc : Int) + off = (tgt : Int)) (k : fp_wp G d M tgt L rest h Q) : fp_wp G d M pc L (.ref x :: rest) h Q := fp_lift (fun p l e R s m args below meth c H locs cells slots Qz ls C K P hl kk => lv_ifnonnull C.1 C.2.1 hd ht (kk ls hl)) k
theorem wp_ifnull {x : Nat} {off : Int} (hd : decode M.2.1 pc = .ok (.ifnull off, 3)) (k : fp_wp G d M (pc + 3) L rest h Q) : fp_wp G d M pc L (.ref x :: rest) h Q := fp_lift (fun p l e R s m args below meth c H locs cells slots Qz ls C K P hl kk => lv_ifnull C.1 C.2.1 hd (kk ls hl)) k
theorem wp_ifnullN {off : Int} {tgt : Nat} (hd : decode M.2.1 pc = .ok (.ifnull off, 3)) (ht : (pc : Int) + off = (tgt : Int)) (k : fp_wp G d M tgt L rest h Q) : fp_wp G d M pc L (.null :: rest) h Q := fp_lift (fun p l e R s m args below meth c H locs cells slots Qz ls C K P hl kk => lv_ifnullN C.1 C.2.1 hd ht (kk ls hl)) k
theorem wp_ifnonnullN {off : Int} (hd : decode M.2.1 pc = .ok (.ifnonnull off, 3)) (k : fp_wp G d M (pc + 3) L rest h Q) : fp_wp G d M pc L (.null :: rest) h Q := fp_lift (fun p l e R s m args below meth c H locs cells slots Qz ls C K P hl kk => lv_ifnonnullN C.1 C.2.1 hd (kk ls hl)) k
theorem wp_lookup {dflt : Int} {ps : Array (Int × Int)} {len : Nat} {x : Int32} {off : Int} {tgt : Nat} (hd : decode M.2.1 pc = .ok (.lookupswitch dflt ps, len)) (hp : (ps.toList.zip (ps.toList.drop 1)).all (fun (a, next) => a.1 < next.1) = true) (ho : Op.lookupswitch.offset ps.toList dflt x.toInt = off) (ht : (pc : Int) + off = (tgt : Int)) (k : fp_wp G d M tgt L rest h Q) : fp_wp G d M pc L (.int x :: rest) h Q := fp_lift (fun p l e R s m args below meth c H locs cells slots Qz ls C K P hl kk => lv_lookup C.1 C.2.1 hd hp ho ht (kk ls hl)) k
theorem wp_tableOut {dflt lo hi : Int} {offs : Array Int} {len : Nat} {x : Int32} {tgt : Nat} (hd : decode M.2.1 pc = .ok (.tableswitch dflt lo hi offs, len)) (hx : x.toInt < lo ∨ hi < x.toInt) (ht : (pc : Int) + dflt = (tgt : Int)) (k : fp_wp G d M tgt L rest h Q) : fp_wp G d M pc L (.int x :: rest) h Q := fp_lift (fun p l e R s m args below meth c H locs cells slots Qz ls C K P hl kk => lv_tableOut C.1 C.2.1 hd hx ht (kk ls hl)) k
theorem wp_tableIn {dflt lo hi : Int} {offs : Array Int} {len : Nat} {x : Int32} {off : Int} {tgt : Nat} (hd : decode M.2.1 pc = .ok (.tableswitch dflt lo hi offs, len)) (h1 : ¬ x.toInt < lo) (h2 : ¬ hi < x.toInt) (ho : offs[(x.toInt - lo).toNat]? = some off) (ht : (pc : Int) + off = (tgt : Int)) (k : fp_wp G d M tgt L rest h Q) : fp_wp G d M pc L (.int x :: rest) h Q := fp_lift (fun p l e R s m args below meth c H locs cells slots Qz ls C K P hl kk => lv_tableIn C.1 C.2.1 hd h1 h2 ho ht (kk ls hl)) k
/-! reads and writes -/
def fp_cl (ci : Nat) (C : String) (T : u_T) (N : Nat) (ty : Nat → FieldType) : Prop := vwCl[ci]? = some (C, T, N) ∧ (∀ w ∈ u_ws C T N, w ∈ fp_tw) ∧ (∀ k, k < N → parseFieldDescriptor (T k).2.2.1 = some (ty k)) ∧ ∀ a, a < N → ∀ b, b < N → a ≠ b → (T a).2.1 ≠ (T b).2.1
/-- the field at pool index i of M's class is field k of class ci -/
def fp_fl (own : String) (i ci k : Nat) : Prop := ∃ C T N ty ref, fp_cl ci C T N ty ∧ k < N ∧ Cond.fieldLink own i ref (T k).2.1 (T k).2.2.1 ∈ fp_tw ∧ (ref = (T k).1 ∨ Cond.sameField ref (T k).1 (T k).2.1 (T k).2.2.1 ∈ fp_tw)
theorem fp_same {ts : List Cond} {args : Array Value} {s : State} {ref own name desc : String} (hts : ∀ w ∈ ts, w.before args s = true) (h : ref = own ∨ Cond.sameField ref own name desc ∈ ts) : ∀ x, s.fieldFound? own name desc = some x → s.fieldFound? ref name desc = some x := by
  rcases h with rfl | h
  · exact fun _ hx => hx
  · exact fun x hx => u_same (hts _ h) x hx
/-- .. and may be written there, its type being ty -/
def fp_fs (own nm : String) (i ci k : Nat) (t : FieldType) : Prop := ∃ C T N ty ref, fp_cl ci C T N ty ∧ k < N ∧ Cond.fieldLink own i ref (T k).2.1 (T k).2.2.1 ∈ fp_tw ∧ (ref = (T k).1 ∨ Cond.sameField ref (T k).1 (T k).2.1 (T k).2.2.1 ∈ fp_tw) ∧ ty k = t ∧ ((T k).2.2.2 = false ∨ ((T k).2.2.2 = true ∧ nm = "<init>" ∧ (T k).1 = own))
theorem fp_rep.put {H H1 : Heap} {a t t' : Nat} {e0 e : fp_E} (P : fp_rep G h H) (ha : h.1 a = some (t, e0)) (he : va_at G.2.1 vwCl (a, fp_cv G e) H1) (hz : H1.size = H.size) (oq : ∀ q : Nat, q ≠ a → H1[q]? = H[q]?) : fp_rep G (fp_put h a t' e) H1 := by
  obtain ⟨p1, p2, p3, p4⟩ := P
  have hb := (p4 a t e0 ha).1
  refine ⟨hz.trans p1, p2, fun q hq => (oq q (by omega)).trans (p3 q hq), fun q t2 e2 hq => ?_⟩
  by_cases hqa : q = a
  · subst hqa
    simp [fp_put] at hq
    obtain ⟨-, rfl⟩ := hq
    exact ⟨hb, he⟩
  · simp [fp_put, hqa] at hq
    obtain ⟨r1, r2⟩ := p4 q t2 e2 hq
    exact ⟨r1, r2.kept (oq q hqa)⟩
theorem fp_rep.new {H H1 : Heap} {t k : Nat} {e : fp_E} (P : fp_rep G h H) (he : va_at G.2.1 vwCl (H.size, fp_cv G e) H1) (hz : H1.size = H.size + 1) (oq : ∀ q : Nat, q < H.size → H1[q]? = H[q]?) : fp_rep G (fp_new h t e k) H1 := by
  obtain ⟨p1, p2, p3, p4⟩ := P
  refine ⟨by rw [hz, p1]; rfl, Nat.le_trans p2 (Nat.le_succ _), fun q hq => (oq q (by omega)).trans (p3 q hq), fun q t2 e2 hq => ?_⟩
  by_cases hqa : q = h.2.1
  · subst hqa
    simp [fp_new] at hq
    obtain ⟨-, rfl⟩ := hq
    exact ⟨p2, by rw [← p1]; exact he⟩
  · simp [fp_new, hqa] at hq
    obtain ⟨r1, r2⟩ := p4 q t2 e2 hq
    exact ⟨r1, r2.kept (oq q r2.lt)⟩
/-- the tags are nobody's business but ours -/
theorem wp_tag {st : List Value} {a t : Nat} {e : fp_E} (t' : Nat) (ha : h.1 a = some (t, e)) (k : fp_wp G d M pc L st (fp_put h a t' e) Q) : fp_wp G d M pc L st h Q := by
  obtain ⟨r, h', ⟨m1, m2, w⟩, q⟩ := k
  refine ⟨r, h', ⟨m1, m2, fun p l e s m args below meth c H locs cells slots mc ms ls C K P F hl e1 e2 => w p l e s m args below meth c H locs cells slots mc ms ls C K ?_ F hl e1 e2⟩, q⟩
  exact P.put ha (P.2.2.2 a t _ ha).2 rfl (fun _ _ => rfl)
theorem wp_getf {i ci k0 a t : Nat} {fs : List Value} {v : Value} (hd : decode M.2.1 pc = .ok (.getfield i, 3)) (hf : fp_fl M.1.cls i ci k0) (ha : h.1 a = some (t, .inr (ci, fs))) (hv : fs[k0]? = some v) (k : fp_wp G d M (pc + 3) L (v :: rest) h Q) : fp_wp G d M pc L (.ref a :: rest) h Q := by
  obtain ⟨Cn, T, N, ty, ref, hc, hk, hw, hrf⟩ := hf
  exact fp_lift (fun p l e R s m args below meth c H locs cells slots Qz ls C K P hl kk => va_get (ws := [(a, .inr (ci, fs))]) C.1 C.2.1 C.2.2.2.2.2.2.2 hc.2.1 C.2.2.2.2.2.1 K.1 (fun k q hq => by
    match k, hq with
    | 0, hq => cases hq; exact (P.2.2.2 a t _ ha).2
    | k + 1, hq => simp at hq) 0 rfl hc.1 k0 hk (C.2.2.2.2.2.2.2 _ hw) (fp_same C.2.2.2.2.2.2.2 hrf) hv hd (kk ls hl)) k
theorem wp_putf {i ci k0 a t : Nat} {fs : List Value} {v : Value} {ft : FieldType} (hd : decode M.2.1 pc = .ok (.putfield i, 3)) (hf : fp_fs M.1.cls M.1.name i ci k0 ft) (ha : h.1 a = some (t, .inr (ci, fs))) (hl0 : k0 < fs.length) (hn : narrow ft v = v) (hfit : fits ft v = true) (k : fp_wp G d M (pc + 3) L rest (fp_put h a t (.inr (ci, fs.set k0 v))) Q) : fp_wp G d M pc L (v :: .ref a :: rest) h Q := by
  obtain ⟨Cn, T, N, ty, ref, hc, hk, hw, hrf, hty, hfin⟩ := hf
  refine fp_liftH (h1 := fp_put h a t (.inr (ci, fs.set k0 v))) (dc := 0) (ds := 0) rfl rfl (fun p l e mc ms s m args below meth c H locs cells slots Qz ls C K P F hl _ _ kk => ?_) k
  obtain ⟨hx, hb, -, -, -, hown, hname, hts⟩ := C
  have hpd : parseFieldDescriptor (T k0).2.2.1 = some ft := hty ▸ hc.2.2.1 k0 hk
  obtain ⟨r, h1, cell, q1, q2, q3, q4⟩ := (P.2.2.2 a t _ ha).2
  have hap := va_apart (own := M.1.cls) hts hc.2.1 ty hc.2.2.1 hc.2.2.2 K.1 hc.1
  have hr : r = (Cn, T, N) := Option.some.inj (h1.symm.trans hc.1)
  subst hr
  obtain ⟨hS, hfc, kC, hkC, hkind⟩ := K.1.1 ci _ hc.1
  obtain ⟨cf, kf, fi, f, hi, hsl⟩ := hS k0 hk
  have hlay := hts _ (hc.2.1 _ (u_in_lay hk))
  unfold u_lay at hlay
  have hst := (u_facts hfc hkC (u_lays hts hc.2.1 hk) hi).1
  have fin : ∀ H1 : Heap, H1[a]? = some (cell.setSlot f.slot v) → H1.size = H.size → (∀ q : Nat, q ≠ a → H1[q]? = H[q]?) → W p l e (fp_rm d mc ms) s m args below meth c H1 (locs ++ [⟨a, f.slot⟩]) cells slots Qz (F0 m (pc + 3) ls rest) := by
    intro H1 e1 e2 e3
    rw [hsl] at e1
    refine kk H1 _ (P.put ha ⟨_, hc.1, t_OB.to (V := updV (vp_V fs) k0 v) ⟨_, e1, q2, q3, t_set q4 hap hk v⟩ (fun j _ => vp_updV_set hl0 v j)⟩ e2 e3) (fun q hq => ?_)
    rcases List.mem_append.mp hq with h3 | h3
    · exact F q h3
    · rw [List.mem_singleton.mp h3]
      exact (P.2.2.2 a t _ ha).1
  rcases hfin with hfin | ⟨hfin, hin2, hdecl⟩
  · rw [if_neg (by rw [hfin]; decide)] at hlay
    have h6 := u_store hfc hkC hkind hlay hi hpd hn hfit
    exact W.putK hx hb (f := f) ⟨hown, hts _ hw, ⟨_, _, _, fp_same hts hrf _ hi⟩, hst⟩ (by rw [q2]; exact h6) q1 q3 (by rw [hsl]; exact k2_hasslot (q4 k0 hk)) rfl rfl hd fin
  · rw [if_pos hfin] at hlay
    have hcf : m.cls = cf := by
      obtain ⟨_, _, c', _, _, _, -, -, hf', -, -, -, hown2, -⟩ := Cond.laysFinal_spec hlay
      have e1 : c' = cf := by have := hi.symm.trans hf'; simp at this; exact this.1.symm
      rw [hdecl] at hown2
      rw [← e1]; exact Option.some.inj (hown.symm.trans hown2)
    have h6 := u_fits hfc hkC hkind (Or.inr hlay) hi hpd hn hfit
    exact W.putFinK hx hb hown (hts _ hw) (fp_same hts hrf _ hi) hst hcf (hname.trans hin2) (by rw [q2]; exact h6) q1 q3 (by rw [hsl]; exact k2_hasslot (q4 k0 hk)) rfl rfl hd fin
/-- class ci, of N fields, fs at first, can be made by the new at pool index i -/
def fp_nw (own : String) (i ci N : Nat) (fs : List Value) : Prop := ∃ C T ty, fp_cl ci C T N ty ∧ Cond.classLink own i C ∈ fp_tw ∧ Cond.instantiable C N ∈ fp_tw ∧ Cond.initialized C ∈ fp_tw ∧ ∀ j, j < N → defaultValue (ty j) = vp_V fs j
theorem wp_new {i ci N : Nat} {fs : List Value} (t : Nat) (hd : decode M.2.1 pc = .ok (.new i, 3)) (hf : fp_nw M.1.cls i ci N fs) (k : fp_wp G d M (pc + 3) L (.ref h.2.1 :: rest) (fp_new h t (.inr (ci, fs)) N) Q) : fp_wp G d M pc L rest h Q := by
  obtain ⟨Cn, T, ty, hc, w1, w2, w3, hfs⟩ := hf
  refine fp_liftH (h1 := fp_new h t (.inr (ci, fs)) N) (dc := 1) (ds := N) rfl rfl (fun p l e mc ms s m args below meth c H locs cells slots Qz ls C K P F hl hcells hslots kk => ?_) k
  obtain ⟨hx, hb, -, -, -, hown, hname, hts⟩ := C
  have hKn := K.1.1 ci _ hc.1
  refine W.newcK hx hb hown (hts _ w1) (hts _ w2) (hts _ w3) rfl hd hcells hslots hKn.2.1 rfl fun H1 kC hkC e1 z1 o1 => ?_
  have hP1 : fp_rep G (fp_new h t (.inr (ci, fs)) N) H1 := P.new ⟨_, hc.1, (u_born ty hts hc.2.1 hKn hkC e1 hc.2.2.1).to hfs⟩ z1 o1
  have := kk H1 locs hP1 F
  rw [← P.1] at this
  exact this

theorem fp_rep.one {H : Heap} {a t : Nat} {e : fp_E} (P : fp_rep G h H) (ha : h.1 a = some (t, e)) : va_P G.2.1 vwCl [(a, fp_cv G e)] H := fun k q hq => by
  match k, hq with
  | 0, hq => cases hq; exact (P.2.2.2 a t _ ha).2
  | k + 1, hq => simp at hq
theorem fp_locs {locs : List Loc} {a i : Nat} (F : ∀ q ∈ locs, fp_free G q.base) (ha : G.1.size ≤ a) : ∀ q ∈ locs ++ [⟨a, i⟩], fp_free G q.base := fun q hq => by
  rcases List.mem_append.mp hq with h3 | h3
  · exact F q h3
  · rw [List.mem_singleton.mp h3]
    exact ha
theorem wp_alen {a t kd : Nat} {x : vp_A} {ty : FieldType} (hd : decode M.2.1 pc = .ok (.arraylength, 1)) (hty : fp_ty[kd]? = some ty) (ha : h.1 a = some (t, .inl (kd, x))) (k : fp_wp G d M (pc + 1) L (.int (nI x.1) :: rest) h Q) : fp_wp G d M pc L (.ref a :: rest) h Q :=
  fp_lift (fun p l e R s m args below meth c H locs cells slots Qz ls C K P hl kk => va_alen (ws := [(a, .inl (G.2.2.1 kd, x))]) C.1 C.2.1 K.1 (P.one ha) 0 kd rfl (fp_tys_at hty) rfl hd (kk ls hl)) k
theorem wp_iald {a t kd n : Nat} {i : Int32} {f : Nat → Int32} (hd : decode M.2.1 pc = .ok (.iaload, 1)) (hty : fp_ty[kd]? = some .int) (ha : h.1 a = some (t, .inl (kd, n, .inl f))) (hin : vp_in i n) (k : fp_wp G d M (pc + 1) L (.int (f i.toNatClampNeg) :: rest) h Q) : fp_wp G d M pc L (.int i :: .ref a :: rest) h Q :=
  fp_lift (fun p l e R s m args below meth c H locs cells slots Qz ls C K P hl kk => va_iald (ws := [(a, .inl (G.2.2.1 kd, n, .inl f))]) C.1 C.2.1 K.1 (P.one ha) 0 kd rfl (fp_tys_at hty) hin hd (kk ls hl)) k
theorem wp_lald {a t kd n : Nat} {i : Int32} {f : Nat → Int64} (hd : decode M.2.1 pc = .ok (.laload, 1)) (hty : fp_ty[kd]? = some .long) (ha : h.1 a = some (t, .inl (kd, n, .inr (.inl f)))) (hin : vp_in i n) (k : fp_wp G d M (pc + 1) L (.long (f i.toNatClampNeg) :: rest) h Q) : fp_wp G d M pc L (.int i :: .ref a :: rest) h Q :=
  fp_lift (fun p l e R s m args below meth c H locs cells slots Qz ls C K P hl kk => va_lald (ws := [(a, .inl (G.2.2.1 kd, n, .inr (.inl f)))]) C.1 C.2.1 K.1 (P.one ha) 0 kd rfl (fp_tys_at hty) hin hd (kk ls hl)) k
theorem wp_bald {a t kd n : Nat} {i : Int32} {f : Nat → Int32} (hd : decode M.2.1 pc = .ok (.baload, 1)) (hty : fp_ty[kd]? = some .byte) (ha : h.1 a = some (t, .inl (kd, n, .inl f))) (hin : vp_in i n) (k : fp_wp G d M (pc + 1) L (.int (f i.toNatClampNeg) :: rest) h Q) : fp_wp G d M pc L (.int i :: .ref a :: rest) h Q :=
  fp_lift (fun p l e R s m args below meth c H locs cells slots Qz ls C K P hl kk => va_bald (ws := [(a, .inl (G.2.2.1 kd, n, .inl f))]) C.1 C.2.1 K.1 (P.one ha) 0 kd rfl (fp_tys_at hty) hin hd (kk ls hl)) k
theorem wp_zald {a t kd n : Nat} {i : Int32} {f : Nat → Int32} (hd : decode M.2.1 pc = .ok (.baload, 1)) (hty : fp_ty[kd]? = some .boolean) (ha : h.1 a = some (t, .inl (kd, n, .inl f))) (hin : vp_in i n) (k : fp_wp G d M (pc + 1) L (.int (f i.toNatClampNeg) :: rest) h Q) : fp_wp G d M pc L (.int i :: .ref a :: rest) h Q :=
  fp_lift (fun p l e R s m args below meth c H locs cells slots Qz ls C K P hl kk => va_zald (ws := [(a, .inl (G.2.2.1 kd, n, .inl f))]) C.1 C.2.1 K.1 (P.one ha) 0 kd rfl (fp_tys_at hty) hin hd (kk ls hl)) k
theorem wp_aaldR {a t kd n : Nat} {i : Int32} {f : Nat → Option Nat} {r : Option Nat} {Cn : String} (hd : decode M.2.1 pc = .ok (.aaload, 1)) (hty : fp_ty[kd]? = some (.object Cn)) (ha : h.1 a = some (t, .inl (kd, n, .inr (.inr (.inr (.inr f)))))) (hin : vp_in i n) (hv : f i.toNatClampNeg = r) (k : fp_wp G d M (pc + 1) L (va_rf r :: rest) h Q) : fp_wp G d M pc L (.int i :: .ref a :: rest) h Q := by
  subst hv
  exact fp_lift (fun p l e R s m args below meth c H locs cells slots Qz ls C K P hl kk => va_aldq (ws := [(a, .inl (G.2.2.1 kd, n, .inr (.inr (.inr (.inr f)))))]) C.1 C.2.1 K.1 (P.one ha) 0 kd rfl (fp_tys_at hty) hin hd (kk ls hl)) k
theorem wp_iast {a t kd n : Nat} {i : Int32} {x : Int32} {f : Nat → Int32} (hd : decode M.2.1 pc = .ok (.iastore, 1)) (hty : fp_ty[kd]? = some .int) (ha : h.1 a = some (t, .inl (kd, n, .inl f))) (hin : vp_in i n) (k : fp_wp G d M (pc + 1) L rest (fp_put h a t (.inl (kd, n, .inl (upd f i.toNatClampNeg x)))) Q) : fp_wp G d M pc L (.int x :: .int i :: .ref a :: rest) h Q := by
  refine fp_liftH (h1 := fp_put h a t (.inl (kd, n, .inl (upd f i.toNatClampNeg x)))) (dc := 0) (ds := 0) rfl rfl (fun p l e mc ms s m args below meth c H locs cells slots Qz ls C K P F hl _ _ kk => ?_) k
  refine W.iast C.1 C.2.1 (P.2.2.2 a t _ ha).2 ((K.1.2 kd _ (fp_tys_at hty)).1 n (fun j => .int (f j))) (fun q => by cases q) (by show ¬ (i < 0 ∨ (arrV _ _ _).slots.size ≤ _); rw [arrV_size]; exact hin) rfl rfl hd fun H1 e z oq => ?_
  refine kk H1 _ (P.put ha ?_ z oq) (fp_locs F (P.2.2.2 a t _ ha).1)
  show H1[a]? = some (vp_cell _ _)
  rw [e]
  show some ((vp_cell _ _).setSlot _ _) = _
  rw [vp_cell_i, vp_cell_i, arrV_store]
  congr 2
  funext q
  by_cases hq : q = i.toNatClampNeg
  · subst hq
    simp [updV, upd]
  · simp [updV, upd, hq]
theorem wp_last {a t kd n : Nat} {i : Int32} {x : Int64} {f : Nat → Int64} (hd : decode M.2.1 pc = .ok (.lastore, 1)) (hty : fp_ty[kd]? = some .long) (ha : h.1 a = some (t, .inl (kd, n, .inr (.inl f)))) (hin : vp_in i n) (k : fp_wp G d M (pc + 1) L rest (fp_put h a t (.inl (kd, n, .inr (.inl (vp_updL f i.toNatClampNeg x))))) Q) : fp_wp G d M pc L (.long x :: .int i :: .ref a :: rest) h Q := by
  refine fp_liftH (h1 := fp_put h a t (.inl (kd, n, .inr (.inl (vp_updL f i.toNatClampNeg x))))) (dc := 0) (ds := 0) rfl rfl (fun p l e mc ms s m args below meth c H locs cells slots Qz ls C K P F hl _ _ kk => ?_) k
  refine W.last C.1 C.2.1 (P.2.2.2 a t _ ha).2 ((K.1.2 kd _ (fp_tys_at hty)).1 n (fun j => .long (f j))) (fun q => by cases q) (by show ¬ (i < 0 ∨ (arrV _ _ _).slots.size ≤ _); rw [arrV_size]; exact hin) rfl rfl hd fun H1 e z oq => ?_
  refine kk H1 _ (P.put ha ?_ z oq) (fp_locs F (P.2.2.2 a t _ ha).1)
  show H1[a]? = some (vp_cell _ _)
  rw [e]
  show some ((vp_cell _ _).setSlot _ _) = _
  rw [vp_cell_l, vp_cell_l, arrV_store]
  congr 2
  funext q
  by_cases hq : q = i.toNatClampNeg
  · subst hq
    simp [updV, vp_updL]
  · simp [updV, vp_updL, hq]
theorem wp_newa {at0 : ArrayType} {kd N : Nat} {n : Int32} {a0 : vp_A} (t : Nat) (hd : decode M.2.1 pc = .ok (.newarray at0, 2)) (hty : fp_ty[kd]? = some (newarray.typeOf at0)) (hw : Cond.arrayClass (newarray.typeOf at0) ∈ fp_tw) (ha : ∀ cA : ClassId, vp_cell cA a0 = arrV cA N (fun _ => defaultValue (newarray.typeOf at0))) (hn : ¬ n < 0) (hN : n.toNatClampNeg = N) (hb : N * componentBytes (newarray.typeOf at0) ≤ 536870912) (k : fp_wp G d M (pc + 2) L (.ref h.2.1 :: rest) (fp_new h t (.inl (kd, a0)) N) Q) : fp_wp G d M pc L (.int n :: rest) h Q := by
  refine fp_liftH (h1 := fp_new h t (.inl (kd, a0)) N) (dc := 1) (ds := N) rfl rfl (fun p l e mc ms s m args below meth c H locs cells slots Qz ls C K P F hl hcells hslots kk => ?_) k
  refine va_newaK C.1 C.2.1 (C.2.2.2.2.2.2.2 _ hw) rfl hd rfl hn hN hb hcells hslots rfl fun H1 cA e1 z1 o1 hAr hNm => ?_
  have hcA : cA = G.2.2.1 kd := by
    have h2 := (K.1.2 kd _ (fp_tys_at hty)).2
    cases at0 <;> exact Option.some.inj (hNm.symm.trans h2)
  subst hcA
  have hP1 : fp_rep G (fp_new h t (.inl (kd, a0)) N) H1 := P.new (by show H1[H.size]? = some (vp_cell _ _); rw [ha]; exact e1) z1 o1
  have := kk H1 locs hP1 F
  rw [← P.1] at this
  exact this
/-! ends -/
theorem wp_iret {v : Int32} {ty : FieldType} (hd : decode M.2.1 pc = .ok (.ireturn, 1)) (hr : M.2.2.2 = some ty) (hn : narrow ty (.int v) = .int v) (q : Q (some (.int v)) h) : fp_wp G d M pc L [.int v] h Q :=
  ⟨_, h, ⟨Nat.le_refl _, Nat.le_refl _, fun p l e s m args below meth c H locs cells slots mc ms ls C K P F hl e1 e2 => by
    rw [Nat.sub_self, Nat.add_zero] at e1 e2
    subst e1; subst e2
    exact W.zret C.1 C.2.1 (C.2.2.2.1.trans hr) hn (fun t ht hW => ⟨rfl, by rw [ht]; exact P⟩) F hd C.2.2.2.2.1⟩, q⟩
theorem wp_lret {v : Int64} (hd : decode M.2.1 pc = .ok (.lreturn, 1)) (hr : M.2.2.2 = some .long) (q : Q (some (.long v)) h) : fp_wp G d M pc L [.long v] h Q :=
  ⟨_, h, ⟨Nat.le_refl _, Nat.le_refl _, fun p l e s m args below meth c H locs cells slots mc ms ls C K P F hl e1 e2 => by
    rw [Nat.sub_self, Nat.add_zero] at e1 e2
    subst e1; subst e2
    exact W.lret C.1 C.2.1 (C.2.2.2.1.trans hr) (fun t ht hW => ⟨rfl, by rw [ht]; exact P⟩) F hd C.2.2.2.2.1⟩, q⟩
theorem wp_vret (hd : decode M.2.1 pc = .ok (.return_, 1)) (hr : M.2.2.2 = none) (q : Q none h) : fp_wp G d M pc L [] h Q :=
  ⟨_, h, ⟨Nat.le_refl _, Nat.le_refl _, fun p l e s m args below meth c H locs cells slots mc ms ls C K P F hl e1 e2 => by
    rw [Nat.sub_self, Nat.add_zero] at e1 e2
    subst e1; subst e2
    exact W.vret C.1 C.2.1 (C.2.2.2.1.trans hr) (fun t ht hW => ⟨rfl, by rw [ht]; exact P⟩) F hd C.2.2.2.2.1⟩, q⟩
theorem wp_aret {v : Value} {ty : FieldType} (hd : decode M.2.1 pc = .ok (.areturn, 1)) (hr : M.2.2.2 = some ty) (hrt : (∃ n, ty = .object n) ∨ ∃ t, ty = .array t) (hv : v = .null ∨ ∃ a, v = .ref a) (q : Q (some v) h) : fp_wp G d M pc L [v] h Q :=
  ⟨_, h, ⟨Nat.le_refl _, Nat.le_refl _, fun p l e s m args below meth c H locs cells slots mc ms ls C K P F hl e1 e2 => by
    rw [Nat.sub_self, Nat.add_zero] at e1 e2
    subst e1; subst e2
    exact W.aret C.1 C.2.1 (C.2.2.2.1.trans hr) hrt hv (fun t ht hW => ⟨rfl, by rw [ht]; exact P⟩) F hd C.2.2.2.2.1⟩, q⟩
end FPI
/-! calls -/
theorem fp_goodIn {ws : List Cond} (hs : ∀ w ∈ ws, w ∈ fp_tw) : GoodIn fp_tw ws := fun w hw => ⟨hs w hw, fp_good w (hs w hw)⟩
theorem fp_go {G : fp_G} {p : Program} {l : Launch} {e : Env} {R : Room} {s : State} {m : MethodId} {args : Array Value} {below : List Frame} {meth : Method} {c : Code} {H : Heap} {locs : List Loc} {cells slots mc ms pc : Nat} {ls : Array Slot} {st0 rest : List Value} {a : Array Value} {r : Option Value} {h1 : fp_H} {Qz : State → Prop}
    (hr : va_Run p l e R s m args below meth c H locs cells slots mc ms (F0 m pc ls st0) rest (fp_Qc G r h1 a) (fp_free G)) (F : ∀ q ∈ locs, fp_free G q.base)
    (kk : ∀ (H1 : Heap) (locs1 : List Loc), fp_rep G h1 H1 → (∀ q ∈ locs1, fp_free G q.base) → W p l e R s m args below meth c H1 locs1 (cells + mc) (slots + ms) Qz (F0 m (pc + 3) ls (r.toList ++ rest))) : W p l e R s m args below meth c H locs cells slots Qz (F0 m pc ls st0) := by
  intro T hT X
  obtain ⟨v, st₀, t, T', L, h0, X', hL, e1, e2, ⟨hv, hP⟩, st⟩ := hr T hT X
  cases hv
  obtain ⟨t2, a1, b1⟩ := kk T'.heap (locs ++ L) (by rw [e1]; exact hP) (fun q hq => by
    rcases List.mem_append.mp hq with h | h
    · exact F q h
    · exact hL q h) T' rfl X'
  exact ⟨t2, st t2 a1, b1⟩
theorem fp_blind {G : fp_G} {h : fp_H} {av : List Value} : FrameBlind (va_Pc av (fun U => fp_rep G h U.heap ∧ fp_K G U)) := fun a U g mk q => ⟨q.1, q.2.1, fp_K.moved (u := U) (U := U.calling g mk a) (State.WarmedH.refl U) q.2.2⟩
/-- what a callee's own words are -/
def fp_me (M : fp_M) (n : Nat) : Prop := Cond.code M.1 M.2.1 M.2.2.1 M.2.2.2 ∈ fp_tw ∧ Cond.initialized M.1.cls ∈ fp_tw ∧ (M.1.cls ≠ "java/lang/invoke/MethodHandle" ∧ M.1.cls ≠ "java/lang/invoke/VarHandle" ∧ (parseMethodDescriptor M.1.desc).map (fun d => d.parameters.length) = some n)
theorem fp_ws_in {M : fp_M} {n : Nat} (h : fp_me M n) : ∀ w ∈ fp_ws M, w ∈ fp_tw := fun w hw => by
  rcases List.mem_cons.mp hw with rfl | hw
  · exact h.1
  · exact hw
section FPC
variable {G : fp_G} {d d' : Nat × Nat} {M M' : fp_M} {pc i n : Nat} {L : List (Option Value)} {st rest As : List Value} {h : fp_H} {Q Q' : Option Value → fp_H → Prop}
theorem wp_callS (hd : decode M.2.1 pc = .ok (.invokestatic i, 3)) (hme : fp_me M' n) (hw : Cond.methodLink M.1.cls i M'.1 ∈ fp_tw ∧ Cond.static M'.1 ∈ fp_tw) (hdd : d'.1 + 1 ≤ d.1 ∧ 8 + (M'.2.2.1 + 11) + d'.2 ≤ d.2) (hLen : L.length = M.2.2.1) (hn : As.length = n) (hst : st = As.reverse ++ rest) (hroom : (rest.map fun v => v.category).sum ≤ 8)
    (hc : fp_ct G d' M' As h Q') (k : ∀ r h1, Q' r h1 → fp_wp G d M (pc + 3) L (r.toList ++ rest) h1 Q) : fp_wp G d M pc L st h Q := by
  obtain ⟨r, h1, ⟨m1, m2, hM⟩, q'⟩ := hc
  refine fp_liftH (h1 := h1) (dc := h1.2.1 - h.2.1) (ds := h1.2.2 - h.2.2) (by omega) (by omega) (fun p l e mc ms s m args below meth c H locs cells slots Qz ls C K P F hl hcells hslots kk => ?_) (k r h1 q')
  obtain ⟨hx, hb, hml, -, -, hown, hname, hts⟩ := C
  exact fp_go (va_runS (As := As) (rest := rest) ⟨hx, hb, hml, hown, hts⟩ (hM l) ⟨callB_of n hts (fp_goodIn (fp_ws_in hme)) rfl rfl rfl (hts _ hme.2.1) (hts _ hw.1) hme.2.2 hdd, hts _ hw.2⟩
    ⟨fp_blind, fun U hU hW => ⟨rfl, by rw [hU]; exact P, K.moved hW⟩⟩ rfl hn (hl.1.trans hLen) hst (lv_room hroom) hd ⟨hcells, hslots⟩) F kk
theorem wp_callI {b : Nat} (hd : decode M.2.1 pc = .ok (.invokespecial i, 3)) (hme : fp_me M' n) (hnone : M'.2.2.2 = none) (hw : Cond.methodLink M.1.cls i M'.1 ∈ fp_tw ∧ Cond.instanceMethod M'.1 ∈ fp_tw) (hname : M'.1.name = "<init>") (hdd : d'.1 + 1 ≤ d.1 ∧ 8 + (M'.2.2.1 + 11) + d'.2 ≤ d.2) (hLen : L.length = M.2.2.1) (hn : As.length = n) (hst : st = As.reverse ++ .ref b :: rest) (hroom : (rest.map fun v => v.category).sum ≤ 8)
    (hc : fp_ct G d' M' (.ref b :: As) h Q') (k : ∀ r h1, Q' r h1 → fp_wp G d M (pc + 3) L (r.toList ++ rest) h1 Q) : fp_wp G d M pc L st h Q := by
  obtain ⟨r, h1, ⟨m1, m2, hM⟩, q'⟩ := hc
  refine fp_liftH (h1 := h1) (dc := h1.2.1 - h.2.1) (ds := h1.2.2 - h.2.2) (by omega) (by omega) (fun p l e mc ms s m args below meth c H locs cells slots Qz ls C K P F hl hcells hslots kk => ?_) (k r h1 q')
  obtain ⟨hx, hb, hml, -, -, hown, hname2, hts⟩ := C
  exact fp_go (va_runI (As := As) (rest := rest) (maxL := M'.2.2.1) (bytes := M'.2.1) ⟨hx, hb, hml, hown, hts⟩ (hM l) ⟨callB_of n hts (fp_goodIn (fp_ws_in hme)) (by unfold fp_ws; rw [hnone]) rfl rfl (hts _ hme.2.1) (hts _ hw.1) hme.2.2 hdd, hname, hts _ hw.2⟩
    ⟨fp_blind, fun U hU hW => ⟨rfl, by rw [hU]; exact P, K.moved hW⟩⟩ rfl hn (hl.1.trans hLen) hst (lv_room hroom) hd ⟨hcells, hslots⟩) F kk
theorem wp_callV {b t ci : Nat} {fs : List Value} {T : u_T} {N : Nat} (hd : decode M.2.1 pc = .ok (.invokevirtual i, 3)) (hme : fp_me M' n) (hw : Cond.methodLink M.1.cls i M'.1 ∈ fp_tw ∧ Cond.instanceMethod M'.1 ∈ fp_tw ∧ Cond.selects M'.1.cls M'.1 M'.1 ∈ fp_tw) (hci : vwCl[ci]? = some (M'.1.cls, T, N)) (hdd : d'.1 + 1 ≤ d.1 ∧ 8 + (M'.2.2.1 + 11) + d'.2 ≤ d.2) (hLen : L.length = M.2.2.1) (hn : As.length = n) (hst : st = As.reverse ++ .ref b :: rest) (hroom : (rest.map fun v => v.category).sum ≤ 8)
    (ha : h.1 b = some (t, .inr (ci, fs))) (hc : fp_ct G d' M' (.ref b :: As) h Q') (k : ∀ r h1, Q' r h1 → fp_wp G d M (pc + 3) L (r.toList ++ rest) h1 Q) : fp_wp G d M pc L st h Q := by
  obtain ⟨r, h1, ⟨m1, m2, hM⟩, q'⟩ := hc
  refine fp_liftH (h1 := h1) (dc := h1.2.1 - h.2.1) (ds := h1.2.2 - h.2.2) (by omega) (by omega) (fun p l e mc ms s m args below meth c H locs cells slots Qz ls C K P F hl hcells hslots kk => ?_) (k r h1 q')
  obtain ⟨hx, hb, hml, -, -, hown, hname2, hts⟩ := C
  exact fp_go (va_runV (As := As) (rest := rest) (C := M'.1.cls) ⟨hx, hb, hml, hown, hts⟩ (hM l) ⟨callB_of n hts (fp_goodIn (fp_ws_in hme)) rfl rfl rfl (hts _ hme.2.1) (hts _ hw.1) hme.2.2 hdd, hts _ hw.2.1, hts _ hw.2.2⟩
    ⟨fp_blind, va_recv K.1 (P.one ha) (ci := ci) (q0 := 0) hci rfl, fun U hU hW => ⟨rfl, by rw [hU]; exact P, K.moved hW⟩⟩ rfl hn (hl.1.trans hLen) hst (lv_room hroom) hd ⟨hcells, hslots⟩) F kk
theorem wp_objInit {b : Nat} (hd : decode M.2.1 pc = .ok (.invokespecial i, 3)) (hw : Cond.methodLink M.1.cls i Lib.objectInit ∈ fp_tw ∧ Cond.instanceMethod Lib.objectInit ∈ fp_tw ∧ Cond.code Lib.objectInit ⟨#[0xb1]⟩ 1 none ∈ fp_tw) (hdd : 1 ≤ d.1 ∧ 20 ≤ d.2) (hLen : L.length = M.2.2.1) (hroom : (rest.map fun v => v.category).sum ≤ 8)
    (k : fp_wp G d M (pc + 3) L rest h Q) : fp_wp G d M pc L (.ref b :: rest) h Q := by
  refine fp_liftH (h1 := h) (dc := 0) (ds := 0) rfl rfl (fun p l e mc ms s m args below meth c H locs cells slots Qz ls C K P F hl hcells hslots kk => ?_) k
  obtain ⟨hx, hb, hml, -, -, hown, hname2, hts⟩ := C
  exact W.objInit hx hb hown (hts _ hw.1) (hts _ hw.2.1) (hts _ hw.2.2) rfl (by rw [hml, ← hLen]; exact hl.1) rfl hd hdd.1 (by show 2 * (F0 m pc ls (.ref b :: rest)).monitorRoom + _ + 12 ≤ d.2; have := lv_room (m := m) (pc := pc) (ls := ls) (rest := .ref b :: rest) hroom; have := hdd.2; omega) (kk H locs P F)
end FPC
theorem fp_ent_slots (av : List Value) (n : Nat) : ∀ (i : Nat) (v : Value), (fp_ent av n)[i]? = some (some v) → (lg_sl av ++ List.replicate (n - (lg_sl av).length) Slot.unset)[i]? = some (.val v) := by
  have key : ∀ (l : List Value), (l.flatMap (fun v => if v.category = 2 then [some v, (none : Option Value)] else [some v])).length = (lg_sl l).length ∧ ∀ (i : Nat) (v : Value), (l.flatMap (fun v => if v.category = 2 then [some v, (none : Option Value)] else [some v]))[i]? = some (some v) → (lg_sl l)[i]? = some (.val v) := by
    intro l
    induction l with
    | nil => exact ⟨rfl, fun i v hi => by simp at hi⟩
    | cons a l ih =>
      obtain ⟨i1, i2⟩ := ih
      unfold lg_sl at i1 i2 ⊢
      simp only [List.flatMap_cons]
      by_cases ha : a.category = 2
      · simp only [if_pos ha]
        refine ⟨by simp [i1], fun i v hi => ?_⟩
        match i, hi with
        | 0, hi => simp at hi ⊢; exact hi
        | 1, hi => simp at hi
        | i + 2, hi => exact i2 i v (by simpa using hi)
      · simp only [if_neg ha]
        refine ⟨by simp [i1], fun i v hi => ?_⟩
        match i, hi with
        | 0, hi => simp at hi ⊢; exact hi
        | i + 1, hi => exact i2 i v (by simpa using hi)
  intro i v hi
  obtain ⟨k1, k2⟩ := key av
  unfold fp_ent at hi
  simp only at hi
  by_cases hl : i < (lg_sl av).length
  · rw [List.getElem?_append_left (by rw [k1]; exact hl)] at hi
    rw [List.getElem?_append_left hl]
    exact k2 i v hi
  · rw [List.getElem?_append_right (by rw [k1]; omega), List.getElem?_replicate] at hi
    split at hi <;> simp at hi
theorem fp_ent_len (av : List Value) (n : Nat) (h : (lg_sl av).length ≤ n) : (fp_ent av n).length = n := by
  have key : ∀ (l : List Value), (l.flatMap (fun v => if v.category = 2 then [some v, (none : Option Value)] else [some v])).length = (lg_sl l).length := by
    intro l
    induction l with
    | nil => rfl
    | cons a l ih =>
      unfold lg_sl at ih ⊢
      simp only [List.flatMap_cons, List.length_append, ih]
      by_cases ha : a.category = 2 <;> simp [ha]
  unfold fp_ent
  simp only [List.length_append, List.length_replicate, key]
  omega
theorem fp_meth {G : fp_G} {d : Nat × Nat} {M : fp_M} {av : List Value} {L0 : List (Option Value)} {h : fp_H} {Q : Option Value → fp_H → Prop} (hn : plainName M.1.cls = true) (hle : (lg_sl av).length ≤ M.2.2.1) (hL : fp_ent av M.2.2.1 = L0) (k : fp_wp G d M 0 L0 [] h Q) : fp_ct G d M av h Q := by
  obtain ⟨r, h', ⟨m1, m2, w⟩, q⟩ := k
  refine ⟨r, h', ⟨m1, m2, fun l => ?_⟩, q⟩
  refine Met.ofW (cc := M.2.1) (maxL := M.2.2.1) (ret := M.2.2.2) hn rfl ?_
  intro p e s m args below meth c s₁ B hml hv
  obtain ⟨rfl, hP, hK⟩ := hv
  have hts := atoms_spec (ws := fp_ws M) B.pre
  rw [lg_entry_eq]
  have hh := lv_entry av (n := M.2.2.1) hle
  exact w p l e s m _ below meth c s.heap [] 0 0 _ _ _ ⟨B.exec, B.bytes, hml, B.returns, B.notSynchronized, findClass_of_methodNamed B.named, (name_of_methodNamed B.named B.method).1, fun w hw => hts w (List.mem_cons_of_mem _ hw)⟩ hK hP (fun q hq => by cases hq)
    ⟨by rw [hh.1, ← hL, fp_ent_len _ _ hle], hh.2.1, fun i v hi => by rw [← hL] at hi; simpa using fp_ent_slots av M.2.2.1 i v hi⟩ (Nat.zero_add _) (Nat.zero_add _)

