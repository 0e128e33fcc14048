/-! reading back what was written -/
/-- the bytes ys lie at a -/
def sb (f : Nat → Nat) (a : Nat) (ys : List Nat) : Prop := ∀ i, i < ys.length → f (a + i) = ys.getD i 0
theorem sb.cons {f : Nat → Nat} {a y : Nat} {ys : List Nat} (h : sb f a (y :: ys)) : f a = y ∧ sb f (a + 1) ys := by
  refine ⟨h 0 (by simp), fun i hi => ?_⟩
  have := h (i + 1) (by simp; exact hi)
  rw [show a + (i + 1) = a + 1 + i by omega] at this
  rw [this]
  simp
theorem sb.app {f : Nat → Nat} {a : Nat} {ys zs : List Nat} (h : sb f a (ys ++ zs)) : sb f a ys ∧ sb f (a + ys.length) zs := by
  refine ⟨fun i hi => ?_, fun i hi => ?_⟩
  · have := h i (by rw [List.length_append]; omega)
    rw [this, List.getD_eq_getElem?_getD, List.getElem?_append_left hi, ← List.getD_eq_getElem?_getD]
  · have := h (ys.length + i) (by rw [List.length_append]; omega)
    rw [show a + ys.length + i = a + (ys.length + i) by omega, this, List.getD_eq_getElem?_getD, List.getElem?_append_right (by omega), ← List.getD_eq_getElem?_getD]
    congr 1
    omega
theorem sb.mk {f : Nat → Nat} {a : Nat} {ys zs : List Nat} (h1 : sb f a ys) (h2 : sb f (a + ys.length) zs) : sb f a (ys ++ zs) := by
  intro i hi
  rw [List.length_append] at hi
  by_cases c : i < ys.length
  · rw [h1 i c, List.getD_eq_getElem?_getD, List.getD_eq_getElem?_getD, List.getElem?_append_left c]
  · have := h2 (i - ys.length) (by omega)
    rw [show a + ys.length + (i - ys.length) = a + i by omega] at this
    rw [this, List.getD_eq_getElem?_getD, List.getD_eq_getElem?_getD, List.getElem?_append_right (by omega)]
theorem sb.congr {f g : Nat → Nat} {a : Nat} {ys : List Nat} (h : sb f a ys) (e : ∀ i, a ≤ i → i < a + ys.length → g i = f i) : sb g a ys := fun i hi => by rw [e (a + i) (by omega) (by omega)]; exact h i hi
theorem k_tk_in {f : Nat → Nat} {e a : Nat} {c : Bool} (h : a < e) : k_tk f e (a, c) = (f a, (a + 1, c)) := by unfold k_tk; rw [if_pos h]
theorem k_tk_out {f : Nat → Nat} {e a : Nat} {c : Bool} (h : ¬ a < e) : k_tk f e (a, c) = (0, (a, true)) := by unfold k_tk; rw [if_neg h]
theorem k_nl_nbt {f : Nat → Nat} {e : Nat} : ∀ (g l m v a : Nat) (c : Bool), l < 128 ^ g → 0 < g → sb f a (nbt g l) → (a + (nbt g l).length ≤ e → k_nl f e g m v (a, c) = (v + l * m, (a + (nbt g l).length, c))) ∧ (e < a + (nbt g l).length → (k_nl f e g m v (a, c)).2.2 = true) := by
  intro g
  induction g with
  | zero => intro l m v a c _ h; omega
  | succ g ih =>
    intro l m v a c hl _ hs
    rw [nbt] at hs ⊢
    by_cases c1 : l ≤ 127
    · rw [if_pos c1] at hs ⊢
      have h1 := hs.cons.1
      constructor
      · intro he
        have he' : a + 1 ≤ e := he
        rw [k_nl, k_tk_in (by omega), h1, if_pos (by show l < 128; omega)]
        show (v + l % 128 * m, (a + 1, c)) = _
        rw [Nat.mod_eq_of_lt (by omega)]
        rfl
      · intro he
        have he' : e < a + 1 := he
        rw [k_nl, k_tk_out (by omega), if_pos (by show 0 < 128; omega)]
    · rw [if_neg c1] at hs ⊢
      obtain ⟨h1, h2⟩ := hs.cons
      have hg : 0 < g := by
        rcases Nat.eq_zero_or_pos g with q | q
        · subst q; simp at hl; omega
        · exact q
      have hl2 : l / 128 < 128 ^ g := by rw [Nat.pow_succ] at hl; omega
      have hi := ih (l / 128) (m * 128) (v + l % 128 * m) (a + 1) c hl2 hg h2
      have hb : ¬ (128 + l % 128) < 128 := by omega
      have hm : (128 + l % 128) % 128 = l % 128 := by omega
      constructor
      · intro he
        have he' : a + ((nbt g (l / 128)).length + 1) ≤ e := he
        rw [k_nl, k_tk_in (by omega), h1, if_neg hb]
        show k_nl f e g (m * 128) (v + (128 + l % 128) % 128 * m) (a + 1, c) = _
        rw [hm, hi.1 (by omega)]
        have e1 : v + l % 128 * m + l / 128 * (m * 128) = v + l * m := by
          have : l * m = (128 * (l / 128) + l % 128) * m := by rw [Nat.div_add_mod]
          rw [this, Nat.add_mul]
          have : l / 128 * (m * 128) = 128 * (l / 128) * m := by rw [← Nat.mul_assoc, Nat.mul_comm (l / 128 * m) 128, Nat.mul_assoc]
          omega
        rw [e1]
        show (_, (a + 1 + (nbt g (l / 128)).length, c)) = (_, (a + ((nbt g (l / 128)).length + 1), c))
        rw [show a + 1 + (nbt g (l / 128)).length = a + ((nbt g (l / 128)).length + 1) by omega]
      · intro he
        have he' : e < a + ((nbt g (l / 128)).length + 1) := he
        rw [k_nl]
        by_cases ca : a < e
        · rw [k_tk_in ca, h1, if_neg hb]
          show (k_nl f e g (m * 128) (v + (128 + l % 128) % 128 * m) (a + 1, c)).2.2 = true
          rw [hm]
          exact hi.2 (by omega)
        · rw [k_tk_out ca, if_pos (by show 0 < 128; omega)]
theorem k_num_nb {f : Nat → Nat} {e n F v a : Nat} {c : Bool} (hn : 1 ≤ n) (hF : F % 2 ^ n = 0) (hv : v < 2 ^ 28) (hs : sb f a (nb F n v)) : (a + (nb F n v).length ≤ e → k_num f e n (a, c) = (v, (a + (nb F n v).length, c))) ∧ (e < a + (nb F n v).length → (k_num f e n (a, c)).2.2 = true) := by
  have h2 : 2 ≤ 2 ^ n := by
    have : 2 ^ 1 ≤ 2 ^ n := Nat.pow_le_pow_right (by decide) hn
    omega
  unfold nb at hs ⊢
  by_cases c1 : v < 2 ^ n - 1
  · rw [if_pos c1] at hs ⊢
    have h1 := hs.cons.1
    have hm : (F + v) % 2 ^ n = v := by rw [Nat.add_mod, hF, Nat.zero_add, Nat.mod_mod, Nat.mod_eq_of_lt (by omega)]
    constructor
    · intro he
      have he' : a + 1 ≤ e := he
      rw [k_num, k_tk_in (by omega), h1]
      show (if (F + v) % 2 ^ n < 2 ^ n - 1 then _ else _) = _
      rw [hm, if_pos c1]
      rfl
    · intro he
      have he' : e < a + 1 := he
      rw [k_num, k_tk_out (by omega)]
      show (if 0 % 2 ^ n < 2 ^ n - 1 then _ else _ : Nat × (Nat × Bool)).2.2 = true
      rw [Nat.zero_mod, if_pos (by omega)]
  · rw [if_neg c1] at hs ⊢
    obtain ⟨h1, h3⟩ := hs.cons
    have hm : (F + (2 ^ n - 1)) % 2 ^ n = 2 ^ n - 1 := by rw [Nat.add_mod, hF, Nat.zero_add, Nat.mod_mod, Nat.mod_eq_of_lt (by omega)]
    have hi := k_nl_nbt (f := f) (e := e) 4 (v - (2 ^ n - 1)) 1 (2 ^ n - 1) (a + 1) c (by omega) (by decide) h3
    constructor
    · intro he
      have he' : a + ((nbt 4 (v - (2 ^ n - 1))).length + 1) ≤ e := he
      rw [k_num, k_tk_in (by omega), h1]
      show (if (F + (2 ^ n - 1)) % 2 ^ n < 2 ^ n - 1 then _ else k_nl f e 4 1 ((F + (2 ^ n - 1)) % 2 ^ n) (a + 1, c)) = _
      rw [hm, if_neg (by omega), hi.1 (by omega)]
      show (_, (a + 1 + (nbt 4 (v - (2 ^ n - 1))).length, c)) = (v, (a + ((nbt 4 (v - (2 ^ n - 1))).length + 1), c))
      rw [show a + 1 + (nbt 4 (v - (2 ^ n - 1))).length = a + ((nbt 4 (v - (2 ^ n - 1))).length + 1) by omega, show 2 ^ n - 1 + (v - (2 ^ n - 1)) * 1 = v by omega]
    · intro he
      have he' : e < a + ((nbt 4 (v - (2 ^ n - 1))).length + 1) := he
      rw [k_num]
      by_cases ca : a < e
      · rw [k_tk_in ca, h1]
        show (if (F + (2 ^ n - 1)) % 2 ^ n < 2 ^ n - 1 then _ else k_nl f e 4 1 ((F + (2 ^ n - 1)) % 2 ^ n) (a + 1, c) : Nat × (Nat × Bool)).2.2 = true
        rw [hm, if_neg (by omega)]
        exact hi.2 (by omega)
      · rw [k_tk_out ca]
        show (if 0 % 2 ^ n < 2 ^ n - 1 then _ else _ : Nat × (Nat × Bool)).2.2 = true
        rw [Nat.zero_mod, if_pos (by omega)]
theorem k_tl_txd {f : Nat → Nat} {e u : Nat} : ∀ (i a v : Nat) (c : Bool), sb f a (txd u i) → (a + i ≤ e → k_tl f e i v (a, c) = (v * 256 ^ i + u % 256 ^ i, (a + i, c))) ∧ (a ≤ e → e < a + i → (k_tl f e i v (a, c)).2.2 = true) := by
  intro i
  induction i with
  | zero =>
    intro a v c _
    constructor
    · intro _
      show (v, (a, c)) = _
      simp [Nat.mod_one]
    · intro h1 h
      omega
  | succ i ih =>
    intro a v c hs
    rw [txd_s] at hs
    obtain ⟨h1, h2⟩ := hs.cons
    constructor
    · intro he
      rw [k_tl, k_tk_in (by omega), h1]
      show k_tl f e i (v * 256 + bte u i) (a + 1, c) = _
      rw [(ih (a + 1) _ c h2).1 (by omega)]
      have e1 : (v * 256 + bte u i) * 256 ^ i + u % 256 ^ i = v * 256 ^ (i + 1) + u % 256 ^ (i + 1) := by
        rw [Nat.mod_pow_succ, Nat.add_mul, Nat.pow_succ]
        have : bte u i = u / 256 ^ i % 256 := by unfold bte; rw [Nat.pow_mul]
        rw [this, Nat.mul_assoc, Nat.mul_comm 256 (256 ^ i), Nat.mul_comm (u / 256 ^ i % 256)]
        omega
      rw [e1, show a + 1 + i = a + (i + 1) by omega]
    · intro _ he
      rw [k_tl]
      by_cases ca : a < e
      · rw [k_tk_in ca]
        exact (ih (a + 1) _ c h2).2 (by omega) (by omega)
      · rw [k_tk_out ca]
        exact (k_tl_le f e i _ (a, true)).2.2 rfl
theorem bln_pow (u : Nat) (hu : u < 2 ^ 64) : u < 256 ^ bln u := by
  unfold bln
  repeat' split <;> try omega
theorem k_txt_tx {f : Nat → Nat} {e n F u a : Nat} {c : Bool} (hn : 1 ≤ n) (hF : F % 2 ^ n = 0) (hu : u < 2 ^ 64) (hs : sb f a (nb F n (bln u) ++ txb u)) : (a + (nb F n (bln u) ++ txb u).length ≤ e → k_txt f e n (a, c) = (u, (a + (nb F n (bln u) ++ txb u).length, c))) ∧ (e < a + (nb F n (bln u) ++ txb u).length → a ≤ e → (k_txt f e n (a, c)).2.2 = true) := by
  obtain ⟨h1, h2⟩ := hs.app
  have b8 := bln_le u
  have hk := k_num_nb (f := f) (e := e) (a := a) (c := c) hn hF (show bln u < 2 ^ 28 by omega) h1
  have ht := k_tl_txd (f := f) (e := e) (u := u) (bln u) (a + (nb F n (bln u)).length) 0 c h2
  rw [List.length_append, txb_len]
  constructor
  · intro he
    rw [k_txt, hk.1 (by omega)]
    show k_tl f e (min 8 (bln u)) 0 (a + (nb F n (bln u)).length, c) = _
    rw [Nat.min_eq_right b8, ht.1 (by omega), Nat.zero_mul, Nat.zero_add, Nat.mod_eq_of_lt (bln_pow u hu), Nat.add_assoc]
  · intro he ha
    rw [k_txt]
    rcases Nat.lt_or_ge e (a + (nb F n (bln u)).length) with q | q
    · exact (k_tl_le f e _ _ _).2.2 (hk.2 q)
    · rw [hk.1 q]
      show (k_tl f e (min 8 (bln u)) 0 (a + (nb F n (bln u)).length, c)).2.2 = true
      rw [Nat.min_eq_right b8]
      exact ht.2 q (by omega)
