/-! the reference: what its small methods answer -/
theorem nI_lit0 : (0 : Int32) = nI 0 := rfl
theorem gi_lit {α : Type} {k : Option α} : gi_ 2 4 k = k ∧ gi_ 3 4 k = k ∧ gi_ 0 4 k = k ∧ gi_ 1 4 k = k ∧ gi_ 0 16 k = k ∧ gi_ 48 96 k = k := by
  refine ⟨gi_n (j := 2) ?_ ?_, gi_n (j := 3) ?_ ?_, gi_n (j := 0) ?_ ?_, gi_n (j := 1) ?_ ?_, gi_n (j := 0) ?_ ?_, gi_n (j := 48) ?_ ?_⟩ <;> decide
theorem g24 {α : Type} {k : Option α} : gi_ 2 4 k = k := gi_lit.1
theorem g34 {α : Type} {k : Option α} : gi_ 3 4 k = k := gi_lit.2.1
theorem g04 {α : Type} {k : Option α} : gi_ 0 4 k = k := gi_lit.2.2.1
theorem g14 {α : Type} {k : Option α} : gi_ 1 4 k = k := gi_lit.2.2.2.1
theorem g016 {α : Type} {k : Option α} : gi_ 0 16 k = k := gi_lit.2.2.2.2.1
theorem g4896 {α : Type} {k : Option α} : gi_ 48 96 k = k := gi_lit.2.2.2.2.2
theorem cl2 : (2 : Int32).toNatClampNeg = 2 := by decide
theorem cl3 : (3 : Int32).toNatClampNeg = 3 := by decide
theorem cl0 : (0 : Int32).toNatClampNeg = 0 := by decide
theorem cl1 : (1 : Int32).toNatClampNeg = 1 := by decide
theorem cl48 : (48 : Int32).toNatClampNeg = 48 := by decide
theorem t_places {tk du se he lv en fm ct sp lo hi ov va q gv ch tt hd ak ug ls : Int32} {ro sz ft la : Nat → Int32} : f_T_places (tk, du, se, he, lv, en, fm, ct, sp, lo, hi, ov, va, q, gv, ch, tt, hd, ak, ug, ls, ro, sz, ft, la) = some (if q = 0 then 1 else 16) := by
  by_cases h : q = 0
  · simp only [f_T_places, f_T_places_13, if_pos h]
  · simp only [f_T_places, f_T_places_13, if_neg h]
def onI (x k : Int32) : Int32 := if ((x >>> (k &&& 31)) &&& 1) = 1 then 1 else 0
theorem onI_bt (x k : Int32) : Bt (onI x k) := by
  unfold onI Bt
  by_cases h : ((x >>> (k &&& 31)) &&& 1) = 1
  · rw [if_pos h]; exact Or.inr rfl
  · rw [if_neg h]; exact Or.inl rfl
theorem t_isOn {tk du se he lv en fm ct sp lo hi ov va q gv ch tt hd ak ug ls : Int32} {ro sz ft la : Nat → Int32} (x k : Int32) : f_T_isOn (tk, du, se, he, lv, en, fm, ct, sp, lo, hi, ov, va, q, gv, ch, tt, hd, ak, ug, ls, ro, sz, ft, la) x k = some (onI x k) := by
  unfold onI
  by_cases h : ((x >>> (k &&& 31)) &&& 1) = 1
  · simp only [f_T_isOn, f_T_isOn_14, if_pos h, gb_1]
  · simp only [f_T_isOn, f_T_isOn_14, if_neg h, gb_0]
def lpI (ct : Int32) : Int32 := if (ct &&& 16) = 0 then 0 else 1
theorem lpI_bt (x : Int32) : Bt (lpI x) := by
  unfold lpI Bt
  by_cases h : (x &&& 16) = 0
  · rw [if_pos h]; exact Or.inl rfl
  · rw [if_neg h]; exact Or.inr rfl
theorem lp_on : ∀ c, c < 32 → onI (nI c) 4 = lpI (nI c) := by decide +kernel
theorem t_loops {tk du se he lv en fm ct sp lo hi ov va q gv ch tt hd ak ug ls : Int32} {ro sz ft la : Nat → Int32} (hc : By 32 ct) : f_T_loops (tk, du, se, he, lv, en, fm, ct, sp, lo, hi, ov, va, q, gv, ch, tt, hd, ak, ug, ls, ro, sz, ft, la) = some (lpI ct) := by
  obtain ⟨c, hc, rfl⟩ := hc
  simp only [f_T_loops, t_isOn, Option.bind_some, lp_on c hc, gb_t (lpI_bt _)]
def inI (ct gv : Int32) : Int32 := if lpI ct = 0 then gv else (((ct &&& 12) ||| ((ct &&& 1) <<< ((1 : Int32) &&& 31))) ||| ((ct >>> ((1 : Int32) &&& 31)) &&& 1))
theorem in_on : ∀ c, c < 32 → (((nI c &&& 12) + ((nI c >>> ((1 : Int32) &&& 31)) &&& 1)) + ((nI c &&& 1) * 2)) = (((nI c &&& 12) ||| ((nI c &&& 1) <<< ((1 : Int32) &&& 31))) ||| ((nI c >>> ((1 : Int32) &&& 31)) &&& 1)) := by decide +kernel
theorem t_inputs {tk du se he lv en fm ct sp lo hi ov va q gv ch tt hd ak ug ls : Int32} {ro sz ft la : Nat → Int32} (hc : By 32 ct) : f_T_inputs (tk, du, se, he, lv, en, fm, ct, sp, lo, hi, ov, va, q, gv, ch, tt, hd, ak, ug, ls, ro, sz, ft, la) = some (inI ct gv) := by
  have h := t_loops (tk := tk) (du := du) (se := se) (he := he) (lv := lv) (en := en) (fm := fm) (ct := ct) (sp := sp) (lo := lo) (hi := hi) (ov := ov) (va := va) (q := q) (gv := gv) (ch := ch) (tt := tt) (hd := hd) (ak := ak) (ug := ug) (ls := ls) (ro := ro) (sz := sz) (ft := ft) (la := la) hc
  obtain ⟨c, hc, rfl⟩ := hc
  simp only [f_T_inputs, h, Option.bind_some, in_on c hc, inI]
  by_cases hz : lpI (nI c) = 0
  · rw [if_pos hz, if_pos hz]
  · rw [if_neg hz, if_neg hz]
theorem in_by : ∀ c, c < 32 → ∀ g, g < 16 → (inI (nI c) (nI g)) &&& 15 = inI (nI c) (nI g) := by decide +kernel
theorem in_By {ct gv : Int32} (hc : By 32 ct) (hg : By 16 gv) : By 16 (inI ct gv) := by
  obtain ⟨c, hc, rfl⟩ := hc
  obtain ⟨g, hg, rfl⟩ := hg
  have h := pk_andE (inI (nI c) (nI g)) (m := 15) 4 (by decide)
  obtain ⟨j, hj, e⟩ := h
  exact ⟨j, hj, by rw [← e]; exact (in_by c hc g hg).symm⟩
/-- CHANGES after INPUTS went from b to n -/
def ntI (ch b n : Int32) : Int32 := ((ch ||| ((b ^^^ n) &&& 11)) ||| ((b &&& (n ^^^ (-1))) &&& 4))
theorem t_note {tk du se he lv en fm ct sp lo hi ov va q gv ch tt hd ak ug ls : Int32} {ro sz ft la : Nat → Int32} (hc : By 32 ct) (b : Int32) : f_T_noteInputs (tk, du, se, he, lv, en, fm, ct, sp, lo, hi, ov, va, q, gv, ch, tt, hd, ak, ug, ls, ro, sz, ft, la) b = some (tk, du, se, he, lv, en, fm, ct, sp, lo, hi, ov, va, q, gv, (ntI ch b (inI ct gv)), tt, hd, ak, ug, ls, ro, sz, ft, la) := by
  simp only [f_T_noteInputs, t_inputs hc, Option.bind_some, ntI]
theorem nt_self : ∀ g, g < 16 → ∀ c, c < 16 → ntI (nI c) (nI g) (nI g) = nI c := by decide +kernel
theorem nt_by : ∀ c, c < 16 → ∀ g, g < 16 → ∀ n, n < 16 → (ntI (nI c) (nI g) (nI n)) &&& 15 = ntI (nI c) (nI g) (nI n) := by decide +kernel
theorem nt_By {ch b n : Int32} (h1 : By 16 ch) (h2 : By 16 b) (h3 : By 16 n) : By 16 (ntI ch b n) := by
  obtain ⟨c, hc, rfl⟩ := h1
  obtain ⟨g, hg, rfl⟩ := h2
  obtain ⟨m, hm, rfl⟩ := h3
  obtain ⟨j, hj, e⟩ := pk_andE (ntI (nI c) (nI g) (nI m)) (m := 15) 4 (by decide)
  exact ⟨j, hj, by rw [← e]; exact (nt_by c hc g hg m hm).symm⟩
theorem nt_Self {ch b : Int32} (h1 : By 16 ch) (h2 : By 16 b) : ntI ch b b = ch := by
  obtain ⟨c, hc, rfl⟩ := h1
  obtain ⟨g, hg, rfl⟩ := h2
  exact nt_self g hg c hc
/-- the span -/
def spN (a b : Nat) : Nat := if a + 256 * b = 0 then 1 else a + 256 * b
theorem spN_in {a b : Nat} (ha : a < 256) (hb : b < 256) : 1 ≤ spN a b ∧ spN a b ≤ 65535 := by
  unfold spN
  by_cases h : a + 256 * b = 0
  · rw [if_pos h]; omega
  · rw [if_neg h]; omega
theorem sp_sum (a b : Nat) : nI a + 256 * nI b = nI (a + 256 * b) := by
  rw [show (256 : Int32) = nI 256 from rfl, pk_mul, nI_add]
theorem t_span {tk du se he lv en fm ct sp lo hi ov va q gv ch tt hd ak ug ls : Int32} {ro sz ft la : Nat → Int32} {a b : Nat} (ha : a < 256) (hb : b < 256) (e1 : lo = nI a) (e2 : hi = nI b) : f_T_span (tk, du, se, he, lv, en, fm, ct, sp, lo, hi, ov, va, q, gv, ch, tt, hd, ak, ug, ls, ro, sz, ft, la) = some (nI (spN a b)) := by
  subst e1 e2
  unfold spN
  by_cases h : a + 256 * b = 0
  · simp only [f_T_span, f_T_span_24, sp_sum, if_pos h]
    rw [h, if_neg (by decide)]; rfl
  · simp only [f_T_span, f_T_span_24, sp_sum, if_neg h]
    rw [if_pos (show (1 : Int32) ≤ nI (a + 256 * b) from nI_le (a := 1) (b := a + 256 * b) (by omega) (by omega))]
/-! rows of the reference -/
theorem t_append {tk du se he lv en fm ct sp lo hi ov va q gv ch tt hd ak ug ls : Int32} {ro sz ft la : Nat → Int32} {r n : Nat} (hr : r < 4) (hs : sz r = nI n) (hn : n < 24) (c : Int32) : f_T_append (tk, du, se, he, lv, en, fm, ct, sp, lo, hi, ov, va, q, gv, ch, tt, hd, ak, ug, ls, ro, sz, ft, la) (nI r) c = some (tk, du, se, he, lv, en, fm, ct, sp, lo, hi, ov, va, q, gv, ch, tt, hd, ak, ug, ls, (upd ro (24 * r + n) c), (upd sz r (nI (n + 1))), ft, la) := by
  have e1 : 24 * nI r = nI (24 * r) := by rw [show (24 : Int32) = nI 24 from rfl, pk_mul]
  simp only [f_T_append, pu_clamp (show r < 2147483648 by omega), hs, e1, nI_add, nI_1]
  rw [gi_n hr (by decide), gi_n (by omega) (by decide), gi_n hr (by decide), gi_n hr (by decide), pu_clamp (by omega)]
def shR (f : Nat → Int32) (a b : Nat) : Nat → Int32 := fun j => if a ≤ j ∧ j < b then f (j + 1) else f j
theorem shR_step (f : Nat → Int32) {a b : Nat} (h : a < b) : shR (upd f a (f (a + 1))) (a + 1) b = shR f a b := by
  funext j
  unfold shR upd
  by_cases h1 : a ≤ j ∧ j < b
  · rw [if_pos h1]
    by_cases h2 : a + 1 ≤ j ∧ j < b
    · rw [if_pos h2, if_neg (by omega)]
    · rw [if_neg h2, if_pos (by omega)]
      congr 1; omega
  · rw [if_neg h1, if_neg (by omega), if_neg (by omega)]
theorem shR_nil (f : Nat → Int32) (a : Nat) : shR f a a = f := by
  funext j
  unfold shR
  rw [if_neg (by omega)]
theorem t_shift {tk du se he lv en fm ct sp lo hi ov va q gv ch tt hd ak ug ls : Int32} {ro sz ft la : Nat → Int32} {r m : Nat} (hr : r < 4) (hs : sz r = nI m) (hm : m < 24) (c : Int32) : ∀ (k i : Nat) (ro : Nat → Int32), i ≤ m → m - i < k → f_T_removeFirst_29 k (tk, du, se, he, lv, en, fm, ct, sp, lo, hi, ov, va, q, gv, ch, tt, hd, ak, ug, ls, ro, sz, ft, la) (nI r) c (nI (24 * r + i)) = some (c, (tk, du, se, he, lv, en, fm, ct, sp, lo, hi, ov, va, q, gv, ch, tt, hd, ak, ug, ls, (shR ro (24 * r + i) (24 * r + m)), sz, ft, la)) := by
  intro k
  induction k with
  | zero => intro i ro hi h; omega
  | succ k ih =>
    intro i ro hi h
    have e1 : 24 * nI r = nI (24 * r) := by rw [show (24 : Int32) = nI 24 from rfl, pk_mul]
    simp only [f_T_removeFirst_29, pu_clamp (show r < 2147483648 by omega), hs, e1, nI_add, nI_1]
    rw [gi_n hr (by decide)]
    by_cases hc : i = m
    · subst hc
      rw [if_pos (nI_le (Nat.le_refl _) (by omega)), shR_nil]
    · rw [if_neg (nI_ge (by omega) (by omega)), gi_n (by omega) (by decide), gi_n (by omega) (by decide), pu_clamp (by omega), pu_clamp (by omega)]
      have := ih (i + 1) (upd ro (24 * r + i) (ro (24 * r + i + 1))) (by omega) (by omega)
      rw [show 24 * r + (i + 1) = 24 * r + i + 1 from rfl] at this
      rw [this, shR_step _ (by omega)]
theorem t_remove {tk du se he lv en fm ct sp lo hi ov va q gv ch tt hd ak ug ls : Int32} {ro sz ft la : Nat → Int32} {r n : Nat} (hr : r < 4) (hs : sz r = nI n) (h0 : 0 < n) (hn : n ≤ 24) : f_T_removeFirst (tk, du, se, he, lv, en, fm, ct, sp, lo, hi, ov, va, q, gv, ch, tt, hd, ak, ug, ls, ro, sz, ft, la) (nI r) = some (ro (24 * r), (tk, du, se, he, lv, en, fm, ct, sp, lo, hi, ov, va, q, gv, ch, tt, hd, ak, ug, ls, (shR ro (24 * r) (24 * r + (n - 1))), (upd sz r (nI (n - 1))), ft, la)) := by
  have e1 : 24 * nI r = nI (24 * r) := by rw [show (24 : Int32) = nI 24 from rfl, pk_mul]
  have e2 : nI n - 1 = nI (n - 1) := pk_sub (a := n) (b := 1) (by omega)
  simp only [f_T_removeFirst, pu_clamp (show r < 2147483648 by omega), hs, e1, e2]
  rw [gi_n (by omega) (by decide), gi_n hr (by decide), gi_n hr (by decide), pu_clamp (by omega)]
  exact t_shift (ro := ro) (sz := upd sz r (nI (n - 1))) (r := r) (m := n - 1) hr pk_us (by omega) (ro (24 * r)) 128 0 ro (by omega) (by omega)
theorem t_shiftF {tk du se he lv en fm ct sp lo hi ov va q gv ch tt hd ak ug ls : Int32} {ro sz ft la : Nat → Int32} {m : Nat} (hs : sz 2 = nI m) (hm : m < 16) (c : Int32) : ∀ (k i : Nat) (ft : Nat → Int32), i ≤ m → m - i < k → f_T_takeIn_8 k (tk, du, se, he, lv, en, fm, ct, sp, lo, hi, ov, va, q, gv, ch, tt, hd, ak, ug, ls, ro, sz, ft, la) c (nI i) = some (c, (tk, du, se, tk, lv, en, fm, ct, sp, lo, hi, ov, va, q, gv, ch, tt, hd, ak, ug, ls, ro, sz, (shR ft i m), la)) := by
  intro k
  induction k with
  | zero => intro i ft hi h; omega
  | succ k ih =>
    intro i ft hi h
    simp only [f_T_takeIn_8, cl2, hs, nI_1, g24]
    by_cases hc : i = m
    · subst hc
      rw [if_pos (nI_le (Nat.le_refl _) (by omega)), shR_nil]
    · rw [if_neg (nI_ge (by omega) (by omega)), gi_n (by omega) (by decide), gi_n (by omega) (by decide), pu_clamp (by omega), pu_clamp (by omega)]
      rw [ih (i + 1) (upd ft i (ft (i + 1))) (by omega) (by omega), shR_step _ (by omega)]
theorem t_takeIn {tk du se he lv en fm ct sp lo hi ov va q gv ch tt hd ak ug ls : Int32} {ro sz ft la : Nat → Int32} {n : Nat} (hs : sz 2 = nI n) (h0 : 0 < n) (hn : n ≤ 16) : f_T_takeIn (tk, du, se, he, lv, en, fm, ct, sp, lo, hi, ov, va, q, gv, ch, tt, hd, ak, ug, ls, ro, sz, ft, la) = some (ro 48, (tk, du, se, tk, lv, en, fm, ct, sp, lo, hi, ov, va, q, gv, ch, tt, hd, ak, ug, ls, (shR ro 48 (48 + (n - 1))), (upd sz 2 (nI (n - 1))), (shR ft 0 (n - 1)), la)) := by
  have h := t_remove (tk := tk) (du := du) (se := se) (he := he) (lv := lv) (en := en) (fm := fm) (ct := ct) (sp := sp) (lo := lo) (hi := hi) (ov := ov) (va := va) (q := q) (gv := gv) (ch := ch) (tt := tt) (hd := hd) (ak := ak) (ug := ug) (ls := ls) (ro := ro) (sz := sz) (ft := ft) (la := la) (r := 2) (by decide) hs h0 (by omega)
  have h' : f_T_removeFirst (tk, du, se, he, lv, en, fm, ct, sp, lo, hi, ov, va, q, gv, ch, tt, hd, ak, ug, ls, ro, sz, ft, la) 2 = some (ro 48, (tk, du, se, he, lv, en, fm, ct, sp, lo, hi, ov, va, q, gv, ch, tt, hd, ak, ug, ls, (shR ro 48 (48 + (n - 1))), (upd sz 2 (nI (n - 1))), ft, la)) := h
  simp only [f_T_takeIn, h', Option.bind_some]
  exact t_shiftF (ft := ft) (sz := upd sz 2 (nI (n - 1))) (m := n - 1) pk_us (by omega) (ro 48) 128 0 ft (by omega) (by omega)
