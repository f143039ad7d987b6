/-! writing register 2 -/
theorem rg_lim {lim lim' n : Nat} {q : Nat → Int32} {u : RgT} (h : RG lim n q u) (h1 : n ≤ lim') (h2 : lim' < 32) : RG lim' n q (nI lim', u.2) := by
  obtain ⟨k, hk, hn, hl, e1, e2, e3, hq⟩ := h
  exact ⟨k, hk, h1, h2, rfl, e2, e3, hq⟩
def LQ (q : Int32) : Int32 := if q = 0 then 1 else 16
theorem LQ_Lm (q : Int32) : LQ q = nI (Lm q) := by
  unfold LQ Lm
  by_cases h : q = 0
  · rw [if_pos h, if_pos h]; rfl
  · rw [if_neg h, if_neg h]; rfl
def LV (q lv b : Int32) : Int32 := if q = 0 then lv else lvI ((b >>> ((6 : Int32) &&& 31)) &&& 3).toNatClampNeg
def VA (x2 : Int32) (no : Nat) (va : Int32) : Int32 := if x2 = 0 then va else (if no = 0 then 1 else va)
theorem VA_bt {x2 va : Int32} {no : Nat} (h : Bt va) : Bt (VA x2 no va) := by
  unfold VA
  by_cases c1 : x2 = 0
  · rw [if_pos c1]; exact h
  · by_cases c2 : no = 0
    · rw [if_neg c1, if_pos c2]; exact Or.inr rfl
    · rw [if_neg c1, if_neg c2]; exact h
theorem gi_ok {α : Type} {i : Int32} {n : Nat} {k : Option α} (h : vp_in i n) : gi_ i n k = k := if_neg h
theorem c98 {q lv en fm sp lo hi ov va qu se tg : Int32} {ir ou : RgT} {ct ch gv tt : Int32} {la : Nat → Int32} {no : Nat} {b x2 : Int32} (h3 : ou.2.2.1 = nI no) (hno : no < 32) : f_P_storeQueueing_98 (q, lv, en, fm, sp, lo, hi, ov, va, qu, se, tg, ir, ou, (ct, ch, gv), (tt, la)) b x2 = some (q, (LV q lv b), en, fm, sp, lo, hi, ov, (VA x2 no va), qu, se, tg, (LQ q, ir.2), (LQ q, ou.2), (ct, ch, gv), (tt, la)) := by
  obtain ⟨i1, i2, i3, i4⟩ := ir
  obtain ⟨o1, o2, o3, o4⟩ := ou
  dsimp only at h3
  subst h3
  have hv : vp_in ((b >>> ((6 : Int32) &&& 31)) &&& 3) 4 := pk_andIn _ 2 (by decide) (by decide)
  simp only [f_P_storeQueueing_98, f_P_storeQueueing_115, f_P_storeQueueing_153, f_P_storeQueueing_172, nz' hno, gi_ok hv, LQ, LV, VA]
  by_cases c1 : q = 0
  · by_cases c2 : x2 = 0
    · simp only [if_pos c1, if_pos c2]
    · by_cases c3 : no = 0
      · simp only [if_pos c1, if_neg c2, if_pos c3]
      · simp only [if_pos c1, if_neg c2, if_neg c3]
  · by_cases c2 : x2 = 0
    · simp only [if_neg c1, if_pos c2]
    · by_cases c3 : no = 0
      · simp only [if_neg c1, if_neg c2, if_pos c3]
      · simp only [if_neg c1, if_neg c2, if_neg c3]
theorem c73 {q lv en fm sp lo hi ov va qu se tg : Int32} {ir ou : RgT} {ct ch gv tt : Int32} {la : Nat → Int32} {lim no : Nat} {b x2 x4 : Int32} {q0 : Nat → Int32} (hR : RG lim no q0 ou) : ∃ ou1 no1, f_P_storeQueueing_73 (q, lv, en, fm, sp, lo, hi, ov, va, qu, se, tg, ir, ou, (ct, ch, gv), (tt, la)) b x2 x4 = f_P_storeQueueing_98 (q, lv, en, fm, sp, lo, hi, ov, va, qu, se, tg, ir, ou1, (ct, ch, gv), (tt, la)) b x2 ∧ RG lim no1 q0 ou1 ∧ no1 = (if x4 = 0 ∧ (q = 0 ∨ (b &&& 4) = 0) then no else 0) := by
  obtain ⟨ou', hc, hR'⟩ := rg_clear hR
  by_cases c : x4 = 0 ∧ (q = 0 ∨ (b &&& 4) = 0)
  · refine ⟨ou, no, ?_, hR, by rw [if_pos c]⟩
    obtain ⟨i1, i2, i3, i4⟩ := ir
    obtain ⟨o1, o2, o3, o4⟩ := ou
    simp only [f_P_storeQueueing_73, if_pos c.1]
    by_cases c2 : q = 0
    · simp only [if_pos c2]
    · simp only [if_neg c2, if_pos (c.2.resolve_left c2)]
  · refine ⟨ou', 0, ?_, hR' q0, by rw [if_neg c]⟩
    obtain ⟨i1, i2, i3, i4⟩ := ir
    obtain ⟨o1, o2, o3, o4⟩ := ou
    obtain ⟨k1, k2, k3, k4⟩ := ou'
    simp only [f_P_storeQueueing_73, f_P_storeQueueing_91, hc, Option.bind_some]
    by_cases c1 : x4 = 0
    · have c2 : ¬ q = 0 := fun z => c ⟨c1, Or.inl z⟩
      have c3 : ¬ (b &&& 4) = 0 := fun z => c ⟨c1, Or.inr z⟩
      simp only [if_pos c1, if_neg c2, if_neg c3]
    · simp only [if_neg c1]
theorem c41 {q lv en fm sp lo hi ov va qu se tg : Int32} {ir ou : RgT} {ct ch gv tt : Int32} {la : Nat → Int32} {lim ni : Nat} {b x2 x3 s1 : Int32} {q0 : Nat → Int32} (hR : RG lim ni q0 ir) (h3 : Bt x3) : ∃ ir1 ni1, f_P_storeQueueing_41 (q, lv, en, fm, sp, lo, hi, ov, va, qu, se, tg, ir, ou, (ct, ch, gv), (tt, la)) b x2 x3 s1 = f_P_storeQueueing_73 (x3, lv, en, fm, sp, lo, hi, ov, va, qu, se, tg, ir1, ou, (ct, ch, gv), (tt, la)) b x2 s1 ∧ RG lim ni1 q0 ir1 ∧ ni1 = (if s1 = 0 ∧ (x3 = 0 ∨ (b &&& 2) = 0) then ni else 0) := by
  obtain ⟨ir', hc, hR'⟩ := rg_clear hR
  by_cases c : s1 = 0 ∧ (x3 = 0 ∨ (b &&& 2) = 0)
  · refine ⟨ir, ni, ?_, hR, by rw [if_pos c]⟩
    obtain ⟨i1, i2, i3, i4⟩ := ir
    obtain ⟨o1, o2, o3, o4⟩ := ou
    simp only [f_P_storeQueueing_41, gb_t h3, if_pos c.1]
    by_cases c2 : x3 = 0
    · simp only [if_pos c2]
    · simp only [if_neg c2, if_pos (c.2.resolve_left c2)]
  · refine ⟨ir', 0, ?_, hR' q0, by rw [if_neg c]⟩
    obtain ⟨i1, i2, i3, i4⟩ := ir
    obtain ⟨o1, o2, o3, o4⟩ := ou
    obtain ⟨k1, k2, k3, k4⟩ := ir'
    simp only [f_P_storeQueueing_41, gb_t h3, f_P_storeQueueing_66, hc, Option.bind_some]
    by_cases c1 : s1 = 0
    · have c2 : ¬ x3 = 0 := fun z => c ⟨c1, Or.inl z⟩
      have c3 : ¬ (b &&& 2) = 0 := fun z => c ⟨c1, Or.inr z⟩
      simp only [if_pos c1, if_neg c2, if_neg c3]
    · simp only [if_neg c1]
theorem lv_all : ∀ b, b < 256 → (if (nI b >>> ((6 : Int32) &&& 31)) = 0 then (1 : Int32) else if (nI b >>> ((6 : Int32) &&& 31)) = 1 then 4 else if (nI b >>> ((6 : Int32) &&& 31)) = 2 then 8 else 14) = lvI ((nI b >>> ((6 : Int32) &&& 31)) &&& 3).toNatClampNeg := by decide +kernel
theorem t98 {tk du se he lv en fm ct sp lo hi ov va q gv ch tt hd ak ug ls : Int32} {ro sz ft la : Nat → Int32} {no : Nat} {b x2 : Int32} (hs : sz 3 = nI no) (hno : no < 32) (hb : By 256 b) (hv : Bt va) : f_T_writeQueues_98 (tk, du, se, he, lv, en, fm, ct, sp, lo, hi, ov, va, q, gv, ch, tt, hd, ak, ug, ls, ro, sz, ft, la) b x2 = some (tk, du, se, he, (LV q lv b), en, fm, ct, sp, lo, hi, ov, (VA x2 no va), q, gv, ch, tt, hd, ak, ug, ls, ro, sz, ft, la) := by
  have e : (if (b >>> ((6 : Int32) &&& 31)) = 0 then (1 : Int32) else if (b >>> ((6 : Int32) &&& 31)) = 1 then 4 else if (b >>> ((6 : Int32) &&& 31)) = 2 then 8 else 14) = lvI ((b >>> ((6 : Int32) &&& 31)) &&& 3).toNatClampNeg := by
    obtain ⟨k, hk, rfl⟩ := hb
    exact lv_all k hk
  have h136 : ∀ s, f_T_writeQueues_136 (tk, du, se, he, lv, en, fm, ct, sp, lo, hi, ov, va, q, gv, ch, tt, hd, ak, ug, ls, ro, sz, ft, la) x2 s = some (tk, du, se, he, (if q = 0 then lv else s), en, fm, ct, sp, lo, hi, ov, (VA x2 no va), q, gv, ch, tt, hd, ak, ug, ls, ro, sz, ft, la) := by
    intro s
    simp only [f_T_writeQueues_136, f_T_writeQueues_155, f_T_writeQueues_179, f_T_writeQueues_183, f_T_writeQueues_184, g34, cl3, hs, nz' hno, gb_0, gb_1, VA]
    rcases hv with rfl | rfl
    · by_cases c1 : q = 0
      · by_cases c2 : x2 = 0
        · simp only [if_pos c1, if_pos c2, if_true]
        · by_cases c3 : no = 0
          · simp only [if_pos c1, if_neg c2, if_pos c3, if_true]
          · simp only [if_pos c1, if_neg c2, if_neg c3, if_true]
      · by_cases c2 : x2 = 0
        · simp only [if_neg c1, if_pos c2, if_true]
        · by_cases c3 : no = 0
          · simp only [if_neg c1, if_neg c2, if_pos c3, if_true]
          · simp only [if_neg c1, if_neg c2, if_neg c3, if_true]
    · have h10 : ¬ (1 : Int32) = 0 := by decide
      by_cases c1 : q = 0
      · simp only [if_pos c1, if_neg h10, ite_self]
      · simp only [if_neg c1, if_neg h10, ite_self]
  simp only [f_T_writeQueues_98, h136, LV, ← e]
  by_cases c1 : (b >>> ((6 : Int32) &&& 31)) = 0
  · simp only [if_pos c1]
  · by_cases c2 : (b >>> ((6 : Int32) &&& 31)) = 1
    · simp only [if_neg c1, if_pos c2]
    · by_cases c3 : (b >>> ((6 : Int32) &&& 31)) = 2
      · simp only [if_neg c1, if_neg c2, if_pos c3]
      · simp only [if_neg c1, if_neg c2, if_neg c3]
theorem onb_all : ∀ b, b < 256 → ((onI (nI b) 1 = 0) ↔ ((nI b &&& 2) = 0)) ∧ ((onI (nI b) 2 = 0) ↔ ((nI b &&& 4) = 0)) ∧ (if (nI b &&& 1) = 0 then (0 : Int32) else 1) = onI (nI b) 0 := by decide +kernel
theorem onb {b : Int32} (h : By 256 b) : ((onI b 1 = 0) = ((b &&& 2) = 0)) ∧ ((onI b 2 = 0) = ((b &&& 4) = 0)) ∧ (if (b &&& 1) = 0 then (0 : Int32) else 1) = onI b 0 := by
  obtain ⟨k, hk, rfl⟩ := h
  obtain ⟨h1, h2, h3⟩ := onb_all k hk
  exact ⟨propext h1, propext h2, h3⟩
theorem t71 {tk du se he lv en fm ct sp lo hi ov va q gv ch tt hd ak ug ls : Int32} {ro sz ft la : Nat → Int32} {b x2 x3 : Int32} (hb : By 256 b) : f_T_writeQueues_71 (tk, du, se, he, lv, en, fm, ct, sp, lo, hi, ov, va, q, gv, ch, tt, hd, ak, ug, ls, ro, sz, ft, la) b x2 x3 = f_T_writeQueues_98 (tk, du, se, he, lv, en, fm, ct, sp, lo, hi, ov, va, q, gv, ch, tt, hd, ak, ug, ls, ro, (if x3 = 0 ∧ (q = 0 ∨ (b &&& 4) = 0) then sz else upd sz 3 0), ft, la) b x2 := by
  simp only [f_T_writeQueues_71, f_T_writeQueues_91, t_isOn, Option.bind_some, (onb hb).2.1, g34, cl3]
  by_cases c : x3 = 0 ∧ (q = 0 ∨ (b &&& 4) = 0)
  · simp only [if_pos c, if_pos c.1]
    by_cases c2 : q = 0
    · simp only [if_pos c2]
    · simp only [if_neg c2, if_pos (c.2.resolve_left c2)]
  · simp only [if_neg c]
    by_cases c1 : x3 = 0
    · have c2 : ¬ q = 0 := fun z => c ⟨c1, Or.inl z⟩
      have c3 : ¬ (b &&& 4) = 0 := fun z => c ⟨c1, Or.inr z⟩
      simp only [if_pos c1, if_neg c2, if_neg c3]
    · simp only [if_neg c1]
theorem t33 {tk du se he lv en fm ct sp lo hi ov va q gv ch tt hd ak ug ls : Int32} {ro sz ft la : Nat → Int32} {b x2 s1 : Int32} (hb : By 256 b) : f_T_writeQueues_33 (tk, du, se, he, lv, en, fm, ct, sp, lo, hi, ov, va, q, gv, ch, tt, hd, ak, ug, ls, ro, sz, ft, la) b x2 s1 = f_T_writeQueues_71 (tk, du, se, he, lv, en, fm, ct, sp, lo, hi, ov, va, (onI b 0), gv, ch, tt, hd, ak, ug, ls, ro, (if s1 = 0 ∧ (onI b 0 = 0 ∨ (b &&& 2) = 0) then sz else upd sz 2 0), ft, la) b x2 s1 := by
  simp only [f_T_writeQueues_33, f_T_writeQueues_64, t_isOn, Option.bind_some, (onb hb).1, g24, cl2, gb_t (onI_bt b 0)]
  by_cases c : s1 = 0 ∧ (onI b 0 = 0 ∨ (b &&& 2) = 0)
  · simp only [if_pos c, if_pos c.1]
    by_cases c2 : onI b 0 = 0
    · simp only [if_pos c2]
    · simp only [if_neg c2, if_pos (c.2.resolve_left c2)]
  · simp only [if_neg c]
    by_cases c1 : s1 = 0
    · have c2 : ¬ onI b 0 = 0 := fun z => c ⟨c1, Or.inl z⟩
      have c3 : ¬ (b &&& 2) = 0 := fun z => c ⟨c1, Or.inr z⟩
      simp only [if_pos c1, if_neg c2, if_neg c3]
    · simp only [if_neg c1]
theorem s_queue {N : Nat} {hd ak uc ls : Int32} {fo ba : RgT} {p : PtT} {v : TwT} (h : Rl N hd ak uc ls fo ba p v) {b : Int32} (hb : By 256 b) : ∃ p' v', f_P_storeQueueing p b = some p' ∧ f_T_writeQueues v b = some v' ∧ Rl N hd ak uc ls fo ba p' v' ∧ inT v' = inT v := by
  obtain ⟨tk, du, se, he, lv, en, fm, ct, sp, lo, hi, ov, va, q, gv, ch, tt, ug, ro, sz, ft, la, qu, tg, ir, ou, nf, nb, ni, no, T, g, rfl, rfl, hSc, hU, hF, hB, hI, hO, hH, hQ⟩ := h
  obtain ⟨bq, ben, bfm, bct, bch, bgv, blo, bhi, bov, bva, bse, bhd, bak⟩ := hSc
  have hlm := Lm_in q
  have hlm' := Lm_in (onI b 0)
  obtain ⟨qi, hRi, hsi, hEi⟩ := hI
  obtain ⟨qo, hRo, hso, hEo⟩ := hO
  have hlei := hRi.le
  have hleo := hRo.le
  have hszo := hRo.size
  generalize hs1 : (if onI b 0 = q then (0 : Int32) else 1) = s1
  generalize hx2 : (if no = 0 then (0 : Int32) else 1) = x2
  obtain ⟨ir1, ni1, ec1, hRi1, eni1⟩ := c41 (q := q) (lv := lv) (en := en) (fm := fm) (sp := sp) (lo := lo) (hi := hi) (ov := ov) (va := va) (qu := qu) (se := se) (tg := tg) (ir := ir) (ou := ou) (ct := ct) (ch := ch) (gv := gv) (tt := tt) (la := la) (b := b) (x2 := x2) (s1 := s1) hRi (onI_bt b 0)
  obtain ⟨ou1, no1, ec2, hRo1, eno1⟩ := c73 (q := onI b 0) (lv := lv) (en := en) (fm := fm) (sp := sp) (lo := lo) (hi := hi) (ov := ov) (va := va) (qu := qu) (se := se) (tg := tg) (ir := ir1) (ou := ou) (ct := ct) (ch := ch) (gv := gv) (tt := tt) (la := la) (b := b) (x2 := x2) (x4 := s1) hRo
  have hleo1 := hRo1.le
  have ec3 := c98 (q := onI b 0) (lv := lv) (en := en) (fm := fm) (sp := sp) (lo := lo) (hi := hi) (ov := ov) (va := va) (qu := qu) (se := se) (tg := tg) (ir := ir1) (ou := ou1) (ct := ct) (ch := ch) (gv := gv) (tt := tt) (la := la) (b := b) (x2 := x2) hRo1.size (by omega)
  have eP : f_P_storeQueueing (q, lv, en, fm, sp, lo, hi, ov, va, qu, se, tg, ir, ou, (ct, ch, gv), (tt, la)) b = f_P_storeQueueing_41 (q, lv, en, fm, sp, lo, hi, ov, va, qu, se, tg, ir, ou, (ct, ch, gv), (tt, la)) b x2 (onI b 0) s1 := by
    obtain ⟨i1, i2, i3, i4⟩ := ir
    obtain ⟨o1, o2, o3, o4⟩ := ou
    dsimp only at hszo
    subst hszo
    simp only [f_P_storeQueueing, f_P_storeQueueing_15, f_P_storeQueueing_27, nz (show no < 32 by omega), ← hs1, ← hx2, ← (onb hb).2.2]
    by_cases c1 : no = 0
    · by_cases c2 : (b &&& 1) = 0
      · simp only [if_pos c1, if_pos c2]
        by_cases c3 : (0 : Int32) = q
        · simp only [if_pos c3]
        · simp only [if_neg c3]
      · simp only [if_pos c1, if_neg c2]
        by_cases c3 : (1 : Int32) = q
        · simp only [if_pos c3]
        · simp only [if_neg c3]
    · by_cases c2 : (b &&& 1) = 0
      · simp only [if_neg c1, if_pos c2]
        by_cases c3 : (0 : Int32) = q
        · simp only [if_pos c3]
        · simp only [if_neg c3]
      · simp only [if_neg c1, if_neg c2]
        by_cases c3 : (1 : Int32) = q
        · simp only [if_pos c3]
        · simp only [if_neg c3]
  have eT : f_T_writeQueues (tk, du, se, he, lv, en, fm, ct, sp, lo, hi, ov, va, q, gv, ch, tt, hd, ak, ug, ls, ro, sz, ft, la) b = f_T_writeQueues_33 (tk, du, se, he, lv, en, fm, ct, sp, lo, hi, ov, va, q, gv, ch, tt, hd, ak, ug, ls, ro, sz, ft, la) b x2 s1 := by
    simp only [f_T_writeQueues, f_T_writeQueues_14, t_isOn, Option.bind_some, g34, cl3, hso, nz (show no < 32 by omega), ← hs1, ← hx2]
    by_cases c1 : no = 0
    · by_cases c3 : q = onI b 0
      · simp only [if_pos c1, if_pos c3, if_pos c3.symm]
      · simp only [if_pos c1, if_neg c3, if_neg (fun z => c3 (Eq.symm z))]
    · by_cases c3 : q = onI b 0
      · simp only [if_neg c1, if_pos c3, if_pos c3.symm]
      · simp only [if_neg c1, if_neg c3, if_neg (fun z => c3 (Eq.symm z))]
  have hz2 : ∀ j, j ≠ 2 → (if s1 = 0 ∧ (onI b 0 = 0 ∨ (b &&& 2) = 0) then sz else upd sz 2 0) j = sz j := by
    intro j hj
    by_cases c : s1 = 0 ∧ (onI b 0 = 0 ∨ (b &&& 2) = 0)
    · rw [if_pos c]
    · rw [if_neg c, pk_un hj]
  have hz22 : (if s1 = 0 ∧ (onI b 0 = 0 ∨ (b &&& 2) = 0) then sz else upd sz 2 0) 2 = nI ni1 := by
    rw [eni1]
    by_cases c : s1 = 0 ∧ (onI b 0 = 0 ∨ (b &&& 2) = 0)
    · rw [if_pos c, if_pos c]; exact hsi
    · rw [if_neg c, if_neg c, pk_us]; rfl
  rw [t33 hb, t71 hb] at eT
  generalize hS1 : (if s1 = 0 ∧ (onI b 0 = 0 ∨ (b &&& 2) = 0) then sz else upd sz 2 0) = sz1 at eT hz2 hz22
  have hz3 : ∀ j, j ≠ 3 → (if s1 = 0 ∧ (onI b 0 = 0 ∨ (b &&& 4) = 0) then sz1 else upd sz1 3 0) j = sz1 j := by
    intro j hj
    by_cases c : s1 = 0 ∧ (onI b 0 = 0 ∨ (b &&& 4) = 0)
    · rw [if_pos c]
    · rw [if_neg c, pk_un hj]
  have hz33 : (if s1 = 0 ∧ (onI b 0 = 0 ∨ (b &&& 4) = 0) then sz1 else upd sz1 3 0) 3 = nI no1 := by
    rw [eno1]
    by_cases c : s1 = 0 ∧ (onI b 0 = 0 ∨ (b &&& 4) = 0)
    · rw [if_pos c, if_pos c, hz2 3 (by decide)]; exact hso
    · rw [if_neg c, if_neg c, pk_us]; rfl
  generalize hS2 : (if s1 = 0 ∧ (onI b 0 = 0 ∨ (b &&& 4) = 0) then sz1 else upd sz1 3 0) = sz2 at eT hz3 hz33
  rw [t98 hz33 (by omega) hb bva] at eT
  rw [ec1, ec2, ec3] at eP
  have hs1b : s1 = 0 → onI b 0 = q := by
    intro z
    by_cases c : onI b 0 = q
    · exact c
    · rw [if_neg c] at hs1
      rw [← hs1] at z
      exact absurd z (by decide)
  have hni1 : ni1 ≤ ni ∧ ni1 ≤ Lm (onI b 0) := by
    rw [eni1]
    by_cases c : s1 = 0 ∧ (onI b 0 = 0 ∨ (b &&& 2) = 0)
    · rw [if_pos c, hs1b c.1]; omega
    · rw [if_neg c]; omega
  have hno1 : no1 ≤ no ∧ no1 ≤ Lm (onI b 0) := by
    rw [eno1]
    by_cases c : s1 = 0 ∧ (onI b 0 = 0 ∨ (b &&& 4) = 0)
    · rw [if_pos c, hs1b c.1]; omega
    · rw [if_neg c]; omega
  refine ⟨_, _, eP, eT, ?_, rfl⟩
  have e1 := LQ_Lm (onI b 0)
  rw [e1]
  refine Rl.mk (ni := ni1) (no := no1) (T := T) (g := g) ⟨onI_bt b 0, ben, bfm, bct, bch, bgv, blo, bhi, bov, VA_bt bva, bse, bhd, bak⟩ hU (hF.fr (fun _ _ _ => rfl) ((hz3 1 (by decide)).trans (hz2 1 (by decide)))) (hB.fr (fun _ _ => rfl) ((hz3 0 (by decide)).trans (hz2 0 (by decide)))) ⟨qi, rg_lim hRi1 hni1.2 (by omega), (hz3 2 (by decide)).trans hz22, fun i hi => hEi i (by omega)⟩ ⟨qo, rg_lim hRo1 hno1.2 (by omega), hz33, fun i hi => hEo i (by omega)⟩ hH (fun z => hQ (by omega))
