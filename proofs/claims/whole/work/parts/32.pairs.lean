/-! the class's small methods, and what class and reference hold alike: queues, moves, arrivals -/
def ubI (fm : Int32) : Int32 := if (fm &&& 128) = 0 then 0 else 1
theorem ub_on : ∀ c, c < 256 → onI (nI c) 7 = ubI (nI c) := by decide +kernel
theorem ub_On {fm : Int32} (h : By 256 fm) : onI fm 7 = ubI fm := by
  obtain ⟨c, hc, rfl⟩ := h
  exact ub_on c hc
theorem p_uob {q lv en fm sp lo hi ov va qu se tg : Int32} {ir ou : RgT} {ct ch gv tt : Int32} {la : Nat → Int32} : f_P_usesOtherBank (q, lv, en, fm, sp, lo, hi, ov, va, qu, se, tg, ir, ou, (ct, ch, gv), (tt, la)) = some (ubI fm) := by
  obtain ⟨i1, i2, i3, i4⟩ := ir
  obtain ⟨o1, o2, o3, o4⟩ := ou
  unfold ubI
  by_cases h : (fm &&& 128) = 0
  · simp only [f_P_usesOtherBank, f_P_usesOtherBank_16, if_pos h, gb_0]
  · simp only [f_P_usesOtherBank, f_P_usesOtherBank_16, if_neg h, gb_1]
theorem p_span {q lv en fm sp lo hi ov va qu se tg : Int32} {ir ou : RgT} {ct ch gv tt : Int32} {la : Nat → Int32} {a b : Nat} (ha : a < 256) (hb : b < 256) (e1 : lo = nI a) (e2 : hi = nI b) : f_P_span (q, lv, en, fm, sp, lo, hi, ov, va, qu, se, tg, ir, ou, (ct, ch, gv), (tt, la)) = some (nI (spN a b)) := by
  obtain ⟨i1, i2, i3, i4⟩ := ir
  obtain ⟨o1, o2, o3, o4⟩ := ou
  subst e1 e2
  unfold spN
  by_cases h : a + 256 * b = 0
  · simp only [f_P_span, f_P_span_23, sp_sum, if_pos h]
    rw [h, if_pos (by decide)]; rfl
  · simp only [f_P_span, f_P_span_23, sp_sum, if_neg h]
    rw [if_neg (nI_ne0 (by omega) (by omega))]
theorem m_looped {ct ch gv : Int32} : f_M_isLooped (ct, ch, gv) = some (lpI ct) := by
  unfold lpI
  by_cases h : (ct &&& 16) = 0
  · simp only [f_M_isLooped, f_M_isLooped_15, if_pos h, gb_0]
  · simp only [f_M_isLooped, f_M_isLooped_15, if_neg h, gb_1]
theorem m_inputs {ct ch gv : Int32} : f_M_inputs (ct, ch, gv) = some (inI ct gv) := by
  simp only [f_M_inputs, m_looped, Option.bind_some, inI]
  by_cases h : lpI ct = 0
  · rw [if_pos h, if_pos h]
  · rw [if_neg h, if_neg h]
theorem m_note {ct ch gv b : Int32} : f_M_noteChanges (ct, ch, gv) b = some (ct, ntI ch b (inI ct gv), gv) := by
  simp only [f_M_noteChanges, m_inputs, Option.bind_some, ntI]
theorem m_lines {ct ch gv g : Int32} : f_M_setLines (ct, ch, gv) g = some (ct, ntI ch (inI ct gv) (inI ct g), g) := by
  simp only [f_M_setLines, m_inputs, m_note, Option.bind_some]
theorem m_control {ct ch gv c : Int32} : f_M_setControl (ct, ch, gv) c = some (c, ntI ch (inI ct gv) (inI c gv), gv) := by
  simp only [f_M_setControl, m_inputs, m_note, Option.bind_some]
theorem m_changes {ct ch gv : Int32} : f_M_readChanges (ct, ch, gv) = some ((ch + (16 * inI ct gv)), (ct, 0, gv)) := by
  simp only [f_M_readChanges, m_inputs, Option.bind_some]
/-! queues on both sides -/
def QF (n : Nat) (fo : RgT) (ro sz : Nat → Int32) : Prop := ∃ q : Nat → Int32, RG 24 n q fo ∧ sz 1 = nI n ∧ ∀ i, i < n → ro (24 + i) = q i
def QB (n : Nat) (ba : RgT) (ro sz : Nat → Int32) : Prop := ∃ q : Nat → Int32, RG 24 n q ba ∧ sz 0 = nI n ∧ ∀ i, i < n → ro i = q i
def QI (lim n : Nat) (ir : RgT) (ro sz ft : Nat → Int32) : Prop := ∃ q : Nat → Int32, RG lim n q ir ∧ sz 2 = nI n ∧ ∀ i, i < n → By 2048 (q i) ∧ ro (48 + i) = q i &&& 255 ∧ ft i = q i >>> ((8 : Int32) &&& 31)
def QO (lim n : Nat) (ou : RgT) (ro sz : Nat → Int32) : Prop := ∃ q : Nat → Int32, RG lim n q ou ∧ sz 3 = nI n ∧ ∀ i, i < n → By 256 (q i) ∧ ro (72 + i) = q i
theorem QF.fr {n : Nat} {fo : RgT} {ro sz ro' sz' : Nat → Int32} (h : QF n fo ro sz) (h1 : ∀ j, 24 ≤ j → j < 48 → ro' j = ro j) (h2 : sz' 1 = sz 1) : QF n fo ro' sz' := by
  obtain ⟨q, a, b, c⟩ := h
  have := a.le
  exact ⟨q, a, h2.trans b, fun i hi => (h1 _ (by omega) (by omega)).trans (c i hi)⟩
theorem QB.fr {n : Nat} {ba : RgT} {ro sz ro' sz' : Nat → Int32} (h : QB n ba ro sz) (h1 : ∀ j, j < 24 → ro' j = ro j) (h2 : sz' 0 = sz 0) : QB n ba ro' sz' := by
  obtain ⟨q, a, b, c⟩ := h
  have := a.le
  exact ⟨q, a, h2.trans b, fun i hi => (h1 _ (by omega)).trans (c i hi)⟩
theorem QI.fr {lim n : Nat} {ir : RgT} {ro sz ft ro' sz' : Nat → Int32} (h : QI lim n ir ro sz ft) (hl : lim ≤ 16) (h1 : ∀ j, 48 ≤ j → j < 72 → ro' j = ro j) (h2 : sz' 2 = sz 2) : QI lim n ir ro' sz' ft := by
  obtain ⟨q, a, b, c⟩ := h
  have := a.le
  exact ⟨q, a, h2.trans b, fun i hi => ⟨(c i hi).1, (h1 _ (by omega) (by omega)).trans (c i hi).2.1, (c i hi).2.2⟩⟩
theorem QO.fr {lim n : Nat} {ou : RgT} {ro sz ro' sz' : Nat → Int32} (h : QO lim n ou ro sz) (h1 : ∀ j, 72 ≤ j → ro' j = ro j) (h2 : sz' 3 = sz 3) : QO lim n ou ro' sz' := by
  obtain ⟨q, a, b, c⟩ := h
  exact ⟨q, a, h2.trans b, fun i hi => ⟨(c i hi).1, (h1 _ (by omega)).trans (c i hi).2⟩⟩
theorem ite_ad {c : Prop} [Decidable c] {α β : Type} {f : α → β} {a b : α} : (if c then f a else f b) = f (if c then a else b) := by
  by_cases h : c
  · rw [if_pos h, if_pos h]
  · rw [if_neg h, if_neg h]
/-! a character moves -/
theorem mv_busy {tk du se he lv en fm ct sp lo hi ov va q gv ch tt hd ak ug ls : Int32} {ro sz ft la : Nat → Int32} {qu tg : Int32} {ir ou : RgT} {g d : Nat} (h1 : tg = nI g) (h2 : du = nI d) (hg : 0 < g) (hd0 : 0 < d) (hgl : g < 2147483648) (hdl : d < 2147483648) : f_P_moveIfPossible (q, lv, en, fm, sp, lo, hi, ov, va, qu, se, tg, ir, ou, (ct, ch, gv), (tt, la)) = some (q, lv, en, fm, sp, lo, hi, ov, va, qu, se, tg, ir, ou, (ct, ch, gv), (tt, la)) ∧ ∀ s, f_T_moveOne (tk, du, se, he, lv, en, fm, ct, sp, lo, hi, ov, va, q, gv, ch, tt, hd, ak, ug, ls, ro, sz, ft, la) s = some (tk, du, se, he, lv, en, fm, ct, sp, lo, hi, ov, va, q, gv, ch, tt, hd, ak, ug, ls, ro, sz, ft, la) := by
  obtain ⟨i1, i2, i3, i4⟩ := ir
  obtain ⟨o1, o2, o3, o4⟩ := ou
  subst h1 h2
  constructor
  · simp only [f_P_moveIfPossible, f_P_moveIfPossible_17]
    rw [if_pos (show (0 : Int32) < nI g from nI_lt (a := 0) hg hgl)]
  · intro s
    simp only [f_T_moveOne, f_T_moveOne_16]
    rw [if_pos (show (0 : Int32) < nI d from nI_lt (a := 0) hd0 hdl)]
theorem mv_empty {tk du se he lv en fm ct sp lo hi ov va q gv ch tt hd ak ug ls : Int32} {ro sz ft la : Nat → Int32} {qu tg : Int32} {ir ou : RgT} {lim : Nat} (h : QO lim 0 ou ro sz) : f_P_moveIfPossible (q, lv, en, fm, sp, lo, hi, ov, va, qu, se, 0, ir, ou, (ct, ch, gv), (tt, la)) = some (q, lv, en, fm, sp, lo, hi, ov, va, qu, se, 0, ir, ou, (ct, ch, gv), (tt, la)) ∧ ∀ s, f_T_moveOne (tk, 0, se, he, lv, en, fm, ct, sp, lo, hi, ov, va, q, gv, ch, tt, hd, ak, ug, ls, ro, sz, ft, la) s = some (tk, 0, se, he, lv, en, fm, ct, sp, lo, hi, ov, va, q, gv, ch, tt, hd, ak, ug, ls, ro, sz, ft, la) := by
  obtain ⟨q0, hR, hs, hE⟩ := h
  have h3 := hR.size
  obtain ⟨i1, i2, i3, i4⟩ := ir
  obtain ⟨o1, o2, o3, o4⟩ := ou
  dsimp only at h3
  subst h3
  constructor
  · simp only [f_P_moveIfPossible, f_P_moveIfPossible_17]
    rw [if_neg (by decide), if_pos (by decide)]
  · intro s
    simp only [f_T_moveOne, f_T_moveOne_16, cl3, hs, g34]
    rw [if_neg (by decide), if_pos (by decide)]
theorem mv_move {tk du se he lv en fm ct sp lo hi ov va q gv ch tt hd ak ug ls : Int32} {ro sz ft la : Nat → Int32} {qu tg : Int32} {ir ou : RgT} {lim n a b : Nat} (h : QO lim (n + 1) ou ro sz) (hl : lim ≤ 16) (ha : a < 256) (hb : b < 256) (e1 : lo = nI a) (e2 : hi = nI b) (hv : Bt va) : ∃ (ou' : RgT) (c : Int32) (ro' sz' : Nat → Int32), By 256 c ∧ QO lim n ou' ro' sz' ∧ (∀ j, j < 72 → ro' j = ro j) ∧ (∀ j, j ≠ 3 → sz' j = sz j) ∧ f_P_moveIfPossible (q, lv, en, fm, sp, lo, hi, ov, va, qu, se, 0, ir, ou, (ct, ch, gv), (tt, la)) = some (q, lv, en, fm, sp, lo, hi, ov, (if n = 0 then 1 else va), qu, c, (nI (spN a b)), ir, ou', (ct, ch, gv), (tt, la)) ∧ ∀ s, f_T_moveOne (tk, 0, se, he, lv, en, fm, ct, sp, lo, hi, ov, va, q, gv, ch, tt, hd, ak, ug, ls, ro, sz, ft, la) s = some (tk, ((tk + s) + nI (spN a b)), c, he, lv, en, fm, ct, sp, lo, hi, ov, (if n = 0 then 1 else va), q, gv, ch, tt, hd, ak, ug, ls, ro', sz', ft, la) := by
  obtain ⟨q0, hR, hs, hE⟩ := h
  have hle := hR.le
  have h3 := hR.size
  obtain ⟨ou', hr1, hR'⟩ := rg_remove hR (Nat.succ_pos n)
  have h3' := hR'.size
  have ht : ∀ (du : Int32), f_T_removeFirst (tk, du, se, he, lv, en, fm, ct, sp, lo, hi, ov, va, q, gv, ch, tt, hd, ak, ug, ls, ro, sz, ft, la) 3 = some (ro 72, (tk, du, se, he, lv, en, fm, ct, sp, lo, hi, ov, va, q, gv, ch, tt, hd, ak, ug, ls, (shR ro 72 (72 + n)), (upd sz 3 (nI n)), ft, la)) := fun du => t_remove (r := 3) (by decide) hs (Nat.succ_pos n) (by omega)
  have h72 := (hE 0 (by omega)).2
  refine ⟨ou', q0 0, shR ro 72 (72 + n), upd sz 3 (nI n), (hE 0 (by omega)).1, ⟨fun i => q0 (i + 1), hR', pk_us, fun i hi => ⟨(hE (i + 1) (by omega)).1, ?_⟩⟩, fun j hj => ?_, fun j hj => pk_un hj, ?_, ?_⟩
  · have := (hE (i + 1) (by omega)).2
    show shR ro 72 (72 + n) (72 + i) = q0 (i + 1)
    rw [← this]
    unfold shR
    rw [if_pos (by omega)]
    congr 1
  · unfold shR
    rw [if_neg (by omega)]
  · obtain ⟨i1, i2, i3, i4⟩ := ir
    obtain ⟨o1, o2, o3, o4⟩ := ou
    obtain ⟨p1, p2, p3, p4⟩ := ou'
    dsimp only at h3 h3'
    subst h3 h3'
    simp only [f_P_moveIfPossible, f_P_moveIfPossible_52, hr1, Option.bind_some, p_span ha hb e1 e2]
    rw [if_neg (by decide), if_neg (nI_ne0 (Nat.succ_pos n) (by omega))]
    by_cases hn : n = 0
    · subst hn
      rw [if_pos (by decide), if_pos rfl]
    · rw [if_neg (nI_ne0 (by omega) (by omega)), if_neg hn]
  · intro s
    rw [Nat.add_zero] at h72
    simp only [f_T_moveOne, f_T_moveOne_58, f_T_moveOne_63, cl3, hs, g34, ht, Option.bind_some, t_span ha hb e1 e2, gb_1, gb_0, pk_us]
    rw [if_neg (by decide), if_neg (nI_ne0 (Nat.succ_pos n) (by omega)), h72]
    by_cases hn : n = 0
    · subst hn
      rw [if_pos (show nI 0 = 0 by decide), if_pos rfl]
      rcases hv with rfl | rfl
      · rw [if_pos rfl]
      · rw [if_neg (by decide)]
    · rw [if_neg (nI_ne0 (by omega) (by omega)), if_neg hn]
      rcases hv with rfl | rfl
      · rw [if_pos rfl]
      · rw [if_neg (by decide)]
/-! a character arrives -/
def Lm (q : Int32) : Nat := if q = 0 then 1 else 16
theorem Lm_in (q : Int32) : 1 ≤ Lm q ∧ Lm q ≤ 16 := by
  unfold Lm
  by_cases h : q = 0
  · rw [if_pos h]; omega
  · rw [if_neg h]; omega
theorem it_all : ∀ f, f < 8 → ∀ c, c < 256 → (nI c + 256 * nI f) &&& 255 = nI c ∧ (nI c + 256 * nI f) >>> ((8 : Int32) &&& 31) = nI f := by decide +kernel
theorem it_ok {c f : Int32} (hc : By 256 c) (hf : By 8 f) : By 2048 (c + 256 * f) ∧ (c + 256 * f) &&& 255 = c ∧ (c + 256 * f) >>> ((8 : Int32) &&& 31) = f := by
  obtain ⟨a, ha, rfl⟩ := hc
  obtain ⟨b, hb, rfl⟩ := hf
  exact ⟨⟨a + 256 * b, by omega, sp_sum a b⟩, it_all b hb a ha⟩
theorem arr {tk du se he lv en fm ct sp lo hi ov va q gv ch tt hd ak ug ls : Int32} {ro sz ft la : Nat → Int32} {qu tg : Int32} {ir ou : RgT} {n : Nat} (h : QI (Lm q) n ir ro sz ft) {c f : Int32} (hc : By 256 c) (hf : By 8 f) (hov : Bt ov) : ∃ (ir' : RgT) (ro' sz' ft' : Nat → Int32) (n' : Nat) (ov' : Int32), 0 < n' ∧ Bt ov' ∧ QI (Lm q) n' ir' ro' sz' ft' ∧ (∀ j, (j < 48 ∨ 72 ≤ j) → ro' j = ro j) ∧ (∀ j, j ≠ 2 → sz' j = sz j) ∧ f_P_arrive (q, lv, en, fm, sp, lo, hi, ov, va, qu, se, tg, ir, ou, (ct, ch, gv), (tt, la)) c f = some (q, lv, en, fm, sp, lo, hi, ov', va, 0, se, tg, ir', ou, (ct, ch, gv), (tt, la)) ∧ f_T_arrive (tk, du, se, he, lv, en, fm, ct, sp, lo, hi, ov, va, q, gv, ch, tt, hd, ak, ug, ls, ro, sz, ft, la) c f = some (tk, du, se, tk, lv, en, fm, ct, sp, lo, hi, ov', va, q, gv, ch, tt, hd, ak, ug, ls, ro', sz', ft', la) := by
  obtain ⟨q0, hR, hs, hE⟩ := h
  have hle := hR.le
  have hlm := Lm_in q
  obtain ⟨hi1, hi2, hi3⟩ := it_ok hc hf
  have hfull := rg_isFull hR
  have eLm : (if q = 0 then (1 : Int32) else 16) = nI (Lm q) := by
    unfold Lm
    by_cases hq : q = 0
    · rw [if_pos hq, if_pos hq]; rfl
    · rw [if_neg hq, if_neg hq]; rfl
  by_cases hn : n < Lm q
  · obtain ⟨ir', ha, hR'⟩ := rg_append hR hn (c + 256 * f)
    have ht : ∀ (he : Int32) (ft : Nat → Int32), f_T_append (tk, du, se, he, lv, en, fm, ct, sp, lo, hi, ov, va, q, gv, ch, tt, hd, ak, ug, ls, ro, sz, ft, la) 2 c = some (tk, du, se, he, lv, en, fm, ct, sp, lo, hi, ov, va, q, gv, ch, tt, hd, ak, ug, ls, (upd ro (48 + n) c), (upd sz 2 (nI (n + 1))), ft, la) := fun he ft => t_append (r := 2) (by decide) hs (by omega) c
    refine ⟨ir', upd ro (48 + n) c, upd sz 2 (nI (n + 1)), upd ft n f, n + 1, ov, Nat.succ_pos n, hov, ⟨_, hR', pk_us, fun i hi => ?_⟩, fun j hj => pk_un (by omega), fun j hj => pk_un hj, ?_, ?_⟩
    · by_cases hin : i = n
      · subst hin
        rw [pk_us, pk_us, pk_us]
        exact ⟨hi1, hi2.symm, hi3.symm⟩
      · rw [pk_un hin, pk_un (by omega), pk_un hin]
        exact hE i (by omega)
    · obtain ⟨i1, i2, i3, i4⟩ := ir
      obtain ⟨o1, o2, o3, o4⟩ := ou
      obtain ⟨p1, p2, p3, p4⟩ := ir'
      simp only [f_P_arrive, hfull, Option.bind_some, if_pos hn, ha, if_true]
    · simp only [f_T_arrive, g24, t_places, Option.bind_some, cl2, hs, ht, eLm]
      rw [if_neg (nI_ge hn (by omega)), gi_n (by omega) (by decide), pu_clamp (by omega)]
  · by_cases hq : q = 0
    · have hn1 : n = 1 := by
        have : Lm q = 1 := by unfold Lm; rw [if_pos hq]
        omega
      subst hn1
      obtain ⟨ir', ha, hR'⟩ := rg_replace hR (by omega) (c + 256 * f)
      refine ⟨ir', upd ro 48 c, sz, upd ft 0 f, 1, 1, by omega, Or.inr rfl, ⟨_, hR', hs, fun i hi => ?_⟩, fun j hj => pk_un (by omega), fun j hj => rfl, ?_, ?_⟩
      · have : i = 0 := by omega
        subst this
        rw [Nat.add_zero, pk_us, pk_us, pk_us]
        exact ⟨hi1, hi2.symm, hi3.symm⟩
      · obtain ⟨i1, i2, i3, i4⟩ := ir
        obtain ⟨o1, o2, o3, o4⟩ := ou
        obtain ⟨p1, p2, p3, p4⟩ := ir'
        simp only [f_P_arrive, f_P_arrive_52, hfull, Option.bind_some, if_neg hn, ha, if_pos hq]
        rw [if_neg (by decide)]
      · simp only [f_T_arrive, f_T_arrive_67, g24, t_places, Option.bind_some, cl2, hs, eLm, g4896, g016, cl48, cl0, if_pos hq]
        rw [if_pos (nI_le (by omega) (by omega))]
    · refine ⟨ir, ro, sz, ft, n, 1, by omega, Or.inr rfl, ⟨q0, hR, hs, hE⟩, fun j hj => rfl, fun j hj => rfl, ?_, ?_⟩
      · obtain ⟨i1, i2, i3, i4⟩ := ir
        obtain ⟨o1, o2, o3, o4⟩ := ou
        simp only [f_P_arrive, f_P_arrive_52, hfull, Option.bind_some, if_neg hn, if_neg hq]
        rw [if_neg (by decide)]
      · simp only [f_T_arrive, f_T_arrive_67, g24, t_places, Option.bind_some, cl2, hs, eLm, if_neg hq]
        rw [if_pos (nI_le (by omega) (by omega))]
