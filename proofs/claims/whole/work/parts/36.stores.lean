/-! writing a register -/
def inT (v : TwT) : Int32 := match v with
  | (tk, du, se, he, lv, en, fm, ct, sp, lo, hi, ov, va, q, gv, ch, tt, hd, ak, ug, ls, ro, sz, ft, la) => inI ct gv
theorem by255 (x : Int32) : By 256 (x &&& 255) := by
  obtain ⟨j, hj, e⟩ := pk_andE x (m := 255) 8 (by decide)
  exact ⟨j, hj, e⟩
theorem by15 (x : Int32) : By 16 (x &&& 15) := by
  obtain ⟨j, hj, e⟩ := pk_andE x (m := 15) 4 (by decide)
  exact ⟨j, hj, e⟩
theorem by31 (x : Int32) : By 32 (x &&& 31) := by
  obtain ⟨j, hj, e⟩ := pk_andE x (m := 31) 5 (by decide)
  exact ⟨j, hj, e⟩
theorem s_move {N : Nat} (hN : N ≤ 60000) {hd ak uc ls : Int32} {fo ba : RgT} {p : PtT} {v : TwT} (h : Rl N hd ak uc ls fo ba p v) : ∃ p' v', f_P_moveIfPossible p = some p' ∧ f_T_moveOne v 0 = some v' ∧ Rl N hd ak uc ls fo ba p' v' ∧ inT v' = inT v := by
  have h0 := h
  obtain ⟨tk, du, se, he, lv, en, fm, ct, sp, lo, hi, ov, va, q, gv, ch, tt, ug, ro, sz, ft, la, qu, tg, ir, ou, nf, nb, ni, no, T, g, rfl, rfl, hSc, hU, hF, hB, hI, hO, hH, hQ⟩ := h
  obtain ⟨bq, ben, bfm, bct, bch, bgv, blo, bhi, bov, bva, bse, bhd, bak⟩ := hSc
  have hlm := Lm_in q
  obtain ⟨e1, e2, e3, e4, e5⟩ := id hH
  by_cases hg : g = 0
  · subst hg
    rw [if_pos rfl] at e5
    subst e5
    have e3' : tg = 0 := e3
    subst e3'
    by_cases hno : no = 0
    · subst hno
      obtain ⟨h1, h2⟩ := mv_empty (tk := tk) (du := 0) (se := se) (he := he) (lv := lv) (en := en) (fm := fm) (ct := ct) (sp := sp) (lo := lo) (hi := hi) (ov := ov) (va := va) (q := q) (gv := gv) (ch := ch) (tt := tt) (hd := hd) (ak := ak) (ug := ug) (ls := ls) (ro := ro) (sz := sz) (ft := ft) (la := la) (qu := qu) (tg := 0) (ir := ir) (ou := ou) hO
      exact ⟨_, _, h1, h2 0, h0, rfl⟩
    · obtain ⟨n, rfl⟩ : ∃ n, no = n + 1 := ⟨no - 1, by omega⟩
      obtain ⟨a, ha, ea⟩ := id blo
      obtain ⟨b, hb, eb⟩ := id bhi
      obtain ⟨ou', c, ro', sz', hc, hO', f1, f2, h1, h2⟩ := mv_move (tk := tk) (du := 0) (se := se) (he := he) (lv := lv) (en := en) (fm := fm) (ct := ct) (sp := sp) (lo := lo) (hi := hi) (ov := ov) (va := va) (q := q) (gv := gv) (ch := ch) (tt := tt) (hd := hd) (ak := ak) (ug := ug) (ls := ls) (ro := ro) (sz := sz) (ft := ft) (la := la) (qu := qu) (tg := 0) (ir := ir) (ou := ou) hO hlm.2 ha hb ea eb bva
      have hsp := spN_in ha hb
      refine ⟨_, _, h1, h2 0, ?_, rfl⟩
      refine Rl.mk (T := T) (g := spN a b) ⟨bq, ben, bfm, bct, bch, bgv, blo, bhi, bov, ?_, hc, bhd, bak⟩ hU (hF.fr (fun j _ z => f1 j (by omega)) (f2 1 (by decide))) (hB.fr (fun j z => f1 j (by omega)) (f2 0 (by decide))) (hI.fr hlm.2 (fun j _ z => f1 j z) (f2 2 (by decide))) hO' ⟨e1, e2, rfl, hsp.2, ?_⟩ hQ
      · by_cases z : n = 0
        · rw [if_pos z]; exact Or.inr rfl
        · rw [if_neg z]; exact bva
      · rw [if_neg (by omega), e1]
        rw [show (0 : Int32) = nI 0 from rfl, nI_add, nI_add]; rfl
  · rw [if_neg hg] at e5
    obtain ⟨h1, h2⟩ := mv_busy (tk := tk) (du := du) (se := se) (he := he) (lv := lv) (en := en) (fm := fm) (ct := ct) (sp := sp) (lo := lo) (hi := hi) (ov := ov) (va := va) (q := q) (gv := gv) (ch := ch) (tt := tt) (hd := hd) (ak := ak) (ug := ug) (ls := ls) (ro := ro) (sz := sz) (ft := ft) (la := la) (qu := qu) (tg := tg) (ir := ir) (ou := ou) e3 e5 (by omega) (by omega) (by omega) (by omega)
    exact ⟨_, _, h1, h2 0, h0, rfl⟩
theorem s_data {N : Nat} (hN : N ≤ 60000) {hd ak uc ls : Int32} {fo ba : RgT} {p : PtT} {v : TwT} (h : Rl N hd ak uc ls fo ba p v) {b : Int32} (hb : By 256 b) : ∃ p' v', f_P_storeData p b = some p' ∧ f_T_writeData v b = some v' ∧ Rl N hd ak uc ls fo ba p' v' ∧ inT v' = inT v := by
  obtain ⟨tk, du, se, he, lv, en, fm, ct, sp, lo, hi, ov, va, q, gv, ch, tt, ug, ro, sz, ft, la, qu, tg, ir, ou, nf, nb, ni, no, T, g, rfl, rfl, hSc, hU, hF, hB, hI, hO, hH, hQ⟩ := h
  obtain ⟨bq, ben, bfm, bct, bch, bgv, blo, bhi, bov, bva, bse, bhd, bak⟩ := hSc
  have hlm := Lm_in q
  obtain ⟨q0, hR, hs, hE⟩ := id hO
  have hle := hR.le
  have eLm : (if q = 0 then (1 : Int32) else 16) = nI (Lm q) := by
    unfold Lm
    by_cases hq : q = 0
    · rw [if_pos hq, if_pos hq]; rfl
    · rw [if_neg hq, if_neg hq]; rfl
  have hz : Bt (0 : Int32) := Or.inl rfl
  by_cases hn : no < Lm q
  · obtain ⟨ou', ha, hR'⟩ := rg_append hR hn b
    have ht : f_T_append (tk, du, se, he, lv, en, fm, ct, sp, lo, hi, ov, 0, q, gv, ch, tt, hd, ak, ug, ls, ro, sz, ft, la) 3 b = some (tk, du, se, he, lv, en, fm, ct, sp, lo, hi, ov, 0, q, gv, ch, tt, hd, ak, ug, ls, (upd ro (72 + no) b), (upd sz 3 (nI (no + 1))), ft, la) := t_append (r := 3) (by decide) hs (by omega) b
    have key : Rl N hd ak uc ls fo ba (q, lv, en, fm, sp, lo, hi, ov, 0, qu, se, tg, ir, ou', (ct, ch, gv), (tt, la)) (tk, du, se, he, lv, en, fm, ct, sp, lo, hi, ov, 0, q, gv, ch, tt, hd, ak, ug, ls, (upd ro (72 + no) b), (upd sz 3 (nI (no + 1))), ft, la) := by
      refine Rl.mk (no := no + 1) ⟨bq, ben, bfm, bct, bch, bgv, blo, bhi, bov, hz, bse, bhd, bak⟩ hU (hF.fr (fun j _ z => pk_un (by omega)) (pk_un (by decide))) (hB.fr (fun j z => pk_un (by omega)) (pk_un (by decide))) (hI.fr hlm.2 (fun j _ z => pk_un (by omega)) (pk_un (by decide))) ⟨_, hR', pk_us, fun i hi => ?_⟩ hH hQ
      by_cases hin : i = no
      · subst hin
        rw [pk_us, pk_us]
        exact ⟨hb, rfl⟩
      · rw [pk_un hin, pk_un (by omega)]
        exact hE i (by omega)
    obtain ⟨p', v', h1, h2, h3, h4⟩ := s_move hN key
    refine ⟨p', v', ?_, ?_, h3, h4⟩
    · obtain ⟨i1, i2, i3, i4⟩ := ir
      obtain ⟨o1, o2, o3, o4⟩ := ou
      obtain ⟨k1, k2, k3, k4⟩ := ou'
      obtain ⟨z1, z2, z3, z4, z5, z6, z7, z8, z9, z10, z11, z12, ⟨j1, j2, j3, j4⟩, ⟨y1, y2, y3, y4⟩, ⟨m1, m2, m3⟩, ⟨n1, n2⟩⟩ := p'
      simp only [f_P_storeData, ha, Option.bind_some, h1]
    · obtain ⟨w1, w2, w3, w4, w5, w6, w7, w8, w9, w10, w11, w12, w13, w14, w15, w16, w17, w18, w19, w20, w21, w22, w23, w24, w25⟩ := v'
      simp only [f_T_writeData, f_T_writeData_24, g34, cl3, hs, t_places, Option.bind_some, eLm, ht, h2]
      rw [if_neg (nI_ge hn (by omega))]
  · have ha := rg_full hR hn b
    have key : Rl N hd ak uc ls fo ba (q, lv, en, fm, sp, lo, hi, ov, 0, qu, se, tg, ir, ou, (ct, ch, gv), (tt, la)) (tk, du, se, he, lv, en, fm, ct, sp, lo, hi, ov, 0, q, gv, ch, tt, hd, ak, ug, ls, ro, sz, ft, la) := Rl.mk ⟨bq, ben, bfm, bct, bch, bgv, blo, bhi, bov, hz, bse, bhd, bak⟩ hU hF hB hI hO hH hQ
    obtain ⟨p', v', h1, h2, h3, h4⟩ := s_move hN key
    refine ⟨p', v', ?_, ?_, h3, h4⟩
    · obtain ⟨i1, i2, i3, i4⟩ := ir
      obtain ⟨o1, o2, o3, o4⟩ := ou
      obtain ⟨z1, z2, z3, z4, z5, z6, z7, z8, z9, z10, z11, z12, ⟨j1, j2, j3, j4⟩, ⟨y1, y2, y3, y4⟩, ⟨m1, m2, m3⟩, ⟨n1, n2⟩⟩ := p'
      simp only [f_P_storeData, ha, Option.bind_some, h1]
    · obtain ⟨w1, w2, w3, w4, w5, w6, w7, w8, w9, w10, w11, w12, w13, w14, w15, w16, w17, w18, w19, w20, w21, w22, w23, w24, w25⟩ := v'
      simp only [f_T_writeData, f_T_writeData_24, g34, cl3, hs, t_places, Option.bind_some, eLm, h2]
      rw [if_pos (nI_le (by omega) (by omega))]
theorem en_all : ∀ b, b < 256 → ((onI (nI b &&& 15) 1 = 0) ↔ ((nI b &&& 2) = 0)) := by decide +kernel
theorem s_enab {N : Nat} {hd ak uc ls : Int32} {fo ba : RgT} {p : PtT} {v : TwT} (h : Rl N hd ak uc ls fo ba p v) {b : Int32} (hb : By 256 b) : ∃ p' v', f_P_storeEnabled p b = some p' ∧ f_T_writeEnabled v b = some v' ∧ Rl N hd ak uc ls fo ba p' v' ∧ inT v' = inT v := by
  obtain ⟨tk, du, se, he, lv, en, fm, ct, sp, lo, hi, ov, va, q, gv, ch, tt, ug, ro, sz, ft, la, qu, tg, ir, ou, nf, nb, ni, no, T, g, rfl, rfl, hSc, hU, hF, hB, hI, hO, hH, hQ⟩ := h
  obtain ⟨bq, ben, bfm, bct, bch, bgv, blo, bhi, bov, bva, bse, bhd, bak⟩ := hSc
  have hlm := Lm_in q
  obtain ⟨q0, hR, hs, hE⟩ := id hO
  have hle := hR.le
  have hsz := hR.size
  have hb2 : (onI (b &&& 15) 1 = 0) = ((b &&& 2) = 0) := by
    obtain ⟨k, hk, rfl⟩ := hb
    exact propext (en_all k hk)
  have key : ∀ va', Bt va' → Rl N hd ak uc ls fo ba (q, lv, (b &&& 15), fm, sp, lo, hi, ov, va', qu, se, tg, ir, ou, (ct, ch, gv), (tt, la)) (tk, du, se, he, lv, (b &&& 15), fm, ct, sp, lo, hi, ov, va', q, gv, ch, tt, hd, ak, ug, ls, ro, sz, ft, la) := fun va' hv => Rl.mk ⟨bq, by15 b, bfm, bct, bch, bgv, blo, bhi, bov, hv, bse, bhd, bak⟩ hU hF hB hI hO hH hQ
  refine ⟨_, _, ?_, ?_, key (if (en &&& 2) = 0 then (if (b &&& 2) = 0 then va else (if no = 0 then 1 else va)) else va) ?_, rfl⟩
  · obtain ⟨i1, i2, i3, i4⟩ := ir
    obtain ⟨o1, o2, o3, o4⟩ := ou
    dsimp only at hsz
    subst hsz
    have h10 : ¬ (1 : Int32) = 0 := by decide
    simp only [f_P_storeEnabled, f_P_storeEnabled_19, f_P_storeEnabled_20, f_P_storeEnabled_48, if_true, if_neg h10, nz' (show no < 32 by omega)]
    by_cases c1 : (en &&& 2) = 0
    · by_cases c2 : (b &&& 2) = 0
      · simp only [if_pos c1, if_pos c2]
      · by_cases c3 : no = 0
        · simp only [if_pos c1, if_neg c2, if_pos c3]
        · simp only [if_pos c1, if_neg c2, if_neg c3]
    · simp only [if_neg c1]
  · simp only [f_T_writeEnabled, f_T_writeEnabled_51, f_T_writeEnabled_55, f_T_writeEnabled_56, t_isOn, Option.bind_some, (on_en ben).2.1, hb2, g34, cl3, hs, gb_0, gb_1, nz' (show no < 32 by omega)]
    rcases bva with e | e
    · subst e
      rw [if_pos rfl]
      by_cases c1 : (en &&& 2) = 0
      · by_cases c2 : (b &&& 2) = 0
        · simp only [if_pos c1, if_pos c2]
        · by_cases c3 : no = 0
          · simp only [if_pos c1, if_neg c2, if_pos c3]
          · simp only [if_pos c1, if_neg c2, if_neg c3]
      · simp only [if_neg c1]
    · subst e
      have h10 : ¬ (1 : Int32) = 0 := by decide
      rw [if_neg h10]
      simp only [ite_self]
  · by_cases c1 : (en &&& 2) = 0
    · by_cases c2 : (b &&& 2) = 0
      · simp only [if_pos c1, if_pos c2]; exact bva
      · by_cases c3 : no = 0
        · simp only [if_pos c1, if_neg c2, if_pos c3]; exact Or.inr rfl
        · simp only [if_pos c1, if_neg c2, if_neg c3]; exact bva
    · simp only [if_neg c1]; exact bva
