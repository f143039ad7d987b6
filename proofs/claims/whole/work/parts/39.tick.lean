/-! a tick -/
theorem p55 {q lv en fm sp lo hi ov va qu se tg : Int32} {ir ou : RgT} {ct ch gv tt : Int32} {la : Nat → Int32} {ni : Nat} {va' se' tg' x : Int32} {ou' : RgT} (hm : f_P_moveIfPossible (q, lv, en, fm, sp, lo, hi, ov, va, qu, se, tg, ir, ou, (ct, ch, gv), (tt, la)) = some (q, lv, en, fm, sp, lo, hi, ov, va', qu, se', tg', ir, ou', (ct, ch, gv), (tt, la))) (h3 : ir.2.2.1 = nI ni) (hn : ni < 32) (hx : Bt x) : f_P_passTick_55 (q, lv, en, fm, sp, lo, hi, ov, va, qu, se, tg, ir, ou, (ct, ch, gv), (tt, la)) x = some (x, (q, lv, en, fm, sp, lo, hi, ov, va', (if ni = 0 then qu else qu + 1), se', tg', ir, ou', (ct, ch, gv), (tt, la))) := by
  obtain ⟨i1, i2, i3, i4⟩ := ir
  obtain ⟨o1, o2, o3, o4⟩ := ou
  obtain ⟨k1, k2, k3, k4⟩ := ou'
  dsimp only at h3
  subst h3
  simp only [f_P_passTick_55, f_P_passTick_79, hm, Option.bind_some, nz hn, gb_t hx]
  by_cases c : ni = 0
  · simp only [if_pos c]
  · simp only [if_neg c]
theorem t45 {tk du se he lv en fm ct sp lo hi ov va q gv ch tt hd ak ug ls : Int32} {ro sz ft la : Nat → Int32} {va' se' du' a b c : Int32} {ro' sz' : Nat → Int32} (rec : TwT → Int32 → Int32 → Int32 → Option (Int32 × TwT)) (hm : f_T_moveOne (tk, du, se, he, lv, en, fm, ct, sp, lo, hi, ov, va, q, gv, ch, tt, hd, ak, ug, ls, ro, sz, ft, la) 1 = some (tk, du', se', he, lv, en, fm, ct, sp, lo, hi, ov, va', q, gv, ch, tt, hd, ak, ug, ls, ro', sz', ft, la)) : f_T_tick_45 rec (tk, du, se, he, lv, en, fm, ct, sp, lo, hi, ov, va, q, gv, ch, tt, hd, ak, ug, ls, ro, sz, ft, la) a b c = rec ((tk + 1), du', se', he, lv, en, fm, ct, sp, lo, hi, ov, va', q, gv, ch, tt, hd, ak, ug, ls, ro', sz', ft, la) a c (b + 1) := by
  simp only [f_T_tick_45, hm, Option.bind_some]
theorem tickB {tk du se he lv en fm ct sp lo hi ov va q gv ch tt hd ak ug ls : Int32} {ro sz ft la : Nat → Int32} {qu tg : Int32} {ir ou : RgT} {N nf nb ni no T g : Nat} {uc x : Int32} {fo ba : RgT} (hN : N ≤ 60000) (hSc : Sc q en fm ct ch gv lo hi ov va se hd ak) (hU : UG uc ug) (hF : QF nf fo ro sz) (hB : QB nb ba ro sz) (hI : QI (Lm q) ni ir ro sz ft) (hO : QO (Lm q) no ou ro sz) (e1 : tk = nI T) (e2 : T ≤ N) (e3 : tg = nI g) (e4 : g ≤ 65535) (e5 : du = (if g = 0 then 0 else nI (T + 1 + g))) (hQ : QT ni T he qu) (hx : Bt x) : ∃ p' v', f_P_passTick_55 (q, lv, en, fm, sp, lo, hi, ov, va, qu, se, tg, ir, ou, (ct, ch, gv), (tt, la)) x = some (x, p') ∧ (∀ rec a b c, f_T_tick_45 rec (tk, du, se, he, lv, en, fm, ct, sp, lo, hi, ov, va, q, gv, ch, tt, hd, ak, ug, ls, ro, sz, ft, la) a b c = rec v' a c (b + 1)) ∧ Rl (N + 1) hd ak uc ls fo ba p' v' := by
  obtain ⟨bq, ben, bfm, bct, bch, bgv, blo, bhi, bov, bva, bse, bhd, bak⟩ := hSc
  have hlm := Lm_in q
  have hni : ir.2.2.1 = nI ni ∧ ni < 32 := by
    obtain ⟨q0, hR, hs, hE⟩ := id hI
    have := hR.le
    exact ⟨hR.size, by omega⟩
  have etk : tk + 1 = nI (T + 1) := by rw [e1, nI_1]
  have hQ' : QT ni (T + 1) he (if ni = 0 then qu else qu + 1) := by
    intro hpos
    obtain ⟨h, h1, h2, h3⟩ := hQ hpos
    refine ⟨h, by omega, h2, ?_⟩
    rw [if_neg (by omega), h3, nI_1]
    congr 1; omega
  by_cases hg : g = 0
  · subst hg
    rw [if_pos rfl] at e5
    subst e5
    have e3' : tg = 0 := e3
    subst e3'
    by_cases hno : no = 0
    · subst hno
      obtain ⟨h1, h2⟩ := mv_empty (tk := tk) (du := 0) (se := se) (he := he) (lv := lv) (en := en) (fm := fm) (ct := ct) (sp := sp) (lo := lo) (hi := hi) (ov := ov) (va := va) (q := q) (gv := gv) (ch := ch) (tt := tt) (hd := hd) (ak := ak) (ug := ug) (ls := ls) (ro := ro) (sz := sz) (ft := ft) (la := la) (qu := qu) (tg := 0) (ir := ir) (ou := ou) hO
      refine ⟨_, _, p55 h1 hni.1 hni.2 hx, fun rec a b c => t45 rec (h2 1), ?_⟩
      exact Rl.mk (T := T + 1) (g := 0) ⟨bq, ben, bfm, bct, bch, bgv, blo, bhi, bov, bva, bse, bhd, bak⟩ hU hF hB hI hO ⟨etk, by omega, rfl, by omega, by rw [if_pos rfl]⟩ hQ'
    · obtain ⟨n, rfl⟩ : ∃ n, no = n + 1 := ⟨no - 1, by omega⟩
      obtain ⟨a, ha, ea⟩ := id blo
      obtain ⟨b, hb, eb⟩ := id bhi
      obtain ⟨ou', c, ro', sz', hc, hO', f1, f2, h1, h2⟩ := mv_move (tk := tk) (du := 0) (se := se) (he := he) (lv := lv) (en := en) (fm := fm) (ct := ct) (sp := sp) (lo := lo) (hi := hi) (ov := ov) (va := va) (q := q) (gv := gv) (ch := ch) (tt := tt) (hd := hd) (ak := ak) (ug := ug) (ls := ls) (ro := ro) (sz := sz) (ft := ft) (la := la) (qu := qu) (tg := 0) (ir := ir) (ou := ou) hO hlm.2 ha hb ea eb bva
      have hsp := spN_in ha hb
      refine ⟨_, _, p55 h1 hni.1 hni.2 hx, fun rec a b c => t45 rec (h2 1), ?_⟩
      refine Rl.mk (T := T + 1) (g := spN a b) ⟨bq, ben, bfm, bct, bch, bgv, blo, bhi, bov, ?_, hc, bhd, bak⟩ hU (hF.fr (fun j _ z => f1 j (by omega)) (f2 1 (by decide))) (hB.fr (fun j z => f1 j (by omega)) (f2 0 (by decide))) (hI.fr hlm.2 (fun j _ z => f1 j z) (f2 2 (by decide))) hO' ⟨etk, by omega, rfl, hsp.2, ?_⟩ hQ'
      · by_cases z : n = 0
        · rw [if_pos z]; exact Or.inr rfl
        · rw [if_neg z]; exact bva
      · rw [if_neg (by omega), etk, nI_add]
  · rw [if_neg hg] at e5
    obtain ⟨h1, h2⟩ := mv_busy (tk := tk) (du := du) (se := se) (he := he) (lv := lv) (en := en) (fm := fm) (ct := ct) (sp := sp) (lo := lo) (hi := hi) (ov := ov) (va := va) (q := q) (gv := gv) (ch := ch) (tt := tt) (hd := hd) (ak := ak) (ug := ug) (ls := ls) (ro := ro) (sz := sz) (ft := ft) (la := la) (qu := qu) (tg := tg) (ir := ir) (ou := ou) e3 e5 (by omega) (by omega) (by omega) (by omega)
    refine ⟨_, _, p55 h1 hni.1 hni.2 hx, fun rec a b c => t45 rec (h2 1), ?_⟩
    exact Rl.mk (T := T + 1) (g := g) ⟨bq, ben, bfm, bct, bch, bgv, blo, bhi, bov, bva, bse, bhd, bak⟩ hU hF hB hI hO ⟨etk, by omega, e3, e4, by rw [if_neg hg, e5]⟩ hQ'
theorem mask_all : ∀ f, f < 256 → ((32 : Int32) <<< ((nI f &&& 3) &&& 31)) - 1 = ((1 : Int32) <<< ((5 + (nI f &&& 3)) &&& 31)) - 1 ∧ (((32 : Int32) <<< ((nI f &&& 3) &&& 31)) - 1 = 31 ∨ ((32 : Int32) <<< ((nI f &&& 3) &&& 31)) - 1 = 63 ∨ ((32 : Int32) <<< ((nI f &&& 3) &&& 31)) - 1 = 127 ∨ ((32 : Int32) <<< ((nI f &&& 3) &&& 31)) - 1 = 255) := by decide +kernel
theorem mask_by {f s : Int32} (h : By 256 f) : By 256 (s &&& (((32 : Int32) <<< ((f &&& 3) &&& 31)) - 1)) ∧ s &&& (((1 : Int32) <<< ((5 + (f &&& 3)) &&& 31)) - 1) = s &&& (((32 : Int32) <<< ((f &&& 3) &&& 31)) - 1) := by
  obtain ⟨k, hk, rfl⟩ := h
  obtain ⟨h1, h2⟩ := mask_all k hk
  refine ⟨?_, by rw [h1]⟩
  rcases h2 with e | e | e | e
  · rw [e]
    obtain ⟨j, hj, e⟩ := pk_andE s (m := 31) 5 (by decide)
    exact ⟨j, by omega, e⟩
  · rw [e]
    obtain ⟨j, hj, e⟩ := pk_andE s (m := 63) 6 (by decide)
    exact ⟨j, by omega, e⟩
  · rw [e]
    obtain ⟨j, hj, e⟩ := pk_andE s (m := 127) 7 (by decide)
    exact ⟨j, by omega, e⟩
  · rw [e]
    obtain ⟨j, hj, e⟩ := pk_andE s (m := 255) 8 (by decide)
    exact ⟨j, by omega, e⟩
theorem s_tick {N : Nat} (hN : N ≤ 60000) {hd ak uc ls : Int32} {fo ba : RgT} {p : PtT} {v : TwT} (h : Rl N hd ak uc ls fo ba p v) : ∃ r p' v', Bt r ∧ f_P_passTick p = some (r, p') ∧ (∀ n x1 x2 x3, ¬ x1 ≤ x3 → f_T_tick_17 (n + 1) v x1 x2 x3 = f_T_tick_17 n v' x1 (x2 + r) (x3 + 1)) ∧ Rl (N + 1) hd ak uc ls fo ba p' v' := by
  obtain ⟨tk, du, se, he, lv, en, fm, ct, sp, lo, hi, ov, va, q, gv, ch, tt, ug, ro, sz, ft, la, qu, tg, ir, ou, nf, nb, ni, no, T, g, rfl, rfl, hSc, hU, hF, hB, hI, hO, hH, hQ⟩ := h
  obtain ⟨e1, e2, e3, e4, e5⟩ := id hH
  have etk : tk + 1 = nI (T + 1) := by rw [e1, nI_1]
  by_cases hg1 : g = 1
  · subst hg1
    rw [if_neg (by decide)] at e5
    have e3' : tg = 1 := e3
    subst e3'
    have eL : du = tk + 1 := by rw [e5, etk]
    have hfm := hSc.2.2.1
    have hct := hSc.2.2.2.1
    obtain ⟨hcb, hce⟩ := mask_by (s := se) hfm
    generalize hC : se &&& (((32 : Int32) <<< ((fm &&& 3) &&& 31)) - 1) = c at hcb hce
    have hpt : ∀ p1 p', f_P_sendOff (q, lv, en, fm, sp, lo, hi, ov, va, qu, se, 0, ir, ou, (ct, ch, gv), (tt, la)) c = some p1 → f_P_passTick_55 p1 1 = some (1, p') → f_P_passTick (q, lv, en, fm, sp, lo, hi, ov, va, qu, se, 1, ir, ou, (ct, ch, gv), (tt, la)) = some (1, p') := by
      intro p1 p' z1 z2
      obtain ⟨i1, i2, i3, i4⟩ := ir
      obtain ⟨o1, o2, o3, o4⟩ := ou
      obtain ⟨z1, z2, z3, z4, z5, z6, z7, z8, z9, z10, z11, z12, ⟨zi1, zi2, zi3, zi4⟩, ⟨zo1, zo2, zo3, zo4⟩, ⟨zm1, zm2, zm3⟩, ⟨zl1, zl2⟩⟩ := p1
      have e0 : (1 : Int32) - 1 = 0 := by decide
      simp only [f_P_passTick, f_P_passTick_13, f_P_passTick_31, if_true, show ¬ (1 : Int32) ≤ 0 by decide, show ¬ (1 : Int32) = 0 by decide, if_false, e0, hC, z1, Option.bind_some, z2]
    have htt : ∀ v1 n x1 x2 x3, f_T_leave (tk, du, se, he, lv, en, fm, ct, sp, lo, hi, ov, va, q, gv, ch, tt, hd, ak, ug, ls, ro, sz, ft, la) = some (1, v1) → ¬ x1 ≤ x3 → f_T_tick_17 (n + 1) (tk, du, se, he, lv, en, fm, ct, sp, lo, hi, ov, va, q, gv, ch, tt, hd, ak, ug, ls, ro, sz, ft, la) x1 x2 x3 = f_T_tick_45 (f_T_tick_17 n) v1 x1 x3 (x2 + 1) := by
      intro v1 n x1 x2 x3 z1 z2
      obtain ⟨w1, w2, w3, w4, w5, w6, w7, w8, w9, w10, w11, w12, w13, w14, w15, w16, w17, w18, w19, w20, w21, w22, w23, w24, w25⟩ := v1
      simp only [f_T_tick_17, if_neg z2, if_pos eL, z1, Option.bind_some]
    by_cases hlp : lpI ct = 0
    · obtain ⟨p', v', b1, b2, b3⟩ := tickB (tk := tk) (du := 0) (se := se) (he := he) (lv := lv) (en := en) (fm := fm) (ct := ct) (sp := sp) (lo := lo) (hi := hi) (ov := ov) (va := va) (q := q) (gv := gv) (ch := ch) (tt := tt + 1) (hd := hd) (ak := ak) (ug := ug) (ls := ls) (ro := ro) (sz := sz) (ft := ft) (la := upd la (tt &&& 31).toNatClampNeg c) (qu := qu) (tg := 0) (ir := ir) (ou := ou) (g := 0) (x := 1) hN hSc hU hF hB hI hO e1 e2 rfl (by decide) (by rw [if_pos rfl]) hQ (Or.inr rfl)
      have hv : vp_in (tt &&& 31) 32 := pk_andIn _ 5 (by decide) (by decide)
      refine ⟨1, p', v', Or.inr rfl, hpt _ p' ?_ b1, fun n x1 x2 x3 z => ?_, b3⟩
      · obtain ⟨i1, i2, i3, i4⟩ := ir
        obtain ⟨o1, o2, o3, o4⟩ := ou
        simp only [f_P_sendOff, f_P_sendOff_27, m_looped, Option.bind_some, if_pos hlp, f_S_add, gi_ok hv]
      · rw [htt _ n x1 x2 x3 ?_ z, b2]
        simp only [f_T_leave, f_T_leave_62, t_loops hct, Option.bind_some, if_pos hlp, gi_ok hv, hce]
    · obtain ⟨ir', ro', sz', ft', n', ov', hn', hov', hI', f1, f2, a1, a2⟩ := arr (tk := tk) (du := 0) (se := se) (he := he) (lv := lv) (en := en) (fm := fm) (ct := ct) (sp := sp) (lo := lo) (hi := hi) (ov := ov) (va := va) (q := q) (gv := gv) (ch := ch) (tt := tt) (hd := hd) (ak := ak) (ug := ug) (ls := ls) (ro := ro) (sz := sz) (ft := ft) (la := la) (qu := qu) (tg := 0) (ir := ir) (ou := ou) hI hcb (f := 0) ⟨0, by decide, rfl⟩ hSc.2.2.2.2.2.2.2.2.1
      obtain ⟨bq, ben, bfm, bct, bch, bgv, blo, bhi, bov, bva, bse, bhd, bak⟩ := hSc
      obtain ⟨p', v', b1, b2, b3⟩ := tickB (tk := tk) (du := 0) (se := se) (he := tk) (lv := lv) (en := en) (fm := fm) (ct := ct) (sp := sp) (lo := lo) (hi := hi) (ov := ov') (va := va) (q := q) (gv := gv) (ch := ch) (tt := tt) (hd := hd) (ak := ak) (ug := ug) (ls := ls) (ro := ro') (sz := sz') (ft := ft') (la := la) (qu := 0) (tg := 0) (ir := ir') (ou := ou) (g := 0) (x := 1) hN ⟨bq, ben, bfm, bct, bch, bgv, blo, bhi, hov', bva, bse, bhd, bak⟩ hU (hF.fr (fun j _ z => f1 j (by omega)) (f2 1 (by decide))) (hB.fr (fun j z => f1 j (by omega)) (f2 0 (by decide))) hI' (hO.fr (fun j z => f1 j (by omega)) (f2 3 (by decide))) e1 e2 rfl (by decide) (by rw [if_pos rfl]) (fun _ => ⟨T, Nat.le_refl _, e1, by rw [Nat.sub_self]; rfl⟩) (Or.inr rfl)
      refine ⟨1, p', v', Or.inr rfl, hpt _ p' ?_ b1, fun n x1 x2 x3 z => ?_, b3⟩
      · obtain ⟨i1, i2, i3, i4⟩ := ir
        obtain ⟨o1, o2, o3, o4⟩ := ou
        obtain ⟨k1, k2, k3, k4⟩ := ir'
        simp only [f_P_sendOff, f_P_sendOff_27, m_looped, Option.bind_some, if_neg hlp, a1]
      · rw [htt _ n x1 x2 x3 ?_ z, b2]
        simp only [f_T_leave, f_T_leave_62, t_loops bct, Option.bind_some, if_neg hlp, hce, a2]
  · have hdu : ¬ du = tk + 1 := by
      rw [e5, etk]
      by_cases c : g = 0
      · rw [if_pos c]
        intro z
        exact nI_ne0 (n := T + 1) (by omega) (by omega) z.symm
      · rw [if_neg c]
        intro z
        have := (nI_eq (a := T + g) (b := T + 1) (by omega) (by omega)).mp z
        omega
    have htg1 : ¬ tg = 1 := by
      rw [e3]
      intro z
      have := (nI_eq (a := g) (b := 1) (by omega) (by omega)).mp z
      omega
    have htt : ∀ n x1 x2 x3, ¬ x1 ≤ x3 → f_T_tick_17 (n + 1) (tk, du, se, he, lv, en, fm, ct, sp, lo, hi, ov, va, q, gv, ch, tt, hd, ak, ug, ls, ro, sz, ft, la) x1 x2 x3 = f_T_tick_45 (f_T_tick_17 n) (tk, du, se, he, lv, en, fm, ct, sp, lo, hi, ov, va, q, gv, ch, tt, hd, ak, ug, ls, ro, sz, ft, la) x1 x3 x2 := by
      intro n x1 x2 x3 z
      simp only [f_T_tick_17, if_neg z, if_neg hdu]
    by_cases hg0 : g = 0
    · subst hg0
      rw [if_pos rfl] at e5
      obtain ⟨p', v', b1, b2, b3⟩ := tickB (tk := tk) (du := du) (se := se) (he := he) (lv := lv) (en := en) (fm := fm) (ct := ct) (sp := sp) (lo := lo) (hi := hi) (ov := ov) (va := va) (q := q) (gv := gv) (ch := ch) (tt := tt) (hd := hd) (ak := ak) (ug := ug) (ls := ls) (ro := ro) (sz := sz) (ft := ft) (la := la) (qu := qu) (tg := tg) (ir := ir) (ou := ou) (g := 0) (x := 0) hN hSc hU hF hB hI hO e1 e2 e3 (by decide) (by rw [if_pos rfl]; exact e5) hQ (Or.inl rfl)
      have e3' : tg = 0 := e3
      subst e3'
      refine ⟨0, p', v', Or.inl rfl, ?_, fun n x1 x2 x3 z => ?_, b3⟩
      · obtain ⟨i1, i2, i3, i4⟩ := ir
        obtain ⟨o1, o2, o3, o4⟩ := ou
        simp only [f_P_passTick, f_P_passTick_13, f_P_passTick_31, if_neg htg1, show (0 : Int32) ≤ 0 by decide, if_true, b1]
      · rw [htt n x1 x2 x3 z, b2, Int32.add_zero]
    · rw [if_neg hg0] at e5
      have e31 : tg - 1 = nI (g - 1) := by rw [e3]; exact pk_sub (a := g) (b := 1) (by omega)
      obtain ⟨p', v', b1, b2, b3⟩ := tickB (tk := tk) (du := du) (se := se) (he := he) (lv := lv) (en := en) (fm := fm) (ct := ct) (sp := sp) (lo := lo) (hi := hi) (ov := ov) (va := va) (q := q) (gv := gv) (ch := ch) (tt := tt) (hd := hd) (ak := ak) (ug := ug) (ls := ls) (ro := ro) (sz := sz) (ft := ft) (la := la) (qu := qu) (tg := tg - 1) (ir := ir) (ou := ou) (g := g - 1) (x := 0) hN hSc hU hF hB hI hO e1 e2 e31 (by omega) (by rw [if_neg (by omega), e5]; congr 1; omega) hQ (Or.inl rfl)
      have hle : ¬ tg ≤ 0 := by rw [e3]; exact nI_nle (by omega) (by omega)
      refine ⟨0, p', v', Or.inl rfl, ?_, fun n x1 x2 x3 z => ?_, b3⟩
      · obtain ⟨i1, i2, i3, i4⟩ := ir
        obtain ⟨o1, o2, o3, o4⟩ := ou
        simp only [f_P_passTick, f_P_passTick_13, f_P_passTick_31, if_neg htg1, if_neg hle, if_true, b1]
      · rw [htt n x1 x2 x3 z, b2, Int32.add_zero]
