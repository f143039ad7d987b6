/-! the driver -/
theorem s_wake {N : Nat} {hd ak uc ls : Int32} {fo ba : RgT} {p : PtT} {v : TwT} (h : Rl N hd ak uc ls fo ba p v) : ∃ p' v', f_D_wake (hd, ak, uc, ls, fo, ba, p) = some (hd, ak, uc, ls, fo, ba, p') ∧ f_T_wake v = some v' ∧ Rl N hd ak uc ls fo ba p' v' := by
  obtain ⟨r, h1, h2⟩ := s_load1 h
  obtain ⟨p', v', h3, h4, h5⟩ := s_store1 h (r ||| 2)
  refine ⟨p', v', ?_, ?_, h5⟩
  · obtain ⟨f1, f2, f3, f4⟩ := fo
    obtain ⟨b1, b2, b3, b4⟩ := ba
    obtain ⟨y1, y2, y3, y4, y5, y6, y7, y8, y9, y10, y11, y12, ⟨yi1, yi2, yi3, yi4⟩, ⟨yo1, yo2, yo3, yo4⟩, ⟨ym1, ym2, ym3⟩, ⟨yl1, yl2⟩⟩ := p
    obtain ⟨z1, z2, z3, z4, z5, z6, z7, z8, z9, z10, z11, z12, ⟨zi1, zi2, zi3, zi4⟩, ⟨zo1, zo2, zo3, zo4⟩, ⟨zm1, zm2, zm3⟩, ⟨zl1, zl2⟩⟩ := p'
    simp only [f_D_wake, h1, h3, Option.bind_some]
  · obtain ⟨w1, w2, w3, w4, w5, w6, w7, w8, w9, w10, w11, w12, w13, w14, w15, w16, w17, w18, w19, w20, w21, w22, w23, w24, w25⟩ := v
    obtain ⟨x1, x2, x3, x4, x5, x6, x7, x8, x9, x10, x11, x12, x13, x14, x15, x16, x17, x18, x19, x20, x21, x22, x23, x24, x25⟩ := v'
    simp only [f_T_wake, h2, h4, Option.bind_some]
def RD (N : Nat) (u : DrT) (v : TwT) : Prop := match u with
  | (hd, ak, uc, ls, fo, ba, p) => Rl N hd ak uc ls fo ba p v
theorem s_handle {N : Nat} {hd ak uc ls : Int32} {fo ba : RgT} {p : PtT} {v : TwT} (h : Rl N hd ak uc ls fo ba p v) (c : Int32) : ∃ u' v', f_D_handle (hd, ak, uc, ls, fo, ba, p) c = some u' ∧ f_T_handle v c = some v' ∧ RD N u' v' := by
  obtain ⟨tk, du, se, he, lv, en, fm, ct, sp, lo, hi, ov, va, q, gv, ch, tt, ug, ro, sz, ft, la, qu, tg, ir, ou, nf, nb, ni, no, T, g, rfl, rfl, hSc, hU, hF, hB, hI, hO, hH, hQ⟩ := h
  obtain ⟨bq, ben, bfm, bct, bch, bgv, blo, bhi, bov, bva, bse, bhd, bak⟩ := hSc
  have hlm := Lm_in q
  by_cases c1 : c = 19
  · have key : Rl N 1 ak uc ls fo ba (q, lv, en, fm, sp, lo, hi, ov, va, qu, se, tg, ir, ou, (ct, ch, gv), (tt, la)) (tk, du, se, he, lv, en, fm, ct, sp, lo, hi, ov, va, q, gv, ch, tt, 1, ak, ug, ls, ro, sz, ft, la) := Rl.mk ⟨bq, ben, bfm, bct, bch, bgv, blo, bhi, bov, bva, bse, Or.inr rfl, bak⟩ hU hF hB hI hO hH hQ
    refine ⟨(1, ak, uc, ls, fo, ba, (q, lv, en, fm, sp, lo, hi, ov, va, qu, se, tg, ir, ou, (ct, ch, gv), (tt, la))), _, ?_, ?_, key⟩
    · obtain ⟨f1, f2, f3, f4⟩ := fo
      obtain ⟨b1, b2, b3, b4⟩ := ba
      obtain ⟨i1, i2, i3, i4⟩ := ir
      obtain ⟨o1, o2, o3, o4⟩ := ou
      simp only [f_D_handle, f_D_handle_97, if_pos c1]
    · simp only [f_T_handle, f_T_handle_95, if_pos c1]
  · by_cases c2 : c = 17
    · have key : Rl N 0 ak uc ls fo ba (q, lv, en, fm, sp, lo, hi, ov, va, qu, se, tg, ir, ou, (ct, ch, gv), (tt, la)) (tk, du, se, he, lv, en, fm, ct, sp, lo, hi, ov, va, q, gv, ch, tt, 0, ak, ug, ls, ro, sz, ft, la) := Rl.mk ⟨bq, ben, bfm, bct, bch, bgv, blo, bhi, bov, bva, bse, Or.inl rfl, bak⟩ hU hF hB hI hO hH hQ
      obtain ⟨p', v', h1, h2, h3⟩ := s_wake key
      refine ⟨(0, ak, uc, ls, fo, ba, p'), v', ?_, ?_, h3⟩
      · obtain ⟨f1, f2, f3, f4⟩ := fo
        obtain ⟨b1, b2, b3, b4⟩ := ba
        obtain ⟨i1, i2, i3, i4⟩ := ir
        obtain ⟨o1, o2, o3, o4⟩ := ou
        obtain ⟨z1, z2, z3, z4, z5, z6, z7, z8, z9, z10, z11, z12, ⟨zi1, zi2, zi3, zi4⟩, ⟨zo1, zo2, zo3, zo4⟩, ⟨zm1, zm2, zm3⟩, ⟨zl1, zl2⟩⟩ := p'
        simp only [f_D_handle, f_D_handle_97, if_neg c1, if_pos c2, h1, Option.bind_some]
      · obtain ⟨w1, w2, w3, w4, w5, w6, w7, w8, w9, w10, w11, w12, w13, w14, w15, w16, w17, w18, w19, w20, w21, w22, w23, w24, w25⟩ := v'
        simp only [f_T_handle, f_T_handle_95, if_neg c1, if_pos c2, h2, Option.bind_some]
    · obtain ⟨qb, hR, hs, hE⟩ := id hB
      have hle := hR.le
      have hfull := rg_isFull hR
      have e24 : (nI nb = 24) = (nb = 24) := propext ⟨fun z => (nI_eq (a := nb) (b := 24) (by omega) (by omega)).mp z, fun z => by rw [z]; rfl⟩
      by_cases c3 : nb < 24
      · rw [if_pos c3] at hfull
        obtain ⟨ba', ha, hR'⟩ := rg_append hR c3 c
        have hsz := hR'.size
        have ht : f_T_append (tk, du, se, he, lv, en, fm, ct, sp, lo, hi, ov, va, q, gv, ch, tt, hd, ak, ug, ls, ro, sz, ft, la) 0 c = some (tk, du, se, he, lv, en, fm, ct, sp, lo, hi, ov, va, q, gv, ch, tt, hd, ak, ug, ls, (upd ro nb c), (upd sz 0 (nI (nb + 1))), ft, la) := by
          have := t_append (tk := tk) (du := du) (se := se) (he := he) (lv := lv) (en := en) (fm := fm) (ct := ct) (sp := sp) (lo := lo) (hi := hi) (ov := ov) (va := va) (q := q) (gv := gv) (ch := ch) (tt := tt) (hd := hd) (ak := ak) (ug := ug) (ls := ls) (ro := ro) (sz := sz) (ft := ft) (la := la) (r := 0) (by decide) hs (by omega) c
          rw [Nat.mul_zero, Nat.zero_add] at this
          exact this
        have hB' : QB (nb + 1) ba' (upd ro nb c) (upd sz 0 (nI (nb + 1))) := by
          refine ⟨_, hR', pk_us, fun i hi => ?_⟩
          by_cases hin : i = nb
          · subst hin; rw [pk_us, pk_us]
          · rw [pk_un hin, pk_un hin]; exact hE i (by omega)
        have key : ∀ ak' uc' ug', Bt ak' → UG uc' ug' → Rl N hd ak' uc' ls fo ba' (q, lv, en, fm, sp, lo, hi, ov, va, qu, se, tg, ir, ou, (ct, ch, gv), (tt, la)) (tk, du, se, he, lv, en, fm, ct, sp, lo, hi, ov, va, q, gv, ch, tt, hd, ak', ug', ls, (upd ro nb c), (upd sz 0 (nI (nb + 1))), ft, la) := fun ak' uc' ug' z1 z2 => Rl.mk ⟨bq, ben, bfm, bct, bch, bgv, blo, bhi, bov, bva, bse, bhd, z1⟩ z2 (hF.fr (fun j _ z => pk_un (by omega)) (pk_un (by decide))) hB' (hI.fr hlm.2 (fun j _ z => pk_un (by omega)) (pk_un (by decide))) (hO.fr (fun j z => pk_un (by omega)) (pk_un (by decide))) hH hQ
        have elt : (nI (nb + 1) < 18) = (nb + 1 < 18) := propext (nI_ltI (a := nb + 1) (b := 18) (by omega) (by omega))
        by_cases c4 : nb + 1 < 18
        · refine ⟨(hd, ak, uc, ls, fo, ba', (q, lv, en, fm, sp, lo, hi, ov, va, qu, se, tg, ir, ou, (ct, ch, gv), (tt, la))), _, ?_, ?_, key ak uc ug bak hU⟩
          · obtain ⟨f1, f2, f3, f4⟩ := fo
            obtain ⟨b1, b2, b3, b4⟩ := ba
            obtain ⟨d1, d2, d3, d4⟩ := ba'
            obtain ⟨i1, i2, i3, i4⟩ := ir
            obtain ⟨o1, o2, o3, o4⟩ := ou
            dsimp only at hsz
            subst hsz
            simp only [f_D_handle, f_D_handle_97, if_neg c1, if_neg c2, hfull, ha, Option.bind_some, if_true, elt, if_pos c4]
          · simp only [f_T_handle, f_T_handle_95, if_neg c1, if_neg c2, g04, cl0, hs, e24, if_neg (show ¬ nb = 24 by omega), ht, Option.bind_some, pk_us, elt, if_pos c4]
        · by_cases c5 : ak = 0
          · obtain ⟨p', v', h1, h2, h3⟩ := s_wake (key 1 19 19 (Or.inr rfl) (Or.inr (Or.inr ⟨rfl, rfl⟩)))
            refine ⟨(hd, 1, 19, ls, fo, ba', p'), v', ?_, ?_, h3⟩
            · obtain ⟨f1, f2, f3, f4⟩ := fo
              obtain ⟨b1, b2, b3, b4⟩ := ba
              obtain ⟨d1, d2, d3, d4⟩ := ba'
              obtain ⟨i1, i2, i3, i4⟩ := ir
              obtain ⟨o1, o2, o3, o4⟩ := ou
              obtain ⟨z1, z2, z3, z4, z5, z6, z7, z8, z9, z10, z11, z12, ⟨zi1, zi2, zi3, zi4⟩, ⟨zo1, zo2, zo3, zo4⟩, ⟨zm1, zm2, zm3⟩, ⟨zl1, zl2⟩⟩ := p'
              dsimp only at hsz
              subst hsz
              simp only [f_D_handle, f_D_handle_97, if_neg c1, if_neg c2, hfull, ha, Option.bind_some, if_true, elt, if_neg c4, if_pos c5, h1]
            · obtain ⟨w1, w2, w3, w4, w5, w6, w7, w8, w9, w10, w11, w12, w13, w14, w15, w16, w17, w18, w19, w20, w21, w22, w23, w24, w25⟩ := v'
              simp only [f_T_handle, f_T_handle_95, if_neg c1, if_neg c2, g04, cl0, hs, e24, if_neg (show ¬ nb = 24 by omega), ht, Option.bind_some, pk_us, elt, if_neg c4, if_pos c5, h2]
          · refine ⟨(hd, ak, uc, ls, fo, ba', (q, lv, en, fm, sp, lo, hi, ov, va, qu, se, tg, ir, ou, (ct, ch, gv), (tt, la))), _, ?_, ?_, key ak uc ug bak hU⟩
            · obtain ⟨f1, f2, f3, f4⟩ := fo
              obtain ⟨b1, b2, b3, b4⟩ := ba
              obtain ⟨d1, d2, d3, d4⟩ := ba'
              obtain ⟨i1, i2, i3, i4⟩ := ir
              obtain ⟨o1, o2, o3, o4⟩ := ou
              dsimp only at hsz
              subst hsz
              simp only [f_D_handle, f_D_handle_97, if_neg c1, if_neg c2, hfull, ha, Option.bind_some, if_true, elt, if_neg c4, if_neg c5]
            · simp only [f_T_handle, f_T_handle_95, if_neg c1, if_neg c2, g04, cl0, hs, e24, if_neg (show ¬ nb = 24 by omega), ht, Option.bind_some, pk_us, elt, if_neg c4, if_neg c5]
      · rw [if_neg c3] at hfull
        have key : Rl N hd ak uc (ls + 1) fo ba (q, lv, en, fm, sp, lo, hi, ov, va, qu, se, tg, ir, ou, (ct, ch, gv), (tt, la)) (tk, du, se, he, lv, en, fm, ct, sp, lo, hi, ov, va, q, gv, ch, tt, hd, ak, ug, (ls + 1), ro, sz, ft, la) := Rl.mk ⟨bq, ben, bfm, bct, bch, bgv, blo, bhi, bov, bva, bse, bhd, bak⟩ hU hF hB hI hO hH hQ
        refine ⟨(hd, ak, uc, ls + 1, fo, ba, (q, lv, en, fm, sp, lo, hi, ov, va, qu, se, tg, ir, ou, (ct, ch, gv), (tt, la))), _, ?_, ?_, key⟩
        · obtain ⟨f1, f2, f3, f4⟩ := fo
          obtain ⟨b1, b2, b3, b4⟩ := ba
          obtain ⟨i1, i2, i3, i4⟩ := ir
          obtain ⟨o1, o2, o3, o4⟩ := ou
          have h10 : ¬ (1 : Int32) = 0 := by decide
          simp only [f_D_handle, f_D_handle_97, if_neg c1, if_neg c2, hfull, Option.bind_some, if_neg h10]
        · simp only [f_T_handle, f_T_handle_95, if_neg c1, if_neg c2, g04, cl0, hs, e24, if_pos (show nb = 24 by omega)]
theorem s_rs {N : Nat} (hN : N ≤ 60000) {hd ak uc ls : Int32} {fo ba : RgT} {p : PtT} {v : TwT} (h : Rl N hd ak uc ls fo ba p v) : ∃ (r : Int32) (p' : PtT) (tk du se he lv en fm ct sp lo hi ov va q gv ch tt ug : Int32) (ro sz ft la : Nat → Int32) (qu tg : Int32) (ir ou : RgT), By 256 r ∧ f_D_readStatus (hd, ak, uc, ls, fo, ba, p) = some (r, (hd, ak, uc, (if (r &&& 2) = 0 then ls else ls + 1), fo, ba, p')) ∧ f_T_read v 5 = some (r, (tk, du, se, he, lv, en, fm, ct, sp, lo, hi, ov, va, q, gv, ch, tt, hd, ak, ug, ls, ro, sz, ft, la)) ∧ Rl N hd ak uc (if (r &&& 2) = 0 then ls else ls + 1) fo ba p' (tk, du, se, he, lv, en, fm, ct, sp, lo, hi, ov, va, q, gv, ch, tt, hd, ak, ug, (if (r &&& 2) = 0 then ls else ls + 1), ro, sz, ft, la) := by
  obtain ⟨r, p1, v1, h1, h2, h3, hb⟩ := s_load5 hN h
  obtain ⟨tk, du, se, he, lv, en, fm, ct, sp, lo, hi, ov, va, q, gv, ch, tt, ug, ro, sz, ft, la, qu, tg, ir, ou, nf, nb, ni, no, T, g, rfl, rfl, hSc, hU, hF, hB, hI, hO, hH, hQ⟩ := h3
  refine ⟨r, (q, lv, en, fm, sp, lo, hi, ov, va, qu, se, tg, ir, ou, (ct, ch, gv), (tt, la)), tk, du, se, he, lv, en, fm, ct, sp, lo, hi, ov, va, q, gv, ch, tt, ug, ro, sz, ft, la, qu, tg, ir, ou, hb, ?_, h2, ?_⟩
  · obtain ⟨f1, f2, f3, f4⟩ := fo
    obtain ⟨b1, b2, b3, b4⟩ := ba
    obtain ⟨i1, i2, i3, i4⟩ := ir
    obtain ⟨o1, o2, o3, o4⟩ := ou
    obtain ⟨y1, y2, y3, y4, y5, y6, y7, y8, y9, y10, y11, y12, ⟨yi1, yi2, yi3, yi4⟩, ⟨yo1, yo2, yo3, yo4⟩, ⟨ym1, ym2, ym3⟩, ⟨yl1, yl2⟩⟩ := p
    simp only [f_D_readStatus, f_D_readStatus_25, h1, Option.bind_some]
    by_cases c : (r &&& 2) = 0
    · simp only [if_pos c]
    · simp only [if_neg c]
  · exact Rl.mk hSc hU hF hB hI hO hH hQ
