/-! a round, the service, and the other calls -/
theorem s_round {N : Nat} (hN : N ≤ 60000) {u : DrT} {v : TwT} (h : RD N u v) : ∃ r u' v', Bt r ∧ f_D_runRound u = some (r, u') ∧ f_T_round v = some (r, v') ∧ RD N u' v' := by
  obtain ⟨hd, ak, uc, ls, fo, ba, p⟩ := u
  have h : Rl N hd ak uc ls fo ba p v := h
  obtain ⟨r, p1, v1, h1, h2, h3, hc⟩ := s_load2 h
  generalize hC : r &&& 15 = c at hc
  have eD : f_D_runRound (hd, ak, uc, ls, fo, ba, p) = (if c = 0 then Option.bind (f_P_load p1 6) (fun q => some (1, (hd, ak, uc, ls, fo, ba, q.2))) else (if c = 2 then Option.bind (f_D_transmit (hd, ak, uc, ls, fo, ba, p1)) (fun d => some (1, d)) else (if c = 4 then Option.bind (f_D_receive (hd, ak, uc, ls, fo, ba, p1)) (fun d => some (1, d)) else (if c = 6 then Option.bind (f_D_readStatus (hd, ak, uc, ls, fo, ba, p1)) (fun q => some (1, q.2)) else (if c = 12 then Option.bind (f_D_receive (hd, ak, uc, ls, fo, ba, p1)) (fun d => some (1, d)) else some (0, (hd, ak, uc, ls, fo, ba, p1))))))) := by
    obtain ⟨f1, f2, f3, f4⟩ := fo
    obtain ⟨b1, b2, b3, b4⟩ := ba
    obtain ⟨y1, y2, y3, y4, y5, y6, y7, y8, y9, y10, y11, y12, ⟨yi1, yi2, yi3, yi4⟩, ⟨yo1, yo2, yo3, yo4⟩, ⟨ym1, ym2, ym3⟩, ⟨yl1, yl2⟩⟩ := p
    obtain ⟨z1, z2, z3, z4, z5, z6, z7, z8, z9, z10, z11, z12, ⟨zi1, zi2, zi3, zi4⟩, ⟨zo1, zo2, zo3, zo4⟩, ⟨zm1, zm2, zm3⟩, ⟨zl1, zl2⟩⟩ := p1
    simp only [f_D_runRound, f_D_runRound_83, f_D_runRound_107, h1, Option.bind_some, hC]
  have eT : f_T_round v = (if c = 6 then Option.bind (f_T_read v1 5) (fun q => match q with | (r_19, (tk, du, se, he, lv, en, fm, ct, sp, lo, hi, ov, va, q, gv, ch, tt, hd, ak, ug, ls, ro, sz, ft, la)) => (if onI r_19 1 = 0 then f_T_round_46 (tk, du, se, he, lv, en, fm, ct, sp, lo, hi, ov, va, q, gv, ch, tt, hd, ak, ug, ls, ro, sz, ft, la) c ls else f_T_round_46 (tk, du, se, he, lv, en, fm, ct, sp, lo, hi, ov, va, q, gv, ch, tt, hd, ak, ug, ls, ro, sz, ft, la) c (ls + 1))) else (if c = 4 then f_T_round_63 v1 c else (if c = 12 then f_T_round_63 v1 c else (if c = 2 then Option.bind (f_T_transmit v1) (fun w => f_T_round_93 w c) else (if c = 0 then Option.bind (f_T_read v1 6) (fun q => f_T_round_93 q.2 c) else f_T_round_93 v1 c))))) := by
    obtain ⟨w1, w2, w3, w4, w5, w6, w7, w8, w9, w10, w11, w12, w13, w14, w15, w16, w17, w18, w19, w20, w21, w22, w23, w24, w25⟩ := v
    obtain ⟨x1, x2, x3, x4, x5, x6, x7, x8, x9, x10, x11, x12, x13, x14, x15, x16, x17, x18, x19, x20, x21, x22, x23, x24, x25⟩ := v1
    simp only [f_T_round, h2, Option.bind_some, hC, t_isOn]
  have e93 : ∀ w : TwT, f_T_round_93 w c = (if c = 1 then some (0, w) else some (1, w)) := by
    intro w
    obtain ⟨w1, w2, w3, w4, w5, w6, w7, w8, w9, w10, w11, w12, w13, w14, w15, w16, w17, w18, w19, w20, w21, w22, w23, w24, w25⟩ := w
    simp only [f_T_round_93, f_T_round_103, gb_0, gb_1]
  rcases hc with rfl | rfl | rfl | rfl | rfl | rfl
  · obtain ⟨c6, p2, v2, g1, g2, g3⟩ := s_load6 h3
    refine ⟨1, (hd, ak, uc, ls, fo, ba, p2), v2, Or.inr rfl, ?_, ?_, g3⟩
    · rw [eD, if_pos rfl, g1, Option.bind_some]
    · rw [eT, if_neg (by decide), if_neg (by decide), if_neg (by decide), if_neg (by decide), if_pos rfl, g2, Option.bind_some, e93, if_neg (by decide)]
  · refine ⟨0, (hd, ak, uc, ls, fo, ba, p1), v1, Or.inl rfl, ?_, ?_, h3⟩
    · rw [eD, if_neg (by decide), if_neg (by decide), if_neg (by decide), if_neg (by decide), if_neg (by decide)]
    · rw [eT, if_neg (by decide), if_neg (by decide), if_neg (by decide), if_neg (by decide), if_neg (by decide), e93, if_pos rfl]
  · obtain ⟨u2, v2, g1, g2, g3⟩ := s_transmit hN h3
    refine ⟨1, u2, v2, Or.inr rfl, ?_, ?_, g3⟩
    · rw [eD, if_neg (by decide), if_pos rfl, g1, Option.bind_some]
    · rw [eT, if_neg (by decide), if_neg (by decide), if_neg (by decide), if_pos rfl, g2, Option.bind_some, e93, if_neg (by decide)]
  · obtain ⟨u2, v2, g1, g2, g3⟩ := s_receive hN (u := (hd, ak, uc, ls, fo, ba, p1)) h3
    refine ⟨1, u2, v2, Or.inr rfl, ?_, ?_, g3⟩
    · rw [eD, if_neg (by decide), if_neg (by decide), if_pos rfl, g1, Option.bind_some]
    · rw [eT, if_neg (by decide), if_pos rfl]
      obtain ⟨w1, w2, w3, w4, w5, w6, w7, w8, w9, w10, w11, w12, w13, w14, w15, w16, w17, w18, w19, w20, w21, w22, w23, w24, w25⟩ := v1
      obtain ⟨x1, x2, x3, x4, x5, x6, x7, x8, x9, x10, x11, x12, x13, x14, x15, x16, x17, x18, x19, x20, x21, x22, x23, x24, x25⟩ := v2
      simp only [f_T_round_63, g2, Option.bind_some]
      rw [e93, if_neg (by decide)]
  · obtain ⟨r2, p2, tk, du, se, he, lv, en, fm, ct, sp, lo, hi, ov, va, q, gv, ch, tt, ug, ro, sz, ft, la, qu, tg, ir, ou, hb, g1, g2, g3⟩ := s_rs hN h3
    refine ⟨1, (hd, ak, uc, (if (r2 &&& 2) = 0 then ls else ls + 1), fo, ba, p2), _, Or.inr rfl, ?_, ?_, g3⟩
    · rw [eD, if_neg (by decide), if_neg (by decide), if_neg (by decide), if_pos rfl, g1, Option.bind_some]
    · rw [eT, if_pos rfl, g2, Option.bind_some]
      simp only [(onb hb).1, f_T_round_46, e93]
      by_cases c2 : (r2 &&& 2) = 0
      · simp only [if_pos c2]
        rw [if_neg (by decide)]
      · simp only [if_neg c2]
        rw [if_neg (by decide)]
  · obtain ⟨u2, v2, g1, g2, g3⟩ := s_receive hN (u := (hd, ak, uc, ls, fo, ba, p1)) h3
    refine ⟨1, u2, v2, Or.inr rfl, ?_, ?_, g3⟩
    · rw [eD, if_neg (by decide), if_neg (by decide), if_neg (by decide), if_neg (by decide), if_pos rfl, g1, Option.bind_some]
    · rw [eT, if_neg (by decide), if_neg (by decide), if_pos rfl]
      obtain ⟨w1, w2, w3, w4, w5, w6, w7, w8, w9, w10, w11, w12, w13, w14, w15, w16, w17, w18, w19, w20, w21, w22, w23, w24, w25⟩ := v1
      obtain ⟨x1, x2, x3, x4, x5, x6, x7, x8, x9, x10, x11, x12, x13, x14, x15, x16, x17, x18, x19, x20, x21, x22, x23, x24, x25⟩ := v2
      simp only [f_T_round_63, g2, Option.bind_some]
      rw [e93, if_neg (by decide)]
theorem s_serve {N : Nat} (hN : N ≤ 60000) : ∀ (k i : Nat), i ≤ 8 → 10 - i < k → ∀ (u : DrT) (v : TwT), RD N u v → ∃ r u' v', f_F_service_2 k u (nI i) = some (r, u') ∧ f_T_service_4 k v (nI i) 1 = some (r, v') ∧ RD N u' v' := by
  intro k
  induction k with
  | zero => intro i h1 h2; omega
  | succ k ih =>
    intro i hil hk u v h
    have e8 : (8 ≤ nI i) = (8 ≤ i) := propext (nI_leI (a := 8) (b := i) (by omega) (by omega))
    have h10 : ¬ (1 : Int32) = 0 := by decide
    by_cases c1 : 8 ≤ i
    · refine ⟨nI i, u, v, ?_, ?_, h⟩
      · obtain ⟨hd, ak, uc, ls, ⟨f1, f2, f3, f4⟩, ⟨b1, b2, b3, b4⟩, ⟨y1, y2, y3, y4, y5, y6, y7, y8, y9, y10, y11, y12, ⟨yi1, yi2, yi3, yi4⟩, ⟨yo1, yo2, yo3, yo4⟩, ⟨ym1, ym2, ym3⟩, ⟨yl1, yl2⟩⟩⟩ := u
        simp only [f_F_service_2, f_F_service_24, e8, if_pos c1]
      · obtain ⟨w1, w2, w3, w4, w5, w6, w7, w8, w9, w10, w11, w12, w13, w14, w15, w16, w17, w18, w19, w20, w21, w22, w23, w24, w25⟩ := v
        simp only [f_T_service_4, f_T_service_34, e8, if_pos c1]
    · obtain ⟨r, u1, v1, hb, h1, h2, h3⟩ := s_round hN h
      have eD : f_F_service_2 (k + 1) u (nI i) = (if r = 0 then some (nI i, u1) else f_F_service_2 k u1 (nI i + 1)) := by
        obtain ⟨hd, ak, uc, ls, ⟨f1, f2, f3, f4⟩, ⟨b1, b2, b3, b4⟩, ⟨y1, y2, y3, y4, y5, y6, y7, y8, y9, y10, y11, y12, ⟨yi1, yi2, yi3, yi4⟩, ⟨yo1, yo2, yo3, yo4⟩, ⟨ym1, ym2, ym3⟩, ⟨yl1, yl2⟩⟩⟩ := u
        obtain ⟨hd1, ak1, uc1, ls1, ⟨d1, d2, d3, d4⟩, ⟨g1, g2, g3, g4⟩, ⟨z1, z2, z3, z4, z5, z6, z7, z8, z9, z10, z11, z12, ⟨zi1, zi2, zi3, zi4⟩, ⟨zo1, zo2, zo3, zo4⟩, ⟨zm1, zm2, zm3⟩, ⟨zl1, zl2⟩⟩⟩ := u1
        simp only [f_F_service_2, f_F_service_24, e8, if_neg c1, h1, Option.bind_some]
      have eT : f_T_service_4 (k + 1) v (nI i) 1 = (if r = 0 then f_T_service_4 k v1 (nI i) r else f_T_service_4 k v1 (nI i + 1) r) := by
        obtain ⟨w1, w2, w3, w4, w5, w6, w7, w8, w9, w10, w11, w12, w13, w14, w15, w16, w17, w18, w19, w20, w21, w22, w23, w24, w25⟩ := v
        obtain ⟨x1, x2, x3, x4, x5, x6, x7, x8, x9, x10, x11, x12, x13, x14, x15, x16, x17, x18, x19, x20, x21, x22, x23, x24, x25⟩ := v1
        simp only [f_T_service_4, f_T_service_30, e8, if_neg c1, if_neg h10, h2, Option.bind_some]
      rcases hb with rfl | rfl
      · rw [if_pos rfl] at eD eT
        refine ⟨nI i, u1, v1, eD, ?_, h3⟩
        rw [eT]
        obtain ⟨k', rfl⟩ : ∃ k', k = k' + 1 := ⟨k - 1, by omega⟩
        obtain ⟨x1, x2, x3, x4, x5, x6, x7, x8, x9, x10, x11, x12, x13, x14, x15, x16, x17, x18, x19, x20, x21, x22, x23, x24, x25⟩ := v1
        simp only [f_T_service_4, f_T_service_34, if_true, ite_self]
      · rw [if_neg h10] at eD eT
        obtain ⟨r', u', v', g1, g2, g3⟩ := ih (i + 1) (by omega) (by omega) u1 v1 h3
        rw [nI_1] at eD eT
        exact ⟨r', u', v', eD.trans g1, eT.trans g2, g3⟩
theorem f_service {N : Nat} (hN : N ≤ 60000) {u : FlT} {v : TwT} (h : RD N u v) : ∃ r u' v', f_F_service u = some (r, u') ∧ f_T_service v = some (r, v') ∧ RD N u' v' := by
  obtain ⟨r, u', v', h1, h2, h3⟩ := s_serve hN 128 0 (by decide) (by decide) u v h
  refine ⟨r, u', v', ?_, ?_, h3⟩
  · obtain ⟨hd, ak, uc, ls, ⟨f1, f2, f3, f4⟩, ⟨b1, b2, b3, b4⟩, ⟨y1, y2, y3, y4, y5, y6, y7, y8, y9, y10, y11, y12, ⟨yi1, yi2, yi3, yi4⟩, ⟨yo1, yo2, yo3, yo4⟩, ⟨ym1, ym2, ym3⟩, ⟨yl1, yl2⟩⟩⟩ := u
    exact h1
  · obtain ⟨w1, w2, w3, w4, w5, w6, w7, w8, w9, w10, w11, w12, w13, w14, w15, w16, w17, w18, w19, w20, w21, w22, w23, w24, w25⟩ := v
    exact h2
theorem f_accept {N : Nat} {u : FlT} {v : TwT} (h : RD N u v) (c : Int32) : ∃ r u' v', f_F_accept u c = some (r, u') ∧ f_T_accept v c = some (r, v') ∧ RD N u' v' := by
  obtain ⟨hd, ak, uc, ls, fo, ba, p⟩ := u
  have h : Rl N hd ak uc ls fo ba p v := h
  have h0 := h
  obtain ⟨tk, du, se, he, lv, en, fm, ct, sp, lo, hi, ov, va, q, gv, ch, tt, ug, ro, sz, ft, la, qu, tg, ir, ou, nf, nb, ni, no, T, g, rfl, rfl, hSc, hU, hF, hB, hI, hO, hH, hQ⟩ := h
  have hlm := Lm_in q
  obtain ⟨qf, hR, hs, hE⟩ := id hF
  have hle := hR.le
  have hfull := rg_isFull hR
  have e24 : (nI nf = 24) = (nf = 24) := propext ⟨fun z => (nI_eq (a := nf) (b := 24) (by omega) (by omega)).mp z, fun z => by rw [z]; rfl⟩
  by_cases c3 : nf < 24
  · rw [if_pos c3] at hfull
    obtain ⟨fo', ha, hR'⟩ := rg_append hR c3 (c &&& 255)
    have ht : f_T_append (tk, du, se, he, lv, en, fm, ct, sp, lo, hi, ov, va, q, gv, ch, tt, hd, ak, ug, ls, ro, sz, ft, la) 1 (c &&& 255) = some (tk, du, se, he, lv, en, fm, ct, sp, lo, hi, ov, va, q, gv, ch, tt, hd, ak, ug, ls, (upd ro (24 + nf) (c &&& 255)), (upd sz 1 (nI (nf + 1))), ft, la) := t_append (r := 1) (by decide) hs (by omega) (c &&& 255)
    have hF' : QF (nf + 1) fo' (upd ro (24 + nf) (c &&& 255)) (upd sz 1 (nI (nf + 1))) := by
      refine ⟨_, hR', pk_us, fun i hi => ?_⟩
      by_cases hin : i = nf
      · subst hin; rw [pk_us, pk_us]
      · rw [pk_un hin, pk_un (by omega)]; exact hE i (by omega)
    have key : Rl N hd ak uc ls fo' ba (q, lv, en, fm, sp, lo, hi, ov, va, qu, se, tg, ir, ou, (ct, ch, gv), (tt, la)) (tk, du, se, he, lv, en, fm, ct, sp, lo, hi, ov, va, q, gv, ch, tt, hd, ak, ug, ls, (upd ro (24 + nf) (c &&& 255)), (upd sz 1 (nI (nf + 1))), ft, la) := Rl.mk hSc hU hF' (hB.fr (fun j z => pk_un (by omega)) (pk_un (by decide))) (hI.fr hlm.2 (fun j z z2 => pk_un (by omega)) (pk_un (by decide))) (hO.fr (fun j z => pk_un (by omega)) (pk_un (by decide))) hH hQ
    obtain ⟨p', v', h1, h2, h3⟩ := s_wake key
    refine ⟨1, (hd, ak, uc, ls, fo', ba, p'), v', ?_, ?_, h3⟩
    · obtain ⟨f1, f2, f3, f4⟩ := fo
      obtain ⟨d1, d2, d3, d4⟩ := fo'
      obtain ⟨b1, b2, b3, b4⟩ := ba
      obtain ⟨i1, i2, i3, i4⟩ := ir
      obtain ⟨o1, o2, o3, o4⟩ := ou
      obtain ⟨z1, z2, z3, z4, z5, z6, z7, z8, z9, z10, z11, z12, ⟨zi1, zi2, zi3, zi4⟩, ⟨zo1, zo2, zo3, zo4⟩, ⟨zm1, zm2, zm3⟩, ⟨zl1, zl2⟩⟩ := p'
      simp only [f_F_accept, f_D_queueForth, hfull, ha, h1, Option.bind_some, if_true, gb_1]
    · obtain ⟨w1, w2, w3, w4, w5, w6, w7, w8, w9, w10, w11, w12, w13, w14, w15, w16, w17, w18, w19, w20, w21, w22, w23, w24, w25⟩ := v'
      simp only [f_T_accept, g14, cl1, hs, e24, if_neg (show ¬ nf = 24 by omega), ht, h2, Option.bind_some]
  · rw [if_neg c3] at hfull
    refine ⟨0, (hd, ak, uc, ls, fo, ba, (q, lv, en, fm, sp, lo, hi, ov, va, qu, se, tg, ir, ou, (ct, ch, gv), (tt, la))), _, ?_, ?_, h0⟩
    · obtain ⟨f1, f2, f3, f4⟩ := fo
      obtain ⟨b1, b2, b3, b4⟩ := ba
      obtain ⟨i1, i2, i3, i4⟩ := ir
      obtain ⟨o1, o2, o3, o4⟩ := ou
      have h10 : ¬ (1 : Int32) = 0 := by decide
      simp only [f_F_accept, f_D_queueForth, hfull, Option.bind_some, if_neg h10, gb_0]
    · simp only [f_T_accept, g14, cl1, hs, e24, if_pos (show nf = 24 by omega)]
theorem f_take {N : Nat} {u : FlT} {v : TwT} (h : RD N u v) : ∃ r u' v', f_F_take u = some (r, u') ∧ f_T_take v = some (r, v') ∧ RD N u' v' := by
  obtain ⟨hd, ak, uc, ls, fo, ba, p⟩ := u
  have h : Rl N hd ak uc ls fo ba p v := h
  have h0 := h
  obtain ⟨tk, du, se, he, lv, en, fm, ct, sp, lo, hi, ov, va, q, gv, ch, tt, ug, ro, sz, ft, la, qu, tg, ir, ou, nf, nb, ni, no, T, g, rfl, rfl, hSc, hU, hF, hB, hI, hO, hH, hQ⟩ := h
  have hlm := Lm_in q
  obtain ⟨qb, hR, hs, hE⟩ := id hB
  have hle := hR.le
  have hsz := hR.size
  by_cases c0 : nb = 0
  · refine ⟨-1, (hd, ak, uc, ls, fo, ba, (q, lv, en, fm, sp, lo, hi, ov, va, qu, se, tg, ir, ou, (ct, ch, gv), (tt, la))), _, ?_, ?_, h0⟩
    · obtain ⟨f1, f2, f3, f4⟩ := fo
      obtain ⟨b1, b2, b3, b4⟩ := ba
      obtain ⟨i1, i2, i3, i4⟩ := ir
      obtain ⟨o1, o2, o3, o4⟩ := ou
      dsimp only at hsz
      subst hsz
      simp only [f_F_take, f_D_takeBack, nz' (show nb < 32 by omega), if_pos c0, Option.bind_some]
    · simp only [f_T_take, g04, cl0, hs, nz' (show nb < 32 by omega), if_pos c0]
  · have hpos := Nat.pos_of_ne_zero c0
    obtain ⟨ba', hr, hR'⟩ := rg_remove hR hpos
    have hsz' := hR'.size
    have hb0 := hE 0 hpos
    have ht : f_T_removeFirst (tk, du, se, he, lv, en, fm, ct, sp, lo, hi, ov, va, q, gv, ch, tt, hd, ak, ug, ls, ro, sz, ft, la) 0 = some (qb 0, (tk, du, se, he, lv, en, fm, ct, sp, lo, hi, ov, va, q, gv, ch, tt, hd, ak, ug, ls, (shR ro 0 (nb - 1)), (upd sz 0 (nI (nb - 1))), ft, la)) := by
      have := t_remove (tk := tk) (du := du) (se := se) (he := he) (lv := lv) (en := en) (fm := fm) (ct := ct) (sp := sp) (lo := lo) (hi := hi) (ov := ov) (va := va) (q := q) (gv := gv) (ch := ch) (tt := tt) (hd := hd) (ak := ak) (ug := ug) (ls := ls) (ro := ro) (sz := sz) (ft := ft) (la := la) (r := 0) (by decide) hs hpos (by omega)
      rw [Nat.mul_zero, Nat.zero_add, hb0] at this
      exact this
    have hro : ∀ j, 24 ≤ j → shR ro 0 (nb - 1) j = ro j := fun j hj => by
      unfold shR; rw [if_neg (by omega)]
    have hB' : QB (nb - 1) ba' (shR ro 0 (nb - 1)) (upd sz 0 (nI (nb - 1))) := by
      refine ⟨_, hR', pk_us, fun i hi => ?_⟩
      have := hE (i + 1) (by omega)
      show shR ro 0 (nb - 1) i = qb (i + 1)
      unfold shR
      rw [if_pos (by omega)]
      exact this
    obtain ⟨bq, ben, bfm, bct, bch, bgv, blo, bhi, bov, bva, bse, bhd, bak⟩ := hSc
    have key : ∀ ak' uc' ug', Bt ak' → UG uc' ug' → Rl N hd ak' uc' ls fo ba' (q, lv, en, fm, sp, lo, hi, ov, va, qu, se, tg, ir, ou, (ct, ch, gv), (tt, la)) (tk, du, se, he, lv, en, fm, ct, sp, lo, hi, ov, va, q, gv, ch, tt, hd, ak', ug', ls, (shR ro 0 (nb - 1)), (upd sz 0 (nI (nb - 1))), ft, la) := fun ak' uc' ug' z1 z2 => Rl.mk ⟨bq, ben, bfm, bct, bch, bgv, blo, bhi, bov, bva, bse, bhd, z1⟩ z2 (hF.fr (fun j z _ => hro j z) (pk_un (by decide))) hB' (hI.fr hlm.2 (fun j z _ => hro j (by omega)) (pk_un (by decide))) (hO.fr (fun j z => hro j (by omega)) (pk_un (by decide))) hH hQ
    have elt : (6 < nI (nb - 1)) = (6 < nb - 1) := propext (nI_ltI (a := 6) (b := nb - 1) (by omega) (by omega))
    by_cases c1 : ak = 0
    · refine ⟨qb 0, (hd, ak, uc, ls, fo, ba', (q, lv, en, fm, sp, lo, hi, ov, va, qu, se, tg, ir, ou, (ct, ch, gv), (tt, la))), _, ?_, ?_, key ak uc ug bak hU⟩
      · obtain ⟨f1, f2, f3, f4⟩ := fo
        obtain ⟨b1, b2, b3, b4⟩ := ba
        obtain ⟨d1, d2, d3, d4⟩ := ba'
        obtain ⟨i1, i2, i3, i4⟩ := ir
        obtain ⟨o1, o2, o3, o4⟩ := ou
        dsimp only at hsz hsz'
        subst hsz
        simp only [f_F_take, f_D_takeBack, f_D_takeBack_54, nz' (show nb < 32 by omega), if_neg c0, hr, Option.bind_some, if_pos c1]
      · simp only [f_T_take, f_T_take_50, g04, cl0, hs, nz' (show nb < 32 by omega), if_neg c0, ht, Option.bind_some, if_pos c1]
    · by_cases c2 : 6 < nb - 1
      · refine ⟨qb 0, (hd, ak, uc, ls, fo, ba', (q, lv, en, fm, sp, lo, hi, ov, va, qu, se, tg, ir, ou, (ct, ch, gv), (tt, la))), _, ?_, ?_, key ak uc ug bak hU⟩
        · obtain ⟨f1, f2, f3, f4⟩ := fo
          obtain ⟨b1, b2, b3, b4⟩ := ba
          obtain ⟨d1, d2, d3, d4⟩ := ba'
          obtain ⟨i1, i2, i3, i4⟩ := ir
          obtain ⟨o1, o2, o3, o4⟩ := ou
          dsimp only at hsz hsz'
          subst hsz hsz'
          simp only [f_F_take, f_D_takeBack, f_D_takeBack_54, nz' (show nb < 32 by omega), if_neg c0, hr, Option.bind_some, if_neg c1, elt, if_pos c2]
        · simp only [f_T_take, f_T_take_50, g04, cl0, hs, nz' (show nb < 32 by omega), if_neg c0, ht, Option.bind_some, if_neg c1, pk_us, elt, if_pos c2]
      · obtain ⟨p', v', h1, h2, h3⟩ := s_wake (key 0 17 17 (Or.inl rfl) (Or.inr (Or.inl ⟨rfl, rfl⟩)))
        refine ⟨qb 0, (hd, 0, 17, ls, fo, ba', p'), v', ?_, ?_, h3⟩
        · obtain ⟨f1, f2, f3, f4⟩ := fo
          obtain ⟨b1, b2, b3, b4⟩ := ba
          obtain ⟨d1, d2, d3, d4⟩ := ba'
          obtain ⟨i1, i2, i3, i4⟩ := ir
          obtain ⟨o1, o2, o3, o4⟩ := ou
          obtain ⟨z1, z2, z3, z4, z5, z6, z7, z8, z9, z10, z11, z12, ⟨zi1, zi2, zi3, zi4⟩, ⟨zo1, zo2, zo3, zo4⟩, ⟨zm1, zm2, zm3⟩, ⟨zl1, zl2⟩⟩ := p'
          dsimp only at hsz hsz'
          subst hsz hsz'
          simp only [f_F_take, f_D_takeBack, f_D_takeBack_54, nz' (show nb < 32 by omega), if_neg c0, hr, Option.bind_some, if_neg c1, elt, if_neg c2, h1]
        · obtain ⟨w1, w2, w3, w4, w5, w6, w7, w8, w9, w10, w11, w12, w13, w14, w15, w16, w17, w18, w19, w20, w21, w22, w23, w24, w25⟩ := v'
          simp only [f_T_take, f_T_take_50, g04, cl0, hs, nz' (show nb < 32 by omega), if_neg c0, ht, Option.bind_some, if_neg c1, pk_us, elt, if_neg c2, h2]
