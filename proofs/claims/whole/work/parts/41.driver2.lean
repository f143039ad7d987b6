/-! receiving, sending, a round -/
theorem on0 {b : Int32} (h : By 256 b) : (onI b 0 = 0) = ((b &&& 1) = 0) := by
  rw [← (onb h).2.2]
  apply propext
  by_cases c : (b &&& 1) = 0
  · rw [if_pos c]; exact ⟨fun _ => c, fun _ => rfl⟩
  · rw [if_neg c]; exact ⟨fun z => absurd z (by decide), fun z => absurd z c⟩
theorem s_recv {N : Nat} (hN : N ≤ 60000) : ∀ (k i : Nat), i ≤ 17 → 19 - i < k → ∀ (u : DrT) (v : TwT), RD N u v → ∃ u' v', f_D_receive_2 k u (nI i) = some u' ∧ f_T_receive_4 k v 1 (nI i) = some v' ∧ RD N u' v' := by
  intro k
  induction k with
  | zero => intro i h1 h2; omega
  | succ k ih =>
    intro i hil hk u v h
    obtain ⟨hd, ak, uc, ls, fo, ba, p⟩ := u
    have h : Rl N hd ak uc ls fo ba p v := h
    obtain ⟨r, p1, tk, du, se, he, lv, en, fm, ct, sp, lo, hi, ov, va, q, gv, ch, tt, ug, ro, sz, ft, la, qu, tg, ir, ou, hb, h1, h2, h3⟩ := s_rs hN h
    have e17 : ¬ (17 : Int32) < nI i := nI_nlt (a := 17) (b := i) hil (by decide)
    have h10 : ¬ (1 : Int32) = 0 := by decide
    have eT : f_T_receive_4 (k + 1) v 1 (nI i) = f_T_receive_43 (f_T_receive_4 k) (tk, du, se, he, lv, en, fm, ct, sp, lo, hi, ov, va, q, gv, ch, tt, hd, ak, ug, ls, ro, sz, ft, la) (nI i) r (if (r &&& 2) = 0 then ls else ls + 1) := by
      obtain ⟨w1, w2, w3, w4, w5, w6, w7, w8, w9, w10, w11, w12, w13, w14, w15, w16, w17, w18, w19, w20, w21, w22, w23, w24, w25⟩ := v
      simp only [f_T_receive_4, if_neg e17, if_neg h10, h2, t_isOn, Option.bind_some, (onb hb).1]
      by_cases c : (r &&& 2) = 0
      · simp only [if_pos c]
      · simp only [if_neg c]
    have e43 : f_T_receive_43 (f_T_receive_4 k) (tk, du, se, he, lv, en, fm, ct, sp, lo, hi, ov, va, q, gv, ch, tt, hd, ak, ug, ls, ro, sz, ft, la) (nI i) r (if (r &&& 2) = 0 then ls else ls + 1) = (if (r &&& 1) = 0 then f_T_receive_65 (f_T_receive_4 k) (tk, du, se, he, lv, en, fm, ct, sp, lo, hi, ov, va, q, gv, ch, tt, hd, ak, ug, (if (r &&& 2) = 0 then ls else ls + 1), ro, sz, ft, la) (nI i) else (if 17 ≤ nI i then f_T_receive_65 (f_T_receive_4 k) (tk, du, se, he, lv, en, fm, ct, sp, lo, hi, ov, va, q, gv, ch, tt, hd, ak, ug, (if (r &&& 2) = 0 then ls else ls + 1), ro, sz, ft, la) (nI i) else f_T_receive_66 (f_T_receive_4 k) (tk, du, se, he, lv, en, fm, ct, sp, lo, hi, ov, va, q, gv, ch, tt, hd, ak, ug, (if (r &&& 2) = 0 then ls else ls + 1), ro, sz, ft, la) (nI i) 1)) := by
      simp only [f_T_receive_43, t_isOn, Option.bind_some, on0 hb]
    rw [e43] at eT
    generalize (if (r &&& 2) = 0 then ls else ls + 1) = ls' at h1 h3 eT
    have estop : f_T_receive_65 (f_T_receive_4 k) (tk, du, se, he, lv, en, fm, ct, sp, lo, hi, ov, va, q, gv, ch, tt, hd, ak, ug, ls', ro, sz, ft, la) (nI i) = some (tk, du, se, he, lv, en, fm, ct, sp, lo, hi, ov, va, q, gv, ch, tt, hd, ak, ug, ls', ro, sz, ft, la) := by
      obtain ⟨k', rfl⟩ : ∃ k', k = k' + 1 := ⟨k - 1, by omega⟩
      simp only [f_T_receive_65, f_T_receive_66, f_T_receive_84, if_true, f_T_receive_4, f_T_receive_90, ite_self]
    have eD : f_D_receive_2 (k + 1) (hd, ak, uc, ls, fo, ba, p) (nI i) = (if (r &&& 1) = 0 then some (hd, ak, uc, ls', fo, ba, p1) else (if nI i = 17 then some (hd, ak, uc, ls', fo, ba, p1) else Option.bind (f_P_load p1 0) (fun q => Option.bind (f_D_handle (hd, ak, uc, ls', fo, ba, q.2) q.1) (fun d => f_D_receive_2 k d (nI i + 1))))) := by
      obtain ⟨f1, f2, f3, f4⟩ := fo
      obtain ⟨b1, b2, b3, b4⟩ := ba
      obtain ⟨y1, y2, y3, y4, y5, y6, y7, y8, y9, y10, y11, y12, ⟨yi1, yi2, yi3, yi4⟩, ⟨yo1, yo2, yo3, yo4⟩, ⟨ym1, ym2, ym3⟩, ⟨yl1, yl2⟩⟩ := p
      obtain ⟨z1, z2, z3, z4, z5, z6, z7, z8, z9, z10, z11, z12, ⟨zi1, zi2, zi3, zi4⟩, ⟨zo1, zo2, zo3, zo4⟩, ⟨zm1, zm2, zm3⟩, ⟨zl1, zl2⟩⟩ := p1
      simp only [f_D_receive_2, f_D_receive_25, if_neg e17, h1, Option.bind_some]
    by_cases c1 : (r &&& 1) = 0
    · rw [if_pos c1] at eT eD
      exact ⟨_, _, eD, eT.trans estop, h3⟩
    · rw [if_neg c1] at eT eD
      by_cases c2 : i = 17
      · have e : nI i = 17 := by rw [c2]; rfl
        rw [if_pos e] at eD
        rw [if_pos (by rw [e]; decide)] at eT
        exact ⟨_, _, eD, eT.trans estop, h3⟩
      · have e : ¬ nI i = 17 := fun z => c2 ((nI_eq (a := i) (b := 17) (by omega) (by omega)).mp z)
        have e' : ¬ 17 ≤ nI i := nI_ge (a := i) (b := 17) (by omega) (by omega)
        rw [if_neg e] at eD
        rw [if_neg e'] at eT
        obtain ⟨c, p2, v2, g1, g2, g3⟩ := s_load0 h3
        obtain ⟨u3, v3, g4, g5, g6⟩ := s_handle g3 c
        obtain ⟨u', v', g7, g8, g9⟩ := ih (i + 1) (by omega) (by omega) u3 v3 g6
        refine ⟨u', v', ?_, ?_, g9⟩
        · rw [eD, g1, Option.bind_some, g4, Option.bind_some, nI_1]
          exact g7
        · rw [eT]
          obtain ⟨w1, w2, w3, w4, w5, w6, w7, w8, w9, w10, w11, w12, w13, w14, w15, w16, w17, w18, w19, w20, w21, w22, w23, w24, w25⟩ := v2
          obtain ⟨x1, x2, x3, x4, x5, x6, x7, x8, x9, x10, x11, x12, x13, x14, x15, x16, x17, x18, x19, x20, x21, x22, x23, x24, x25⟩ := v3
          simp only [f_T_receive_66, f_T_receive_84, if_neg h10, g2, g5, Option.bind_some, nI_1]
          exact g8
theorem s_receive {N : Nat} (hN : N ≤ 60000) {u : DrT} {v : TwT} (h : RD N u v) : ∃ u' v', f_D_receive u = some u' ∧ f_T_receive v = some v' ∧ RD N u' v' := by
  obtain ⟨u', v', h1, h2, h3⟩ := s_recv hN 128 1 (by decide) (by decide) u v h
  refine ⟨u', v', ?_, ?_, h3⟩
  · obtain ⟨hd, ak, uc, ls, ⟨f1, f2, f3, f4⟩, ⟨b1, b2, b3, b4⟩, ⟨y1, y2, y3, y4, y5, y6, y7, y8, y9, y10, y11, y12, ⟨yi1, yi2, yi3, yi4⟩, ⟨yo1, yo2, yo3, yo4⟩, ⟨ym1, ym2, ym3⟩, ⟨yl1, yl2⟩⟩⟩ := u
    exact h1
  · obtain ⟨w1, w2, w3, w4, w5, w6, w7, w8, w9, w10, w11, w12, w13, w14, w15, w16, w17, w18, w19, w20, w21, w22, w23, w24, w25⟩ := v
    exact h2
theorem s_last {N : Nat} {hd ak uc ls : Int32} {fo ba : RgT} {p : PtT} {v : TwT} (h : Rl N hd ak uc ls fo ba p v) (x : Int32) : ∃ u' v', f_D_transmit_73 (hd, ak, uc, ls, fo, ba, p) x = some u' ∧ f_T_transmit_70 v x = some v' ∧ RD N u' v' := by
  by_cases c : x = 0
  · obtain ⟨r, h1, h2⟩ := s_load1 h
    obtain ⟨p', v', h3, h4, h5⟩ := s_store1 h (r &&& (-3))
    refine ⟨(hd, ak, uc, ls, fo, ba, p'), v', ?_, ?_, h5⟩
    · obtain ⟨f1, f2, f3, f4⟩ := fo
      obtain ⟨b1, b2, b3, b4⟩ := ba
      obtain ⟨y1, y2, y3, y4, y5, y6, y7, y8, y9, y10, y11, y12, ⟨yi1, yi2, yi3, yi4⟩, ⟨yo1, yo2, yo3, yo4⟩, ⟨ym1, ym2, ym3⟩, ⟨yl1, yl2⟩⟩ := p
      obtain ⟨z1, z2, z3, z4, z5, z6, z7, z8, z9, z10, z11, z12, ⟨zi1, zi2, zi3, zi4⟩, ⟨zo1, zo2, zo3, zo4⟩, ⟨zm1, zm2, zm3⟩, ⟨zl1, zl2⟩⟩ := p'
      simp only [f_D_transmit_73, f_D_transmit_96, if_pos c, h1, h3, Option.bind_some]
    · obtain ⟨w1, w2, w3, w4, w5, w6, w7, w8, w9, w10, w11, w12, w13, w14, w15, w16, w17, w18, w19, w20, w21, w22, w23, w24, w25⟩ := v
      obtain ⟨x1, x2, x3, x4, x5, x6, x7, x8, x9, x10, x11, x12, x13, x14, x15, x16, x17, x18, x19, x20, x21, x22, x23, x24, x25⟩ := v'
      simp only [f_T_transmit_70, f_T_transmit_90, if_pos c, h2, h4, Option.bind_some]
  · refine ⟨(hd, ak, uc, ls, fo, ba, p), v, ?_, ?_, h⟩
    · obtain ⟨f1, f2, f3, f4⟩ := fo
      obtain ⟨b1, b2, b3, b4⟩ := ba
      obtain ⟨y1, y2, y3, y4, y5, y6, y7, y8, y9, y10, y11, y12, ⟨yi1, yi2, yi3, yi4⟩, ⟨yo1, yo2, yo3, yo4⟩, ⟨ym1, ym2, ym3⟩, ⟨yl1, yl2⟩⟩ := p
      simp only [f_D_transmit_73, f_D_transmit_96, if_neg c]
    · obtain ⟨w1, w2, w3, w4, w5, w6, w7, w8, w9, w10, w11, w12, w13, w14, w15, w16, w17, w18, w19, w20, w21, w22, w23, w24, w25⟩ := v
      simp only [f_T_transmit_70, f_T_transmit_90, if_neg c]
theorem s_send {N : Nat} (hN : N ≤ 60000) : ∀ (k i : Nat), i ≤ 16 → 17 - i < k → ∀ (hd ak uc ls : Int32) (fo ba : RgT) (p : PtT) (v : TwT), Rl N hd ak uc ls fo ba p v → ∃ u' v', f_D_transmit_29 k (hd, ak, uc, ls, fo, ba, p) (nI i) = some u' ∧ f_T_transmit_28 k v (nI i) = some v' ∧ RD N u' v' := by
  intro k
  induction k with
  | zero => intro i h1 h2; omega
  | succ k ih =>
    intro i hil hk hd ak uc ls fo ba p v h
    obtain ⟨u9, v9, l1, l2, l3⟩ := s_last h (nI i)
    have h0 := h
    obtain ⟨tk, du, se, he, lv, en, fm, ct, sp, lo, hi, ov, va, q, gv, ch, tt, ug, ro, sz, ft, la, qu, tg, ir, ou, nf, nb, ni, no, T, g, rfl, rfl, hSc, hU, hF, hB, hI, hO, hH, hQ⟩ := h
    have hlm := Lm_in q
    obtain ⟨qf, hR, hs, hE⟩ := id hF
    have hle := hR.le
    have hsz := hR.size
    have e16 : (16 ≤ nI i) = (16 ≤ i) := propext (nI_leI (a := 16) (b := i) (by omega) (by omega))
    by_cases c1 : 16 ≤ i
    · refine ⟨u9, v9, ?_, ?_, l3⟩
      · obtain ⟨f1, f2, f3, f4⟩ := fo
        obtain ⟨b1, b2, b3, b4⟩ := ba
        obtain ⟨i1, i2, i3, i4⟩ := ir
        obtain ⟨o1, o2, o3, o4⟩ := ou
        simp only [f_D_transmit_29, e16, if_pos c1, l1]
      · simp only [f_T_transmit_28, e16, if_pos c1, l2, g14, ite_self]
    · by_cases c2 : hd = 0
      · by_cases c3 : nf = 0
        · refine ⟨u9, v9, ?_, ?_, l3⟩
          · obtain ⟨f1, f2, f3, f4⟩ := fo
            obtain ⟨b1, b2, b3, b4⟩ := ba
            obtain ⟨i1, i2, i3, i4⟩ := ir
            obtain ⟨o1, o2, o3, o4⟩ := ou
            dsimp only at hsz
            subst hsz
            simp only [f_D_transmit_29, e16, if_neg c1, if_pos c2, nz (show nf < 32 by omega), if_pos c3, l1]
          · simp only [f_T_transmit_28, if_pos c2, g14, cl1, hs, nz (show nf < 32 by omega), if_pos c3, l2]
        · have hpos := Nat.pos_of_ne_zero c3
          obtain ⟨fo', hr, hR'⟩ := rg_remove hR hpos
          have h24 := hE 0 hpos
          rw [Nat.add_zero] at h24
          have ht : f_T_removeFirst (tk, du, se, he, lv, en, fm, ct, sp, lo, hi, ov, va, q, gv, ch, tt, hd, ak, ug, ls, ro, sz, ft, la) 1 = some (qf 0, (tk, du, se, he, lv, en, fm, ct, sp, lo, hi, ov, va, q, gv, ch, tt, hd, ak, ug, ls, (shR ro 24 (24 + (nf - 1))), (upd sz 1 (nI (nf - 1))), ft, la)) := by
            rw [← h24]
            exact t_remove (r := 1) (by decide) hs hpos (by omega)
          have hro : ∀ j, (j < 24 ∨ 48 ≤ j) → shR ro 24 (24 + (nf - 1)) j = ro j := fun j hj => by
            unfold shR; rw [if_neg (by omega)]
          have key : Rl N hd ak uc ls fo' ba (q, lv, en, fm, sp, lo, hi, ov, va, qu, se, tg, ir, ou, (ct, ch, gv), (tt, la)) (tk, du, se, he, lv, en, fm, ct, sp, lo, hi, ov, va, q, gv, ch, tt, hd, ak, ug, ls, (shR ro 24 (24 + (nf - 1))), (upd sz 1 (nI (nf - 1))), ft, la) := by
            refine Rl.mk (nf := nf - 1) hSc hU ⟨_, hR', pk_us, fun i hi => ?_⟩ (hB.fr (fun j h2 => hro j (by omega)) (pk_un (by decide))) (hI.fr hlm.2 (fun j h1 h2 => hro j (by omega)) (pk_un (by decide))) (hO.fr (fun j h2 => hro j (by omega)) (pk_un (by decide))) hH hQ
            have := hE (i + 1) (by omega)
            show shR ro 24 (24 + (nf - 1)) (24 + i) = qf (i + 1)
            unfold shR
            rw [if_pos (by omega)]
            exact this
          obtain ⟨p2, v2, g1, g2, g3⟩ := s_store0 hN key (qf 0)
          obtain ⟨u', v', g4, g5, g6⟩ := ih (i + 1) (by omega) (by omega) hd ak uc ls fo' ba p2 v2 g3
          refine ⟨u', v', ?_, ?_, g6⟩
          · obtain ⟨f1, f2, f3, f4⟩ := fo
            obtain ⟨d1, d2, d3, d4⟩ := fo'
            obtain ⟨b1, b2, b3, b4⟩ := ba
            obtain ⟨i1, i2, i3, i4⟩ := ir
            obtain ⟨o1, o2, o3, o4⟩ := ou
            obtain ⟨z1, z2, z3, z4, z5, z6, z7, z8, z9, z10, z11, z12, ⟨zi1, zi2, zi3, zi4⟩, ⟨zo1, zo2, zo3, zo4⟩, ⟨zm1, zm2, zm3⟩, ⟨zl1, zl2⟩⟩ := p2
            dsimp only at hsz
            subst hsz
            simp only [f_D_transmit_29, e16, if_neg c1, if_pos c2, nz (show nf < 32 by omega), if_neg c3, hr, g1, Option.bind_some, nI_1]
            exact g4
          · obtain ⟨w1, w2, w3, w4, w5, w6, w7, w8, w9, w10, w11, w12, w13, w14, w15, w16, w17, w18, w19, w20, w21, w22, w23, w24, w25⟩ := v2
            simp only [f_T_transmit_28, if_pos c2, g14, cl1, hs, nz (show nf < 32 by omega), if_neg c3, e16, if_neg c1, ht, g2, Option.bind_some, nI_1]
            exact g5
      · refine ⟨u9, v9, ?_, ?_, l3⟩
        · obtain ⟨f1, f2, f3, f4⟩ := fo
          obtain ⟨b1, b2, b3, b4⟩ := ba
          obtain ⟨i1, i2, i3, i4⟩ := ir
          obtain ⟨o1, o2, o3, o4⟩ := ou
          simp only [f_D_transmit_29, e16, if_neg c1, if_neg c2, l1]
        · simp only [f_T_transmit_28, if_neg c2, l2]
theorem s_transmit {N : Nat} (hN : N ≤ 60000) {hd ak uc ls : Int32} {fo ba : RgT} {p : PtT} {v : TwT} (h : Rl N hd ak uc ls fo ba p v) : ∃ u' v', f_D_transmit (hd, ak, uc, ls, fo, ba, p) = some u' ∧ f_T_transmit v = some v' ∧ RD N u' v' := by
  have h0 := h
  obtain ⟨tk, du, se, he, lv, en, fm, ct, sp, lo, hi, ov, va, q, gv, ch, tt, ug, ro, sz, ft, la, qu, tg, ir, ou, nf, nb, ni, no, T, g, rfl, rfl, hSc, hU, hF, hB, hI, hO, hH, hQ⟩ := h
  have key : Rl N hd ak (-1) ls fo ba (q, lv, en, fm, sp, lo, hi, ov, va, qu, se, tg, ir, ou, (ct, ch, gv), (tt, la)) (tk, du, se, he, lv, en, fm, ct, sp, lo, hi, ov, va, q, gv, ch, tt, hd, ak, 0, ls, ro, sz, ft, la) := Rl.mk hSc (Or.inl ⟨rfl, rfl⟩) hF hB hI hO hH hQ
  have go : ∀ x : Int32, ¬ x = -1 → ¬ x = 0 → uc = x → ug = x → ∃ u' v', f_D_transmit (hd, ak, uc, ls, fo, ba, (q, lv, en, fm, sp, lo, hi, ov, va, qu, se, tg, ir, ou, (ct, ch, gv), (tt, la))) = some u' ∧ f_T_transmit (tk, du, se, he, lv, en, fm, ct, sp, lo, hi, ov, va, q, gv, ch, tt, hd, ak, ug, ls, ro, sz, ft, la) = some v' ∧ RD N u' v' := by
    intro x x1 x2 e1 e2
    subst e1
    subst e2
    obtain ⟨p2, v2, g1, g2, g3⟩ := s_store0 hN key ug
    obtain ⟨u', v', g4, g5, g6⟩ := s_send hN 128 1 (by decide) (by decide) hd ak (-1) ls fo ba p2 v2 g3
    refine ⟨u', v', ?_, ?_, g6⟩
    · obtain ⟨f1, f2, f3, f4⟩ := fo
      obtain ⟨b1, b2, b3, b4⟩ := ba
      obtain ⟨i1, i2, i3, i4⟩ := ir
      obtain ⟨o1, o2, o3, o4⟩ := ou
      obtain ⟨z1, z2, z3, z4, z5, z6, z7, z8, z9, z10, z11, z12, ⟨zi1, zi2, zi3, zi4⟩, ⟨zo1, zo2, zo3, zo4⟩, ⟨zm1, zm2, zm3⟩, ⟨zl1, zl2⟩⟩ := p2
      simp only [f_D_transmit, if_neg x1, g1, Option.bind_some]
      exact g4
    · obtain ⟨w1, w2, w3, w4, w5, w6, w7, w8, w9, w10, w11, w12, w13, w14, w15, w16, w17, w18, w19, w20, w21, w22, w23, w24, w25⟩ := v2
      simp only [f_T_transmit, if_neg x2, g2, Option.bind_some]
      exact g5
  rcases hU with ⟨e1, e2⟩ | ⟨e1, e2⟩ | ⟨e1, e2⟩
  · obtain ⟨u', v', g4, g5, g6⟩ := s_send hN 128 0 (by decide) (by decide) hd ak uc ls fo ba _ _ h0
    refine ⟨u', v', ?_, ?_, g6⟩
    · obtain ⟨f1, f2, f3, f4⟩ := fo
      obtain ⟨b1, b2, b3, b4⟩ := ba
      obtain ⟨i1, i2, i3, i4⟩ := ir
      obtain ⟨o1, o2, o3, o4⟩ := ou
      simp only [f_D_transmit, if_pos e1]
      exact g4
    · simp only [f_T_transmit, if_pos e2]
      exact g5
  · exact go 17 (by decide) (by decide) e1 e2
  · exact go 19 (by decide) (by decide) e1 e2
