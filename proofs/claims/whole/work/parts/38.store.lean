/-! writing any register -/
theorem tw106 {N : Nat} {hd ak uc ls : Int32} {fo ba : RgT} {p : PtT} {v : TwT} (h : Rl N hd ak uc ls fo ba p v) {a x3 x5 : Int32} (e : x5 = inT v) (h3 : ¬ a = 3) (h4 : ¬ a = 4) (h7 : ¬ a = 7) : f_T_write_106 v a x3 x5 = some (1, v) := by
  obtain ⟨tk, du, se, he, lv, en, fm, ct, sp, lo, hi, ov, va, q, gv, ch, tt, ug, ro, sz, ft, la, qu, tg, ir, ou, nf, nb, ni, no, T, g, rfl, rfl, hSc, hU, hF, hB, hI, hO, hH, hQ⟩ := h
  obtain ⟨bq, ben, bfm, bct, bch, bgv, blo, bhi, bov, bva, bse, bhd, bak⟩ := hSc
  have e' : x5 = inI ct gv := e
  subst e'
  simp only [f_T_write_106, f_T_write_120, f_T_write_140, f_T_write_158, if_neg h3, if_neg h4, if_neg h7, t_note bct, Option.bind_some, nt_Self bch (in_By bct bgv)]
theorem s_store0 {N : Nat} (hN : N ≤ 60000) {hd ak uc ls : Int32} {fo ba : RgT} {p : PtT} {v : TwT} (h : Rl N hd ak uc ls fo ba p v) (x : Int32) : ∃ p' v', f_P_store p 0 x = some p' ∧ f_T_write v 0 x = some (1, v') ∧ Rl N hd ak uc ls fo ba p' v' := by
  obtain ⟨p', v', h1, h2, h3, h4⟩ := s_data hN h (by255 x)
  have h6 := tw106 (a := 0) (x3 := x &&& 255) h3 h4.symm (by decide) (by decide) (by decide)
  obtain ⟨tk, du, se, he, lv, en, fm, ct, sp, lo, hi, ov, va, q, gv, ch, tt, ug, ro, sz, ft, la, qu, tg, ir, ou, nf, nb, ni, no, T, g, rfl, rfl, hSc, hU, hF, hB, hI, hO, hH, hQ⟩ := h
  obtain ⟨bq, ben, bfm, bct, bch, bgv, blo, bhi, bov, bva, bse, bhd, bak⟩ := hSc
  have hu := p_uob (q := q) (lv := lv) (en := en) (fm := fm) (sp := sp) (lo := lo) (hi := hi) (ov := ov) (va := va) (qu := qu) (se := se) (tg := tg) (ir := ir) (ou := ou) (ct := ct) (ch := ch) (gv := gv) (tt := tt) (la := la)
  have key : Rl N hd ak uc ls fo ba (q, lv, en, fm, sp, (x &&& 255), hi, ov, va, qu, se, tg, ir, ou, (ct, ch, gv), (tt, la)) (tk, du, se, he, lv, en, fm, ct, sp, (x &&& 255), hi, ov, va, q, gv, ch, tt, hd, ak, ug, ls, ro, sz, ft, la) := Rl.mk ⟨bq, ben, bfm, bct, bch, bgv, by255 x, bhi, bov, bva, bse, bhd, bak⟩ hU hF hB hI hO hH hQ
  have k6 := tw106 (a := 0) (x3 := x &&& 255) key rfl (by decide) (by decide) (by decide)
  have e5 : inT (tk, du, se, he, lv, en, fm, ct, sp, (x &&& 255), hi, ov, va, q, gv, ch, tt, hd, ak, ug, ls, ro, sz, ft, la) = inI ct gv := rfl
  have e6 : inT (tk, du, se, he, lv, en, fm, ct, sp, lo, hi, ov, va, q, gv, ch, tt, hd, ak, ug, ls, ro, sz, ft, la) = inI ct gv := rfl
  rw [e5] at k6
  rw [e6] at h6
  by_cases c : ubI fm = 0
  · refine ⟨p', v', ?_, ?_, h3⟩
    · obtain ⟨i1, i2, i3, i4⟩ := ir
      obtain ⟨o1, o2, o3, o4⟩ := ou
      obtain ⟨z1, z2, z3, z4, z5, z6, z7, z8, z9, z10, z11, z12, ⟨zi1, zi2, zi3, zi4⟩, ⟨zo1, zo2, zo3, zo4⟩, ⟨zm1, zm2, zm3⟩, ⟨zl1, zl2⟩⟩ := p'
      simp only [f_P_store, f_P_store_136, hu, h1, Option.bind_some, if_pos c, if_true]
    · obtain ⟨w1, w2, w3, w4, w5, w6, w7, w8, w9, w10, w11, w12, w13, w14, w15, w16, w17, w18, w19, w20, w21, w22, w23, w24, w25⟩ := v'
      simp only [f_T_write, f_T_write_53, t_isOn, ub_On bfm, t_inputs bct, Option.bind_some, show ¬ (0 : Int32) < 0 by decide, show (0 : Int32) ≤ 7 by decide, if_pos c, h2, h6, if_true, if_false]
  · refine ⟨_, _, ?_, ?_, key⟩
    · obtain ⟨i1, i2, i3, i4⟩ := ir
      obtain ⟨o1, o2, o3, o4⟩ := ou
      simp only [f_P_store, f_P_store_136, hu, Option.bind_some, if_neg c, if_true]
    · simp only [f_T_write, t_isOn, ub_On bfm, t_inputs bct, Option.bind_some, show ¬ (0 : Int32) < 0 by decide, show (0 : Int32) ≤ 7 by decide, if_neg c, k6, if_true, if_false]
theorem s_store1 {N : Nat} {hd ak uc ls : Int32} {fo ba : RgT} {p : PtT} {v : TwT} (h : Rl N hd ak uc ls fo ba p v) (x : Int32) : ∃ p' v', f_P_store p 1 x = some p' ∧ f_T_write v 1 x = some (1, v') ∧ Rl N hd ak uc ls fo ba p' v' := by
  obtain ⟨p', v', h1, h2, h3, h4⟩ := s_enab h (by255 x)
  have h6 := tw106 (a := 1) (x3 := x &&& 255) h3 h4.symm (by decide) (by decide) (by decide)
  obtain ⟨tk, du, se, he, lv, en, fm, ct, sp, lo, hi, ov, va, q, gv, ch, tt, ug, ro, sz, ft, la, qu, tg, ir, ou, nf, nb, ni, no, T, g, rfl, rfl, hSc, hU, hF, hB, hI, hO, hH, hQ⟩ := h
  obtain ⟨bq, ben, bfm, bct, bch, bgv, blo, bhi, bov, bva, bse, bhd, bak⟩ := hSc
  have hu := p_uob (q := q) (lv := lv) (en := en) (fm := fm) (sp := sp) (lo := lo) (hi := hi) (ov := ov) (va := va) (qu := qu) (se := se) (tg := tg) (ir := ir) (ou := ou) (ct := ct) (ch := ch) (gv := gv) (tt := tt) (la := la)
  have key : Rl N hd ak uc ls fo ba (q, lv, en, fm, sp, lo, (x &&& 255), ov, va, qu, se, tg, ir, ou, (ct, ch, gv), (tt, la)) (tk, du, se, he, lv, en, fm, ct, sp, lo, (x &&& 255), ov, va, q, gv, ch, tt, hd, ak, ug, ls, ro, sz, ft, la) := Rl.mk ⟨bq, ben, bfm, bct, bch, bgv, blo, by255 x, bov, bva, bse, bhd, bak⟩ hU hF hB hI hO hH hQ
  have k6 := tw106 (a := 1) (x3 := x &&& 255) key rfl (by decide) (by decide) (by decide)
  have e5 : inT (tk, du, se, he, lv, en, fm, ct, sp, lo, (x &&& 255), ov, va, q, gv, ch, tt, hd, ak, ug, ls, ro, sz, ft, la) = inI ct gv := rfl
  have e6 : inT (tk, du, se, he, lv, en, fm, ct, sp, lo, hi, ov, va, q, gv, ch, tt, hd, ak, ug, ls, ro, sz, ft, la) = inI ct gv := rfl
  rw [e5] at k6
  rw [e6] at h6
  have h10 : ¬ (1 : Int32) = 0 := by decide
  by_cases c : ubI fm = 0
  · refine ⟨p', v', ?_, ?_, h3⟩
    · obtain ⟨i1, i2, i3, i4⟩ := ir
      obtain ⟨o1, o2, o3, o4⟩ := ou
      obtain ⟨z1, z2, z3, z4, z5, z6, z7, z8, z9, z10, z11, z12, ⟨zi1, zi2, zi3, zi4⟩, ⟨zo1, zo2, zo3, zo4⟩, ⟨zm1, zm2, zm3⟩, ⟨zl1, zl2⟩⟩ := p'
      simp only [f_P_store, f_P_store_136, hu, h1, Option.bind_some, if_neg h10, if_pos c, if_true]
    · obtain ⟨w1, w2, w3, w4, w5, w6, w7, w8, w9, w10, w11, w12, w13, w14, w15, w16, w17, w18, w19, w20, w21, w22, w23, w24, w25⟩ := v'
      simp only [f_T_write, f_T_write_53, f_T_write_83, t_isOn, ub_On bfm, t_inputs bct, Option.bind_some, show ¬ (1 : Int32) < 0 by decide, show (1 : Int32) ≤ 7 by decide, if_neg h10, if_pos c, h2, h6, if_true, if_false]
  · refine ⟨_, _, ?_, ?_, key⟩
    · obtain ⟨i1, i2, i3, i4⟩ := ir
      obtain ⟨o1, o2, o3, o4⟩ := ou
      simp only [f_P_store, f_P_store_136, hu, Option.bind_some, if_neg h10, if_neg c, if_true]
    · simp only [f_T_write, f_T_write_53, t_isOn, ub_On bfm, t_inputs bct, Option.bind_some, show ¬ (1 : Int32) < 0 by decide, show (1 : Int32) ≤ 7 by decide, if_neg h10, if_neg c, k6, if_true, if_false]
theorem s_store2 {N : Nat} {hd ak uc ls : Int32} {fo ba : RgT} {p : PtT} {v : TwT} (h : Rl N hd ak uc ls fo ba p v) (x : Int32) : ∃ p' v', f_P_store p 2 x = some p' ∧ f_T_write v 2 x = some (1, v') ∧ Rl N hd ak uc ls fo ba p' v' := by
  obtain ⟨p', v', h1, h2, h3, h4⟩ := s_queue h (by255 x)
  have h6 := tw106 (a := 2) (x3 := x &&& 255) h3 h4.symm (by decide) (by decide) (by decide)
  obtain ⟨tk, du, se, he, lv, en, fm, ct, sp, lo, hi, ov, va, q, gv, ch, tt, ug, ro, sz, ft, la, qu, tg, ir, ou, nf, nb, ni, no, T, g, rfl, rfl, hSc, hU, hF, hB, hI, hO, hH, hQ⟩ := h
  obtain ⟨bq, ben, bfm, bct, bch, bgv, blo, bhi, bov, bva, bse, bhd, bak⟩ := hSc
  have e6 : inT (tk, du, se, he, lv, en, fm, ct, sp, lo, hi, ov, va, q, gv, ch, tt, hd, ak, ug, ls, ro, sz, ft, la) = inI ct gv := rfl
  rw [e6] at h6
  have h20 : ¬ (2 : Int32) = 0 := by decide
  have h21 : ¬ (2 : Int32) = 1 := by decide
  refine ⟨p', v', ?_, ?_, h3⟩
  · obtain ⟨i1, i2, i3, i4⟩ := ir
    obtain ⟨o1, o2, o3, o4⟩ := ou
    obtain ⟨z1, z2, z3, z4, z5, z6, z7, z8, z9, z10, z11, z12, ⟨zi1, zi2, zi3, zi4⟩, ⟨zo1, zo2, zo3, zo4⟩, ⟨zm1, zm2, zm3⟩, ⟨zl1, zl2⟩⟩ := p'
    simp only [f_P_store, f_P_store_136, h1, Option.bind_some, if_neg h20, if_neg h21, if_true]
  · obtain ⟨w1, w2, w3, w4, w5, w6, w7, w8, w9, w10, w11, w12, w13, w14, w15, w16, w17, w18, w19, w20, w21, w22, w23, w24, w25⟩ := v'
    simp only [f_T_write, f_T_write_53, f_T_write_83, t_isOn, ub_On bfm, t_inputs bct, Option.bind_some, show ¬ (2 : Int32) < 0 by decide, show (2 : Int32) ≤ 7 by decide, if_neg h20, if_neg h21, h2, h6, if_true, if_false]
theorem s_store {N : Nat} (hN : N ≤ 60000) {hd ak uc ls : Int32} {fo ba : RgT} {p : PtT} {v : TwT} (h : Rl N hd ak uc ls fo ba p v) {k : Nat} (hk : k < 8) (x : Int32) : ∃ p' v', f_P_store p (nI k) x = some p' ∧ f_T_write v (nI k) x = some (1, v') ∧ Rl N hd ak uc ls fo ba p' v' := by
  rcases (show k = 0 ∨ k = 1 ∨ k = 2 ∨ k = 3 ∨ k = 4 ∨ (k = 5 ∨ k = 6) ∨ k = 7 by omega) with rfl | rfl | rfl | rfl | rfl | hk56 | rfl
  · exact s_store0 hN h x
  · exact s_store1 h x
  · exact s_store2 h x
  · obtain ⟨tk, du, se, he, lv, en, fm, ct, sp, lo, hi, ov, va, q, gv, ch, tt, ug, ro, sz, ft, la, qu, tg, ir, ou, nf, nb, ni, no, T, g, rfl, rfl, hSc, hU, hF, hB, hI, hO, hH, hQ⟩ := h
    obtain ⟨bq, ben, bfm, bct, bch, bgv, blo, bhi, bov, bva, bse, bhd, bak⟩ := hSc
    have key : Rl N hd ak uc ls fo ba (q, lv, en, (x &&& 255), sp, lo, hi, ov, va, qu, se, tg, ir, ou, (ct, ch, gv), (tt, la)) (tk, du, se, he, lv, en, (x &&& 255), ct, sp, lo, hi, ov, va, q, gv, ch, tt, hd, ak, ug, ls, ro, sz, ft, la) := Rl.mk ⟨bq, ben, by255 x, bct, bch, bgv, blo, bhi, bov, bva, bse, bhd, bak⟩ hU hF hB hI hO hH hQ
    refine ⟨_, _, ?_, ?_, key⟩
    · obtain ⟨i1, i2, i3, i4⟩ := ir
      obtain ⟨o1, o2, o3, o4⟩ := ou
      simp only [f_P_store, f_P_store_136, show ¬ (nI 3) = 0 by decide, show ¬ (nI 3) = 1 by decide, show ¬ (nI 3) = 2 by decide, show ((nI 3) = 3) = True from propext ⟨fun _ => trivial, fun _ => rfl⟩, if_true, if_false]
    · simp only [f_T_write, f_T_write_53, f_T_write_83, f_T_write_106, f_T_write_120, f_T_write_140, f_T_write_158, t_isOn, t_inputs bct, t_note bct, Option.bind_some, show ¬ (nI 3) < 0 by decide, show (nI 3) ≤ 7 by decide, show ¬ (nI 3) = 0 by decide, show ¬ (nI 3) = 1 by decide, show ¬ (nI 3) = 2 by decide, show ((nI 3) = 3) = True from propext ⟨fun _ => trivial, fun _ => rfl⟩, show ¬ (nI 3) = 4 by decide, show ¬ (nI 3) = 7 by decide, if_true, if_false, nt_Self bch (in_By bct bgv)]
  · obtain ⟨tk, du, se, he, lv, en, fm, ct, sp, lo, hi, ov, va, q, gv, ch, tt, ug, ro, sz, ft, la, qu, tg, ir, ou, nf, nb, ni, no, T, g, rfl, rfl, hSc, hU, hF, hB, hI, hO, hH, hQ⟩ := h
    obtain ⟨bq, ben, bfm, bct, bch, bgv, blo, bhi, bov, bva, bse, bhd, bak⟩ := hSc
    have bct' := by31 (x &&& 255)
    have key : Rl N hd ak uc ls fo ba (q, lv, en, fm, sp, lo, hi, ov, va, qu, se, tg, ir, ou, (((x &&& 255) &&& 31), (ntI ch (inI ct gv) (inI ((x &&& 255) &&& 31) gv)), gv), (tt, la)) (tk, du, se, he, lv, en, fm, ((x &&& 255) &&& 31), sp, lo, hi, ov, va, q, gv, (ntI ch (inI ct gv) (inI ((x &&& 255) &&& 31) gv)), tt, hd, ak, ug, ls, ro, sz, ft, la) := Rl.mk ⟨bq, ben, bfm, bct', nt_By bch (in_By bct bgv) (in_By bct' bgv), bgv, blo, bhi, bov, bva, bse, bhd, bak⟩ hU hF hB hI hO hH hQ
    refine ⟨_, _, ?_, ?_, key⟩
    · obtain ⟨i1, i2, i3, i4⟩ := ir
      obtain ⟨o1, o2, o3, o4⟩ := ou
      simp only [f_P_store, f_P_store_136, m_control, Option.bind_some, show ¬ (nI 4) = 0 by decide, show ¬ (nI 4) = 1 by decide, show ¬ (nI 4) = 2 by decide, show ¬ (nI 4) = 3 by decide, show ((nI 4) = 4) = True from propext ⟨fun _ => trivial, fun _ => rfl⟩, if_true, if_false]
    · simp only [f_T_write, f_T_write_53, f_T_write_83, f_T_write_106, f_T_write_120, f_T_write_140, f_T_write_158, t_isOn, t_inputs bct, t_note bct', Option.bind_some, show ¬ (nI 4) < 0 by decide, show (nI 4) ≤ 7 by decide, show ¬ (nI 4) = 0 by decide, show ¬ (nI 4) = 1 by decide, show ¬ (nI 4) = 2 by decide, show ¬ (nI 4) = 3 by decide, show ((nI 4) = 4) = True from propext ⟨fun _ => trivial, fun _ => rfl⟩, show ¬ (nI 4) = 7 by decide, if_true, if_false]
  · have h6 := tw106 (a := nI k) (x3 := x &&& 255) h rfl (by rcases hk56 with rfl | rfl <;> decide) (by rcases hk56 with rfl | rfl <;> decide) (by rcases hk56 with rfl | rfl <;> decide)
    have h0 := h
    obtain ⟨tk, du, se, he, lv, en, fm, ct, sp, lo, hi, ov, va, q, gv, ch, tt, ug, ro, sz, ft, la, qu, tg, ir, ou, nf, nb, ni, no, T, g, rfl, rfl, hSc, hU, hF, hB, hI, hO, hH, hQ⟩ := h
    obtain ⟨bq, ben, bfm, bct, bch, bgv, blo, bhi, bov, bva, bse, bhd, bak⟩ := hSc
    have e6 : inT (tk, du, se, he, lv, en, fm, ct, sp, lo, hi, ov, va, q, gv, ch, tt, hd, ak, ug, ls, ro, sz, ft, la) = inI ct gv := rfl
    rw [e6] at h6
    refine ⟨_, _, ?_, ?_, h0⟩
    · obtain ⟨i1, i2, i3, i4⟩ := ir
      obtain ⟨o1, o2, o3, o4⟩ := ou
      rcases hk56 with rfl | rfl
      · rfl
      · rfl
    · have n0 : ¬ (nI k) < 0 := by rcases hk56 with rfl | rfl <;> decide
      have n1 : (nI k) ≤ 7 := by rcases hk56 with rfl | rfl <;> decide
      have n2 : ¬ (nI k) = 0 := by rcases hk56 with rfl | rfl <;> decide
      have n3 : ¬ (nI k) = 1 := by rcases hk56 with rfl | rfl <;> decide
      have n4 : ¬ (nI k) = 2 := by rcases hk56 with rfl | rfl <;> decide
      simp only [f_T_write, f_T_write_53, f_T_write_83, t_isOn, t_inputs bct, Option.bind_some, if_neg n0, if_pos n1, if_neg n2, if_neg n3, if_neg n4, h6]
  · obtain ⟨tk, du, se, he, lv, en, fm, ct, sp, lo, hi, ov, va, q, gv, ch, tt, ug, ro, sz, ft, la, qu, tg, ir, ou, nf, nb, ni, no, T, g, rfl, rfl, hSc, hU, hF, hB, hI, hO, hH, hQ⟩ := h
    obtain ⟨bq, ben, bfm, bct, bch, bgv, blo, bhi, bov, bva, bse, bhd, bak⟩ := hSc
    have key : Rl N hd ak uc ls fo ba (q, lv, en, fm, (x &&& 255), lo, hi, ov, va, qu, se, tg, ir, ou, (ct, ch, gv), (tt, la)) (tk, du, se, he, lv, en, fm, ct, (x &&& 255), lo, hi, ov, va, q, gv, ch, tt, hd, ak, ug, ls, ro, sz, ft, la) := Rl.mk ⟨bq, ben, bfm, bct, bch, bgv, blo, bhi, bov, bva, bse, bhd, bak⟩ hU hF hB hI hO hH hQ
    refine ⟨_, _, ?_, ?_, key⟩
    · obtain ⟨i1, i2, i3, i4⟩ := ir
      obtain ⟨o1, o2, o3, o4⟩ := ou
      rfl
    · simp only [f_T_write, f_T_write_53, f_T_write_83, f_T_write_106, f_T_write_120, f_T_write_140, f_T_write_158, t_isOn, t_inputs bct, t_note bct, Option.bind_some, show ¬ (nI 7) < 0 by decide, show (nI 7) ≤ 7 by decide, show ¬ (nI 7) = 0 by decide, show ¬ (nI 7) = 1 by decide, show ¬ (nI 7) = 2 by decide, show ¬ (nI 7) = 3 by decide, show ¬ (nI 7) = 4 by decide, show ((nI 7) = 7) = True from propext ⟨fun _ => trivial, fun _ => rfl⟩, if_true, if_false, nt_Self bch (in_By bct bgv)]
