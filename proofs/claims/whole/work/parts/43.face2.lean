/-! the other calls -/
theorem RD.mono {N N' : Nat} {u : DrT} {v : TwT} (h : RD N u v) (hN : N ≤ N') : RD N' u v := by
  obtain ⟨hd, ak, uc, ls, fo, ba, p⟩ := u
  have h : Rl N hd ak uc ls fo ba p v := h
  obtain ⟨tk, du, se, he, lv, en, fm, ct, sp, lo, hi, ov, va, q, gv, ch, tt, ug, ro, sz, ft, la, qu, tg, ir, ou, nf, nb, ni, no, T, g, rfl, rfl, hSc, hU, hF, hB, hI, hO, hH, hQ⟩ := h
  exact Rl.mk hSc hU hF hB hI hO ⟨hH.1, Nat.le_trans hH.2.1 hN, hH.2.2⟩ hQ
theorem not_lt_le {a b : Int32} (h : ¬ a < b) : b ≤ a := by
  rw [Int32.lt_iff_toInt_lt] at h
  rw [Int32.le_iff_toInt_le]
  omega
theorem reg_of {a M : Int32} {n : Nat} (hM : M.toInt = n) (h1 : ¬ a < 0) (h2 : ¬ M < a) : ∃ k, k ≤ n ∧ a = nI k := nI_of2 hM h1 (not_lt_le h2)
theorem p_has (a : Int32) : f_P_hasRegister a = some (if a < 0 then 0 else (if 7 < a then 0 else 1)) := by
  by_cases c1 : a < 0
  · simp only [f_P_hasRegister, f_P_hasRegister_14, f_P_hasRegister_15, if_pos c1, gb_0]
  · by_cases c2 : 7 < a
    · simp only [f_P_hasRegister, f_P_hasRegister_14, f_P_hasRegister_15, if_neg c1, if_pos c2, gb_0]
    · simp only [f_P_hasRegister, f_P_hasRegister_15, if_neg c1, if_neg c2, gb_1]
theorem out_ne {a : Int32} (h : a < 0 ∨ 7 < a) (k : Nat) (hk : k < 8) : ¬ a = nI k := by
  intro e
  subst e
  rcases h with h | h
  · exact nI_pos (by omega) h
  · exact nI_nlt (a := 7) (b := k) (by omega) (by decide) h
theorem f_read {N : Nat} (hN : N ≤ 60000) {u : FlT} {v : TwT} (h : RD N u v) (a : Int32) : ∃ r u' v', f_F_read u a = some (r, u') ∧ f_T_read v a = some (r, v') ∧ RD N u' v' := by
  obtain ⟨hd, ak, uc, ls, fo, ba, p⟩ := u
  have h : Rl N hd ak uc ls fo ba p v := h
  by_cases c : a < 0 ∨ 7 < a
  · have e : (if a < 0 then (0 : Int32) else (if 7 < a then 0 else 1)) = 0 := by
      by_cases c1 : a < 0
      · rw [if_pos c1]
      · rw [if_neg c1, if_pos (c.resolve_left c1)]
    refine ⟨-1, (hd, ak, uc, ls, fo, ba, p), v, ?_, ?_, h⟩
    · obtain ⟨f1, f2, f3, f4⟩ := fo
      obtain ⟨b1, b2, b3, b4⟩ := ba
      obtain ⟨y1, y2, y3, y4, y5, y6, y7, y8, y9, y10, y11, y12, ⟨yi1, yi2, yi3, yi4⟩, ⟨yo1, yo2, yo3, yo4⟩, ⟨ym1, ym2, ym3⟩, ⟨yl1, yl2⟩⟩ := p
      simp only [f_F_read, f_F_read_19, p_has, e, Option.bind_some, if_true]
    · obtain ⟨w1, w2, w3, w4, w5, w6, w7, w8, w9, w10, w11, w12, w13, w14, w15, w16, w17, w18, w19, w20, w21, w22, w23, w24, w25⟩ := v
      have n0 : ¬ a = 0 := out_ne c 0 (by decide)
      have n1 : ¬ a = 1 := out_ne c 1 (by decide)
      have n2 : ¬ a = 2 := out_ne c 2 (by decide)
      have n3 : ¬ a = 3 := out_ne c 3 (by decide)
      have n4 : ¬ a = 4 := out_ne c 4 (by decide)
      have n5 : ¬ a = 5 := out_ne c 5 (by decide)
      have n6 : ¬ a = 6 := out_ne c 6 (by decide)
      have n7 : ¬ a = 7 := out_ne c 7 (by decide)
      simp only [f_T_read, t_isOn, Option.bind_some, if_neg n0, if_neg n1, if_neg n2, if_neg n3, if_neg n4, if_neg n5, if_neg n6, if_neg n7]
  · have c1 : ¬ a < 0 := fun z => c (Or.inl z)
    have c2 : ¬ 7 < a := fun z => c (Or.inr z)
    obtain ⟨k, hk, rfl⟩ := reg_of (n := 7) (by decide) c1 c2
    obtain ⟨r, p', v', h1, h2, h3⟩ := s_load hN h (k := k) (by omega)
    refine ⟨r, (hd, ak, uc, ls, fo, ba, p'), v', ?_, h2, h3⟩
    obtain ⟨f1, f2, f3, f4⟩ := fo
    obtain ⟨b1, b2, b3, b4⟩ := ba
    obtain ⟨y1, y2, y3, y4, y5, y6, y7, y8, y9, y10, y11, y12, ⟨yi1, yi2, yi3, yi4⟩, ⟨yo1, yo2, yo3, yo4⟩, ⟨ym1, ym2, ym3⟩, ⟨yl1, yl2⟩⟩ := p
    obtain ⟨z1, z2, z3, z4, z5, z6, z7, z8, z9, z10, z11, z12, ⟨zi1, zi2, zi3, zi4⟩, ⟨zo1, zo2, zo3, zo4⟩, ⟨zm1, zm2, zm3⟩, ⟨zl1, zl2⟩⟩ := p'
    have h10 : ¬ (1 : Int32) = 0 := by decide
    simp only [f_F_read, f_F_read_19, p_has, if_neg c1, if_neg c2, if_neg h10, h1, Option.bind_some]
theorem f_write {N : Nat} (hN : N ≤ 60000) {u : FlT} {v : TwT} (h : RD N u v) (a x : Int32) : ∃ r u' v', f_F_write u a x = some (r, u') ∧ f_T_write v a x = some (r, v') ∧ RD N u' v' := by
  obtain ⟨hd, ak, uc, ls, fo, ba, p⟩ := u
  have h : Rl N hd ak uc ls fo ba p v := h
  by_cases c : a < 0 ∨ 7 < a
  · have e : (if a < 0 then (0 : Int32) else (if 7 < a then 0 else 1)) = 0 := by
      by_cases c1 : a < 0
      · rw [if_pos c1]
      · rw [if_neg c1, if_pos (c.resolve_left c1)]
    refine ⟨0, (hd, ak, uc, ls, fo, ba, p), v, ?_, ?_, h⟩
    · obtain ⟨f1, f2, f3, f4⟩ := fo
      obtain ⟨b1, b2, b3, b4⟩ := ba
      obtain ⟨y1, y2, y3, y4, y5, y6, y7, y8, y9, y10, y11, y12, ⟨yi1, yi2, yi3, yi4⟩, ⟨yo1, yo2, yo3, yo4⟩, ⟨ym1, ym2, ym3⟩, ⟨yl1, yl2⟩⟩ := p
      simp only [f_F_write, p_has, e, Option.bind_some, if_true]
    · obtain ⟨tk, du, se, he, lv, en, fm, ct, sp, lo, hi, ov, va, q, gv, ch, tt, ug, ro, sz, ft, la, qu, tg, ir, ou, nf, nb, ni, no, T, g, rfl, rfl, hSc, hU, hF, hB, hI, hO, hH, hQ⟩ := h
      by_cases c1 : a < 0
      · simp only [f_T_write, f_T_write_34, t_isOn, t_inputs hSc.2.2.2.1, Option.bind_some, if_pos c1]
      · have c2 : ¬ a ≤ 7 := fun z => by
          have := c.resolve_left c1
          rw [Int32.lt_iff_toInt_lt] at this
          rw [Int32.le_iff_toInt_le] at z
          omega
        simp only [f_T_write, f_T_write_34, t_isOn, t_inputs hSc.2.2.2.1, Option.bind_some, if_neg c1, if_neg c2]
  · have c1 : ¬ a < 0 := fun z => c (Or.inl z)
    have c2 : ¬ 7 < a := fun z => c (Or.inr z)
    obtain ⟨k, hk, rfl⟩ := reg_of (n := 7) (by decide) c1 c2
    obtain ⟨p', v', h1, h2, h3⟩ := s_store hN h (k := k) (by omega) x
    refine ⟨1, (hd, ak, uc, ls, fo, ba, p'), v', ?_, h2, h3⟩
    obtain ⟨f1, f2, f3, f4⟩ := fo
    obtain ⟨b1, b2, b3, b4⟩ := ba
    obtain ⟨y1, y2, y3, y4, y5, y6, y7, y8, y9, y10, y11, y12, ⟨yi1, yi2, yi3, yi4⟩, ⟨yo1, yo2, yo3, yo4⟩, ⟨ym1, ym2, ym3⟩, ⟨yl1, yl2⟩⟩ := p
    obtain ⟨z1, z2, z3, z4, z5, z6, z7, z8, z9, z10, z11, z12, ⟨zi1, zi2, zi3, zi4⟩, ⟨zo1, zo2, zo3, zo4⟩, ⟨zm1, zm2, zm3⟩, ⟨zl1, zl2⟩⟩ := p'
    have h10 : ¬ (1 : Int32) = 0 := by decide
    simp only [f_F_write, p_has, if_neg c1, if_neg c2, if_neg h10, h1, Option.bind_some]
theorem f_wire {N : Nat} {u : FlT} {v : TwT} (h : RD N u v) (c f : Int32) : ∃ r u' v', f_F_wire u c f = some (r, u') ∧ f_T_wire v c f = some (r, v') ∧ RD N u' v' := by
  obtain ⟨hd, ak, uc, ls, fo, ba, p⟩ := u
  have h : Rl N hd ak uc ls fo ba p v := h
  have h0 := h
  obtain ⟨tk, du, se, he, lv, en, fm, ct, sp, lo, hi, ov, va, q, gv, ch, tt, ug, ro, sz, ft, la, qu, tg, ir, ou, nf, nb, ni, no, T, g, rfl, rfl, hSc, hU, hF, hB, hI, hO, hH, hQ⟩ := h
  obtain ⟨bq, ben, bfm, bct, bch, bgv, blo, bhi, bov, bva, bse, bhd, bak⟩ := hSc
  by_cases c1 : f < 0
  · refine ⟨0, (hd, ak, uc, ls, fo, ba, (q, lv, en, fm, sp, lo, hi, ov, va, qu, se, tg, ir, ou, (ct, ch, gv), (tt, la))), _, ?_, ?_, h0⟩
    · obtain ⟨x1, x2, x3, x4⟩ := fo
      obtain ⟨b1, b2, b3, b4⟩ := ba
      obtain ⟨i1, i2, i3, i4⟩ := ir
      obtain ⟨o1, o2, o3, o4⟩ := ou
      simp only [f_F_wire, f_F_wire_23, if_pos c1]
    · simp only [f_T_wire, f_T_wire_17, if_pos c1]
  · by_cases c2 : 7 < f
    · refine ⟨0, (hd, ak, uc, ls, fo, ba, (q, lv, en, fm, sp, lo, hi, ov, va, qu, se, tg, ir, ou, (ct, ch, gv), (tt, la))), _, ?_, ?_, h0⟩
      · obtain ⟨x1, x2, x3, x4⟩ := fo
        obtain ⟨b1, b2, b3, b4⟩ := ba
        obtain ⟨i1, i2, i3, i4⟩ := ir
        obtain ⟨o1, o2, o3, o4⟩ := ou
        simp only [f_F_wire, f_F_wire_23, if_neg c1, if_pos c2]
      · simp only [f_T_wire, f_T_wire_17, if_neg c1, if_pos c2]
    · by_cases c3 : lpI ct = 0
      · have hf8 : By 8 f := by
          obtain ⟨k, hk, e⟩ := reg_of (n := 7) (by decide) c1 c2
          exact ⟨k, by omega, e⟩
        obtain ⟨ir', ro', sz', ft', n', ov', hn', hov', hI', f1, f2, a1, a2⟩ := arr (tk := tk) (du := du) (se := se) (he := he) (lv := lv) (en := en) (fm := fm) (ct := ct) (sp := sp) (lo := lo) (hi := hi) (ov := ov) (va := va) (q := q) (gv := gv) (ch := ch) (tt := tt) (hd := hd) (ak := ak) (ug := ug) (ls := ls) (ro := ro) (sz := sz) (ft := ft) (la := la) (qu := qu) (tg := tg) (ir := ir) (ou := ou) hI (by255 c) hf8 bov
        have key : Rl N hd ak uc ls fo ba (q, lv, en, fm, sp, lo, hi, ov', va, 0, se, tg, ir', ou, (ct, ch, gv), (tt, la)) (tk, du, se, tk, lv, en, fm, ct, sp, lo, hi, ov', va, q, gv, ch, tt, hd, ak, ug, ls, ro', sz', ft', la) := Rl.mk ⟨bq, ben, bfm, bct, bch, bgv, blo, bhi, hov', bva, bse, bhd, bak⟩ hU (hF.fr (fun j _ z => f1 j (by omega)) (f2 1 (by decide))) (hB.fr (fun j z => f1 j (by omega)) (f2 0 (by decide))) hI' (hO.fr (fun j z => f1 j (by omega)) (f2 3 (by decide))) hH (fun _ => ⟨T, Nat.le_refl _, hH.1, by rw [Nat.sub_self]; rfl⟩)
        refine ⟨1, (hd, ak, uc, ls, fo, ba, (q, lv, en, fm, sp, lo, hi, ov', va, 0, se, tg, ir', ou, (ct, ch, gv), (tt, la))), _, ?_, ?_, key⟩
        · obtain ⟨x1, x2, x3, x4⟩ := fo
          obtain ⟨b1, b2, b3, b4⟩ := ba
          obtain ⟨i1, i2, i3, i4⟩ := ir
          obtain ⟨d1, d2, d3, d4⟩ := ir'
          obtain ⟨o1, o2, o3, o4⟩ := ou
          simp only [f_F_wire, if_neg c1, if_neg c2, m_looped, if_pos c3, a1, Option.bind_some]
        · simp only [f_T_wire, if_neg c1, if_neg c2, t_loops bct, if_pos c3, a2, Option.bind_some]
      · refine ⟨0, (hd, ak, uc, ls, fo, ba, (q, lv, en, fm, sp, lo, hi, ov, va, qu, se, tg, ir, ou, (ct, ch, gv), (tt, la))), _, ?_, ?_, h0⟩
        · obtain ⟨x1, x2, x3, x4⟩ := fo
          obtain ⟨b1, b2, b3, b4⟩ := ba
          obtain ⟨i1, i2, i3, i4⟩ := ir
          obtain ⟨o1, o2, o3, o4⟩ := ou
          simp only [f_F_wire, f_F_wire_23, if_neg c1, if_neg c2, m_looped, if_neg c3, Option.bind_some]
        · simp only [f_T_wire, f_T_wire_17, if_neg c1, if_neg c2, t_loops bct, if_neg c3, Option.bind_some]
theorem f_ticks {m : Nat} (hm : m ≤ 100) : ∀ (k j N : Nat) (x2 : Int32) (u : FlT) (v : TwT), j ≤ m → m - j < k → N + (m - j) ≤ 60000 → RD N u v → ∃ r u' v', f_F_tick_17 k u (nI m) x2 (nI j) = some (r, u') ∧ f_T_tick_17 k v (nI m) x2 (nI j) = some (r, v') ∧ RD (N + (m - j)) u' v' := by
  intro k
  induction k with
  | zero => intro j N x2 u v h1 h2; omega
  | succ k ih =>
    intro j N x2 u v hj hk hN h
    by_cases c : j = m
    · subst c
      refine ⟨x2, u, v, ?_, ?_, h.mono (by omega)⟩
      · obtain ⟨hd, ak, uc, ls, ⟨f1, f2, f3, f4⟩, ⟨b1, b2, b3, b4⟩, ⟨y1, y2, y3, y4, y5, y6, y7, y8, y9, y10, y11, y12, ⟨yi1, yi2, yi3, yi4⟩, ⟨yo1, yo2, yo3, yo4⟩, ⟨ym1, ym2, ym3⟩, ⟨yl1, yl2⟩⟩⟩ := u
        simp only [f_F_tick_17]
        rw [if_pos (nI_le (Nat.le_refl _) (by omega))]
      · obtain ⟨w1, w2, w3, w4, w5, w6, w7, w8, w9, w10, w11, w12, w13, w14, w15, w16, w17, w18, w19, w20, w21, w22, w23, w24, w25⟩ := v
        simp only [f_T_tick_17]
        rw [if_pos (nI_le (Nat.le_refl _) (by omega))]
    · have hlt : ¬ nI m ≤ nI j := nI_ge (by omega) (by omega)
      obtain ⟨hd, ak, uc, ls, fo, ba, p⟩ := u
      have h : Rl N hd ak uc ls fo ba p v := h
      obtain ⟨r, p1, v1, hb, h1, h2, h3⟩ := s_tick (by omega) h
      obtain ⟨r', u', v', g1, g2, g3⟩ := ih (j + 1) (N + 1) (x2 + r) (hd, ak, uc, ls, fo, ba, p1) v1 (by omega) (by omega) (by omega) h3
      refine ⟨r', u', v', ?_, ?_, g3.mono (by omega)⟩
      · have e : f_F_tick_17 (k + 1) (hd, ak, uc, ls, fo, ba, p) (nI m) x2 (nI j) = f_F_tick_17 k (hd, ak, uc, ls, fo, ba, p1) (nI m) (x2 + r) (nI (j + 1)) := by
          obtain ⟨f1, f2, f3, f4⟩ := fo
          obtain ⟨b1, b2, b3, b4⟩ := ba
          obtain ⟨y1, y2, y3, y4, y5, y6, y7, y8, y9, y10, y11, y12, ⟨yi1, yi2, yi3, yi4⟩, ⟨yo1, yo2, yo3, yo4⟩, ⟨ym1, ym2, ym3⟩, ⟨yl1, yl2⟩⟩ := p
          obtain ⟨z1, z2, z3, z4, z5, z6, z7, z8, z9, z10, z11, z12, ⟨zi1, zi2, zi3, zi4⟩, ⟨zo1, zo2, zo3, zo4⟩, ⟨zm1, zm2, zm3⟩, ⟨zl1, zl2⟩⟩ := p1
          simp only [f_F_tick_17, f_F_tick_35, if_neg hlt, h1, Option.bind_some, nI_1]
          rcases hb with rfl | rfl
          · rw [if_pos rfl, Int32.add_zero]
          · rw [if_neg (by decide)]
        rw [e]; exact g1
      · rw [h2 k (nI m) x2 (nI j) hlt, nI_1]
        exact g2
theorem f_tick {N : Nat} (hN : N + 100 ≤ 60000) {u : FlT} {v : TwT} (h : RD N u v) (n : Int32) : ∃ r u' v', f_F_tick u n = some (r, u') ∧ f_T_tick v n = some (r, v') ∧ RD (N + 100) u' v' := by
  by_cases c1 : n < 1
  · refine ⟨-1, u, v, ?_, ?_, h.mono (by omega)⟩
    · obtain ⟨hd, ak, uc, ls, ⟨f1, f2, f3, f4⟩, ⟨b1, b2, b3, b4⟩, ⟨y1, y2, y3, y4, y5, y6, y7, y8, y9, y10, y11, y12, ⟨yi1, yi2, yi3, yi4⟩, ⟨yo1, yo2, yo3, yo4⟩, ⟨ym1, ym2, ym3⟩, ⟨yl1, yl2⟩⟩⟩ := u
      simp only [f_F_tick, f_F_tick_11, if_pos c1]
    · obtain ⟨w1, w2, w3, w4, w5, w6, w7, w8, w9, w10, w11, w12, w13, w14, w15, w16, w17, w18, w19, w20, w21, w22, w23, w24, w25⟩ := v
      simp only [f_T_tick, f_T_tick_11, if_pos c1]
  · by_cases c2 : n ≤ 100
    · have c0 : ¬ n < 0 := fun z => c1 (by
        rw [Int32.lt_iff_toInt_lt] at z ⊢
        have e0 : (0 : Int32).toInt = 0 := by decide
        have e1 : (1 : Int32).toInt = 1 := by decide
        omega)
      obtain ⟨m, hm, rfl⟩ := nI_of2 (n := 100) (by decide) c0 c2
      obtain ⟨r, u', v', h1, h2, h3⟩ := f_ticks hm 128 0 N 0 u v (Nat.zero_le _) (by omega) (by omega) h
      refine ⟨r, u', v', ?_, ?_, h3.mono (by omega)⟩
      · obtain ⟨hd, ak, uc, ls, ⟨f1, f2, f3, f4⟩, ⟨b1, b2, b3, b4⟩, ⟨y1, y2, y3, y4, y5, y6, y7, y8, y9, y10, y11, y12, ⟨yi1, yi2, yi3, yi4⟩, ⟨yo1, yo2, yo3, yo4⟩, ⟨ym1, ym2, ym3⟩, ⟨yl1, yl2⟩⟩⟩ := u
        simp only [f_F_tick, if_neg c1, if_pos c2]
        exact h1
      · obtain ⟨w1, w2, w3, w4, w5, w6, w7, w8, w9, w10, w11, w12, w13, w14, w15, w16, w17, w18, w19, w20, w21, w22, w23, w24, w25⟩ := v
        simp only [f_T_tick, if_neg c1, if_pos c2]
        exact h2
    · refine ⟨-1, u, v, ?_, ?_, h.mono (by omega)⟩
      · obtain ⟨hd, ak, uc, ls, ⟨f1, f2, f3, f4⟩, ⟨b1, b2, b3, b4⟩, ⟨y1, y2, y3, y4, y5, y6, y7, y8, y9, y10, y11, y12, ⟨yi1, yi2, yi3, yi4⟩, ⟨yo1, yo2, yo3, yo4⟩, ⟨ym1, ym2, ym3⟩, ⟨yl1, yl2⟩⟩⟩ := u
        simp only [f_F_tick, f_F_tick_11, if_neg c1, if_neg c2]
      · obtain ⟨w1, w2, w3, w4, w5, w6, w7, w8, w9, w10, w11, w12, w13, w14, w15, w16, w17, w18, w19, w20, w21, w22, w23, w24, w25⟩ := v
        simp only [f_T_tick, f_T_tick_11, if_neg c1, if_neg c2]
theorem f_lines {N : Nat} {u : FlT} {v : TwT} (h : RD N u v) (b : Int32) : ∃ u' v', f_F_lines u b = some u' ∧ f_T_lines v b = some v' ∧ RD N u' v' := by
  obtain ⟨hd, ak, uc, ls, fo, ba, p⟩ := u
  have h : Rl N hd ak uc ls fo ba p v := h
  obtain ⟨tk, du, se, he, lv, en, fm, ct, sp, lo, hi, ov, va, q, gv, ch, tt, ug, ro, sz, ft, la, qu, tg, ir, ou, nf, nb, ni, no, T, g, rfl, rfl, hSc, hU, hF, hB, hI, hO, hH, hQ⟩ := h
  obtain ⟨bq, ben, bfm, bct, bch, bgv, blo, bhi, bov, bva, bse, bhd, bak⟩ := hSc
  have key : Rl N hd ak uc ls fo ba (q, lv, en, fm, sp, lo, hi, ov, va, qu, se, tg, ir, ou, (ct, (ntI ch (inI ct gv) (inI ct (b &&& 15))), (b &&& 15)), (tt, la)) (tk, du, se, he, lv, en, fm, ct, sp, lo, hi, ov, va, q, (b &&& 15), (ntI ch (inI ct gv) (inI ct (b &&& 15))), tt, hd, ak, ug, ls, ro, sz, ft, la) := Rl.mk ⟨bq, ben, bfm, bct, nt_By bch (in_By bct bgv) (in_By bct (by15 b)), by15 b, blo, bhi, bov, bva, bse, bhd, bak⟩ hU hF hB hI hO hH hQ
  refine ⟨(hd, ak, uc, ls, fo, ba, (q, lv, en, fm, sp, lo, hi, ov, va, qu, se, tg, ir, ou, (ct, (ntI ch (inI ct gv) (inI ct (b &&& 15))), (b &&& 15)), (tt, la))), _, ?_, ?_, key⟩
  · obtain ⟨x1, x2, x3, x4⟩ := fo
    obtain ⟨d1, d2, d3, d4⟩ := ba
    obtain ⟨i1, i2, i3, i4⟩ := ir
    obtain ⟨o1, o2, o3, o4⟩ := ou
    simp only [f_F_lines, m_lines, Option.bind_some]
  · simp only [f_T_lines, t_inputs bct, t_note bct, Option.bind_some]
theorem f_start {N : Nat} (hN : N ≤ 60000) {u : FlT} {v : TwT} (h : RD N u v) : ∃ u' v', f_F_start u = some u' ∧ f_T_start v = some v' ∧ RD N u' v' := by
  obtain ⟨hd, ak, uc, ls, fo, ba, p⟩ := u
  have h : Rl N hd ak uc ls fo ba p v := h
  obtain ⟨tk, du, se, he, lv, en, fm, ct, sp, lo, hi, ov, va, q, gv, ch, tt, ug, ro, sz, ft, la, qu, tg, ir, ou, nf, nb, ni, no, T, g, rfl, rfl, hSc, hU, hF, hB, hI, hO, hH, hQ⟩ := h
  obtain ⟨bq, ben, bfm, bct, bch, bgv, blo, bhi, bov, bva, bse, bhd, bak⟩ := hSc
  have hlm := Lm_in q
  obtain ⟨qf, hRf, hsf, hEf⟩ := hF
  obtain ⟨qb, hRb, hsb, hEb⟩ := hB
  obtain ⟨fo', hcf, hRf'⟩ := rg_clear hRf
  obtain ⟨ba', hcb, hRb'⟩ := rg_clear hRb
  have key : Rl N 0 0 (-1) ls fo' ba' (q, lv, en, fm, sp, lo, hi, ov, va, qu, se, tg, ir, ou, (ct, ch, gv), (tt, la)) (tk, du, se, he, lv, en, fm, ct, sp, lo, hi, ov, va, q, gv, ch, tt, 0, 0, 0, ls, ro, (upd (upd sz 0 0) 1 0), ft, la) := Rl.mk (nf := 0) (nb := 0) ⟨bq, ben, bfm, bct, bch, bgv, blo, bhi, bov, bva, bse, Or.inl rfl, Or.inl rfl⟩ (Or.inl ⟨rfl, rfl⟩) ⟨qf, hRf' qf, pk_us, fun i hi => absurd hi (Nat.not_lt_zero i)⟩ ⟨qb, hRb' qb, (pk_un (by decide)).trans pk_us, fun i hi => absurd hi (Nat.not_lt_zero i)⟩ (hI.fr hlm.2 (fun _ _ _ => rfl) ((pk_un (by decide)).trans (pk_un (by decide)))) (hO.fr (fun _ _ => rfl) ((pk_un (by decide)).trans (pk_un (by decide)))) hH hQ
  obtain ⟨p1, v1, a1, a2, a3⟩ := s_store2 key 71
  obtain ⟨p2, v2, b1, b2, b3⟩ := s_store hN a3 (k := 3) (by decide) 3
  obtain ⟨p3, v3, d1, d2, d3⟩ := s_store1 b3 7
  have b1' : f_P_store p1 3 3 = some p2 := b1
  have b2' : f_T_write v1 3 3 = some (1, v2) := b2
  refine ⟨(0, 0, -1, ls, fo', ba', p3), v3, ?_, ?_, d3⟩
  · obtain ⟨x1, x2, x3, x4⟩ := fo
    obtain ⟨b1, b2, b3, b4⟩ := ba
    obtain ⟨c1, c2, c3, c4⟩ := fo'
    obtain ⟨d1, d2, d3, d4⟩ := ba'
    obtain ⟨i1, i2, i3, i4⟩ := ir
    obtain ⟨o1, o2, o3, o4⟩ := ou
    obtain ⟨y1, y2, y3, y4, y5, y6, y7, y8, y9, y10, y11, y12, ⟨yi1, yi2, yi3, yi4⟩, ⟨yo1, yo2, yo3, yo4⟩, ⟨ym1, ym2, ym3⟩, ⟨yl1, yl2⟩⟩ := p1
    obtain ⟨z1, z2, z3, z4, z5, z6, z7, z8, z9, z10, z11, z12, ⟨zi1, zi2, zi3, zi4⟩, ⟨zo1, zo2, zo3, zo4⟩, ⟨zm1, zm2, zm3⟩, ⟨zl1, zl2⟩⟩ := p2
    obtain ⟨w1, w2, w3, w4, w5, w6, w7, w8, w9, w10, w11, w12, ⟨wi1, wi2, wi3, wi4⟩, ⟨wo1, wo2, wo3, wo4⟩, ⟨wm1, wm2, wm3⟩, ⟨wl1, wl2⟩⟩ := p3
    simp only [f_F_start, f_D_begin, hcf, hcb, a1, b1', d1, Option.bind_some]
  · obtain ⟨w1, w2, w3, w4, w5, w6, w7, w8, w9, w10, w11, w12, w13, w14, w15, w16, w17, w18, w19, w20, w21, w22, w23, w24, w25⟩ := v1
    obtain ⟨x1, x2, x3, x4, x5, x6, x7, x8, x9, x10, x11, x12, x13, x14, x15, x16, x17, x18, x19, x20, x21, x22, x23, x24, x25⟩ := v2
    obtain ⟨y1, y2, y3, y4, y5, y6, y7, y8, y9, y10, y11, y12, y13, y14, y15, y16, y17, y18, y19, y20, y21, y22, y23, y24, y25⟩ := v3
    simp only [f_T_start, g04, g14, cl0, cl1, a2, b2', d2, Option.bind_some]
theorem f_sent {N : Nat} {u : FlT} {v : TwT} (h : RD N u v) (k : Int32) : ∃ r, f_F_sent u k = some r ∧ f_T_sent v k = some r := by
  obtain ⟨hd, ak, uc, ls, fo, ba, p⟩ := u
  have h : Rl N hd ak uc ls fo ba p v := h
  obtain ⟨tk, du, se, he, lv, en, fm, ct, sp, lo, hi, ov, va, q, gv, ch, tt, ug, ro, sz, ft, la, qu, tg, ir, ou, nf, nb, ni, no, T, g, rfl, rfl, hSc, hU, hF, hB, hI, hO, hH, hQ⟩ := h
  obtain ⟨x1, x2, x3, x4⟩ := fo
  obtain ⟨d1, d2, d3, d4⟩ := ba
  obtain ⟨i1, i2, i3, i4⟩ := ir
  obtain ⟨o1, o2, o3, o4⟩ := ou
  have hv : vp_in (((tt - 1) - k) &&& 31) 32 := pk_andIn _ 5 (by decide) (by decide)
  simp only [f_F_sent, f_S_backFromLatest, f_S_backFromLatest_18, f_T_sent, f_T_sent_18, f_T_sent_38, gi_ok hv]
  by_cases c1 : k < 0
  · exact ⟨-1, by simp only [if_pos c1, Option.bind_some], by simp only [if_pos c1]⟩
  · by_cases c2 : 31 < k
    · exact ⟨-1, by simp only [if_neg c1, if_pos c2, Option.bind_some], by simp only [if_neg c1, if_pos c2]⟩
    · by_cases c3 : k < tt
      · exact ⟨la (((tt - 1) - k) &&& 31).toNatClampNeg, by simp only [if_neg c1, if_neg c2, if_pos c3, Option.bind_some], by simp only [if_neg c1, if_neg c2, if_pos c3]⟩
      · exact ⟨-1, by simp only [if_neg c1, if_neg c2, if_neg c3, Option.bind_some], by simp only [if_neg c1, if_neg c2, if_neg c3]⟩
theorem f_total {N : Nat} {u : FlT} {v : TwT} (h : RD N u v) : ∃ r, f_F_total u = some r ∧ f_T_total v = some r := by
  obtain ⟨hd, ak, uc, ls, fo, ba, p⟩ := u
  have h : Rl N hd ak uc ls fo ba p v := h
  obtain ⟨tk, du, se, he, lv, en, fm, ct, sp, lo, hi, ov, va, q, gv, ch, tt, ug, ro, sz, ft, la, qu, tg, ir, ou, nf, nb, ni, no, T, g, rfl, rfl, hSc, hU, hF, hB, hI, hO, hH, hQ⟩ := h
  obtain ⟨x1, x2, x3, x4⟩ := fo
  obtain ⟨d1, d2, d3, d4⟩ := ba
  obtain ⟨i1, i2, i3, i4⟩ := ir
  obtain ⟨o1, o2, o3, o4⟩ := ou
  exact ⟨tt, rfl, rfl⟩
theorem f_lost {N : Nat} {u : FlT} {v : TwT} (h : RD N u v) : ∃ r, f_F_lost u = some r ∧ f_T_lost v = some r := by
  obtain ⟨hd, ak, uc, ls, fo, ba, p⟩ := u
  have h : Rl N hd ak uc ls fo ba p v := h
  obtain ⟨tk, du, se, he, lv, en, fm, ct, sp, lo, hi, ov, va, q, gv, ch, tt, ug, ro, sz, ft, la, qu, tg, ir, ou, nf, nb, ni, no, T, g, rfl, rfl, hSc, hU, hF, hB, hI, hO, hH, hQ⟩ := h
  obtain ⟨x1, x2, x3, x4⟩ := fo
  obtain ⟨d1, d2, d3, d4⟩ := ba
  obtain ⟨i1, i2, i3, i4⟩ := ir
  obtain ⟨o1, o2, o3, o4⟩ := ou
  exact ⟨ls, rfl, rfl⟩
theorem f_left {N : Nat} (hN : N ≤ 60000) {u : FlT} {v : TwT} (h : RD N u v) : ∃ r, f_F_left u = some r ∧ f_T_left v = some r := by
  obtain ⟨hd, ak, uc, ls, fo, ba, p⟩ := u
  have h : Rl N hd ak uc ls fo ba p v := h
  obtain ⟨tk, du, se, he, lv, en, fm, ct, sp, lo, hi, ov, va, q, gv, ch, tt, ug, ro, sz, ft, la, qu, tg, ir, ou, nf, nb, ni, no, T, g, rfl, rfl, hSc, hU, hF, hB, hI, hO, hH, hQ⟩ := h
  obtain ⟨e1, e2, e3, e4, e5⟩ := hH
  obtain ⟨x1, x2, x3, x4⟩ := fo
  obtain ⟨d1, d2, d3, d4⟩ := ba
  obtain ⟨i1, i2, i3, i4⟩ := ir
  obtain ⟨o1, o2, o3, o4⟩ := ou
  refine ⟨tg, rfl, ?_⟩
  simp only [f_T_left, f_T_left_20]
  by_cases c : g = 0
  · rw [if_pos c] at e5
    rw [if_pos e5, e3, c]; rfl
  · rw [if_neg c] at e5
    rw [e5, if_neg (nI_ne0 (by omega) (by omega)), e1, e3, pk_sub (by omega)]
    congr 2; omega
theorem f_cause {N : Nat} {u : FlT} {v : TwT} (h : RD N u v) : ∃ r, f_F_cause u = some r ∧ f_T_cause v = some r := by
  obtain ⟨hd, ak, uc, ls, fo, ba, p⟩ := u
  have h : Rl N hd ak uc ls fo ba p v := h
  obtain ⟨r, h1, h2⟩ := s_cause h
  refine ⟨r, ?_, h2⟩
  obtain ⟨x1, x2, x3, x4⟩ := fo
  obtain ⟨d1, d2, d3, d4⟩ := ba
  obtain ⟨y1, y2, y3, y4, y5, y6, y7, y8, y9, y10, y11, y12, ⟨yi1, yi2, yi3, yi4⟩, ⟨yo1, yo2, yo3, yo4⟩, ⟨ym1, ym2, ym3⟩, ⟨yl1, yl2⟩⟩ := p
  simp only [f_F_cause, h1, Option.bind_some]
theorem f_count {N : Nat} {u : FlT} {v : TwT} (h : RD N u v) (k : Int32) : ∃ r, f_F_count u k = some r ∧ f_T_count v k = some r := by
  obtain ⟨hd, ak, uc, ls, fo, ba, p⟩ := u
  have h : Rl N hd ak uc ls fo ba p v := h
  obtain ⟨tk, du, se, he, lv, en, fm, ct, sp, lo, hi, ov, va, q, gv, ch, tt, ug, ro, sz, ft, la, qu, tg, ir, ou, nf, nb, ni, no, T, g, rfl, rfl, hSc, hU, hF, hB, hI, hO, hH, hQ⟩ := h
  obtain ⟨qf, hRf, hsf, hEf⟩ := hF
  obtain ⟨qb, hRb, hsb, hEb⟩ := hB
  obtain ⟨qi, hRi, hsi, hEi⟩ := hI
  obtain ⟨qo, hRo, hso, hEo⟩ := hO
  have z1 := hRf.size
  have z2 := hRb.size
  have z3 := hRi.size
  have z4 := hRo.size
  obtain ⟨x1, x2, x3, x4⟩ := fo
  obtain ⟨d1, d2, d3, d4⟩ := ba
  obtain ⟨i1, i2, i3, i4⟩ := ir
  obtain ⟨o1, o2, o3, o4⟩ := ou
  dsimp only at z1 z2 z3 z4
  subst z1 z2 z3 z4
  by_cases c : k < 0 ∨ 3 < k
  · have ne : ∀ j, j < 4 → ¬ k = nI j := by
      intro j hj e
      subst e
      rcases c with c | c
      · exact nI_pos (by omega) c
      · exact nI_nlt (a := 3) (b := j) (by omega) (by decide) c
    have n0 : ¬ k = 0 := ne 0 (by decide)
    have n1 : ¬ k = 1 := ne 1 (by decide)
    have n2 : ¬ k = 2 := ne 2 (by decide)
    have n3 : ¬ k = 3 := ne 3 (by decide)
    refine ⟨-1, by simp only [f_F_count, if_neg n0, if_neg n1, if_neg n2, if_neg n3], ?_⟩
    by_cases c1 : k < 0
    · simp only [f_T_count, f_T_count_9, f_T_count_19, if_pos c1]
    · have c2 : ¬ k ≤ 3 := fun z => by
        have := c.resolve_left c1
        rw [Int32.lt_iff_toInt_lt] at this
        rw [Int32.le_iff_toInt_le] at z
        omega
      simp only [f_T_count, f_T_count_9, f_T_count_19, if_neg c1, if_neg c2]
  · have c1 : ¬ k < 0 := fun z => c (Or.inl z)
    have c2 : k ≤ 3 := not_lt_le (fun z => c (Or.inr z))
    obtain ⟨j, hj, rfl⟩ := nI_of2 (n := 3) (by decide) c1 c2
    simp only [f_T_count, f_T_count_19, if_neg c1, if_pos c2]
    rw [gi_n (by omega) (by decide), pu_clamp (by omega)]
    rcases (show j = 0 ∨ j = 1 ∨ j = 2 ∨ j = 3 by omega) with rfl | rfl | rfl | rfl
    · exact ⟨nI nb, rfl, by rw [hsb]⟩
    · exact ⟨nI nf, rfl, by rw [hsf]⟩
    · exact ⟨nI ni, rfl, by rw [hsi]⟩
    · exact ⟨nI no, rfl, by rw [hso]⟩
theorem f_flow {N : Nat} {u : FlT} {v : TwT} (h : RD N u v) : ∃ r, f_F_flow u = some r ∧ f_T_flow v = some r := by
  obtain ⟨hd, ak, uc, ls, fo, ba, p⟩ := u
  have h : Rl N hd ak uc ls fo ba p v := h
  obtain ⟨tk, du, se, he, lv, en, fm, ct, sp, lo, hi, ov, va, q, gv, ch, tt, ug, ro, sz, ft, la, qu, tg, ir, ou, nf, nb, ni, no, T, g, rfl, rfl, hSc, hU, hF, hB, hI, hO, hH, hQ⟩ := h
  have e17 : (uc = 17) = (ug = 17) := by
    rcases hU with ⟨rfl, rfl⟩ | ⟨rfl, rfl⟩ | ⟨rfl, rfl⟩ <;> decide
  have e19 : (uc = 19) = (ug = 19) := by
    rcases hU with ⟨rfl, rfl⟩ | ⟨rfl, rfl⟩ | ⟨rfl, rfl⟩ <;> decide
  obtain ⟨x1, x2, x3, x4⟩ := fo
  obtain ⟨d1, d2, d3, d4⟩ := ba
  obtain ⟨i1, i2, i3, i4⟩ := ir
  obtain ⟨o1, o2, o3, o4⟩ := ou
  have e : f_D_flowBits (hd, ak, uc, ls, (x1, x2, x3, x4), (d1, d2, d3, d4), (q, lv, en, fm, sp, lo, hi, ov, va, qu, se, tg, (i1, i2, i3, i4), (o1, o2, o3, o4), (ct, ch, gv), (tt, la))) = f_T_flow (tk, du, se, he, lv, en, fm, ct, sp, lo, hi, ov, va, q, gv, ch, tt, hd, ak, ug, ls, ro, sz, ft, la) := by
    simp only [f_D_flowBits, f_D_flowBits_12, f_D_flowBits_26, f_D_flowBits_43, f_D_flowBits_61, f_T_flow, f_T_flow_12, f_T_flow_24, f_T_flow_39, f_T_flow_55, e17, e19]
  have e2 : ∃ r, f_T_flow (tk, du, se, he, lv, en, fm, ct, sp, lo, hi, ov, va, q, gv, ch, tt, hd, ak, ug, ls, ro, sz, ft, la) = some r := by
    simp only [f_T_flow, f_T_flow_12, f_T_flow_24, f_T_flow_39, f_T_flow_55]
    by_cases c1 : hd = 0
    · by_cases c2 : ak = 0
      · by_cases c3 : ug = 17
        · by_cases c4 : ug = 19
          · exact ⟨_, by simp only [if_pos c1, if_pos c2, if_pos c3, if_pos c4]; rfl⟩
          · exact ⟨_, by simp only [if_pos c1, if_pos c2, if_pos c3, if_neg c4]; rfl⟩
        · by_cases c4 : ug = 19
          · exact ⟨_, by simp only [if_pos c1, if_pos c2, if_neg c3, if_pos c4]; rfl⟩
          · exact ⟨_, by simp only [if_pos c1, if_pos c2, if_neg c3, if_neg c4]; rfl⟩
      · by_cases c3 : ug = 17
        · by_cases c4 : ug = 19
          · exact ⟨_, by simp only [if_pos c1, if_neg c2, if_pos c3, if_pos c4]; rfl⟩
          · exact ⟨_, by simp only [if_pos c1, if_neg c2, if_pos c3, if_neg c4]; rfl⟩
        · by_cases c4 : ug = 19
          · exact ⟨_, by simp only [if_pos c1, if_neg c2, if_neg c3, if_pos c4]; rfl⟩
          · exact ⟨_, by simp only [if_pos c1, if_neg c2, if_neg c3, if_neg c4]; rfl⟩
    · by_cases c2 : ak = 0
      · by_cases c3 : ug = 17
        · by_cases c4 : ug = 19
          · exact ⟨_, by simp only [if_neg c1, if_pos c2, if_pos c3, if_pos c4]; rfl⟩
          · exact ⟨_, by simp only [if_neg c1, if_pos c2, if_pos c3, if_neg c4]; rfl⟩
        · by_cases c4 : ug = 19
          · exact ⟨_, by simp only [if_neg c1, if_pos c2, if_neg c3, if_pos c4]; rfl⟩
          · exact ⟨_, by simp only [if_neg c1, if_pos c2, if_neg c3, if_neg c4]; rfl⟩
      · by_cases c3 : ug = 17
        · by_cases c4 : ug = 19
          · exact ⟨_, by simp only [if_neg c1, if_neg c2, if_pos c3, if_pos c4]; rfl⟩
          · exact ⟨_, by simp only [if_neg c1, if_neg c2, if_pos c3, if_neg c4]; rfl⟩
        · by_cases c4 : ug = 19
          · exact ⟨_, by simp only [if_neg c1, if_neg c2, if_neg c3, if_pos c4]; rfl⟩
          · exact ⟨_, by simp only [if_neg c1, if_neg c2, if_neg c3, if_neg c4]; rfl⟩
  obtain ⟨r, hr⟩ := e2
  refine ⟨r, ?_, hr⟩
  simp only [f_F_flow]
  rw [e, hr, Option.bind_some]
