/-! reading a register -/
theorem s_cause {N : Nat} {hd ak uc ls : Int32} {fo ba : RgT} {p : PtT} {v : TwT} (h : Rl N hd ak uc ls fo ba p v) : ∃ r, f_P_findCause p = some r ∧ f_T_cause v = some r := by
  obtain ⟨tk, du, se, he, lv, en, fm, ct, sp, lo, hi, ov, va, q, gv, ch, tt, ug, ro, sz, ft, la, qu, tg, ir, ou, nf, nb, ni, no, T, g, rfl, rfl, hSc, hU, hF, hB, hI, hO, hH, hQ⟩ := h
  exact ca hSc.2.1 hI hSc.2.2.2.2.2.2.1 hSc.2.2.2.2.2.2.2.1 hH.1 hQ
theorem s_load2 {N : Nat} {hd ak uc ls : Int32} {fo ba : RgT} {p : PtT} {v : TwT} (h : Rl N hd ak uc ls fo ba p v) : ∃ r p' v', f_P_load p 2 = some (r, p') ∧ f_T_read v 2 = some (r, v') ∧ Rl N hd ak uc ls fo ba p' v' ∧ Cs (r &&& 15) := by
  obtain ⟨r, h1, h2⟩ := s_cause h
  obtain ⟨tk, du, se, he, lv, en, fm, ct, sp, lo, hi, ov, va, q, gv, ch, tt, ug, ro, sz, ft, la, qu, tg, ir, ou, nf, nb, ni, no, T, g, rfl, rfl, hSc, hU, hF, hB, hI, hO, hH, hQ⟩ := h
  obtain ⟨bq, ben, bfm, bct, bch, bgv, blo, bhi, bov, bva, bse, bhd, bak⟩ := hSc
  have key : ∀ va', Bt va' → Rl N hd ak uc ls fo ba (q, lv, en, fm, sp, lo, hi, ov, va', qu, se, tg, ir, ou, (ct, ch, gv), (tt, la)) (tk, du, se, he, lv, en, fm, ct, sp, lo, hi, ov, va', q, gv, ch, tt, hd, ak, ug, ls, ro, sz, ft, la) := fun va' hv => Rl.mk ⟨bq, ben, bfm, bct, bch, bgv, blo, bhi, bov, hv, bse, bhd, bak⟩ hU hF hB hI hO hH hQ
  have e1 : f_P_load (q, lv, en, fm, sp, lo, hi, ov, va, qu, se, tg, ir, ou, (ct, ch, gv), (tt, la)) 2 = some ((if q = 0 then r else r + 192), (q, lv, en, fm, sp, lo, hi, ov, (if r = 2 then 0 else va), qu, se, tg, ir, ou, (ct, ch, gv), (tt, la))) := by
    obtain ⟨i1, i2, i3, i4⟩ := ir
    obtain ⟨o1, o2, o3, o4⟩ := ou
    have h20 : ¬ (2 : Int32) = 0 := by decide
    have h21 : ¬ (2 : Int32) = 1 := by decide
    simp only [f_P_load, if_neg h20, if_neg h21, f_P_identify, f_P_identify_15, f_P_identify_31, h1, Option.bind_some, if_true]
    by_cases c1 : r = 2
    · by_cases c2 : q = 0
      · simp only [if_pos c1, if_pos c2, Option.bind_some]
      · simp only [if_pos c1, if_neg c2, Option.bind_some]
    · by_cases c2 : q = 0
      · simp only [if_neg c1, if_pos c2, Option.bind_some]
      · simp only [if_neg c1, if_neg c2, Option.bind_some]
  have e2 : f_T_read (tk, du, se, he, lv, en, fm, ct, sp, lo, hi, ov, va, q, gv, ch, tt, hd, ak, ug, ls, ro, sz, ft, la) 2 = some ((if q = 0 then r else r + 192), (tk, du, se, he, lv, en, fm, ct, sp, lo, hi, ov, (if r = 2 then 0 else va), q, gv, ch, tt, hd, ak, ug, ls, ro, sz, ft, la)) := by
    have h20 : ¬ (2 : Int32) = 0 := by decide
    have h21 : ¬ (2 : Int32) = 1 := by decide
    simp only [f_T_read, t_isOn, if_neg h20, if_neg h21, f_T_readCause, f_T_readCause_22, f_T_readCause_23, f_T_readCause_42, h2, Option.bind_some, if_true, gb_0, gb_1]
    rcases bva with e | e
    · subst e
      rw [if_pos rfl]
      by_cases c2 : q = 0
      · simp only [if_pos c2, Option.bind_some, ite_self]
      · simp only [if_neg c2, Option.bind_some, ite_self]
    · subst e
      have h10 : ¬ (1 : Int32) = 0 := by decide
      rw [if_neg h10]
      by_cases c1 : r = 2
      · by_cases c2 : q = 0
        · simp only [if_pos c1, if_pos c2, Option.bind_some]
        · simp only [if_pos c1, if_neg c2, Option.bind_some]
      · by_cases c2 : q = 0
        · simp only [if_neg c1, if_pos c2, Option.bind_some]
        · simp only [if_neg c1, if_neg c2, Option.bind_some]
  refine ⟨_, _, _, e1, e2, key _ ?_, cs_and (cs h1)⟩
  by_cases c1 : r = 2
  · rw [if_pos c1]; exact Or.inl rfl
  · rw [if_neg c1]; exact bva
theorem s_load1 {N : Nat} {hd ak uc ls : Int32} {fo ba : RgT} {p : PtT} {v : TwT} (h : Rl N hd ak uc ls fo ba p v) : ∃ r, f_P_load p 1 = some (r, p) ∧ f_T_read v 1 = some (r, v) := by
  obtain ⟨tk, du, se, he, lv, en, fm, ct, sp, lo, hi, ov, va, q, gv, ch, tt, ug, ro, sz, ft, la, qu, tg, ir, ou, nf, nb, ni, no, T, g, rfl, rfl, hSc, hU, hF, hB, hI, hO, hH, hQ⟩ := h
  obtain ⟨bq, ben, bfm, bct, bch, bgv, blo, bhi, bov, bva, bse, bhd, bak⟩ := hSc
  have hu := p_uob (q := q) (lv := lv) (en := en) (fm := fm) (sp := sp) (lo := lo) (hi := hi) (ov := ov) (va := va) (qu := qu) (se := se) (tg := tg) (ir := ir) (ou := ou) (ct := ct) (ch := ch) (gv := gv) (tt := tt) (la := la)
  obtain ⟨i1, i2, i3, i4⟩ := ir
  obtain ⟨o1, o2, o3, o4⟩ := ou
  have h10 : ¬ (1 : Int32) = 0 := by decide
  refine ⟨if ubI fm = 0 then en else hi, ?_, ?_⟩
  · simp only [f_P_load, f_P_load_81, if_neg h10, if_true, hu, Option.bind_some]
    by_cases c : ubI fm = 0
    · simp only [if_pos c]
    · simp only [if_neg c]
  · simp only [f_T_read, f_T_read_104, if_neg h10, if_true, t_isOn, ub_On bfm, Option.bind_some]
    by_cases c : ubI fm = 0
    · simp only [if_pos c]
    · simp only [if_neg c]
theorem s_load6 {N : Nat} {hd ak uc ls : Int32} {fo ba : RgT} {p : PtT} {v : TwT} (h : Rl N hd ak uc ls fo ba p v) : ∃ r p' v', f_P_load p 6 = some (r, p') ∧ f_T_read v 6 = some (r, v') ∧ Rl N hd ak uc ls fo ba p' v' := by
  obtain ⟨tk, du, se, he, lv, en, fm, ct, sp, lo, hi, ov, va, q, gv, ch, tt, ug, ro, sz, ft, la, qu, tg, ir, ou, nf, nb, ni, no, T, g, rfl, rfl, hSc, hU, hF, hB, hI, hO, hH, hQ⟩ := h
  obtain ⟨bq, ben, bfm, bct, bch, bgv, blo, bhi, bov, bva, bse, bhd, bak⟩ := hSc
  have key : Rl N hd ak uc ls fo ba (q, lv, en, fm, sp, lo, hi, ov, va, qu, se, tg, ir, ou, (ct, 0, gv), (tt, la)) (tk, du, se, he, lv, en, fm, ct, sp, lo, hi, ov, va, q, gv, 0, tt, hd, ak, ug, ls, ro, sz, ft, la) := Rl.mk ⟨bq, ben, bfm, bct, ⟨0, by decide, rfl⟩, bgv, blo, bhi, bov, bva, bse, bhd, bak⟩ hU hF hB hI hO hH hQ
  refine ⟨ch + (16 * inI ct gv), _, _, ?_, ?_, key⟩
  · obtain ⟨i1, i2, i3, i4⟩ := ir
    obtain ⟨o1, o2, o3, o4⟩ := ou
    simp only [f_P_load, m_changes, Option.bind_some, show ¬ (6 : Int32) = 0 by decide, show ¬ (6 : Int32) = 1 by decide, show ¬ (6 : Int32) = 2 by decide, show ¬ (6 : Int32) = 3 by decide, show ¬ (6 : Int32) = 4 by decide, show ¬ (6 : Int32) = 5 by decide, if_false, if_true]
  · simp only [f_T_read, f_T_readChanges, t_isOn, t_inputs bct, Option.bind_some, show ¬ (6 : Int32) = 0 by decide, show ¬ (6 : Int32) = 1 by decide, show ¬ (6 : Int32) = 2 by decide, show ¬ (6 : Int32) = 3 by decide, show ¬ (6 : Int32) = 4 by decide, show ¬ (6 : Int32) = 5 by decide, if_false, if_true]
theorem s_load0 {N : Nat} {hd ak uc ls : Int32} {fo ba : RgT} {p : PtT} {v : TwT} (h : Rl N hd ak uc ls fo ba p v) : ∃ r p' v', f_P_load p 0 = some (r, p') ∧ f_T_read v 0 = some (r, v') ∧ Rl N hd ak uc ls fo ba p' v' := by
  have h0 := h
  obtain ⟨tk, du, se, he, lv, en, fm, ct, sp, lo, hi, ov, va, q, gv, ch, tt, ug, ro, sz, ft, la, qu, tg, ir, ou, nf, nb, ni, no, T, g, rfl, rfl, hSc, hU, hF, hB, hI, hO, hH, hQ⟩ := h
  obtain ⟨bq, ben, bfm, bct, bch, bgv, blo, bhi, bov, bva, bse, bhd, bak⟩ := hSc
  have hu := p_uob (q := q) (lv := lv) (en := en) (fm := fm) (sp := sp) (lo := lo) (hi := hi) (ov := ov) (va := va) (qu := qu) (se := se) (tg := tg) (ir := ir) (ou := ou) (ct := ct) (ch := ch) (gv := gv) (tt := tt) (la := la)
  have hlm := Lm_in q
  by_cases c : ubI fm = 0
  · obtain ⟨q0, hR, hs, hE⟩ := id hI
    have hle := hR.le
    have hsz := hR.size
    by_cases hn : ni = 0
    · subst hn
      have hr := rg_remove0 hR
      refine ⟨0, _, _, ?_, ?_, h0⟩
      · obtain ⟨i1, i2, i3, i4⟩ := ir
        obtain ⟨o1, o2, o3, o4⟩ := ou
        dsimp only at hsz
        subst hsz
        simp only [f_P_load, f_P_load_62, f_P_takeIn, f_P_takeIn_15, if_true, hu, Option.bind_some, if_pos c, hr, nz (show 0 < 32 by decide)]
        rfl
      · simp only [f_T_read, f_T_read_88, if_true, t_isOn, ub_On bfm, Option.bind_some, if_pos c, g24, cl2, hs, nz (show 0 < 32 by decide)]
    · have hpos := Nat.pos_of_ne_zero hn
      obtain ⟨ir', hr, hR'⟩ := rg_remove hR hpos
      have ht := t_takeIn (tk := tk) (du := du) (se := se) (he := he) (lv := lv) (en := en) (fm := fm) (ct := ct) (sp := sp) (lo := lo) (hi := hi) (ov := ov) (va := va) (q := q) (gv := gv) (ch := ch) (tt := tt) (hd := hd) (ak := ak) (ug := ug) (ls := ls) (ro := ro) (sz := sz) (ft := ft) (la := la) hs hpos (by omega)
      have h48 := (hE 0 hpos).2.1
      rw [Nat.add_zero] at h48
      rw [h48] at ht
      have key : Rl N hd ak uc ls fo ba (q, lv, en, fm, sp, lo, hi, ov, va, 0, se, tg, ir', ou, (ct, ch, gv), (tt, la)) (tk, du, se, tk, lv, en, fm, ct, sp, lo, hi, ov, va, q, gv, ch, tt, hd, ak, ug, ls, (shR ro 48 (48 + (ni - 1))), (upd sz 2 (nI (ni - 1))), (shR ft 0 (ni - 1)), la) := by
        have hro : ∀ j, (j < 48 ∨ 72 ≤ j) → shR ro 48 (48 + (ni - 1)) j = ro j := fun j hj => by
          unfold shR; rw [if_neg (by omega)]
        refine Rl.mk ⟨bq, ben, bfm, bct, bch, bgv, blo, bhi, bov, bva, bse, bhd, bak⟩ hU (hF.fr (fun j _ h2 => hro j (by omega)) (pk_un (by decide))) (hB.fr (fun j h2 => hro j (by omega)) (pk_un (by decide))) (ni := ni - 1) ⟨_, hR', pk_us, fun i hi => ?_⟩ (hO.fr (fun j h2 => hro j (by omega)) (pk_un (by decide))) hH (fun _ => ⟨T, Nat.le_refl _, hH.1, by rw [Nat.sub_self]; rfl⟩)
        have := hE (i + 1) (by omega)
        refine ⟨this.1, ?_, ?_⟩
        · show shR ro 48 (48 + (ni - 1)) (48 + i) = q0 (i + 1) &&& 255
          unfold shR
          rw [if_pos (by omega)]
          exact this.2.1
        · show shR ft 0 (ni - 1) i = q0 (i + 1) >>> _
          unfold shR
          rw [if_pos (by omega)]
          exact this.2.2
      refine ⟨q0 0 &&& 255, _, _, ?_, ?_, key⟩
      · obtain ⟨i1, i2, i3, i4⟩ := ir
        obtain ⟨o1, o2, o3, o4⟩ := ou
        obtain ⟨p1, p2, p3, p4⟩ := ir'
        dsimp only at hsz
        subst hsz
        simp only [f_P_load, f_P_load_62, f_P_takeIn, f_P_takeIn_15, if_true, hu, Option.bind_some, if_pos c, hr, nz (show ni < 32 by omega), if_neg hn]
      · simp only [f_T_read, f_T_read_88, if_true, t_isOn, ub_On bfm, Option.bind_some, if_pos c, g24, cl2, hs, nz (show ni < 32 by omega), if_neg hn, ht]
  · refine ⟨lo, _, _, ?_, ?_, h0⟩
    · obtain ⟨i1, i2, i3, i4⟩ := ir
      obtain ⟨o1, o2, o3, o4⟩ := ou
      simp only [f_P_load, f_P_load_62, if_true, hu, Option.bind_some, if_neg c]
    · simp only [f_T_read, f_T_read_88, if_true, t_isOn, ub_On bfm, Option.bind_some, if_neg c]
