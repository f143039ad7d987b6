/-! reading register 5 -/
def ovB (ov : Int32) : Int32 := if ov = 0 then 0 else 2
def obB (no : Nat) : Int32 := if no = 0 then 32 else 0
def idB (no g : Nat) : Int32 := if no = 0 then (if g = 0 then 64 else 0) else 0
def qB (q x : Int32) : Int32 := if q = 0 then 0 else (if x = 0 then 0 else 128)
theorem By.add {m n k : Nat} {x y : Int32} (h1 : By m x) (h2 : By n y) (hk : m + n ≤ k + 1) : By k (x + y) := by
  obtain ⟨a, ha, rfl⟩ := h1
  obtain ⟨b, hb, rfl⟩ := h2
  exact ⟨a + b, by omega, nI_add a b⟩
theorem ovB_by (ov : Int32) : By 3 (ovB ov) := by
  unfold ovB
  by_cases c : ov = 0
  · rw [if_pos c]; exact ⟨0, by decide, rfl⟩
  · rw [if_neg c]; exact ⟨2, by decide, rfl⟩
theorem obB_by (no : Nat) : By 33 (obB no) := by
  unfold obB
  by_cases c : no = 0
  · rw [if_pos c]; exact ⟨32, by decide, rfl⟩
  · rw [if_neg c]; exact ⟨0, by decide, rfl⟩
theorem idB_by (no g : Nat) : By 65 (idB no g) := by
  unfold idB
  by_cases c : no = 0
  · by_cases c2 : g = 0
    · rw [if_pos c, if_pos c2]; exact ⟨64, by decide, rfl⟩
    · rw [if_pos c, if_neg c2]; exact ⟨0, by decide, rfl⟩
  · rw [if_neg c]; exact ⟨0, by decide, rfl⟩
theorem qB_by (q x : Int32) : By 129 (qB q x) := by
  unfold qB
  by_cases c : q = 0
  · rw [if_pos c]; exact ⟨0, by decide, rfl⟩
  · by_cases c2 : x = 0
    · rw [if_neg c, if_pos c2]; exact ⟨0, by decide, rfl⟩
    · rw [if_neg c, if_neg c2]; exact ⟨128, by decide, rfl⟩
theorem f4_by {x : Int32} (h : By 2048 x) : By 29 (4 * (x >>> ((8 : Int32) &&& 31))) := by
  obtain ⟨k, hk, rfl⟩ := h
  rw [pk_shrN (by omega) ((8 : Int32) &&& 31) 8 (by decide), show (4 : Int32) = nI 4 from rfl, pk_mul]
  exact ⟨4 * (k / 2 ^ 8), by omega, rfl⟩
theorem p119 {q lv en fm sp lo hi ov va qu se tg : Int32} {ir ou : RgT} {ct ch gv tt : Int32} {la : Nat → Int32} {o s1 s2 : Int32} {ir' : RgT} (h1 : f_R_oldest ir = some o) (h2 : f_R_replaceOldest ir (o &&& 255) = some ir') : f_P_readStatus_119 (q, lv, en, fm, sp, lo, hi, ov, va, qu, se, tg, ir, ou, (ct, ch, gv), (tt, la)) s2 s1 = some (s1 + s2, (q, lv, en, fm, sp, lo, hi, 0, va, qu, se, tg, ir', ou, (ct, ch, gv), (tt, la))) := by
  obtain ⟨i1, i2, i3, i4⟩ := ir
  obtain ⟨o1, o2, o3, o4⟩ := ou
  obtain ⟨p1, p2, p3, p4⟩ := ir'
  simp only [f_P_readStatus_119, h1, h2, Option.bind_some]
theorem p89 {q lv en fm sp lo hi ov va qu se tg : Int32} {ir ou : RgT} {ct ch gv tt : Int32} {la : Nat → Int32} {o s1 s2 x : Int32} {ir' : RgT} (h1 : f_R_oldest ir = some o) (h2 : f_R_replaceOldest ir (o &&& 255) = some ir') (h3 : f_R_hasItemAbove ir 255 = some x) : f_P_readStatus_89 (q, lv, en, fm, sp, lo, hi, ov, va, qu, se, tg, ir, ou, (ct, ch, gv), (tt, la)) s2 s1 = some ((s1 + s2) + qB q x, (q, lv, en, fm, sp, lo, hi, 0, va, qu, se, tg, ir', ou, (ct, ch, gv), (tt, la))) := by
  have h := fun (s1 s2 : Int32) => p119 (q := q) (lv := lv) (en := en) (fm := fm) (sp := sp) (lo := lo) (hi := hi) (ov := ov) (va := va) (qu := qu) (se := se) (tg := tg) (ir := ir) (ou := ou) (ct := ct) (ch := ch) (gv := gv) (tt := tt) (la := la) (s1 := s1) (s2 := s2) h1 h2
  obtain ⟨i1, i2, i3, i4⟩ := ir
  obtain ⟨o1, o2, o3, o4⟩ := ou
  simp only [f_P_readStatus_89, f_P_readStatus_118, h3, Option.bind_some, h, qB]
  by_cases c1 : q = 0
  · simp only [if_pos c1]
  · by_cases c2 : x = 0
    · simp only [if_neg c1, if_pos c2]
    · simp only [if_neg c1, if_neg c2]
theorem p63 {q lv en fm sp lo hi ov va qu se tg : Int32} {ir ou : RgT} {ct ch gv tt : Int32} {la : Nat → Int32} {no g : Nat} {o s1 s2 x : Int32} {ir' : RgT} (h1 : f_R_oldest ir = some o) (h2 : f_R_replaceOldest ir (o &&& 255) = some ir') (h3 : f_R_hasItemAbove ir 255 = some x) (h4 : ou.2.2.1 = nI no) (hno : no < 32) (h5 : tg = nI g) (hg : g ≤ 65535) : f_P_readStatus_63 (q, lv, en, fm, sp, lo, hi, ov, va, qu, se, tg, ir, ou, (ct, ch, gv), (tt, la)) s2 s1 = some (((s1 + s2) + idB no g) + qB q x, (q, lv, en, fm, sp, lo, hi, 0, va, qu, se, tg, ir', ou, (ct, ch, gv), (tt, la))) := by
  have h := fun (s1 s2 : Int32) => p89 (q := q) (lv := lv) (en := en) (fm := fm) (sp := sp) (lo := lo) (hi := hi) (ov := ov) (va := va) (qu := qu) (se := se) (tg := tg) (ir := ir) (ou := ou) (ct := ct) (ch := ch) (gv := gv) (tt := tt) (la := la) (s1 := s1) (s2 := s2) h1 h2 h3
  obtain ⟨i1, i2, i3, i4⟩ := ir
  obtain ⟨o1, o2, o3, o4⟩ := ou
  dsimp only at h4
  subst h4 h5
  have hz : (nI g = 0) = (g = 0) := by
    apply propext
    constructor
    · intro z
      rcases Nat.eq_zero_or_pos g with e | e
      · exact e
      · exact absurd z (nI_ne0 e (by omega))
    · intro z; subst z; decide
  simp only [f_P_readStatus_63, f_P_readStatus_88, h, nz' hno, hz, idB]
  by_cases c1 : no = 0
  · by_cases c2 : g = 0
    · simp only [if_pos c1, if_pos c2]
    · simp only [if_pos c1, if_neg c2]
  · simp only [if_neg c1]
theorem p_rs {q lv en fm sp lo hi ov va qu se tg : Int32} {ir ou : RgT} {ct ch gv tt : Int32} {la : Nat → Int32} {ni no g : Nat} {o x : Int32} {ir' : RgT} (h1 : f_R_oldest ir = some o) (h2 : f_R_replaceOldest ir (o &&& 255) = some ir') (h3 : f_R_hasItemAbove ir 255 = some x) (h4 : ou.2.2.1 = nI no) (hno : no < 32) (h5 : tg = nI g) (hg : g ≤ 65535) (h6 : ir.2.2.1 = nI ni) (hni : ni < 32) : f_P_readStatus (q, lv, en, fm, sp, lo, hi, ov, va, qu, se, tg, ir, ou, (ct, ch, gv), (tt, la)) = some ((((((if ni = 0 then 0 else 1) + ovB ov) + (4 * (o >>> ((8 : Int32) &&& 31)))) + obB no) + idB no g) + qB q x, (q, lv, en, fm, sp, lo, hi, 0, va, qu, se, tg, ir', ou, (ct, ch, gv), (tt, la))) := by
  have h := fun (s1 s2 : Int32) => p63 (q := q) (lv := lv) (en := en) (fm := fm) (sp := sp) (lo := lo) (hi := hi) (ov := ov) (va := va) (qu := qu) (se := se) (tg := tg) (ir := ir) (ou := ou) (ct := ct) (ch := ch) (gv := gv) (tt := tt) (la := la) (s1 := s1) (s2 := s2) h1 h2 h3 h4 hno h5 hg
  obtain ⟨i1, i2, i3, i4⟩ := ir
  obtain ⟨o1, o2, o3, o4⟩ := ou
  dsimp only at h4 h6
  subst h4 h6
  simp only [f_P_readStatus, f_P_readStatus_15, f_P_readStatus_29, h1, Option.bind_some, h, nz hni, nz' hno, ovB, obB]
  by_cases c1 : ni = 0
  · by_cases c2 : ov = 0
    · by_cases c3 : no = 0
      · simp only [if_pos c1, if_pos c2, if_pos c3]
      · simp only [if_pos c1, if_pos c2, if_neg c3]
    · by_cases c3 : no = 0
      · simp only [if_pos c1, if_neg c2, if_pos c3]
      · simp only [if_pos c1, if_neg c2, if_neg c3]
  · by_cases c2 : ov = 0
    · by_cases c3 : no = 0
      · simp only [if_neg c1, if_pos c2, if_pos c3]
      · simp only [if_neg c1, if_pos c2, if_neg c3]
    · by_cases c3 : no = 0
      · simp only [if_neg c1, if_neg c2, if_pos c3]
      · simp only [if_neg c1, if_neg c2, if_neg c3]
theorem t142 {tk du se he lv en fm ct sp lo hi ov va q gv ch tt hd ak ug ls : Int32} {ro sz ft la : Nat → Int32} {x1 s1 s2 : Int32} : f_T_readStatus_142 (tk, du, se, he, lv, en, fm, ct, sp, lo, hi, ov, va, q, gv, ch, tt, hd, ak, ug, ls, ro, sz, ft, la) x1 s2 s1 = some (s1 + s2, (tk, du, se, he, lv, en, fm, ct, sp, lo, hi, 0, va, q, gv, ch, tt, hd, ak, ug, ls, ro, sz, (upd ft 0 (if x1 = 0 then ft 0 else 0)), la)) := by
  simp only [f_T_readStatus_142, f_T_readStatus_168, g016, cl0]
  by_cases c : x1 = 0
  · simp only [if_pos c]
  · simp only [if_neg c]
theorem t123 {tk du se he lv en fm ct sp lo hi ov va q gv ch tt hd ak ug ls : Int32} {ro sz ft la : Nat → Int32} {x1 x2 s1 s2 : Int32} : f_T_readStatus_123 (tk, du, se, he, lv, en, fm, ct, sp, lo, hi, ov, va, q, gv, ch, tt, hd, ak, ug, ls, ro, sz, ft, la) x1 x2 s2 s1 = some ((s1 + s2) + qB q x2, (tk, du, se, he, lv, en, fm, ct, sp, lo, hi, 0, va, q, gv, ch, tt, hd, ak, ug, ls, ro, sz, (upd ft 0 (if x1 = 0 then ft 0 else 0)), la)) := by
  simp only [f_T_readStatus_123, f_T_readStatus_141, t142, qB]
  by_cases c1 : q = 0
  · simp only [if_pos c1]
  · by_cases c2 : x2 = 0
    · simp only [if_neg c1, if_pos c2]
    · simp only [if_neg c1, if_neg c2]
theorem t72 {tk du se he lv en fm ct sp lo hi ov va q gv ch tt hd ak ug ls : Int32} {ro sz ft la : Nat → Int32} {no g : Nat} {x1 x2 s : Int32} (hs : sz 3 = nI no) (hno : no < 32) (hd0 : (du = 0) = (g = 0)) : f_T_readStatus_72 (tk, du, se, he, lv, en, fm, ct, sp, lo, hi, ov, va, q, gv, ch, tt, hd, ak, ug, ls, ro, sz, ft, la) x1 x2 s = some ((((s + ovB ov) + obB no) + idB no g) + qB q x2, (tk, du, se, he, lv, en, fm, ct, sp, lo, hi, 0, va, q, gv, ch, tt, hd, ak, ug, ls, ro, sz, (upd ft 0 (if x1 = 0 then ft 0 else 0)), la)) := by
  simp only [f_T_readStatus_72, f_T_readStatus_84, f_T_readStatus_100, f_T_readStatus_122, t123, g34, cl3, hs, nz' hno, hd0, ovB, obB, idB]
  by_cases c2 : ov = 0
  · by_cases c3 : no = 0
    · by_cases c4 : g = 0
      · simp only [if_pos c2, if_pos c3, if_pos c4]
      · simp only [if_pos c2, if_pos c3, if_neg c4]
    · simp only [if_pos c2, if_neg c3]
  · by_cases c3 : no = 0
    · by_cases c4 : g = 0
      · simp only [if_neg c2, if_pos c3, if_pos c4]
      · simp only [if_neg c2, if_pos c3, if_neg c4]
    · simp only [if_neg c2, if_neg c3]
theorem t19 {tk du se he lv en fm ct sp lo hi ov va q gv ch tt hd ak ug ls : Int32} {ro sz ft la : Nat → Int32} {m : Nat} {x1 : Int32} (hs : sz 2 = nI m) (hm : m ≤ 16) : ∀ (k i : Nat) (x2 : Int32), i ≤ m → m - i < k → Bt x2 → ∃ y, Bt y ∧ (y = 1 ↔ (x2 = 1 ∨ ∃ j, i ≤ j ∧ j < m ∧ ¬ ft j = 0)) ∧ f_T_readStatus_19 k (tk, du, se, he, lv, en, fm, ct, sp, lo, hi, ov, va, q, gv, ch, tt, hd, ak, ug, ls, ro, sz, ft, la) x1 x2 (nI i) = (if x1 = 0 then f_T_readStatus_72 (tk, du, se, he, lv, en, fm, ct, sp, lo, hi, ov, va, q, gv, ch, tt, hd, ak, ug, ls, ro, sz, ft, la) x1 y 0 else f_T_readStatus_72 (tk, du, se, he, lv, en, fm, ct, sp, lo, hi, ov, va, q, gv, ch, tt, hd, ak, ug, ls, ro, sz, ft, la) x1 y (1 + (4 * ft 0))) := by
  intro k
  induction k with
  | zero => intro i x2 hi h; omega
  | succ k ih =>
    intro i x2 hi h hb
    simp only [f_T_readStatus_19, f_T_readStatus_42, f_T_readStatus_47, g24, g016, cl2, cl0, hs, nI_1]
    by_cases hc : i = m
    · subst hc
      refine ⟨x2, hb, ?_, ?_⟩
      · constructor
        · intro z; exact Or.inl z
        · rintro (z | ⟨j, h1, h2, -⟩)
          · exact z
          · omega
      · rw [if_pos (nI_le (Nat.le_refl _) (by omega))]
    · rw [if_neg (nI_ge (by omega) (by omega)), gi_n (by omega) (by decide), pu_clamp (by omega)]
      by_cases c2 : x2 = 0
      · rw [if_pos c2]
        by_cases c3 : ft i = 0
        · obtain ⟨y, h1, h2, h3⟩ := ih (i + 1) 0 (by omega) (by omega) (Or.inl rfl)
          refine ⟨y, h1, ?_, ?_⟩
          · rw [h2, c2]
            constructor
            · rintro (z | ⟨j, a, b, c⟩)
              · exact Or.inl z
              · exact Or.inr ⟨j, by omega, b, c⟩
            · rintro (z | ⟨j, a, b, c⟩)
              · exact Or.inl z
              · refine Or.inr ⟨j, ?_, b, c⟩
                rcases Nat.lt_or_ge i j with z | z
                · exact z
                · have : j = i := by omega
                  subst this
                  exact absurd c3 c
          · rw [if_pos c3]; exact h3
        · obtain ⟨y, h1, h2, h3⟩ := ih (i + 1) 1 (by omega) (by omega) (Or.inr rfl)
          refine ⟨y, h1, ?_, ?_⟩
          · rw [h2]
            exact ⟨fun _ => Or.inr ⟨i, Nat.le_refl _, by omega, c3⟩, fun _ => Or.inl rfl⟩
          · rw [if_neg c3]; exact h3
      · obtain ⟨y, h1, h2, h3⟩ := ih (i + 1) 1 (by omega) (by omega) (Or.inr rfl)
        have hx1 : x2 = 1 := hb.elim (fun z => absurd z c2) id
        refine ⟨y, h1, ?_, ?_⟩
        · rw [h2]
          exact ⟨fun _ => Or.inl hx1, fun _ => Or.inl rfl⟩
        · rw [if_neg c2]; exact h3
theorem lo_all : ∀ x, x < 2048 → (nI x &&& 255) &&& 255 = nI x &&& 255 ∧ (nI x &&& 255) >>> ((8 : Int32) &&& 31) = 0 := by decide +kernel
theorem lo_ok {x : Int32} (h : By 2048 x) : By 2048 (x &&& 255) ∧ (x &&& 255) &&& 255 = x &&& 255 ∧ (x &&& 255) >>> ((8 : Int32) &&& 31) = 0 := by
  obtain ⟨k, hk, rfl⟩ := h
  obtain ⟨j, hj, e⟩ := pk_andE (nI k) (m := 255) 8 (by decide)
  exact ⟨⟨j, by omega, e⟩, lo_all k hk⟩
theorem bt_eq {x y : Int32} (hx : Bt x) (hy : Bt y) (h : x = 1 ↔ y = 1) : x = y := by
  rcases hx with rfl | rfl
  · rcases hy with rfl | rfl
    · rfl
    · exact (h.mpr rfl)
  · exact (h.mp rfl).symm
theorem s_load5 {N : Nat} (hN : N ≤ 60000) {hd ak uc ls : Int32} {fo ba : RgT} {p : PtT} {v : TwT} (h : Rl N hd ak uc ls fo ba p v) : ∃ r p' v', f_P_load p 5 = some (r, p') ∧ f_T_read v 5 = some (r, v') ∧ Rl N hd ak uc ls fo ba p' v' ∧ By 256 r := by
  obtain ⟨tk, du, se, he, lv, en, fm, ct, sp, lo, hi, ov, va, q, gv, ch, tt, ug, ro, sz, ft, la, qu, tg, ir, ou, nf, nb, ni, no, T, g, rfl, rfl, hSc, hU, hF, hB, hI, hO, hH, hQ⟩ := h
  obtain ⟨bq, ben, bfm, bct, bch, bgv, blo, bhi, bov, bva, bse, bhd, bak⟩ := hSc
  have hlm := Lm_in q
  obtain ⟨q0, hR, hs, hE⟩ := id hI
  obtain ⟨qo, hRo, hso, hEo⟩ := id hO
  have hle := hR.le
  have hleo := hRo.le
  obtain ⟨x, hx1, hx2, hx3⟩ := rg_has hR
  have hd0 : (du = 0) = (g = 0) := by
    rw [hH.2.2.2.2]
    apply propext
    constructor
    · intro z
      by_cases c : g = 0
      · exact c
      · rw [if_neg c] at z
        exact absurd z (nI_ne0 (by omega) (by have := hH.2.1; have := hH.2.2.2.1; omega))
    · intro z; rw [if_pos z]
  obtain ⟨y, hy1, hy2, hy3⟩ := t19 (tk := tk) (du := du) (se := se) (he := he) (lv := lv) (en := en) (fm := fm) (ct := ct) (sp := sp) (lo := lo) (hi := hi) (ov := ov) (va := va) (q := q) (gv := gv) (ch := ch) (tt := tt) (hd := hd) (ak := ak) (ug := ug) (ls := ls) (ro := ro) (sz := sz) (ft := ft) (la := la) (x1 := if ni = 0 then 0 else 1) hs (by omega) 128 0 0 (Nat.zero_le _) (by omega) (Or.inl rfl)
  have exy : x = y := bt_eq hx2 hy1 (by
    rw [hx3, hy2]
    constructor
    · rintro ⟨j, h1, h2⟩
      have := hE j h1
      refine Or.inr ⟨j, Nat.zero_le _, h1, ?_⟩
      rw [this.2.2, ← hi_iff this.1]
      exact h2
    · rintro (z | ⟨j, h1, h2, h3⟩)
      · exact absurd z (by decide)
      · have := hE j h2
        refine ⟨j, h2, ?_⟩
        rw [hi_iff this.1, ← this.2.2]
        exact h3)
  have hT : f_T_readStatus (tk, du, se, he, lv, en, fm, ct, sp, lo, hi, ov, va, q, gv, ch, tt, hd, ak, ug, ls, ro, sz, ft, la) = f_T_readStatus_19 128 (tk, du, se, he, lv, en, fm, ct, sp, lo, hi, ov, va, q, gv, ch, tt, hd, ak, ug, ls, ro, sz, ft, la) (if ni = 0 then 0 else 1) 0 (nI 0) := by
    simp only [f_T_readStatus, f_T_readStatus_14, g24, cl2, hs, nz (show ni < 32 by omega)]
    by_cases c : ni = 0
    · simp only [if_pos c]; rfl
    · simp only [if_neg c]; rfl
  have hL : ∀ r p', f_P_readStatus (q, lv, en, fm, sp, lo, hi, ov, va, qu, se, tg, ir, ou, (ct, ch, gv), (tt, la)) = some (r, p') → f_P_load (q, lv, en, fm, sp, lo, hi, ov, va, qu, se, tg, ir, ou, (ct, ch, gv), (tt, la)) 5 = some (r, p') := by
    intro r p' e
    obtain ⟨i1, i2, i3, i4⟩ := ir
    obtain ⟨o1, o2, o3, o4⟩ := ou
    obtain ⟨z1, z2, z3, z4, z5, z6, z7, z8, z9, z10, z11, z12, ⟨j1, j2, j3, j4⟩, ⟨k1, k2, k3, k4⟩, ⟨m1, m2, m3⟩, ⟨n1, n2⟩⟩ := p'
    simp only [f_P_load, e, Option.bind_some, show ¬ (5 : Int32) = 0 by decide, show ¬ (5 : Int32) = 1 by decide, show ¬ (5 : Int32) = 2 by decide, show ¬ (5 : Int32) = 3 by decide, show ¬ (5 : Int32) = 4 by decide, if_false, if_true]
  have hL2 : ∀ r v', f_T_readStatus (tk, du, se, he, lv, en, fm, ct, sp, lo, hi, ov, va, q, gv, ch, tt, hd, ak, ug, ls, ro, sz, ft, la) = some (r, v') → f_T_read (tk, du, se, he, lv, en, fm, ct, sp, lo, hi, ov, va, q, gv, ch, tt, hd, ak, ug, ls, ro, sz, ft, la) 5 = some (r, v') := by
    intro r v' e
    obtain ⟨w1, w2, w3, w4, w5, w6, w7, w8, w9, w10, w11, w12, w13, w14, w15, w16, w17, w18, w19, w20, w21, w22, w23, w24, w25⟩ := v'
    simp only [f_T_read, t_isOn, e, Option.bind_some, show ¬ (5 : Int32) = 0 by decide, show ¬ (5 : Int32) = 1 by decide, show ¬ (5 : Int32) = 2 by decide, show ¬ (5 : Int32) = 3 by decide, show ¬ (5 : Int32) = 4 by decide, if_false, if_true]
  rw [hy3] at hT
  rw [t72 (g := g) hso (by omega) hd0, t72 (g := g) hso (by omega) hd0] at hT
  have ho := rg_oldest hR
  by_cases c : ni = 0
  · subst c
    rw [if_pos rfl] at ho hT
    have hp := p_rs (q := q) (lv := lv) (en := en) (fm := fm) (sp := sp) (lo := lo) (hi := hi) (ov := ov) (va := va) (qu := qu) (se := se) (tg := tg) (ir := ir) (ou := ou) (ct := ct) (ch := ch) (gv := gv) (tt := tt) (la := la) ho (rg_replace0 hR _) hx1 hRo.size (by omega) hH.2.2.1 hH.2.2.2.1 hR.size (by omega)
    rw [if_pos rfl] at hp hT
    have e8 : (4 * ((0 : Int32) >>> ((8 : Int32) &&& 31))) = 0 := by decide
    rw [e8, Int32.add_zero] at hp
    rw [exy] at hp
    refine ⟨_, _, _, hL _ _ hp, hL2 _ _ hT, ?_, ((((show By 30 (0 : Int32) from ⟨0, by decide, rfl⟩).add (ovB_by ov) (k := 32) (by decide)).add (obB_by no) (k := 64) (by decide)).add (idB_by no g) (k := 128) (by decide)).add (qB_by q y) (by decide)⟩
    refine Rl.mk (ni := 0) ⟨bq, ben, bfm, bct, bch, bgv, blo, bhi, Or.inl rfl, bva, bse, bhd, bak⟩ hU hF hB ⟨q0, hR, hs, fun i hi => absurd hi (Nat.not_lt_zero i)⟩ hO hH hQ
  · have hpos := Nat.pos_of_ne_zero c
    rw [if_neg c] at ho
    obtain ⟨ir', hr, hR'⟩ := rg_replace hR hpos (q0 0 &&& 255)
    have hp := p_rs (q := q) (lv := lv) (en := en) (fm := fm) (sp := sp) (lo := lo) (hi := hi) (ov := ov) (va := va) (qu := qu) (se := se) (tg := tg) (ir := ir) (ou := ou) (ct := ct) (ch := ch) (gv := gv) (tt := tt) (la := la) ho hr hx1 hRo.size (by omega) hH.2.2.1 hH.2.2.2.1 hR.size (by omega)
    simp only [if_neg c] at hp hT
    rw [if_neg (show ¬ (1 : Int32) = 0 by decide)] at hT
    rw [if_neg (show ¬ (1 : Int32) = 0 by decide)] at hT
    have hE0 := hE 0 hpos
    rw [hE0.2.2] at hT
    rw [exy, Int32.add_assoc 1 (ovB ov), Int32.add_comm (ovB ov), ← Int32.add_assoc 1] at hp
    refine ⟨_, _, _, hL _ _ hp, hL2 _ _ hT, ?_, (((((show By 2 (1 : Int32) from ⟨1, by decide, rfl⟩).add (f4_by hE0.1) (k := 30) (by decide)).add (ovB_by ov) (k := 32) (by decide)).add (obB_by no) (k := 64) (by decide)).add (idB_by no g) (k := 128) (by decide)).add (qB_by q y) (by decide)⟩
    refine Rl.mk (ni := ni) ⟨bq, ben, bfm, bct, bch, bgv, blo, bhi, Or.inl rfl, bva, bse, bhd, bak⟩ hU hF hB ⟨_, hR', hs, fun i hi => ?_⟩ hO hH hQ
    by_cases hi0 : i = 0
    · subst hi0
      rw [pk_us, pk_us]
      have := lo_ok hE0.1
      exact ⟨this.1, by rw [this.2.1]; exact hE0.2.1, this.2.2.symm⟩
    · rw [pk_un hi0, pk_un hi0]
      exact hE i hi
theorem s_load {N : Nat} (hN : N ≤ 60000) {hd ak uc ls : Int32} {fo ba : RgT} {p : PtT} {v : TwT} (h : Rl N hd ak uc ls fo ba p v) {k : Nat} (hk : k < 8) : ∃ r p' v', f_P_load p (nI k) = some (r, p') ∧ f_T_read v (nI k) = some (r, v') ∧ Rl N hd ak uc ls fo ba p' v' := by
  rcases (show k = 0 ∨ k = 1 ∨ k = 2 ∨ k = 3 ∨ k = 4 ∨ k = 5 ∨ k = 6 ∨ k = 7 by omega) with rfl | rfl | rfl | rfl | rfl | rfl | rfl | rfl
  · exact s_load0 h
  · obtain ⟨r, h1, h2⟩ := s_load1 h
    exact ⟨r, _, _, h1, h2, h⟩
  · obtain ⟨r, p', v', h1, h2, h3, -⟩ := s_load2 h
    exact ⟨r, p', v', h1, h2, h3⟩
  · have h0 := h
    obtain ⟨tk, du, se, he, lv, en, fm, ct, sp, lo, hi, ov, va, q, gv, ch, tt, ug, ro, sz, ft, la, qu, tg, ir, ou, nf, nb, ni, no, T, g, rfl, rfl, hSc, hU, hF, hB, hI, hO, hH, hQ⟩ := h
    refine ⟨fm, _, _, ?_, ?_, h0⟩
    · obtain ⟨i1, i2, i3, i4⟩ := ir
      obtain ⟨o1, o2, o3, o4⟩ := ou
      simp only [f_P_load, show ¬ (nI 3) = 0 by decide, show ¬ (nI 3) = 1 by decide, show ¬ (nI 3) = 2 by decide, show (nI 3) = 3 by decide, if_false, if_true]
      rfl
    · simp only [f_T_read, t_isOn, Option.bind_some, show ¬ (nI 3) = 0 by decide, show ¬ (nI 3) = 1 by decide, show ¬ (nI 3) = 2 by decide, show (nI 3) = 3 by decide, if_false, if_true]
      rfl
  · have h0 := h
    obtain ⟨tk, du, se, he, lv, en, fm, ct, sp, lo, hi, ov, va, q, gv, ch, tt, ug, ro, sz, ft, la, qu, tg, ir, ou, nf, nb, ni, no, T, g, rfl, rfl, hSc, hU, hF, hB, hI, hO, hH, hQ⟩ := h
    refine ⟨ct, _, _, ?_, ?_, h0⟩
    · obtain ⟨i1, i2, i3, i4⟩ := ir
      obtain ⟨o1, o2, o3, o4⟩ := ou
      rfl
    · simp only [f_T_read, t_isOn, Option.bind_some]
      rfl
  · obtain ⟨r, p', v', h1, h2, h3, -⟩ := s_load5 hN h
    exact ⟨r, p', v', h1, h2, h3⟩
  · exact s_load6 h
  · have h0 := h
    obtain ⟨tk, du, se, he, lv, en, fm, ct, sp, lo, hi, ov, va, q, gv, ch, tt, ug, ro, sz, ft, la, qu, tg, ir, ou, nf, nb, ni, no, T, g, rfl, rfl, hSc, hU, hF, hB, hI, hO, hH, hQ⟩ := h
    refine ⟨sp, _, _, ?_, ?_, h0⟩
    · obtain ⟨i1, i2, i3, i4⟩ := ir
      obtain ⟨o1, o2, o3, o4⟩ := ou
      rfl
    · simp only [f_T_read, t_isOn, Option.bind_some]
      rfl
