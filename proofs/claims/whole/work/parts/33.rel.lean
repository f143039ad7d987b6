/-! class and reference hold the same -/
def SH (N T g : Nat) (tk du tg : Int32) : Prop := tk = nI T ∧ T ≤ N ∧ tg = nI g ∧ g ≤ 65535 ∧ du = (if g = 0 then 0 else nI (T + g))
def QT (n T : Nat) (he qu : Int32) : Prop := 0 < n → ∃ h : Nat, h ≤ T ∧ he = nI h ∧ qu = nI (T - h)
def UG (uc ug : Int32) : Prop := (uc = -1 ∧ ug = 0) ∨ (uc = 17 ∧ ug = 17) ∨ (uc = 19 ∧ ug = 19)
def Sc (q en fm ct ch gv lo hi ov va se hd ak : Int32) : Prop := Bt q ∧ By 16 en ∧ By 256 fm ∧ By 32 ct ∧ By 16 ch ∧ By 16 gv ∧ By 256 lo ∧ By 256 hi ∧ Bt ov ∧ Bt va ∧ By 256 se ∧ Bt hd ∧ Bt ak
def Rl (N : Nat) (hd ak uc ls : Int32) (fo ba : RgT) (p : PtT) (v : TwT) : Prop := ∃ (tk du se he lv en fm ct sp lo hi ov va q gv ch tt ug : Int32) (ro sz ft la : Nat → Int32) (qu tg : Int32) (ir ou : RgT) (nf nb ni no T g : Nat), p = (q, lv, en, fm, sp, lo, hi, ov, va, qu, se, tg, ir, ou, (ct, ch, gv), (tt, la)) ∧ v = (tk, du, se, he, lv, en, fm, ct, sp, lo, hi, ov, va, q, gv, ch, tt, hd, ak, ug, ls, ro, sz, ft, la) ∧ Sc q en fm ct ch gv lo hi ov va se hd ak ∧ UG uc ug ∧ QF nf fo ro sz ∧ QB nb ba ro sz ∧ QI (Lm q) ni ir ro sz ft ∧ QO (Lm q) no ou ro sz ∧ SH N T g tk du tg ∧ QT ni T he qu
theorem Rl.mk {N : Nat} {tk du se he lv en fm ct sp lo hi ov va q gv ch tt hd ak ug ls : Int32} {ro sz ft la : Nat → Int32} {qu tg : Int32} {ir ou : RgT} {uc : Int32} {fo ba : RgT} {nf nb ni no T g : Nat} (h1 : Sc q en fm ct ch gv lo hi ov va se hd ak) (h2 : UG uc ug) (h3 : QF nf fo ro sz) (h4 : QB nb ba ro sz) (h5 : QI (Lm q) ni ir ro sz ft) (h6 : QO (Lm q) no ou ro sz) (h7 : SH N T g tk du tg) (h8 : QT ni T he qu) : Rl N hd ak uc ls fo ba (q, lv, en, fm, sp, lo, hi, ov, va, qu, se, tg, ir, ou, (ct, ch, gv), (tt, la)) (tk, du, se, he, lv, en, fm, ct, sp, lo, hi, ov, va, q, gv, ch, tt, hd, ak, ug, ls, ro, sz, ft, la) :=
  ⟨tk, du, se, he, lv, en, fm, ct, sp, lo, hi, ov, va, q, gv, ch, tt, ug, ro, sz, ft, la, qu, tg, ir, ou, nf, nb, ni, no, T, g, rfl, rfl, h1, h2, h3, h4, h5, h6, h7, h8⟩
/-! the cause -/
theorem on_all : ∀ e, e < 16 → ((onI (nI e) 0 = 0) = ((nI e &&& 1) = 0)) ∧ ((onI (nI e) 1 = 0) = ((nI e &&& 2) = 0)) ∧ ((onI (nI e) 2 = 0) = ((nI e &&& 4) = 0)) ∧ ((onI (nI e) 3 = 0) = ((nI e &&& 8) = 0)) := by
  have h : ∀ e, e < 16 → ((onI (nI e) 0 = 0) ↔ ((nI e &&& 1) = 0)) ∧ ((onI (nI e) 1 = 0) ↔ ((nI e &&& 2) = 0)) ∧ ((onI (nI e) 2 = 0) ↔ ((nI e &&& 4) = 0)) ∧ ((onI (nI e) 3 = 0) ↔ ((nI e &&& 8) = 0)) := by decide +kernel
  intro e he
  obtain ⟨a, b, c, d⟩ := h e he
  exact ⟨propext a, propext b, propext c, propext d⟩
theorem on_en {en : Int32} (h : By 16 en) : ((onI en 0 = 0) = ((en &&& 1) = 0)) ∧ ((onI en 1 = 0) = ((en &&& 2) = 0)) ∧ ((onI en 2 = 0) = ((en &&& 4) = 0)) ∧ ((onI en 3 = 0) = ((en &&& 8) = 0)) := by
  obtain ⟨e, he, rfl⟩ := h
  exact on_all e he
theorem ca128 {tk du se he lv en fm ct sp lo hi ov va q gv ch tt hd ak ug ls : Int32} {ro sz ft la : Nat → Int32} {qu tg : Int32} {ir ou : RgT} (h : By 16 en) : ∃ r, f_P_findCause_128 (q, lv, en, fm, sp, lo, hi, ov, va, qu, se, tg, ir, ou, (ct, ch, gv), (tt, la)) = some r ∧ f_T_cause_149 (tk, du, se, he, lv, en, fm, ct, sp, lo, hi, ov, va, q, gv, ch, tt, hd, ak, ug, ls, ro, sz, ft, la) = some r := by
  obtain ⟨i1, i2, i3, i4⟩ := ir
  obtain ⟨o1, o2, o3, o4⟩ := ou
  simp only [f_P_findCause_128, f_P_findCause_150, f_T_cause_149, f_T_cause_172, f_T_cause_173, t_isOn, Option.bind_some, (on_en h).2.2.2]
  by_cases c1 : (en &&& 8) = 0
  · exact ⟨1, by rw [if_pos c1], by rw [if_pos c1]⟩
  · by_cases c2 : ch = 0
    · exact ⟨1, by rw [if_neg c1, if_pos c2], by rw [if_neg c1, if_pos c2]⟩
    · exact ⟨0, by rw [if_neg c1, if_neg c2], by rw [if_neg c1, if_neg c2]⟩
theorem ca110 {tk du se he lv en fm ct sp lo hi ov va q gv ch tt hd ak ug ls : Int32} {ro sz ft la : Nat → Int32} {qu tg : Int32} {ir ou : RgT} (h : By 16 en) : ∃ r, f_P_findCause_110 (q, lv, en, fm, sp, lo, hi, ov, va, qu, se, tg, ir, ou, (ct, ch, gv), (tt, la)) = some r ∧ f_T_cause_126 (tk, du, se, he, lv, en, fm, ct, sp, lo, hi, ov, va, q, gv, ch, tt, hd, ak, ug, ls, ro, sz, ft, la) = some r := by
  obtain ⟨r, h1, h2⟩ := ca128 (tk := tk) (du := du) (se := se) (he := he) (lv := lv) (en := en) (fm := fm) (ct := ct) (sp := sp) (lo := lo) (hi := hi) (ov := ov) (va := va) (q := q) (gv := gv) (ch := ch) (tt := tt) (hd := hd) (ak := ak) (ug := ug) (ls := ls) (ro := ro) (sz := sz) (ft := ft) (la := la) (qu := qu) (tg := tg) (ir := ir) (ou := ou) h
  obtain ⟨i1, i2, i3, i4⟩ := ir
  obtain ⟨o1, o2, o3, o4⟩ := ou
  simp only [f_P_findCause_110, f_T_cause_126, f_T_cause_173, t_isOn, Option.bind_some, (on_en h).2.1, h1, h2]
  by_cases c1 : (en &&& 2) = 0
  · exact ⟨r, by rw [if_pos c1], by rw [if_pos c1]⟩
  · by_cases c2 : va = 0
    · exact ⟨r, by rw [if_neg c1, if_pos c2], by rw [if_neg c1, if_pos c2]⟩
    · exact ⟨2, by rw [if_neg c1, if_neg c2], by rw [if_neg c1, if_neg c2]⟩
theorem QT.sub {n T : Nat} {he qu tk : Int32} (h : QT n T he qu) (hn : 0 < n) (e : tk = nI T) : tk - he = qu := by
  obtain ⟨h0, h1, h2, h3⟩ := h hn
  rw [e, h2, h3, pk_sub h1]
theorem nz {n : Nat} (h : n < 32) : (nI n ≤ 0) = (n = 0) := by
  apply propext
  constructor
  · intro z
    rcases Nat.eq_zero_or_pos n with e | e
    · exact e
    · exact absurd z (nI_nle e (by omega))
  · intro z
    subst z
    decide
theorem nz' {n : Nat} (h : n < 32) : (nI n = 0) = (n = 0) := by
  apply propext
  constructor
  · intro z
    rcases Nat.eq_zero_or_pos n with e | e
    · exact e
    · exact absurd z (nI_ne0 e (by omega))
  · intro z
    subst z
    decide
theorem ca68 {tk du se he lv en fm ct sp lo hi ov va q gv ch tt hd ak ug ls : Int32} {ro sz ft la : Nat → Int32} {qu tg : Int32} {ir ou : RgT} {ni T : Nat} {x1 : Int32} (h : By 16 en) (hi3 : ir.2.2.1 = nI ni) (hl : ni < 32) (hx : x1 = (if ni = 0 then 0 else 1)) (hb1 : By 256 lo) (hb2 : By 256 hi) (ht : tk = nI T) (hq : QT ni T he qu) : ∃ r, f_P_findCause_68 (q, lv, en, fm, sp, lo, hi, ov, va, qu, se, tg, ir, ou, (ct, ch, gv), (tt, la)) = some r ∧ f_T_cause_90 (tk, du, se, he, lv, en, fm, ct, sp, lo, hi, ov, va, q, gv, ch, tt, hd, ak, ug, ls, ro, sz, ft, la) x1 (onI en 0) = some r := by
  obtain ⟨a, ha, ea⟩ := hb1
  obtain ⟨b, hb, eb⟩ := hb2
  obtain ⟨r, h1, h2⟩ := ca110 (tk := tk) (du := du) (se := se) (he := he) (lv := lv) (en := en) (fm := fm) (ct := ct) (sp := sp) (lo := lo) (hi := hi) (ov := ov) (va := va) (q := q) (gv := gv) (ch := ch) (tt := tt) (hd := hd) (ak := ak) (ug := ug) (ls := ls) (ro := ro) (sz := sz) (ft := ft) (la := la) (qu := qu) (tg := tg) (ir := ir) (ou := ou) h
  have hsp := p_span (q := q) (lv := lv) (en := en) (fm := fm) (sp := sp) (lo := lo) (hi := hi) (ov := ov) (va := va) (qu := qu) (se := se) (tg := tg) (ir := ir) (ou := ou) (ct := ct) (ch := ch) (gv := gv) (tt := tt) (la := la) ha hb ea eb
  obtain ⟨i1, i2, i3, i4⟩ := ir
  obtain ⟨o1, o2, o3, o4⟩ := ou
  dsimp only at hi3
  subst hi3
  simp only [f_P_findCause_68, f_T_cause_90, Option.bind_some, (on_en h).1, h1, h2, hsp, t_span ha hb ea eb, nz hl]
  by_cases c1 : (en &&& 1) = 0
  · exact ⟨r, by rw [if_pos c1], by rw [if_pos c1]⟩
  · by_cases c2 : q = 0
    · exact ⟨r, by rw [if_neg c1, if_pos c2], by rw [if_neg c1, if_pos c2]⟩
    · by_cases c3 : ni = 0
      · exact ⟨r, by rw [if_neg c1, if_neg c2, if_pos c3], by rw [if_neg c1, if_neg c2, hx, if_pos c3, if_pos rfl]⟩
      · have e := hq.sub (Nat.pos_of_ne_zero c3) ht
        rw [e]
        by_cases c4 : qu < 4 * nI (spN a b)
        · exact ⟨r, by rw [if_neg c1, if_neg c2, if_neg c3, if_pos c4], by rw [if_neg c1, if_neg c2, hx, if_neg c3, if_neg (by decide), if_pos c4]⟩
        · exact ⟨12, by rw [if_neg c1, if_neg c2, if_neg c3, if_neg c4], by rw [if_neg c1, if_neg c2, hx, if_neg c3, if_neg (by decide), if_neg c4]⟩
theorem ca32 {tk du se he lv en fm ct sp lo hi ov va q gv ch tt hd ak ug ls : Int32} {ro sz ft la : Nat → Int32} {qu tg : Int32} {ir ou : RgT} {ni T : Nat} {x1 : Int32} (h : By 16 en) (hi3 : ir.2.2.1 = nI ni) (hs : sz 2 = nI ni) (hl : ni < 32) (hx : x1 = (if ni = 0 then 0 else 1)) (hb1 : By 256 lo) (hb2 : By 256 hi) (ht : tk = nI T) (hq : QT ni T he qu) : ∃ r, f_P_findCause_32 (q, lv, en, fm, sp, lo, hi, ov, va, qu, se, tg, ir, ou, (ct, ch, gv), (tt, la)) = some r ∧ f_T_cause_60 (tk, du, se, he, lv, en, fm, ct, sp, lo, hi, ov, va, q, gv, ch, tt, hd, ak, ug, ls, ro, sz, ft, la) x1 (onI en 0) = some r := by
  obtain ⟨r, h1, h2⟩ := ca68 (tk := tk) (du := du) (se := se) (he := he) (lv := lv) (en := en) (fm := fm) (ct := ct) (sp := sp) (lo := lo) (hi := hi) (ov := ov) (va := va) (q := q) (gv := gv) (ch := ch) (tt := tt) (hd := hd) (ak := ak) (ug := ug) (ls := ls) (ro := ro) (sz := sz) (ft := ft) (la := la) (qu := qu) (tg := tg) (ir := ir) (ou := ou) h hi3 hl hx hb1 hb2 ht hq
  obtain ⟨i1, i2, i3, i4⟩ := ir
  obtain ⟨o1, o2, o3, o4⟩ := ou
  dsimp only at hi3
  subst hi3
  simp only [f_P_findCause_32, f_P_findCause_63, f_T_cause_60, f_T_cause_85, (on_en h).1, h1, h2, cl2, hs, g24]
  by_cases c1 : (en &&& 1) = 0
  · exact ⟨r, by rw [if_pos c1], by rw [if_pos c1]⟩
  · by_cases c2 : q = 0
    · by_cases c3 : nI ni < 1
      · exact ⟨r, by rw [if_neg c1, if_pos c2, if_pos c3], by rw [if_neg c1, if_pos c2, if_pos c3]⟩
      · exact ⟨4, by rw [if_neg c1, if_pos c2, if_neg c3], by rw [if_neg c1, if_pos c2, if_neg c3]⟩
    · by_cases c3 : nI ni < lv
      · exact ⟨r, by rw [if_neg c1, if_neg c2, if_pos c3], by rw [if_neg c1, if_neg c2, if_pos c3]⟩
      · exact ⟨4, by rw [if_neg c1, if_neg c2, if_neg c3], by rw [if_neg c1, if_neg c2, if_neg c3]⟩
theorem hi_all : ∀ x, x < 2048 → ((nI x ≤ 255) ↔ (nI x >>> ((8 : Int32) &&& 31) = 0)) := by decide +kernel
theorem hi_iff {x : Int32} (h : By 2048 x) : (x ≤ 255) = (x >>> ((8 : Int32) &&& 31) = 0) := by
  obtain ⟨k, hk, rfl⟩ := h
  exact propext (hi_all k hk)
theorem ca {tk du se he lv en fm ct sp lo hi ov va q gv ch tt hd ak ug ls : Int32} {ro sz ft la : Nat → Int32} {qu tg : Int32} {ir ou : RgT} {ni T : Nat} (h : By 16 en) (hQ : QI (Lm q) ni ir ro sz ft) (hb1 : By 256 lo) (hb2 : By 256 hi) (ht : tk = nI T) (hq : QT ni T he qu) : ∃ r, f_P_findCause (q, lv, en, fm, sp, lo, hi, ov, va, qu, se, tg, ir, ou, (ct, ch, gv), (tt, la)) = some r ∧ f_T_cause (tk, du, se, he, lv, en, fm, ct, sp, lo, hi, ov, va, q, gv, ch, tt, hd, ak, ug, ls, ro, sz, ft, la) = some r := by
  obtain ⟨q0, hR, hs, hE⟩ := hQ
  have hle := hR.le
  obtain ⟨r, h1, h2⟩ := ca32 (tk := tk) (du := du) (se := se) (he := he) (lv := lv) (en := en) (fm := fm) (ct := ct) (sp := sp) (lo := lo) (hi := hi) (ov := ov) (va := va) (q := q) (gv := gv) (ch := ch) (tt := tt) (hd := hd) (ak := ak) (ug := ug) (ls := ls) (ro := ro) (sz := sz) (ft := ft) (la := la) (qu := qu) (tg := tg) (ir := ir) (ou := ou) h hR.size hs (by omega) rfl hb1 hb2 ht hq
  have ho := rg_oldest hR
  obtain ⟨i1, i2, i3, i4⟩ := ir
  obtain ⟨o1, o2, o3, o4⟩ := ou
  simp only [f_P_findCause, f_P_findCause_29, f_T_cause, f_T_cause_14, f_T_cause_57, t_isOn, Option.bind_some, (on_en h).2.2.1, cl2, cl0, hs, g24, g016, ho, h1, nz (show ni < 32 by omega)]
  by_cases c0 : ni = 0
  · rw [if_pos c0] at h2
    simp only [if_pos c0, h2]
    by_cases c1 : (en &&& 4) = 0
    · exact ⟨r, by rw [if_pos c1], by rw [if_pos c1]⟩
    · by_cases c2 : ov = 0
      · exact ⟨r, by rw [if_neg c1, if_pos c2, if_pos (by decide)], by rw [if_neg c1, if_pos c2, if_pos trivial]⟩
      · exact ⟨6, by rw [if_neg c1, if_neg c2], by rw [if_neg c1, if_neg c2]⟩
  · rw [if_neg c0] at h2
    have hE0 := hE 0 (Nat.pos_of_ne_zero c0)
    simp only [if_neg c0, h2, hE0.2.2, hi_iff hE0.1]
    by_cases c1 : (en &&& 4) = 0
    · exact ⟨r, by rw [if_pos c1], by rw [if_pos c1]⟩
    · by_cases c2 : ov = 0
      · by_cases c3 : q0 0 >>> ((8 : Int32) &&& 31) = 0
        · exact ⟨r, by rw [if_neg c1, if_pos c2, if_pos c3], by rw [if_neg c1, if_pos c2, if_neg (by decide), if_pos c3]⟩
        · exact ⟨6, by rw [if_neg c1, if_pos c2, if_neg c3], by rw [if_neg c1, if_pos c2, if_neg (by decide), if_neg c3]⟩
      · exact ⟨6, by rw [if_neg c1, if_neg c2], by rw [if_neg c1, if_neg c2]⟩
