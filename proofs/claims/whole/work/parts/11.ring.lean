def f_R_isFull_16 : RgT → Int32 → Option (Int32)
  | (v_limit, v_first, v_size, v_places), s_1 => gb_ s_1 (some s_1)
def f_R_isFull : RgT → Option (Int32)
  | (v_limit, v_first, v_size, v_places) => if v_size < v_limit then (f_R_isFull_16 (v_limit, v_first, v_size, v_places) 0) else (f_R_isFull_16 (v_limit, v_first, v_size, v_places) 1)
set_option maxHeartbeats 8000000 in
set_option maxRecDepth 100000 in
theorem c_R_isFull (l : Launch) (dC : Nat → ClassId) (dI : Nat → Nat → Nat) (cA : ClassId) (t : Nat) (a0 a_places : Nat) (sz : Nat) (u : RgT) (q : Int32) (hf : f_R_isFull u = some q) : Met l y_R_isFull (Cond.code y_R_isFull b_R_isFull 1 (some .boolean) :: W0) ({ frames := 0, cells := 0, slots := 0, locals := 0 }) (va_Pc [.ref a0] (pc_ (dC, dI) [(cA, .int)] t sz (cw_R cA a0 a_places u))) (qr_ (dC, dI) (cw_R cA a0 a_places u) q (va_A (cw_R cA a0 a_places u) sz)) 0 0 (va_A (cw_R cA a0 a_places u) sz) := by
  obtain ⟨v_limit, v_first, v_size, v_places⟩ := u
  refine start_ l (qr_ (dC, dI) _ q) (by decide) (Nat.le_of_ble_eq_true rfl) ?_
  intro p e s m below meth c hx hb hml hr hown ht hlocks hnm A hA hS hP hK hD hZ ls hl
  have hown : s.vm.findClass cls_R = some m.cls := hown
  refine wabs_ (fun WW wi wo => ?_)
  have k_16 : ∀ (s_1 : Int32), f_R_isFull_16 (v_limit, v_first, v_size, v_places) s_1 = some q → ∀ (H : Heap) (locs : List Loc) (ls : Array Slot), va_P (dC, dI) cls [(a0, .inr (3, [.ref a_places, .int v_limit, .int v_first, .int v_size])), (a_places, .inl (cA, 32, .inl v_places))] H → va_D A [(a0, .inr (3, [.ref a_places, .int v_limit, .int v_first, .int v_size])), (a_places, .inl (cA, 32, .inl v_places))] → va_S A s.heap H locs → lv_has ls 1 [] → WW H locs (F0 m 16 ls [.int s_1]) := by
    intro s_1 hf H locs ls hP hD hS hl
    unfold f_R_isFull_16 at hf
    try dsimp only at hf
    have hP : va_P (dC, dI) cls [(a0, .inr (3, [.ref a_places, .int v_limit, .int v_first, .int v_size])), (a_places, .inl (cA, 32, .inl v_places))] _ := hP
    have hD : va_D A [(a0, .inr (3, [.ref a_places, .int v_limit, .int v_first, .int v_size])), (a_places, .inl (cA, 32, .inl v_places))] := hD
    refine wi _ _ _ ?_
    obtain ⟨hb_16, hf⟩ := gb_e hf
    exact W.zret hx hb hr hb_16.1 (fun t9 ht9 _ => rr_ (Option.some.inj hf) hP hD hS ht9) hS.2.2 d_R_isFull_16
  unfold f_R_isFull at hf
  try dsimp only at hf
  have hP : va_P (dC, dI) cls [(a0, .inr (3, [.ref a_places, .int v_limit, .int v_first, .int v_size])), (a_places, .inl (cA, 32, .inl v_places))] _ := hP
  have hD : va_D A [(a0, .inr (3, [.ref a_places, .int v_limit, .int v_first, .int v_size])), (a_places, .inl (cA, 32, .inl v_places))] := hD
  refine wi _ _ _ ?_
  have hl : lv_has ls 1 [(0, .ref a0)] := hl
  refine lv_aload_n hx hb d_R_isFull_0 rfl (lv_at hl 0 rfl) ?_
  refine va_get (D := (dC, dI)) (ci := 3) (v := .int v_size) (C := cls_R) (T := fld_R) (N := 4) hx hb ht iin_R hown hK hP 0 rfl rfl 3 (by decide) (ht _ k_R_17) (fun _ h9 => h9) rfl d_R_isFull_1 ?_
  refine lv_aload_n hx hb d_R_isFull_4 rfl (lv_at hl 0 rfl) ?_
  refine va_get (D := (dC, dI)) (ci := 3) (v := .int v_limit) (C := cls_R) (T := fld_R) (N := 4) hx hb ht iin_R hown hK hP 0 rfl rfl 1 (by decide) (ht _ k_R_13) (fun _ h9 => h9) rfl d_R_isFull_5 ?_
  refine lv_icmp_lt (tgt := 15) hx hb d_R_isFull_8 (by decide) (fun c_8 => ?_) (fun c_8 => ?_)
  · have hf := ite_t hf c_8
    refine lv_iconst (v := 0) hx hb d_R_isFull_15 (by decide) ?_
    exact wo _ _ _ (k_16 0 hf _ _ _ hP hD hS (lv_sub hl [] rfl))
  · have hf := ite_f hf c_8
    refine lv_iconst (v := 1) hx hb d_R_isFull_11 (by decide) ?_
    refine lv_goto (tgt := 16) hx hb d_R_isFull_12 (by decide) ?_
    exact wo _ _ _ (k_16 1 hf _ _ _ hP hD hS (lv_sub hl [] rfl))
def f_R_clear : RgT → Option (RgT)
  | (v_limit, v_first, v_size, v_places) => some (v_limit, v_first, 0, v_places)
set_option maxHeartbeats 8000000 in
set_option maxRecDepth 100000 in
theorem c_R_clear (l : Launch) (dC : Nat → ClassId) (dI : Nat → Nat → Nat) (cA : ClassId) (t : Nat) (a0 a_places : Nat) (sz : Nat) (u : RgT) (q : RgT) (hf : f_R_clear u = some q) : Met l y_R_clear (Cond.code y_R_clear b_R_clear 1 none :: W0) ({ frames := 0, cells := 0, slots := 0, locals := 0 }) (va_Pc [.ref a0] (pc_ (dC, dI) [(cA, .int)] t sz (cw_R cA a0 a_places u))) (qv_ (dC, dI) (cw_R cA a0 a_places) q (va_A (cw_R cA a0 a_places u) sz)) 0 0 (va_A (cw_R cA a0 a_places u) sz) := by
  refine start_ l (qv_ (dC, dI) (cw_R cA a0 a_places) q) (by decide) (Nat.le_of_ble_eq_true rfl) ?_
  intro p e s m below meth c hx hb hml hr hown ht hlocks hnm A hA hS hP hK hD hZ ls hl
  have hown : s.vm.findClass cls_R = some m.cls := hown
  refine wabs_ (fun WW wi wo => ?_)
  obtain ⟨v_limit, v_first, v_size, v_places⟩ := u
  unfold f_R_clear at hf
  try dsimp only at hf
  have hP : va_P (dC, dI) cls [(a0, .inr (3, [.ref a_places, .int v_limit, .int v_first, .int v_size])), (a_places, .inl (cA, 32, .inl v_places))] _ := hP
  have hD : va_D A [(a0, .inr (3, [.ref a_places, .int v_limit, .int v_first, .int v_size])), (a_places, .inl (cA, 32, .inl v_places))] := hD
  refine wi _ _ _ ?_
  have hl : lv_has ls 1 [(0, .ref a0)] := hl
  refine lv_aload_n hx hb d_R_clear_0 rfl (lv_at hl 0 rfl) ?_
  refine lv_iconst (v := 0) hx hb d_R_clear_1 (by decide) ?_
  refine va_put (D := (dC, dI)) (ci := 3) (v := .int 0) (ty := .int) (C := cls_R) (T := fld_R) (N := 4) hx hb ht iin_R typ_R tok_R nam_R hown hK hP hD hS 0 rfl rfl 3 (by decide) (ht _ k_R_17) (fun _ h9 => h9) rfl (tok_R 3 (by decide)) rfl rfl (Nat.le_of_ble_eq_true rfl) d_R_clear_2 (fun H locs hP hD hS => ?_)
  have hP : va_P (dC, dI) cls [(a0, .inr (3, [.ref a_places, .int v_limit, .int v_first, .int 0])), (a_places, .inl (cA, 32, .inl v_places))] _ := hP
  have hD : va_D A [(a0, .inr (3, [.ref a_places, .int v_limit, .int v_first, .int 0])), (a_places, .inl (cA, 32, .inl v_places))] := hD
  exact W.vret hx hb hr (fun t9 ht9 _ => rv_ (Option.some.inj hf) hP hD hS ht9) hS.2.2 d_R_clear_5
def f_R_append_39 : RgT → Option (RgT)
  | (v_limit, v_first, v_size, v_places) => some (v_limit, v_first, v_size, v_places)
def f_R_append : RgT → Int32 → Option (RgT)
  | (v_limit, v_first, v_size, v_places), p_1 => if v_limit ≤ v_size then (f_R_append_39 (v_limit, v_first, v_size, v_places)) else (gi_ ((v_first + v_size) &&& 31) 32 (f_R_append_39 (v_limit, v_first, (v_size + 1), (upd v_places ((v_first + v_size) &&& 31).toNatClampNeg p_1))))
set_option maxHeartbeats 8000000 in
set_option maxRecDepth 100000 in
theorem c_R_append (l : Launch) (dC : Nat → ClassId) (dI : Nat → Nat → Nat) (cA : ClassId) (t : Nat) (a0 a_places : Nat) (sz : Nat) (u : RgT) (p_1 : Int32) (q : RgT) (hf : f_R_append u p_1 = some q) : Met l y_R_append (Cond.code y_R_append b_R_append 2 none :: W0) ({ frames := 0, cells := 0, slots := 0, locals := 0 }) (va_Pc [.ref a0, .int p_1] (pc_ (dC, dI) [(cA, .int)] t sz (cw_R cA a0 a_places u))) (qv_ (dC, dI) (cw_R cA a0 a_places) q (va_A (cw_R cA a0 a_places u) sz)) 0 0 (va_A (cw_R cA a0 a_places u) sz) := by
  refine start_ l (qv_ (dC, dI) (cw_R cA a0 a_places) q) (by decide) (Nat.le_of_ble_eq_true rfl) ?_
  intro p e s m below meth c hx hb hml hr hown ht hlocks hnm A hA hS hP hK hD hZ ls hl
  have hown : s.vm.findClass cls_R = some m.cls := hown
  refine wabs_ (fun WW wi wo => ?_)
  have k_39 : ∀ (u : RgT), f_R_append_39 u = some q → ∀ (H : Heap) (locs : List Loc) (ls : Array Slot), va_P (dC, dI) cls (cw_R cA a0 a_places u) H → va_D A (cw_R cA a0 a_places u) → va_S A s.heap H locs → lv_has ls 2 [] → WW H locs (F0 m 39 ls []) := by
    intro u hf H locs ls hP hD hS hl
    obtain ⟨v_limit, v_first, v_size, v_places⟩ := u
    unfold f_R_append_39 at hf
    try dsimp only at hf
    have hP : va_P (dC, dI) cls [(a0, .inr (3, [.ref a_places, .int v_limit, .int v_first, .int v_size])), (a_places, .inl (cA, 32, .inl v_places))] _ := hP
    have hD : va_D A [(a0, .inr (3, [.ref a_places, .int v_limit, .int v_first, .int v_size])), (a_places, .inl (cA, 32, .inl v_places))] := hD
    refine wi _ _ _ ?_
    exact W.vret hx hb hr (fun t9 ht9 _ => rv_ (Option.some.inj hf) hP hD hS ht9) hS.2.2 d_R_append_39
  obtain ⟨v_limit, v_first, v_size, v_places⟩ := u
  unfold f_R_append at hf
  try dsimp only at hf
  have hP : va_P (dC, dI) cls [(a0, .inr (3, [.ref a_places, .int v_limit, .int v_first, .int v_size])), (a_places, .inl (cA, 32, .inl v_places))] _ := hP
  have hD : va_D A [(a0, .inr (3, [.ref a_places, .int v_limit, .int v_first, .int v_size])), (a_places, .inl (cA, 32, .inl v_places))] := hD
  refine wi _ _ _ ?_
  have hl : lv_has ls 2 [(0, .ref a0), (1, .int p_1)] := hl
  refine lv_aload_n hx hb d_R_append_0 rfl (lv_at hl 0 rfl) ?_
  refine va_get (D := (dC, dI)) (ci := 3) (v := .int v_size) (C := cls_R) (T := fld_R) (N := 4) hx hb ht iin_R hown hK hP 0 rfl rfl 3 (by decide) (ht _ k_R_17) (fun _ h9 => h9) rfl d_R_append_1 ?_
  refine lv_aload_n hx hb d_R_append_4 rfl (lv_at hl 0 rfl) ?_
  refine va_get (D := (dC, dI)) (ci := 3) (v := .int v_limit) (C := cls_R) (T := fld_R) (N := 4) hx hb ht iin_R hown hK hP 0 rfl rfl 1 (by decide) (ht _ k_R_13) (fun _ h9 => h9) rfl d_R_append_5 ?_
  refine lv_icmp_ge (tgt := 39) hx hb d_R_append_8 (by decide) (fun c_8 => ?_) (fun c_8 => ?_)
  · have hf := ite_t hf c_8
    exact wo _ _ _ (k_39 (v_limit, v_first, v_size, v_places) hf _ _ _ hP hD hS (lv_sub hl [] rfl))
  · have hf := ite_f hf c_8
    refine lv_aload_n hx hb d_R_append_11 rfl (lv_at hl 0 rfl) ?_
    refine va_get (D := (dC, dI)) (ci := 3) (v := .ref a_places) (C := cls_R) (T := fld_R) (N := 4) hx hb ht iin_R hown hK hP 0 rfl rfl 0 (by decide) (ht _ k_R_9) (fun _ h9 => h9) rfl d_R_append_12 ?_
    refine lv_aload_n hx hb d_R_append_15 rfl (lv_at hl 0 rfl) ?_
    refine va_get (D := (dC, dI)) (ci := 3) (v := .int v_first) (C := cls_R) (T := fld_R) (N := 4) hx hb ht iin_R hown hK hP 0 rfl rfl 2 (by decide) (ht _ k_R_20) (fun _ h9 => h9) rfl d_R_append_16 ?_
    refine lv_aload_n hx hb d_R_append_19 rfl (lv_at hl 0 rfl) ?_
    refine va_get (D := (dC, dI)) (ci := 3) (v := .int v_size) (C := cls_R) (T := fld_R) (N := 4) hx hb ht iin_R hown hK hP 0 rfl rfl 3 (by decide) (ht _ k_R_17) (fun _ h9 => h9) rfl d_R_append_20 ?_
    refine lv_iadd hx hb d_R_append_23 ?_
    refine lv_bipush (v := 31) hx hb d_R_append_24 (by decide) ?_
    refine lv_iand hx hb d_R_append_26 ?_
    refine lv_iload_n hx hb d_R_append_27 rfl (lv_at hl 1 rfl) ?_
    obtain ⟨hi_28, hf⟩ := gi_e hf
    refine va_iast hx hb hK hP hD hS 1 0 rfl rfl hi_28 d_R_append_28 (fun H locs hP hD hS => ?_)
    have hP : va_P (dC, dI) cls [(a0, .inr (3, [.ref a_places, .int v_limit, .int v_first, .int v_size])), (a_places, .inl (cA, 32, .inl (upd v_places ((v_first + v_size) &&& 31).toNatClampNeg p_1)))] _ := hP
    have hD : va_D A [(a0, .inr (3, [.ref a_places, .int v_limit, .int v_first, .int v_size])), (a_places, .inl (cA, 32, .inl (upd v_places ((v_first + v_size) &&& 31).toNatClampNeg p_1)))] := hD
    refine lv_aload_n hx hb d_R_append_29 rfl (lv_at hl 0 rfl) ?_
    refine lv_dup hx hb d_R_append_30 rfl ?_
    refine va_get (D := (dC, dI)) (ci := 3) (v := .int v_size) (C := cls_R) (T := fld_R) (N := 4) hx hb ht iin_R hown hK hP 0 rfl rfl 3 (by decide) (ht _ k_R_17) (fun _ h9 => h9) rfl d_R_append_31 ?_
    refine lv_iconst (v := 1) hx hb d_R_append_34 (by decide) ?_
    refine lv_iadd hx hb d_R_append_35 ?_
    refine va_put (D := (dC, dI)) (ci := 3) (v := .int (v_size + 1)) (ty := .int) (C := cls_R) (T := fld_R) (N := 4) hx hb ht iin_R typ_R tok_R nam_R hown hK hP hD hS 0 rfl rfl 3 (by decide) (ht _ k_R_17) (fun _ h9 => h9) rfl (tok_R 3 (by decide)) rfl rfl (Nat.le_of_ble_eq_true rfl) d_R_append_36 (fun H locs hP hD hS => ?_)
    have hP : va_P (dC, dI) cls [(a0, .inr (3, [.ref a_places, .int v_limit, .int v_first, .int (v_size + 1)])), (a_places, .inl (cA, 32, .inl (upd v_places ((v_first + v_size) &&& 31).toNatClampNeg p_1)))] _ := hP
    have hD : va_D A [(a0, .inr (3, [.ref a_places, .int v_limit, .int v_first, .int (v_size + 1)])), (a_places, .inl (cA, 32, .inl (upd v_places ((v_first + v_size) &&& 31).toNatClampNeg p_1)))] := hD
    exact wo _ _ _ (k_39 (v_limit, v_first, (v_size + 1), (upd v_places ((v_first + v_size) &&& 31).toNatClampNeg p_1)) hf _ _ _ hP hD hS (lv_sub hl [] rfl))
def f_R_oldest_23 : RgT → Int32 → Option (Int32)
  | (v_limit, v_first, v_size, v_places), s_1 => some s_1
def f_R_oldest : RgT → Option (Int32)
  | (v_limit, v_first, v_size, v_places) => if v_size ≤ 0 then (f_R_oldest_23 (v_limit, v_first, v_size, v_places) 0) else (gi_ (v_first &&& 31) 32 (f_R_oldest_23 (v_limit, v_first, v_size, v_places) (v_places (v_first &&& 31).toNatClampNeg)))
set_option maxHeartbeats 8000000 in
set_option maxRecDepth 100000 in
theorem c_R_oldest (l : Launch) (dC : Nat → ClassId) (dI : Nat → Nat → Nat) (cA : ClassId) (t : Nat) (a0 a_places : Nat) (sz : Nat) (u : RgT) (q : Int32) (hf : f_R_oldest u = some q) : Met l y_R_oldest (Cond.code y_R_oldest b_R_oldest 1 (some .int) :: W0) ({ frames := 0, cells := 0, slots := 0, locals := 0 }) (va_Pc [.ref a0] (pc_ (dC, dI) [(cA, .int)] t sz (cw_R cA a0 a_places u))) (qr_ (dC, dI) (cw_R cA a0 a_places u) q (va_A (cw_R cA a0 a_places u) sz)) 0 0 (va_A (cw_R cA a0 a_places u) sz) := by
  obtain ⟨v_limit, v_first, v_size, v_places⟩ := u
  refine start_ l (qr_ (dC, dI) _ q) (by decide) (Nat.le_of_ble_eq_true rfl) ?_
  intro p e s m below meth c hx hb hml hr hown ht hlocks hnm A hA hS hP hK hD hZ ls hl
  have hown : s.vm.findClass cls_R = some m.cls := hown
  refine wabs_ (fun WW wi wo => ?_)
  have k_23 : ∀ (s_1 : Int32), f_R_oldest_23 (v_limit, v_first, v_size, v_places) s_1 = some q → ∀ (H : Heap) (locs : List Loc) (ls : Array Slot), va_P (dC, dI) cls [(a0, .inr (3, [.ref a_places, .int v_limit, .int v_first, .int v_size])), (a_places, .inl (cA, 32, .inl v_places))] H → va_D A [(a0, .inr (3, [.ref a_places, .int v_limit, .int v_first, .int v_size])), (a_places, .inl (cA, 32, .inl v_places))] → va_S A s.heap H locs → lv_has ls 1 [] → WW H locs (F0 m 23 ls [.int s_1]) := by
    intro s_1 hf H locs ls hP hD hS hl
    unfold f_R_oldest_23 at hf
    try dsimp only at hf
    have hP : va_P (dC, dI) cls [(a0, .inr (3, [.ref a_places, .int v_limit, .int v_first, .int v_size])), (a_places, .inl (cA, 32, .inl v_places))] _ := hP
    have hD : va_D A [(a0, .inr (3, [.ref a_places, .int v_limit, .int v_first, .int v_size])), (a_places, .inl (cA, 32, .inl v_places))] := hD
    refine wi _ _ _ ?_
    exact W.iret hx hb hr (fun t9 ht9 _ => rr_ (Option.some.inj hf) hP hD hS ht9) hS.2.2 d_R_oldest_23
  unfold f_R_oldest at hf
  try dsimp only at hf
  have hP : va_P (dC, dI) cls [(a0, .inr (3, [.ref a_places, .int v_limit, .int v_first, .int v_size])), (a_places, .inl (cA, 32, .inl v_places))] _ := hP
  have hD : va_D A [(a0, .inr (3, [.ref a_places, .int v_limit, .int v_first, .int v_size])), (a_places, .inl (cA, 32, .inl v_places))] := hD
  refine wi _ _ _ ?_
  have hl : lv_has ls 1 [(0, .ref a0)] := hl
  refine lv_aload_n hx hb d_R_oldest_0 rfl (lv_at hl 0 rfl) ?_
  refine va_get (D := (dC, dI)) (ci := 3) (v := .int v_size) (C := cls_R) (T := fld_R) (N := 4) hx hb ht iin_R hown hK hP 0 rfl rfl 3 (by decide) (ht _ k_R_17) (fun _ h9 => h9) rfl d_R_oldest_1 ?_
  refine lv_if_le (tgt := 22) hx hb d_R_oldest_4 (by decide) (fun c_4 => ?_) (fun c_4 => ?_)
  · have hf := ite_t hf c_4
    refine lv_iconst (v := 0) hx hb d_R_oldest_22 (by decide) ?_
    exact wo _ _ _ (k_23 0 hf _ _ _ hP hD hS (lv_sub hl [] rfl))
  · have hf := ite_f hf c_4
    refine lv_aload_n hx hb d_R_oldest_7 rfl (lv_at hl 0 rfl) ?_
    refine va_get (D := (dC, dI)) (ci := 3) (v := .ref a_places) (C := cls_R) (T := fld_R) (N := 4) hx hb ht iin_R hown hK hP 0 rfl rfl 0 (by decide) (ht _ k_R_9) (fun _ h9 => h9) rfl d_R_oldest_8 ?_
    refine lv_aload_n hx hb d_R_oldest_11 rfl (lv_at hl 0 rfl) ?_
    refine va_get (D := (dC, dI)) (ci := 3) (v := .int v_first) (C := cls_R) (T := fld_R) (N := 4) hx hb ht iin_R hown hK hP 0 rfl rfl 2 (by decide) (ht _ k_R_20) (fun _ h9 => h9) rfl d_R_oldest_12 ?_
    refine lv_bipush (v := 31) hx hb d_R_oldest_15 (by decide) ?_
    refine lv_iand hx hb d_R_oldest_17 ?_
    obtain ⟨hi_18, hf⟩ := gi_e hf
    refine va_iald hx hb hK hP 1 0 rfl rfl hi_18 d_R_oldest_18 ?_
    refine lv_goto (tgt := 23) hx hb d_R_oldest_19 (by decide) ?_
    exact wo _ _ _ (k_23 (v_places (v_first &&& 31).toNatClampNeg) hf _ _ _ hP hD hS (lv_sub hl [] rfl))
def f_R_replaceOldest_20 : RgT → Option (RgT)
  | (v_limit, v_first, v_size, v_places) => some (v_limit, v_first, v_size, v_places)
def f_R_replaceOldest : RgT → Int32 → Option (RgT)
  | (v_limit, v_first, v_size, v_places), p_1 => if v_size ≤ 0 then (f_R_replaceOldest_20 (v_limit, v_first, v_size, v_places)) else (gi_ (v_first &&& 31) 32 (f_R_replaceOldest_20 (v_limit, v_first, v_size, (upd v_places (v_first &&& 31).toNatClampNeg p_1))))
set_option maxHeartbeats 8000000 in
set_option maxRecDepth 100000 in
theorem c_R_replaceOldest (l : Launch) (dC : Nat → ClassId) (dI : Nat → Nat → Nat) (cA : ClassId) (t : Nat) (a0 a_places : Nat) (sz : Nat) (u : RgT) (p_1 : Int32) (q : RgT) (hf : f_R_replaceOldest u p_1 = some q) : Met l y_R_replaceOldest (Cond.code y_R_replaceOldest b_R_replaceOldest 2 none :: W0) ({ frames := 0, cells := 0, slots := 0, locals := 0 }) (va_Pc [.ref a0, .int p_1] (pc_ (dC, dI) [(cA, .int)] t sz (cw_R cA a0 a_places u))) (qv_ (dC, dI) (cw_R cA a0 a_places) q (va_A (cw_R cA a0 a_places u) sz)) 0 0 (va_A (cw_R cA a0 a_places u) sz) := by
  refine start_ l (qv_ (dC, dI) (cw_R cA a0 a_places) q) (by decide) (Nat.le_of_ble_eq_true rfl) ?_
  intro p e s m below meth c hx hb hml hr hown ht hlocks hnm A hA hS hP hK hD hZ ls hl
  have hown : s.vm.findClass cls_R = some m.cls := hown
  refine wabs_ (fun WW wi wo => ?_)
  have k_20 : ∀ (u : RgT), f_R_replaceOldest_20 u = some q → ∀ (H : Heap) (locs : List Loc) (ls : Array Slot), va_P (dC, dI) cls (cw_R cA a0 a_places u) H → va_D A (cw_R cA a0 a_places u) → va_S A s.heap H locs → lv_has ls 2 [] → WW H locs (F0 m 20 ls []) := by
    intro u hf H locs ls hP hD hS hl
    obtain ⟨v_limit, v_first, v_size, v_places⟩ := u
    unfold f_R_replaceOldest_20 at hf
    try dsimp only at hf
    have hP : va_P (dC, dI) cls [(a0, .inr (3, [.ref a_places, .int v_limit, .int v_first, .int v_size])), (a_places, .inl (cA, 32, .inl v_places))] _ := hP
    have hD : va_D A [(a0, .inr (3, [.ref a_places, .int v_limit, .int v_first, .int v_size])), (a_places, .inl (cA, 32, .inl v_places))] := hD
    refine wi _ _ _ ?_
    exact W.vret hx hb hr (fun t9 ht9 _ => rv_ (Option.some.inj hf) hP hD hS ht9) hS.2.2 d_R_replaceOldest_20
  obtain ⟨v_limit, v_first, v_size, v_places⟩ := u
  unfold f_R_replaceOldest at hf
  try dsimp only at hf
  have hP : va_P (dC, dI) cls [(a0, .inr (3, [.ref a_places, .int v_limit, .int v_first, .int v_size])), (a_places, .inl (cA, 32, .inl v_places))] _ := hP
  have hD : va_D A [(a0, .inr (3, [.ref a_places, .int v_limit, .int v_first, .int v_size])), (a_places, .inl (cA, 32, .inl v_places))] := hD
  refine wi _ _ _ ?_
  have hl : lv_has ls 2 [(0, .ref a0), (1, .int p_1)] := hl
  refine lv_aload_n hx hb d_R_replaceOldest_0 rfl (lv_at hl 0 rfl) ?_
  refine va_get (D := (dC, dI)) (ci := 3) (v := .int v_size) (C := cls_R) (T := fld_R) (N := 4) hx hb ht iin_R hown hK hP 0 rfl rfl 3 (by decide) (ht _ k_R_17) (fun _ h9 => h9) rfl d_R_replaceOldest_1 ?_
  refine lv_if_le (tgt := 20) hx hb d_R_replaceOldest_4 (by decide) (fun c_4 => ?_) (fun c_4 => ?_)
  · have hf := ite_t hf c_4
    exact wo _ _ _ (k_20 (v_limit, v_first, v_size, v_places) hf _ _ _ hP hD hS (lv_sub hl [] rfl))
  · have hf := ite_f hf c_4
    refine lv_aload_n hx hb d_R_replaceOldest_7 rfl (lv_at hl 0 rfl) ?_
    refine va_get (D := (dC, dI)) (ci := 3) (v := .ref a_places) (C := cls_R) (T := fld_R) (N := 4) hx hb ht iin_R hown hK hP 0 rfl rfl 0 (by decide) (ht _ k_R_9) (fun _ h9 => h9) rfl d_R_replaceOldest_8 ?_
    refine lv_aload_n hx hb d_R_replaceOldest_11 rfl (lv_at hl 0 rfl) ?_
    refine va_get (D := (dC, dI)) (ci := 3) (v := .int v_first) (C := cls_R) (T := fld_R) (N := 4) hx hb ht iin_R hown hK hP 0 rfl rfl 2 (by decide) (ht _ k_R_20) (fun _ h9 => h9) rfl d_R_replaceOldest_12 ?_
    refine lv_bipush (v := 31) hx hb d_R_replaceOldest_15 (by decide) ?_
    refine lv_iand hx hb d_R_replaceOldest_17 ?_
    refine lv_iload_n hx hb d_R_replaceOldest_18 rfl (lv_at hl 1 rfl) ?_
    obtain ⟨hi_19, hf⟩ := gi_e hf
    refine va_iast hx hb hK hP hD hS 1 0 rfl rfl hi_19 d_R_replaceOldest_19 (fun H locs hP hD hS => ?_)
    have hP : va_P (dC, dI) cls [(a0, .inr (3, [.ref a_places, .int v_limit, .int v_first, .int v_size])), (a_places, .inl (cA, 32, .inl (upd v_places (v_first &&& 31).toNatClampNeg p_1)))] _ := hP
    have hD : va_D A [(a0, .inr (3, [.ref a_places, .int v_limit, .int v_first, .int v_size])), (a_places, .inl (cA, 32, .inl (upd v_places (v_first &&& 31).toNatClampNeg p_1)))] := hD
    exact wo _ _ _ (k_20 (v_limit, v_first, v_size, (upd v_places (v_first &&& 31).toNatClampNeg p_1)) hf _ _ _ hP hD hS (lv_sub hl [] rfl))
def f_R_removeOldest : RgT → Option (Int32 × RgT)
  | (v_limit, v_first, v_size, v_places) => if v_size = 0 then (some (0, (v_limit, v_first, v_size, v_places))) else (gi_ (v_first &&& 31) 32 (some ((v_places (v_first &&& 31).toNatClampNeg), (v_limit, ((v_first + 1) &&& 31), (v_size - 1), v_places))))
set_option maxHeartbeats 8000000 in
set_option maxRecDepth 100000 in
theorem c_R_removeOldest (l : Launch) (dC : Nat → ClassId) (dI : Nat → Nat → Nat) (cA : ClassId) (t : Nat) (a0 a_places : Nat) (sz : Nat) (u : RgT) (q : Int32 × RgT) (hf : f_R_removeOldest u = some q) : Met l y_R_removeOldest (Cond.code y_R_removeOldest b_R_removeOldest 2 (some .int) :: W0) ({ frames := 0, cells := 0, slots := 0, locals := 0 }) (va_Pc [.ref a0] (pc_ (dC, dI) [(cA, .int)] t sz (cw_R cA a0 a_places u))) (qi_ (dC, dI) (cw_R cA a0 a_places) q (va_A (cw_R cA a0 a_places u) sz)) 0 0 (va_A (cw_R cA a0 a_places u) sz) := by
  refine start_ l (qi_ (dC, dI) (cw_R cA a0 a_places) q) (by decide) (Nat.le_of_ble_eq_true rfl) ?_
  intro p e s m below meth c hx hb hml hr hown ht hlocks hnm A hA hS hP hK hD hZ ls hl
  have hown : s.vm.findClass cls_R = some m.cls := hown
  refine wabs_ (fun WW wi wo => ?_)
  obtain ⟨v_limit, v_first, v_size, v_places⟩ := u
  unfold f_R_removeOldest at hf
  try dsimp only at hf
  have hP : va_P (dC, dI) cls [(a0, .inr (3, [.ref a_places, .int v_limit, .int v_first, .int v_size])), (a_places, .inl (cA, 32, .inl v_places))] _ := hP
  have hD : va_D A [(a0, .inr (3, [.ref a_places, .int v_limit, .int v_first, .int v_size])), (a_places, .inl (cA, 32, .inl v_places))] := hD
  refine wi _ _ _ ?_
  have hl : lv_has ls 2 [(0, .ref a0)] := hl
  refine lv_aload_n hx hb d_R_removeOldest_0 rfl (lv_at hl 0 rfl) ?_
  refine va_get (D := (dC, dI)) (ci := 3) (v := .int v_size) (C := cls_R) (T := fld_R) (N := 4) hx hb ht iin_R hown hK hP 0 rfl rfl 3 (by decide) (ht _ k_R_17) (fun _ h9 => h9) rfl d_R_removeOldest_1 ?_
  refine lv_if_ne (tgt := 9) hx hb d_R_removeOldest_4 (by decide) (fun c_4 => ?_) (fun c_4 => ?_)
  · have hf := ite_f hf c_4
    refine lv_aload_n hx hb d_R_removeOldest_9 rfl (lv_at hl 0 rfl) ?_
    refine va_get (D := (dC, dI)) (ci := 3) (v := .ref a_places) (C := cls_R) (T := fld_R) (N := 4) hx hb ht iin_R hown hK hP 0 rfl rfl 0 (by decide) (ht _ k_R_9) (fun _ h9 => h9) rfl d_R_removeOldest_10 ?_
    refine lv_aload_n hx hb d_R_removeOldest_13 rfl (lv_at hl 0 rfl) ?_
    refine va_get (D := (dC, dI)) (ci := 3) (v := .int v_first) (C := cls_R) (T := fld_R) (N := 4) hx hb ht iin_R hown hK hP 0 rfl rfl 2 (by decide) (ht _ k_R_20) (fun _ h9 => h9) rfl d_R_removeOldest_14 ?_
    refine lv_bipush (v := 31) hx hb d_R_removeOldest_17 (by decide) ?_
    refine lv_iand hx hb d_R_removeOldest_19 ?_
    obtain ⟨hi_20, hf⟩ := gi_e hf
    refine va_iald hx hb hK hP 1 0 rfl rfl hi_20 d_R_removeOldest_20 ?_
    refine lv_istore_n (lv' := [(1, .int (v_places (v_first &&& 31).toNatClampNeg)), (0, .ref a0)]) hx hb d_R_removeOldest_21 rfl hl (by decide) rfl (fun ls hl => ?_)
    refine lv_aload_n hx hb d_R_removeOldest_22 rfl (lv_at hl 1 rfl) ?_
    refine lv_aload_n hx hb d_R_removeOldest_23 rfl (lv_at hl 1 rfl) ?_
    refine va_get (D := (dC, dI)) (ci := 3) (v := .int v_first) (C := cls_R) (T := fld_R) (N := 4) hx hb ht iin_R hown hK hP 0 rfl rfl 2 (by decide) (ht _ k_R_20) (fun _ h9 => h9) rfl d_R_removeOldest_24 ?_
    refine lv_iconst (v := 1) hx hb d_R_removeOldest_27 (by decide) ?_
    refine lv_iadd hx hb d_R_removeOldest_28 ?_
    refine lv_bipush (v := 31) hx hb d_R_removeOldest_29 (by decide) ?_
    refine lv_iand hx hb d_R_removeOldest_31 ?_
    refine va_put (D := (dC, dI)) (ci := 3) (v := .int ((v_first + 1) &&& 31)) (ty := .int) (C := cls_R) (T := fld_R) (N := 4) hx hb ht iin_R typ_R tok_R nam_R hown hK hP hD hS 0 rfl rfl 2 (by decide) (ht _ k_R_20) (fun _ h9 => h9) rfl (tok_R 2 (by decide)) rfl rfl (Nat.le_of_ble_eq_true rfl) d_R_removeOldest_32 (fun H locs hP hD hS => ?_)
    have hP : va_P (dC, dI) cls [(a0, .inr (3, [.ref a_places, .int v_limit, .int ((v_first + 1) &&& 31), .int v_size])), (a_places, .inl (cA, 32, .inl v_places))] _ := hP
    have hD : va_D A [(a0, .inr (3, [.ref a_places, .int v_limit, .int ((v_first + 1) &&& 31), .int v_size])), (a_places, .inl (cA, 32, .inl v_places))] := hD
    refine lv_aload_n hx hb d_R_removeOldest_35 rfl (lv_at hl 1 rfl) ?_
    refine lv_dup hx hb d_R_removeOldest_36 rfl ?_
    refine va_get (D := (dC, dI)) (ci := 3) (v := .int v_size) (C := cls_R) (T := fld_R) (N := 4) hx hb ht iin_R hown hK hP 0 rfl rfl 3 (by decide) (ht _ k_R_17) (fun _ h9 => h9) rfl d_R_removeOldest_37 ?_
    refine lv_iconst (v := 1) hx hb d_R_removeOldest_40 (by decide) ?_
    refine lv_isub hx hb d_R_removeOldest_41 ?_
    refine va_put (D := (dC, dI)) (ci := 3) (v := .int (v_size - 1)) (ty := .int) (C := cls_R) (T := fld_R) (N := 4) hx hb ht iin_R typ_R tok_R nam_R hown hK hP hD hS 0 rfl rfl 3 (by decide) (ht _ k_R_17) (fun _ h9 => h9) rfl (tok_R 3 (by decide)) rfl rfl (Nat.le_of_ble_eq_true rfl) d_R_removeOldest_42 (fun H locs hP hD hS => ?_)
    have hP : va_P (dC, dI) cls [(a0, .inr (3, [.ref a_places, .int v_limit, .int ((v_first + 1) &&& 31), .int (v_size - 1)])), (a_places, .inl (cA, 32, .inl v_places))] _ := hP
    have hD : va_D A [(a0, .inr (3, [.ref a_places, .int v_limit, .int ((v_first + 1) &&& 31), .int (v_size - 1)])), (a_places, .inl (cA, 32, .inl v_places))] := hD
    refine lv_iload_n hx hb d_R_removeOldest_45 rfl (lv_at hl 0 rfl) ?_
    exact W.iret hx hb hr (fun t9 ht9 _ => ri_ (Option.some.inj hf) hP hD hS ht9) hS.2.2 d_R_removeOldest_46
  · have hf := ite_t hf c_4
    refine lv_iconst (v := 0) hx hb d_R_removeOldest_7 (by decide) ?_
    exact W.iret hx hb hr (fun t9 ht9 _ => ri_ (Option.some.inj hf) hP hD hS ht9) hS.2.2 d_R_removeOldest_8
def f_R_hasItemAbove_2 : Nat → RgT → Int32 → Int32 → Option (Int32)
  | 0, _, _, _ => none
  | n + 1, (v_limit, v_first, v_size, v_places), x_1, x_2 => if v_size ≤ x_2 then (some 0) else (gi_ ((v_first + x_2) &&& 31) 32 (if (v_places ((v_first + x_2) &&& 31).toNatClampNeg) ≤ x_1 then (f_R_hasItemAbove_2 n (v_limit, v_first, v_size, v_places) x_1 (x_2 + 1)) else (some 1)))
def f_R_hasItemAbove : RgT → Int32 → Option (Int32)
  | (v_limit, v_first, v_size, v_places), p_1 => f_R_hasItemAbove_2 128 (v_limit, v_first, v_size, v_places) p_1 0
set_option maxHeartbeats 8000000 in
set_option maxRecDepth 100000 in
theorem c_R_hasItemAbove (l : Launch) (dC : Nat → ClassId) (dI : Nat → Nat → Nat) (cA : ClassId) (t : Nat) (a0 a_places : Nat) (sz : Nat) (u : RgT) (p_1 : Int32) (q : Int32) (hf : f_R_hasItemAbove u p_1 = some q) : Met l y_R_hasItemAbove (Cond.code y_R_hasItemAbove b_R_hasItemAbove 3 (some .boolean) :: W0) ({ frames := 0, cells := 0, slots := 0, locals := 0 }) (va_Pc [.ref a0, .int p_1] (pc_ (dC, dI) [(cA, .int)] t sz (cw_R cA a0 a_places u))) (qr_ (dC, dI) (cw_R cA a0 a_places u) q (va_A (cw_R cA a0 a_places u) sz)) 0 0 (va_A (cw_R cA a0 a_places u) sz) := by
  obtain ⟨v_limit, v_first, v_size, v_places⟩ := u
  refine start_ l (qr_ (dC, dI) _ q) (by decide) (Nat.le_of_ble_eq_true rfl) ?_
  intro p e s m below meth c hx hb hml hr hown ht hlocks hnm A hA hS hP hK hD hZ ls hl
  have hown : s.vm.findClass cls_R = some m.cls := hown
  refine wabs_ (fun WW wi wo => ?_)
  have k_2 : ∀ n : Nat, ∀ (x_1 x_2 : Int32), f_R_hasItemAbove_2 n (v_limit, v_first, v_size, v_places) x_1 x_2 = some q → ∀ (H : Heap) (locs : List Loc) (ls : Array Slot), va_P (dC, dI) cls [(a0, .inr (3, [.ref a_places, .int v_limit, .int v_first, .int v_size])), (a_places, .inl (cA, 32, .inl v_places))] H → va_D A [(a0, .inr (3, [.ref a_places, .int v_limit, .int v_first, .int v_size])), (a_places, .inl (cA, 32, .inl v_places))] → va_S A s.heap H locs → lv_has ls 3 [(0, .ref a0), (1, .int x_1), (2, .int x_2)] → WW H locs (F0 m 2 ls []) := by
    intro n
    induction n with
    | zero =>
      intro x_1 x_2 hf
      unfold f_R_hasItemAbove_2 at hf
      cases hf
    | succ n ih =>
      intro x_1 x_2 hf H locs ls hP hD hS hl
      unfold f_R_hasItemAbove_2 at hf
      try dsimp only at hf
      have hP : va_P (dC, dI) cls [(a0, .inr (3, [.ref a_places, .int v_limit, .int v_first, .int v_size])), (a_places, .inl (cA, 32, .inl v_places))] _ := hP
      have hD : va_D A [(a0, .inr (3, [.ref a_places, .int v_limit, .int v_first, .int v_size])), (a_places, .inl (cA, 32, .inl v_places))] := hD
      refine wi _ _ _ ?_
      refine lv_iload_n hx hb d_R_hasItemAbove_2 rfl (lv_at hl 2 rfl) ?_
      refine lv_aload_n hx hb d_R_hasItemAbove_3 rfl (lv_at hl 0 rfl) ?_
      refine va_get (D := (dC, dI)) (ci := 3) (v := .int v_size) (C := cls_R) (T := fld_R) (N := 4) hx hb ht iin_R hown hK hP 0 rfl rfl 3 (by decide) (ht _ k_R_17) (fun _ h9 => h9) rfl d_R_hasItemAbove_4 ?_
      refine lv_icmp_ge (tgt := 36) hx hb d_R_hasItemAbove_7 (by decide) (fun c_7 => ?_) (fun c_7 => ?_)
      · have hf := ite_t hf c_7
        refine lv_iconst (v := 0) hx hb d_R_hasItemAbove_36 (by decide) ?_
        exact W.zret hx hb hr rfl (fun t9 ht9 _ => rr_ (Option.some.inj hf) hP hD hS ht9) hS.2.2 d_R_hasItemAbove_37
      · have hf := ite_f hf c_7
        refine lv_aload_n hx hb d_R_hasItemAbove_10 rfl (lv_at hl 0 rfl) ?_
        refine va_get (D := (dC, dI)) (ci := 3) (v := .ref a_places) (C := cls_R) (T := fld_R) (N := 4) hx hb ht iin_R hown hK hP 0 rfl rfl 0 (by decide) (ht _ k_R_9) (fun _ h9 => h9) rfl d_R_hasItemAbove_11 ?_
        refine lv_aload_n hx hb d_R_hasItemAbove_14 rfl (lv_at hl 0 rfl) ?_
        refine va_get (D := (dC, dI)) (ci := 3) (v := .int v_first) (C := cls_R) (T := fld_R) (N := 4) hx hb ht iin_R hown hK hP 0 rfl rfl 2 (by decide) (ht _ k_R_20) (fun _ h9 => h9) rfl d_R_hasItemAbove_15 ?_
        refine lv_iload_n hx hb d_R_hasItemAbove_18 rfl (lv_at hl 2 rfl) ?_
        refine lv_iadd hx hb d_R_hasItemAbove_19 ?_
        refine lv_bipush (v := 31) hx hb d_R_hasItemAbove_20 (by decide) ?_
        refine lv_iand hx hb d_R_hasItemAbove_22 ?_
        obtain ⟨hi_23, hf⟩ := gi_e hf
        refine va_iald hx hb hK hP 1 0 rfl rfl hi_23 d_R_hasItemAbove_23 ?_
        refine lv_iload_n hx hb d_R_hasItemAbove_24 rfl (lv_at hl 1 rfl) ?_
        refine lv_icmp_le (tgt := 30) hx hb d_R_hasItemAbove_25 (by decide) (fun c_25 => ?_) (fun c_25 => ?_)
        · have hf := ite_t hf c_25
          refine lv_iinc (v := (x_2 + 1)) (lv' := [(2, .int (x_2 + 1)), (0, .ref a0), (1, .int x_1)]) hx hb d_R_hasItemAbove_30 hl (k := 2) rfl rfl (by decide) rfl (fun ls hl => ?_)
          refine lv_goto (tgt := 2) hx hb d_R_hasItemAbove_33 (by decide) ?_
          exact wo _ _ _ (ih x_1 (x_2 + 1) hf _ _ _ hP hD hS (lv_sub hl [1, 2, 0] rfl))
        · have hf := ite_f hf c_25
          refine lv_iconst (v := 1) hx hb d_R_hasItemAbove_28 (by decide) ?_
          exact W.zret hx hb hr rfl (fun t9 ht9 _ => rr_ (Option.some.inj hf) hP hD hS ht9) hS.2.2 d_R_hasItemAbove_29
  unfold f_R_hasItemAbove at hf
  try dsimp only at hf
  have hP : va_P (dC, dI) cls [(a0, .inr (3, [.ref a_places, .int v_limit, .int v_first, .int v_size])), (a_places, .inl (cA, 32, .inl v_places))] _ := hP
  have hD : va_D A [(a0, .inr (3, [.ref a_places, .int v_limit, .int v_first, .int v_size])), (a_places, .inl (cA, 32, .inl v_places))] := hD
  refine wi _ _ _ ?_
  have hl : lv_has ls 3 [(0, .ref a0), (1, .int p_1)] := hl
  refine lv_iconst (v := 0) hx hb d_R_hasItemAbove_0 (by decide) ?_
  refine lv_istore_n (lv' := [(2, .int 0), (0, .ref a0), (1, .int p_1)]) hx hb d_R_hasItemAbove_1 rfl hl (by decide) rfl (fun ls hl => ?_)
  exact wo _ _ _ (k_2 128 p_1 0 hf _ _ _ hP hD hS (lv_sub hl [1, 2, 0] rfl))
