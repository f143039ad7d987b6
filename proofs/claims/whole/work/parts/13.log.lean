def f_S_add : LgT → Int32 → Option (LgT)
  | (v_size, v_latest), p_1 => gi_ (v_size &&& 31) 32 (some ((v_size + 1), (upd v_latest (v_size &&& 31).toNatClampNeg p_1)))
set_option maxHeartbeats 8000000 in
set_option maxRecDepth 100000 in
theorem c_S_add (l : Launch) (dC : Nat → ClassId) (dI : Nat → Nat → Nat) (cA : ClassId) (t : Nat) (a0 a_latest : Nat) (sz : Nat) (u : LgT) (p_1 : Int32) (q : LgT) (hf : f_S_add u p_1 = some q) : Met l y_S_add (Cond.code y_S_add b_S_add 2 none :: W0) ({ frames := 0, cells := 0, slots := 0, locals := 0 }) (va_Pc [.ref a0, .int p_1] (pc_ (dC, dI) [(cA, .int)] t sz (cw_S cA a0 a_latest u))) (qv_ (dC, dI) (cw_S cA a0 a_latest) q (va_A (cw_S cA a0 a_latest u) sz)) 0 0 (va_A (cw_S cA a0 a_latest u) sz) := by
  refine start_ l (qv_ (dC, dI) (cw_S cA a0 a_latest) q) (by decide) (Nat.le_of_ble_eq_true rfl) ?_
  intro p e s m below meth c hx hb hml hr hown ht hlocks hnm A hA hS hP hK hD hZ ls hl
  have hown : s.vm.findClass cls_S = some m.cls := hown
  refine wabs_ (fun WW wi wo => ?_)
  obtain ⟨v_size, v_latest⟩ := u
  unfold f_S_add at hf
  try dsimp only at hf
  have hP : va_P (dC, dI) cls [(a0, .inr (4, [.ref a_latest, .int v_size])), (a_latest, .inl (cA, 32, .inl v_latest))] _ := hP
  have hD : va_D A [(a0, .inr (4, [.ref a_latest, .int v_size])), (a_latest, .inl (cA, 32, .inl v_latest))] := hD
  refine wi _ _ _ ?_
  have hl : lv_has ls 2 [(0, .ref a0), (1, .int p_1)] := hl
  refine lv_aload_n hx hb d_S_add_0 rfl (lv_at hl 0 rfl) ?_
  refine va_get (D := (dC, dI)) (ci := 4) (v := .ref a_latest) (C := cls_S) (T := fld_S) (N := 2) hx hb ht iin_S hown hK hP 0 rfl rfl 0 (by decide) (ht _ k_S_11) (fun _ h9 => h9) rfl d_S_add_1 ?_
  refine lv_aload_n hx hb d_S_add_4 rfl (lv_at hl 0 rfl) ?_
  refine va_get (D := (dC, dI)) (ci := 4) (v := .int v_size) (C := cls_S) (T := fld_S) (N := 2) hx hb ht iin_S hown hK hP 0 rfl rfl 1 (by decide) (ht _ k_S_15) (fun _ h9 => h9) rfl d_S_add_5 ?_
  refine lv_bipush (v := 31) hx hb d_S_add_8 (by decide) ?_
  refine lv_iand hx hb d_S_add_10 ?_
  refine lv_iload_n hx hb d_S_add_11 rfl (lv_at hl 1 rfl) ?_
  obtain ⟨hi_12, hf⟩ := gi_e hf
  refine va_iast hx hb hK hP hD hS 1 0 rfl rfl hi_12 d_S_add_12 (fun H locs hP hD hS => ?_)
  have hP : va_P (dC, dI) cls [(a0, .inr (4, [.ref a_latest, .int v_size])), (a_latest, .inl (cA, 32, .inl (upd v_latest (v_size &&& 31).toNatClampNeg p_1)))] _ := hP
  have hD : va_D A [(a0, .inr (4, [.ref a_latest, .int v_size])), (a_latest, .inl (cA, 32, .inl (upd v_latest (v_size &&& 31).toNatClampNeg p_1)))] := hD
  refine lv_aload_n hx hb d_S_add_13 rfl (lv_at hl 0 rfl) ?_
  refine lv_dup hx hb d_S_add_14 rfl ?_
  refine va_get (D := (dC, dI)) (ci := 4) (v := .int v_size) (C := cls_S) (T := fld_S) (N := 2) hx hb ht iin_S hown hK hP 0 rfl rfl 1 (by decide) (ht _ k_S_15) (fun _ h9 => h9) rfl d_S_add_15 ?_
  refine lv_iconst (v := 1) hx hb d_S_add_18 (by decide) ?_
  refine lv_iadd hx hb d_S_add_19 ?_
  refine va_put (D := (dC, dI)) (ci := 4) (v := .int (v_size + 1)) (ty := .int) (C := cls_S) (T := fld_S) (N := 2) hx hb ht iin_S typ_S tok_S nam_S hown hK hP hD hS 0 rfl rfl 1 (by decide) (ht _ k_S_15) (fun _ h9 => h9) rfl (tok_S 1 (by decide)) rfl rfl (Nat.le_of_ble_eq_true rfl) d_S_add_20 (fun H locs hP hD hS => ?_)
  have hP : va_P (dC, dI) cls [(a0, .inr (4, [.ref a_latest, .int (v_size + 1)])), (a_latest, .inl (cA, 32, .inl (upd v_latest (v_size &&& 31).toNatClampNeg p_1)))] _ := hP
  have hD : va_D A [(a0, .inr (4, [.ref a_latest, .int (v_size + 1)])), (a_latest, .inl (cA, 32, .inl (upd v_latest (v_size &&& 31).toNatClampNeg p_1)))] := hD
  exact W.vret hx hb hr (fun t9 ht9 _ => rv_ (Option.some.inj hf) hP hD hS ht9) hS.2.2 d_S_add_23
def f_S_backFromLatest_18 : LgT → Option (Int32)
  | (v_size, v_latest) => some (-1)
def f_S_backFromLatest : LgT → Int32 → Option (Int32)
  | (v_size, v_latest), p_1 => if p_1 < 0 then (f_S_backFromLatest_18 (v_size, v_latest)) else (if 31 < p_1 then (f_S_backFromLatest_18 (v_size, v_latest)) else (if p_1 < v_size then (gi_ (((v_size - 1) - p_1) &&& 31) 32 (some (v_latest (((v_size - 1) - p_1) &&& 31).toNatClampNeg))) else (f_S_backFromLatest_18 (v_size, v_latest))))
set_option maxHeartbeats 8000000 in
set_option maxRecDepth 100000 in
theorem c_S_backFromLatest (l : Launch) (dC : Nat → ClassId) (dI : Nat → Nat → Nat) (cA : ClassId) (t : Nat) (a0 a_latest : Nat) (sz : Nat) (u : LgT) (p_1 : Int32) (q : Int32) (hf : f_S_backFromLatest u p_1 = some q) : Met l y_S_backFromLatest (Cond.code y_S_backFromLatest b_S_backFromLatest 2 (some .int) :: W0) ({ frames := 0, cells := 0, slots := 0, locals := 0 }) (va_Pc [.ref a0, .int p_1] (pc_ (dC, dI) [(cA, .int)] t sz (cw_S cA a0 a_latest u))) (qr_ (dC, dI) (cw_S cA a0 a_latest u) q (va_A (cw_S cA a0 a_latest u) sz)) 0 0 (va_A (cw_S cA a0 a_latest u) sz) := by
  obtain ⟨v_size, v_latest⟩ := u
  refine start_ l (qr_ (dC, dI) _ q) (by decide) (Nat.le_of_ble_eq_true rfl) ?_
  intro p e s m below meth c hx hb hml hr hown ht hlocks hnm A hA hS hP hK hD hZ ls hl
  have hown : s.vm.findClass cls_S = some m.cls := hown
  refine wabs_ (fun WW wi wo => ?_)
  have k_18 : f_S_backFromLatest_18 (v_size, v_latest) = some q → ∀ (H : Heap) (locs : List Loc) (ls : Array Slot), va_P (dC, dI) cls [(a0, .inr (4, [.ref a_latest, .int v_size])), (a_latest, .inl (cA, 32, .inl v_latest))] H → va_D A [(a0, .inr (4, [.ref a_latest, .int v_size])), (a_latest, .inl (cA, 32, .inl v_latest))] → va_S A s.heap H locs → lv_has ls 2 [] → WW H locs (F0 m 18 ls []) := by
    intro hf H locs ls hP hD hS hl
    unfold f_S_backFromLatest_18 at hf
    try dsimp only at hf
    have hP : va_P (dC, dI) cls [(a0, .inr (4, [.ref a_latest, .int v_size])), (a_latest, .inl (cA, 32, .inl v_latest))] _ := hP
    have hD : va_D A [(a0, .inr (4, [.ref a_latest, .int v_size])), (a_latest, .inl (cA, 32, .inl v_latest))] := hD
    refine wi _ _ _ ?_
    refine lv_iconst (v := (-1)) hx hb d_S_backFromLatest_18 (by decide) ?_
    exact W.iret hx hb hr (fun t9 ht9 _ => rr_ (Option.some.inj hf) hP hD hS ht9) hS.2.2 d_S_backFromLatest_19
  unfold f_S_backFromLatest at hf
  try dsimp only at hf
  have hP : va_P (dC, dI) cls [(a0, .inr (4, [.ref a_latest, .int v_size])), (a_latest, .inl (cA, 32, .inl v_latest))] _ := hP
  have hD : va_D A [(a0, .inr (4, [.ref a_latest, .int v_size])), (a_latest, .inl (cA, 32, .inl v_latest))] := hD
  refine wi _ _ _ ?_
  have hl : lv_has ls 2 [(0, .ref a0), (1, .int p_1)] := hl
  refine lv_iload_n hx hb d_S_backFromLatest_0 rfl (lv_at hl 1 rfl) ?_
  refine lv_if_lt (tgt := 18) hx hb d_S_backFromLatest_1 (by decide) (fun c_1 => ?_) (fun c_1 => ?_)
  · have hf := ite_t hf c_1
    exact wo _ _ _ (k_18  hf _ _ _ hP hD hS (lv_sub hl [] rfl))
  · have hf := ite_f hf c_1
    refine lv_iload_n hx hb d_S_backFromLatest_4 rfl (lv_at hl 1 rfl) ?_
    refine lv_bipush (v := 31) hx hb d_S_backFromLatest_5 (by decide) ?_
    refine lv_icmp_gt (tgt := 18) hx hb d_S_backFromLatest_7 (by decide) (fun c_7 => ?_) (fun c_7 => ?_)
    · have hf := ite_t hf c_7
      exact wo _ _ _ (k_18  hf _ _ _ hP hD hS (lv_sub hl [] rfl))
    · have hf := ite_f hf c_7
      refine lv_iload_n hx hb d_S_backFromLatest_10 rfl (lv_at hl 1 rfl) ?_
      refine lv_aload_n hx hb d_S_backFromLatest_11 rfl (lv_at hl 0 rfl) ?_
      refine va_get (D := (dC, dI)) (ci := 4) (v := .int v_size) (C := cls_S) (T := fld_S) (N := 2) hx hb ht iin_S hown hK hP 0 rfl rfl 1 (by decide) (ht _ k_S_15) (fun _ h9 => h9) rfl d_S_backFromLatest_12 ?_
      refine lv_icmp_lt (tgt := 20) hx hb d_S_backFromLatest_15 (by decide) (fun c_15 => ?_) (fun c_15 => ?_)
      · have hf := ite_t hf c_15
        refine lv_aload_n hx hb d_S_backFromLatest_20 rfl (lv_at hl 0 rfl) ?_
        refine va_get (D := (dC, dI)) (ci := 4) (v := .ref a_latest) (C := cls_S) (T := fld_S) (N := 2) hx hb ht iin_S hown hK hP 0 rfl rfl 0 (by decide) (ht _ k_S_11) (fun _ h9 => h9) rfl d_S_backFromLatest_21 ?_
        refine lv_aload_n hx hb d_S_backFromLatest_24 rfl (lv_at hl 0 rfl) ?_
        refine va_get (D := (dC, dI)) (ci := 4) (v := .int v_size) (C := cls_S) (T := fld_S) (N := 2) hx hb ht iin_S hown hK hP 0 rfl rfl 1 (by decide) (ht _ k_S_15) (fun _ h9 => h9) rfl d_S_backFromLatest_25 ?_
        refine lv_iconst (v := 1) hx hb d_S_backFromLatest_28 (by decide) ?_
        refine lv_isub hx hb d_S_backFromLatest_29 ?_
        refine lv_iload_n hx hb d_S_backFromLatest_30 rfl (lv_at hl 1 rfl) ?_
        refine lv_isub hx hb d_S_backFromLatest_31 ?_
        refine lv_bipush (v := 31) hx hb d_S_backFromLatest_32 (by decide) ?_
        refine lv_iand hx hb d_S_backFromLatest_34 ?_
        obtain ⟨hi_35, hf⟩ := gi_e hf
        refine va_iald hx hb hK hP 1 0 rfl rfl hi_35 d_S_backFromLatest_35 ?_
        exact W.iret hx hb hr (fun t9 ht9 _ => rr_ (Option.some.inj hf) hP hD hS ht9) hS.2.2 d_S_backFromLatest_36
      · have hf := ite_f hf c_15
        exact wo _ _ _ (k_18  hf _ _ _ hP hD hS (lv_sub hl [] rfl))
