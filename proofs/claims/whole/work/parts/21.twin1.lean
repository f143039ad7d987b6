def f_T_append : TwT → Int32 → Int32 → Option (TwT)
  | (v_ticks, v_due, v_sending, v_heard, v_level, v_enabled, v_format, v_control, v_spare, v_low, v_high, v_overrun, v_vacated, v_queued, v_given, v_changes, v_total, v_held, v_asked, v_urgent, v_lost, v_rows, v_sizes, v_faults, v_last), p_1, p_2 => gi_ p_1 4 (gi_ ((24 * p_1) + (v_sizes p_1.toNatClampNeg)) 96 (gi_ p_1 4 (gi_ p_1 4 (some (v_ticks, v_due, v_sending, v_heard, v_level, v_enabled, v_format, v_control, v_spare, v_low, v_high, v_overrun, v_vacated, v_queued, v_given, v_changes, v_total, v_held, v_asked, v_urgent, v_lost, (upd v_rows ((24 * p_1) + (v_sizes p_1.toNatClampNeg)).toNatClampNeg p_2), (upd v_sizes p_1.toNatClampNeg ((v_sizes p_1.toNatClampNeg) + 1)), v_faults, v_last)))))
set_option maxHeartbeats 8000000 in
set_option maxRecDepth 100000 in
theorem c_T_append (l : Launch) (dC : Nat → ClassId) (dI : Nat → Nat → Nat) (cA : ClassId) (t : Nat) (a0 a_rows a_sizes a_faults a_last : Nat) (sz : Nat) (u : TwT) (p_1 p_2 : Int32) (q : TwT) (hf : f_T_append u p_1 p_2 = some q) : Met l y_T_append (Cond.code y_T_append b_T_append 3 none :: W0) ({ frames := 0, cells := 0, slots := 0, locals := 0 }) (va_Pc [.ref a0, .int p_1, .int p_2] (pc_ (dC, dI) [(cA, .int)] t sz (cw_T cA a0 a_rows a_sizes a_faults a_last u))) (qv_ (dC, dI) (cw_T cA a0 a_rows a_sizes a_faults a_last) q (va_A (cw_T cA a0 a_rows a_sizes a_faults a_last u) sz)) 0 0 (va_A (cw_T cA a0 a_rows a_sizes a_faults a_last u) sz) := by
  refine start_ l (qv_ (dC, dI) (cw_T cA a0 a_rows a_sizes a_faults a_last) q) (by decide) (Nat.le_of_ble_eq_true rfl) ?_
  intro p e s m below meth c hx hb hml hr hown ht hlocks hnm A hA hS hP hK hD hZ ls hl
  have hown : s.vm.findClass cls_T = some m.cls := hown
  refine wabs_ (fun WW wi wo => ?_)
  obtain ⟨v_ticks, v_due, v_sending, v_heard, v_level, v_enabled, v_format, v_control, v_spare, v_low, v_high, v_overrun, v_vacated, v_queued, v_given, v_changes, v_total, v_held, v_asked, v_urgent, v_lost, v_rows, v_sizes, v_faults, v_last⟩ := u
  unfold f_T_append at hf
  try dsimp only at hf
  have hP : va_P (dC, dI) cls [(a0, .inr (6, [.ref a_rows, .ref a_sizes, .ref a_faults, .int v_ticks, .int v_due, .int v_sending, .int v_heard, .int v_level, .int v_enabled, .int v_format, .int v_control, .int v_spare, .int v_low, .int v_high, .int v_overrun, .int v_vacated, .int v_queued, .int v_given, .int v_changes, .int v_total, .ref a_last, .int v_held, .int v_asked, .int v_urgent, .int v_lost])), (a_rows, .inl (cA, 96, .inl v_rows)), (a_sizes, .inl (cA, 4, .inl v_sizes)), (a_faults, .inl (cA, 16, .inl v_faults)), (a_last, .inl (cA, 32, .inl v_last))] _ := hP
  have hD : va_D A [(a0, .inr (6, [.ref a_rows, .ref a_sizes, .ref a_faults, .int v_ticks, .int v_due, .int v_sending, .int v_heard, .int v_level, .int v_enabled, .int v_format, .int v_control, .int v_spare, .int v_low, .int v_high, .int v_overrun, .int v_vacated, .int v_queued, .int v_given, .int v_changes, .int v_total, .ref a_last, .int v_held, .int v_asked, .int v_urgent, .int v_lost])), (a_rows, .inl (cA, 96, .inl v_rows)), (a_sizes, .inl (cA, 4, .inl v_sizes)), (a_faults, .inl (cA, 16, .inl v_faults)), (a_last, .inl (cA, 32, .inl v_last))] := hD
  refine wi _ _ _ ?_
  have hl : lv_has ls 3 [(0, .ref a0), (1, .int p_1), (2, .int p_2)] := hl
  refine lv_aload_n hx hb d_T_append_0 rfl (lv_at hl 0 rfl) ?_
  refine va_get (D := (dC, dI)) (ci := 6) (v := .ref a_rows) (C := cls_T) (T := fld_T) (N := 25) hx hb ht iin_T hown hK hP 0 rfl rfl 0 (by decide) (ht _ k_T_7) (fun _ h9 => h9) rfl d_T_append_1 ?_
  refine lv_bipush (v := 24) hx hb d_T_append_4 (by decide) ?_
  refine lv_iload_n hx hb d_T_append_6 rfl (lv_at hl 1 rfl) ?_
  refine lv_imul hx hb d_T_append_7 ?_
  refine lv_aload_n hx hb d_T_append_8 rfl (lv_at hl 0 rfl) ?_
  refine va_get (D := (dC, dI)) (ci := 6) (v := .ref a_sizes) (C := cls_T) (T := fld_T) (N := 25) hx hb ht iin_T hown hK hP 0 rfl rfl 1 (by decide) (ht _ k_T_13) (fun _ h9 => h9) rfl d_T_append_9 ?_
  refine lv_iload_n hx hb d_T_append_12 rfl (lv_at hl 1 rfl) ?_
  obtain ⟨hi_13, hf⟩ := gi_e hf
  refine va_iald hx hb hK hP 2 0 rfl rfl hi_13 d_T_append_13 ?_
  refine lv_iadd hx hb d_T_append_14 ?_
  refine lv_iload_n hx hb d_T_append_15 rfl (lv_at hl 2 rfl) ?_
  obtain ⟨hi_16, hf⟩ := gi_e hf
  refine va_iast hx hb hK hP hD hS 1 0 rfl rfl hi_16 d_T_append_16 (fun H locs hP hD hS => ?_)
  have hP : va_P (dC, dI) cls [(a0, .inr (6, [.ref a_rows, .ref a_sizes, .ref a_faults, .int v_ticks, .int v_due, .int v_sending, .int v_heard, .int v_level, .int v_enabled, .int v_format, .int v_control, .int v_spare, .int v_low, .int v_high, .int v_overrun, .int v_vacated, .int v_queued, .int v_given, .int v_changes, .int v_total, .ref a_last, .int v_held, .int v_asked, .int v_urgent, .int v_lost])), (a_rows, .inl (cA, 96, .inl (upd v_rows ((24 * p_1) + (v_sizes p_1.toNatClampNeg)).toNatClampNeg p_2))), (a_sizes, .inl (cA, 4, .inl v_sizes)), (a_faults, .inl (cA, 16, .inl v_faults)), (a_last, .inl (cA, 32, .inl v_last))] _ := hP
  have hD : va_D A [(a0, .inr (6, [.ref a_rows, .ref a_sizes, .ref a_faults, .int v_ticks, .int v_due, .int v_sending, .int v_heard, .int v_level, .int v_enabled, .int v_format, .int v_control, .int v_spare, .int v_low, .int v_high, .int v_overrun, .int v_vacated, .int v_queued, .int v_given, .int v_changes, .int v_total, .ref a_last, .int v_held, .int v_asked, .int v_urgent, .int v_lost])), (a_rows, .inl (cA, 96, .inl (upd v_rows ((24 * p_1) + (v_sizes p_1.toNatClampNeg)).toNatClampNeg p_2))), (a_sizes, .inl (cA, 4, .inl v_sizes)), (a_faults, .inl (cA, 16, .inl v_faults)), (a_last, .inl (cA, 32, .inl v_last))] := hD
  refine lv_aload_n hx hb d_T_append_17 rfl (lv_at hl 0 rfl) ?_
  refine va_get (D := (dC, dI)) (ci := 6) (v := .ref a_sizes) (C := cls_T) (T := fld_T) (N := 25) hx hb ht iin_T hown hK hP 0 rfl rfl 1 (by decide) (ht _ k_T_13) (fun _ h9 => h9) rfl d_T_append_18 ?_
  refine lv_iload_n hx hb d_T_append_21 rfl (lv_at hl 1 rfl) ?_
  refine lv_aload_n hx hb d_T_append_22 rfl (lv_at hl 0 rfl) ?_
  refine va_get (D := (dC, dI)) (ci := 6) (v := .ref a_sizes) (C := cls_T) (T := fld_T) (N := 25) hx hb ht iin_T hown hK hP 0 rfl rfl 1 (by decide) (ht _ k_T_13) (fun _ h9 => h9) rfl d_T_append_23 ?_
  refine lv_iload_n hx hb d_T_append_26 rfl (lv_at hl 1 rfl) ?_
  obtain ⟨hi_27, hf⟩ := gi_e hf
  refine va_iald hx hb hK hP 2 0 rfl rfl hi_27 d_T_append_27 ?_
  refine lv_iconst (v := 1) hx hb d_T_append_28 (by decide) ?_
  refine lv_iadd hx hb d_T_append_29 ?_
  obtain ⟨hi_30, hf⟩ := gi_e hf
  refine va_iast hx hb hK hP hD hS 2 0 rfl rfl hi_30 d_T_append_30 (fun H locs hP hD hS => ?_)
  have hP : va_P (dC, dI) cls [(a0, .inr (6, [.ref a_rows, .ref a_sizes, .ref a_faults, .int v_ticks, .int v_due, .int v_sending, .int v_heard, .int v_level, .int v_enabled, .int v_format, .int v_control, .int v_spare, .int v_low, .int v_high, .int v_overrun, .int v_vacated, .int v_queued, .int v_given, .int v_changes, .int v_total, .ref a_last, .int v_held, .int v_asked, .int v_urgent, .int v_lost])), (a_rows, .inl (cA, 96, .inl (upd v_rows ((24 * p_1) + (v_sizes p_1.toNatClampNeg)).toNatClampNeg p_2))), (a_sizes, .inl (cA, 4, .inl (upd v_sizes p_1.toNatClampNeg ((v_sizes p_1.toNatClampNeg) + 1)))), (a_faults, .inl (cA, 16, .inl v_faults)), (a_last, .inl (cA, 32, .inl v_last))] _ := hP
  have hD : va_D A [(a0, .inr (6, [.ref a_rows, .ref a_sizes, .ref a_faults, .int v_ticks, .int v_due, .int v_sending, .int v_heard, .int v_level, .int v_enabled, .int v_format, .int v_control, .int v_spare, .int v_low, .int v_high, .int v_overrun, .int v_vacated, .int v_queued, .int v_given, .int v_changes, .int v_total, .ref a_last, .int v_held, .int v_asked, .int v_urgent, .int v_lost])), (a_rows, .inl (cA, 96, .inl (upd v_rows ((24 * p_1) + (v_sizes p_1.toNatClampNeg)).toNatClampNeg p_2))), (a_sizes, .inl (cA, 4, .inl (upd v_sizes p_1.toNatClampNeg ((v_sizes p_1.toNatClampNeg) + 1)))), (a_faults, .inl (cA, 16, .inl v_faults)), (a_last, .inl (cA, 32, .inl v_last))] := hD
  exact W.vret hx hb hr (fun t9 ht9 _ => rv_ (Option.some.inj hf) hP hD hS ht9) hS.2.2 d_T_append_31
def f_T_removeFirst_29 : Nat → TwT → Int32 → Int32 → Int32 → Option (Int32 × TwT)
  | 0, _, _, _, _ => none
  | n + 1, (v_ticks, v_due, v_sending, v_heard, v_level, v_enabled, v_format, v_control, v_spare, v_low, v_high, v_overrun, v_vacated, v_queued, v_given, v_changes, v_total, v_held, v_asked, v_urgent, v_lost, v_rows, v_sizes, v_faults, v_last), x_1, x_2, x_3 => gi_ x_1 4 (if ((24 * x_1) + (v_sizes x_1.toNatClampNeg)) ≤ x_3 then (some (x_2, (v_ticks, v_due, v_sending, v_heard, v_level, v_enabled, v_format, v_control, v_spare, v_low, v_high, v_overrun, v_vacated, v_queued, v_given, v_changes, v_total, v_held, v_asked, v_urgent, v_lost, v_rows, v_sizes, v_faults, v_last))) else (gi_ (x_3 + 1) 96 (gi_ x_3 96 (f_T_removeFirst_29 n (v_ticks, v_due, v_sending, v_heard, v_level, v_enabled, v_format, v_control, v_spare, v_low, v_high, v_overrun, v_vacated, v_queued, v_given, v_changes, v_total, v_held, v_asked, v_urgent, v_lost, (upd v_rows x_3.toNatClampNeg (v_rows (x_3 + 1).toNatClampNeg)), v_sizes, v_faults, v_last) x_1 x_2 (x_3 + 1)))))
def f_T_removeFirst : TwT → Int32 → Option (Int32 × TwT)
  | (v_ticks, v_due, v_sending, v_heard, v_level, v_enabled, v_format, v_control, v_spare, v_low, v_high, v_overrun, v_vacated, v_queued, v_given, v_changes, v_total, v_held, v_asked, v_urgent, v_lost, v_rows, v_sizes, v_faults, v_last), p_1 => gi_ (24 * p_1) 96 (gi_ p_1 4 (gi_ p_1 4 (f_T_removeFirst_29 128 (v_ticks, v_due, v_sending, v_heard, v_level, v_enabled, v_format, v_control, v_spare, v_low, v_high, v_overrun, v_vacated, v_queued, v_given, v_changes, v_total, v_held, v_asked, v_urgent, v_lost, v_rows, (upd v_sizes p_1.toNatClampNeg ((v_sizes p_1.toNatClampNeg) - 1)), v_faults, v_last) p_1 (v_rows (24 * p_1).toNatClampNeg) (24 * p_1))))
set_option maxHeartbeats 8000000 in
set_option maxRecDepth 100000 in
theorem c_T_removeFirst (l : Launch) (dC : Nat → ClassId) (dI : Nat → Nat → Nat) (cA : ClassId) (t : Nat) (a0 a_rows a_sizes a_faults a_last : Nat) (sz : Nat) (u : TwT) (p_1 : Int32) (q : Int32 × TwT) (hf : f_T_removeFirst u p_1 = some q) : Met l y_T_removeFirst (Cond.code y_T_removeFirst b_T_removeFirst 4 (some .int) :: W0) ({ frames := 0, cells := 0, slots := 0, locals := 0 }) (va_Pc [.ref a0, .int p_1] (pc_ (dC, dI) [(cA, .int)] t sz (cw_T cA a0 a_rows a_sizes a_faults a_last u))) (qi_ (dC, dI) (cw_T cA a0 a_rows a_sizes a_faults a_last) q (va_A (cw_T cA a0 a_rows a_sizes a_faults a_last u) sz)) 0 0 (va_A (cw_T cA a0 a_rows a_sizes a_faults a_last u) sz) := by
  refine start_ l (qi_ (dC, dI) (cw_T cA a0 a_rows a_sizes a_faults a_last) q) (by decide) (Nat.le_of_ble_eq_true rfl) ?_
  intro p e s m below meth c hx hb hml hr hown ht hlocks hnm A hA hS hP hK hD hZ ls hl
  have hown : s.vm.findClass cls_T = some m.cls := hown
  refine wabs_ (fun WW wi wo => ?_)
  have k_29 : ∀ n : Nat, ∀ (u : TwT) (x_1 x_2 x_3 : Int32), f_T_removeFirst_29 n u x_1 x_2 x_3 = some q → ∀ (H : Heap) (locs : List Loc) (ls : Array Slot), va_P (dC, dI) cls (cw_T cA a0 a_rows a_sizes a_faults a_last u) H → va_D A (cw_T cA a0 a_rows a_sizes a_faults a_last u) → va_S A s.heap H locs → lv_has ls 4 [(0, .ref a0), (1, .int x_1), (2, .int x_2), (3, .int x_3)] → WW H locs (F0 m 29 ls []) := by
    intro n
    induction n with
    | zero =>
      intro u x_1 x_2 x_3 hf
      unfold f_T_removeFirst_29 at hf
      cases hf
    | succ n ih =>
      intro u x_1 x_2 x_3 hf H locs ls hP hD hS hl
      obtain ⟨v_ticks, v_due, v_sending, v_heard, v_level, v_enabled, v_format, v_control, v_spare, v_low, v_high, v_overrun, v_vacated, v_queued, v_given, v_changes, v_total, v_held, v_asked, v_urgent, v_lost, v_rows, v_sizes, v_faults, v_last⟩ := u
      unfold f_T_removeFirst_29 at hf
      try dsimp only at hf
      have hP : va_P (dC, dI) cls [(a0, .inr (6, [.ref a_rows, .ref a_sizes, .ref a_faults, .int v_ticks, .int v_due, .int v_sending, .int v_heard, .int v_level, .int v_enabled, .int v_format, .int v_control, .int v_spare, .int v_low, .int v_high, .int v_overrun, .int v_vacated, .int v_queued, .int v_given, .int v_changes, .int v_total, .ref a_last, .int v_held, .int v_asked, .int v_urgent, .int v_lost])), (a_rows, .inl (cA, 96, .inl v_rows)), (a_sizes, .inl (cA, 4, .inl v_sizes)), (a_faults, .inl (cA, 16, .inl v_faults)), (a_last, .inl (cA, 32, .inl v_last))] _ := hP
      have hD : va_D A [(a0, .inr (6, [.ref a_rows, .ref a_sizes, .ref a_faults, .int v_ticks, .int v_due, .int v_sending, .int v_heard, .int v_level, .int v_enabled, .int v_format, .int v_control, .int v_spare, .int v_low, .int v_high, .int v_overrun, .int v_vacated, .int v_queued, .int v_given, .int v_changes, .int v_total, .ref a_last, .int v_held, .int v_asked, .int v_urgent, .int v_lost])), (a_rows, .inl (cA, 96, .inl v_rows)), (a_sizes, .inl (cA, 4, .inl v_sizes)), (a_faults, .inl (cA, 16, .inl v_faults)), (a_last, .inl (cA, 32, .inl v_last))] := hD
      refine wi _ _ _ ?_
      refine lv_iload_n hx hb d_T_removeFirst_29 rfl (lv_at hl 3 rfl) ?_
      refine lv_bipush (v := 24) hx hb d_T_removeFirst_30 (by decide) ?_
      refine lv_iload_n hx hb d_T_removeFirst_32 rfl (lv_at hl 1 rfl) ?_
      refine lv_imul hx hb d_T_removeFirst_33 ?_
      refine lv_aload_n hx hb d_T_removeFirst_34 rfl (lv_at hl 0 rfl) ?_
      refine va_get (D := (dC, dI)) (ci := 6) (v := .ref a_sizes) (C := cls_T) (T := fld_T) (N := 25) hx hb ht iin_T hown hK hP 0 rfl rfl 1 (by decide) (ht _ k_T_13) (fun _ h9 => h9) rfl d_T_removeFirst_35 ?_
      refine lv_iload_n hx hb d_T_removeFirst_38 rfl (lv_at hl 1 rfl) ?_
      obtain ⟨hi_39, hf⟩ := gi_e hf
      refine va_iald hx hb hK hP 2 0 rfl rfl hi_39 d_T_removeFirst_39 ?_
      refine lv_iadd hx hb d_T_removeFirst_40 ?_
      refine lv_icmp_ge (tgt := 64) hx hb d_T_removeFirst_41 (by decide) (fun c_41 => ?_) (fun c_41 => ?_)
      · have hf := ite_t hf c_41
        refine lv_iload_n hx hb d_T_removeFirst_64 rfl (lv_at hl 2 rfl) ?_
        exact W.iret hx hb hr (fun t9 ht9 _ => ri_ (Option.some.inj hf) hP hD hS ht9) hS.2.2 d_T_removeFirst_65
      · have hf := ite_f hf c_41
        refine lv_aload_n hx hb d_T_removeFirst_44 rfl (lv_at hl 0 rfl) ?_
        refine va_get (D := (dC, dI)) (ci := 6) (v := .ref a_rows) (C := cls_T) (T := fld_T) (N := 25) hx hb ht iin_T hown hK hP 0 rfl rfl 0 (by decide) (ht _ k_T_7) (fun _ h9 => h9) rfl d_T_removeFirst_45 ?_
        refine lv_iload_n hx hb d_T_removeFirst_48 rfl (lv_at hl 3 rfl) ?_
        refine lv_aload_n hx hb d_T_removeFirst_49 rfl (lv_at hl 0 rfl) ?_
        refine va_get (D := (dC, dI)) (ci := 6) (v := .ref a_rows) (C := cls_T) (T := fld_T) (N := 25) hx hb ht iin_T hown hK hP 0 rfl rfl 0 (by decide) (ht _ k_T_7) (fun _ h9 => h9) rfl d_T_removeFirst_50 ?_
        refine lv_iload_n hx hb d_T_removeFirst_53 rfl (lv_at hl 3 rfl) ?_
        refine lv_iconst (v := 1) hx hb d_T_removeFirst_54 (by decide) ?_
        refine lv_iadd hx hb d_T_removeFirst_55 ?_
        obtain ⟨hi_56, hf⟩ := gi_e hf
        refine va_iald hx hb hK hP 1 0 rfl rfl hi_56 d_T_removeFirst_56 ?_
        obtain ⟨hi_57, hf⟩ := gi_e hf
        refine va_iast hx hb hK hP hD hS 1 0 rfl rfl hi_57 d_T_removeFirst_57 (fun H locs hP hD hS => ?_)
        have hP : va_P (dC, dI) cls [(a0, .inr (6, [.ref a_rows, .ref a_sizes, .ref a_faults, .int v_ticks, .int v_due, .int v_sending, .int v_heard, .int v_level, .int v_enabled, .int v_format, .int v_control, .int v_spare, .int v_low, .int v_high, .int v_overrun, .int v_vacated, .int v_queued, .int v_given, .int v_changes, .int v_total, .ref a_last, .int v_held, .int v_asked, .int v_urgent, .int v_lost])), (a_rows, .inl (cA, 96, .inl (upd v_rows x_3.toNatClampNeg (v_rows (x_3 + 1).toNatClampNeg)))), (a_sizes, .inl (cA, 4, .inl v_sizes)), (a_faults, .inl (cA, 16, .inl v_faults)), (a_last, .inl (cA, 32, .inl v_last))] _ := hP
        have hD : va_D A [(a0, .inr (6, [.ref a_rows, .ref a_sizes, .ref a_faults, .int v_ticks, .int v_due, .int v_sending, .int v_heard, .int v_level, .int v_enabled, .int v_format, .int v_control, .int v_spare, .int v_low, .int v_high, .int v_overrun, .int v_vacated, .int v_queued, .int v_given, .int v_changes, .int v_total, .ref a_last, .int v_held, .int v_asked, .int v_urgent, .int v_lost])), (a_rows, .inl (cA, 96, .inl (upd v_rows x_3.toNatClampNeg (v_rows (x_3 + 1).toNatClampNeg)))), (a_sizes, .inl (cA, 4, .inl v_sizes)), (a_faults, .inl (cA, 16, .inl v_faults)), (a_last, .inl (cA, 32, .inl v_last))] := hD
        refine lv_iinc (v := (x_3 + 1)) (lv' := [(3, .int (x_3 + 1)), (0, .ref a0), (1, .int x_1), (2, .int x_2)]) hx hb d_T_removeFirst_58 hl (k := 3) rfl rfl (by decide) rfl (fun ls hl => ?_)
        refine lv_goto (tgt := 29) hx hb d_T_removeFirst_61 (by decide) ?_
        exact wo _ _ _ (ih (v_ticks, v_due, v_sending, v_heard, v_level, v_enabled, v_format, v_control, v_spare, v_low, v_high, v_overrun, v_vacated, v_queued, v_given, v_changes, v_total, v_held, v_asked, v_urgent, v_lost, (upd v_rows x_3.toNatClampNeg (v_rows (x_3 + 1).toNatClampNeg)), v_sizes, v_faults, v_last) x_1 x_2 (x_3 + 1) hf _ _ _ hP hD hS (lv_sub hl [1, 2, 3, 0] rfl))
  obtain ⟨v_ticks, v_due, v_sending, v_heard, v_level, v_enabled, v_format, v_control, v_spare, v_low, v_high, v_overrun, v_vacated, v_queued, v_given, v_changes, v_total, v_held, v_asked, v_urgent, v_lost, v_rows, v_sizes, v_faults, v_last⟩ := u
  unfold f_T_removeFirst at hf
  try dsimp only at hf
  have hP : va_P (dC, dI) cls [(a0, .inr (6, [.ref a_rows, .ref a_sizes, .ref a_faults, .int v_ticks, .int v_due, .int v_sending, .int v_heard, .int v_level, .int v_enabled, .int v_format, .int v_control, .int v_spare, .int v_low, .int v_high, .int v_overrun, .int v_vacated, .int v_queued, .int v_given, .int v_changes, .int v_total, .ref a_last, .int v_held, .int v_asked, .int v_urgent, .int v_lost])), (a_rows, .inl (cA, 96, .inl v_rows)), (a_sizes, .inl (cA, 4, .inl v_sizes)), (a_faults, .inl (cA, 16, .inl v_faults)), (a_last, .inl (cA, 32, .inl v_last))] _ := hP
  have hD : va_D A [(a0, .inr (6, [.ref a_rows, .ref a_sizes, .ref a_faults, .int v_ticks, .int v_due, .int v_sending, .int v_heard, .int v_level, .int v_enabled, .int v_format, .int v_control, .int v_spare, .int v_low, .int v_high, .int v_overrun, .int v_vacated, .int v_queued, .int v_given, .int v_changes, .int v_total, .ref a_last, .int v_held, .int v_asked, .int v_urgent, .int v_lost])), (a_rows, .inl (cA, 96, .inl v_rows)), (a_sizes, .inl (cA, 4, .inl v_sizes)), (a_faults, .inl (cA, 16, .inl v_faults)), (a_last, .inl (cA, 32, .inl v_last))] := hD
  refine wi _ _ _ ?_
  have hl : lv_has ls 4 [(0, .ref a0), (1, .int p_1)] := hl
  refine lv_aload_n hx hb d_T_removeFirst_0 rfl (lv_at hl 0 rfl) ?_
  refine va_get (D := (dC, dI)) (ci := 6) (v := .ref a_rows) (C := cls_T) (T := fld_T) (N := 25) hx hb ht iin_T hown hK hP 0 rfl rfl 0 (by decide) (ht _ k_T_7) (fun _ h9 => h9) rfl d_T_removeFirst_1 ?_
  refine lv_bipush (v := 24) hx hb d_T_removeFirst_4 (by decide) ?_
  refine lv_iload_n hx hb d_T_removeFirst_6 rfl (lv_at hl 1 rfl) ?_
  refine lv_imul hx hb d_T_removeFirst_7 ?_
  obtain ⟨hi_8, hf⟩ := gi_e hf
  refine va_iald hx hb hK hP 1 0 rfl rfl hi_8 d_T_removeFirst_8 ?_
  refine lv_istore_n (lv' := [(2, .int (v_rows (24 * p_1).toNatClampNeg)), (0, .ref a0), (1, .int p_1)]) hx hb d_T_removeFirst_9 rfl hl (by decide) rfl (fun ls hl => ?_)
  refine lv_aload_n hx hb d_T_removeFirst_10 rfl (lv_at hl 1 rfl) ?_
  refine va_get (D := (dC, dI)) (ci := 6) (v := .ref a_sizes) (C := cls_T) (T := fld_T) (N := 25) hx hb ht iin_T hown hK hP 0 rfl rfl 1 (by decide) (ht _ k_T_13) (fun _ h9 => h9) rfl d_T_removeFirst_11 ?_
  refine lv_iload_n hx hb d_T_removeFirst_14 rfl (lv_at hl 2 rfl) ?_
  refine lv_aload_n hx hb d_T_removeFirst_15 rfl (lv_at hl 1 rfl) ?_
  refine va_get (D := (dC, dI)) (ci := 6) (v := .ref a_sizes) (C := cls_T) (T := fld_T) (N := 25) hx hb ht iin_T hown hK hP 0 rfl rfl 1 (by decide) (ht _ k_T_13) (fun _ h9 => h9) rfl d_T_removeFirst_16 ?_
  refine lv_iload_n hx hb d_T_removeFirst_19 rfl (lv_at hl 2 rfl) ?_
  obtain ⟨hi_20, hf⟩ := gi_e hf
  refine va_iald hx hb hK hP 2 0 rfl rfl hi_20 d_T_removeFirst_20 ?_
  refine lv_iconst (v := 1) hx hb d_T_removeFirst_21 (by decide) ?_
  refine lv_isub hx hb d_T_removeFirst_22 ?_
  obtain ⟨hi_23, hf⟩ := gi_e hf
  refine va_iast hx hb hK hP hD hS 2 0 rfl rfl hi_23 d_T_removeFirst_23 (fun H locs hP hD hS => ?_)
  have hP : va_P (dC, dI) cls [(a0, .inr (6, [.ref a_rows, .ref a_sizes, .ref a_faults, .int v_ticks, .int v_due, .int v_sending, .int v_heard, .int v_level, .int v_enabled, .int v_format, .int v_control, .int v_spare, .int v_low, .int v_high, .int v_overrun, .int v_vacated, .int v_queued, .int v_given, .int v_changes, .int v_total, .ref a_last, .int v_held, .int v_asked, .int v_urgent, .int v_lost])), (a_rows, .inl (cA, 96, .inl v_rows)), (a_sizes, .inl (cA, 4, .inl (upd v_sizes p_1.toNatClampNeg ((v_sizes p_1.toNatClampNeg) - 1)))), (a_faults, .inl (cA, 16, .inl v_faults)), (a_last, .inl (cA, 32, .inl v_last))] _ := hP
  have hD : va_D A [(a0, .inr (6, [.ref a_rows, .ref a_sizes, .ref a_faults, .int v_ticks, .int v_due, .int v_sending, .int v_heard, .int v_level, .int v_enabled, .int v_format, .int v_control, .int v_spare, .int v_low, .int v_high, .int v_overrun, .int v_vacated, .int v_queued, .int v_given, .int v_changes, .int v_total, .ref a_last, .int v_held, .int v_asked, .int v_urgent, .int v_lost])), (a_rows, .inl (cA, 96, .inl v_rows)), (a_sizes, .inl (cA, 4, .inl (upd v_sizes p_1.toNatClampNeg ((v_sizes p_1.toNatClampNeg) - 1)))), (a_faults, .inl (cA, 16, .inl v_faults)), (a_last, .inl (cA, 32, .inl v_last))] := hD
  refine lv_bipush (v := 24) hx hb d_T_removeFirst_24 (by decide) ?_
  refine lv_iload_n hx hb d_T_removeFirst_26 rfl (lv_at hl 2 rfl) ?_
  refine lv_imul hx hb d_T_removeFirst_27 ?_
  refine lv_istore_n (lv' := [(3, .int (24 * p_1)), (2, .int (v_rows (24 * p_1).toNatClampNeg)), (0, .ref a0), (1, .int p_1)]) hx hb d_T_removeFirst_28 rfl hl (by decide) rfl (fun ls hl => ?_)
  exact wo _ _ _ (k_29 128 (v_ticks, v_due, v_sending, v_heard, v_level, v_enabled, v_format, v_control, v_spare, v_low, v_high, v_overrun, v_vacated, v_queued, v_given, v_changes, v_total, v_held, v_asked, v_urgent, v_lost, v_rows, (upd v_sizes p_1.toNatClampNeg ((v_sizes p_1.toNatClampNeg) - 1)), v_faults, v_last) p_1 (v_rows (24 * p_1).toNatClampNeg) (24 * p_1) hf _ _ _ hP hD hS (lv_sub hl [2, 3, 1, 0] rfl))
def f_T_places_13 : TwT → Int32 → Option (Int32)
  | (v_ticks, v_due, v_sending, v_heard, v_level, v_enabled, v_format, v_control, v_spare, v_low, v_high, v_overrun, v_vacated, v_queued, v_given, v_changes, v_total, v_held, v_asked, v_urgent, v_lost, v_rows, v_sizes, v_faults, v_last), s_1 => some s_1
def f_T_places : TwT → Option (Int32)
  | (v_ticks, v_due, v_sending, v_heard, v_level, v_enabled, v_format, v_control, v_spare, v_low, v_high, v_overrun, v_vacated, v_queued, v_given, v_changes, v_total, v_held, v_asked, v_urgent, v_lost, v_rows, v_sizes, v_faults, v_last) => if v_queued = 0 then (f_T_places_13 (v_ticks, v_due, v_sending, v_heard, v_level, v_enabled, v_format, v_control, v_spare, v_low, v_high, v_overrun, v_vacated, v_queued, v_given, v_changes, v_total, v_held, v_asked, v_urgent, v_lost, v_rows, v_sizes, v_faults, v_last) 1) else (f_T_places_13 (v_ticks, v_due, v_sending, v_heard, v_level, v_enabled, v_format, v_control, v_spare, v_low, v_high, v_overrun, v_vacated, v_queued, v_given, v_changes, v_total, v_held, v_asked, v_urgent, v_lost, v_rows, v_sizes, v_faults, v_last) 16)
set_option maxHeartbeats 8000000 in
set_option maxRecDepth 100000 in
theorem c_T_places (l : Launch) (dC : Nat → ClassId) (dI : Nat → Nat → Nat) (cA : ClassId) (t : Nat) (a0 a_rows a_sizes a_faults a_last : Nat) (sz : Nat) (u : TwT) (q : Int32) (hf : f_T_places u = some q) : Met l y_T_places (Cond.code y_T_places b_T_places 1 (some .int) :: W0) ({ frames := 0, cells := 0, slots := 0, locals := 0 }) (va_Pc [.ref a0] (pc_ (dC, dI) [(cA, .int)] t sz (cw_T cA a0 a_rows a_sizes a_faults a_last u))) (qr_ (dC, dI) (cw_T cA a0 a_rows a_sizes a_faults a_last u) q (va_A (cw_T cA a0 a_rows a_sizes a_faults a_last u) sz)) 0 0 (va_A (cw_T cA a0 a_rows a_sizes a_faults a_last u) sz) := by
  obtain ⟨v_ticks, v_due, v_sending, v_heard, v_level, v_enabled, v_format, v_control, v_spare, v_low, v_high, v_overrun, v_vacated, v_queued, v_given, v_changes, v_total, v_held, v_asked, v_urgent, v_lost, v_rows, v_sizes, v_faults, v_last⟩ := u
  refine start_ l (qr_ (dC, dI) _ q) (by decide) (Nat.le_of_ble_eq_true rfl) ?_
  intro p e s m below meth c hx hb hml hr hown ht hlocks hnm A hA hS hP hK hD hZ ls hl
  have hown : s.vm.findClass cls_T = some m.cls := hown
  refine wabs_ (fun WW wi wo => ?_)
  have k_13 : ∀ (s_1 : Int32), f_T_places_13 (v_ticks, v_due, v_sending, v_heard, v_level, v_enabled, v_format, v_control, v_spare, v_low, v_high, v_overrun, v_vacated, v_queued, v_given, v_changes, v_total, v_held, v_asked, v_urgent, v_lost, v_rows, v_sizes, v_faults, v_last) s_1 = some q → ∀ (H : Heap) (locs : List Loc) (ls : Array Slot), va_P (dC, dI) cls [(a0, .inr (6, [.ref a_rows, .ref a_sizes, .ref a_faults, .int v_ticks, .int v_due, .int v_sending, .int v_heard, .int v_level, .int v_enabled, .int v_format, .int v_control, .int v_spare, .int v_low, .int v_high, .int v_overrun, .int v_vacated, .int v_queued, .int v_given, .int v_changes, .int v_total, .ref a_last, .int v_held, .int v_asked, .int v_urgent, .int v_lost])), (a_rows, .inl (cA, 96, .inl v_rows)), (a_sizes, .inl (cA, 4, .inl v_sizes)), (a_faults, .inl (cA, 16, .inl v_faults)), (a_last, .inl (cA, 32, .inl v_last))] H → va_D A [(a0, .inr (6, [.ref a_rows, .ref a_sizes, .ref a_faults, .int v_ticks, .int v_due, .int v_sending, .int v_heard, .int v_level, .int v_enabled, .int v_format, .int v_control, .int v_spare, .int v_low, .int v_high, .int v_overrun, .int v_vacated, .int v_queued, .int v_given, .int v_changes, .int v_total, .ref a_last, .int v_held, .int v_asked, .int v_urgent, .int v_lost])), (a_rows, .inl (cA, 96, .inl v_rows)), (a_sizes, .inl (cA, 4, .inl v_sizes)), (a_faults, .inl (cA, 16, .inl v_faults)), (a_last, .inl (cA, 32, .inl v_last))] → va_S A s.heap H locs → lv_has ls 1 [] → WW H locs (F0 m 13 ls [.int s_1]) := by
    intro s_1 hf H locs ls hP hD hS hl
    unfold f_T_places_13 at hf
    try dsimp only at hf
    have hP : va_P (dC, dI) cls [(a0, .inr (6, [.ref a_rows, .ref a_sizes, .ref a_faults, .int v_ticks, .int v_due, .int v_sending, .int v_heard, .int v_level, .int v_enabled, .int v_format, .int v_control, .int v_spare, .int v_low, .int v_high, .int v_overrun, .int v_vacated, .int v_queued, .int v_given, .int v_changes, .int v_total, .ref a_last, .int v_held, .int v_asked, .int v_urgent, .int v_lost])), (a_rows, .inl (cA, 96, .inl v_rows)), (a_sizes, .inl (cA, 4, .inl v_sizes)), (a_faults, .inl (cA, 16, .inl v_faults)), (a_last, .inl (cA, 32, .inl v_last))] _ := hP
    have hD : va_D A [(a0, .inr (6, [.ref a_rows, .ref a_sizes, .ref a_faults, .int v_ticks, .int v_due, .int v_sending, .int v_heard, .int v_level, .int v_enabled, .int v_format, .int v_control, .int v_spare, .int v_low, .int v_high, .int v_overrun, .int v_vacated, .int v_queued, .int v_given, .int v_changes, .int v_total, .ref a_last, .int v_held, .int v_asked, .int v_urgent, .int v_lost])), (a_rows, .inl (cA, 96, .inl v_rows)), (a_sizes, .inl (cA, 4, .inl v_sizes)), (a_faults, .inl (cA, 16, .inl v_faults)), (a_last, .inl (cA, 32, .inl v_last))] := hD
    refine wi _ _ _ ?_
    exact W.iret hx hb hr (fun t9 ht9 _ => rr_ (Option.some.inj hf) hP hD hS ht9) hS.2.2 d_T_places_13
  unfold f_T_places at hf
  try dsimp only at hf
  have hP : va_P (dC, dI) cls [(a0, .inr (6, [.ref a_rows, .ref a_sizes, .ref a_faults, .int v_ticks, .int v_due, .int v_sending, .int v_heard, .int v_level, .int v_enabled, .int v_format, .int v_control, .int v_spare, .int v_low, .int v_high, .int v_overrun, .int v_vacated, .int v_queued, .int v_given, .int v_changes, .int v_total, .ref a_last, .int v_held, .int v_asked, .int v_urgent, .int v_lost])), (a_rows, .inl (cA, 96, .inl v_rows)), (a_sizes, .inl (cA, 4, .inl v_sizes)), (a_faults, .inl (cA, 16, .inl v_faults)), (a_last, .inl (cA, 32, .inl v_last))] _ := hP
  have hD : va_D A [(a0, .inr (6, [.ref a_rows, .ref a_sizes, .ref a_faults, .int v_ticks, .int v_due, .int v_sending, .int v_heard, .int v_level, .int v_enabled, .int v_format, .int v_control, .int v_spare, .int v_low, .int v_high, .int v_overrun, .int v_vacated, .int v_queued, .int v_given, .int v_changes, .int v_total, .ref a_last, .int v_held, .int v_asked, .int v_urgent, .int v_lost])), (a_rows, .inl (cA, 96, .inl v_rows)), (a_sizes, .inl (cA, 4, .inl v_sizes)), (a_faults, .inl (cA, 16, .inl v_faults)), (a_last, .inl (cA, 32, .inl v_last))] := hD
  refine wi _ _ _ ?_
  have hl : lv_has ls 1 [(0, .ref a0)] := hl
  refine lv_aload_n hx hb d_T_places_0 rfl (lv_at hl 0 rfl) ?_
  refine va_get (D := (dC, dI)) (ci := 6) (v := .int v_queued) (C := cls_T) (T := fld_T) (N := 25) hx hb ht iin_T hown hK hP 0 rfl rfl 16 (by decide) (ht _ k_T_29) (fun _ h9 => h9) rfl d_T_places_1 ?_
  refine lv_if_eq (tgt := 12) hx hb d_T_places_4 (by decide) (fun c_4 => ?_) (fun c_4 => ?_)
  · have hf := ite_t hf c_4
    refine lv_iconst (v := 1) hx hb d_T_places_12 (by decide) ?_
    exact wo _ _ _ (k_13 1 hf _ _ _ hP hD hS (lv_sub hl [] rfl))
  · have hf := ite_f hf c_4
    refine lv_bipush (v := 16) hx hb d_T_places_7 (by decide) ?_
    refine lv_goto (tgt := 13) hx hb d_T_places_9 (by decide) ?_
    exact wo _ _ _ (k_13 16 hf _ _ _ hP hD hS (lv_sub hl [] rfl))
def f_T_span_24 : TwT → Int32 → Option (Int32)
  | (v_ticks, v_due, v_sending, v_heard, v_level, v_enabled, v_format, v_control, v_spare, v_low, v_high, v_overrun, v_vacated, v_queued, v_given, v_changes, v_total, v_held, v_asked, v_urgent, v_lost, v_rows, v_sizes, v_faults, v_last), s_1 => some s_1
def f_T_span : TwT → Option (Int32)
  | (v_ticks, v_due, v_sending, v_heard, v_level, v_enabled, v_format, v_control, v_spare, v_low, v_high, v_overrun, v_vacated, v_queued, v_given, v_changes, v_total, v_held, v_asked, v_urgent, v_lost, v_rows, v_sizes, v_faults, v_last) => if 1 ≤ (v_low + (256 * v_high)) then (f_T_span_24 (v_ticks, v_due, v_sending, v_heard, v_level, v_enabled, v_format, v_control, v_spare, v_low, v_high, v_overrun, v_vacated, v_queued, v_given, v_changes, v_total, v_held, v_asked, v_urgent, v_lost, v_rows, v_sizes, v_faults, v_last) (v_low + (256 * v_high))) else (f_T_span_24 (v_ticks, v_due, v_sending, v_heard, v_level, v_enabled, v_format, v_control, v_spare, v_low, v_high, v_overrun, v_vacated, v_queued, v_given, v_changes, v_total, v_held, v_asked, v_urgent, v_lost, v_rows, v_sizes, v_faults, v_last) 1)
set_option maxHeartbeats 8000000 in
set_option maxRecDepth 100000 in
theorem c_T_span (l : Launch) (dC : Nat → ClassId) (dI : Nat → Nat → Nat) (cA : ClassId) (t : Nat) (a0 a_rows a_sizes a_faults a_last : Nat) (sz : Nat) (u : TwT) (q : Int32) (hf : f_T_span u = some q) : Met l y_T_span (Cond.code y_T_span b_T_span 2 (some .int) :: W0) ({ frames := 0, cells := 0, slots := 0, locals := 0 }) (va_Pc [.ref a0] (pc_ (dC, dI) [(cA, .int)] t sz (cw_T cA a0 a_rows a_sizes a_faults a_last u))) (qr_ (dC, dI) (cw_T cA a0 a_rows a_sizes a_faults a_last u) q (va_A (cw_T cA a0 a_rows a_sizes a_faults a_last u) sz)) 0 0 (va_A (cw_T cA a0 a_rows a_sizes a_faults a_last u) sz) := by
  obtain ⟨v_ticks, v_due, v_sending, v_heard, v_level, v_enabled, v_format, v_control, v_spare, v_low, v_high, v_overrun, v_vacated, v_queued, v_given, v_changes, v_total, v_held, v_asked, v_urgent, v_lost, v_rows, v_sizes, v_faults, v_last⟩ := u
  refine start_ l (qr_ (dC, dI) _ q) (by decide) (Nat.le_of_ble_eq_true rfl) ?_
  intro p e s m below meth c hx hb hml hr hown ht hlocks hnm A hA hS hP hK hD hZ ls hl
  have hown : s.vm.findClass cls_T = some m.cls := hown
  refine wabs_ (fun WW wi wo => ?_)
  have k_24 : ∀ (s_1 : Int32), f_T_span_24 (v_ticks, v_due, v_sending, v_heard, v_level, v_enabled, v_format, v_control, v_spare, v_low, v_high, v_overrun, v_vacated, v_queued, v_given, v_changes, v_total, v_held, v_asked, v_urgent, v_lost, v_rows, v_sizes, v_faults, v_last) s_1 = some q → ∀ (H : Heap) (locs : List Loc) (ls : Array Slot), va_P (dC, dI) cls [(a0, .inr (6, [.ref a_rows, .ref a_sizes, .ref a_faults, .int v_ticks, .int v_due, .int v_sending, .int v_heard, .int v_level, .int v_enabled, .int v_format, .int v_control, .int v_spare, .int v_low, .int v_high, .int v_overrun, .int v_vacated, .int v_queued, .int v_given, .int v_changes, .int v_total, .ref a_last, .int v_held, .int v_asked, .int v_urgent, .int v_lost])), (a_rows, .inl (cA, 96, .inl v_rows)), (a_sizes, .inl (cA, 4, .inl v_sizes)), (a_faults, .inl (cA, 16, .inl v_faults)), (a_last, .inl (cA, 32, .inl v_last))] H → va_D A [(a0, .inr (6, [.ref a_rows, .ref a_sizes, .ref a_faults, .int v_ticks, .int v_due, .int v_sending, .int v_heard, .int v_level, .int v_enabled, .int v_format, .int v_control, .int v_spare, .int v_low, .int v_high, .int v_overrun, .int v_vacated, .int v_queued, .int v_given, .int v_changes, .int v_total, .ref a_last, .int v_held, .int v_asked, .int v_urgent, .int v_lost])), (a_rows, .inl (cA, 96, .inl v_rows)), (a_sizes, .inl (cA, 4, .inl v_sizes)), (a_faults, .inl (cA, 16, .inl v_faults)), (a_last, .inl (cA, 32, .inl v_last))] → va_S A s.heap H locs → lv_has ls 2 [] → WW H locs (F0 m 24 ls [.int s_1]) := by
    intro s_1 hf H locs ls hP hD hS hl
    unfold f_T_span_24 at hf
    try dsimp only at hf
    have hP : va_P (dC, dI) cls [(a0, .inr (6, [.ref a_rows, .ref a_sizes, .ref a_faults, .int v_ticks, .int v_due, .int v_sending, .int v_heard, .int v_level, .int v_enabled, .int v_format, .int v_control, .int v_spare, .int v_low, .int v_high, .int v_overrun, .int v_vacated, .int v_queued, .int v_given, .int v_changes, .int v_total, .ref a_last, .int v_held, .int v_asked, .int v_urgent, .int v_lost])), (a_rows, .inl (cA, 96, .inl v_rows)), (a_sizes, .inl (cA, 4, .inl v_sizes)), (a_faults, .inl (cA, 16, .inl v_faults)), (a_last, .inl (cA, 32, .inl v_last))] _ := hP
    have hD : va_D A [(a0, .inr (6, [.ref a_rows, .ref a_sizes, .ref a_faults, .int v_ticks, .int v_due, .int v_sending, .int v_heard, .int v_level, .int v_enabled, .int v_format, .int v_control, .int v_spare, .int v_low, .int v_high, .int v_overrun, .int v_vacated, .int v_queued, .int v_given, .int v_changes, .int v_total, .ref a_last, .int v_held, .int v_asked, .int v_urgent, .int v_lost])), (a_rows, .inl (cA, 96, .inl v_rows)), (a_sizes, .inl (cA, 4, .inl v_sizes)), (a_faults, .inl (cA, 16, .inl v_faults)), (a_last, .inl (cA, 32, .inl v_last))] := hD
    refine wi _ _ _ ?_
    exact W.iret hx hb hr (fun t9 ht9 _ => rr_ (Option.some.inj hf) hP hD hS ht9) hS.2.2 d_T_span_24
  unfold f_T_span at hf
  try dsimp only at hf
  have hP : va_P (dC, dI) cls [(a0, .inr (6, [.ref a_rows, .ref a_sizes, .ref a_faults, .int v_ticks, .int v_due, .int v_sending, .int v_heard, .int v_level, .int v_enabled, .int v_format, .int v_control, .int v_spare, .int v_low, .int v_high, .int v_overrun, .int v_vacated, .int v_queued, .int v_given, .int v_changes, .int v_total, .ref a_last, .int v_held, .int v_asked, .int v_urgent, .int v_lost])), (a_rows, .inl (cA, 96, .inl v_rows)), (a_sizes, .inl (cA, 4, .inl v_sizes)), (a_faults, .inl (cA, 16, .inl v_faults)), (a_last, .inl (cA, 32, .inl v_last))] _ := hP
  have hD : va_D A [(a0, .inr (6, [.ref a_rows, .ref a_sizes, .ref a_faults, .int v_ticks, .int v_due, .int v_sending, .int v_heard, .int v_level, .int v_enabled, .int v_format, .int v_control, .int v_spare, .int v_low, .int v_high, .int v_overrun, .int v_vacated, .int v_queued, .int v_given, .int v_changes, .int v_total, .ref a_last, .int v_held, .int v_asked, .int v_urgent, .int v_lost])), (a_rows, .inl (cA, 96, .inl v_rows)), (a_sizes, .inl (cA, 4, .inl v_sizes)), (a_faults, .inl (cA, 16, .inl v_faults)), (a_last, .inl (cA, 32, .inl v_last))] := hD
  refine wi _ _ _ ?_
  have hl : lv_has ls 2 [(0, .ref a0)] := hl
  refine lv_aload_n hx hb d_T_span_0 rfl (lv_at hl 0 rfl) ?_
  refine va_get (D := (dC, dI)) (ci := 6) (v := .int v_low) (C := cls_T) (T := fld_T) (N := 25) hx hb ht iin_T hown hK hP 0 rfl rfl 12 (by decide) (ht _ k_T_23) (fun _ h9 => h9) rfl d_T_span_1 ?_
  refine lv_sipush (v := 256) hx hb d_T_span_4 (by decide) ?_
  refine lv_aload_n hx hb d_T_span_7 rfl (lv_at hl 0 rfl) ?_
  refine va_get (D := (dC, dI)) (ci := 6) (v := .int v_high) (C := cls_T) (T := fld_T) (N := 25) hx hb ht iin_T hown hK hP 0 rfl rfl 13 (by decide) (ht _ k_T_33) (fun _ h9 => h9) rfl d_T_span_8 ?_
  refine lv_imul hx hb d_T_span_11 ?_
  refine lv_iadd hx hb d_T_span_12 ?_
  refine lv_istore_n (lv' := [(1, .int (v_low + (256 * v_high))), (0, .ref a0)]) hx hb d_T_span_13 rfl hl (by decide) rfl (fun ls hl => ?_)
  refine lv_iload_n hx hb d_T_span_14 rfl (lv_at hl 0 rfl) ?_
  refine lv_iconst (v := 1) hx hb d_T_span_15 (by decide) ?_
  refine lv_icmp_ge (tgt := 23) hx hb d_T_span_16 (by decide) (fun c_16 => ?_) (fun c_16 => ?_)
  · have hf := ite_t hf c_16
    refine lv_iload_n hx hb d_T_span_23 rfl (lv_at hl 0 rfl) ?_
    exact wo _ _ _ (k_24 (v_low + (256 * v_high)) hf _ _ _ hP hD hS (lv_sub hl [] rfl))
  · have hf := ite_f hf c_16
    refine lv_iconst (v := 1) hx hb d_T_span_19 (by decide) ?_
    refine lv_goto (tgt := 24) hx hb d_T_span_20 (by decide) ?_
    exact wo _ _ _ (k_24 1 hf _ _ _ hP hD hS (lv_sub hl [] rfl))
def f_T_isOn_14 : TwT → Int32 → Option (Int32)
  | (v_ticks, v_due, v_sending, v_heard, v_level, v_enabled, v_format, v_control, v_spare, v_low, v_high, v_overrun, v_vacated, v_queued, v_given, v_changes, v_total, v_held, v_asked, v_urgent, v_lost, v_rows, v_sizes, v_faults, v_last), s_1 => gb_ s_1 (some s_1)
def f_T_isOn : TwT → Int32 → Int32 → Option (Int32)
  | (v_ticks, v_due, v_sending, v_heard, v_level, v_enabled, v_format, v_control, v_spare, v_low, v_high, v_overrun, v_vacated, v_queued, v_given, v_changes, v_total, v_held, v_asked, v_urgent, v_lost, v_rows, v_sizes, v_faults, v_last), p_1, p_2 => if ((p_1 >>> ((p_2 : Int32) &&& 31)) &&& 1) = 1 then (f_T_isOn_14 (v_ticks, v_due, v_sending, v_heard, v_level, v_enabled, v_format, v_control, v_spare, v_low, v_high, v_overrun, v_vacated, v_queued, v_given, v_changes, v_total, v_held, v_asked, v_urgent, v_lost, v_rows, v_sizes, v_faults, v_last) 1) else (f_T_isOn_14 (v_ticks, v_due, v_sending, v_heard, v_level, v_enabled, v_format, v_control, v_spare, v_low, v_high, v_overrun, v_vacated, v_queued, v_given, v_changes, v_total, v_held, v_asked, v_urgent, v_lost, v_rows, v_sizes, v_faults, v_last) 0)
set_option maxHeartbeats 8000000 in
set_option maxRecDepth 100000 in
theorem c_T_isOn (l : Launch) (dC : Nat → ClassId) (dI : Nat → Nat → Nat) (cA : ClassId) (t : Nat) (a0 a_rows a_sizes a_faults a_last : Nat) (sz : Nat) (u : TwT) (p_1 p_2 : Int32) (q : Int32) (hf : f_T_isOn u p_1 p_2 = some q) : Met l y_T_isOn (Cond.code y_T_isOn b_T_isOn 3 (some .boolean) :: W0) ({ frames := 0, cells := 0, slots := 0, locals := 0 }) (va_Pc [.ref a0, .int p_1, .int p_2] (pc_ (dC, dI) [(cA, .int)] t sz (cw_T cA a0 a_rows a_sizes a_faults a_last u))) (qr_ (dC, dI) (cw_T cA a0 a_rows a_sizes a_faults a_last u) q (va_A (cw_T cA a0 a_rows a_sizes a_faults a_last u) sz)) 0 0 (va_A (cw_T cA a0 a_rows a_sizes a_faults a_last u) sz) := by
  obtain ⟨v_ticks, v_due, v_sending, v_heard, v_level, v_enabled, v_format, v_control, v_spare, v_low, v_high, v_overrun, v_vacated, v_queued, v_given, v_changes, v_total, v_held, v_asked, v_urgent, v_lost, v_rows, v_sizes, v_faults, v_last⟩ := u
  refine start_ l (qr_ (dC, dI) _ q) (by decide) (Nat.le_of_ble_eq_true rfl) ?_
  intro p e s m below meth c hx hb hml hr hown ht hlocks hnm A hA hS hP hK hD hZ ls hl
  have hown : s.vm.findClass cls_T = some m.cls := hown
  refine wabs_ (fun WW wi wo => ?_)
  have k_14 : ∀ (s_1 : Int32), f_T_isOn_14 (v_ticks, v_due, v_sending, v_heard, v_level, v_enabled, v_format, v_control, v_spare, v_low, v_high, v_overrun, v_vacated, v_queued, v_given, v_changes, v_total, v_held, v_asked, v_urgent, v_lost, v_rows, v_sizes, v_faults, v_last) s_1 = some q → ∀ (H : Heap) (locs : List Loc) (ls : Array Slot), va_P (dC, dI) cls [(a0, .inr (6, [.ref a_rows, .ref a_sizes, .ref a_faults, .int v_ticks, .int v_due, .int v_sending, .int v_heard, .int v_level, .int v_enabled, .int v_format, .int v_control, .int v_spare, .int v_low, .int v_high, .int v_overrun, .int v_vacated, .int v_queued, .int v_given, .int v_changes, .int v_total, .ref a_last, .int v_held, .int v_asked, .int v_urgent, .int v_lost])), (a_rows, .inl (cA, 96, .inl v_rows)), (a_sizes, .inl (cA, 4, .inl v_sizes)), (a_faults, .inl (cA, 16, .inl v_faults)), (a_last, .inl (cA, 32, .inl v_last))] H → va_D A [(a0, .inr (6, [.ref a_rows, .ref a_sizes, .ref a_faults, .int v_ticks, .int v_due, .int v_sending, .int v_heard, .int v_level, .int v_enabled, .int v_format, .int v_control, .int v_spare, .int v_low, .int v_high, .int v_overrun, .int v_vacated, .int v_queued, .int v_given, .int v_changes, .int v_total, .ref a_last, .int v_held, .int v_asked, .int v_urgent, .int v_lost])), (a_rows, .inl (cA, 96, .inl v_rows)), (a_sizes, .inl (cA, 4, .inl v_sizes)), (a_faults, .inl (cA, 16, .inl v_faults)), (a_last, .inl (cA, 32, .inl v_last))] → va_S A s.heap H locs → lv_has ls 3 [] → WW H locs (F0 m 14 ls [.int s_1]) := by
    intro s_1 hf H locs ls hP hD hS hl
    unfold f_T_isOn_14 at hf
    try dsimp only at hf
    have hP : va_P (dC, dI) cls [(a0, .inr (6, [.ref a_rows, .ref a_sizes, .ref a_faults, .int v_ticks, .int v_due, .int v_sending, .int v_heard, .int v_level, .int v_enabled, .int v_format, .int v_control, .int v_spare, .int v_low, .int v_high, .int v_overrun, .int v_vacated, .int v_queued, .int v_given, .int v_changes, .int v_total, .ref a_last, .int v_held, .int v_asked, .int v_urgent, .int v_lost])), (a_rows, .inl (cA, 96, .inl v_rows)), (a_sizes, .inl (cA, 4, .inl v_sizes)), (a_faults, .inl (cA, 16, .inl v_faults)), (a_last, .inl (cA, 32, .inl v_last))] _ := hP
    have hD : va_D A [(a0, .inr (6, [.ref a_rows, .ref a_sizes, .ref a_faults, .int v_ticks, .int v_due, .int v_sending, .int v_heard, .int v_level, .int v_enabled, .int v_format, .int v_control, .int v_spare, .int v_low, .int v_high, .int v_overrun, .int v_vacated, .int v_queued, .int v_given, .int v_changes, .int v_total, .ref a_last, .int v_held, .int v_asked, .int v_urgent, .int v_lost])), (a_rows, .inl (cA, 96, .inl v_rows)), (a_sizes, .inl (cA, 4, .inl v_sizes)), (a_faults, .inl (cA, 16, .inl v_faults)), (a_last, .inl (cA, 32, .inl v_last))] := hD
    refine wi _ _ _ ?_
    obtain ⟨hb_14, hf⟩ := gb_e hf
    exact W.zret hx hb hr hb_14.1 (fun t9 ht9 _ => rr_ (Option.some.inj hf) hP hD hS ht9) hS.2.2 d_T_isOn_14
  unfold f_T_isOn at hf
  try dsimp only at hf
  have hP : va_P (dC, dI) cls [(a0, .inr (6, [.ref a_rows, .ref a_sizes, .ref a_faults, .int v_ticks, .int v_due, .int v_sending, .int v_heard, .int v_level, .int v_enabled, .int v_format, .int v_control, .int v_spare, .int v_low, .int v_high, .int v_overrun, .int v_vacated, .int v_queued, .int v_given, .int v_changes, .int v_total, .ref a_last, .int v_held, .int v_asked, .int v_urgent, .int v_lost])), (a_rows, .inl (cA, 96, .inl v_rows)), (a_sizes, .inl (cA, 4, .inl v_sizes)), (a_faults, .inl (cA, 16, .inl v_faults)), (a_last, .inl (cA, 32, .inl v_last))] _ := hP
  have hD : va_D A [(a0, .inr (6, [.ref a_rows, .ref a_sizes, .ref a_faults, .int v_ticks, .int v_due, .int v_sending, .int v_heard, .int v_level, .int v_enabled, .int v_format, .int v_control, .int v_spare, .int v_low, .int v_high, .int v_overrun, .int v_vacated, .int v_queued, .int v_given, .int v_changes, .int v_total, .ref a_last, .int v_held, .int v_asked, .int v_urgent, .int v_lost])), (a_rows, .inl (cA, 96, .inl v_rows)), (a_sizes, .inl (cA, 4, .inl v_sizes)), (a_faults, .inl (cA, 16, .inl v_faults)), (a_last, .inl (cA, 32, .inl v_last))] := hD
  refine wi _ _ _ ?_
  have hl : lv_has ls 3 [(0, .ref a0), (1, .int p_1), (2, .int p_2)] := hl
  refine lv_iload_n hx hb d_T_isOn_0 rfl (lv_at hl 1 rfl) ?_
  refine lv_iload_n hx hb d_T_isOn_1 rfl (lv_at hl 2 rfl) ?_
  refine lv_ishr hx hb d_T_isOn_2 ?_
  refine lv_iconst (v := 1) hx hb d_T_isOn_3 (by decide) ?_
  refine lv_iand hx hb d_T_isOn_4 ?_
  refine lv_iconst (v := 1) hx hb d_T_isOn_5 (by decide) ?_
  refine lv_icmp_ne (tgt := 13) hx hb d_T_isOn_6 (by decide) (fun c_6 => ?_) (fun c_6 => ?_)
  · have hf := ite_f hf c_6
    refine lv_iconst (v := 0) hx hb d_T_isOn_13 (by decide) ?_
    exact wo _ _ _ (k_14 0 hf _ _ _ hP hD hS (lv_sub hl [] rfl))
  · have hf := ite_t hf c_6
    refine lv_iconst (v := 1) hx hb d_T_isOn_9 (by decide) ?_
    refine lv_goto (tgt := 14) hx hb d_T_isOn_10 (by decide) ?_
    exact wo _ _ _ (k_14 1 hf _ _ _ hP hD hS (lv_sub hl [] rfl))
def f_T_loops : TwT → Option (Int32)
  | (v_ticks, v_due, v_sending, v_heard, v_level, v_enabled, v_format, v_control, v_spare, v_low, v_high, v_overrun, v_vacated, v_queued, v_given, v_changes, v_total, v_held, v_asked, v_urgent, v_lost, v_rows, v_sizes, v_faults, v_last) => Option.bind (f_T_isOn (v_ticks, v_due, v_sending, v_heard, v_level, v_enabled, v_format, v_control, v_spare, v_low, v_high, v_overrun, v_vacated, v_queued, v_given, v_changes, v_total, v_held, v_asked, v_urgent, v_lost, v_rows, v_sizes, v_faults, v_last) v_control 4) (fun r_6 => gb_ r_6 (some r_6))
set_option maxHeartbeats 8000000 in
set_option maxRecDepth 100000 in
theorem c_T_loops (l : Launch) (dC : Nat → ClassId) (dI : Nat → Nat → Nat) (cA : ClassId) (t : Nat) (a0 a_rows a_sizes a_faults a_last : Nat) (sz : Nat) (u : TwT) (q : Int32) (hf : f_T_loops u = some q) : Met l y_T_loops (Cond.code y_T_loops b_T_loops 1 (some .boolean) :: W0) ({ frames := 1, cells := 0, slots := 0, locals := 22 }) (va_Pc [.ref a0] (pc_ (dC, dI) [(cA, .int)] t sz (cw_T cA a0 a_rows a_sizes a_faults a_last u))) (qr_ (dC, dI) (cw_T cA a0 a_rows a_sizes a_faults a_last u) q (va_A (cw_T cA a0 a_rows a_sizes a_faults a_last u) sz)) 0 0 (va_A (cw_T cA a0 a_rows a_sizes a_faults a_last u) sz) := by
  obtain ⟨v_ticks, v_due, v_sending, v_heard, v_level, v_enabled, v_format, v_control, v_spare, v_low, v_high, v_overrun, v_vacated, v_queued, v_given, v_changes, v_total, v_held, v_asked, v_urgent, v_lost, v_rows, v_sizes, v_faults, v_last⟩ := u
  refine start_ l (qr_ (dC, dI) _ q) (by decide) (Nat.le_of_ble_eq_true rfl) ?_
  intro p e s m below meth c hx hb hml hr hown ht hlocks hnm A hA hS hP hK hD hZ ls hl
  have hown : s.vm.findClass cls_T = some m.cls := hown
  refine wabs_ (fun WW wi wo => ?_)
  unfold f_T_loops at hf
  try dsimp only at hf
  have hP : va_P (dC, dI) cls [(a0, .inr (6, [.ref a_rows, .ref a_sizes, .ref a_faults, .int v_ticks, .int v_due, .int v_sending, .int v_heard, .int v_level, .int v_enabled, .int v_format, .int v_control, .int v_spare, .int v_low, .int v_high, .int v_overrun, .int v_vacated, .int v_queued, .int v_given, .int v_changes, .int v_total, .ref a_last, .int v_held, .int v_asked, .int v_urgent, .int v_lost])), (a_rows, .inl (cA, 96, .inl v_rows)), (a_sizes, .inl (cA, 4, .inl v_sizes)), (a_faults, .inl (cA, 16, .inl v_faults)), (a_last, .inl (cA, 32, .inl v_last))] _ := hP
  have hD : va_D A [(a0, .inr (6, [.ref a_rows, .ref a_sizes, .ref a_faults, .int v_ticks, .int v_due, .int v_sending, .int v_heard, .int v_level, .int v_enabled, .int v_format, .int v_control, .int v_spare, .int v_low, .int v_high, .int v_overrun, .int v_vacated, .int v_queued, .int v_given, .int v_changes, .int v_total, .ref a_last, .int v_held, .int v_asked, .int v_urgent, .int v_lost])), (a_rows, .inl (cA, 96, .inl v_rows)), (a_sizes, .inl (cA, 4, .inl v_sizes)), (a_faults, .inl (cA, 16, .inl v_faults)), (a_last, .inl (cA, 32, .inl v_last))] := hD
  refine wi _ _ _ ?_
  have hl : lv_has ls 1 [(0, .ref a0)] := hl
  refine lv_aload_n hx hb d_T_loops_0 rfl (lv_at hl 0 rfl) ?_
  refine lv_aload_n hx hb d_T_loops_1 rfl (lv_at hl 0 rfl) ?_
  refine va_get (D := (dC, dI)) (ci := 6) (v := .int v_control) (C := cls_T) (T := fld_T) (N := 25) hx hb ht iin_T hown hK hP 0 rfl rfl 10 (by decide) (ht _ k_T_36) (fun _ h9 => h9) rfl d_T_loops_2 ?_
  refine lv_iconst (v := 4) hx hb d_T_loops_5 (by decide) ?_
  obtain ⟨q_6, hc_6, hf⟩ := bind_e hf
  refine cVr_ (wc := cw_T cA a0 a_rows a_sizes a_faults a_last (v_ticks, v_due, v_sending, v_heard, v_level, v_enabled, v_format, v_control, v_spare, v_low, v_high, v_overrun, v_vacated, v_queued, v_given, v_changes, v_total, v_held, v_asked, v_urgent, v_lost, v_rows, v_sizes, v_faults, v_last)) (wr := []) (As := [.int v_control, .int 4]) (rest := []) ⟨hx, hb, hml, hown, ht⟩ (c_T_isOn l dC dI cA t a0 a_rows a_sizes a_faults a_last _ (v_ticks, v_due, v_sending, v_heard, v_level, v_enabled, v_format, v_control, v_spare, v_low, v_high, v_overrun, v_vacated, v_queued, v_given, v_changes, v_total, v_held, v_asked, v_urgent, v_lost, v_rows, v_sizes, v_faults, v_last) v_control 4 q_6 hc_6) (cwV 2 ht (gV_ k_T_39 ki_T_isOn ks_T_isOn kn_T kc_T_isOn) rfl rfl rfl ⟨rfl, hd_T_isOn⟩ ⟨Nat.le_of_ble_eq_true rfl, Nat.le_of_ble_eq_true rfl⟩) hK hZ hA hP hD hS [0, 1, 2, 3, 4] [] rfl rfl (by decide) (by decide) (by decide) rfl rfl rfl rfl hl.1 (Nat.le_of_ble_eq_true rfl) d_T_loops_6 ⟨Nat.le_of_ble_eq_true rfl, Nat.le_of_ble_eq_true rfl⟩ (fun r_6 H locs hw hP hD hS => ?_)
  subst hw
  have hP : va_P (dC, dI) cls [(a0, .inr (6, [.ref a_rows, .ref a_sizes, .ref a_faults, .int v_ticks, .int v_due, .int v_sending, .int v_heard, .int v_level, .int v_enabled, .int v_format, .int v_control, .int v_spare, .int v_low, .int v_high, .int v_overrun, .int v_vacated, .int v_queued, .int v_given, .int v_changes, .int v_total, .ref a_last, .int v_held, .int v_asked, .int v_urgent, .int v_lost])), (a_rows, .inl (cA, 96, .inl v_rows)), (a_sizes, .inl (cA, 4, .inl v_sizes)), (a_faults, .inl (cA, 16, .inl v_faults)), (a_last, .inl (cA, 32, .inl v_last))] _ := hP.sub [0, 1, 2, 3, 4] rfl
  have hD : va_D A [(a0, .inr (6, [.ref a_rows, .ref a_sizes, .ref a_faults, .int v_ticks, .int v_due, .int v_sending, .int v_heard, .int v_level, .int v_enabled, .int v_format, .int v_control, .int v_spare, .int v_low, .int v_high, .int v_overrun, .int v_vacated, .int v_queued, .int v_given, .int v_changes, .int v_total, .ref a_last, .int v_held, .int v_asked, .int v_urgent, .int v_lost])), (a_rows, .inl (cA, 96, .inl v_rows)), (a_sizes, .inl (cA, 4, .inl v_sizes)), (a_faults, .inl (cA, 16, .inl v_faults)), (a_last, .inl (cA, 32, .inl v_last))] := hD.sub [0, 1, 2, 3, 4] (by decide) rfl
  obtain ⟨hb_9, hf⟩ := gb_e hf
  exact W.zret hx hb hr hb_9.1 (fun t9 ht9 _ => rr_ (Option.some.inj hf) hP hD hS ht9) hS.2.2 d_T_loops_9
def f_T_inputs : TwT → Option (Int32)
  | (v_ticks, v_due, v_sending, v_heard, v_level, v_enabled, v_format, v_control, v_spare, v_low, v_high, v_overrun, v_vacated, v_queued, v_given, v_changes, v_total, v_held, v_asked, v_urgent, v_lost, v_rows, v_sizes, v_faults, v_last) => Option.bind (f_T_loops (v_ticks, v_due, v_sending, v_heard, v_level, v_enabled, v_format, v_control, v_spare, v_low, v_high, v_overrun, v_vacated, v_queued, v_given, v_changes, v_total, v_held, v_asked, v_urgent, v_lost, v_rows, v_sizes, v_faults, v_last)) (fun r_1 => if r_1 = 0 then (some v_given) else (some (((v_control &&& 12) + ((v_control >>> ((1 : Int32) &&& 31)) &&& 1)) + ((v_control &&& 1) * 2))))
set_option maxHeartbeats 8000000 in
set_option maxRecDepth 100000 in
theorem c_T_inputs (l : Launch) (dC : Nat → ClassId) (dI : Nat → Nat → Nat) (cA : ClassId) (t : Nat) (a0 a_rows a_sizes a_faults a_last : Nat) (sz : Nat) (u : TwT) (q : Int32) (hf : f_T_inputs u = some q) : Met l y_T_inputs (Cond.code y_T_inputs b_T_inputs 1 (some .int) :: W0) ({ frames := 2, cells := 0, slots := 0, locals := 42 }) (va_Pc [.ref a0] (pc_ (dC, dI) [(cA, .int)] t sz (cw_T cA a0 a_rows a_sizes a_faults a_last u))) (qr_ (dC, dI) (cw_T cA a0 a_rows a_sizes a_faults a_last u) q (va_A (cw_T cA a0 a_rows a_sizes a_faults a_last u) sz)) 0 0 (va_A (cw_T cA a0 a_rows a_sizes a_faults a_last u) sz) := by
  obtain ⟨v_ticks, v_due, v_sending, v_heard, v_level, v_enabled, v_format, v_control, v_spare, v_low, v_high, v_overrun, v_vacated, v_queued, v_given, v_changes, v_total, v_held, v_asked, v_urgent, v_lost, v_rows, v_sizes, v_faults, v_last⟩ := u
  refine start_ l (qr_ (dC, dI) _ q) (by decide) (Nat.le_of_ble_eq_true rfl) ?_
  intro p e s m below meth c hx hb hml hr hown ht hlocks hnm A hA hS hP hK hD hZ ls hl
  have hown : s.vm.findClass cls_T = some m.cls := hown
  refine wabs_ (fun WW wi wo => ?_)
  unfold f_T_inputs at hf
  try dsimp only at hf
  have hP : va_P (dC, dI) cls [(a0, .inr (6, [.ref a_rows, .ref a_sizes, .ref a_faults, .int v_ticks, .int v_due, .int v_sending, .int v_heard, .int v_level, .int v_enabled, .int v_format, .int v_control, .int v_spare, .int v_low, .int v_high, .int v_overrun, .int v_vacated, .int v_queued, .int v_given, .int v_changes, .int v_total, .ref a_last, .int v_held, .int v_asked, .int v_urgent, .int v_lost])), (a_rows, .inl (cA, 96, .inl v_rows)), (a_sizes, .inl (cA, 4, .inl v_sizes)), (a_faults, .inl (cA, 16, .inl v_faults)), (a_last, .inl (cA, 32, .inl v_last))] _ := hP
  have hD : va_D A [(a0, .inr (6, [.ref a_rows, .ref a_sizes, .ref a_faults, .int v_ticks, .int v_due, .int v_sending, .int v_heard, .int v_level, .int v_enabled, .int v_format, .int v_control, .int v_spare, .int v_low, .int v_high, .int v_overrun, .int v_vacated, .int v_queued, .int v_given, .int v_changes, .int v_total, .ref a_last, .int v_held, .int v_asked, .int v_urgent, .int v_lost])), (a_rows, .inl (cA, 96, .inl v_rows)), (a_sizes, .inl (cA, 4, .inl v_sizes)), (a_faults, .inl (cA, 16, .inl v_faults)), (a_last, .inl (cA, 32, .inl v_last))] := hD
  refine wi _ _ _ ?_
  have hl : lv_has ls 1 [(0, .ref a0)] := hl
  refine lv_aload_n hx hb d_T_inputs_0 rfl (lv_at hl 0 rfl) ?_
  obtain ⟨q_1, hc_1, hf⟩ := bind_e hf
  refine cVr_ (wc := cw_T cA a0 a_rows a_sizes a_faults a_last (v_ticks, v_due, v_sending, v_heard, v_level, v_enabled, v_format, v_control, v_spare, v_low, v_high, v_overrun, v_vacated, v_queued, v_given, v_changes, v_total, v_held, v_asked, v_urgent, v_lost, v_rows, v_sizes, v_faults, v_last)) (wr := []) (As := []) (rest := []) ⟨hx, hb, hml, hown, ht⟩ (c_T_loops l dC dI cA t a0 a_rows a_sizes a_faults a_last _ (v_ticks, v_due, v_sending, v_heard, v_level, v_enabled, v_format, v_control, v_spare, v_low, v_high, v_overrun, v_vacated, v_queued, v_given, v_changes, v_total, v_held, v_asked, v_urgent, v_lost, v_rows, v_sizes, v_faults, v_last)  q_1 hc_1) (cwV 0 ht (gV_ k_T_43 ki_T_loops ks_T_loops kn_T kc_T_loops) rfl rfl rfl ⟨rfl, hd_T_loops⟩ ⟨Nat.le_of_ble_eq_true rfl, Nat.le_of_ble_eq_true rfl⟩) hK hZ hA hP hD hS [0, 1, 2, 3, 4] [] rfl rfl (by decide) (by decide) (by decide) rfl rfl rfl rfl hl.1 (Nat.le_of_ble_eq_true rfl) d_T_inputs_1 ⟨Nat.le_of_ble_eq_true rfl, Nat.le_of_ble_eq_true rfl⟩ (fun r_1 H locs hw hP hD hS => ?_)
  subst hw
  have hP : va_P (dC, dI) cls [(a0, .inr (6, [.ref a_rows, .ref a_sizes, .ref a_faults, .int v_ticks, .int v_due, .int v_sending, .int v_heard, .int v_level, .int v_enabled, .int v_format, .int v_control, .int v_spare, .int v_low, .int v_high, .int v_overrun, .int v_vacated, .int v_queued, .int v_given, .int v_changes, .int v_total, .ref a_last, .int v_held, .int v_asked, .int v_urgent, .int v_lost])), (a_rows, .inl (cA, 96, .inl v_rows)), (a_sizes, .inl (cA, 4, .inl v_sizes)), (a_faults, .inl (cA, 16, .inl v_faults)), (a_last, .inl (cA, 32, .inl v_last))] _ := hP.sub [0, 1, 2, 3, 4] rfl
  have hD : va_D A [(a0, .inr (6, [.ref a_rows, .ref a_sizes, .ref a_faults, .int v_ticks, .int v_due, .int v_sending, .int v_heard, .int v_level, .int v_enabled, .int v_format, .int v_control, .int v_spare, .int v_low, .int v_high, .int v_overrun, .int v_vacated, .int v_queued, .int v_given, .int v_changes, .int v_total, .ref a_last, .int v_held, .int v_asked, .int v_urgent, .int v_lost])), (a_rows, .inl (cA, 96, .inl v_rows)), (a_sizes, .inl (cA, 4, .inl v_sizes)), (a_faults, .inl (cA, 16, .inl v_faults)), (a_last, .inl (cA, 32, .inl v_last))] := hD.sub [0, 1, 2, 3, 4] (by decide) rfl
  refine lv_if_ne (tgt := 12) hx hb d_T_inputs_4 (by decide) (fun c_4 => ?_) (fun c_4 => ?_)
  · have hf := ite_f hf c_4
    refine lv_aload_n hx hb d_T_inputs_12 rfl (lv_at hl 0 rfl) ?_
    refine va_get (D := (dC, dI)) (ci := 6) (v := .int v_control) (C := cls_T) (T := fld_T) (N := 25) hx hb ht iin_T hown hK hP 0 rfl rfl 10 (by decide) (ht _ k_T_36) (fun _ h9 => h9) rfl d_T_inputs_13 ?_
    refine lv_bipush (v := 12) hx hb d_T_inputs_16 (by decide) ?_
    refine lv_iand hx hb d_T_inputs_18 ?_
    refine lv_aload_n hx hb d_T_inputs_19 rfl (lv_at hl 0 rfl) ?_
    refine va_get (D := (dC, dI)) (ci := 6) (v := .int v_control) (C := cls_T) (T := fld_T) (N := 25) hx hb ht iin_T hown hK hP 0 rfl rfl 10 (by decide) (ht _ k_T_36) (fun _ h9 => h9) rfl d_T_inputs_20 ?_
    refine lv_iconst (v := 1) hx hb d_T_inputs_23 (by decide) ?_
    refine lv_ishr hx hb d_T_inputs_24 ?_
    refine lv_iconst (v := 1) hx hb d_T_inputs_25 (by decide) ?_
    refine lv_iand hx hb d_T_inputs_26 ?_
    refine lv_iadd hx hb d_T_inputs_27 ?_
    refine lv_aload_n hx hb d_T_inputs_28 rfl (lv_at hl 0 rfl) ?_
    refine va_get (D := (dC, dI)) (ci := 6) (v := .int v_control) (C := cls_T) (T := fld_T) (N := 25) hx hb ht iin_T hown hK hP 0 rfl rfl 10 (by decide) (ht _ k_T_36) (fun _ h9 => h9) rfl d_T_inputs_29 ?_
    refine lv_iconst (v := 1) hx hb d_T_inputs_32 (by decide) ?_
    refine lv_iand hx hb d_T_inputs_33 ?_
    refine lv_iconst (v := 2) hx hb d_T_inputs_34 (by decide) ?_
    refine lv_imul hx hb d_T_inputs_35 ?_
    refine lv_iadd hx hb d_T_inputs_36 ?_
    exact W.iret hx hb hr (fun t9 ht9 _ => rr_ (Option.some.inj hf) hP hD hS ht9) hS.2.2 d_T_inputs_37
  · have hf := ite_t hf c_4
    refine lv_aload_n hx hb d_T_inputs_7 rfl (lv_at hl 0 rfl) ?_
    refine va_get (D := (dC, dI)) (ci := 6) (v := .int v_given) (C := cls_T) (T := fld_T) (N := 25) hx hb ht iin_T hown hK hP 0 rfl rfl 17 (by decide) (ht _ k_T_47) (fun _ h9 => h9) rfl d_T_inputs_8 ?_
    exact W.iret hx hb hr (fun t9 ht9 _ => rr_ (Option.some.inj hf) hP hD hS ht9) hS.2.2 d_T_inputs_11
def f_T_noteInputs : TwT → Int32 → Option (TwT)
  | (v_ticks, v_due, v_sending, v_heard, v_level, v_enabled, v_format, v_control, v_spare, v_low, v_high, v_overrun, v_vacated, v_queued, v_given, v_changes, v_total, v_held, v_asked, v_urgent, v_lost, v_rows, v_sizes, v_faults, v_last), p_1 => Option.bind (f_T_inputs (v_ticks, v_due, v_sending, v_heard, v_level, v_enabled, v_format, v_control, v_spare, v_low, v_high, v_overrun, v_vacated, v_queued, v_given, v_changes, v_total, v_held, v_asked, v_urgent, v_lost, v_rows, v_sizes, v_faults, v_last)) (fun r_1 => some (v_ticks, v_due, v_sending, v_heard, v_level, v_enabled, v_format, v_control, v_spare, v_low, v_high, v_overrun, v_vacated, v_queued, v_given, ((v_changes ||| ((p_1 ^^^ r_1) &&& 11)) ||| ((p_1 &&& (r_1 ^^^ (-1))) &&& 4)), v_total, v_held, v_asked, v_urgent, v_lost, v_rows, v_sizes, v_faults, v_last))
set_option maxHeartbeats 8000000 in
set_option maxRecDepth 100000 in
theorem c_T_noteInputs (l : Launch) (dC : Nat → ClassId) (dI : Nat → Nat → Nat) (cA : ClassId) (t : Nat) (a0 a_rows a_sizes a_faults a_last : Nat) (sz : Nat) (u : TwT) (p_1 : Int32) (q : TwT) (hf : f_T_noteInputs u p_1 = some q) : Met l y_T_noteInputs (Cond.code y_T_noteInputs b_T_noteInputs 5 none :: W0) ({ frames := 3, cells := 0, slots := 0, locals := 62 }) (va_Pc [.ref a0, .int p_1] (pc_ (dC, dI) [(cA, .int)] t sz (cw_T cA a0 a_rows a_sizes a_faults a_last u))) (qv_ (dC, dI) (cw_T cA a0 a_rows a_sizes a_faults a_last) q (va_A (cw_T cA a0 a_rows a_sizes a_faults a_last u) sz)) 0 0 (va_A (cw_T cA a0 a_rows a_sizes a_faults a_last u) sz) := by
  refine start_ l (qv_ (dC, dI) (cw_T cA a0 a_rows a_sizes a_faults a_last) q) (by decide) (Nat.le_of_ble_eq_true rfl) ?_
  intro p e s m below meth c hx hb hml hr hown ht hlocks hnm A hA hS hP hK hD hZ ls hl
  have hown : s.vm.findClass cls_T = some m.cls := hown
  refine wabs_ (fun WW wi wo => ?_)
  obtain ⟨v_ticks, v_due, v_sending, v_heard, v_level, v_enabled, v_format, v_control, v_spare, v_low, v_high, v_overrun, v_vacated, v_queued, v_given, v_changes, v_total, v_held, v_asked, v_urgent, v_lost, v_rows, v_sizes, v_faults, v_last⟩ := u
  unfold f_T_noteInputs at hf
  try dsimp only at hf
  have hP : va_P (dC, dI) cls [(a0, .inr (6, [.ref a_rows, .ref a_sizes, .ref a_faults, .int v_ticks, .int v_due, .int v_sending, .int v_heard, .int v_level, .int v_enabled, .int v_format, .int v_control, .int v_spare, .int v_low, .int v_high, .int v_overrun, .int v_vacated, .int v_queued, .int v_given, .int v_changes, .int v_total, .ref a_last, .int v_held, .int v_asked, .int v_urgent, .int v_lost])), (a_rows, .inl (cA, 96, .inl v_rows)), (a_sizes, .inl (cA, 4, .inl v_sizes)), (a_faults, .inl (cA, 16, .inl v_faults)), (a_last, .inl (cA, 32, .inl v_last))] _ := hP
  have hD : va_D A [(a0, .inr (6, [.ref a_rows, .ref a_sizes, .ref a_faults, .int v_ticks, .int v_due, .int v_sending, .int v_heard, .int v_level, .int v_enabled, .int v_format, .int v_control, .int v_spare, .int v_low, .int v_high, .int v_overrun, .int v_vacated, .int v_queued, .int v_given, .int v_changes, .int v_total, .ref a_last, .int v_held, .int v_asked, .int v_urgent, .int v_lost])), (a_rows, .inl (cA, 96, .inl v_rows)), (a_sizes, .inl (cA, 4, .inl v_sizes)), (a_faults, .inl (cA, 16, .inl v_faults)), (a_last, .inl (cA, 32, .inl v_last))] := hD
  refine wi _ _ _ ?_
  have hl : lv_has ls 5 [(0, .ref a0), (1, .int p_1)] := hl
  refine lv_aload_n hx hb d_T_noteInputs_0 rfl (lv_at hl 0 rfl) ?_
  obtain ⟨q_1, hc_1, hf⟩ := bind_e hf
  refine cVr_ (wc := cw_T cA a0 a_rows a_sizes a_faults a_last (v_ticks, v_due, v_sending, v_heard, v_level, v_enabled, v_format, v_control, v_spare, v_low, v_high, v_overrun, v_vacated, v_queued, v_given, v_changes, v_total, v_held, v_asked, v_urgent, v_lost, v_rows, v_sizes, v_faults, v_last)) (wr := []) (As := []) (rest := []) ⟨hx, hb, hml, hown, ht⟩ (c_T_inputs l dC dI cA t a0 a_rows a_sizes a_faults a_last _ (v_ticks, v_due, v_sending, v_heard, v_level, v_enabled, v_format, v_control, v_spare, v_low, v_high, v_overrun, v_vacated, v_queued, v_given, v_changes, v_total, v_held, v_asked, v_urgent, v_lost, v_rows, v_sizes, v_faults, v_last)  q_1 hc_1) (cwV 0 ht (gV_ k_T_50 ki_T_inputs ks_T_inputs kn_T kc_T_inputs) rfl rfl rfl ⟨rfl, hd_T_inputs⟩ ⟨Nat.le_of_ble_eq_true rfl, Nat.le_of_ble_eq_true rfl⟩) hK hZ hA hP hD hS [0, 1, 2, 3, 4] [] rfl rfl (by decide) (by decide) (by decide) rfl rfl rfl rfl hl.1 (Nat.le_of_ble_eq_true rfl) d_T_noteInputs_1 ⟨Nat.le_of_ble_eq_true rfl, Nat.le_of_ble_eq_true rfl⟩ (fun r_1 H locs hw hP hD hS => ?_)
  subst hw
  have hP : va_P (dC, dI) cls [(a0, .inr (6, [.ref a_rows, .ref a_sizes, .ref a_faults, .int v_ticks, .int v_due, .int v_sending, .int v_heard, .int v_level, .int v_enabled, .int v_format, .int v_control, .int v_spare, .int v_low, .int v_high, .int v_overrun, .int v_vacated, .int v_queued, .int v_given, .int v_changes, .int v_total, .ref a_last, .int v_held, .int v_asked, .int v_urgent, .int v_lost])), (a_rows, .inl (cA, 96, .inl v_rows)), (a_sizes, .inl (cA, 4, .inl v_sizes)), (a_faults, .inl (cA, 16, .inl v_faults)), (a_last, .inl (cA, 32, .inl v_last))] _ := hP.sub [0, 1, 2, 3, 4] rfl
  have hD : va_D A [(a0, .inr (6, [.ref a_rows, .ref a_sizes, .ref a_faults, .int v_ticks, .int v_due, .int v_sending, .int v_heard, .int v_level, .int v_enabled, .int v_format, .int v_control, .int v_spare, .int v_low, .int v_high, .int v_overrun, .int v_vacated, .int v_queued, .int v_given, .int v_changes, .int v_total, .ref a_last, .int v_held, .int v_asked, .int v_urgent, .int v_lost])), (a_rows, .inl (cA, 96, .inl v_rows)), (a_sizes, .inl (cA, 4, .inl v_sizes)), (a_faults, .inl (cA, 16, .inl v_faults)), (a_last, .inl (cA, 32, .inl v_last))] := hD.sub [0, 1, 2, 3, 4] (by decide) rfl
  refine lv_istore_n (lv' := [(2, .int r_1), (0, .ref a0), (1, .int p_1)]) hx hb d_T_noteInputs_4 rfl hl (by decide) rfl (fun ls hl => ?_)
  refine lv_iload_n hx hb d_T_noteInputs_5 rfl (lv_at hl 2 rfl) ?_
  refine lv_iload_n hx hb d_T_noteInputs_6 rfl (lv_at hl 0 rfl) ?_
  refine lv_ixor hx hb d_T_noteInputs_7 ?_
  refine lv_bipush (v := 11) hx hb d_T_noteInputs_8 (by decide) ?_
  refine lv_iand hx hb d_T_noteInputs_10 ?_
  refine lv_istore_n (lv' := [(3, .int ((p_1 ^^^ r_1) &&& 11)), (2, .int r_1), (0, .ref a0), (1, .int p_1)]) hx hb d_T_noteInputs_11 rfl hl (by decide) rfl (fun ls hl => ?_)
  refine lv_iload_n hx hb d_T_noteInputs_12 rfl (lv_at hl 3 rfl) ?_
  refine lv_iload_n hx hb d_T_noteInputs_13 rfl (lv_at hl 1 rfl) ?_
  refine lv_iconst (v := (-1)) hx hb d_T_noteInputs_14 (by decide) ?_
  refine lv_ixor hx hb d_T_noteInputs_15 ?_
  refine lv_iand hx hb d_T_noteInputs_16 ?_
  refine lv_iconst (v := 4) hx hb d_T_noteInputs_17 (by decide) ?_
  refine lv_iand hx hb d_T_noteInputs_18 ?_
  refine lv_istore (lv' := [(4, .int ((p_1 &&& (r_1 ^^^ (-1))) &&& 4)), (3, .int ((p_1 ^^^ r_1) &&& 11)), (2, .int r_1), (0, .ref a0), (1, .int p_1)]) hx hb d_T_noteInputs_19 hl (by decide) rfl (fun ls hl => ?_)
  refine lv_aload_n hx hb d_T_noteInputs_21 rfl (lv_at hl 3 rfl) ?_
  refine lv_aload_n hx hb d_T_noteInputs_22 rfl (lv_at hl 3 rfl) ?_
  refine va_get (D := (dC, dI)) (ci := 6) (v := .int v_changes) (C := cls_T) (T := fld_T) (N := 25) hx hb ht iin_T hown hK hP 0 rfl rfl 18 (by decide) (ht _ k_T_54) (fun _ h9 => h9) rfl d_T_noteInputs_23 ?_
  refine lv_iload_n hx hb d_T_noteInputs_26 rfl (lv_at hl 1 rfl) ?_
  refine lv_ior hx hb d_T_noteInputs_27 ?_
  refine lv_iload hx hb d_T_noteInputs_28 (lv_at hl 0 rfl) ?_
  refine lv_ior hx hb d_T_noteInputs_30 ?_
  refine va_put (D := (dC, dI)) (ci := 6) (v := .int ((v_changes ||| ((p_1 ^^^ r_1) &&& 11)) ||| ((p_1 &&& (r_1 ^^^ (-1))) &&& 4))) (ty := .int) (C := cls_T) (T := fld_T) (N := 25) hx hb ht iin_T typ_T tok_T nam_T hown hK hP hD hS 0 rfl rfl 18 (by decide) (ht _ k_T_54) (fun _ h9 => h9) rfl (tok_T 18 (by decide)) rfl rfl (Nat.le_of_ble_eq_true rfl) d_T_noteInputs_31 (fun H locs hP hD hS => ?_)
  have hP : va_P (dC, dI) cls [(a0, .inr (6, [.ref a_rows, .ref a_sizes, .ref a_faults, .int v_ticks, .int v_due, .int v_sending, .int v_heard, .int v_level, .int v_enabled, .int v_format, .int v_control, .int v_spare, .int v_low, .int v_high, .int v_overrun, .int v_vacated, .int v_queued, .int v_given, .int ((v_changes ||| ((p_1 ^^^ r_1) &&& 11)) ||| ((p_1 &&& (r_1 ^^^ (-1))) &&& 4)), .int v_total, .ref a_last, .int v_held, .int v_asked, .int v_urgent, .int v_lost])), (a_rows, .inl (cA, 96, .inl v_rows)), (a_sizes, .inl (cA, 4, .inl v_sizes)), (a_faults, .inl (cA, 16, .inl v_faults)), (a_last, .inl (cA, 32, .inl v_last))] _ := hP
  have hD : va_D A [(a0, .inr (6, [.ref a_rows, .ref a_sizes, .ref a_faults, .int v_ticks, .int v_due, .int v_sending, .int v_heard, .int v_level, .int v_enabled, .int v_format, .int v_control, .int v_spare, .int v_low, .int v_high, .int v_overrun, .int v_vacated, .int v_queued, .int v_given, .int ((v_changes ||| ((p_1 ^^^ r_1) &&& 11)) ||| ((p_1 &&& (r_1 ^^^ (-1))) &&& 4)), .int v_total, .ref a_last, .int v_held, .int v_asked, .int v_urgent, .int v_lost])), (a_rows, .inl (cA, 96, .inl v_rows)), (a_sizes, .inl (cA, 4, .inl v_sizes)), (a_faults, .inl (cA, 16, .inl v_faults)), (a_last, .inl (cA, 32, .inl v_last))] := hD
  exact W.vret hx hb hr (fun t9 ht9 _ => rv_ (Option.some.inj hf) hP hD hS ht9) hS.2.2 d_T_noteInputs_34
def f_T_moveOne_63 : TwT → Int32 → Option (TwT)
  | (v_ticks, v_due, v_sending, v_heard, v_level, v_enabled, v_format, v_control, v_spare, v_low, v_high, v_overrun, v_vacated, v_queued, v_given, v_changes, v_total, v_held, v_asked, v_urgent, v_lost, v_rows, v_sizes, v_faults, v_last), s_2 => gb_ s_2 (some (v_ticks, v_due, v_sending, v_heard, v_level, v_enabled, v_format, v_control, v_spare, v_low, v_high, v_overrun, s_2, v_queued, v_given, v_changes, v_total, v_held, v_asked, v_urgent, v_lost, v_rows, v_sizes, v_faults, v_last))
def f_T_moveOne_16 : TwT → Option (TwT)
  | (v_ticks, v_due, v_sending, v_heard, v_level, v_enabled, v_format, v_control, v_spare, v_low, v_high, v_overrun, v_vacated, v_queued, v_given, v_changes, v_total, v_held, v_asked, v_urgent, v_lost, v_rows, v_sizes, v_faults, v_last) => some (v_ticks, v_due, v_sending, v_heard, v_level, v_enabled, v_format, v_control, v_spare, v_low, v_high, v_overrun, v_vacated, v_queued, v_given, v_changes, v_total, v_held, v_asked, v_urgent, v_lost, v_rows, v_sizes, v_faults, v_last)
def f_T_moveOne_58 : TwT → Option (TwT)
  | (v_ticks, v_due, v_sending, v_heard, v_level, v_enabled, v_format, v_control, v_spare, v_low, v_high, v_overrun, v_vacated, v_queued, v_given, v_changes, v_total, v_held, v_asked, v_urgent, v_lost, v_rows, v_sizes, v_faults, v_last) => f_T_moveOne_63 (v_ticks, v_due, v_sending, v_heard, v_level, v_enabled, v_format, v_control, v_spare, v_low, v_high, v_overrun, v_vacated, v_queued, v_given, v_changes, v_total, v_held, v_asked, v_urgent, v_lost, v_rows, v_sizes, v_faults, v_last) 1
def f_T_moveOne : TwT → Int32 → Option (TwT)
  | (v_ticks, v_due, v_sending, v_heard, v_level, v_enabled, v_format, v_control, v_spare, v_low, v_high, v_overrun, v_vacated, v_queued, v_given, v_changes, v_total, v_held, v_asked, v_urgent, v_lost, v_rows, v_sizes, v_faults, v_last), p_1 => if 0 < v_due then (f_T_moveOne_16 (v_ticks, v_due, v_sending, v_heard, v_level, v_enabled, v_format, v_control, v_spare, v_low, v_high, v_overrun, v_vacated, v_queued, v_given, v_changes, v_total, v_held, v_asked, v_urgent, v_lost, v_rows, v_sizes, v_faults, v_last)) else (gi_ 3 4 (if (v_sizes (3 : Int32).toNatClampNeg) = 0 then (f_T_moveOne_16 (v_ticks, v_due, v_sending, v_heard, v_level, v_enabled, v_format, v_control, v_spare, v_low, v_high, v_overrun, v_vacated, v_queued, v_given, v_changes, v_total, v_held, v_asked, v_urgent, v_lost, v_rows, v_sizes, v_faults, v_last)) else (Option.bind (f_T_removeFirst (v_ticks, v_due, v_sending, v_heard, v_level, v_enabled, v_format, v_control, v_spare, v_low, v_high, v_overrun, v_vacated, v_queued, v_given, v_changes, v_total, v_held, v_asked, v_urgent, v_lost, v_rows, v_sizes, v_faults, v_last) 3) (fun q_20 => match q_20 with | (r_20, (v_ticks_20, v_due_20, v_sending_20, v_heard_20, v_level_20, v_enabled_20, v_format_20, v_control_20, v_spare_20, v_low_20, v_high_20, v_overrun_20, v_vacated_20, v_queued_20, v_given_20, v_changes_20, v_total_20, v_held_20, v_asked_20, v_urgent_20, v_lost_20, v_rows_20, v_sizes_20, v_faults_20, v_last_20)) => Option.bind (f_T_span (v_ticks_20, v_due_20, r_20, v_heard_20, v_level_20, v_enabled_20, v_format_20, v_control_20, v_spare_20, v_low_20, v_high_20, v_overrun_20, v_vacated_20, v_queued_20, v_given_20, v_changes_20, v_total_20, v_held_20, v_asked_20, v_urgent_20, v_lost_20, v_rows_20, v_sizes_20, v_faults_20, v_last_20)) (fun r_34 => if v_vacated_20 = 0 then (gi_ 3 4 (if (v_sizes_20 (3 : Int32).toNatClampNeg) = 0 then (f_T_moveOne_58 (v_ticks_20, ((v_ticks_20 + p_1) + r_34), r_20, v_heard_20, v_level_20, v_enabled_20, v_format_20, v_control_20, v_spare_20, v_low_20, v_high_20, v_overrun_20, v_vacated_20, v_queued_20, v_given_20, v_changes_20, v_total_20, v_held_20, v_asked_20, v_urgent_20, v_lost_20, v_rows_20, v_sizes_20, v_faults_20, v_last_20)) else (f_T_moveOne_63 (v_ticks_20, ((v_ticks_20 + p_1) + r_34), r_20, v_heard_20, v_level_20, v_enabled_20, v_format_20, v_control_20, v_spare_20, v_low_20, v_high_20, v_overrun_20, v_vacated_20, v_queued_20, v_given_20, v_changes_20, v_total_20, v_held_20, v_asked_20, v_urgent_20, v_lost_20, v_rows_20, v_sizes_20, v_faults_20, v_last_20) 0))) else (f_T_moveOne_58 (v_ticks_20, ((v_ticks_20 + p_1) + r_34), r_20, v_heard_20, v_level_20, v_enabled_20, v_format_20, v_control_20, v_spare_20, v_low_20, v_high_20, v_overrun_20, v_vacated_20, v_queued_20, v_given_20, v_changes_20, v_total_20, v_held_20, v_asked_20, v_urgent_20, v_lost_20, v_rows_20, v_sizes_20, v_faults_20, v_last_20)))))))
set_option maxHeartbeats 8000000 in
set_option maxRecDepth 100000 in
theorem c_T_moveOne (l : Launch) (dC : Nat → ClassId) (dI : Nat → Nat → Nat) (cA : ClassId) (t : Nat) (a0 a_rows a_sizes a_faults a_last : Nat) (sz : Nat) (u : TwT) (p_1 : Int32) (q : TwT) (hf : f_T_moveOne u p_1 = some q) : Met l y_T_moveOne (Cond.code y_T_moveOne b_T_moveOne 2 none :: W0) ({ frames := 1, cells := 0, slots := 0, locals := 23 }) (va_Pc [.ref a0, .int p_1] (pc_ (dC, dI) [(cA, .int)] t sz (cw_T cA a0 a_rows a_sizes a_faults a_last u))) (qv_ (dC, dI) (cw_T cA a0 a_rows a_sizes a_faults a_last) q (va_A (cw_T cA a0 a_rows a_sizes a_faults a_last u) sz)) 0 0 (va_A (cw_T cA a0 a_rows a_sizes a_faults a_last u) sz) := by
  refine start_ l (qv_ (dC, dI) (cw_T cA a0 a_rows a_sizes a_faults a_last) q) (by decide) (Nat.le_of_ble_eq_true rfl) ?_
  intro p e s m below meth c hx hb hml hr hown ht hlocks hnm A hA hS hP hK hD hZ ls hl
  have hown : s.vm.findClass cls_T = some m.cls := hown
  refine wabs_ (fun WW wi wo => ?_)
  have k_63 : ∀ (u : TwT) (s_2 : Int32), f_T_moveOne_63 u s_2 = some q → ∀ (H : Heap) (locs : List Loc) (ls : Array Slot), va_P (dC, dI) cls (cw_T cA a0 a_rows a_sizes a_faults a_last u) H → va_D A (cw_T cA a0 a_rows a_sizes a_faults a_last u) → va_S A s.heap H locs → lv_has ls 2 [] → WW H locs (F0 m 63 ls [.int s_2, .ref a0]) := by
    intro u s_2 hf H locs ls hP hD hS hl
    obtain ⟨v_ticks, v_due, v_sending, v_heard, v_level, v_enabled, v_format, v_control, v_spare, v_low, v_high, v_overrun, v_vacated, v_queued, v_given, v_changes, v_total, v_held, v_asked, v_urgent, v_lost, v_rows, v_sizes, v_faults, v_last⟩ := u
    unfold f_T_moveOne_63 at hf
    try dsimp only at hf
    have hP : va_P (dC, dI) cls [(a0, .inr (6, [.ref a_rows, .ref a_sizes, .ref a_faults, .int v_ticks, .int v_due, .int v_sending, .int v_heard, .int v_level, .int v_enabled, .int v_format, .int v_control, .int v_spare, .int v_low, .int v_high, .int v_overrun, .int v_vacated, .int v_queued, .int v_given, .int v_changes, .int v_total, .ref a_last, .int v_held, .int v_asked, .int v_urgent, .int v_lost])), (a_rows, .inl (cA, 96, .inl v_rows)), (a_sizes, .inl (cA, 4, .inl v_sizes)), (a_faults, .inl (cA, 16, .inl v_faults)), (a_last, .inl (cA, 32, .inl v_last))] _ := hP
    have hD : va_D A [(a0, .inr (6, [.ref a_rows, .ref a_sizes, .ref a_faults, .int v_ticks, .int v_due, .int v_sending, .int v_heard, .int v_level, .int v_enabled, .int v_format, .int v_control, .int v_spare, .int v_low, .int v_high, .int v_overrun, .int v_vacated, .int v_queued, .int v_given, .int v_changes, .int v_total, .ref a_last, .int v_held, .int v_asked, .int v_urgent, .int v_lost])), (a_rows, .inl (cA, 96, .inl v_rows)), (a_sizes, .inl (cA, 4, .inl v_sizes)), (a_faults, .inl (cA, 16, .inl v_faults)), (a_last, .inl (cA, 32, .inl v_last))] := hD
    refine wi _ _ _ ?_
    obtain ⟨hb_63, hf⟩ := gb_e hf
    refine va_put (D := (dC, dI)) (ci := 6) (v := .int s_2) (ty := .boolean) (C := cls_T) (T := fld_T) (N := 25) hx hb ht iin_T typ_T tok_T nam_T hown hK hP hD hS 0 rfl rfl 15 (by decide) (ht _ k_T_73) (fun _ h9 => h9) rfl (tok_T 15 (by decide)) hb_63.1 hb_63.2 (Nat.le_of_ble_eq_true rfl) d_T_moveOne_63 (fun H locs hP hD hS => ?_)
    have hP : va_P (dC, dI) cls [(a0, .inr (6, [.ref a_rows, .ref a_sizes, .ref a_faults, .int v_ticks, .int v_due, .int v_sending, .int v_heard, .int v_level, .int v_enabled, .int v_format, .int v_control, .int v_spare, .int v_low, .int v_high, .int v_overrun, .int s_2, .int v_queued, .int v_given, .int v_changes, .int v_total, .ref a_last, .int v_held, .int v_asked, .int v_urgent, .int v_lost])), (a_rows, .inl (cA, 96, .inl v_rows)), (a_sizes, .inl (cA, 4, .inl v_sizes)), (a_faults, .inl (cA, 16, .inl v_faults)), (a_last, .inl (cA, 32, .inl v_last))] _ := hP
    have hD : va_D A [(a0, .inr (6, [.ref a_rows, .ref a_sizes, .ref a_faults, .int v_ticks, .int v_due, .int v_sending, .int v_heard, .int v_level, .int v_enabled, .int v_format, .int v_control, .int v_spare, .int v_low, .int v_high, .int v_overrun, .int s_2, .int v_queued, .int v_given, .int v_changes, .int v_total, .ref a_last, .int v_held, .int v_asked, .int v_urgent, .int v_lost])), (a_rows, .inl (cA, 96, .inl v_rows)), (a_sizes, .inl (cA, 4, .inl v_sizes)), (a_faults, .inl (cA, 16, .inl v_faults)), (a_last, .inl (cA, 32, .inl v_last))] := hD
    exact W.vret hx hb hr (fun t9 ht9 _ => rv_ (Option.some.inj hf) hP hD hS ht9) hS.2.2 d_T_moveOne_66
  have k_16 : ∀ (u : TwT), f_T_moveOne_16 u = some q → ∀ (H : Heap) (locs : List Loc) (ls : Array Slot), va_P (dC, dI) cls (cw_T cA a0 a_rows a_sizes a_faults a_last u) H → va_D A (cw_T cA a0 a_rows a_sizes a_faults a_last u) → va_S A s.heap H locs → lv_has ls 2 [] → WW H locs (F0 m 16 ls []) := by
    intro u hf H locs ls hP hD hS hl
    obtain ⟨v_ticks, v_due, v_sending, v_heard, v_level, v_enabled, v_format, v_control, v_spare, v_low, v_high, v_overrun, v_vacated, v_queued, v_given, v_changes, v_total, v_held, v_asked, v_urgent, v_lost, v_rows, v_sizes, v_faults, v_last⟩ := u
    unfold f_T_moveOne_16 at hf
    try dsimp only at hf
    have hP : va_P (dC, dI) cls [(a0, .inr (6, [.ref a_rows, .ref a_sizes, .ref a_faults, .int v_ticks, .int v_due, .int v_sending, .int v_heard, .int v_level, .int v_enabled, .int v_format, .int v_control, .int v_spare, .int v_low, .int v_high, .int v_overrun, .int v_vacated, .int v_queued, .int v_given, .int v_changes, .int v_total, .ref a_last, .int v_held, .int v_asked, .int v_urgent, .int v_lost])), (a_rows, .inl (cA, 96, .inl v_rows)), (a_sizes, .inl (cA, 4, .inl v_sizes)), (a_faults, .inl (cA, 16, .inl v_faults)), (a_last, .inl (cA, 32, .inl v_last))] _ := hP
    have hD : va_D A [(a0, .inr (6, [.ref a_rows, .ref a_sizes, .ref a_faults, .int v_ticks, .int v_due, .int v_sending, .int v_heard, .int v_level, .int v_enabled, .int v_format, .int v_control, .int v_spare, .int v_low, .int v_high, .int v_overrun, .int v_vacated, .int v_queued, .int v_given, .int v_changes, .int v_total, .ref a_last, .int v_held, .int v_asked, .int v_urgent, .int v_lost])), (a_rows, .inl (cA, 96, .inl v_rows)), (a_sizes, .inl (cA, 4, .inl v_sizes)), (a_faults, .inl (cA, 16, .inl v_faults)), (a_last, .inl (cA, 32, .inl v_last))] := hD
    refine wi _ _ _ ?_
    exact W.vret hx hb hr (fun t9 ht9 _ => rv_ (Option.some.inj hf) hP hD hS ht9) hS.2.2 d_T_moveOne_16
  have k_58 : ∀ (u : TwT), f_T_moveOne_58 u = some q → ∀ (H : Heap) (locs : List Loc) (ls : Array Slot), va_P (dC, dI) cls (cw_T cA a0 a_rows a_sizes a_faults a_last u) H → va_D A (cw_T cA a0 a_rows a_sizes a_faults a_last u) → va_S A s.heap H locs → lv_has ls 2 [] → WW H locs (F0 m 58 ls [.ref a0]) := by
    intro u hf H locs ls hP hD hS hl
    obtain ⟨v_ticks, v_due, v_sending, v_heard, v_level, v_enabled, v_format, v_control, v_spare, v_low, v_high, v_overrun, v_vacated, v_queued, v_given, v_changes, v_total, v_held, v_asked, v_urgent, v_lost, v_rows, v_sizes, v_faults, v_last⟩ := u
    unfold f_T_moveOne_58 at hf
    try dsimp only at hf
    have hP : va_P (dC, dI) cls [(a0, .inr (6, [.ref a_rows, .ref a_sizes, .ref a_faults, .int v_ticks, .int v_due, .int v_sending, .int v_heard, .int v_level, .int v_enabled, .int v_format, .int v_control, .int v_spare, .int v_low, .int v_high, .int v_overrun, .int v_vacated, .int v_queued, .int v_given, .int v_changes, .int v_total, .ref a_last, .int v_held, .int v_asked, .int v_urgent, .int v_lost])), (a_rows, .inl (cA, 96, .inl v_rows)), (a_sizes, .inl (cA, 4, .inl v_sizes)), (a_faults, .inl (cA, 16, .inl v_faults)), (a_last, .inl (cA, 32, .inl v_last))] _ := hP
    have hD : va_D A [(a0, .inr (6, [.ref a_rows, .ref a_sizes, .ref a_faults, .int v_ticks, .int v_due, .int v_sending, .int v_heard, .int v_level, .int v_enabled, .int v_format, .int v_control, .int v_spare, .int v_low, .int v_high, .int v_overrun, .int v_vacated, .int v_queued, .int v_given, .int v_changes, .int v_total, .ref a_last, .int v_held, .int v_asked, .int v_urgent, .int v_lost])), (a_rows, .inl (cA, 96, .inl v_rows)), (a_sizes, .inl (cA, 4, .inl v_sizes)), (a_faults, .inl (cA, 16, .inl v_faults)), (a_last, .inl (cA, 32, .inl v_last))] := hD
    refine wi _ _ _ ?_
    refine lv_iconst (v := 1) hx hb d_T_moveOne_58 (by decide) ?_
    refine lv_goto (tgt := 63) hx hb d_T_moveOne_59 (by decide) ?_
    exact wo _ _ _ (k_63 (v_ticks, v_due, v_sending, v_heard, v_level, v_enabled, v_format, v_control, v_spare, v_low, v_high, v_overrun, v_vacated, v_queued, v_given, v_changes, v_total, v_held, v_asked, v_urgent, v_lost, v_rows, v_sizes, v_faults, v_last) 1 hf _ _ _ hP hD hS (lv_sub hl [] rfl))
  obtain ⟨v_ticks, v_due, v_sending, v_heard, v_level, v_enabled, v_format, v_control, v_spare, v_low, v_high, v_overrun, v_vacated, v_queued, v_given, v_changes, v_total, v_held, v_asked, v_urgent, v_lost, v_rows, v_sizes, v_faults, v_last⟩ := u
  unfold f_T_moveOne at hf
  try dsimp only at hf
  have hP : va_P (dC, dI) cls [(a0, .inr (6, [.ref a_rows, .ref a_sizes, .ref a_faults, .int v_ticks, .int v_due, .int v_sending, .int v_heard, .int v_level, .int v_enabled, .int v_format, .int v_control, .int v_spare, .int v_low, .int v_high, .int v_overrun, .int v_vacated, .int v_queued, .int v_given, .int v_changes, .int v_total, .ref a_last, .int v_held, .int v_asked, .int v_urgent, .int v_lost])), (a_rows, .inl (cA, 96, .inl v_rows)), (a_sizes, .inl (cA, 4, .inl v_sizes)), (a_faults, .inl (cA, 16, .inl v_faults)), (a_last, .inl (cA, 32, .inl v_last))] _ := hP
  have hD : va_D A [(a0, .inr (6, [.ref a_rows, .ref a_sizes, .ref a_faults, .int v_ticks, .int v_due, .int v_sending, .int v_heard, .int v_level, .int v_enabled, .int v_format, .int v_control, .int v_spare, .int v_low, .int v_high, .int v_overrun, .int v_vacated, .int v_queued, .int v_given, .int v_changes, .int v_total, .ref a_last, .int v_held, .int v_asked, .int v_urgent, .int v_lost])), (a_rows, .inl (cA, 96, .inl v_rows)), (a_sizes, .inl (cA, 4, .inl v_sizes)), (a_faults, .inl (cA, 16, .inl v_faults)), (a_last, .inl (cA, 32, .inl v_last))] := hD
  refine wi _ _ _ ?_
  have hl : lv_has ls 2 [(0, .ref a0), (1, .int p_1)] := hl
  refine lv_aload_n hx hb d_T_moveOne_0 rfl (lv_at hl 0 rfl) ?_
  refine va_get (D := (dC, dI)) (ci := 6) (v := .int v_due) (C := cls_T) (T := fld_T) (N := 25) hx hb ht iin_T hown hK hP 0 rfl rfl 4 (by decide) (ht _ k_T_57) (fun _ h9 => h9) rfl d_T_moveOne_1 ?_
  refine lv_if_gt (tgt := 16) hx hb d_T_moveOne_4 (by decide) (fun c_4 => ?_) (fun c_4 => ?_)
  · have hf := ite_t hf c_4
    exact wo _ _ _ (k_16 (v_ticks, v_due, v_sending, v_heard, v_level, v_enabled, v_format, v_control, v_spare, v_low, v_high, v_overrun, v_vacated, v_queued, v_given, v_changes, v_total, v_held, v_asked, v_urgent, v_lost, v_rows, v_sizes, v_faults, v_last) hf _ _ _ hP hD hS (lv_sub hl [] rfl))
  · have hf := ite_f hf c_4
    refine lv_aload_n hx hb d_T_moveOne_7 rfl (lv_at hl 0 rfl) ?_
    refine va_get (D := (dC, dI)) (ci := 6) (v := .ref a_sizes) (C := cls_T) (T := fld_T) (N := 25) hx hb ht iin_T hown hK hP 0 rfl rfl 1 (by decide) (ht _ k_T_13) (fun _ h9 => h9) rfl d_T_moveOne_8 ?_
    refine lv_iconst (v := 3) hx hb d_T_moveOne_11 (by decide) ?_
    obtain ⟨hi_12, hf⟩ := gi_e hf
    refine va_iald hx hb hK hP 2 0 rfl rfl hi_12 d_T_moveOne_12 ?_
    refine lv_if_ne (tgt := 17) hx hb d_T_moveOne_13 (by decide) (fun c_13 => ?_) (fun c_13 => ?_)
    · have hf := ite_f hf c_13
      refine lv_aload_n hx hb d_T_moveOne_17 rfl (lv_at hl 0 rfl) ?_
      refine lv_aload_n hx hb d_T_moveOne_18 rfl (lv_at hl 0 rfl) ?_
      refine lv_iconst (v := 3) hx hb d_T_moveOne_19 (by decide) ?_
      obtain ⟨q_20, hc_20, hf⟩ := bind_e hf
      refine cVi_ (wc := cw_T cA a0 a_rows a_sizes a_faults a_last (v_ticks, v_due, v_sending, v_heard, v_level, v_enabled, v_format, v_control, v_spare, v_low, v_high, v_overrun, v_vacated, v_queued, v_given, v_changes, v_total, v_held, v_asked, v_urgent, v_lost, v_rows, v_sizes, v_faults, v_last)) (wr := []) (As := [.int 3]) (rest := [.ref a0]) ⟨hx, hb, hml, hown, ht⟩ (c_T_removeFirst l dC dI cA t a0 a_rows a_sizes a_faults a_last _ (v_ticks, v_due, v_sending, v_heard, v_level, v_enabled, v_format, v_control, v_spare, v_low, v_high, v_overrun, v_vacated, v_queued, v_given, v_changes, v_total, v_held, v_asked, v_urgent, v_lost, v_rows, v_sizes, v_faults, v_last) 3 q_20 hc_20) (cwV 1 ht (gV_ k_T_60 ki_T_removeFirst ks_T_removeFirst kn_T kc_T_removeFirst) rfl rfl rfl ⟨rfl, hd_T_removeFirst⟩ ⟨Nat.le_of_ble_eq_true rfl, Nat.le_of_ble_eq_true rfl⟩) hK hZ hA hP hD hS [0, 1, 2, 3, 4] [] rfl rfl (by decide) (by decide) (by decide) rfl rfl rfl rfl hl.1 (Nat.le_of_ble_eq_true rfl) d_T_moveOne_20 ⟨Nat.le_of_ble_eq_true rfl, Nat.le_of_ble_eq_true rfl⟩ (fun r_20 u H locs hw hP hD hS => ?_)
      obtain ⟨v_ticks_20, v_due_20, v_sending_20, v_heard_20, v_level_20, v_enabled_20, v_format_20, v_control_20, v_spare_20, v_low_20, v_high_20, v_overrun_20, v_vacated_20, v_queued_20, v_given_20, v_changes_20, v_total_20, v_held_20, v_asked_20, v_urgent_20, v_lost_20, v_rows_20, v_sizes_20, v_faults_20, v_last_20⟩ := u
      subst hw
      have hP : va_P (dC, dI) cls [(a0, .inr (6, [.ref a_rows, .ref a_sizes, .ref a_faults, .int v_ticks_20, .int v_due_20, .int v_sending_20, .int v_heard_20, .int v_level_20, .int v_enabled_20, .int v_format_20, .int v_control_20, .int v_spare_20, .int v_low_20, .int v_high_20, .int v_overrun_20, .int v_vacated_20, .int v_queued_20, .int v_given_20, .int v_changes_20, .int v_total_20, .ref a_last, .int v_held_20, .int v_asked_20, .int v_urgent_20, .int v_lost_20])), (a_rows, .inl (cA, 96, .inl v_rows_20)), (a_sizes, .inl (cA, 4, .inl v_sizes_20)), (a_faults, .inl (cA, 16, .inl v_faults_20)), (a_last, .inl (cA, 32, .inl v_last_20))] _ := hP.sub [0, 1, 2, 3, 4] rfl
      have hD : va_D A [(a0, .inr (6, [.ref a_rows, .ref a_sizes, .ref a_faults, .int v_ticks_20, .int v_due_20, .int v_sending_20, .int v_heard_20, .int v_level_20, .int v_enabled_20, .int v_format_20, .int v_control_20, .int v_spare_20, .int v_low_20, .int v_high_20, .int v_overrun_20, .int v_vacated_20, .int v_queued_20, .int v_given_20, .int v_changes_20, .int v_total_20, .ref a_last, .int v_held_20, .int v_asked_20, .int v_urgent_20, .int v_lost_20])), (a_rows, .inl (cA, 96, .inl v_rows_20)), (a_sizes, .inl (cA, 4, .inl v_sizes_20)), (a_faults, .inl (cA, 16, .inl v_faults_20)), (a_last, .inl (cA, 32, .inl v_last_20))] := hD.sub [0, 1, 2, 3, 4] (by decide) rfl
      try dsimp only at hf
      refine va_put (D := (dC, dI)) (ci := 6) (v := .int r_20) (ty := .int) (C := cls_T) (T := fld_T) (N := 25) hx hb ht iin_T typ_T tok_T nam_T hown hK hP hD hS 0 rfl rfl 5 (by decide) (ht _ k_T_64) (fun _ h9 => h9) rfl (tok_T 5 (by decide)) rfl rfl (Nat.le_of_ble_eq_true rfl) d_T_moveOne_23 (fun H locs hP hD hS => ?_)
      have hP : va_P (dC, dI) cls [(a0, .inr (6, [.ref a_rows, .ref a_sizes, .ref a_faults, .int v_ticks_20, .int v_due_20, .int r_20, .int v_heard_20, .int v_level_20, .int v_enabled_20, .int v_format_20, .int v_control_20, .int v_spare_20, .int v_low_20, .int v_high_20, .int v_overrun_20, .int v_vacated_20, .int v_queued_20, .int v_given_20, .int v_changes_20, .int v_total_20, .ref a_last, .int v_held_20, .int v_asked_20, .int v_urgent_20, .int v_lost_20])), (a_rows, .inl (cA, 96, .inl v_rows_20)), (a_sizes, .inl (cA, 4, .inl v_sizes_20)), (a_faults, .inl (cA, 16, .inl v_faults_20)), (a_last, .inl (cA, 32, .inl v_last_20))] _ := hP
      have hD : va_D A [(a0, .inr (6, [.ref a_rows, .ref a_sizes, .ref a_faults, .int v_ticks_20, .int v_due_20, .int r_20, .int v_heard_20, .int v_level_20, .int v_enabled_20, .int v_format_20, .int v_control_20, .int v_spare_20, .int v_low_20, .int v_high_20, .int v_overrun_20, .int v_vacated_20, .int v_queued_20, .int v_given_20, .int v_changes_20, .int v_total_20, .ref a_last, .int v_held_20, .int v_asked_20, .int v_urgent_20, .int v_lost_20])), (a_rows, .inl (cA, 96, .inl v_rows_20)), (a_sizes, .inl (cA, 4, .inl v_sizes_20)), (a_faults, .inl (cA, 16, .inl v_faults_20)), (a_last, .inl (cA, 32, .inl v_last_20))] := hD
      refine lv_aload_n hx hb d_T_moveOne_26 rfl (lv_at hl 0 rfl) ?_
      refine lv_aload_n hx hb d_T_moveOne_27 rfl (lv_at hl 0 rfl) ?_
      refine va_get (D := (dC, dI)) (ci := 6) (v := .int v_ticks_20) (C := cls_T) (T := fld_T) (N := 25) hx hb ht iin_T hown hK hP 0 rfl rfl 3 (by decide) (ht _ k_T_67) (fun _ h9 => h9) rfl d_T_moveOne_28 ?_
      refine lv_iload_n hx hb d_T_moveOne_31 rfl (lv_at hl 1 rfl) ?_
      refine lv_iadd hx hb d_T_moveOne_32 ?_
      refine lv_aload_n hx hb d_T_moveOne_33 rfl (lv_at hl 0 rfl) ?_
      obtain ⟨q_34, hc_34, hf⟩ := bind_e hf
      refine cVr_ (wc := cw_T cA a0 a_rows a_sizes a_faults a_last (v_ticks_20, v_due_20, r_20, v_heard_20, v_level_20, v_enabled_20, v_format_20, v_control_20, v_spare_20, v_low_20, v_high_20, v_overrun_20, v_vacated_20, v_queued_20, v_given_20, v_changes_20, v_total_20, v_held_20, v_asked_20, v_urgent_20, v_lost_20, v_rows_20, v_sizes_20, v_faults_20, v_last_20)) (wr := []) (As := []) (rest := [.int (v_ticks_20 + p_1), .ref a0]) ⟨hx, hb, hml, hown, ht⟩ (c_T_span l dC dI cA t a0 a_rows a_sizes a_faults a_last _ (v_ticks_20, v_due_20, r_20, v_heard_20, v_level_20, v_enabled_20, v_format_20, v_control_20, v_spare_20, v_low_20, v_high_20, v_overrun_20, v_vacated_20, v_queued_20, v_given_20, v_changes_20, v_total_20, v_held_20, v_asked_20, v_urgent_20, v_lost_20, v_rows_20, v_sizes_20, v_faults_20, v_last_20)  q_34 hc_34) (cwV 0 ht (gV_ k_T_70 ki_T_span ks_T_span kn_T kc_T_span) rfl rfl rfl ⟨rfl, hd_T_span⟩ ⟨Nat.le_of_ble_eq_true rfl, Nat.le_of_ble_eq_true rfl⟩) hK hZ hA hP hD hS [0, 1, 2, 3, 4] [] rfl rfl (by decide) (by decide) (by decide) rfl rfl rfl rfl hl.1 (Nat.le_of_ble_eq_true rfl) d_T_moveOne_34 ⟨Nat.le_of_ble_eq_true rfl, Nat.le_of_ble_eq_true rfl⟩ (fun r_34 H locs hw hP hD hS => ?_)
      subst hw
      have hP : va_P (dC, dI) cls [(a0, .inr (6, [.ref a_rows, .ref a_sizes, .ref a_faults, .int v_ticks_20, .int v_due_20, .int r_20, .int v_heard_20, .int v_level_20, .int v_enabled_20, .int v_format_20, .int v_control_20, .int v_spare_20, .int v_low_20, .int v_high_20, .int v_overrun_20, .int v_vacated_20, .int v_queued_20, .int v_given_20, .int v_changes_20, .int v_total_20, .ref a_last, .int v_held_20, .int v_asked_20, .int v_urgent_20, .int v_lost_20])), (a_rows, .inl (cA, 96, .inl v_rows_20)), (a_sizes, .inl (cA, 4, .inl v_sizes_20)), (a_faults, .inl (cA, 16, .inl v_faults_20)), (a_last, .inl (cA, 32, .inl v_last_20))] _ := hP.sub [0, 1, 2, 3, 4] rfl
      have hD : va_D A [(a0, .inr (6, [.ref a_rows, .ref a_sizes, .ref a_faults, .int v_ticks_20, .int v_due_20, .int r_20, .int v_heard_20, .int v_level_20, .int v_enabled_20, .int v_format_20, .int v_control_20, .int v_spare_20, .int v_low_20, .int v_high_20, .int v_overrun_20, .int v_vacated_20, .int v_queued_20, .int v_given_20, .int v_changes_20, .int v_total_20, .ref a_last, .int v_held_20, .int v_asked_20, .int v_urgent_20, .int v_lost_20])), (a_rows, .inl (cA, 96, .inl v_rows_20)), (a_sizes, .inl (cA, 4, .inl v_sizes_20)), (a_faults, .inl (cA, 16, .inl v_faults_20)), (a_last, .inl (cA, 32, .inl v_last_20))] := hD.sub [0, 1, 2, 3, 4] (by decide) rfl
      refine lv_iadd hx hb d_T_moveOne_37 ?_
      refine va_put (D := (dC, dI)) (ci := 6) (v := .int ((v_ticks_20 + p_1) + r_34)) (ty := .int) (C := cls_T) (T := fld_T) (N := 25) hx hb ht iin_T typ_T tok_T nam_T hown hK hP hD hS 0 rfl rfl 4 (by decide) (ht _ k_T_57) (fun _ h9 => h9) rfl (tok_T 4 (by decide)) rfl rfl (Nat.le_of_ble_eq_true rfl) d_T_moveOne_38 (fun H locs hP hD hS => ?_)
      have hP : va_P (dC, dI) cls [(a0, .inr (6, [.ref a_rows, .ref a_sizes, .ref a_faults, .int v_ticks_20, .int ((v_ticks_20 + p_1) + r_34), .int r_20, .int v_heard_20, .int v_level_20, .int v_enabled_20, .int v_format_20, .int v_control_20, .int v_spare_20, .int v_low_20, .int v_high_20, .int v_overrun_20, .int v_vacated_20, .int v_queued_20, .int v_given_20, .int v_changes_20, .int v_total_20, .ref a_last, .int v_held_20, .int v_asked_20, .int v_urgent_20, .int v_lost_20])), (a_rows, .inl (cA, 96, .inl v_rows_20)), (a_sizes, .inl (cA, 4, .inl v_sizes_20)), (a_faults, .inl (cA, 16, .inl v_faults_20)), (a_last, .inl (cA, 32, .inl v_last_20))] _ := hP
      have hD : va_D A [(a0, .inr (6, [.ref a_rows, .ref a_sizes, .ref a_faults, .int v_ticks_20, .int ((v_ticks_20 + p_1) + r_34), .int r_20, .int v_heard_20, .int v_level_20, .int v_enabled_20, .int v_format_20, .int v_control_20, .int v_spare_20, .int v_low_20, .int v_high_20, .int v_overrun_20, .int v_vacated_20, .int v_queued_20, .int v_given_20, .int v_changes_20, .int v_total_20, .ref a_last, .int v_held_20, .int v_asked_20, .int v_urgent_20, .int v_lost_20])), (a_rows, .inl (cA, 96, .inl v_rows_20)), (a_sizes, .inl (cA, 4, .inl v_sizes_20)), (a_faults, .inl (cA, 16, .inl v_faults_20)), (a_last, .inl (cA, 32, .inl v_last_20))] := hD
      refine lv_aload_n hx hb d_T_moveOne_41 rfl (lv_at hl 0 rfl) ?_
      refine lv_aload_n hx hb d_T_moveOne_42 rfl (lv_at hl 0 rfl) ?_
      refine va_get (D := (dC, dI)) (ci := 6) (v := .int v_vacated_20) (C := cls_T) (T := fld_T) (N := 25) hx hb ht iin_T hown hK hP 0 rfl rfl 15 (by decide) (ht _ k_T_73) (fun _ h9 => h9) rfl d_T_moveOne_43 ?_
      refine lv_if_ne (tgt := 58) hx hb d_T_moveOne_46 (by decide) (fun c_46 => ?_) (fun c_46 => ?_)
      · have hf := ite_f hf c_46
        exact wo _ _ _ (k_58 (v_ticks_20, ((v_ticks_20 + p_1) + r_34), r_20, v_heard_20, v_level_20, v_enabled_20, v_format_20, v_control_20, v_spare_20, v_low_20, v_high_20, v_overrun_20, v_vacated_20, v_queued_20, v_given_20, v_changes_20, v_total_20, v_held_20, v_asked_20, v_urgent_20, v_lost_20, v_rows_20, v_sizes_20, v_faults_20, v_last_20) hf _ _ _ hP hD hS (lv_sub hl [] rfl))
      · have hf := ite_t hf c_46
        refine lv_aload_n hx hb d_T_moveOne_49 rfl (lv_at hl 0 rfl) ?_
        refine va_get (D := (dC, dI)) (ci := 6) (v := .ref a_sizes) (C := cls_T) (T := fld_T) (N := 25) hx hb ht iin_T hown hK hP 0 rfl rfl 1 (by decide) (ht _ k_T_13) (fun _ h9 => h9) rfl d_T_moveOne_50 ?_
        refine lv_iconst (v := 3) hx hb d_T_moveOne_53 (by decide) ?_
        obtain ⟨hi_54, hf⟩ := gi_e hf
        refine va_iald hx hb hK hP 2 0 rfl rfl hi_54 d_T_moveOne_54 ?_
        refine lv_if_ne (tgt := 62) hx hb d_T_moveOne_55 (by decide) (fun c_55 => ?_) (fun c_55 => ?_)
        · have hf := ite_f hf c_55
          refine lv_iconst (v := 0) hx hb d_T_moveOne_62 (by decide) ?_
          exact wo _ _ _ (k_63 (v_ticks_20, ((v_ticks_20 + p_1) + r_34), r_20, v_heard_20, v_level_20, v_enabled_20, v_format_20, v_control_20, v_spare_20, v_low_20, v_high_20, v_overrun_20, v_vacated_20, v_queued_20, v_given_20, v_changes_20, v_total_20, v_held_20, v_asked_20, v_urgent_20, v_lost_20, v_rows_20, v_sizes_20, v_faults_20, v_last_20) 0 hf _ _ _ hP hD hS (lv_sub hl [] rfl))
        · have hf := ite_t hf c_55
          exact wo _ _ _ (k_58 (v_ticks_20, ((v_ticks_20 + p_1) + r_34), r_20, v_heard_20, v_level_20, v_enabled_20, v_format_20, v_control_20, v_spare_20, v_low_20, v_high_20, v_overrun_20, v_vacated_20, v_queued_20, v_given_20, v_changes_20, v_total_20, v_held_20, v_asked_20, v_urgent_20, v_lost_20, v_rows_20, v_sizes_20, v_faults_20, v_last_20) hf _ _ _ hP hD hS (lv_sub hl [] rfl))
    · have hf := ite_t hf c_13
      exact wo _ _ _ (k_16 (v_ticks, v_due, v_sending, v_heard, v_level, v_enabled, v_format, v_control, v_spare, v_low, v_high, v_overrun, v_vacated, v_queued, v_given, v_changes, v_total, v_held, v_asked, v_urgent, v_lost, v_rows, v_sizes, v_faults, v_last) hf _ _ _ hP hD hS (lv_sub hl [] rfl))
def f_T_arrive_67 : TwT → Option (TwT)
  | (v_ticks, v_due, v_sending, v_heard, v_level, v_enabled, v_format, v_control, v_spare, v_low, v_high, v_overrun, v_vacated, v_queued, v_given, v_changes, v_total, v_held, v_asked, v_urgent, v_lost, v_rows, v_sizes, v_faults, v_last) => some (v_ticks, v_due, v_sending, v_heard, v_level, v_enabled, v_format, v_control, v_spare, v_low, v_high, v_overrun, v_vacated, v_queued, v_given, v_changes, v_total, v_held, v_asked, v_urgent, v_lost, v_rows, v_sizes, v_faults, v_last)
def f_T_arrive : TwT → Int32 → Int32 → Option (TwT)
  | (v_ticks, v_due, v_sending, v_heard, v_level, v_enabled, v_format, v_control, v_spare, v_low, v_high, v_overrun, v_vacated, v_queued, v_given, v_changes, v_total, v_held, v_asked, v_urgent, v_lost, v_rows, v_sizes, v_faults, v_last), p_1, p_2 => gi_ 2 4 (Option.bind (f_T_places (v_ticks, v_due, v_sending, v_ticks, v_level, v_enabled, v_format, v_control, v_spare, v_low, v_high, v_overrun, v_vacated, v_queued, v_given, v_changes, v_total, v_held, v_asked, v_urgent, v_lost, v_rows, v_sizes, v_faults, v_last)) (fun r_15 => if r_15 ≤ (v_sizes (2 : Int32).toNatClampNeg) then (if v_queued = 0 then (gi_ 48 96 (gi_ 0 16 (f_T_arrive_67 (v_ticks, v_due, v_sending, v_ticks, v_level, v_enabled, v_format, v_control, v_spare, v_low, v_high, 1, v_vacated, v_queued, v_given, v_changes, v_total, v_held, v_asked, v_urgent, v_lost, (upd v_rows (48 : Int32).toNatClampNeg p_1), v_sizes, (upd v_faults (0 : Int32).toNatClampNeg p_2), v_last)))) else (f_T_arrive_67 (v_ticks, v_due, v_sending, v_ticks, v_level, v_enabled, v_format, v_control, v_spare, v_low, v_high, 1, v_vacated, v_queued, v_given, v_changes, v_total, v_held, v_asked, v_urgent, v_lost, v_rows, v_sizes, v_faults, v_last))) else (gi_ 2 4 (gi_ (v_sizes (2 : Int32).toNatClampNeg) 16 (Option.bind (f_T_append (v_ticks, v_due, v_sending, v_ticks, v_level, v_enabled, v_format, v_control, v_spare, v_low, v_high, v_overrun, v_vacated, v_queued, v_given, v_changes, v_total, v_held, v_asked, v_urgent, v_lost, v_rows, v_sizes, (upd v_faults (v_sizes (2 : Int32).toNatClampNeg).toNatClampNeg p_2), v_last) 2 p_1) (fun q_36 => match q_36 with | (v_ticks_36, v_due_36, v_sending_36, v_heard_36, v_level_36, v_enabled_36, v_format_36, v_control_36, v_spare_36, v_low_36, v_high_36, v_overrun_36, v_vacated_36, v_queued_36, v_given_36, v_changes_36, v_total_36, v_held_36, v_asked_36, v_urgent_36, v_lost_36, v_rows_36, v_sizes_36, v_faults_36, v_last_36) => some (v_ticks_36, v_due_36, v_sending_36, v_heard_36, v_level_36, v_enabled_36, v_format_36, v_control_36, v_spare_36, v_low_36, v_high_36, v_overrun_36, v_vacated_36, v_queued_36, v_given_36, v_changes_36, v_total_36, v_held_36, v_asked_36, v_urgent_36, v_lost_36, v_rows_36, v_sizes_36, v_faults_36, v_last_36)))))))
set_option maxHeartbeats 8000000 in
set_option maxRecDepth 100000 in
theorem c_T_arrive (l : Launch) (dC : Nat → ClassId) (dI : Nat → Nat → Nat) (cA : ClassId) (t : Nat) (a0 a_rows a_sizes a_faults a_last : Nat) (sz : Nat) (u : TwT) (p_1 p_2 : Int32) (q : TwT) (hf : f_T_arrive u p_1 p_2 = some q) : Met l y_T_arrive (Cond.code y_T_arrive b_T_arrive 3 none :: W0) ({ frames := 1, cells := 0, slots := 0, locals := 22 }) (va_Pc [.ref a0, .int p_1, .int p_2] (pc_ (dC, dI) [(cA, .int)] t sz (cw_T cA a0 a_rows a_sizes a_faults a_last u))) (qv_ (dC, dI) (cw_T cA a0 a_rows a_sizes a_faults a_last) q (va_A (cw_T cA a0 a_rows a_sizes a_faults a_last u) sz)) 0 0 (va_A (cw_T cA a0 a_rows a_sizes a_faults a_last u) sz) := by
  refine start_ l (qv_ (dC, dI) (cw_T cA a0 a_rows a_sizes a_faults a_last) q) (by decide) (Nat.le_of_ble_eq_true rfl) ?_
  intro p e s m below meth c hx hb hml hr hown ht hlocks hnm A hA hS hP hK hD hZ ls hl
  have hown : s.vm.findClass cls_T = some m.cls := hown
  refine wabs_ (fun WW wi wo => ?_)
  have k_67 : ∀ (u : TwT), f_T_arrive_67 u = some q → ∀ (H : Heap) (locs : List Loc) (ls : Array Slot), va_P (dC, dI) cls (cw_T cA a0 a_rows a_sizes a_faults a_last u) H → va_D A (cw_T cA a0 a_rows a_sizes a_faults a_last u) → va_S A s.heap H locs → lv_has ls 3 [] → WW H locs (F0 m 67 ls []) := by
    intro u hf H locs ls hP hD hS hl
    obtain ⟨v_ticks, v_due, v_sending, v_heard, v_level, v_enabled, v_format, v_control, v_spare, v_low, v_high, v_overrun, v_vacated, v_queued, v_given, v_changes, v_total, v_held, v_asked, v_urgent, v_lost, v_rows, v_sizes, v_faults, v_last⟩ := u
    unfold f_T_arrive_67 at hf
    try dsimp only at hf
    have hP : va_P (dC, dI) cls [(a0, .inr (6, [.ref a_rows, .ref a_sizes, .ref a_faults, .int v_ticks, .int v_due, .int v_sending, .int v_heard, .int v_level, .int v_enabled, .int v_format, .int v_control, .int v_spare, .int v_low, .int v_high, .int v_overrun, .int v_vacated, .int v_queued, .int v_given, .int v_changes, .int v_total, .ref a_last, .int v_held, .int v_asked, .int v_urgent, .int v_lost])), (a_rows, .inl (cA, 96, .inl v_rows)), (a_sizes, .inl (cA, 4, .inl v_sizes)), (a_faults, .inl (cA, 16, .inl v_faults)), (a_last, .inl (cA, 32, .inl v_last))] _ := hP
    have hD : va_D A [(a0, .inr (6, [.ref a_rows, .ref a_sizes, .ref a_faults, .int v_ticks, .int v_due, .int v_sending, .int v_heard, .int v_level, .int v_enabled, .int v_format, .int v_control, .int v_spare, .int v_low, .int v_high, .int v_overrun, .int v_vacated, .int v_queued, .int v_given, .int v_changes, .int v_total, .ref a_last, .int v_held, .int v_asked, .int v_urgent, .int v_lost])), (a_rows, .inl (cA, 96, .inl v_rows)), (a_sizes, .inl (cA, 4, .inl v_sizes)), (a_faults, .inl (cA, 16, .inl v_faults)), (a_last, .inl (cA, 32, .inl v_last))] := hD
    refine wi _ _ _ ?_
    exact W.vret hx hb hr (fun t9 ht9 _ => rv_ (Option.some.inj hf) hP hD hS ht9) hS.2.2 d_T_arrive_67
  obtain ⟨v_ticks, v_due, v_sending, v_heard, v_level, v_enabled, v_format, v_control, v_spare, v_low, v_high, v_overrun, v_vacated, v_queued, v_given, v_changes, v_total, v_held, v_asked, v_urgent, v_lost, v_rows, v_sizes, v_faults, v_last⟩ := u
  unfold f_T_arrive at hf
  try dsimp only at hf
  have hP : va_P (dC, dI) cls [(a0, .inr (6, [.ref a_rows, .ref a_sizes, .ref a_faults, .int v_ticks, .int v_due, .int v_sending, .int v_heard, .int v_level, .int v_enabled, .int v_format, .int v_control, .int v_spare, .int v_low, .int v_high, .int v_overrun, .int v_vacated, .int v_queued, .int v_given, .int v_changes, .int v_total, .ref a_last, .int v_held, .int v_asked, .int v_urgent, .int v_lost])), (a_rows, .inl (cA, 96, .inl v_rows)), (a_sizes, .inl (cA, 4, .inl v_sizes)), (a_faults, .inl (cA, 16, .inl v_faults)), (a_last, .inl (cA, 32, .inl v_last))] _ := hP
  have hD : va_D A [(a0, .inr (6, [.ref a_rows, .ref a_sizes, .ref a_faults, .int v_ticks, .int v_due, .int v_sending, .int v_heard, .int v_level, .int v_enabled, .int v_format, .int v_control, .int v_spare, .int v_low, .int v_high, .int v_overrun, .int v_vacated, .int v_queued, .int v_given, .int v_changes, .int v_total, .ref a_last, .int v_held, .int v_asked, .int v_urgent, .int v_lost])), (a_rows, .inl (cA, 96, .inl v_rows)), (a_sizes, .inl (cA, 4, .inl v_sizes)), (a_faults, .inl (cA, 16, .inl v_faults)), (a_last, .inl (cA, 32, .inl v_last))] := hD
  refine wi _ _ _ ?_
  have hl : lv_has ls 3 [(0, .ref a0), (1, .int p_1), (2, .int p_2)] := hl
  refine lv_aload_n hx hb d_T_arrive_0 rfl (lv_at hl 0 rfl) ?_
  refine lv_aload_n hx hb d_T_arrive_1 rfl (lv_at hl 0 rfl) ?_
  refine va_get (D := (dC, dI)) (ci := 6) (v := .int v_ticks) (C := cls_T) (T := fld_T) (N := 25) hx hb ht iin_T hown hK hP 0 rfl rfl 3 (by decide) (ht _ k_T_67) (fun _ h9 => h9) rfl d_T_arrive_2 ?_
  refine va_put (D := (dC, dI)) (ci := 6) (v := .int v_ticks) (ty := .int) (C := cls_T) (T := fld_T) (N := 25) hx hb ht iin_T typ_T tok_T nam_T hown hK hP hD hS 0 rfl rfl 6 (by decide) (ht _ k_T_76) (fun _ h9 => h9) rfl (tok_T 6 (by decide)) rfl rfl (Nat.le_of_ble_eq_true rfl) d_T_arrive_5 (fun H locs hP hD hS => ?_)
  have hP : va_P (dC, dI) cls [(a0, .inr (6, [.ref a_rows, .ref a_sizes, .ref a_faults, .int v_ticks, .int v_due, .int v_sending, .int v_ticks, .int v_level, .int v_enabled, .int v_format, .int v_control, .int v_spare, .int v_low, .int v_high, .int v_overrun, .int v_vacated, .int v_queued, .int v_given, .int v_changes, .int v_total, .ref a_last, .int v_held, .int v_asked, .int v_urgent, .int v_lost])), (a_rows, .inl (cA, 96, .inl v_rows)), (a_sizes, .inl (cA, 4, .inl v_sizes)), (a_faults, .inl (cA, 16, .inl v_faults)), (a_last, .inl (cA, 32, .inl v_last))] _ := hP
  have hD : va_D A [(a0, .inr (6, [.ref a_rows, .ref a_sizes, .ref a_faults, .int v_ticks, .int v_due, .int v_sending, .int v_ticks, .int v_level, .int v_enabled, .int v_format, .int v_control, .int v_spare, .int v_low, .int v_high, .int v_overrun, .int v_vacated, .int v_queued, .int v_given, .int v_changes, .int v_total, .ref a_last, .int v_held, .int v_asked, .int v_urgent, .int v_lost])), (a_rows, .inl (cA, 96, .inl v_rows)), (a_sizes, .inl (cA, 4, .inl v_sizes)), (a_faults, .inl (cA, 16, .inl v_faults)), (a_last, .inl (cA, 32, .inl v_last))] := hD
  refine lv_aload_n hx hb d_T_arrive_8 rfl (lv_at hl 0 rfl) ?_
  refine va_get (D := (dC, dI)) (ci := 6) (v := .ref a_sizes) (C := cls_T) (T := fld_T) (N := 25) hx hb ht iin_T hown hK hP 0 rfl rfl 1 (by decide) (ht _ k_T_13) (fun _ h9 => h9) rfl d_T_arrive_9 ?_
  refine lv_iconst (v := 2) hx hb d_T_arrive_12 (by decide) ?_
  obtain ⟨hi_13, hf⟩ := gi_e hf
  refine va_iald hx hb hK hP 2 0 rfl rfl hi_13 d_T_arrive_13 ?_
  refine lv_aload_n hx hb d_T_arrive_14 rfl (lv_at hl 0 rfl) ?_
  obtain ⟨q_15, hc_15, hf⟩ := bind_e hf
  refine cVr_ (wc := cw_T cA a0 a_rows a_sizes a_faults a_last (v_ticks, v_due, v_sending, v_ticks, v_level, v_enabled, v_format, v_control, v_spare, v_low, v_high, v_overrun, v_vacated, v_queued, v_given, v_changes, v_total, v_held, v_asked, v_urgent, v_lost, v_rows, v_sizes, v_faults, v_last)) (wr := []) (As := []) (rest := [.int (v_sizes (2 : Int32).toNatClampNeg)]) ⟨hx, hb, hml, hown, ht⟩ (c_T_places l dC dI cA t a0 a_rows a_sizes a_faults a_last _ (v_ticks, v_due, v_sending, v_ticks, v_level, v_enabled, v_format, v_control, v_spare, v_low, v_high, v_overrun, v_vacated, v_queued, v_given, v_changes, v_total, v_held, v_asked, v_urgent, v_lost, v_rows, v_sizes, v_faults, v_last)  q_15 hc_15) (cwV 0 ht (gV_ k_T_79 ki_T_places ks_T_places kn_T kc_T_places) rfl rfl rfl ⟨rfl, hd_T_places⟩ ⟨Nat.le_of_ble_eq_true rfl, Nat.le_of_ble_eq_true rfl⟩) hK hZ hA hP hD hS [0, 1, 2, 3, 4] [] rfl rfl (by decide) (by decide) (by decide) rfl rfl rfl rfl hl.1 (Nat.le_of_ble_eq_true rfl) d_T_arrive_15 ⟨Nat.le_of_ble_eq_true rfl, Nat.le_of_ble_eq_true rfl⟩ (fun r_15 H locs hw hP hD hS => ?_)
  subst hw
  have hP : va_P (dC, dI) cls [(a0, .inr (6, [.ref a_rows, .ref a_sizes, .ref a_faults, .int v_ticks, .int v_due, .int v_sending, .int v_ticks, .int v_level, .int v_enabled, .int v_format, .int v_control, .int v_spare, .int v_low, .int v_high, .int v_overrun, .int v_vacated, .int v_queued, .int v_given, .int v_changes, .int v_total, .ref a_last, .int v_held, .int v_asked, .int v_urgent, .int v_lost])), (a_rows, .inl (cA, 96, .inl v_rows)), (a_sizes, .inl (cA, 4, .inl v_sizes)), (a_faults, .inl (cA, 16, .inl v_faults)), (a_last, .inl (cA, 32, .inl v_last))] _ := hP.sub [0, 1, 2, 3, 4] rfl
  have hD : va_D A [(a0, .inr (6, [.ref a_rows, .ref a_sizes, .ref a_faults, .int v_ticks, .int v_due, .int v_sending, .int v_ticks, .int v_level, .int v_enabled, .int v_format, .int v_control, .int v_spare, .int v_low, .int v_high, .int v_overrun, .int v_vacated, .int v_queued, .int v_given, .int v_changes, .int v_total, .ref a_last, .int v_held, .int v_asked, .int v_urgent, .int v_lost])), (a_rows, .inl (cA, 96, .inl v_rows)), (a_sizes, .inl (cA, 4, .inl v_sizes)), (a_faults, .inl (cA, 16, .inl v_faults)), (a_last, .inl (cA, 32, .inl v_last))] := hD.sub [0, 1, 2, 3, 4] (by decide) rfl
  refine lv_icmp_ge (tgt := 40) hx hb d_T_arrive_18 (by decide) (fun c_18 => ?_) (fun c_18 => ?_)
  · have hf := ite_t hf c_18
    refine lv_aload_n hx hb d_T_arrive_40 rfl (lv_at hl 0 rfl) ?_
    refine lv_iconst (v := 1) hx hb d_T_arrive_41 (by decide) ?_
    refine va_put (D := (dC, dI)) (ci := 6) (v := .int 1) (ty := .boolean) (C := cls_T) (T := fld_T) (N := 25) hx hb ht iin_T typ_T tok_T nam_T hown hK hP hD hS 0 rfl rfl 14 (by decide) (ht _ k_T_86) (fun _ h9 => h9) rfl (tok_T 14 (by decide)) rfl rfl (Nat.le_of_ble_eq_true rfl) d_T_arrive_42 (fun H locs hP hD hS => ?_)
    have hP : va_P (dC, dI) cls [(a0, .inr (6, [.ref a_rows, .ref a_sizes, .ref a_faults, .int v_ticks, .int v_due, .int v_sending, .int v_ticks, .int v_level, .int v_enabled, .int v_format, .int v_control, .int v_spare, .int v_low, .int v_high, .int 1, .int v_vacated, .int v_queued, .int v_given, .int v_changes, .int v_total, .ref a_last, .int v_held, .int v_asked, .int v_urgent, .int v_lost])), (a_rows, .inl (cA, 96, .inl v_rows)), (a_sizes, .inl (cA, 4, .inl v_sizes)), (a_faults, .inl (cA, 16, .inl v_faults)), (a_last, .inl (cA, 32, .inl v_last))] _ := hP
    have hD : va_D A [(a0, .inr (6, [.ref a_rows, .ref a_sizes, .ref a_faults, .int v_ticks, .int v_due, .int v_sending, .int v_ticks, .int v_level, .int v_enabled, .int v_format, .int v_control, .int v_spare, .int v_low, .int v_high, .int 1, .int v_vacated, .int v_queued, .int v_given, .int v_changes, .int v_total, .ref a_last, .int v_held, .int v_asked, .int v_urgent, .int v_lost])), (a_rows, .inl (cA, 96, .inl v_rows)), (a_sizes, .inl (cA, 4, .inl v_sizes)), (a_faults, .inl (cA, 16, .inl v_faults)), (a_last, .inl (cA, 32, .inl v_last))] := hD
    refine lv_aload_n hx hb d_T_arrive_45 rfl (lv_at hl 0 rfl) ?_
    refine va_get (D := (dC, dI)) (ci := 6) (v := .int v_queued) (C := cls_T) (T := fld_T) (N := 25) hx hb ht iin_T hown hK hP 0 rfl rfl 16 (by decide) (ht _ k_T_29) (fun _ h9 => h9) rfl d_T_arrive_46 ?_
    refine lv_if_ne (tgt := 67) hx hb d_T_arrive_49 (by decide) (fun c_49 => ?_) (fun c_49 => ?_)
    · have hf := ite_f hf c_49
      exact wo _ _ _ (k_67 (v_ticks, v_due, v_sending, v_ticks, v_level, v_enabled, v_format, v_control, v_spare, v_low, v_high, 1, v_vacated, v_queued, v_given, v_changes, v_total, v_held, v_asked, v_urgent, v_lost, v_rows, v_sizes, v_faults, v_last) hf _ _ _ hP hD hS (lv_sub hl [] rfl))
    · have hf := ite_t hf c_49
      refine lv_aload_n hx hb d_T_arrive_52 rfl (lv_at hl 0 rfl) ?_
      refine va_get (D := (dC, dI)) (ci := 6) (v := .ref a_rows) (C := cls_T) (T := fld_T) (N := 25) hx hb ht iin_T hown hK hP 0 rfl rfl 0 (by decide) (ht _ k_T_7) (fun _ h9 => h9) rfl d_T_arrive_53 ?_
      refine lv_bipush (v := 48) hx hb d_T_arrive_56 (by decide) ?_
      refine lv_iload_n hx hb d_T_arrive_58 rfl (lv_at hl 1 rfl) ?_
      obtain ⟨hi_59, hf⟩ := gi_e hf
      refine va_iast hx hb hK hP hD hS 1 0 rfl rfl hi_59 d_T_arrive_59 (fun H locs hP hD hS => ?_)
      have hP : va_P (dC, dI) cls [(a0, .inr (6, [.ref a_rows, .ref a_sizes, .ref a_faults, .int v_ticks, .int v_due, .int v_sending, .int v_ticks, .int v_level, .int v_enabled, .int v_format, .int v_control, .int v_spare, .int v_low, .int v_high, .int 1, .int v_vacated, .int v_queued, .int v_given, .int v_changes, .int v_total, .ref a_last, .int v_held, .int v_asked, .int v_urgent, .int v_lost])), (a_rows, .inl (cA, 96, .inl (upd v_rows (48 : Int32).toNatClampNeg p_1))), (a_sizes, .inl (cA, 4, .inl v_sizes)), (a_faults, .inl (cA, 16, .inl v_faults)), (a_last, .inl (cA, 32, .inl v_last))] _ := hP
      have hD : va_D A [(a0, .inr (6, [.ref a_rows, .ref a_sizes, .ref a_faults, .int v_ticks, .int v_due, .int v_sending, .int v_ticks, .int v_level, .int v_enabled, .int v_format, .int v_control, .int v_spare, .int v_low, .int v_high, .int 1, .int v_vacated, .int v_queued, .int v_given, .int v_changes, .int v_total, .ref a_last, .int v_held, .int v_asked, .int v_urgent, .int v_lost])), (a_rows, .inl (cA, 96, .inl (upd v_rows (48 : Int32).toNatClampNeg p_1))), (a_sizes, .inl (cA, 4, .inl v_sizes)), (a_faults, .inl (cA, 16, .inl v_faults)), (a_last, .inl (cA, 32, .inl v_last))] := hD
      refine lv_aload_n hx hb d_T_arrive_60 rfl (lv_at hl 0 rfl) ?_
      refine va_get (D := (dC, dI)) (ci := 6) (v := .ref a_faults) (C := cls_T) (T := fld_T) (N := 25) hx hb ht iin_T hown hK hP 0 rfl rfl 2 (by decide) (ht _ k_T_16) (fun _ h9 => h9) rfl d_T_arrive_61 ?_
      refine lv_iconst (v := 0) hx hb d_T_arrive_64 (by decide) ?_
      refine lv_iload_n hx hb d_T_arrive_65 rfl (lv_at hl 2 rfl) ?_
      obtain ⟨hi_66, hf⟩ := gi_e hf
      refine va_iast hx hb hK hP hD hS 3 0 rfl rfl hi_66 d_T_arrive_66 (fun H locs hP hD hS => ?_)
      have hP : va_P (dC, dI) cls [(a0, .inr (6, [.ref a_rows, .ref a_sizes, .ref a_faults, .int v_ticks, .int v_due, .int v_sending, .int v_ticks, .int v_level, .int v_enabled, .int v_format, .int v_control, .int v_spare, .int v_low, .int v_high, .int 1, .int v_vacated, .int v_queued, .int v_given, .int v_changes, .int v_total, .ref a_last, .int v_held, .int v_asked, .int v_urgent, .int v_lost])), (a_rows, .inl (cA, 96, .inl (upd v_rows (48 : Int32).toNatClampNeg p_1))), (a_sizes, .inl (cA, 4, .inl v_sizes)), (a_faults, .inl (cA, 16, .inl (upd v_faults (0 : Int32).toNatClampNeg p_2))), (a_last, .inl (cA, 32, .inl v_last))] _ := hP
      have hD : va_D A [(a0, .inr (6, [.ref a_rows, .ref a_sizes, .ref a_faults, .int v_ticks, .int v_due, .int v_sending, .int v_ticks, .int v_level, .int v_enabled, .int v_format, .int v_control, .int v_spare, .int v_low, .int v_high, .int 1, .int v_vacated, .int v_queued, .int v_given, .int v_changes, .int v_total, .ref a_last, .int v_held, .int v_asked, .int v_urgent, .int v_lost])), (a_rows, .inl (cA, 96, .inl (upd v_rows (48 : Int32).toNatClampNeg p_1))), (a_sizes, .inl (cA, 4, .inl v_sizes)), (a_faults, .inl (cA, 16, .inl (upd v_faults (0 : Int32).toNatClampNeg p_2))), (a_last, .inl (cA, 32, .inl v_last))] := hD
      exact wo _ _ _ (k_67 (v_ticks, v_due, v_sending, v_ticks, v_level, v_enabled, v_format, v_control, v_spare, v_low, v_high, 1, v_vacated, v_queued, v_given, v_changes, v_total, v_held, v_asked, v_urgent, v_lost, (upd v_rows (48 : Int32).toNatClampNeg p_1), v_sizes, (upd v_faults (0 : Int32).toNatClampNeg p_2), v_last) hf _ _ _ hP hD hS (lv_sub hl [] rfl))
  · have hf := ite_f hf c_18
    refine lv_aload_n hx hb d_T_arrive_21 rfl (lv_at hl 0 rfl) ?_
    refine va_get (D := (dC, dI)) (ci := 6) (v := .ref a_faults) (C := cls_T) (T := fld_T) (N := 25) hx hb ht iin_T hown hK hP 0 rfl rfl 2 (by decide) (ht _ k_T_16) (fun _ h9 => h9) rfl d_T_arrive_22 ?_
    refine lv_aload_n hx hb d_T_arrive_25 rfl (lv_at hl 0 rfl) ?_
    refine va_get (D := (dC, dI)) (ci := 6) (v := .ref a_sizes) (C := cls_T) (T := fld_T) (N := 25) hx hb ht iin_T hown hK hP 0 rfl rfl 1 (by decide) (ht _ k_T_13) (fun _ h9 => h9) rfl d_T_arrive_26 ?_
    refine lv_iconst (v := 2) hx hb d_T_arrive_29 (by decide) ?_
    obtain ⟨hi_30, hf⟩ := gi_e hf
    refine va_iald hx hb hK hP 2 0 rfl rfl hi_30 d_T_arrive_30 ?_
    refine lv_iload_n hx hb d_T_arrive_31 rfl (lv_at hl 2 rfl) ?_
    obtain ⟨hi_32, hf⟩ := gi_e hf
    refine va_iast hx hb hK hP hD hS 3 0 rfl rfl hi_32 d_T_arrive_32 (fun H locs hP hD hS => ?_)
    have hP : va_P (dC, dI) cls [(a0, .inr (6, [.ref a_rows, .ref a_sizes, .ref a_faults, .int v_ticks, .int v_due, .int v_sending, .int v_ticks, .int v_level, .int v_enabled, .int v_format, .int v_control, .int v_spare, .int v_low, .int v_high, .int v_overrun, .int v_vacated, .int v_queued, .int v_given, .int v_changes, .int v_total, .ref a_last, .int v_held, .int v_asked, .int v_urgent, .int v_lost])), (a_rows, .inl (cA, 96, .inl v_rows)), (a_sizes, .inl (cA, 4, .inl v_sizes)), (a_faults, .inl (cA, 16, .inl (upd v_faults (v_sizes (2 : Int32).toNatClampNeg).toNatClampNeg p_2))), (a_last, .inl (cA, 32, .inl v_last))] _ := hP
    have hD : va_D A [(a0, .inr (6, [.ref a_rows, .ref a_sizes, .ref a_faults, .int v_ticks, .int v_due, .int v_sending, .int v_ticks, .int v_level, .int v_enabled, .int v_format, .int v_control, .int v_spare, .int v_low, .int v_high, .int v_overrun, .int v_vacated, .int v_queued, .int v_given, .int v_changes, .int v_total, .ref a_last, .int v_held, .int v_asked, .int v_urgent, .int v_lost])), (a_rows, .inl (cA, 96, .inl v_rows)), (a_sizes, .inl (cA, 4, .inl v_sizes)), (a_faults, .inl (cA, 16, .inl (upd v_faults (v_sizes (2 : Int32).toNatClampNeg).toNatClampNeg p_2))), (a_last, .inl (cA, 32, .inl v_last))] := hD
    refine lv_aload_n hx hb d_T_arrive_33 rfl (lv_at hl 0 rfl) ?_
    refine lv_iconst (v := 2) hx hb d_T_arrive_34 (by decide) ?_
    refine lv_iload_n hx hb d_T_arrive_35 rfl (lv_at hl 1 rfl) ?_
    obtain ⟨q_36, hc_36, hf⟩ := bind_e hf
    refine cVv_ (wc := cw_T cA a0 a_rows a_sizes a_faults a_last (v_ticks, v_due, v_sending, v_ticks, v_level, v_enabled, v_format, v_control, v_spare, v_low, v_high, v_overrun, v_vacated, v_queued, v_given, v_changes, v_total, v_held, v_asked, v_urgent, v_lost, v_rows, v_sizes, (upd v_faults (v_sizes (2 : Int32).toNatClampNeg).toNatClampNeg p_2), v_last)) (wr := []) (As := [.int 2, .int p_1]) (rest := []) ⟨hx, hb, hml, hown, ht⟩ (c_T_append l dC dI cA t a0 a_rows a_sizes a_faults a_last _ (v_ticks, v_due, v_sending, v_ticks, v_level, v_enabled, v_format, v_control, v_spare, v_low, v_high, v_overrun, v_vacated, v_queued, v_given, v_changes, v_total, v_held, v_asked, v_urgent, v_lost, v_rows, v_sizes, (upd v_faults (v_sizes (2 : Int32).toNatClampNeg).toNatClampNeg p_2), v_last) 2 p_1 q_36 hc_36) (cwV 2 ht (gV_ k_T_82 ki_T_append ks_T_append kn_T kc_T_append) rfl rfl rfl ⟨rfl, hd_T_append⟩ ⟨Nat.le_of_ble_eq_true rfl, Nat.le_of_ble_eq_true rfl⟩) hK hZ hA hP hD hS [0, 1, 2, 3, 4] [] rfl rfl (by decide) (by decide) (by decide) rfl rfl rfl rfl hl.1 (Nat.le_of_ble_eq_true rfl) d_T_arrive_36 ⟨Nat.le_of_ble_eq_true rfl, Nat.le_of_ble_eq_true rfl⟩ (fun u H locs hw hP hD hS => ?_)
    obtain ⟨v_ticks_36, v_due_36, v_sending_36, v_heard_36, v_level_36, v_enabled_36, v_format_36, v_control_36, v_spare_36, v_low_36, v_high_36, v_overrun_36, v_vacated_36, v_queued_36, v_given_36, v_changes_36, v_total_36, v_held_36, v_asked_36, v_urgent_36, v_lost_36, v_rows_36, v_sizes_36, v_faults_36, v_last_36⟩ := u
    subst hw
    have hP : va_P (dC, dI) cls [(a0, .inr (6, [.ref a_rows, .ref a_sizes, .ref a_faults, .int v_ticks_36, .int v_due_36, .int v_sending_36, .int v_heard_36, .int v_level_36, .int v_enabled_36, .int v_format_36, .int v_control_36, .int v_spare_36, .int v_low_36, .int v_high_36, .int v_overrun_36, .int v_vacated_36, .int v_queued_36, .int v_given_36, .int v_changes_36, .int v_total_36, .ref a_last, .int v_held_36, .int v_asked_36, .int v_urgent_36, .int v_lost_36])), (a_rows, .inl (cA, 96, .inl v_rows_36)), (a_sizes, .inl (cA, 4, .inl v_sizes_36)), (a_faults, .inl (cA, 16, .inl v_faults_36)), (a_last, .inl (cA, 32, .inl v_last_36))] _ := hP.sub [0, 1, 2, 3, 4] rfl
    have hD : va_D A [(a0, .inr (6, [.ref a_rows, .ref a_sizes, .ref a_faults, .int v_ticks_36, .int v_due_36, .int v_sending_36, .int v_heard_36, .int v_level_36, .int v_enabled_36, .int v_format_36, .int v_control_36, .int v_spare_36, .int v_low_36, .int v_high_36, .int v_overrun_36, .int v_vacated_36, .int v_queued_36, .int v_given_36, .int v_changes_36, .int v_total_36, .ref a_last, .int v_held_36, .int v_asked_36, .int v_urgent_36, .int v_lost_36])), (a_rows, .inl (cA, 96, .inl v_rows_36)), (a_sizes, .inl (cA, 4, .inl v_sizes_36)), (a_faults, .inl (cA, 16, .inl v_faults_36)), (a_last, .inl (cA, 32, .inl v_last_36))] := hD.sub [0, 1, 2, 3, 4] (by decide) rfl
    try dsimp only at hf
    exact W.vret hx hb hr (fun t9 ht9 _ => rv_ (Option.some.inj hf) hP hD hS ht9) hS.2.2 d_T_arrive_39
def f_T_takeIn_8 : Nat → TwT → Int32 → Int32 → Option (Int32 × TwT)
  | 0, _, _, _ => none
  | n + 1, (v_ticks, v_due, v_sending, v_heard, v_level, v_enabled, v_format, v_control, v_spare, v_low, v_high, v_overrun, v_vacated, v_queued, v_given, v_changes, v_total, v_held, v_asked, v_urgent, v_lost, v_rows, v_sizes, v_faults, v_last), x_1, x_2 => gi_ 2 4 (if (v_sizes (2 : Int32).toNatClampNeg) ≤ x_2 then (some (x_1, (v_ticks, v_due, v_sending, v_ticks, v_level, v_enabled, v_format, v_control, v_spare, v_low, v_high, v_overrun, v_vacated, v_queued, v_given, v_changes, v_total, v_held, v_asked, v_urgent, v_lost, v_rows, v_sizes, v_faults, v_last))) else (gi_ (x_2 + 1) 16 (gi_ x_2 16 (f_T_takeIn_8 n (v_ticks, v_due, v_sending, v_heard, v_level, v_enabled, v_format, v_control, v_spare, v_low, v_high, v_overrun, v_vacated, v_queued, v_given, v_changes, v_total, v_held, v_asked, v_urgent, v_lost, v_rows, v_sizes, (upd v_faults x_2.toNatClampNeg (v_faults (x_2 + 1).toNatClampNeg)), v_last) x_1 (x_2 + 1)))))
def f_T_takeIn : TwT → Option (Int32 × TwT)
  | (v_ticks, v_due, v_sending, v_heard, v_level, v_enabled, v_format, v_control, v_spare, v_low, v_high, v_overrun, v_vacated, v_queued, v_given, v_changes, v_total, v_held, v_asked, v_urgent, v_lost, v_rows, v_sizes, v_faults, v_last) => Option.bind (f_T_removeFirst (v_ticks, v_due, v_sending, v_heard, v_level, v_enabled, v_format, v_control, v_spare, v_low, v_high, v_overrun, v_vacated, v_queued, v_given, v_changes, v_total, v_held, v_asked, v_urgent, v_lost, v_rows, v_sizes, v_faults, v_last) 2) (fun q_2 => match q_2 with | (r_2, (v_ticks_2, v_due_2, v_sending_2, v_heard_2, v_level_2, v_enabled_2, v_format_2, v_control_2, v_spare_2, v_low_2, v_high_2, v_overrun_2, v_vacated_2, v_queued_2, v_given_2, v_changes_2, v_total_2, v_held_2, v_asked_2, v_urgent_2, v_lost_2, v_rows_2, v_sizes_2, v_faults_2, v_last_2)) => f_T_takeIn_8 128 (v_ticks_2, v_due_2, v_sending_2, v_heard_2, v_level_2, v_enabled_2, v_format_2, v_control_2, v_spare_2, v_low_2, v_high_2, v_overrun_2, v_vacated_2, v_queued_2, v_given_2, v_changes_2, v_total_2, v_held_2, v_asked_2, v_urgent_2, v_lost_2, v_rows_2, v_sizes_2, v_faults_2, v_last_2) r_2 0)
set_option maxHeartbeats 8000000 in
set_option maxRecDepth 100000 in
theorem c_T_takeIn (l : Launch) (dC : Nat → ClassId) (dI : Nat → Nat → Nat) (cA : ClassId) (t : Nat) (a0 a_rows a_sizes a_faults a_last : Nat) (sz : Nat) (u : TwT) (q : Int32 × TwT) (hf : f_T_takeIn u = some q) : Met l y_T_takeIn (Cond.code y_T_takeIn b_T_takeIn 3 (some .int) :: W0) ({ frames := 1, cells := 0, slots := 0, locals := 23 }) (va_Pc [.ref a0] (pc_ (dC, dI) [(cA, .int)] t sz (cw_T cA a0 a_rows a_sizes a_faults a_last u))) (qi_ (dC, dI) (cw_T cA a0 a_rows a_sizes a_faults a_last) q (va_A (cw_T cA a0 a_rows a_sizes a_faults a_last u) sz)) 0 0 (va_A (cw_T cA a0 a_rows a_sizes a_faults a_last u) sz) := by
  refine start_ l (qi_ (dC, dI) (cw_T cA a0 a_rows a_sizes a_faults a_last) q) (by decide) (Nat.le_of_ble_eq_true rfl) ?_
  intro p e s m below meth c hx hb hml hr hown ht hlocks hnm A hA hS hP hK hD hZ ls hl
  have hown : s.vm.findClass cls_T = some m.cls := hown
  refine wabs_ (fun WW wi wo => ?_)
  have k_8 : ∀ n : Nat, ∀ (u : TwT) (x_1 x_2 : Int32), f_T_takeIn_8 n u x_1 x_2 = some q → ∀ (H : Heap) (locs : List Loc) (ls : Array Slot), va_P (dC, dI) cls (cw_T cA a0 a_rows a_sizes a_faults a_last u) H → va_D A (cw_T cA a0 a_rows a_sizes a_faults a_last u) → va_S A s.heap H locs → lv_has ls 3 [(0, .ref a0), (1, .int x_1), (2, .int x_2)] → WW H locs (F0 m 8 ls []) := by
    intro n
    induction n with
    | zero =>
      intro u x_1 x_2 hf
      unfold f_T_takeIn_8 at hf
      cases hf
    | succ n ih =>
      intro u x_1 x_2 hf H locs ls hP hD hS hl
      obtain ⟨v_ticks, v_due, v_sending, v_heard, v_level, v_enabled, v_format, v_control, v_spare, v_low, v_high, v_overrun, v_vacated, v_queued, v_given, v_changes, v_total, v_held, v_asked, v_urgent, v_lost, v_rows, v_sizes, v_faults, v_last⟩ := u
      unfold f_T_takeIn_8 at hf
      try dsimp only at hf
      have hP : va_P (dC, dI) cls [(a0, .inr (6, [.ref a_rows, .ref a_sizes, .ref a_faults, .int v_ticks, .int v_due, .int v_sending, .int v_heard, .int v_level, .int v_enabled, .int v_format, .int v_control, .int v_spare, .int v_low, .int v_high, .int v_overrun, .int v_vacated, .int v_queued, .int v_given, .int v_changes, .int v_total, .ref a_last, .int v_held, .int v_asked, .int v_urgent, .int v_lost])), (a_rows, .inl (cA, 96, .inl v_rows)), (a_sizes, .inl (cA, 4, .inl v_sizes)), (a_faults, .inl (cA, 16, .inl v_faults)), (a_last, .inl (cA, 32, .inl v_last))] _ := hP
      have hD : va_D A [(a0, .inr (6, [.ref a_rows, .ref a_sizes, .ref a_faults, .int v_ticks, .int v_due, .int v_sending, .int v_heard, .int v_level, .int v_enabled, .int v_format, .int v_control, .int v_spare, .int v_low, .int v_high, .int v_overrun, .int v_vacated, .int v_queued, .int v_given, .int v_changes, .int v_total, .ref a_last, .int v_held, .int v_asked, .int v_urgent, .int v_lost])), (a_rows, .inl (cA, 96, .inl v_rows)), (a_sizes, .inl (cA, 4, .inl v_sizes)), (a_faults, .inl (cA, 16, .inl v_faults)), (a_last, .inl (cA, 32, .inl v_last))] := hD
      refine wi _ _ _ ?_
      refine lv_iload_n hx hb d_T_takeIn_8 rfl (lv_at hl 2 rfl) ?_
      refine lv_aload_n hx hb d_T_takeIn_9 rfl (lv_at hl 0 rfl) ?_
      refine va_get (D := (dC, dI)) (ci := 6) (v := .ref a_sizes) (C := cls_T) (T := fld_T) (N := 25) hx hb ht iin_T hown hK hP 0 rfl rfl 1 (by decide) (ht _ k_T_13) (fun _ h9 => h9) rfl d_T_takeIn_10 ?_
      refine lv_iconst (v := 2) hx hb d_T_takeIn_13 (by decide) ?_
      obtain ⟨hi_14, hf⟩ := gi_e hf
      refine va_iald hx hb hK hP 2 0 rfl rfl hi_14 d_T_takeIn_14 ?_
      refine lv_icmp_ge (tgt := 38) hx hb d_T_takeIn_15 (by decide) (fun c_15 => ?_) (fun c_15 => ?_)
      · have hf := ite_t hf c_15
        refine lv_aload_n hx hb d_T_takeIn_38 rfl (lv_at hl 0 rfl) ?_
        refine lv_aload_n hx hb d_T_takeIn_39 rfl (lv_at hl 0 rfl) ?_
        refine va_get (D := (dC, dI)) (ci := 6) (v := .int v_ticks) (C := cls_T) (T := fld_T) (N := 25) hx hb ht iin_T hown hK hP 0 rfl rfl 3 (by decide) (ht _ k_T_67) (fun _ h9 => h9) rfl d_T_takeIn_40 ?_
        refine va_put (D := (dC, dI)) (ci := 6) (v := .int v_ticks) (ty := .int) (C := cls_T) (T := fld_T) (N := 25) hx hb ht iin_T typ_T tok_T nam_T hown hK hP hD hS 0 rfl rfl 6 (by decide) (ht _ k_T_76) (fun _ h9 => h9) rfl (tok_T 6 (by decide)) rfl rfl (Nat.le_of_ble_eq_true rfl) d_T_takeIn_43 (fun H locs hP hD hS => ?_)
        have hP : va_P (dC, dI) cls [(a0, .inr (6, [.ref a_rows, .ref a_sizes, .ref a_faults, .int v_ticks, .int v_due, .int v_sending, .int v_ticks, .int v_level, .int v_enabled, .int v_format, .int v_control, .int v_spare, .int v_low, .int v_high, .int v_overrun, .int v_vacated, .int v_queued, .int v_given, .int v_changes, .int v_total, .ref a_last, .int v_held, .int v_asked, .int v_urgent, .int v_lost])), (a_rows, .inl (cA, 96, .inl v_rows)), (a_sizes, .inl (cA, 4, .inl v_sizes)), (a_faults, .inl (cA, 16, .inl v_faults)), (a_last, .inl (cA, 32, .inl v_last))] _ := hP
        have hD : va_D A [(a0, .inr (6, [.ref a_rows, .ref a_sizes, .ref a_faults, .int v_ticks, .int v_due, .int v_sending, .int v_ticks, .int v_level, .int v_enabled, .int v_format, .int v_control, .int v_spare, .int v_low, .int v_high, .int v_overrun, .int v_vacated, .int v_queued, .int v_given, .int v_changes, .int v_total, .ref a_last, .int v_held, .int v_asked, .int v_urgent, .int v_lost])), (a_rows, .inl (cA, 96, .inl v_rows)), (a_sizes, .inl (cA, 4, .inl v_sizes)), (a_faults, .inl (cA, 16, .inl v_faults)), (a_last, .inl (cA, 32, .inl v_last))] := hD
        refine lv_iload_n hx hb d_T_takeIn_46 rfl (lv_at hl 1 rfl) ?_
        exact W.iret hx hb hr (fun t9 ht9 _ => ri_ (Option.some.inj hf) hP hD hS ht9) hS.2.2 d_T_takeIn_47
      · have hf := ite_f hf c_15
        refine lv_aload_n hx hb d_T_takeIn_18 rfl (lv_at hl 0 rfl) ?_
        refine va_get (D := (dC, dI)) (ci := 6) (v := .ref a_faults) (C := cls_T) (T := fld_T) (N := 25) hx hb ht iin_T hown hK hP 0 rfl rfl 2 (by decide) (ht _ k_T_16) (fun _ h9 => h9) rfl d_T_takeIn_19 ?_
        refine lv_iload_n hx hb d_T_takeIn_22 rfl (lv_at hl 2 rfl) ?_
        refine lv_aload_n hx hb d_T_takeIn_23 rfl (lv_at hl 0 rfl) ?_
        refine va_get (D := (dC, dI)) (ci := 6) (v := .ref a_faults) (C := cls_T) (T := fld_T) (N := 25) hx hb ht iin_T hown hK hP 0 rfl rfl 2 (by decide) (ht _ k_T_16) (fun _ h9 => h9) rfl d_T_takeIn_24 ?_
        refine lv_iload_n hx hb d_T_takeIn_27 rfl (lv_at hl 2 rfl) ?_
        refine lv_iconst (v := 1) hx hb d_T_takeIn_28 (by decide) ?_
        refine lv_iadd hx hb d_T_takeIn_29 ?_
        obtain ⟨hi_30, hf⟩ := gi_e hf
        refine va_iald hx hb hK hP 3 0 rfl rfl hi_30 d_T_takeIn_30 ?_
        obtain ⟨hi_31, hf⟩ := gi_e hf
        refine va_iast hx hb hK hP hD hS 3 0 rfl rfl hi_31 d_T_takeIn_31 (fun H locs hP hD hS => ?_)
        have hP : va_P (dC, dI) cls [(a0, .inr (6, [.ref a_rows, .ref a_sizes, .ref a_faults, .int v_ticks, .int v_due, .int v_sending, .int v_heard, .int v_level, .int v_enabled, .int v_format, .int v_control, .int v_spare, .int v_low, .int v_high, .int v_overrun, .int v_vacated, .int v_queued, .int v_given, .int v_changes, .int v_total, .ref a_last, .int v_held, .int v_asked, .int v_urgent, .int v_lost])), (a_rows, .inl (cA, 96, .inl v_rows)), (a_sizes, .inl (cA, 4, .inl v_sizes)), (a_faults, .inl (cA, 16, .inl (upd v_faults x_2.toNatClampNeg (v_faults (x_2 + 1).toNatClampNeg)))), (a_last, .inl (cA, 32, .inl v_last))] _ := hP
        have hD : va_D A [(a0, .inr (6, [.ref a_rows, .ref a_sizes, .ref a_faults, .int v_ticks, .int v_due, .int v_sending, .int v_heard, .int v_level, .int v_enabled, .int v_format, .int v_control, .int v_spare, .int v_low, .int v_high, .int v_overrun, .int v_vacated, .int v_queued, .int v_given, .int v_changes, .int v_total, .ref a_last, .int v_held, .int v_asked, .int v_urgent, .int v_lost])), (a_rows, .inl (cA, 96, .inl v_rows)), (a_sizes, .inl (cA, 4, .inl v_sizes)), (a_faults, .inl (cA, 16, .inl (upd v_faults x_2.toNatClampNeg (v_faults (x_2 + 1).toNatClampNeg)))), (a_last, .inl (cA, 32, .inl v_last))] := hD
        refine lv_iinc (v := (x_2 + 1)) (lv' := [(2, .int (x_2 + 1)), (0, .ref a0), (1, .int x_1)]) hx hb d_T_takeIn_32 hl (k := 2) rfl rfl (by decide) rfl (fun ls hl => ?_)
        refine lv_goto (tgt := 8) hx hb d_T_takeIn_35 (by decide) ?_
        exact wo _ _ _ (ih (v_ticks, v_due, v_sending, v_heard, v_level, v_enabled, v_format, v_control, v_spare, v_low, v_high, v_overrun, v_vacated, v_queued, v_given, v_changes, v_total, v_held, v_asked, v_urgent, v_lost, v_rows, v_sizes, (upd v_faults x_2.toNatClampNeg (v_faults (x_2 + 1).toNatClampNeg)), v_last) x_1 (x_2 + 1) hf _ _ _ hP hD hS (lv_sub hl [1, 2, 0] rfl))
  obtain ⟨v_ticks, v_due, v_sending, v_heard, v_level, v_enabled, v_format, v_control, v_spare, v_low, v_high, v_overrun, v_vacated, v_queued, v_given, v_changes, v_total, v_held, v_asked, v_urgent, v_lost, v_rows, v_sizes, v_faults, v_last⟩ := u
  unfold f_T_takeIn at hf
  try dsimp only at hf
  have hP : va_P (dC, dI) cls [(a0, .inr (6, [.ref a_rows, .ref a_sizes, .ref a_faults, .int v_ticks, .int v_due, .int v_sending, .int v_heard, .int v_level, .int v_enabled, .int v_format, .int v_control, .int v_spare, .int v_low, .int v_high, .int v_overrun, .int v_vacated, .int v_queued, .int v_given, .int v_changes, .int v_total, .ref a_last, .int v_held, .int v_asked, .int v_urgent, .int v_lost])), (a_rows, .inl (cA, 96, .inl v_rows)), (a_sizes, .inl (cA, 4, .inl v_sizes)), (a_faults, .inl (cA, 16, .inl v_faults)), (a_last, .inl (cA, 32, .inl v_last))] _ := hP
  have hD : va_D A [(a0, .inr (6, [.ref a_rows, .ref a_sizes, .ref a_faults, .int v_ticks, .int v_due, .int v_sending, .int v_heard, .int v_level, .int v_enabled, .int v_format, .int v_control, .int v_spare, .int v_low, .int v_high, .int v_overrun, .int v_vacated, .int v_queued, .int v_given, .int v_changes, .int v_total, .ref a_last, .int v_held, .int v_asked, .int v_urgent, .int v_lost])), (a_rows, .inl (cA, 96, .inl v_rows)), (a_sizes, .inl (cA, 4, .inl v_sizes)), (a_faults, .inl (cA, 16, .inl v_faults)), (a_last, .inl (cA, 32, .inl v_last))] := hD
  refine wi _ _ _ ?_
  have hl : lv_has ls 3 [(0, .ref a0)] := hl
  refine lv_aload_n hx hb d_T_takeIn_0 rfl (lv_at hl 0 rfl) ?_
  refine lv_iconst (v := 2) hx hb d_T_takeIn_1 (by decide) ?_
  obtain ⟨q_2, hc_2, hf⟩ := bind_e hf
  refine cVi_ (wc := cw_T cA a0 a_rows a_sizes a_faults a_last (v_ticks, v_due, v_sending, v_heard, v_level, v_enabled, v_format, v_control, v_spare, v_low, v_high, v_overrun, v_vacated, v_queued, v_given, v_changes, v_total, v_held, v_asked, v_urgent, v_lost, v_rows, v_sizes, v_faults, v_last)) (wr := []) (As := [.int 2]) (rest := []) ⟨hx, hb, hml, hown, ht⟩ (c_T_removeFirst l dC dI cA t a0 a_rows a_sizes a_faults a_last _ (v_ticks, v_due, v_sending, v_heard, v_level, v_enabled, v_format, v_control, v_spare, v_low, v_high, v_overrun, v_vacated, v_queued, v_given, v_changes, v_total, v_held, v_asked, v_urgent, v_lost, v_rows, v_sizes, v_faults, v_last) 2 q_2 hc_2) (cwV 1 ht (gV_ k_T_60 ki_T_removeFirst ks_T_removeFirst kn_T kc_T_removeFirst) rfl rfl rfl ⟨rfl, hd_T_removeFirst⟩ ⟨Nat.le_of_ble_eq_true rfl, Nat.le_of_ble_eq_true rfl⟩) hK hZ hA hP hD hS [0, 1, 2, 3, 4] [] rfl rfl (by decide) (by decide) (by decide) rfl rfl rfl rfl hl.1 (Nat.le_of_ble_eq_true rfl) d_T_takeIn_2 ⟨Nat.le_of_ble_eq_true rfl, Nat.le_of_ble_eq_true rfl⟩ (fun r_2 u H locs hw hP hD hS => ?_)
  obtain ⟨v_ticks_2, v_due_2, v_sending_2, v_heard_2, v_level_2, v_enabled_2, v_format_2, v_control_2, v_spare_2, v_low_2, v_high_2, v_overrun_2, v_vacated_2, v_queued_2, v_given_2, v_changes_2, v_total_2, v_held_2, v_asked_2, v_urgent_2, v_lost_2, v_rows_2, v_sizes_2, v_faults_2, v_last_2⟩ := u
  subst hw
  have hP : va_P (dC, dI) cls [(a0, .inr (6, [.ref a_rows, .ref a_sizes, .ref a_faults, .int v_ticks_2, .int v_due_2, .int v_sending_2, .int v_heard_2, .int v_level_2, .int v_enabled_2, .int v_format_2, .int v_control_2, .int v_spare_2, .int v_low_2, .int v_high_2, .int v_overrun_2, .int v_vacated_2, .int v_queued_2, .int v_given_2, .int v_changes_2, .int v_total_2, .ref a_last, .int v_held_2, .int v_asked_2, .int v_urgent_2, .int v_lost_2])), (a_rows, .inl (cA, 96, .inl v_rows_2)), (a_sizes, .inl (cA, 4, .inl v_sizes_2)), (a_faults, .inl (cA, 16, .inl v_faults_2)), (a_last, .inl (cA, 32, .inl v_last_2))] _ := hP.sub [0, 1, 2, 3, 4] rfl
  have hD : va_D A [(a0, .inr (6, [.ref a_rows, .ref a_sizes, .ref a_faults, .int v_ticks_2, .int v_due_2, .int v_sending_2, .int v_heard_2, .int v_level_2, .int v_enabled_2, .int v_format_2, .int v_control_2, .int v_spare_2, .int v_low_2, .int v_high_2, .int v_overrun_2, .int v_vacated_2, .int v_queued_2, .int v_given_2, .int v_changes_2, .int v_total_2, .ref a_last, .int v_held_2, .int v_asked_2, .int v_urgent_2, .int v_lost_2])), (a_rows, .inl (cA, 96, .inl v_rows_2)), (a_sizes, .inl (cA, 4, .inl v_sizes_2)), (a_faults, .inl (cA, 16, .inl v_faults_2)), (a_last, .inl (cA, 32, .inl v_last_2))] := hD.sub [0, 1, 2, 3, 4] (by decide) rfl
  try dsimp only at hf
  refine lv_istore_n (lv' := [(1, .int r_2), (0, .ref a0)]) hx hb d_T_takeIn_5 rfl hl (by decide) rfl (fun ls hl => ?_)
  refine lv_iconst (v := 0) hx hb d_T_takeIn_6 (by decide) ?_
  refine lv_istore_n (lv' := [(2, .int 0), (1, .int r_2), (0, .ref a0)]) hx hb d_T_takeIn_7 rfl hl (by decide) rfl (fun ls hl => ?_)
  exact wo _ _ _ (k_8 128 (v_ticks_2, v_due_2, v_sending_2, v_heard_2, v_level_2, v_enabled_2, v_format_2, v_control_2, v_spare_2, v_low_2, v_high_2, v_overrun_2, v_vacated_2, v_queued_2, v_given_2, v_changes_2, v_total_2, v_held_2, v_asked_2, v_urgent_2, v_lost_2, v_rows_2, v_sizes_2, v_faults_2, v_last_2) r_2 0 hf _ _ _ hP hD hS (lv_sub hl [2, 1, 0] rfl))
