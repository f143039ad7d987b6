def f_M_isLooped_15 : MdT → Int32 → Option (Int32)
  | (v_control, v_changes, v_given), s_1 => gb_ s_1 (some s_1)
def f_M_isLooped : MdT → Option (Int32)
  | (v_control, v_changes, v_given) => if (v_control &&& 16) = 0 then (f_M_isLooped_15 (v_control, v_changes, v_given) 0) else (f_M_isLooped_15 (v_control, v_changes, v_given) 1)
set_option maxHeartbeats 8000000 in
set_option maxRecDepth 100000 in
theorem c_M_isLooped (l : Launch) (dC : Nat → ClassId) (dI : Nat → Nat → Nat) (cA : ClassId) (t : Nat) (a0 : Nat) (sz : Nat) (u : MdT) (q : Int32) (hf : f_M_isLooped u = some q) : Met l y_M_isLooped (Cond.code y_M_isLooped b_M_isLooped 1 (some .boolean) :: W0) ({ frames := 0, cells := 0, slots := 0, locals := 0 }) (va_Pc [.ref a0] (pc_ (dC, dI) [(cA, .int)] t sz (cw_M cA a0 u))) (qr_ (dC, dI) (cw_M cA a0 u) q (va_A (cw_M cA a0 u) sz)) 0 0 (va_A (cw_M cA a0 u) sz) := by
  obtain ⟨v_control, v_changes, v_given⟩ := u
  refine start_ l (qr_ (dC, dI) _ q) (by decide) (Nat.le_of_ble_eq_true rfl) ?_
  intro p e s m below meth c hx hb hml hr hown ht hlocks hnm A hA hS hP hK hD hZ ls hl
  have hown : s.vm.findClass cls_M = some m.cls := hown
  refine wabs_ (fun WW wi wo => ?_)
  have k_15 : ∀ (s_1 : Int32), f_M_isLooped_15 (v_control, v_changes, v_given) s_1 = some q → ∀ (H : Heap) (locs : List Loc) (ls : Array Slot), va_P (dC, dI) cls [(a0, .inr (1, [.int v_control, .int v_changes, .int v_given]))] H → va_D A [(a0, .inr (1, [.int v_control, .int v_changes, .int v_given]))] → va_S A s.heap H locs → lv_has ls 1 [] → WW H locs (F0 m 15 ls [.int s_1]) := by
    intro s_1 hf H locs ls hP hD hS hl
    unfold f_M_isLooped_15 at hf
    try dsimp only at hf
    have hP : va_P (dC, dI) cls [(a0, .inr (1, [.int v_control, .int v_changes, .int v_given]))] _ := hP
    have hD : va_D A [(a0, .inr (1, [.int v_control, .int v_changes, .int v_given]))] := hD
    refine wi _ _ _ ?_
    obtain ⟨hb_15, hf⟩ := gb_e hf
    exact W.zret hx hb hr hb_15.1 (fun t9 ht9 _ => rr_ (Option.some.inj hf) hP hD hS ht9) hS.2.2 d_M_isLooped_15
  unfold f_M_isLooped at hf
  try dsimp only at hf
  have hP : va_P (dC, dI) cls [(a0, .inr (1, [.int v_control, .int v_changes, .int v_given]))] _ := hP
  have hD : va_D A [(a0, .inr (1, [.int v_control, .int v_changes, .int v_given]))] := hD
  refine wi _ _ _ ?_
  have hl : lv_has ls 1 [(0, .ref a0)] := hl
  refine lv_aload_n hx hb d_M_isLooped_0 rfl (lv_at hl 0 rfl) ?_
  refine va_get (D := (dC, dI)) (ci := 1) (v := .int v_control) (C := cls_M) (T := fld_M) (N := 3) hx hb ht iin_M hown hK hP 0 rfl rfl 0 (by decide) (ht _ k_M_7) (fun _ h9 => h9) rfl d_M_isLooped_1 ?_
  refine lv_bipush (v := 16) hx hb d_M_isLooped_4 (by decide) ?_
  refine lv_iand hx hb d_M_isLooped_6 ?_
  refine lv_if_eq (tgt := 14) hx hb d_M_isLooped_7 (by decide) (fun c_7 => ?_) (fun c_7 => ?_)
  · have hf := ite_t hf c_7
    refine lv_iconst (v := 0) hx hb d_M_isLooped_14 (by decide) ?_
    exact wo _ _ _ (k_15 0 hf _ _ _ hP hD hS (lv_sub hl [] rfl))
  · have hf := ite_f hf c_7
    refine lv_iconst (v := 1) hx hb d_M_isLooped_10 (by decide) ?_
    refine lv_goto (tgt := 15) hx hb d_M_isLooped_11 (by decide) ?_
    exact wo _ _ _ (k_15 1 hf _ _ _ hP hD hS (lv_sub hl [] rfl))
def f_M_inputs : MdT → Option (Int32)
  | (v_control, v_changes, v_given) => Option.bind (f_M_isLooped (v_control, v_changes, v_given)) (fun r_1 => if r_1 = 0 then (some v_given) else (some (((v_control &&& 12) ||| ((v_control &&& 1) <<< ((1 : Int32) &&& 31))) ||| ((v_control >>> ((1 : Int32) &&& 31)) &&& 1))))
set_option maxHeartbeats 8000000 in
set_option maxRecDepth 100000 in
theorem c_M_inputs (l : Launch) (dC : Nat → ClassId) (dI : Nat → Nat → Nat) (cA : ClassId) (t : Nat) (a0 : Nat) (sz : Nat) (u : MdT) (q : Int32) (hf : f_M_inputs u = some q) : Met l y_M_inputs (Cond.code y_M_inputs b_M_inputs 1 (some .int) :: W0) ({ frames := 1, cells := 0, slots := 0, locals := 20 }) (va_Pc [.ref a0] (pc_ (dC, dI) [(cA, .int)] t sz (cw_M cA a0 u))) (qr_ (dC, dI) (cw_M cA a0 u) q (va_A (cw_M cA a0 u) sz)) 0 0 (va_A (cw_M cA a0 u) sz) := by
  obtain ⟨v_control, v_changes, v_given⟩ := u
  refine start_ l (qr_ (dC, dI) _ q) (by decide) (Nat.le_of_ble_eq_true rfl) ?_
  intro p e s m below meth c hx hb hml hr hown ht hlocks hnm A hA hS hP hK hD hZ ls hl
  have hown : s.vm.findClass cls_M = some m.cls := hown
  refine wabs_ (fun WW wi wo => ?_)
  unfold f_M_inputs at hf
  try dsimp only at hf
  have hP : va_P (dC, dI) cls [(a0, .inr (1, [.int v_control, .int v_changes, .int v_given]))] _ := hP
  have hD : va_D A [(a0, .inr (1, [.int v_control, .int v_changes, .int v_given]))] := hD
  refine wi _ _ _ ?_
  have hl : lv_has ls 1 [(0, .ref a0)] := hl
  refine lv_aload_n hx hb d_M_inputs_0 rfl (lv_at hl 0 rfl) ?_
  obtain ⟨q_1, hc_1, hf⟩ := bind_e hf
  refine cVr_ (wc := cw_M cA a0 (v_control, v_changes, v_given)) (wr := []) (As := []) (rest := []) ⟨hx, hb, hml, hown, ht⟩ (c_M_isLooped l dC dI cA t a0 _ (v_control, v_changes, v_given)  q_1 hc_1) (cwV 0 ht (gV_ k_M_13 ki_M_isLooped ks_M_isLooped kn_M kc_M_isLooped) rfl rfl rfl ⟨rfl, hd_M_isLooped⟩ ⟨Nat.le_of_ble_eq_true rfl, Nat.le_of_ble_eq_true rfl⟩) hK hZ hA hP hD hS [0] [] rfl rfl (by decide) (by decide) (by decide) rfl rfl rfl rfl hl.1 (Nat.le_of_ble_eq_true rfl) d_M_inputs_1 ⟨Nat.le_of_ble_eq_true rfl, Nat.le_of_ble_eq_true rfl⟩ (fun r_1 H locs hw hP hD hS => ?_)
  subst hw
  have hP : va_P (dC, dI) cls [(a0, .inr (1, [.int v_control, .int v_changes, .int v_given]))] _ := hP.sub [0] rfl
  have hD : va_D A [(a0, .inr (1, [.int v_control, .int v_changes, .int v_given]))] := hD.sub [0] (by decide) rfl
  refine lv_if_ne (tgt := 12) hx hb d_M_inputs_4 (by decide) (fun c_4 => ?_) (fun c_4 => ?_)
  · have hf := ite_f hf c_4
    refine lv_aload_n hx hb d_M_inputs_12 rfl (lv_at hl 0 rfl) ?_
    refine va_get (D := (dC, dI)) (ci := 1) (v := .int v_control) (C := cls_M) (T := fld_M) (N := 3) hx hb ht iin_M hown hK hP 0 rfl rfl 0 (by decide) (ht _ k_M_7) (fun _ h9 => h9) rfl d_M_inputs_13 ?_
    refine lv_bipush (v := 12) hx hb d_M_inputs_16 (by decide) ?_
    refine lv_iand hx hb d_M_inputs_18 ?_
    refine lv_aload_n hx hb d_M_inputs_19 rfl (lv_at hl 0 rfl) ?_
    refine va_get (D := (dC, dI)) (ci := 1) (v := .int v_control) (C := cls_M) (T := fld_M) (N := 3) hx hb ht iin_M hown hK hP 0 rfl rfl 0 (by decide) (ht _ k_M_7) (fun _ h9 => h9) rfl d_M_inputs_20 ?_
    refine lv_iconst (v := 1) hx hb d_M_inputs_23 (by decide) ?_
    refine lv_iand hx hb d_M_inputs_24 ?_
    refine lv_iconst (v := 1) hx hb d_M_inputs_25 (by decide) ?_
    refine lv_ishl hx hb d_M_inputs_26 ?_
    refine lv_ior hx hb d_M_inputs_27 ?_
    refine lv_aload_n hx hb d_M_inputs_28 rfl (lv_at hl 0 rfl) ?_
    refine va_get (D := (dC, dI)) (ci := 1) (v := .int v_control) (C := cls_M) (T := fld_M) (N := 3) hx hb ht iin_M hown hK hP 0 rfl rfl 0 (by decide) (ht _ k_M_7) (fun _ h9 => h9) rfl d_M_inputs_29 ?_
    refine lv_iconst (v := 1) hx hb d_M_inputs_32 (by decide) ?_
    refine lv_ishr hx hb d_M_inputs_33 ?_
    refine lv_iconst (v := 1) hx hb d_M_inputs_34 (by decide) ?_
    refine lv_iand hx hb d_M_inputs_35 ?_
    refine lv_ior hx hb d_M_inputs_36 ?_
    exact W.iret hx hb hr (fun t9 ht9 _ => rr_ (Option.some.inj hf) hP hD hS ht9) hS.2.2 d_M_inputs_37
  · have hf := ite_t hf c_4
    refine lv_aload_n hx hb d_M_inputs_7 rfl (lv_at hl 0 rfl) ?_
    refine va_get (D := (dC, dI)) (ci := 1) (v := .int v_given) (C := cls_M) (T := fld_M) (N := 3) hx hb ht iin_M hown hK hP 0 rfl rfl 2 (by decide) (ht _ k_M_17) (fun _ h9 => h9) rfl d_M_inputs_8 ?_
    exact W.iret hx hb hr (fun t9 ht9 _ => rr_ (Option.some.inj hf) hP hD hS ht9) hS.2.2 d_M_inputs_11
def f_M_noteChanges : MdT → Int32 → Option (MdT)
  | (v_control, v_changes, v_given), p_1 => Option.bind (f_M_inputs (v_control, v_changes, v_given)) (fun r_1 => some (v_control, ((v_changes ||| ((p_1 ^^^ r_1) &&& 11)) ||| ((p_1 &&& (r_1 ^^^ (-1))) &&& 4)), v_given))
set_option maxHeartbeats 8000000 in
set_option maxRecDepth 100000 in
theorem c_M_noteChanges (l : Launch) (dC : Nat → ClassId) (dI : Nat → Nat → Nat) (cA : ClassId) (t : Nat) (a0 : Nat) (sz : Nat) (u : MdT) (p_1 : Int32) (q : MdT) (hf : f_M_noteChanges u p_1 = some q) : Met l y_M_noteChanges (Cond.code y_M_noteChanges b_M_noteChanges 3 none :: W0) ({ frames := 2, cells := 0, slots := 0, locals := 40 }) (va_Pc [.ref a0, .int p_1] (pc_ (dC, dI) [(cA, .int)] t sz (cw_M cA a0 u))) (qv_ (dC, dI) (cw_M cA a0) q (va_A (cw_M cA a0 u) sz)) 0 0 (va_A (cw_M cA a0 u) sz) := by
  refine start_ l (qv_ (dC, dI) (cw_M cA a0) q) (by decide) (Nat.le_of_ble_eq_true rfl) ?_
  intro p e s m below meth c hx hb hml hr hown ht hlocks hnm A hA hS hP hK hD hZ ls hl
  have hown : s.vm.findClass cls_M = some m.cls := hown
  refine wabs_ (fun WW wi wo => ?_)
  obtain ⟨v_control, v_changes, v_given⟩ := u
  unfold f_M_noteChanges at hf
  try dsimp only at hf
  have hP : va_P (dC, dI) cls [(a0, .inr (1, [.int v_control, .int v_changes, .int v_given]))] _ := hP
  have hD : va_D A [(a0, .inr (1, [.int v_control, .int v_changes, .int v_given]))] := hD
  refine wi _ _ _ ?_
  have hl : lv_has ls 3 [(0, .ref a0), (1, .int p_1)] := hl
  refine lv_aload_n hx hb d_M_noteChanges_0 rfl (lv_at hl 0 rfl) ?_
  obtain ⟨q_1, hc_1, hf⟩ := bind_e hf
  refine cVr_ (wc := cw_M cA a0 (v_control, v_changes, v_given)) (wr := []) (As := []) (rest := []) ⟨hx, hb, hml, hown, ht⟩ (c_M_inputs l dC dI cA t a0 _ (v_control, v_changes, v_given)  q_1 hc_1) (cwV 0 ht (gV_ k_M_20 ki_M_inputs ks_M_inputs kn_M kc_M_inputs) rfl rfl rfl ⟨rfl, hd_M_inputs⟩ ⟨Nat.le_of_ble_eq_true rfl, Nat.le_of_ble_eq_true rfl⟩) hK hZ hA hP hD hS [0] [] rfl rfl (by decide) (by decide) (by decide) rfl rfl rfl rfl hl.1 (Nat.le_of_ble_eq_true rfl) d_M_noteChanges_1 ⟨Nat.le_of_ble_eq_true rfl, Nat.le_of_ble_eq_true rfl⟩ (fun r_1 H locs hw hP hD hS => ?_)
  subst hw
  have hP : va_P (dC, dI) cls [(a0, .inr (1, [.int v_control, .int v_changes, .int v_given]))] _ := hP.sub [0] rfl
  have hD : va_D A [(a0, .inr (1, [.int v_control, .int v_changes, .int v_given]))] := hD.sub [0] (by decide) rfl
  refine lv_istore_n (lv' := [(2, .int r_1), (0, .ref a0), (1, .int p_1)]) hx hb d_M_noteChanges_4 rfl hl (by decide) rfl (fun ls hl => ?_)
  refine lv_aload_n hx hb d_M_noteChanges_5 rfl (lv_at hl 1 rfl) ?_
  refine lv_dup hx hb d_M_noteChanges_6 rfl ?_
  refine va_get (D := (dC, dI)) (ci := 1) (v := .int v_changes) (C := cls_M) (T := fld_M) (N := 3) hx hb ht iin_M hown hK hP 0 rfl rfl 1 (by decide) (ht _ k_M_28) (fun _ h9 => h9) rfl d_M_noteChanges_7 ?_
  refine lv_iload_n hx hb d_M_noteChanges_10 rfl (lv_at hl 2 rfl) ?_
  refine lv_iload_n hx hb d_M_noteChanges_11 rfl (lv_at hl 0 rfl) ?_
  refine lv_ixor hx hb d_M_noteChanges_12 ?_
  refine lv_bipush (v := 11) hx hb d_M_noteChanges_13 (by decide) ?_
  refine lv_iand hx hb d_M_noteChanges_15 ?_
  refine lv_ior hx hb d_M_noteChanges_16 ?_
  refine va_put (D := (dC, dI)) (ci := 1) (v := .int (v_changes ||| ((p_1 ^^^ r_1) &&& 11))) (ty := .int) (C := cls_M) (T := fld_M) (N := 3) hx hb ht iin_M typ_M tok_M nam_M hown hK hP hD hS 0 rfl rfl 1 (by decide) (ht _ k_M_28) (fun _ h9 => h9) rfl (tok_M 1 (by decide)) rfl rfl (Nat.le_of_ble_eq_true rfl) d_M_noteChanges_17 (fun H locs hP hD hS => ?_)
  have hP : va_P (dC, dI) cls [(a0, .inr (1, [.int v_control, .int (v_changes ||| ((p_1 ^^^ r_1) &&& 11)), .int v_given]))] _ := hP
  have hD : va_D A [(a0, .inr (1, [.int v_control, .int (v_changes ||| ((p_1 ^^^ r_1) &&& 11)), .int v_given]))] := hD
  refine lv_aload_n hx hb d_M_noteChanges_20 rfl (lv_at hl 1 rfl) ?_
  refine lv_dup hx hb d_M_noteChanges_21 rfl ?_
  refine va_get (D := (dC, dI)) (ci := 1) (v := .int (v_changes ||| ((p_1 ^^^ r_1) &&& 11))) (C := cls_M) (T := fld_M) (N := 3) hx hb ht iin_M hown hK hP 0 rfl rfl 1 (by decide) (ht _ k_M_28) (fun _ h9 => h9) rfl d_M_noteChanges_22 ?_
  refine lv_iload_n hx hb d_M_noteChanges_25 rfl (lv_at hl 2 rfl) ?_
  refine lv_iload_n hx hb d_M_noteChanges_26 rfl (lv_at hl 0 rfl) ?_
  refine lv_iconst (v := (-1)) hx hb d_M_noteChanges_27 (by decide) ?_
  refine lv_ixor hx hb d_M_noteChanges_28 ?_
  refine lv_iand hx hb d_M_noteChanges_29 ?_
  refine lv_iconst (v := 4) hx hb d_M_noteChanges_30 (by decide) ?_
  refine lv_iand hx hb d_M_noteChanges_31 ?_
  refine lv_ior hx hb d_M_noteChanges_32 ?_
  refine va_put (D := (dC, dI)) (ci := 1) (v := .int ((v_changes ||| ((p_1 ^^^ r_1) &&& 11)) ||| ((p_1 &&& (r_1 ^^^ (-1))) &&& 4))) (ty := .int) (C := cls_M) (T := fld_M) (N := 3) hx hb ht iin_M typ_M tok_M nam_M hown hK hP hD hS 0 rfl rfl 1 (by decide) (ht _ k_M_28) (fun _ h9 => h9) rfl (tok_M 1 (by decide)) rfl rfl (Nat.le_of_ble_eq_true rfl) d_M_noteChanges_33 (fun H locs hP hD hS => ?_)
  have hP : va_P (dC, dI) cls [(a0, .inr (1, [.int v_control, .int ((v_changes ||| ((p_1 ^^^ r_1) &&& 11)) ||| ((p_1 &&& (r_1 ^^^ (-1))) &&& 4)), .int v_given]))] _ := hP
  have hD : va_D A [(a0, .inr (1, [.int v_control, .int ((v_changes ||| ((p_1 ^^^ r_1) &&& 11)) ||| ((p_1 &&& (r_1 ^^^ (-1))) &&& 4)), .int v_given]))] := hD
  exact W.vret hx hb hr (fun t9 ht9 _ => rv_ (Option.some.inj hf) hP hD hS ht9) hS.2.2 d_M_noteChanges_36
def f_M_setLines : MdT → Int32 → Option (MdT)
  | (v_control, v_changes, v_given), p_1 => Option.bind (f_M_inputs (v_control, v_changes, v_given)) (fun r_1 => Option.bind (f_M_noteChanges (v_control, v_changes, p_1) r_1) (fun q_12 => match q_12 with | (v_control_12, v_changes_12, v_given_12) => some (v_control_12, v_changes_12, v_given_12)))
set_option maxHeartbeats 8000000 in
set_option maxRecDepth 100000 in
theorem c_M_setLines (l : Launch) (dC : Nat → ClassId) (dI : Nat → Nat → Nat) (cA : ClassId) (t : Nat) (a0 : Nat) (sz : Nat) (u : MdT) (p_1 : Int32) (q : MdT) (hf : f_M_setLines u p_1 = some q) : Met l y_M_setLines (Cond.code y_M_setLines b_M_setLines 3 none :: W0) ({ frames := 3, cells := 0, slots := 0, locals := 62 }) (va_Pc [.ref a0, .int p_1] (pc_ (dC, dI) [(cA, .int)] t sz (cw_M cA a0 u))) (qv_ (dC, dI) (cw_M cA a0) q (va_A (cw_M cA a0 u) sz)) 0 0 (va_A (cw_M cA a0 u) sz) := by
  refine start_ l (qv_ (dC, dI) (cw_M cA a0) q) (by decide) (Nat.le_of_ble_eq_true rfl) ?_
  intro p e s m below meth c hx hb hml hr hown ht hlocks hnm A hA hS hP hK hD hZ ls hl
  have hown : s.vm.findClass cls_M = some m.cls := hown
  refine wabs_ (fun WW wi wo => ?_)
  obtain ⟨v_control, v_changes, v_given⟩ := u
  unfold f_M_setLines at hf
  try dsimp only at hf
  have hP : va_P (dC, dI) cls [(a0, .inr (1, [.int v_control, .int v_changes, .int v_given]))] _ := hP
  have hD : va_D A [(a0, .inr (1, [.int v_control, .int v_changes, .int v_given]))] := hD
  refine wi _ _ _ ?_
  have hl : lv_has ls 3 [(0, .ref a0), (1, .int p_1)] := hl
  refine lv_aload_n hx hb d_M_setLines_0 rfl (lv_at hl 0 rfl) ?_
  obtain ⟨q_1, hc_1, hf⟩ := bind_e hf
  refine cVr_ (wc := cw_M cA a0 (v_control, v_changes, v_given)) (wr := []) (As := []) (rest := []) ⟨hx, hb, hml, hown, ht⟩ (c_M_inputs l dC dI cA t a0 _ (v_control, v_changes, v_given)  q_1 hc_1) (cwV 0 ht (gV_ k_M_20 ki_M_inputs ks_M_inputs kn_M kc_M_inputs) rfl rfl rfl ⟨rfl, hd_M_inputs⟩ ⟨Nat.le_of_ble_eq_true rfl, Nat.le_of_ble_eq_true rfl⟩) hK hZ hA hP hD hS [0] [] rfl rfl (by decide) (by decide) (by decide) rfl rfl rfl rfl hl.1 (Nat.le_of_ble_eq_true rfl) d_M_setLines_1 ⟨Nat.le_of_ble_eq_true rfl, Nat.le_of_ble_eq_true rfl⟩ (fun r_1 H locs hw hP hD hS => ?_)
  subst hw
  have hP : va_P (dC, dI) cls [(a0, .inr (1, [.int v_control, .int v_changes, .int v_given]))] _ := hP.sub [0] rfl
  have hD : va_D A [(a0, .inr (1, [.int v_control, .int v_changes, .int v_given]))] := hD.sub [0] (by decide) rfl
  refine lv_istore_n (lv' := [(2, .int r_1), (0, .ref a0), (1, .int p_1)]) hx hb d_M_setLines_4 rfl hl (by decide) rfl (fun ls hl => ?_)
  refine lv_aload_n hx hb d_M_setLines_5 rfl (lv_at hl 1 rfl) ?_
  refine lv_iload_n hx hb d_M_setLines_6 rfl (lv_at hl 2 rfl) ?_
  refine va_put (D := (dC, dI)) (ci := 1) (v := .int p_1) (ty := .int) (C := cls_M) (T := fld_M) (N := 3) hx hb ht iin_M typ_M tok_M nam_M hown hK hP hD hS 0 rfl rfl 2 (by decide) (ht _ k_M_17) (fun _ h9 => h9) rfl (tok_M 2 (by decide)) rfl rfl (Nat.le_of_ble_eq_true rfl) d_M_setLines_7 (fun H locs hP hD hS => ?_)
  have hP : va_P (dC, dI) cls [(a0, .inr (1, [.int v_control, .int v_changes, .int p_1]))] _ := hP
  have hD : va_D A [(a0, .inr (1, [.int v_control, .int v_changes, .int p_1]))] := hD
  refine lv_aload_n hx hb d_M_setLines_10 rfl (lv_at hl 1 rfl) ?_
  refine lv_iload_n hx hb d_M_setLines_11 rfl (lv_at hl 0 rfl) ?_
  obtain ⟨q_12, hc_12, hf⟩ := bind_e hf
  refine cVv_ (wc := cw_M cA a0 (v_control, v_changes, p_1)) (wr := []) (As := [.int r_1]) (rest := []) ⟨hx, hb, hml, hown, ht⟩ (c_M_noteChanges l dC dI cA t a0 _ (v_control, v_changes, p_1) r_1 q_12 hc_12) (cwV 1 ht (gV_ k_M_24 ki_M_noteChanges ks_M_noteChanges kn_M kc_M_noteChanges) rfl rfl rfl ⟨rfl, hd_M_noteChanges⟩ ⟨Nat.le_of_ble_eq_true rfl, Nat.le_of_ble_eq_true rfl⟩) hK hZ hA hP hD hS [0] [] rfl rfl (by decide) (by decide) (by decide) rfl rfl rfl rfl hl.1 (Nat.le_of_ble_eq_true rfl) d_M_setLines_12 ⟨Nat.le_of_ble_eq_true rfl, Nat.le_of_ble_eq_true rfl⟩ (fun u H locs hw hP hD hS => ?_)
  obtain ⟨v_control_12, v_changes_12, v_given_12⟩ := u
  subst hw
  have hP : va_P (dC, dI) cls [(a0, .inr (1, [.int v_control_12, .int v_changes_12, .int v_given_12]))] _ := hP.sub [0] rfl
  have hD : va_D A [(a0, .inr (1, [.int v_control_12, .int v_changes_12, .int v_given_12]))] := hD.sub [0] (by decide) rfl
  try dsimp only at hf
  exact W.vret hx hb hr (fun t9 ht9 _ => rv_ (Option.some.inj hf) hP hD hS ht9) hS.2.2 d_M_setLines_15
def f_M_setControl : MdT → Int32 → Option (MdT)
  | (v_control, v_changes, v_given), p_1 => Option.bind (f_M_inputs (v_control, v_changes, v_given)) (fun r_1 => Option.bind (f_M_noteChanges (p_1, v_changes, v_given) r_1) (fun q_12 => match q_12 with | (v_control_12, v_changes_12, v_given_12) => some (v_control_12, v_changes_12, v_given_12)))
set_option maxHeartbeats 8000000 in
set_option maxRecDepth 100000 in
theorem c_M_setControl (l : Launch) (dC : Nat → ClassId) (dI : Nat → Nat → Nat) (cA : ClassId) (t : Nat) (a0 : Nat) (sz : Nat) (u : MdT) (p_1 : Int32) (q : MdT) (hf : f_M_setControl u p_1 = some q) : Met l y_M_setControl (Cond.code y_M_setControl b_M_setControl 3 none :: W0) ({ frames := 3, cells := 0, slots := 0, locals := 62 }) (va_Pc [.ref a0, .int p_1] (pc_ (dC, dI) [(cA, .int)] t sz (cw_M cA a0 u))) (qv_ (dC, dI) (cw_M cA a0) q (va_A (cw_M cA a0 u) sz)) 0 0 (va_A (cw_M cA a0 u) sz) := by
  refine start_ l (qv_ (dC, dI) (cw_M cA a0) q) (by decide) (Nat.le_of_ble_eq_true rfl) ?_
  intro p e s m below meth c hx hb hml hr hown ht hlocks hnm A hA hS hP hK hD hZ ls hl
  have hown : s.vm.findClass cls_M = some m.cls := hown
  refine wabs_ (fun WW wi wo => ?_)
  obtain ⟨v_control, v_changes, v_given⟩ := u
  unfold f_M_setControl at hf
  try dsimp only at hf
  have hP : va_P (dC, dI) cls [(a0, .inr (1, [.int v_control, .int v_changes, .int v_given]))] _ := hP
  have hD : va_D A [(a0, .inr (1, [.int v_control, .int v_changes, .int v_given]))] := hD
  refine wi _ _ _ ?_
  have hl : lv_has ls 3 [(0, .ref a0), (1, .int p_1)] := hl
  refine lv_aload_n hx hb d_M_setControl_0 rfl (lv_at hl 0 rfl) ?_
  obtain ⟨q_1, hc_1, hf⟩ := bind_e hf
  refine cVr_ (wc := cw_M cA a0 (v_control, v_changes, v_given)) (wr := []) (As := []) (rest := []) ⟨hx, hb, hml, hown, ht⟩ (c_M_inputs l dC dI cA t a0 _ (v_control, v_changes, v_given)  q_1 hc_1) (cwV 0 ht (gV_ k_M_20 ki_M_inputs ks_M_inputs kn_M kc_M_inputs) rfl rfl rfl ⟨rfl, hd_M_inputs⟩ ⟨Nat.le_of_ble_eq_true rfl, Nat.le_of_ble_eq_true rfl⟩) hK hZ hA hP hD hS [0] [] rfl rfl (by decide) (by decide) (by decide) rfl rfl rfl rfl hl.1 (Nat.le_of_ble_eq_true rfl) d_M_setControl_1 ⟨Nat.le_of_ble_eq_true rfl, Nat.le_of_ble_eq_true rfl⟩ (fun r_1 H locs hw hP hD hS => ?_)
  subst hw
  have hP : va_P (dC, dI) cls [(a0, .inr (1, [.int v_control, .int v_changes, .int v_given]))] _ := hP.sub [0] rfl
  have hD : va_D A [(a0, .inr (1, [.int v_control, .int v_changes, .int v_given]))] := hD.sub [0] (by decide) rfl
  refine lv_istore_n (lv' := [(2, .int r_1), (0, .ref a0), (1, .int p_1)]) hx hb d_M_setControl_4 rfl hl (by decide) rfl (fun ls hl => ?_)
  refine lv_aload_n hx hb d_M_setControl_5 rfl (lv_at hl 1 rfl) ?_
  refine lv_iload_n hx hb d_M_setControl_6 rfl (lv_at hl 2 rfl) ?_
  refine va_put (D := (dC, dI)) (ci := 1) (v := .int p_1) (ty := .int) (C := cls_M) (T := fld_M) (N := 3) hx hb ht iin_M typ_M tok_M nam_M hown hK hP hD hS 0 rfl rfl 0 (by decide) (ht _ k_M_7) (fun _ h9 => h9) rfl (tok_M 0 (by decide)) rfl rfl (Nat.le_of_ble_eq_true rfl) d_M_setControl_7 (fun H locs hP hD hS => ?_)
  have hP : va_P (dC, dI) cls [(a0, .inr (1, [.int p_1, .int v_changes, .int v_given]))] _ := hP
  have hD : va_D A [(a0, .inr (1, [.int p_1, .int v_changes, .int v_given]))] := hD
  refine lv_aload_n hx hb d_M_setControl_10 rfl (lv_at hl 1 rfl) ?_
  refine lv_iload_n hx hb d_M_setControl_11 rfl (lv_at hl 0 rfl) ?_
  obtain ⟨q_12, hc_12, hf⟩ := bind_e hf
  refine cVv_ (wc := cw_M cA a0 (p_1, v_changes, v_given)) (wr := []) (As := [.int r_1]) (rest := []) ⟨hx, hb, hml, hown, ht⟩ (c_M_noteChanges l dC dI cA t a0 _ (p_1, v_changes, v_given) r_1 q_12 hc_12) (cwV 1 ht (gV_ k_M_24 ki_M_noteChanges ks_M_noteChanges kn_M kc_M_noteChanges) rfl rfl rfl ⟨rfl, hd_M_noteChanges⟩ ⟨Nat.le_of_ble_eq_true rfl, Nat.le_of_ble_eq_true rfl⟩) hK hZ hA hP hD hS [0] [] rfl rfl (by decide) (by decide) (by decide) rfl rfl rfl rfl hl.1 (Nat.le_of_ble_eq_true rfl) d_M_setControl_12 ⟨Nat.le_of_ble_eq_true rfl, Nat.le_of_ble_eq_true rfl⟩ (fun u H locs hw hP hD hS => ?_)
  obtain ⟨v_control_12, v_changes_12, v_given_12⟩ := u
  subst hw
  have hP : va_P (dC, dI) cls [(a0, .inr (1, [.int v_control_12, .int v_changes_12, .int v_given_12]))] _ := hP.sub [0] rfl
  have hD : va_D A [(a0, .inr (1, [.int v_control_12, .int v_changes_12, .int v_given_12]))] := hD.sub [0] (by decide) rfl
  try dsimp only at hf
  exact W.vret hx hb hr (fun t9 ht9 _ => rv_ (Option.some.inj hf) hP hD hS ht9) hS.2.2 d_M_setControl_15
def f_M_readChanges : MdT → Option (Int32 × MdT)
  | (v_control, v_changes, v_given) => Option.bind (f_M_inputs (v_control, v_changes, v_given)) (fun r_7 => some ((v_changes + (16 * r_7)), (v_control, 0, v_given)))
set_option maxHeartbeats 8000000 in
set_option maxRecDepth 100000 in
theorem c_M_readChanges (l : Launch) (dC : Nat → ClassId) (dI : Nat → Nat → Nat) (cA : ClassId) (t : Nat) (a0 : Nat) (sz : Nat) (u : MdT) (q : Int32 × MdT) (hf : f_M_readChanges u = some q) : Met l y_M_readChanges (Cond.code y_M_readChanges b_M_readChanges 2 (some .int) :: W0) ({ frames := 2, cells := 0, slots := 0, locals := 40 }) (va_Pc [.ref a0] (pc_ (dC, dI) [(cA, .int)] t sz (cw_M cA a0 u))) (qi_ (dC, dI) (cw_M cA a0) q (va_A (cw_M cA a0 u) sz)) 0 0 (va_A (cw_M cA a0 u) sz) := by
  refine start_ l (qi_ (dC, dI) (cw_M cA a0) q) (by decide) (Nat.le_of_ble_eq_true rfl) ?_
  intro p e s m below meth c hx hb hml hr hown ht hlocks hnm A hA hS hP hK hD hZ ls hl
  have hown : s.vm.findClass cls_M = some m.cls := hown
  refine wabs_ (fun WW wi wo => ?_)
  obtain ⟨v_control, v_changes, v_given⟩ := u
  unfold f_M_readChanges at hf
  try dsimp only at hf
  have hP : va_P (dC, dI) cls [(a0, .inr (1, [.int v_control, .int v_changes, .int v_given]))] _ := hP
  have hD : va_D A [(a0, .inr (1, [.int v_control, .int v_changes, .int v_given]))] := hD
  refine wi _ _ _ ?_
  have hl : lv_has ls 2 [(0, .ref a0)] := hl
  refine lv_aload_n hx hb d_M_readChanges_0 rfl (lv_at hl 0 rfl) ?_
  refine va_get (D := (dC, dI)) (ci := 1) (v := .int v_changes) (C := cls_M) (T := fld_M) (N := 3) hx hb ht iin_M hown hK hP 0 rfl rfl 1 (by decide) (ht _ k_M_28) (fun _ h9 => h9) rfl d_M_readChanges_1 ?_
  refine lv_bipush (v := 16) hx hb d_M_readChanges_4 (by decide) ?_
  refine lv_aload_n hx hb d_M_readChanges_6 rfl (lv_at hl 0 rfl) ?_
  obtain ⟨q_7, hc_7, hf⟩ := bind_e hf
  refine cVr_ (wc := cw_M cA a0 (v_control, v_changes, v_given)) (wr := []) (As := []) (rest := [.int 16, .int v_changes]) ⟨hx, hb, hml, hown, ht⟩ (c_M_inputs l dC dI cA t a0 _ (v_control, v_changes, v_given)  q_7 hc_7) (cwV 0 ht (gV_ k_M_20 ki_M_inputs ks_M_inputs kn_M kc_M_inputs) rfl rfl rfl ⟨rfl, hd_M_inputs⟩ ⟨Nat.le_of_ble_eq_true rfl, Nat.le_of_ble_eq_true rfl⟩) hK hZ hA hP hD hS [0] [] rfl rfl (by decide) (by decide) (by decide) rfl rfl rfl rfl hl.1 (Nat.le_of_ble_eq_true rfl) d_M_readChanges_7 ⟨Nat.le_of_ble_eq_true rfl, Nat.le_of_ble_eq_true rfl⟩ (fun r_7 H locs hw hP hD hS => ?_)
  subst hw
  have hP : va_P (dC, dI) cls [(a0, .inr (1, [.int v_control, .int v_changes, .int v_given]))] _ := hP.sub [0] rfl
  have hD : va_D A [(a0, .inr (1, [.int v_control, .int v_changes, .int v_given]))] := hD.sub [0] (by decide) rfl
  refine lv_imul hx hb d_M_readChanges_10 ?_
  refine lv_iadd hx hb d_M_readChanges_11 ?_
  refine lv_istore_n (lv' := [(1, .int (v_changes + (16 * r_7))), (0, .ref a0)]) hx hb d_M_readChanges_12 rfl hl (by decide) rfl (fun ls hl => ?_)
  refine lv_aload_n hx hb d_M_readChanges_13 rfl (lv_at hl 1 rfl) ?_
  refine lv_iconst (v := 0) hx hb d_M_readChanges_14 (by decide) ?_
  refine va_put (D := (dC, dI)) (ci := 1) (v := .int 0) (ty := .int) (C := cls_M) (T := fld_M) (N := 3) hx hb ht iin_M typ_M tok_M nam_M hown hK hP hD hS 0 rfl rfl 1 (by decide) (ht _ k_M_28) (fun _ h9 => h9) rfl (tok_M 1 (by decide)) rfl rfl (Nat.le_of_ble_eq_true rfl) d_M_readChanges_15 (fun H locs hP hD hS => ?_)
  have hP : va_P (dC, dI) cls [(a0, .inr (1, [.int v_control, .int 0, .int v_given]))] _ := hP
  have hD : va_D A [(a0, .inr (1, [.int v_control, .int 0, .int v_given]))] := hD
  refine lv_iload_n hx hb d_M_readChanges_18 rfl (lv_at hl 0 rfl) ?_
  exact W.iret hx hb hr (fun t9 ht9 _ => ri_ (Option.some.inj hf) hP hD hS ht9) hS.2.2 d_M_readChanges_19
