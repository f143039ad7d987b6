set_option maxHeartbeats 8000000 in
set_option maxRecDepth 100000 in
theorem whole_start {p : Program} {e : Env} {s : State} {m : MethodId} {below : List Frame} {meth : Method} {c : Code} (l : Launch) {b L : Nat} {xs : Nat → Int32} (hL : L ≤ 1536) (C0 : lw_At p s m meth c b L xs) : W p l e room_1 s m #[Value.ref b] below meth c s.heap [] 0 0 (lw_Z below #[Value.ref b] s) (entryFrame m ([Value.ref b] : List Value).toArray 4) := by
  obtain ⟨hx, hb, hr, hml, hown, hts, hX, hbl, hlocks, hgv⟩ := id C0
  have ht : ∀ w ∈ W0, w.before #[Value.ref b] s = true := fun w h => hts w (List.mem_filter.mp h).1
  have hown : s.vm.findClass cls_L = some m.cls := hown
  obtain ⟨A, hAe⟩ : ∃ A : Nat → Prop, A = (fun q : Nat => s.heap.size ≤ q) := ⟨_, rfl⟩
  have hA : ∀ q : Nat, s.heap.size ≤ q → A q := fun q h => by rw [hAe]; exact h
  have hnA : ∀ a : Nat, a < s.heap.size → ¬ A a := fun a h z => by rw [hAe] at z; exact absurd z (Nat.not_le.mpr h)
  obtain ⟨c0, iS0, hKn0⟩ := u_known (C := cls_D) (T := fld_D) (N := 7) (n := 7) ht iin_D (ht _ kx_D)
  obtain ⟨c1, iS1, hKn1⟩ := u_known (C := cls_M) (T := fld_M) (N := 3) (n := 3) ht iin_M (ht _ kx_M)
  obtain ⟨c2, iS2, hKn2⟩ := u_known (C := cls_P) (T := fld_P) (N := 16) (n := 16) ht iin_P (ht _ kx_P)
  obtain ⟨c3, iS3, hKn3⟩ := u_known (C := cls_R) (T := fld_R) (N := 4) (n := 4) ht iin_R (ht _ kx_R)
  obtain ⟨c4, iS4, hKn4⟩ := u_known (C := cls_S) (T := fld_S) (N := 2) (n := 2) ht iin_S (ht _ kx_S)
  obtain ⟨c5, iS5, hKn5⟩ := u_known (C := cls_F) (T := fld_F) (N := 2) (n := 2) ht iin_F (ht _ kx_F)
  obtain ⟨c6, iS6, hKn6⟩ := u_known (C := cls_T) (T := fld_T) (N := 25) (n := 25) ht iin_T (ht _ kx_T)
  obtain ⟨dC, dI, hKc⟩ : ∃ (dC : Nat → ClassId) (dI : Nat → Nat → Nat), ∀ (k : Nat) (q : vw_C), cls[k]? = some q → u_Kn s q.1 q.2.1 q.2.2 (dC k) (dI k) := by
    refine ⟨fun k => if k = 0 then c0 else if k = 1 then c1 else if k = 2 then c2 else if k = 3 then c3 else if k = 4 then c4 else if k = 5 then c5 else c6, fun k => if k = 0 then iS0 else if k = 1 then iS1 else if k = 2 then iS2 else if k = 3 then iS3 else if k = 4 then iS4 else if k = 5 then iS5 else iS6, ?_⟩
    intro k q hq
    match k, hq with
    | 0, hq => cases hq; exact hKn0
    | 1, hq => cases hq; exact hKn1
    | 2, hq => cases hq; exact hKn2
    | 3, hq => cases hq; exact hKn3
    | 4, hq => cases hq; exact hKn4
    | 5, hq => cases hq; exact hKn5
    | 6, hq => cases hq; exact hKn6
    | k + 7, hq => simp [cls] at hq
  obtain ⟨cA, kA, comp, hA1, hA2, hA3⟩ := Cond.arrayClass_spec (ht _ ka_int)
  have hK : va_K (dC, dI) cls [(cA, .int)] s := ⟨hKc, fun k q h => by
    have hk : k = 0 := by have := (List.getElem?_eq_some_iff.mp h).1; simp at this; omega
    subst hk
    cases h
    exact ⟨fun n z => ⟨fun k h => (by cases h), kA, hA2, comp, hA3⟩, hA1⟩⟩
  have hs := flat_of_before _ hgv
  have q1 : (Cond.arrayOf (Term.static "FlowedLine$Port" "LEVELS" "[I") .int).before #[Value.ref b] s = true := hs _ (by decide +kernel)
  have q2 : (Cond.eq (Term.length (Term.static "FlowedLine$Port" "LEVELS" "[I")) (.int 4)).before #[Value.ref b] s = true := hs _ (by decide +kernel)
  have q3 : (Cond.eq (Term.elem (Term.static "FlowedLine$Port" "LEVELS" "[I") (.int 0)) (.int 1)).before #[Value.ref b] s = true := hs _ (by decide +kernel)
  have q4 : (Cond.eq (Term.elem (Term.static "FlowedLine$Port" "LEVELS" "[I") (.int 1)) (.int 4)).before #[Value.ref b] s = true := hs _ (by decide +kernel)
  have q5 : (Cond.eq (Term.elem (Term.static "FlowedLine$Port" "LEVELS" "[I") (.int 2)) (.int 8)).before #[Value.ref b] s = true := hs _ (by decide +kernel)
  have q6 : (Cond.eq (Term.elem (Term.static "FlowedLine$Port" "LEVELS" "[I") (.int 3)) (.int 14)).before #[Value.ref b] s = true := hs _ (by decide +kernel)
  obtain ⟨t, ht1, hT⟩ := va_Tof (tm := (Term.static "FlowedLine$Port" "LEVELS" "[I")) (N := 4) (f := fun j => .int (lvI j)) (A := A) (by decide) q1 (va_eqt q2) (fun j hj => by
    match j, hj with
    | 0, _ => exact va_eqt q3
    | 1, _ => exact va_eqt q4
    | 2, _ => exact va_eqt q5
    | 3, _ => exact va_eqt q6
    | j + 4, h => exact absurd h (by omega)) hnA
  have hZ : st_ t A s s.heap := ⟨va_Zref (hts _ (List.mem_of_getElem? (i := 291) (by decide +kernel))) (ht _ kn_P) ht1 hnA, hT⟩
  have hXs : XF_ s := ⟨va_Nw.of rfl (hts (Cond.methodLinkNest cls_F 9 y_P_init cls_F) (List.mem_of_getElem? (i := 41) (by decide +kernel))), va_Nw.of rfl (hts (Cond.methodLinkNest cls_P 23 y_M_init cls_F) (List.mem_of_getElem? (i := 71) (by decide +kernel))), va_Nw.of rfl (hts (Cond.methodLinkNest cls_P 30 y_S_init cls_F) (List.mem_of_getElem? (i := 89) (by decide +kernel)))⟩
  have hS : va_S A s.heap s.heap [] := va_S.rf
  have hP : va_P (dC, dI) cls [] s.heap := fun k q h => by simp at h
  have hD : va_D A [] := ⟨fun i j p q h => by simp at h, fun k q h => by simp at h⟩
  have hl := lv_entry ([.ref b]) (n := 4) (Nat.le_of_ble_eq_true rfl)
  rw [lg_entry_eq]
  generalize (lg_sl ([.ref b]) ++ List.replicate (4 - (lg_sl ([.ref b])).length) Slot.unset).toArray = ls at hl ⊢
  have hl : lv_has ls 4 [(0, .ref b)] := hl
  refine va_new (ci := 5) (fs := [.null, .null]) (C := cls_F) (T := fld_F) (N := 2) hx hb ht iin_F typ_F tok_F hown (ht _ k_L_7) (ht _ kx_F) (ht _ kn_F) hK hP hD hS hA rfl (fun j hj => by rcases (show j = 0 ∨ j = 1 by omega) with rfl | rfl <;> rfl) (Nat.le_of_ble_eq_true rfl) (Nat.le_of_ble_eq_true rfl) d_L_law_0 (fun a_x H hP hD hS => ?_)
  have hP : va_P (dC, dI) cls [(a_x, .inr (5, [.null, .null]))] _ := hP
  have hD : va_D A [(a_x, .inr (5, [.null, .null]))] := hD
  refine W.widen (k := 1) (n := 2) (by omega) (by omega) ?_
  refine lv_dup hx hb d_L_law_3 rfl ?_
  refine cI_ (wc := [(a_x, .inr (5, [.null, .null]))]) (wr := []) (As := []) (rest := [.ref a_x]) ⟨hx, hb, hml, hown, ht⟩ (c_F_init l dC dI cA t a_x _) (cwI 0 ht (gc_ kc_F_init) rfl rfl rfl (ht _ kn_F) (ht _ k_L_9) (ht _ ki_F_init) rfl hd_F_init ⟨Nat.le_of_ble_eq_true rfl, Nat.le_of_ble_eq_true rfl⟩) XF_ok hXs hK hZ hA hP hD hS [0] [] rfl rfl (by decide) (by decide) (by decide) rfl rfl hl.1 (Nat.le_of_ble_eq_true rfl) d_L_law_4 ⟨Nat.le_of_ble_eq_true rfl, Nat.le_of_ble_eq_true rfl⟩ (fun u H locs hP hD hS => ?_)
  obtain ⟨a_x_driver, a_x_driver_forth, a_x_driver_forth_places, a_x_driver_back, a_x_driver_back_places, a_x_driver_port, a_x_driver_port_in, a_x_driver_port_in_places, a_x_driver_port_out, a_x_driver_port_out_places, a_x_driver_port_modem, a_x_driver_port_log, a_x_driver_port_log_latest⟩ := u
  have hP : va_P (dC, dI) cls [(a_x, .inr (5, [.ref a_x_driver_port, .ref a_x_driver])), (a_x_driver, .inr (0, [.ref a_x_driver_forth, .ref a_x_driver_back, .ref a_x_driver_port, .int 0, .int 0, .int (-1), .int 0])), (a_x_driver_forth, .inr (3, [.ref a_x_driver_forth_places, .int 24, .int 0, .int 0])), (a_x_driver_forth_places, .inl (cA, 32, .inl (fun _ => 0))), (a_x_driver_back, .inr (3, [.ref a_x_driver_back_places, .int 24, .int 0, .int 0])), (a_x_driver_back_places, .inl (cA, 32, .inl (fun _ => 0))), (a_x_driver_port, .inr (2, [.ref a_x_driver_port_in, .ref a_x_driver_port_out, .ref a_x_driver_port_modem, .ref a_x_driver_port_log, .int 0, .int 1, .int 0, .int 0, .int 0, .int 1, .int 0, .int 0, .int 0, .int 0, .int 0, .int 0])), (a_x_driver_port_in, .inr (3, [.ref a_x_driver_port_in_places, .int 1, .int 0, .int 0])), (a_x_driver_port_in_places, .inl (cA, 32, .inl (fun _ => 0))), (a_x_driver_port_out, .inr (3, [.ref a_x_driver_port_out_places, .int 1, .int 0, .int 0])), (a_x_driver_port_out_places, .inl (cA, 32, .inl (fun _ => 0))), (a_x_driver_port_modem, .inr (1, [.int 0, .int 0, .int 0])), (a_x_driver_port_log, .inr (4, [.ref a_x_driver_port_log_latest, .int 0])), (a_x_driver_port_log_latest, .inl (cA, 32, .inl (fun _ => 0)))] _ := hP
  have hD : va_D A [(a_x, .inr (5, [.ref a_x_driver_port, .ref a_x_driver])), (a_x_driver, .inr (0, [.ref a_x_driver_forth, .ref a_x_driver_back, .ref a_x_driver_port, .int 0, .int 0, .int (-1), .int 0])), (a_x_driver_forth, .inr (3, [.ref a_x_driver_forth_places, .int 24, .int 0, .int 0])), (a_x_driver_forth_places, .inl (cA, 32, .inl (fun _ => 0))), (a_x_driver_back, .inr (3, [.ref a_x_driver_back_places, .int 24, .int 0, .int 0])), (a_x_driver_back_places, .inl (cA, 32, .inl (fun _ => 0))), (a_x_driver_port, .inr (2, [.ref a_x_driver_port_in, .ref a_x_driver_port_out, .ref a_x_driver_port_modem, .ref a_x_driver_port_log, .int 0, .int 1, .int 0, .int 0, .int 0, .int 1, .int 0, .int 0, .int 0, .int 0, .int 0, .int 0])), (a_x_driver_port_in, .inr (3, [.ref a_x_driver_port_in_places, .int 1, .int 0, .int 0])), (a_x_driver_port_in_places, .inl (cA, 32, .inl (fun _ => 0))), (a_x_driver_port_out, .inr (3, [.ref a_x_driver_port_out_places, .int 1, .int 0, .int 0])), (a_x_driver_port_out_places, .inl (cA, 32, .inl (fun _ => 0))), (a_x_driver_port_modem, .inr (1, [.int 0, .int 0, .int 0])), (a_x_driver_port_log, .inr (4, [.ref a_x_driver_port_log_latest, .int 0])), (a_x_driver_port_log_latest, .inl (cA, 32, .inl (fun _ => 0)))] := hD
  refine W.widen (k := 14) (n := 206) (by omega) (by omega) ?_
  refine lv_astore_n (lv' := [(1, .ref a_x), (0, .ref b)]) hx hb d_L_law_7 rfl hl (by decide) rfl (fun ls hl => ?_)
  refine va_new (ci := 6) (fs := [.null, .null, .null, .int 0, .int 0, .int 0, .int 0, .int 0, .int 0, .int 0, .int 0, .int 0, .int 0, .int 0, .int 0, .int 0, .int 0, .int 0, .int 0, .int 0, .null, .int 0, .int 0, .int 0, .int 0]) (C := cls_T) (T := fld_T) (N := 25) hx hb ht iin_T typ_T tok_T hown (ht _ k_L_10) (ht _ kx_T) (ht _ kn_T) hK hP hD hS hA rfl (fun j hj => by rcases (show j = 0 ∨ j = 1 ∨ j = 2 ∨ j = 3 ∨ j = 4 ∨ j = 5 ∨ j = 6 ∨ j = 7 ∨ j = 8 ∨ j = 9 ∨ j = 10 ∨ j = 11 ∨ j = 12 ∨ j = 13 ∨ j = 14 ∨ j = 15 ∨ j = 16 ∨ j = 17 ∨ j = 18 ∨ j = 19 ∨ j = 20 ∨ j = 21 ∨ j = 22 ∨ j = 23 ∨ j = 24 by omega) with rfl | rfl | rfl | rfl | rfl | rfl | rfl | rfl | rfl | rfl | rfl | rfl | rfl | rfl | rfl | rfl | rfl | rfl | rfl | rfl | rfl | rfl | rfl | rfl | rfl <;> rfl) (Nat.le_of_ble_eq_true rfl) (Nat.le_of_ble_eq_true rfl) d_L_law_8 (fun a_m H hP hD hS => ?_)
  have hP : va_P (dC, dI) cls [(a_x, .inr (5, [.ref a_x_driver_port, .ref a_x_driver])), (a_x_driver, .inr (0, [.ref a_x_driver_forth, .ref a_x_driver_back, .ref a_x_driver_port, .int 0, .int 0, .int (-1), .int 0])), (a_x_driver_forth, .inr (3, [.ref a_x_driver_forth_places, .int 24, .int 0, .int 0])), (a_x_driver_forth_places, .inl (cA, 32, .inl (fun _ => 0))), (a_x_driver_back, .inr (3, [.ref a_x_driver_back_places, .int 24, .int 0, .int 0])), (a_x_driver_back_places, .inl (cA, 32, .inl (fun _ => 0))), (a_x_driver_port, .inr (2, [.ref a_x_driver_port_in, .ref a_x_driver_port_out, .ref a_x_driver_port_modem, .ref a_x_driver_port_log, .int 0, .int 1, .int 0, .int 0, .int 0, .int 1, .int 0, .int 0, .int 0, .int 0, .int 0, .int 0])), (a_x_driver_port_in, .inr (3, [.ref a_x_driver_port_in_places, .int 1, .int 0, .int 0])), (a_x_driver_port_in_places, .inl (cA, 32, .inl (fun _ => 0))), (a_x_driver_port_out, .inr (3, [.ref a_x_driver_port_out_places, .int 1, .int 0, .int 0])), (a_x_driver_port_out_places, .inl (cA, 32, .inl (fun _ => 0))), (a_x_driver_port_modem, .inr (1, [.int 0, .int 0, .int 0])), (a_x_driver_port_log, .inr (4, [.ref a_x_driver_port_log_latest, .int 0])), (a_x_driver_port_log_latest, .inl (cA, 32, .inl (fun _ => 0))), (a_m, .inr (6, [.null, .null, .null, .int 0, .int 0, .int 0, .int 0, .int 0, .int 0, .int 0, .int 0, .int 0, .int 0, .int 0, .int 0, .int 0, .int 0, .int 0, .int 0, .int 0, .null, .int 0, .int 0, .int 0, .int 0]))] _ := hP
  have hD : va_D A [(a_x, .inr (5, [.ref a_x_driver_port, .ref a_x_driver])), (a_x_driver, .inr (0, [.ref a_x_driver_forth, .ref a_x_driver_back, .ref a_x_driver_port, .int 0, .int 0, .int (-1), .int 0])), (a_x_driver_forth, .inr (3, [.ref a_x_driver_forth_places, .int 24, .int 0, .int 0])), (a_x_driver_forth_places, .inl (cA, 32, .inl (fun _ => 0))), (a_x_driver_back, .inr (3, [.ref a_x_driver_back_places, .int 24, .int 0, .int 0])), (a_x_driver_back_places, .inl (cA, 32, .inl (fun _ => 0))), (a_x_driver_port, .inr (2, [.ref a_x_driver_port_in, .ref a_x_driver_port_out, .ref a_x_driver_port_modem, .ref a_x_driver_port_log, .int 0, .int 1, .int 0, .int 0, .int 0, .int 1, .int 0, .int 0, .int 0, .int 0, .int 0, .int 0])), (a_x_driver_port_in, .inr (3, [.ref a_x_driver_port_in_places, .int 1, .int 0, .int 0])), (a_x_driver_port_in_places, .inl (cA, 32, .inl (fun _ => 0))), (a_x_driver_port_out, .inr (3, [.ref a_x_driver_port_out_places, .int 1, .int 0, .int 0])), (a_x_driver_port_out_places, .inl (cA, 32, .inl (fun _ => 0))), (a_x_driver_port_modem, .inr (1, [.int 0, .int 0, .int 0])), (a_x_driver_port_log, .inr (4, [.ref a_x_driver_port_log_latest, .int 0])), (a_x_driver_port_log_latest, .inl (cA, 32, .inl (fun _ => 0))), (a_m, .inr (6, [.null, .null, .null, .int 0, .int 0, .int 0, .int 0, .int 0, .int 0, .int 0, .int 0, .int 0, .int 0, .int 0, .int 0, .int 0, .int 0, .int 0, .int 0, .int 0, .null, .int 0, .int 0, .int 0, .int 0]))] := hD
  refine W.widen (k := 15) (n := 231) (by omega) (by omega) ?_
  refine lv_dup hx hb d_L_law_11 rfl ?_
  refine cI_ (wc := [(a_m, .inr (6, [.null, .null, .null, .int 0, .int 0, .int 0, .int 0, .int 0, .int 0, .int 0, .int 0, .int 0, .int 0, .int 0, .int 0, .int 0, .int 0, .int 0, .int 0, .int 0, .null, .int 0, .int 0, .int 0, .int 0]))]) (wr := [(a_x, .inr (5, [.ref a_x_driver_port, .ref a_x_driver])), (a_x_driver, .inr (0, [.ref a_x_driver_forth, .ref a_x_driver_back, .ref a_x_driver_port, .int 0, .int 0, .int (-1), .int 0])), (a_x_driver_forth, .inr (3, [.ref a_x_driver_forth_places, .int 24, .int 0, .int 0])), (a_x_driver_forth_places, .inl (cA, 32, .inl (fun _ => 0))), (a_x_driver_back, .inr (3, [.ref a_x_driver_back_places, .int 24, .int 0, .int 0])), (a_x_driver_back_places, .inl (cA, 32, .inl (fun _ => 0))), (a_x_driver_port, .inr (2, [.ref a_x_driver_port_in, .ref a_x_driver_port_out, .ref a_x_driver_port_modem, .ref a_x_driver_port_log, .int 0, .int 1, .int 0, .int 0, .int 0, .int 1, .int 0, .int 0, .int 0, .int 0, .int 0, .int 0])), (a_x_driver_port_in, .inr (3, [.ref a_x_driver_port_in_places, .int 1, .int 0, .int 0])), (a_x_driver_port_in_places, .inl (cA, 32, .inl (fun _ => 0))), (a_x_driver_port_out, .inr (3, [.ref a_x_driver_port_out_places, .int 1, .int 0, .int 0])), (a_x_driver_port_out_places, .inl (cA, 32, .inl (fun _ => 0))), (a_x_driver_port_modem, .inr (1, [.int 0, .int 0, .int 0])), (a_x_driver_port_log, .inr (4, [.ref a_x_driver_port_log_latest, .int 0])), (a_x_driver_port_log_latest, .inl (cA, 32, .inl (fun _ => 0)))]) (As := []) (rest := [.ref a_m]) ⟨hx, hb, hml, hown, ht⟩ (c_T_init l dC dI cA t a_m _) (cwI 0 ht (gc_ kc_T_init) rfl rfl rfl (ht _ kn_T) (ht _ k_L_12) (ht _ ki_T_init) rfl hd_T_init ⟨Nat.le_of_ble_eq_true rfl, Nat.le_of_ble_eq_true rfl⟩) X0_ok trivial hK hZ hA hP hD hS [14] [0, 1, 2, 3, 4, 5, 6, 7, 8, 9, 10, 11, 12, 13] rfl rfl (by decide) (by decide) (by decide) rfl rfl hl.1 (Nat.le_of_ble_eq_true rfl) d_L_law_12 ⟨Nat.le_of_ble_eq_true rfl, Nat.le_of_ble_eq_true rfl⟩ (fun u H locs hP hD hS => ?_)
  obtain ⟨a_m_rows, a_m_sizes, a_m_faults, a_m_last⟩ := u
  have hP : va_P (dC, dI) cls [(a_x, .inr (5, [.ref a_x_driver_port, .ref a_x_driver])), (a_x_driver, .inr (0, [.ref a_x_driver_forth, .ref a_x_driver_back, .ref a_x_driver_port, .int 0, .int 0, .int (-1), .int 0])), (a_x_driver_forth, .inr (3, [.ref a_x_driver_forth_places, .int 24, .int 0, .int 0])), (a_x_driver_forth_places, .inl (cA, 32, .inl (fun _ => 0))), (a_x_driver_back, .inr (3, [.ref a_x_driver_back_places, .int 24, .int 0, .int 0])), (a_x_driver_back_places, .inl (cA, 32, .inl (fun _ => 0))), (a_x_driver_port, .inr (2, [.ref a_x_driver_port_in, .ref a_x_driver_port_out, .ref a_x_driver_port_modem, .ref a_x_driver_port_log, .int 0, .int 1, .int 0, .int 0, .int 0, .int 1, .int 0, .int 0, .int 0, .int 0, .int 0, .int 0])), (a_x_driver_port_in, .inr (3, [.ref a_x_driver_port_in_places, .int 1, .int 0, .int 0])), (a_x_driver_port_in_places, .inl (cA, 32, .inl (fun _ => 0))), (a_x_driver_port_out, .inr (3, [.ref a_x_driver_port_out_places, .int 1, .int 0, .int 0])), (a_x_driver_port_out_places, .inl (cA, 32, .inl (fun _ => 0))), (a_x_driver_port_modem, .inr (1, [.int 0, .int 0, .int 0])), (a_x_driver_port_log, .inr (4, [.ref a_x_driver_port_log_latest, .int 0])), (a_x_driver_port_log_latest, .inl (cA, 32, .inl (fun _ => 0))), (a_m, .inr (6, [.ref a_m_rows, .ref a_m_sizes, .ref a_m_faults, .int 0, .int 0, .int 0, .int 0, .int 1, .int 0, .int 0, .int 0, .int 0, .int 1, .int 0, .int 0, .int 0, .int 0, .int 0, .int 0, .int 0, .ref a_m_last, .int 0, .int 0, .int 0, .int 0])), (a_m_rows, .inl (cA, 96, .inl (fun _ => 0))), (a_m_sizes, .inl (cA, 4, .inl (fun _ => 0))), (a_m_faults, .inl (cA, 16, .inl (fun _ => 0))), (a_m_last, .inl (cA, 32, .inl (fun _ => 0)))] _ := hP
  have hD : va_D A [(a_x, .inr (5, [.ref a_x_driver_port, .ref a_x_driver])), (a_x_driver, .inr (0, [.ref a_x_driver_forth, .ref a_x_driver_back, .ref a_x_driver_port, .int 0, .int 0, .int (-1), .int 0])), (a_x_driver_forth, .inr (3, [.ref a_x_driver_forth_places, .int 24, .int 0, .int 0])), (a_x_driver_forth_places, .inl (cA, 32, .inl (fun _ => 0))), (a_x_driver_back, .inr (3, [.ref a_x_driver_back_places, .int 24, .int 0, .int 0])), (a_x_driver_back_places, .inl (cA, 32, .inl (fun _ => 0))), (a_x_driver_port, .inr (2, [.ref a_x_driver_port_in, .ref a_x_driver_port_out, .ref a_x_driver_port_modem, .ref a_x_driver_port_log, .int 0, .int 1, .int 0, .int 0, .int 0, .int 1, .int 0, .int 0, .int 0, .int 0, .int 0, .int 0])), (a_x_driver_port_in, .inr (3, [.ref a_x_driver_port_in_places, .int 1, .int 0, .int 0])), (a_x_driver_port_in_places, .inl (cA, 32, .inl (fun _ => 0))), (a_x_driver_port_out, .inr (3, [.ref a_x_driver_port_out_places, .int 1, .int 0, .int 0])), (a_x_driver_port_out_places, .inl (cA, 32, .inl (fun _ => 0))), (a_x_driver_port_modem, .inr (1, [.int 0, .int 0, .int 0])), (a_x_driver_port_log, .inr (4, [.ref a_x_driver_port_log_latest, .int 0])), (a_x_driver_port_log_latest, .inl (cA, 32, .inl (fun _ => 0))), (a_m, .inr (6, [.ref a_m_rows, .ref a_m_sizes, .ref a_m_faults, .int 0, .int 0, .int 0, .int 0, .int 1, .int 0, .int 0, .int 0, .int 0, .int 1, .int 0, .int 0, .int 0, .int 0, .int 0, .int 0, .int 0, .ref a_m_last, .int 0, .int 0, .int 0, .int 0])), (a_m_rows, .inl (cA, 96, .inl (fun _ => 0))), (a_m_sizes, .inl (cA, 4, .inl (fun _ => 0))), (a_m_faults, .inl (cA, 16, .inl (fun _ => 0))), (a_m_last, .inl (cA, 32, .inl (fun _ => 0)))] := hD
  refine W.widen (k := 19) (n := 379) (by omega) (by omega) ?_
  refine lv_astore_n (lv' := [(2, .ref a_m), (1, .ref a_x), (0, .ref b)]) hx hb d_L_law_15 rfl hl (by decide) rfl (fun ls hl => ?_)
  refine lv_iconst (v := 0) hx hb d_L_law_16 (by decide) ?_
  refine lv_istore_n (lv' := [(3, .int 0), (2, .ref a_m), (1, .ref a_x), (0, .ref b)]) hx hb d_L_law_17 rfl hl (by decide) rfl (fun ls hl => ?_)
  rw [hAe] at hZ hD hS
  exact law_loop C0 hK hZ a_x a_x_driver a_x_driver_forth a_x_driver_forth_places a_x_driver_back a_x_driver_back_places a_x_driver_port a_x_driver_port_in a_x_driver_port_in_places a_x_driver_port_out a_x_driver_port_out_places a_x_driver_port_modem a_x_driver_port_log a_x_driver_port_log_latest a_m a_m_rows a_m_sizes a_m_faults a_m_last 600 (i_F, i_T) 0 (law_true L hL xs) _ _ _ hP hD hS (lv_sub hl [3, 2, 1, 0] rfl)
set_option maxHeartbeats 4000000 in
theorem lw_walk (l : Launch) (b : Addr) (xs : List Int32) : MetFree l x (headSpec (Jvm.Cond.code x code maxLocals ret :: tables_1) room_1) (lw_P b xs) (fun _ _ _ _ _ => True) lw_Q := by
  refine MetFree.of_bodyS (code := code) (maxLocals := maxLocals) (ret := ret) (by decide) ?_ ?_
  · intro args s m h hn
    obtain ⟨meth, c, h1, h2, h3, h4, h5, h6, -, -⟩ := Cond.code_spec hn (atoms_spec (ws := Jvm.Cond.code x code maxLocals ret :: tables_1) h _ List.mem_cons_self)
    exact ⟨meth, c, h1, h2, h3, h4, h5, h6⟩
  · intro p e s m args below meth c s₁ B hml0 hP _
    obtain ⟨rfl, hx, hbd, hgv⟩ := hP
    obtain ⟨scr, harrAt, hlist, hof, hsmall⟩ := hx
    obtain ⟨hcb, hkn, -, -⟩ := State.arrayAt?_spec harrAt
    have hown : s.vm.findClass R_law = some m.cls := findClass_of_methodNamed B.named
    have hts0 : ∀ c ∈ (Jvm.Cond.code x code maxLocals ret :: tables_1), c.before #[Value.ref b] s = true := atoms_spec (ws := Jvm.Cond.code x code maxLocals ret :: tables_1) B.pre
    have hts : ∀ w ∈ lw_tbl, w.before #[Value.ref b] s = true := k2_hts_sels lw_privs (fun w hw => hts0 w (List.mem_cons_of_mem _ hw)) lw_privs_ok
    have hml : c.maxLocals = 4 := B.maxLocals_eq (hts0 _ List.mem_cons_self)
    have X₀ : Stand p l e room_1 s m #[Value.ref b] below meth c s₁ [] 0 0 := Stand.of_body B
    have hh0 : s₁.heap = s.heap := by rw [B.state]; rfl
    have hsz : scr.slots.size = xs.length := by rw [← Array.length_toList, hlist, List.length_map]
    have hval : ∀ j : Nat, j < xs.length → scr.slots[j]? = some (.int (xs.getD j 0)) := fun j hj => by
      rw [← Array.getElem?_toList, hlist]
      simp [hj]
    have hbl : b < s.heap.size := (Array.getElem?_eq_some_iff.mp hcb).1
    have hX : va_X b xs.length (fun j => xs.getD j 0) s s.heap := ⟨scr, hcb, hof, hkn, hsz, hval⟩
    have K : W p l e room_1 s m #[Value.ref b] below meth c s₁.heap [] 0 0 (lw_Z below #[Value.ref b] s) (entryFrame m ([Value.ref b] : List Value).toArray 4) := by
      rw [hh0]
      exact whole_start l hbd ⟨B.exec, B.bytes, B.returns, hml, hown, hts, hX, hbl, B.notSynchronized, hgv⟩
    obtain ⟨t, a1, o, b1, b2, b3⟩ := K s₁ rfl X₀
    exact ⟨t, o, a1, b1, b2, b3⟩
theorem lw_pre_spec {args : Array Value} {s : State} (h : (Jvm.Cond.and given_1 narrow_1).before args s = true) (hr : rest_1_c.before args s = true) : ∃ (b : Addr) (xs : List Int32), lw_P b xs args s := by
  have hs := flat_of_before _ h
  have hq := flat_of_before _ hr
  have hc : (Cond.count 1).before args s = true := hs _ (by decide +kernel)
  have harr : (Cond.arrayOf (.arg 0) .int).before args s = true := hs _ (by decide +kernel)
  have hle : (Cond.le (.length (.arg 0)) (.int 1536)).before args s = true := hs _ (by decide +kernel)
  have hlen : (Cond.isInt (.length (.arg 0))).before args s = true := hq _ (by decide +kernel)
  have hall : (Cond.all (.arg 0) (.isInt (.elem (.arg 0) (.index 0)))).before args s = true := hq _ (by decide +kernel)
  obtain ⟨b, xs, hb, hx⟩ := State.ints_of_pre rfl harr hlen hall
  have hsm : xs.length < 2 ^ 31 := hx.choose_spec.2.2.2
  have hev : (Term.length (.arg 0)).eval args s none [] s = some (.int xs.length.toInt32) := hx.length_eval hb
  have hv := Cond.le_ints hev (show (Term.int 1536).eval args s none [] s = some (.int 1536) from rfl)
  have hd : xs.length.toInt32 ≤ 1536 := by
    simpa [Cond.before, Cond.holds, hv] using hle
  have hN : xs.length ≤ 1536 := (Int32.ofNat_le_ofNat hsm (by decide)).mp (show Int32.ofNat xs.length ≤ Int32.ofNat 1536 from hd)
  exact ⟨b, xs, Cond.one_arg hc (show args[0]? = some (.ref b) from hb), hx, hN, h⟩
theorem lw_comes (l : Launch) : Comes l x (Jvm.Cond.code x code maxLocals ret :: tables_1) room_1 (fun tb e args s => Calls_1 tb e args s ∧ rest_1 tb e args s ∧ Pre_1 tb e args s)
    (fun _ _ args s o t => lw_Q args s o t) := by
  intro p e ha hc hk s m args below hf hfit hheap happ hpre
  obtain ⟨b, xs, hP⟩ := lw_pre_spec hpre.2.2 hpre.2.1
  obtain ⟨k, o, h1, h2, h3, hQ⟩ := lw_walk l b xs p e ha hc hk s m args below hf ((Spec.applies_iff_loose hf).mp happ).1 hP trivial
  exact ⟨k, o, h1, h2, h3, hQ⟩
theorem lw_frame {s t : State} {o : Outcome} {args : Array Value} (h : Framed s o t [] 19 379) :
    Framed s o t (fieldLocs frame_1_writes args s ++ arrayLocs frame_1_arrays args s ++ staticLocs frame_1_statics s) 19 379 := h
theorem lw_limb (L : Cond) (hL : ∀ (args : Array Value) (s t : State), L.after args s (.returned (some (.int 1))) t = true) :
    ArmFor flags0 classFile x code maxLocals ret World_1 tables_1 room_1 Calls_1 rest_1 Pre_1
      (fun tb e a s o t => postC L tb e a s o t ∧ Framed s o t (fieldLocs frame_1_writes a s ++ arrayLocs frame_1_arrays a s ++ staticLocs frame_1_statics s) 19 379) := by
  intro l _ _ _ p e ha hc hk s m args below hf hfit hheap happ hpre
  obtain ⟨k, o, h1, h2, h3, rfl, hF⟩ := lw_comes l p e ha hc hk s m args below hf hfit hheap happ hpre
  exact ⟨k, _, h1, h2, h3, hL args s _, lw_frame hF⟩
theorem i_vc : Claimed_1_1 ∧ Claimed_1_2 := ⟨lw_limb limb_1_1 (fun args s t => by simp [limb_1_1, Cond.after, Cond.holds, Cond.value]), lw_limb limb_1_2 (fun args s t => Cond.after_iff.mpr (by
  first | (rw [show limb_1_2 = Cond.eq .result (.int 1) from rfl, Cond.eq_ints (x := 1) (y := 1) rfl rfl]; simp; done) | (simp [limb_1_2, Cond.value, Term.eval]; done)))⟩
