/-! the law: every answer alike, call by call -/
set_option maxHeartbeats 8000000 in
set_option maxRecDepth 100000 in
theorem lw_eq (L : Nat) (xs : Nat → Int32) (n : Nat) (u : FlT) (v : TwT) (x : Int32) : f_L_law_18 L xs (n + 1) (u, v) x = (if ((Int32.ofNat L) - 3) < x then some 1 else gi_ x L (if ((xs x.toNatClampNeg) &&& 15) = 0 then (gi_ (x + 1) L (Option.bind (f_F_read u (xs (x + 1).toNatClampNeg)) (fun q => gi_ (x + 1) L (Option.bind (f_T_read v (xs (x + 1).toNatClampNeg)) (fun w => if q.1 = w.1 then f_L_law_18 L xs n (q.2, w.2) (x + 3) else some 0))))) else (if ((xs x.toNatClampNeg) &&& 15) = 1 then (gi_ (x + 1) L (gi_ (x + 2) L (Option.bind (f_F_write u (xs (x + 1).toNatClampNeg) (xs (x + 2).toNatClampNeg)) (fun q => gi_ (x + 1) L (gi_ (x + 2) L (Option.bind (f_T_write v (xs (x + 1).toNatClampNeg) (xs (x + 2).toNatClampNeg)) (fun w => if q.1 = w.1 then f_L_law_18 L xs n (q.2, w.2) (x + 3) else some 0))))))) else (if ((xs x.toNatClampNeg) &&& 15) = 2 then (gi_ (x + 1) L (gi_ (x + 2) L (Option.bind (f_F_wire u (xs (x + 1).toNatClampNeg) (xs (x + 2).toNatClampNeg)) (fun q => gi_ (x + 1) L (gi_ (x + 2) L (Option.bind (f_T_wire v (xs (x + 1).toNatClampNeg) (xs (x + 2).toNatClampNeg)) (fun w => if q.1 = w.1 then f_L_law_18 L xs n (q.2, w.2) (x + 3) else some 0))))))) else (if ((xs x.toNatClampNeg) &&& 15) = 3 then (gi_ (x + 1) L (Option.bind (f_F_tick u (xs (x + 1).toNatClampNeg)) (fun q => gi_ (x + 1) L (Option.bind (f_T_tick v (xs (x + 1).toNatClampNeg)) (fun w => if q.1 = w.1 then f_L_law_18 L xs n (q.2, w.2) (x + 3) else some 0))))) else (if ((xs x.toNatClampNeg) &&& 15) = 4 then (gi_ (x + 1) L (Option.bind (f_F_lines u (xs (x + 1).toNatClampNeg)) (fun q => gi_ (x + 1) L (Option.bind (f_T_lines v (xs (x + 1).toNatClampNeg)) (fun w => f_L_law_18 L xs n (q, w) (x + 3)))))) else (if ((xs x.toNatClampNeg) &&& 15) = 5 then (gi_ (x + 1) L (Option.bind (f_F_sent u (xs (x + 1).toNatClampNeg)) (fun q => gi_ (x + 1) L (Option.bind (f_T_sent v (xs (x + 1).toNatClampNeg)) (fun w => if q = w then f_L_law_18 L xs n (u, v) (x + 3) else some 0))))) else (if ((xs x.toNatClampNeg) &&& 15) = 6 then (Option.bind (f_F_total u) (fun q => Option.bind (f_T_total v) (fun w => if q = w then f_L_law_18 L xs n (u, v) (x + 3) else some 0))) else (if ((xs x.toNatClampNeg) &&& 15) = 7 then (Option.bind (f_F_cause u) (fun q => Option.bind (f_T_cause v) (fun w => if q = w then f_L_law_18 L xs n (u, v) (x + 3) else some 0))) else (if ((xs x.toNatClampNeg) &&& 15) = 8 then (Option.bind (f_F_start u) (fun q => Option.bind (f_T_start v) (fun w => f_L_law_18 L xs n (q, w) (x + 3)))) else (if ((xs x.toNatClampNeg) &&& 15) = 9 then (gi_ (x + 1) L (Option.bind (f_F_accept u (xs (x + 1).toNatClampNeg)) (fun q => gi_ (x + 1) L (Option.bind (f_T_accept v (xs (x + 1).toNatClampNeg)) (fun w => if q.1 = w.1 then f_L_law_18 L xs n (q.2, w.2) (x + 3) else some 0))))) else (if ((xs x.toNatClampNeg) &&& 15) = 10 then (Option.bind (f_F_take u) (fun q => Option.bind (f_T_take v) (fun w => if q.1 = w.1 then f_L_law_18 L xs n (q.2, w.2) (x + 3) else some 0))) else (if ((xs x.toNatClampNeg) &&& 15) = 11 then (Option.bind (f_F_service u) (fun q => Option.bind (f_T_service v) (fun w => if q.1 = w.1 then f_L_law_18 L xs n (q.2, w.2) (x + 3) else some 0))) else (if ((xs x.toNatClampNeg) &&& 15) = 12 then (gi_ (x + 1) L (Option.bind (f_F_count u (xs (x + 1).toNatClampNeg)) (fun q => gi_ (x + 1) L (Option.bind (f_T_count v (xs (x + 1).toNatClampNeg)) (fun w => if q = w then f_L_law_18 L xs n (u, v) (x + 3) else some 0))))) else (if ((xs x.toNatClampNeg) &&& 15) = 13 then (Option.bind (f_F_flow u) (fun q => Option.bind (f_T_flow v) (fun w => if q = w then f_L_law_18 L xs n (u, v) (x + 3) else some 0))) else (if ((xs x.toNatClampNeg) &&& 15) = 14 then (Option.bind (f_F_lost u) (fun q => Option.bind (f_T_lost v) (fun w => if q = w then f_L_law_18 L xs n (u, v) (x + 3) else some 0))) else (if ((xs x.toNatClampNeg) &&& 15) = 15 then (Option.bind (f_F_left u) (fun q => Option.bind (f_T_left v) (fun w => if q = w then f_L_law_18 L xs n (u, v) (x + 3) else some 0))) else (f_L_law_18 L xs n (u, v) (x + 3))))))))))))))))))) := by
  obtain ⟨hd, ak, uc, ls, ⟨f1, f2, f3, f4⟩, ⟨b1, b2, b3, b4⟩, ⟨y1, y2, y3, y4, y5, y6, y7, y8, y9, y10, y11, y12, ⟨yi1, yi2, yi3, yi4⟩, ⟨yo1, yo2, yo3, yo4⟩, ⟨ym1, ym2, ym3⟩, ⟨yl1, yl2⟩⟩⟩ := u
  obtain ⟨w1, w2, w3, w4, w5, w6, w7, w8, w9, w10, w11, w12, w13, w14, w15, w16, w17, w18, w19, w20, w21, w22, w23, w24, w25⟩ := v
  simp only [f_L_law_18, f_L_law_416]
theorem lw_stop {L m : Nat} (hL : L ≤ 1536) (hm : m ≤ 1536) : ((Int32.ofNat L) - 3 < nI m) = (L < m + 3) := by
  apply propext
  rw [Int32.lt_iff_toInt_lt, show Int32.ofNat L - 3 = nI L - nI 3 from rfl, pk_sub_toInt (by omega) (by omega), nI_toInt (by omega)]
  omega
theorem law_rec {L : Nat} (hL : L ≤ 1536) (xs : Nat → Int32) : ∀ (n j : Nat) (u : FlT) (v : TwT), j ≤ 512 → 513 ≤ j + n → RD (100 * j) u v → f_L_law_18 L xs n (u, v) (nI (3 * j)) = some 1 := by
  intro n
  induction n with
  | zero => intro j u v h1 h2; omega
  | succ n ih =>
    intro j u v hj hn h
    have es := lw_stop (m := 3 * j) hL (by omega)
    rw [lw_eq]
    by_cases hs : L < 3 * j + 3
    · rw [if_pos (es.mpr hs)]
    · rw [if_neg (fun z => hs (es.mp z)), gi_n (by omega) (by omega)]
      have e1 : nI (3 * j) + 1 = nI (3 * j + 1) := nI_1 _
      have e2 : nI (3 * j) + 2 = nI (3 * j + 2) := nI_add (3 * j) 2
      have e3 : nI (3 * j) + 3 = nI (3 * (j + 1)) := nI_add (3 * j) 3
      have gg1 : ∀ {α : Type} {k : Option α}, gi_ (nI (3 * j) + 1) L k = k := fun {α k} => by rw [e1]; exact gi_n (by omega) (by omega)
      have gg2 : ∀ {α : Type} {k : Option α}, gi_ (nI (3 * j) + 2) L k = k := fun {α k} => by rw [e2]; exact gi_n (by omega) (by omega)
      have hN : 100 * j ≤ 60000 := by omega
      have go : ∀ u' v', RD (100 * j + 100) u' v' → f_L_law_18 L xs n (u', v') (nI (3 * j) + 3) = some 1 := fun u' v' z => by rw [e3]; exact ih (j + 1) u' v' (by omega) (by omega) (z.mono (by omega))
      obtain ⟨k, hk, hc⟩ := pk_andE (xs (nI (3 * j)).toNatClampNeg) (m := 15) 4 (by decide)
      rw [hc]
      generalize nI (3 * j) = x at gg1 gg2 go
      rcases (show k = 0 ∨ k = 1 ∨ k = 2 ∨ k = 3 ∨ k = 4 ∨ k = 5 ∨ k = 6 ∨ k = 7 ∨ k = 8 ∨ k = 9 ∨ k = 10 ∨ k = 11 ∨ k = 12 ∨ k = 13 ∨ k = 14 ∨ k = 15 by omega) with rfl | rfl | rfl | rfl | rfl | rfl | rfl | rfl | rfl | rfl | rfl | rfl | rfl | rfl | rfl | rfl
      · obtain ⟨r, u', v', h1, h2, h3⟩ := f_read hN h (xs (x + 1).toNatClampNeg)
        rw [if_pos (by decide)]
        simp only [gg1, h1, h2, Option.bind_some, if_true]
        exact go _ _ (h3.mono (by omega))
      · obtain ⟨r, u', v', h1, h2, h3⟩ := f_write hN h (xs (x + 1).toNatClampNeg) (xs (x + 2).toNatClampNeg)
        rw [if_neg (by decide), if_pos (by decide)]
        simp only [gg1, gg2, h1, h2, Option.bind_some, if_true]
        exact go _ _ (h3.mono (by omega))
      · obtain ⟨r, u', v', h1, h2, h3⟩ := f_wire h (xs (x + 1).toNatClampNeg) (xs (x + 2).toNatClampNeg)
        rw [if_neg (by decide), if_neg (by decide), if_pos (by decide)]
        simp only [gg1, gg2, h1, h2, Option.bind_some, if_true]
        exact go _ _ (h3.mono (by omega))
      · obtain ⟨r, u', v', h1, h2, h3⟩ := f_tick (show 100 * j + 100 ≤ 60000 by omega) h (xs (x + 1).toNatClampNeg)
        rw [if_neg (by decide), if_neg (by decide), if_neg (by decide), if_pos (by decide)]
        simp only [gg1, h1, h2, Option.bind_some, if_true]
        exact go _ _ h3
      · obtain ⟨u', v', h1, h2, h3⟩ := f_lines h (xs (x + 1).toNatClampNeg)
        rw [if_neg (by decide), if_neg (by decide), if_neg (by decide), if_neg (by decide), if_pos (by decide)]
        simp only [gg1, h1, h2, Option.bind_some]
        exact go _ _ (h3.mono (by omega))
      · obtain ⟨r, h1, h2⟩ := f_sent h (xs (x + 1).toNatClampNeg)
        rw [if_neg (by decide), if_neg (by decide), if_neg (by decide), if_neg (by decide), if_neg (by decide), if_pos (by decide)]
        simp only [gg1, h1, h2, Option.bind_some, if_true]
        exact go _ _ (h.mono (by omega))
      · obtain ⟨r, h1, h2⟩ := f_total h
        rw [if_neg (by decide), if_neg (by decide), if_neg (by decide), if_neg (by decide), if_neg (by decide), if_neg (by decide), if_pos (by decide)]
        simp only [h1, h2, Option.bind_some, if_true]
        exact go _ _ (h.mono (by omega))
      · obtain ⟨r, h1, h2⟩ := f_cause h
        rw [if_neg (by decide), if_neg (by decide), if_neg (by decide), if_neg (by decide), if_neg (by decide), if_neg (by decide), if_neg (by decide), if_pos (by decide)]
        simp only [h1, h2, Option.bind_some, if_true]
        exact go _ _ (h.mono (by omega))
      · obtain ⟨u', v', h1, h2, h3⟩ := f_start hN h
        rw [if_neg (by decide), if_neg (by decide), if_neg (by decide), if_neg (by decide), if_neg (by decide), if_neg (by decide), if_neg (by decide), if_neg (by decide), if_pos (by decide)]
        simp only [h1, h2, Option.bind_some]
        exact go _ _ (h3.mono (by omega))
      · obtain ⟨r, u', v', h1, h2, h3⟩ := f_accept h (xs (x + 1).toNatClampNeg)
        rw [if_neg (by decide), if_neg (by decide), if_neg (by decide), if_neg (by decide), if_neg (by decide), if_neg (by decide), if_neg (by decide), if_neg (by decide), if_neg (by decide), if_pos (by decide)]
        simp only [gg1, h1, h2, Option.bind_some, if_true]
        exact go _ _ (h3.mono (by omega))
      · obtain ⟨r, u', v', h1, h2, h3⟩ := f_take h
        rw [if_neg (by decide), if_neg (by decide), if_neg (by decide), if_neg (by decide), if_neg (by decide), if_neg (by decide), if_neg (by decide), if_neg (by decide), if_neg (by decide), if_neg (by decide), if_pos (by decide)]
        simp only [h1, h2, Option.bind_some, if_true]
        exact go _ _ (h3.mono (by omega))
      · obtain ⟨r, u', v', h1, h2, h3⟩ := f_service hN h
        rw [if_neg (by decide), if_neg (by decide), if_neg (by decide), if_neg (by decide), if_neg (by decide), if_neg (by decide), if_neg (by decide), if_neg (by decide), if_neg (by decide), if_neg (by decide), if_neg (by decide), if_pos (by decide)]
        simp only [h1, h2, Option.bind_some, if_true]
        exact go _ _ (h3.mono (by omega))
      · obtain ⟨r, h1, h2⟩ := f_count h (xs (x + 1).toNatClampNeg)
        rw [if_neg (by decide), if_neg (by decide), if_neg (by decide), if_neg (by decide), if_neg (by decide), if_neg (by decide), if_neg (by decide), if_neg (by decide), if_neg (by decide), if_neg (by decide), if_neg (by decide), if_neg (by decide), if_pos (by decide)]
        simp only [gg1, h1, h2, Option.bind_some, if_true]
        exact go _ _ (h.mono (by omega))
      · obtain ⟨r, h1, h2⟩ := f_flow h
        rw [if_neg (by decide), if_neg (by decide), if_neg (by decide), if_neg (by decide), if_neg (by decide), if_neg (by decide), if_neg (by decide), if_neg (by decide), if_neg (by decide), if_neg (by decide), if_neg (by decide), if_neg (by decide), if_neg (by decide), if_pos (by decide)]
        simp only [h1, h2, Option.bind_some, if_true]
        exact go _ _ (h.mono (by omega))
      · obtain ⟨r, h1, h2⟩ := f_lost h
        rw [if_neg (by decide), if_neg (by decide), if_neg (by decide), if_neg (by decide), if_neg (by decide), if_neg (by decide), if_neg (by decide), if_neg (by decide), if_neg (by decide), if_neg (by decide), if_neg (by decide), if_neg (by decide), if_neg (by decide), if_neg (by decide), if_pos (by decide)]
        simp only [h1, h2, Option.bind_some, if_true]
        exact go _ _ (h.mono (by omega))
      · obtain ⟨r, h1, h2⟩ := f_left hN h
        rw [if_neg (by decide), if_neg (by decide), if_neg (by decide), if_neg (by decide), if_neg (by decide), if_neg (by decide), if_neg (by decide), if_neg (by decide), if_neg (by decide), if_neg (by decide), if_neg (by decide), if_neg (by decide), if_neg (by decide), if_neg (by decide), if_neg (by decide), if_pos (by decide)]
        simp only [h1, h2, Option.bind_some, if_true]
        exact go _ _ (h.mono (by omega))
theorem i_rel : RD 0 i_F i_T := by
  have hR : ∀ lim : Nat, lim < 32 → RG lim 0 (fun _ => 0) (nI lim, 0, 0, fun _ => 0) := fun lim hl => ⟨0, by decide, Nat.zero_le _, hl, rfl, rfl, rfl, fun i hi => absurd hi (Nat.not_lt_zero i)⟩
  have by0 : ∀ m : Nat, 0 < m → By m 0 := fun m hm => ⟨0, hm, rfl⟩
  exact Rl.mk (nf := 0) (nb := 0) (ni := 0) (no := 0) (T := 0) (g := 0) ⟨Or.inl rfl, by0 _ (by decide), by0 _ (by decide), by0 _ (by decide), by0 _ (by decide), by0 _ (by decide), ⟨1, by decide, rfl⟩, by0 _ (by decide), Or.inl rfl, Or.inl rfl, by0 _ (by decide), Or.inl rfl, Or.inl rfl⟩ (Or.inl ⟨rfl, rfl⟩) ⟨_, hR 24 (by decide), rfl, fun i hi => absurd hi (Nat.not_lt_zero i)⟩ ⟨_, hR 24 (by decide), rfl, fun i hi => absurd hi (Nat.not_lt_zero i)⟩ ⟨_, hR 1 (by decide), rfl, fun i hi => absurd hi (Nat.not_lt_zero i)⟩ ⟨_, hR 1 (by decide), rfl, fun i hi => absurd hi (Nat.not_lt_zero i)⟩ ⟨rfl, Nat.le_refl _, rfl, by decide, by rw [if_pos rfl]⟩ (fun z => absurd z (Nat.not_lt_zero 0))
theorem law_true (L : Nat) (hL : L ≤ 1536) (xs : Nat → Int32) : f_L_law_18 L xs 600 (i_F, i_T) 0 = some 1 := law_rec hL xs 600 0 i_F i_T (Nat.zero_le _) (by decide) i_rel
