/-! pure rows: numbers, guards, rings -/
theorem pu_and {n : Nat} (h : n < 2147483648) : nI n &&& 31 = nI (n % 32) := pk_andN (Nat.lt_trans h (by decide)) 5 (by decide)
theorem pu_clamp {n : Nat} (h : n < 2147483648) : (nI n).toNatClampNeg = n := nI_clamp h
theorem gi_n {α : Type} {j n : Nat} {k : Option α} (h : j < n) (hn : n < 2147483648) : gi_ (nI j) n k = k := if_neg (nI_in h hn)
theorem gb_0 {α : Type} {k : Option α} : gb_ 0 k = k := if_pos (Or.inl rfl)
theorem gb_1 {α : Type} {k : Option α} : gb_ 1 k = k := if_pos (Or.inr rfl)
def Bt (x : Int32) : Prop := x = 0 ∨ x = 1
theorem gb_t {α : Type} {x : Int32} {k : Option α} (h : Bt x) : gb_ x k = k := if_pos h
def By (m : Nat) (x : Int32) : Prop := ∃ k : Nat, k < m ∧ x = nI k
theorem ite_tp {α : Type} {c : Prop} [Decidable c] {a b : α} (h : c) : (if c then a else b) = a := if_pos h
theorem ite_fp {α : Type} {c : Prop} [Decidable c] {a b : α} (h : ¬ c) : (if c then a else b) = b := if_neg h
/-- a ring of lim places that holds n items, q -/
def RG (lim n : Nat) (q : Nat → Int32) (u : RgT) : Prop := ∃ k : Nat, k < 32 ∧ n ≤ lim ∧ lim < 32 ∧ u.1 = nI lim ∧ u.2.1 = nI k ∧ u.2.2.1 = nI n ∧ ∀ i, i < n → u.2.2.2 ((k + i) % 32) = q i
theorem RG.size {lim n : Nat} {q : Nat → Int32} {u : RgT} (h : RG lim n q u) : u.2.2.1 = nI n := by
  obtain ⟨k, hk, hn, hl, h1, h2, h3, hq⟩ := h
  exact h3
theorem RG.le {lim n : Nat} {q : Nat → Int32} {u : RgT} (h : RG lim n q u) : n ≤ lim ∧ lim < 32 := by
  obtain ⟨k, hk, hn, hl, h1, h2, h3, hq⟩ := h
  exact ⟨hn, hl⟩
theorem RG.congr {lim n : Nat} {q q' : Nat → Int32} {u : RgT} (h : RG lim n q u) (e : ∀ i, i < n → q i = q' i) : RG lim n q' u := by
  obtain ⟨k, hk, hn, hl, h1, h2, h3, hq⟩ := h
  exact ⟨k, hk, hn, hl, h1, h2, h3, fun i hi => (hq i hi).trans (e i hi)⟩
theorem rg_isFull {lim n : Nat} {q : Nat → Int32} {u : RgT} (h : RG lim n q u) : f_R_isFull u = some (if n < lim then 0 else 1) := by
  obtain ⟨a, b, c, f⟩ := u
  obtain ⟨k, hk, hn, hl, h1, h2, h3, hq⟩ := h
  dsimp only at h1 h2 h3 hq
  subst h1 h2 h3
  have e := nI_ltI (a := n) (b := lim) (by omega) (by omega)
  by_cases hc : n < lim
  · simp only [f_R_isFull, f_R_isFull_16, if_pos hc, if_pos (e.mpr hc), gb_0]
  · simp only [f_R_isFull, f_R_isFull_16, if_neg hc, if_neg (fun z => hc (e.mp z)), gb_1]
theorem rg_clear {lim n : Nat} {q : Nat → Int32} {u : RgT} (h : RG lim n q u) : ∃ u', f_R_clear u = some u' ∧ ∀ q', RG lim 0 q' u' := by
  obtain ⟨a, b, c, f⟩ := u
  obtain ⟨k, hk, hn, hl, h1, h2, h3, hq⟩ := h
  exact ⟨(a, b, 0, f), rfl, fun q' => ⟨k, hk, Nat.zero_le _, hl, h1, h2, rfl, fun i hi => absurd hi (Nat.not_lt_zero i)⟩⟩
theorem rg_append {lim n : Nat} {q : Nat → Int32} {u : RgT} (h : RG lim n q u) (hc : n < lim) (x : Int32) : ∃ u', f_R_append u x = some u' ∧ RG lim (n + 1) (upd q n x) u' := by
  obtain ⟨a, b, c, f⟩ := u
  obtain ⟨k, hk, hn, hl, h1, h2, h3, hq⟩ := h
  dsimp only at h1 h2 h3 hq
  subst h1 h2 h3
  have e1 : (nI k + nI n) &&& 31 = nI ((k + n) % 32) := by rw [nI_add, pu_and (by omega)]
  have hm : (k + n) % 32 < 32 := Nat.mod_lt _ (by decide)
  refine ⟨(nI lim, nI k, nI (n + 1), upd f ((k + n) % 32) x), ?_, k, hk, by omega, hl, rfl, rfl, rfl, ?_⟩
  · simp only [f_R_append, f_R_append_39, e1]
    rw [if_neg (nI_ge hc (by omega)), gi_n hm (by decide), pu_clamp (by omega), nI_1]
  · intro i hi
    dsimp only
    by_cases hin : i = n
    · subst hin; rw [pk_us, pk_us]
    · rw [pk_un (by omega), pk_un hin]; exact hq i (by omega)
theorem rg_full {lim n : Nat} {q : Nat → Int32} {u : RgT} (h : RG lim n q u) (hc : ¬ n < lim) (x : Int32) : f_R_append u x = some u := by
  obtain ⟨a, b, c, f⟩ := u
  obtain ⟨k, hk, hn, hl, h1, h2, h3, hq⟩ := h
  dsimp only at h1 h2 h3 hq
  subst h1 h2 h3
  simp only [f_R_append, f_R_append_39]
  rw [if_pos (nI_le (by omega) (by omega))]
theorem rg_oldest {lim n : Nat} {q : Nat → Int32} {u : RgT} (h : RG lim n q u) : f_R_oldest u = some (if n = 0 then 0 else q 0) := by
  obtain ⟨a, b, c, f⟩ := u
  obtain ⟨k, hk, hn, hl, h1, h2, h3, hq⟩ := h
  dsimp only at h1 h2 h3 hq
  subst h1 h2 h3
  by_cases hc : n = 0
  · subst hc
    simp only [f_R_oldest, f_R_oldest_23, if_pos]
    rw [if_pos (by decide)]
  · simp only [f_R_oldest, f_R_oldest_23, if_neg hc]
    rw [if_neg (nI_nle (by omega) (by omega)), pu_and (by omega), gi_n (Nat.mod_lt _ (by decide)) (by decide), pu_clamp (by omega)]
    have := hq 0 (by omega)
    rw [← this]; rfl
theorem rg_replace0 {lim : Nat} {q : Nat → Int32} {u : RgT} (h : RG lim 0 q u) (x : Int32) : f_R_replaceOldest u x = some u := by
  obtain ⟨a, b, c, f⟩ := u
  obtain ⟨k, hk, hn, hl, h1, h2, h3, hq⟩ := h
  dsimp only at h1 h2 h3 hq
  subst h1 h2 h3
  simp only [f_R_replaceOldest, f_R_replaceOldest_20]
  rw [if_pos (by decide)]
theorem rg_replace {lim n : Nat} {q : Nat → Int32} {u : RgT} (h : RG lim n q u) (hc : 0 < n) (x : Int32) : ∃ u', f_R_replaceOldest u x = some u' ∧ RG lim n (upd q 0 x) u' := by
  obtain ⟨a, b, c, f⟩ := u
  obtain ⟨k, hk, hn, hl, h1, h2, h3, hq⟩ := h
  dsimp only at h1 h2 h3 hq
  subst h1 h2 h3
  refine ⟨(nI lim, nI k, nI n, upd f (k % 32) x), ?_, k, hk, hn, hl, rfl, rfl, rfl, ?_⟩
  · simp only [f_R_replaceOldest, f_R_replaceOldest_20]
    rw [if_neg (nI_nle (by omega) (by omega)), pu_and (by omega), gi_n (Nat.mod_lt _ (by decide)) (by decide), pu_clamp (by omega)]
  · intro i hi
    dsimp only
    by_cases hin : i = 0
    · subst hin
      rw [Nat.add_zero, pk_us, pk_us]
    · rw [pk_un (by omega), pk_un hin]; exact hq i (by omega)
theorem rg_remove0 {lim : Nat} {q : Nat → Int32} {u : RgT} (h : RG lim 0 q u) : f_R_removeOldest u = some (0, u) := by
  obtain ⟨a, b, c, f⟩ := u
  obtain ⟨k, hk, hn, hl, h1, h2, h3, hq⟩ := h
  dsimp only at h1 h2 h3 hq
  subst h1 h2 h3
  simp only [f_R_removeOldest]
  rw [if_pos (by decide)]
theorem rg_remove {lim n : Nat} {q : Nat → Int32} {u : RgT} (h : RG lim n q u) (hc : 0 < n) : ∃ u', f_R_removeOldest u = some (q 0, u') ∧ RG lim (n - 1) (fun i => q (i + 1)) u' := by
  obtain ⟨a, b, c, f⟩ := u
  obtain ⟨k, hk, hn, hl, h1, h2, h3, hq⟩ := h
  dsimp only at h1 h2 h3 hq
  subst h1 h2 h3
  refine ⟨(nI lim, nI ((k + 1) % 32), nI (n - 1), f), ?_, (k + 1) % 32, Nat.mod_lt _ (by decide), by omega, hl, rfl, rfl, rfl, ?_⟩
  · simp only [f_R_removeOldest]
    rw [if_neg (nI_ne0 (by omega) (by omega)), pu_and (by omega), gi_n (Nat.mod_lt _ (by decide)) (by decide), pu_clamp (by omega), nI_1, pu_and (by omega)]
    have h0 := hq 0 (by omega)
    rw [← h0]
    have e : nI n - 1 = nI (n - 1) := pk_sub (a := n) (b := 1) (by omega)
    rw [e]; rfl
  · intro i hi
    dsimp only
    rw [← hq (i + 1) (by omega)]
    congr 1
    omega
theorem rg_above {lim n : Nat} {q : Nat → Int32} {u : RgT} (h : RG lim n q u) : ∀ (m i : Nat), i ≤ n → n - i < m → ∃ r, f_R_hasItemAbove_2 m u 255 (nI i) = some r ∧ Bt r ∧ (r = 1 ↔ ∃ j, i ≤ j ∧ j < n ∧ ¬ q j ≤ 255) := by
  obtain ⟨a, b, c, f⟩ := u
  obtain ⟨k, hk, hn, hl, h1, h2, h3, hq⟩ := h
  dsimp only at h1 h2 h3 hq
  subst h1 h2 h3
  intro m
  induction m with
  | zero => intro i hi hm; omega
  | succ m ih =>
    intro i hi hm
    by_cases hc : i = n
    · subst hc
      refine ⟨0, ?_, Or.inl rfl, ?_⟩
      · simp only [f_R_hasItemAbove_2]
        rw [if_pos (nI_le (Nat.le_refl _) (by omega))]
      · constructor
        · intro z; exact absurd z (by decide)
        · rintro ⟨j, h1, h2, -⟩; omega
    · have e1 : (nI k + nI i) &&& 31 = nI ((k + i) % 32) := by rw [nI_add, pu_and (by omega)]
      have hqi := hq i (by omega)
      by_cases hv : q i ≤ 255
      · obtain ⟨r, hr, hb, hiff⟩ := ih (i + 1) (by omega) (by omega)
        refine ⟨r, ?_, hb, ?_⟩
        · simp only [f_R_hasItemAbove_2]
          rw [if_neg (nI_ge (by omega) (by omega)), e1, gi_n (Nat.mod_lt _ (by decide)) (by decide), pu_clamp (by omega), hqi, if_pos hv, nI_1]
          exact hr
        · rw [hiff]
          constructor
          · rintro ⟨j, h1, h2, h3⟩; exact ⟨j, by omega, h2, h3⟩
          · rintro ⟨j, h1, h2, h3⟩
            refine ⟨j, ?_, h2, h3⟩
            rcases Nat.lt_or_ge i j with z | z
            · exact z
            · have : j = i := by omega
              subst this
              exact absurd hv h3
      · refine ⟨1, ?_, Or.inr rfl, ?_⟩
        · simp only [f_R_hasItemAbove_2]
          rw [if_neg (nI_ge (by omega) (by omega)), e1, gi_n (Nat.mod_lt _ (by decide)) (by decide), pu_clamp (by omega), hqi, if_neg hv]
        · exact ⟨fun _ => ⟨i, Nat.le_refl _, by omega, hv⟩, fun _ => rfl⟩
theorem rg_has {lim n : Nat} {q : Nat → Int32} {u : RgT} (h : RG lim n q u) : ∃ r, f_R_hasItemAbove u 255 = some r ∧ Bt r ∧ (r = 1 ↔ ∃ j, j < n ∧ ¬ q j ≤ 255) := by
  have hle := h.le
  obtain ⟨r, h1, h2, h3⟩ := rg_above h 128 0 (Nat.zero_le _) (by omega)
  refine ⟨r, ?_, h2, h3.trans ⟨fun ⟨j, _, a, b⟩ => ⟨j, a, b⟩, fun ⟨j, a, b⟩ => ⟨j, Nat.zero_le _, a, b⟩⟩⟩
  obtain ⟨a, b, c, f⟩ := u
  simp only [f_R_hasItemAbove]
  exact h1
