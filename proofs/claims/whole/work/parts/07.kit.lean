/-! helpers: partial answers (Option), the start of a contract, calls with the frame rule -/
theorem ite_t {α : Type} {c : Prop} [Decidable c] {a b r : α} (h : (if c then a else b) = r) (hc : c) : a = r := by rw [if_pos hc] at h; exact h
theorem ite_f {α : Type} {c : Prop} [Decidable c] {a b r : α} (h : (if c then a else b) = r) (hc : ¬ c) : b = r := by rw [if_neg hc] at h; exact h
def gi_ {α : Type} (i : Int32) (n : Nat) (k : Option α) : Option α := if i < 0 ∨ n ≤ i.toNatClampNeg then none else k
theorem gi_e {α : Type} {i : Int32} {n : Nat} {k : Option α} {r : α} (h : gi_ i n k = some r) : vp_in i n ∧ k = some r := by
  unfold gi_ at h
  by_cases hc : i < 0 ∨ n ≤ i.toNatClampNeg
  · rw [if_pos hc] at h; cases h
  · rw [if_neg hc] at h; exact ⟨hc, h⟩
def gb_ {α : Type} (x : Int32) (k : Option α) : Option α := if x = 0 ∨ x = 1 then k else none
theorem gb_e {α : Type} {x : Int32} {k : Option α} {r : α} (h : gb_ x k = some r) : (narrow .boolean (.int x) = .int x ∧ fits .boolean (.int x) = true) ∧ k = some r := by
  unfold gb_ at h
  by_cases hc : x = 0 ∨ x = 1
  · rw [if_pos hc] at h
    rcases hc with rfl | rfl
    · exact ⟨⟨by decide +kernel, by decide +kernel⟩, h⟩
    · exact ⟨⟨by decide +kernel, by decide +kernel⟩, h⟩
  · rw [if_neg hc] at h; cases h
theorem bind_e {α β : Type} {o : Option α} {k : α → Option β} {r : β} (h : o.bind k = some r) : ∃ q, o = some q ∧ k q = some r := by
  cases o with
  | none => cases h
  | some q => exact ⟨q, rfl, h⟩
/-- the table LEVELS -/
def lvI (j : Nat) : Int32 := if j = 0 then 1 else if j = 1 then 4 else if j = 2 then 8 else 14
def st_ (t : Nat) (A : Nat → Prop) (U : State) (H : Heap) : Prop := va_Z "FlowedLine$Port" "LEVELS" "[I" (.ref t) A U H ∧ va_T .int t 4 (fun j => .int (lvI j)) A U H
theorem st_moved {t : Nat} {A : Nat → Prop} {u U : State} {H : Heap} (hvm : u.vm.Alike U.vm) (h : st_ t A u H) : st_ t A U H := ⟨va_Z.moved hvm h.1, va_T.moved hvm h.2⟩
theorem st_kept {t : Nat} {A : Nat → Prop} {U : State} {H H1 : Heap} (h : st_ t A U H) (hq : ∀ a : Nat, a < H.size → ¬ A a → H1[a]? = H[a]?) : st_ t A U H1 := ⟨va_Z.kept h.1 hq, va_T.kept h.2 hq⟩
theorem st_narrow {t : Nat} {A B : Nat → Prop} {U : State} {H : Heap} (h : st_ t A U H) (hAB : ∀ q, B q → A q) : st_ t B U H := ⟨va_Z.narrow h.1 hAB, va_T.narrow h.2 hAB⟩
/-- a contract's start: the heap holds these cells, apart -/
def pc_ (D : va_G) (tys : List (ClassId × FieldType)) (t sz : Nat) (ws : va_W) : State → Prop := fun U => U.heap.size = sz ∧ va_P D cls ws U.heap ∧ va_K D cls tys U ∧ va_D (fun _ => True) ws ∧ st_ t (va_A ws sz) U U.heap
theorem pc_blind {D : va_G} {tys : List (ClassId × FieldType)} {t sz : Nat} {ws : va_W} {av : List Value} : FrameBlind (va_Pc av (pc_ D tys t sz ws)) := by
  intro a U g mk q
  obtain ⟨q0, q1, qP, qK, qD, qZ⟩ := q
  exact ⟨q0, q1, qP, va_K.moved (u := U) (U := U.calling g mk a) (Vm.Alike.refl U.vm) qK, qD, st_moved (u := U) (U := U.calling g mk a) (Vm.Alike.refl U.vm) qZ⟩
theorem pc_pre {D : va_G} {tys : List (ClassId × FieldType)} {t : Nat} {wc : va_W} {av : List Value} {s : State} {H : Heap} {locs : List Loc} {A : Nat → Prop} (hK : va_K D cls tys s) (hZ : st_ t A s s.heap) (hS : va_S A s.heap H locs) (hP : va_P D cls wc H) (hD : va_D A wc) (hF : ∀ q, va_A wc H.size q → A q) : PreS s H (va_Pc av (pc_ D tys t H.size wc)) av :=
  ⟨pc_blind, fun U hU hW => ⟨rfl, by rw [hU], by rw [hU]; exact hP, va_K.moved hW.alike hK, hD.weaken (fun _ _ _ _ => trivial), by rw [hU]; exact st_moved hW.alike (st_narrow (st_kept hZ hS.2.1) hF)⟩⟩
/-! ends: an int and a new state; an int alone; a new state alone -/
def qi_ {S : Type} (D : va_G) (cw : S → va_W) (q : Int32 × S) (A : Nat → Prop) : Array Value → State → Outcome → State → Prop := va_Qi (fun r v => (r, v) = q) (fun v T => va_P D cls (cw v) T.heap ∧ va_D A (cw v)) A
def qr_ (D : va_G) (ws : va_W) (q : Int32) (A : Nat → Prop) : Array Value → State → Outcome → State → Prop := va_Qi (fun r (_ : Unit) => r = q) (fun _ T => va_P D cls ws T.heap ∧ va_D A ws) A
def qv_ {S : Type} (D : va_G) (cw : S → va_W) (q : S) (A : Nat → Prop) : Array Value → State → Outcome → State → Prop := va_Qv (fun v => v = q) (fun v T => va_P D cls (cw v) T.heap ∧ va_D A (cw v)) A
theorem ri_ {S : Type} {D : va_G} {cw : S → va_W} {q : Int32 × S} {A : Nat → Prop} {a : Array Value} {s T : State} {H : Heap} {locs : List Loc} {v : Int32} {u : S} (e : (v, u) = q) (hP : va_P D cls (cw u) H) (hD : va_D A (cw u)) (hS : va_S A s.heap H locs) (ht : T.heap = H) : qi_ D cw q A a s (.returned (some (.int v))) T :=
  ⟨⟨v, u, rfl, e, by rw [ht]; exact hP, hD⟩, hS.F ht⟩
theorem rr_ {D : va_G} {ws : va_W} {q : Int32} {A : Nat → Prop} {a : Array Value} {s T : State} {H : Heap} {locs : List Loc} {v : Int32} (e : v = q) (hP : va_P D cls ws H) (hD : va_D A ws) (hS : va_S A s.heap H locs) (ht : T.heap = H) : qr_ D ws q A a s (.returned (some (.int v))) T :=
  ⟨⟨v, (), rfl, e, by rw [ht]; exact hP, hD⟩, hS.F ht⟩
theorem rv_ {S : Type} {D : va_G} {cw : S → va_W} {q : S} {A : Nat → Prop} {a : Array Value} {s T : State} {H : Heap} {locs : List Loc} {u : S} (e : u = q) (hP : va_P D cls (cw u) H) (hD : va_D A (cw u)) (hS : va_S A s.heap H locs) (ht : T.heap = H) : qv_ D cw q A a s (.returned none) T :=
  ⟨⟨u, rfl, e, by rw [ht]; exact hP, hD⟩, hS.F ht⟩
theorem start_ (l : Launch) {y : MethodName} {cc : ByteArray} {maxL : Nat} {ret : Option FieldType} {rm : Room} {D : va_G} {tys : List (ClassId × FieldType)} {t sz : Nat} {ws : va_W} {av : List Value} {mc ms : Nat} (Q : (Nat → Prop) → Array Value → State → Outcome → State → Prop) (hy : plainName y.cls = true) (hav : (lg_sl av).length ≤ maxL)
    (body : ∀ (p : Program) (e : Env) (s : State) (m : MethodId) (below : List Frame) (meth : Method) (c : Code), p.tables.exec = Jvm.exec → c.code = cc → c.maxLocals = maxL → meth.sig.returnType = ret → s.vm.findClass y.cls = some m.cls → (∀ w ∈ W0, w.before av.toArray s = true) → meth.locks = false → meth.name = y.name → ∀ A : Nat → Prop, (∀ q : Nat, s.heap.size ≤ q → A q) → va_S A s.heap s.heap [] → va_P D cls ws s.heap → va_K D cls tys s → va_D A ws → st_ t A s s.heap → ∀ ls : Array Slot, lv_has ls maxL (lv_args 0 av) → W p l e rm s m av.toArray below meth c s.heap [] 0 0 (MQ below (Q A) av.toArray s mc ms A) (F0 m 0 ls [])) :
    Met l y (Cond.code y cc maxL ret :: W0) rm (va_Pc av (pc_ D tys t sz ws)) (Q (va_A ws sz)) mc ms (va_A ws sz) := by
  refine Met.ofW (cc := cc) (maxL := maxL) (ret := ret) hy rfl ?_
  intro p e s m args below meth c s₁ B hml hv
  obtain ⟨rfl, hsz, hP, hK, hD0, hZ⟩ := hv
  subst hsz
  have hts := atoms_spec (ws := Cond.code y cc maxL ret :: W0) B.pre
  have hl := lv_entry av (n := maxL) hav
  rw [lg_entry_eq]
  exact body p e s m below meth c B.exec B.bytes hml B.returns (findClass_of_methodNamed B.named) (fun w h => hts w (List.mem_cons_of_mem _ h)) B.notSynchronized (name_of_methodNamed B.named B.method).1 _ (fun q h => Or.inr h) va_S.rf hP hK hD0.self hZ _ hl
theorem good0 {w : Cond} (h : w ∈ W0) : w ∈ W0 ∧ ((w.onTables && w.keeps) = true ∨ ∃ ty, w = .arrayClass ty) := ⟨h, good_of_word (List.mem_filter.mp h).2⟩
theorem gc_ {k : Cond} (h5 : k ∈ W0) : GoodIn W0 (k :: W0) := fun w h => (List.mem_cons.mp h).elim (fun e => by rw [e]; exact good0 h5) good0
theorem gV_ {own C : String} {idx : Nat} {y : MethodName} {k : Cond} (h1 : Cond.methodLink own idx y ∈ W0) (h2 : Cond.instanceMethod y ∈ W0) (h3 : Cond.selects C y y ∈ W0) (h4 : Cond.initialized C ∈ W0) (h5 : k ∈ W0) : GoodIn W0 (wsV own idx C y (k :: W0)) := by
  intro w h
  rcases List.mem_append.mp h with h | h
  · simp only [List.mem_cons, List.not_mem_nil, or_false] at h
    rcases h with rfl | rfl | rfl | rfl
    · exact good0 h1
    · exact good0 h2
    · exact good0 h3
    · exact good0 h4
  · exact gc_ h5 w h
theorem gS_ {own : String} {idx : Nat} {y : MethodName} {k : Cond} (h1 : Cond.methodLink own idx y ∈ W0) (h2 : Cond.static y ∈ W0) (h4 : Cond.initialized y.cls ∈ W0) (h5 : k ∈ W0) : GoodIn W0 (va_wsS own idx y (k :: W0)) := by
  intro w h
  rcases List.mem_append.mp h with h | h
  · simp only [List.mem_cons, List.not_mem_nil, or_false] at h
    rcases h with rfl | rfl | rfl
    · exact good0 h1
    · exact good0 h2
    · exact good0 h4
  · exact gc_ h5 w h
theorem fm_of {α : Type} {f : Nat → Option α} : ∀ {l : List Nat} {r : List α}, l.map f = r.map some → l.filterMap f = r
  | [], [], _ => rfl
  | [], _ :: _, h => by cases h
  | _ :: _, [], h => by cases h
  | a :: l, b :: r, h => by
    simp only [List.map_cons, List.cons.injEq] at h
    rw [List.filterMap_cons, h.1]
    exact congrArg (b :: ·) (fm_of h.2)
section WK
variable {p : Program} {l : Launch} {e : Env} {R : Room} {s : State} {m : MethodId} {args : Array Value} {below : List Frame} {meth : Method} {c : Code} {H : Heap} {locs : List Loc} {cells slots : Nat} {Q : State → Prop}
/-- the walk as one word -/
theorem wabs_ {g : JFrame} (k : ∀ WW : Heap → List Loc → JFrame → Prop, (∀ H locs g, W p l e R s m args below meth c H locs cells slots Q g → WW H locs g) → (∀ H locs g, WW H locs g → W p l e R s m args below meth c H locs cells slots Q g) → WW H locs g) : W p l e R s m args below meth c H locs cells slots Q g := k _ (fun _ _ _ h => h) (fun _ _ _ h => h)
variable {cc : ByteArray} {pc : Nat} {ls : Array Slot} {rest : List Value}
theorem lv_swk_ (hexec : p.tables.exec = Jvm.exec) (hb : c.code = cc) {dflt lo hi : Int} {offs : Array Int} {len : Nat} {x k : Int32} {a off : Int} {tgt : Nat} (hdg : decode cc pc = .ok (.tableswitch dflt lo hi offs, len)) (ek : x = k) (ha : k.toInt = a) (h1 : ¬ a < lo) (h2 : ¬ hi < a) (ho : offs[(a - lo).toNat]? = some off) (ht : (pc : Int) + off = (tgt : Int))
    (kk : W p l e R s m args below meth c H locs cells slots Q (F0 m tgt ls rest)) : W p l e R s m args below meth c H locs cells slots Q (F0 m pc ls (.int x :: rest)) := by
  subst ek
  subst ha
  exact lv_tableIn hexec hb hdg h1 h2 ho ht kk
variable {nL maxL index n mc ms b t : Nat} {own C : String} {T : u_T} {N ci : Nat} {y : MethodName} {ret : Option FieldType} {rm : Room} {bytes : ByteArray} {D : va_G} {tys : List (ClassId × FieldType)} {A : Nat → Prop} {ws wc wr : va_W} {fs : List Value} {As st0 : List Value}
/-- a call of a method that answers an int and changes its world -/
theorem cVi_ {S : Type} {cw : S → va_W} {q : Int32 × S} (X : CallFix p m c cc nL s args W0 own) (hM : Met l y (Cond.code y bytes maxL ret :: W0) rm (va_Pc (.ref b :: As) (pc_ D tys t H.size wc)) (qi_ D cw q (va_A wc H.size)) mc ms (va_A wc H.size)) (cw0 : CallW R s args own C index y bytes maxL ret (Cond.code y bytes maxL ret :: W0) rm mc ms n) (hK : va_K D cls tys s) (hZ : st_ t A s s.heap) (hA : ∀ q : Nat, s.heap.size ≤ q → A q) (hP : va_P D cls ws H) (hD : va_D A ws) (hS : va_S A s.heap H locs) (isC isR : List Nat) (hC : isC.map (fun i => ws[i]?) = wc.map some) (hR : isR.map (fun i => ws[i]?) = wr.map some) (hn : va_nd isR = true) (hdis : ∀ i ∈ isR, i ∉ isC) (hnC : va_nd isC = true) (he : wc[0]? = some (b, .inr (ci, fs))) (hcl : cls[ci]? = some (C, T, N))
    (hst : st0 = As.reverse ++ .ref b :: rest) (hlen : As.length = n) (hsize : ls.size = nL) (hW : (rest.map fun v => v.category).sum ≤ 8) (hdg : decode cc pc = .ok (.invokevirtual index, 3)) (hf : cells + mc ≤ R.cells ∧ slots + ms ≤ R.slots)
    (kk : ∀ (r : Int32) (u : S) (H1 : Heap) (locs1 : List Loc), (r, u) = q → va_P D cls (wr ++ cw u) H1 → va_D A (wr ++ cw u) → va_S A s.heap H1 locs1 → W p l e R s m args below meth c H1 locs1 (cells + mc) (slots + ms) Q (F0 m (pc + 3) ls (.int r :: rest))) : W p l e R s m args below meth c H locs cells slots Q (F0 m pc ls st0) := by
  have hPc : va_P D cls wc H := hP.sub isC (fm_of hC)
  have hDc := hD.sub isC hnC hC
  have hFc := va_free (wc := wc) hD hS hA isC hC
  have hpre := pc_pre (av := .ref b :: As) hK hZ hS hPc hDc hFc
  refine va_calli (va_runV (As := As) (rest := rest) X hM cw0 ⟨hpre.1, va_recv hK hPc hcl he, hpre.2⟩ rfl hlen hsize hst (lv_room hW) hdg hf) hS (fun q _ h => hFc q h) hFc (fun r u t2 H1 locs1 ht hvm hw hB hz1 hk1 hS1 => ?_)
  obtain ⟨hP1, hD1⟩ := hB
  rw [ht] at hP1
  obtain ⟨hP2, hD2⟩ := va_join hP hD isC isR hC hR hn hdis hk1 hFc hP1 hD1
  exact kk r u H1 locs1 hw hP2 hD2 hS1
theorem cVr_ {q : Int32} (X : CallFix p m c cc nL s args W0 own) (hM : Met l y (Cond.code y bytes maxL ret :: W0) rm (va_Pc (.ref b :: As) (pc_ D tys t H.size wc)) (qr_ D wc q (va_A wc H.size)) mc ms (va_A wc H.size)) (cw0 : CallW R s args own C index y bytes maxL ret (Cond.code y bytes maxL ret :: W0) rm mc ms n) (hK : va_K D cls tys s) (hZ : st_ t A s s.heap) (hA : ∀ q : Nat, s.heap.size ≤ q → A q) (hP : va_P D cls ws H) (hD : va_D A ws) (hS : va_S A s.heap H locs) (isC isR : List Nat) (hC : isC.map (fun i => ws[i]?) = wc.map some) (hR : isR.map (fun i => ws[i]?) = wr.map some) (hn : va_nd isR = true) (hdis : ∀ i ∈ isR, i ∉ isC) (hnC : va_nd isC = true) (he : wc[0]? = some (b, .inr (ci, fs))) (hcl : cls[ci]? = some (C, T, N))
    (hst : st0 = As.reverse ++ .ref b :: rest) (hlen : As.length = n) (hsize : ls.size = nL) (hW : (rest.map fun v => v.category).sum ≤ 8) (hdg : decode cc pc = .ok (.invokevirtual index, 3)) (hf : cells + mc ≤ R.cells ∧ slots + ms ≤ R.slots)
    (kk : ∀ (r : Int32) (H1 : Heap) (locs1 : List Loc), r = q → va_P D cls (wr ++ wc) H1 → va_D A (wr ++ wc) → va_S A s.heap H1 locs1 → W p l e R s m args below meth c H1 locs1 (cells + mc) (slots + ms) Q (F0 m (pc + 3) ls (.int r :: rest))) : W p l e R s m args below meth c H locs cells slots Q (F0 m pc ls st0) := by
  have hPc : va_P D cls wc H := hP.sub isC (fm_of hC)
  have hDc := hD.sub isC hnC hC
  have hFc := va_free (wc := wc) hD hS hA isC hC
  have hpre := pc_pre (av := .ref b :: As) hK hZ hS hPc hDc hFc
  refine va_calli (va_runV (As := As) (rest := rest) X hM cw0 ⟨hpre.1, va_recv hK hPc hcl he, hpre.2⟩ rfl hlen hsize hst (lv_room hW) hdg hf) hS (fun q _ h => hFc q h) hFc (fun r u t2 H1 locs1 ht hvm hw hB hz1 hk1 hS1 => ?_)
  obtain ⟨hP1, hD1⟩ := hB
  rw [ht] at hP1
  obtain ⟨hP2, hD2⟩ := va_join hP hD isC isR hC hR hn hdis hk1 hFc hP1 hD1
  exact kk r H1 locs1 hw hP2 hD2 hS1
theorem cVv_ {S : Type} {cw : S → va_W} {q : S} (X : CallFix p m c cc nL s args W0 own) (hM : Met l y (Cond.code y bytes maxL ret :: W0) rm (va_Pc (.ref b :: As) (pc_ D tys t H.size wc)) (qv_ D cw q (va_A wc H.size)) mc ms (va_A wc H.size)) (cw0 : CallW R s args own C index y bytes maxL ret (Cond.code y bytes maxL ret :: W0) rm mc ms n) (hK : va_K D cls tys s) (hZ : st_ t A s s.heap) (hA : ∀ q : Nat, s.heap.size ≤ q → A q) (hP : va_P D cls ws H) (hD : va_D A ws) (hS : va_S A s.heap H locs) (isC isR : List Nat) (hC : isC.map (fun i => ws[i]?) = wc.map some) (hR : isR.map (fun i => ws[i]?) = wr.map some) (hn : va_nd isR = true) (hdis : ∀ i ∈ isR, i ∉ isC) (hnC : va_nd isC = true) (he : wc[0]? = some (b, .inr (ci, fs))) (hcl : cls[ci]? = some (C, T, N))
    (hst : st0 = As.reverse ++ .ref b :: rest) (hlen : As.length = n) (hsize : ls.size = nL) (hW : (rest.map fun v => v.category).sum ≤ 8) (hdg : decode cc pc = .ok (.invokevirtual index, 3)) (hf : cells + mc ≤ R.cells ∧ slots + ms ≤ R.slots)
    (kk : ∀ (u : S) (H1 : Heap) (locs1 : List Loc), u = q → va_P D cls (wr ++ cw u) H1 → va_D A (wr ++ cw u) → va_S A s.heap H1 locs1 → W p l e R s m args below meth c H1 locs1 (cells + mc) (slots + ms) Q (F0 m (pc + 3) ls rest)) : W p l e R s m args below meth c H locs cells slots Q (F0 m pc ls st0) := by
  have hPc : va_P D cls wc H := hP.sub isC (fm_of hC)
  have hDc := hD.sub isC hnC hC
  have hFc := va_free (wc := wc) hD hS hA isC hC
  have hpre := pc_pre (av := .ref b :: As) hK hZ hS hPc hDc hFc
  refine va_callv (va_runV (As := As) (rest := rest) X hM cw0 ⟨hpre.1, va_recv hK hPc hcl he, hpre.2⟩ rfl hlen hsize hst (lv_room hW) hdg hf) hS (fun q _ h => hFc q h) hFc (fun u t2 H1 locs1 ht hvm hw hB hz1 hk1 hS1 => ?_)
  obtain ⟨hP1, hD1⟩ := hB
  rw [ht] at hP1
  obtain ⟨hP2, hD2⟩ := va_join hP hD isC isR hC hR hn hdis hk1 hFc hP1 hD1
  exact kk u H1 locs1 hw hP2 hD2 hS1
/-- a static method without a world -/
theorem cSr_ {q : Int32} (X : CallFix p m c cc nL s args W0 own) (hM : Met l y (Cond.code y bytes maxL ret :: W0) rm (va_Pc As (pc_ D tys t H.size [])) (qr_ D [] q (va_A [] H.size)) mc ms (va_A [] H.size)) (cw0 : CallB R s args own index y bytes maxL ret (Cond.code y bytes maxL ret :: W0) rm mc ms n ∧ (Cond.static y).before args s = true) (hK : va_K D cls tys s) (hZ : st_ t A s s.heap) (hA : ∀ q : Nat, s.heap.size ≤ q → A q) (hP : va_P D cls ws H) (hD : va_D A ws) (hS : va_S A s.heap H locs) (isR : List Nat) (hR : isR.map (fun i => ws[i]?) = ws.map some) (hn : va_nd isR = true)
    (hst : st0 = As.reverse ++ rest) (hlen : As.length = n) (hsize : ls.size = nL) (hW : (rest.map fun v => v.category).sum ≤ 8) (hdg : decode cc pc = .ok (.invokestatic index, 3)) (hf : cells + mc ≤ R.cells ∧ slots + ms ≤ R.slots)
    (kk : ∀ (r : Int32) (H1 : Heap) (locs1 : List Loc), r = q → va_P D cls ws H1 → va_D A ws → va_S A s.heap H1 locs1 → W p l e R s m args below meth c H1 locs1 (cells + mc) (slots + ms) Q (F0 m (pc + 3) ls (.int r :: rest))) : W p l e R s m args below meth c H locs cells slots Q (F0 m pc ls st0) := by
  have hPc : va_P D cls [] H := hP.sub [] rfl
  have hDc : va_D A [] := hD.sub [] rfl rfl
  have hFc := va_free (wc := []) hD hS hA [] rfl
  have hpre := pc_pre (av := As) hK hZ hS hPc hDc hFc
  refine va_calli (va_runS (As := As) (rest := rest) X hM cw0 hpre rfl hlen hsize hst (lv_room hW) hdg hf) hS (fun q _ h => hFc q h) hFc (fun r u t2 H1 locs1 ht hvm hw hB hz1 hk1 hS1 => ?_)
  obtain ⟨hP1, hD1⟩ := hB
  rw [ht] at hP1
  obtain ⟨hP2, hD2⟩ := va_join (wr := ws) (w1 := []) hP hD [] isR rfl hR hn (fun i _ h => by cases h) hk1 hFc hP1 hD1
  rw [List.append_nil] at hP2 hD2
  exact kk r H1 locs1 hw hP2 hD2 hS1
end WK
