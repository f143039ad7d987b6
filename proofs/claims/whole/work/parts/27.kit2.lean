/-! constructors: new cells come; an extra word X on the tables where a nest mate is called -/
def qn_ {S : Type} (D : va_G) (cw : S → va_W) (A : Nat → Prop) : Array Value → State → Outcome → State → Prop := va_Qv (fun (_ : S) => True) (fun v T => va_P D cls (cw v) T.heap ∧ va_D A (cw v)) A
theorem rn_ {S : Type} {D : va_G} {cw : S → va_W} {A : Nat → Prop} {a : Array Value} {s T : State} {H : Heap} {locs : List Loc} (u : S) (hP : va_P D cls (cw u) H) (hD : va_D A (cw u)) (hS : va_S A s.heap H locs) (ht : T.heap = H) : qn_ D cw A a s (.returned none) T :=
  ⟨⟨u, rfl, trivial, by rw [ht]; exact hP, hD⟩, hS.F ht⟩
def pcx_ (X : State → Prop) (D : va_G) (tys : List (ClassId × FieldType)) (t sz : Nat) (ws : va_W) : State → Prop := fun U => pc_ D tys t sz ws U ∧ X U
def xok_ (X : State → Prop) : Prop := (∀ (a : Array Value) (U : State) (g : JFrame) (mk : MethodId), X U → X (U.calling g mk a)) ∧ ∀ s U : State, s.WarmedH U.vm → X s → X U
theorem pcx_pre {X : State → Prop} {D : va_G} {tys : List (ClassId × FieldType)} {t : Nat} {wc : va_W} {av : List Value} {s : State} {H : Heap} {locs : List Loc} {A : Nat → Prop} (hX : xok_ X) (hXs : X s) (hK : va_K D cls tys s) (hZ : st_ t A s s.heap) (hS : va_S A s.heap H locs) (hP : va_P D cls wc H) (hD : va_D A wc) (hF : ∀ q, va_A wc H.size q → A q) : PreS s H (va_Pc av (pcx_ X D tys t H.size wc)) av := by
  have h := pc_pre (av := av) hK hZ hS hP hD hF
  exact ⟨fun a U g mk q => ⟨q.1, (pc_blind (av := av) a U g mk ⟨q.1, q.2.1⟩).2, hX.1 a U g mk q.2.2⟩, fun U hU hW => ⟨rfl, (h.2 U hU hW).2, hX.2 s U hW hXs⟩⟩
theorem startX_ (l : Launch) {X : State → Prop} {y : MethodName} {cc : ByteArray} {maxL : Nat} {ret : Option FieldType} {rm : Room} {D : va_G} {tys : List (ClassId × FieldType)} {t sz : Nat} {ws : va_W} {av : List Value} {mc ms : Nat} (Q : (Nat → Prop) → Array Value → State → Outcome → State → Prop) (hy : plainName y.cls = true) (hav : (lg_sl av).length ≤ maxL)
    (body : ∀ (p : Program) (e : Env) (s : State) (m : MethodId) (below : List Frame) (meth : Method) (c : Code), p.tables.exec = Jvm.exec → c.code = cc → c.maxLocals = maxL → meth.sig.returnType = ret → s.vm.findClass y.cls = some m.cls → (∀ w ∈ W0, w.before av.toArray s = true) → meth.locks = false → meth.name = y.name → ∀ A : Nat → Prop, (∀ q : Nat, s.heap.size ≤ q → A q) → va_S A s.heap s.heap [] → va_P D cls ws s.heap → va_K D cls tys s → va_D A ws → st_ t A s s.heap → X s → ∀ ls : Array Slot, lv_has ls maxL (lv_args 0 av) → W p l e rm s m av.toArray below meth c s.heap [] 0 0 (MQ below (Q A) av.toArray s mc ms A) (F0 m 0 ls [])) :
    Met l y (Cond.code y cc maxL ret :: W0) rm (va_Pc av (pcx_ X D tys t sz ws)) (Q (va_A ws sz)) mc ms (va_A ws sz) := by
  refine Met.ofW (cc := cc) (maxL := maxL) (ret := ret) hy rfl ?_
  intro p e s m args below meth c s₁ B hml hv
  obtain ⟨rfl, ⟨hsz, hP, hK, hD0, hZ⟩, hX⟩ := hv
  subst hsz
  have hts := atoms_spec (ws := Cond.code y cc maxL ret :: W0) B.pre
  have hl := lv_entry av (n := maxL) hav
  rw [lg_entry_eq]
  exact body p e s m below meth c B.exec B.bytes hml B.returns (findClass_of_methodNamed B.named) (fun w h => hts w (List.mem_cons_of_mem _ h)) B.notSynchronized (name_of_methodNamed B.named B.method).1 _ (fun q h => Or.inr h) va_S.rf hP hK hD0.self hZ hX _ hl
theorem same_cA {D : va_G} {cl : List vw_C} {cA cB : ClassId} {s : State} (h : va_K D cl ([(cA, .int)] ++ [(cB, .int)]) s) : cA = cB := by
  have h1 : s.vm.findClass ("[" ++ FieldType.int.toString) = some cA := (h.2 0 _ rfl).2
  have h2 : s.vm.findClass ("[" ++ FieldType.int.toString) = some cB := (h.2 1 _ rfl).2
  exact Option.some.inj (h1.symm.trans h2)
section WK2
variable {p : Program} {l : Launch} {e : Env} {R : Room} {s : State} {m : MethodId} {args : Array Value} {below : List Frame} {meth : Method} {c : Code} {H : Heap} {locs : List Loc} {cells slots : Nat} {Q : State → Prop}
variable {cc : ByteArray} {pc : Nat} {ls : Array Slot} {rest : List Value} {nL maxL index n mc ms b t : Nat} {own host : String} {y : MethodName} {rm : Room} {bytes : ByteArray} {D : va_G} {tys : List (ClassId × FieldType)} {A : Nat → Prop} {ws wc wr : va_W} {As st0 : List Value} {X : State → Prop}
theorem cI_ {S : Type} {cw : S → va_W} (F : CallFix p m c cc nL s args W0 own) (hM : Met l y (Cond.code y bytes maxL none :: W0) rm (va_Pc (.ref b :: As) (pcx_ X D tys t H.size wc)) (qn_ D cw (va_A wc H.size)) mc ms (va_A wc H.size)) (cw0 : CallB R s args own index y bytes maxL none (Cond.code y bytes maxL none :: W0) rm mc ms n ∧ y.name = "<init>" ∧ (Cond.instanceMethod y).before args s = true) (hXo : xok_ X) (hXs : X s) (hK : va_K D cls tys s) (hZ : st_ t A s s.heap) (hA : ∀ q : Nat, s.heap.size ≤ q → A q) (hP : va_P D cls ws H) (hD : va_D A ws) (hS : va_S A s.heap H locs) (isC isR : List Nat) (hC : isC.map (fun i => ws[i]?) = wc.map some) (hR : isR.map (fun i => ws[i]?) = wr.map some) (hn : va_nd isR = true) (hdis : ∀ i ∈ isR, i ∉ isC) (hnC : va_nd isC = true)
    (hst : st0 = As.reverse ++ .ref b :: rest) (hlen : As.length = n) (hsize : ls.size = nL) (hW : (rest.map fun v => v.category).sum ≤ 8) (hdg : decode cc pc = .ok (.invokespecial index, 3)) (hf : cells + mc ≤ R.cells ∧ slots + ms ≤ R.slots)
    (kk : ∀ (u : S) (H1 : Heap) (locs1 : List Loc), va_P D cls (wr ++ cw u) H1 → va_D A (wr ++ cw u) → va_S A s.heap H1 locs1 → W p l e R s m args below meth c H1 locs1 (cells + mc) (slots + ms) Q (F0 m (pc + 3) ls rest)) : W p l e R s m args below meth c H locs cells slots Q (F0 m pc ls st0) := by
  have hPc : va_P D cls wc H := hP.sub isC (fm_of hC)
  have hDc := hD.sub isC hnC hC
  have hFc := va_free (wc := wc) hD hS hA isC hC
  have hpre := pcx_pre (av := .ref b :: As) hXo hXs hK hZ hS hPc hDc hFc
  refine va_callv (va_runI (As := As) (rest := rest) F hM cw0 hpre rfl hlen hsize hst (lv_room hW) hdg hf) hS (fun q _ h => hFc q h) hFc (fun u t2 H1 locs1 ht hvm hw hB hz1 hk1 hS1 => ?_)
  obtain ⟨hP1, hD1⟩ := hB
  rw [ht] at hP1
  obtain ⟨hP2, hD2⟩ := va_join hP hD isC isR hC hR hn hdis hk1 hFc hP1 hD1
  exact kk u H1 locs1 hP2 hD2 hS1
theorem cIN_ {S : Type} {cw : S → va_W} (F : CallFix p m c cc nL s args W0 own) (hM : Met l y (Cond.code y bytes maxL none :: W0) rm (va_Pc (.ref b :: As) (pcx_ X D tys t H.size wc)) (qn_ D cw (va_A wc H.size)) mc ms (va_A wc H.size)) (cw0 : va_CN R s args own index y host bytes maxL none (Cond.code y bytes maxL none :: W0) rm mc ms n ∧ y.name = "<init>" ∧ (Cond.instanceMethod y).before args s = true) (hXo : xok_ X) (hXs : X s) (hK : va_K D cls tys s) (hZ : st_ t A s s.heap) (hA : ∀ q : Nat, s.heap.size ≤ q → A q) (hP : va_P D cls ws H) (hD : va_D A ws) (hS : va_S A s.heap H locs) (isC isR : List Nat) (hC : isC.map (fun i => ws[i]?) = wc.map some) (hR : isR.map (fun i => ws[i]?) = wr.map some) (hn : va_nd isR = true) (hdis : ∀ i ∈ isR, i ∉ isC) (hnC : va_nd isC = true)
    (hst : st0 = As.reverse ++ .ref b :: rest) (hlen : As.length = n) (hsize : ls.size = nL) (hW : (rest.map fun v => v.category).sum ≤ 8) (hdg : decode cc pc = .ok (.invokespecial index, 3)) (hf : cells + mc ≤ R.cells ∧ slots + ms ≤ R.slots)
    (kk : ∀ (u : S) (H1 : Heap) (locs1 : List Loc), va_P D cls (wr ++ cw u) H1 → va_D A (wr ++ cw u) → va_S A s.heap H1 locs1 → W p l e R s m args below meth c H1 locs1 (cells + mc) (slots + ms) Q (F0 m (pc + 3) ls rest)) : W p l e R s m args below meth c H locs cells slots Q (F0 m pc ls st0) := by
  have hPc : va_P D cls wc H := hP.sub isC (fm_of hC)
  have hDc := hD.sub isC hnC hC
  have hFc := va_free (wc := wc) hD hS hA isC hC
  have hpre := pcx_pre (av := .ref b :: As) hXo hXs hK hZ hS hPc hDc hFc
  refine va_callv (va_runIN (As := As) (rest := rest) F hM cw0 hpre rfl hlen hsize hst (lv_room hW) hdg hf) hS (fun q _ h => hFc q h) hFc (fun u t2 H1 locs1 ht hvm hw hB hz1 hk1 hS1 => ?_)
  obtain ⟨hP1, hD1⟩ := hB
  rw [ht] at hP1
  obtain ⟨hP2, hD2⟩ := va_join hP hD isC isR hC hR hn hdis hk1 hFc hP1 hD1
  exact kk u H1 locs1 hP2 hD2 hS1
end WK2
/-! the extra words -/
def X0_ : State → Prop := fun _ => True
theorem X0_ok : xok_ X0_ := ⟨fun _ _ _ _ _ => trivial, fun _ _ _ _ => trivial⟩
def XN_ (own : String) (idx : Nat) (y : MethodName) (host : String) : State → Prop := fun U => va_Nw (.methodLinkNest own idx y host) U
theorem XN_ok (own : String) (idx : Nat) (y : MethodName) (host : String) : xok_ (XN_ own idx y host) := ⟨fun a U g mk h => va_Nw.same rfl (u := U) (U := U.calling g mk a) rfl h, fun s U hW h => va_Nw.warmM hW h⟩
theorem XA_ok {X Y : State → Prop} (hX : xok_ X) (hY : xok_ Y) : xok_ (fun U => X U ∧ Y U) := ⟨fun a U g mk h => ⟨hX.1 a U g mk h.1, hY.1 a U g mk h.2⟩, fun s U hW h => ⟨hX.2 s U hW h.1, hY.2 s U hW h.2⟩⟩
def XP_ : State → Prop := fun U => XN_ cls_P 23 y_M_init cls_F U ∧ XN_ cls_P 30 y_S_init cls_F U
theorem XP_ok : xok_ XP_ := XA_ok (XN_ok _ _ _ _) (XN_ok _ _ _ _)
def XF_ : State → Prop := fun U => XN_ cls_F 9 y_P_init cls_F U ∧ XP_ U
theorem XF_ok : xok_ XF_ := XA_ok (XN_ok _ _ _ _) XP_ok
