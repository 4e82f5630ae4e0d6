/-! Rows of our own over the kit's: a call with its frame in one row; a contract's entry and end. -/
abbrev lm_pre (D : va_G) (cl : List vw_C) (tys : List (ClassId × FieldType)) (ws : va_W) (sz : Nat) (E : State → Prop) : State → Prop :=
  fun U => U.heap.size = sz ∧ va_P D cl ws U.heap ∧ va_K D cl tys U ∧ va_D (fun _ => True) ws ∧ E U
abbrev lm_at (D : va_G) (cl : List vw_C) (tys : List (ClassId × FieldType)) (A : Nat → Prop) (ws : va_W) (t : State) : Prop :=
  va_P D cl ws t.heap ∧ va_K D cl tys t ∧ va_D A ws
abbrev lm_no : State → Prop := fun _ => True
/-- what a state says that a frame laid over it doesn't change -/
def lm_bl (E : State → Prop) : Prop := ∀ (U : State) (g : JFrame) (mk : MethodId) (a : Array Value), E U → E (U.calling g mk a)
theorem lm_bl_no : lm_bl lm_no := fun _ _ _ _ _ => trivial
theorem lm_blind {av : List Value} {D : va_G} {cl : List vw_C} {tys : List (ClassId × FieldType)} {ws : va_W} {sz : Nat} {E : State → Prop} (hE : lm_bl E) : FrameBlind (va_Pc av (lm_pre D cl tys ws sz E)) := fun a U g mk q => by
  obtain ⟨q0, q1, qP, qK, qD, qE⟩ := q
  exact ⟨q0, q1, qP, va_K.moved (u := U) (U := U.calling g mk a) (Vm.Alike.refl U.vm) qK, qD, hE _ _ _ _ qE⟩
theorem lm_fm {α : Type} {f : Nat → Option α} {is : List Nat} {wc : List α} (h : is.map f = wc.map some) : is.filterMap f = wc := by
  induction is generalizing wc with
  | nil => cases wc with
    | nil => rfl
    | cons a l => simp at h
  | cons i is ih => cases wc with
    | nil => simp at h
    | cons a l =>
      simp only [List.map_cons, List.cons.injEq] at h
      rw [List.filterMap_cons, h.1, ih h.2]
section LMC
variable {p : Program} {l : Launch} {e : Env} {R : Room} {s : State} {m : MethodId} {args : Array Value} {below : List Frame} {meth : Method} {c : Code} {H : Heap} {locs : List Loc} {cells slots : Nat} {Q : State → Prop}
variable {cc : ByteArray} {pc nL : Nat} {ls : Array Slot} {rest st0 : List Value} {A0 : Nat → Prop} {H0 : Heap} {D : va_G} {cl : List vw_C} {tys : List (ClassId × FieldType)} {wr wc ws : va_W}
variable {y : MethodName} {bytes : ByteArray} {maxL mc ms n index : Nat} {ret : Option FieldType} {wsM : List Cond} {rm : Room} {Ts : List Cond} {own C : String} {b : Nat} {As : List Value} {E : State → Prop}
/-- invokevirtual, an int comes back -/
theorem lm_vi {S : Type} {post : Int32 → S → Prop} {wf : S → va_W}
    (F : CallFix p m c cc nL s args Ts own) (hK : va_K D cl tys s) (hP : va_P D cl ws H) (hD : va_D A0 ws) (hS : va_S A0 H0 H locs) (hA : ∀ q, H0.size ≤ q → A0 q)
    (isC isR : List Nat) (hC : isC.map (fun i => ws[i]?) = wc.map some) (hR : isR.map (fun i => ws[i]?) = wr.map some) (hn1 : va_nd isC = true) (hn2 : va_nd isR = true) (hdis : ∀ i ∈ isR, i ∉ isC)
    (hM : Met l y wsM rm (va_Pc (.ref b :: As) (lm_pre D cl tys wc H.size E)) (va_Qi post (fun u => lm_at D cl tys (va_A wc H.size) (wf u)) (va_A wc H.size)) mc ms (va_A wc H.size))
    (cw : CallW R s args own C index y bytes maxL ret wsM rm mc ms n) (hrec : ∃ cellB : Cell, H[b]? = some cellB ∧ cellB.vm.isStatics = false ∧ s.vm.findClass C = some cellB.cls)
    (hE : lm_bl E) (hX : ∀ U : State, U.heap = H → s.WarmedH U.vm → E U)
    (hsize : ls.size = nL) (hlen : As.length = n) (hst : st0 = As.reverse ++ .ref b :: rest) (hroom : (rest.map fun v => v.category).sum ≤ 8)
    (hdg : decode cc pc = .ok (.invokevirtual index, 3)) (hf : cells + mc ≤ R.cells ∧ slots + ms ≤ R.slots)
    (kk : ∀ (r : Int32) (u : S) (H1 : Heap) (locs1 : List Loc), post r u → va_P D cl (wr ++ wf u) H1 → va_D A0 (wr ++ wf u) → va_S A0 H0 H1 locs1 → W p l e R s m args below meth c H1 locs1 (cells + mc) (slots + ms) Q (F0 m (pc + 3) ls (.int r :: rest))) :
    W p l e R s m args below meth c H locs cells slots Q (F0 m pc ls st0) := by
  have hPc : va_P D cl wc H := hP.sub isC (lm_fm hC)
  have hDc := hD.sub isC hn1 hC
  have hFc := va_free (wc := wc) hD hS hA isC hC
  refine va_calli (va_runV (As := As) (rest := rest) F hM cw ⟨lm_blind hE, hrec, fun U hU hW => ⟨rfl, by rw [hU], by rw [hU]; exact hPc, va_K.moved hW.alike hK, hDc.weaken (fun _ _ _ _ => trivial), hX U hU hW⟩⟩ rfl hlen hsize hst (lv_room hroom) hdg hf) hS (fun q _ h => hFc q h) hFc (fun r u t H1 locs1 ht hvm hw hB hz1 hk1 hS1 => ?_)
  obtain ⟨hP1, hK1, hD1⟩ := hB
  rw [ht] at hP1
  obtain ⟨hP2, hD2⟩ := va_join (wr := wr) (w1 := wf u) hP hD isC isR hC hR hn2 hdis hk1 hFc hP1 hD1
  exact kk r u H1 locs1 hw hP2 hD2 hS1
/-- invokevirtual, nothing comes back -/
theorem lm_vv {S : Type} {post : S → Prop} {wf : S → va_W}
    (F : CallFix p m c cc nL s args Ts own) (hK : va_K D cl tys s) (hP : va_P D cl ws H) (hD : va_D A0 ws) (hS : va_S A0 H0 H locs) (hA : ∀ q, H0.size ≤ q → A0 q)
    (isC isR : List Nat) (hC : isC.map (fun i => ws[i]?) = wc.map some) (hR : isR.map (fun i => ws[i]?) = wr.map some) (hn1 : va_nd isC = true) (hn2 : va_nd isR = true) (hdis : ∀ i ∈ isR, i ∉ isC)
    (hM : Met l y wsM rm (va_Pc (.ref b :: As) (lm_pre D cl tys wc H.size E)) (va_Qv post (fun u => lm_at D cl tys (va_A wc H.size) (wf u)) (va_A wc H.size)) mc ms (va_A wc H.size))
    (cw : CallW R s args own C index y bytes maxL ret wsM rm mc ms n) (hrec : ∃ cellB : Cell, H[b]? = some cellB ∧ cellB.vm.isStatics = false ∧ s.vm.findClass C = some cellB.cls)
    (hE : lm_bl E) (hX : ∀ U : State, U.heap = H → s.WarmedH U.vm → E U)
    (hsize : ls.size = nL) (hlen : As.length = n) (hst : st0 = As.reverse ++ .ref b :: rest) (hroom : (rest.map fun v => v.category).sum ≤ 8)
    (hdg : decode cc pc = .ok (.invokevirtual index, 3)) (hf : cells + mc ≤ R.cells ∧ slots + ms ≤ R.slots)
    (kk : ∀ (u : S) (H1 : Heap) (locs1 : List Loc), post u → va_P D cl (wr ++ wf u) H1 → va_D A0 (wr ++ wf u) → va_S A0 H0 H1 locs1 → W p l e R s m args below meth c H1 locs1 (cells + mc) (slots + ms) Q (F0 m (pc + 3) ls rest)) :
    W p l e R s m args below meth c H locs cells slots Q (F0 m pc ls st0) := by
  have hPc : va_P D cl wc H := hP.sub isC (lm_fm hC)
  have hDc := hD.sub isC hn1 hC
  have hFc := va_free (wc := wc) hD hS hA isC hC
  refine va_callv (va_runV (As := As) (rest := rest) F hM cw ⟨lm_blind hE, hrec, fun U hU hW => ⟨rfl, by rw [hU], by rw [hU]; exact hPc, va_K.moved hW.alike hK, hDc.weaken (fun _ _ _ _ => trivial), hX U hU hW⟩⟩ rfl hlen hsize hst (lv_room hroom) hdg hf) hS (fun q _ h => hFc q h) hFc (fun u t H1 locs1 ht hvm hw hB hz1 hk1 hS1 => ?_)
  obtain ⟨hP1, hK1, hD1⟩ := hB
  rw [ht] at hP1
  obtain ⟨hP2, hD2⟩ := va_join (wr := wr) (w1 := wf u) hP hD isC isR hC hR hn2 hdis hk1 hFc hP1 hD1
  exact kk u H1 locs1 hw hP2 hD2 hS1
/-- invokestatic, an int comes back -/
theorem lm_si {S : Type} {post : Int32 → S → Prop} {wf : S → va_W}
    (F : CallFix p m c cc nL s args Ts own) (hK : va_K D cl tys s) (hP : va_P D cl ws H) (hD : va_D A0 ws) (hS : va_S A0 H0 H locs) (hA : ∀ q, H0.size ≤ q → A0 q)
    (isC isR : List Nat) (hC : isC.map (fun i => ws[i]?) = wc.map some) (hR : isR.map (fun i => ws[i]?) = wr.map some) (hn1 : va_nd isC = true) (hn2 : va_nd isR = true) (hdis : ∀ i ∈ isR, i ∉ isC)
    (hM : Met l y wsM rm (va_Pc As (lm_pre D cl tys wc H.size E)) (va_Qi post (fun u => lm_at D cl tys (va_A wc H.size) (wf u)) (va_A wc H.size)) mc ms (va_A wc H.size))
    (cw : CallB R s args own index y bytes maxL ret wsM rm mc ms n ∧ (Cond.static y).before args s = true)
    (hE : lm_bl E) (hX : ∀ U : State, U.heap = H → s.WarmedH U.vm → E U)
    (hsize : ls.size = nL) (hlen : As.length = n) (hst : st0 = As.reverse ++ rest) (hroom : (rest.map fun v => v.category).sum ≤ 8)
    (hdg : decode cc pc = .ok (.invokestatic index, 3)) (hf : cells + mc ≤ R.cells ∧ slots + ms ≤ R.slots)
    (kk : ∀ (r : Int32) (u : S) (H1 : Heap) (locs1 : List Loc), post r u → va_P D cl (wr ++ wf u) H1 → va_D A0 (wr ++ wf u) → va_S A0 H0 H1 locs1 → W p l e R s m args below meth c H1 locs1 (cells + mc) (slots + ms) Q (F0 m (pc + 3) ls (.int r :: rest))) :
    W p l e R s m args below meth c H locs cells slots Q (F0 m pc ls st0) := by
  have hPc : va_P D cl wc H := hP.sub isC (lm_fm hC)
  have hDc := hD.sub isC hn1 hC
  have hFc := va_free (wc := wc) hD hS hA isC hC
  refine va_calli (va_runS (As := As) (rest := rest) F hM cw ⟨lm_blind hE, fun U hU hW => ⟨rfl, by rw [hU], by rw [hU]; exact hPc, va_K.moved hW.alike hK, hDc.weaken (fun _ _ _ _ => trivial), hX U hU hW⟩⟩ rfl hlen hsize hst (lv_room hroom) hdg hf) hS (fun q _ h => hFc q h) hFc (fun r u t H1 locs1 ht hvm hw hB hz1 hk1 hS1 => ?_)
  obtain ⟨hP1, hK1, hD1⟩ := hB
  rw [ht] at hP1
  obtain ⟨hP2, hD2⟩ := va_join (wr := wr) (w1 := wf u) hP hD isC isR hC hR hn2 hdis hk1 hFc hP1 hD1
  exact kk r u H1 locs1 hw hP2 hD2 hS1
/-- invokespecial <init>, on a new object -/
theorem lm_iv {S : Type} {post : S → Prop} {wf : S → va_W}
    (F : CallFix p m c cc nL s args Ts own) (hK : va_K D cl tys s) (hP : va_P D cl ws H) (hD : va_D A0 ws) (hS : va_S A0 H0 H locs) (hA : ∀ q, H0.size ≤ q → A0 q)
    (isC isR : List Nat) (hC : isC.map (fun i => ws[i]?) = wc.map some) (hR : isR.map (fun i => ws[i]?) = wr.map some) (hn1 : va_nd isC = true) (hn2 : va_nd isR = true) (hdis : ∀ i ∈ isR, i ∉ isC)
    {B : S → State → Prop}
    (hM : Met l y wsM rm (va_Pc (.ref b :: As) (lm_pre D cl tys wc H.size E)) (va_Qv post B (va_A wc H.size)) mc ms (va_A wc H.size))
    (hB : ∀ u t, B u t → lm_at D cl tys (va_A wc H.size) (wf u) t)
    (cw : CallB R s args own index y bytes maxL none wsM rm mc ms n ∧ y.name = "<init>" ∧ (Cond.instanceMethod y).before args s = true)
    (hE : lm_bl E) (hX : ∀ U : State, U.heap = H → s.WarmedH U.vm → E U)
    (hsize : ls.size = nL) (hlen : As.length = n) (hst : st0 = As.reverse ++ .ref b :: rest) (hroom : (rest.map fun v => v.category).sum ≤ 8)
    (hdg : decode cc pc = .ok (.invokespecial index, 3)) (hf : cells + mc ≤ R.cells ∧ slots + ms ≤ R.slots)
    (kk : ∀ (u : S) (H1 : Heap) (locs1 : List Loc), post u → va_P D cl (wr ++ wf u) H1 → va_D A0 (wr ++ wf u) → va_S A0 H0 H1 locs1 → W p l e R s m args below meth c H1 locs1 (cells + mc) (slots + ms) Q (F0 m (pc + 3) ls rest)) :
    W p l e R s m args below meth c H locs cells slots Q (F0 m pc ls st0) := by
  have hPc : va_P D cl wc H := hP.sub isC (lm_fm hC)
  have hDc := hD.sub isC hn1 hC
  have hFc := va_free (wc := wc) hD hS hA isC hC
  refine va_callv (va_runI (As := As) (rest := rest) F hM cw ⟨lm_blind hE, fun U hU hW => ⟨rfl, by rw [hU], by rw [hU]; exact hPc, va_K.moved hW.alike hK, hDc.weaken (fun _ _ _ _ => trivial), hX U hU hW⟩⟩ rfl hlen hsize hst (lv_room hroom) hdg hf) hS (fun q _ h => hFc q h) hFc (fun u t H1 locs1 ht hvm hw hB1 hz1 hk1 hS1 => ?_)
  obtain ⟨hP1, hK1, hD1⟩ := hB u t hB1
  rw [ht] at hP1
  obtain ⟨hP2, hD2⟩ := va_join (wr := wr) (w1 := wf u) hP hD isC isR hC hR hn2 hdis hk1 hFc hP1 hD1
  exact kk u H1 locs1 hw hP2 hD2 hS1
/-- ireturn -/
theorem lm_ri {S : Type} {post : Int32 → S → Prop} {wf : S → va_W} {A : Nat → Prop} {v : Int32} (hx : p.tables.exec = Jvm.exec) (hb : c.code = cc) (hr : meth.sig.returnType = some .int) (hlocks : meth.locks = false)
    (u : S) (hpost : post v u) (hP : va_P D cl (wf u) H) (hK : va_K D cl tys s) (hD : va_D A (wf u)) (hS : va_S A s.heap H locs) (hdg : decode cc pc = .ok (.ireturn, 1)) :
    W p l e R s m args below meth c H locs cells slots (MQ below (va_Qi post (fun u => lm_at D cl tys A (wf u)) A) args s cells slots A) (F0 m pc ls [.int v]) :=
  W.iret (v := v) hx hb hr (fun t ht hW => ⟨⟨v, u, rfl, hpost, by rw [ht]; exact hP, va_K.moved hW.alike hK, hD⟩, hS.F ht⟩) hS.2.2 hdg hlocks
/-- ireturn of a boolean -/
theorem lm_rz {S : Type} {post : Int32 → S → Prop} {wf : S → va_W} {A : Nat → Prop} {v : Int32} (hx : p.tables.exec = Jvm.exec) (hb : c.code = cc) (hr : meth.sig.returnType = some .boolean) (hlocks : meth.locks = false) (hv : v = 0 ∨ v = 1)
    (u : S) (hpost : post v u) (hP : va_P D cl (wf u) H) (hK : va_K D cl tys s) (hD : va_D A (wf u)) (hS : va_S A s.heap H locs) (hdg : decode cc pc = .ok (.ireturn, 1)) :
    W p l e R s m args below meth c H locs cells slots (MQ below (va_Qi post (fun u => lm_at D cl tys A (wf u)) A) args s cells slots A) (F0 m pc ls [.int v]) :=
  W.zret (v := v) hx hb hr (by rcases hv with rfl | rfl <;> decide +kernel) (fun t ht hW => ⟨⟨v, u, rfl, hpost, by rw [ht]; exact hP, va_K.moved hW.alike hK, hD⟩, hS.F ht⟩) hS.2.2 hdg hlocks
/-- return -/
theorem lm_rv {S : Type} {post : S → Prop} {wf : S → va_W} {A : Nat → Prop} (hx : p.tables.exec = Jvm.exec) (hb : c.code = cc) (hr : meth.sig.returnType = none) (hlocks : meth.locks = false)
    (u : S) (hpost : post u) (hP : va_P D cl (wf u) H) (hK : va_K D cl tys s) (hD : va_D A (wf u)) (hS : va_S A s.heap H locs) (hdg : decode cc pc = .ok (.return_, 1)) :
    W p l e R s m args below meth c H locs cells slots (MQ below (va_Qv post (fun u => lm_at D cl tys A (wf u)) A) args s cells slots A) (F0 m pc ls []) :=
  W.vret hx hb hr (fun t ht hW => ⟨⟨u, rfl, hpost, by rw [ht]; exact hP, va_K.moved hW.alike hK, hD⟩, hS.F ht⟩) hS.2.2 hdg hlocks
end LMC
/-- a contract out of its body's walk -/
theorem lm_met {l : Launch} {y : MethodName} {wsM ws' : List Cond} {rm : Room} {cc : ByteArray} {maxL : Nat} {ret : Option FieldType} {D : va_G} {cl : List vw_C} {tys : List (ClassId × FieldType)} {ws : va_W} {E : State → Prop} {av : List Value} {sz : Nat} (Qc : (Nat → Prop) → Array Value → State → Outcome → State → Prop) {mc ms : Nat}
    (hy : plainName y.cls = true) (hw : wsM = Cond.code y cc maxL ret :: ws') (hlen : (lg_sl av).length ≤ maxL)
    (body : ∀ (p : Program) (e : Env) (s : State) (m : MethodId) (below : List Frame) (meth : Method) (c : Code) (A : Nat → Prop), p.tables.exec = Jvm.exec → c.code = cc → meth.sig.returnType = ret → (∀ w ∈ wsM, w.before av.toArray s = true) → s.vm.findClass y.cls = some m.cls → meth.locks = false → meth.name = y.name → c.maxLocals = maxL →
      va_K D cl tys s → va_P D cl ws s.heap → va_D A ws → (∀ q, s.heap.size ≤ q → A q) → E s → s.heap.size = sz → A = va_A ws s.heap.size → va_S A s.heap s.heap [] → ∀ ls : Array Slot, lv_has ls maxL (lv_args 0 av) →
      W p l e (headSpec wsM rm).room s m av.toArray below meth c s.heap [] 0 0 (MQ below (Qc A) av.toArray s mc ms A) (F0 m 0 ls [])) :
    Met l y wsM rm (va_Pc av (lm_pre D cl tys ws sz E)) (Qc (va_A ws sz)) mc ms (va_A ws sz) := by
  refine Met.ofW (cc := cc) (maxL := maxL) (ret := ret) hy hw ?_
  intro p e s m args below meth c s₁ B hml hv
  obtain ⟨rfl, hsz, hP, hK, hD0, hE⟩ := hv
  have hts := atoms_spec (ws := wsM) B.pre
  rw [lg_entry_eq]
  subst hsz
  exact body p e s m below meth c _ B.exec B.bytes B.returns hts (findClass_of_methodNamed B.named) B.notSynchronized (name_of_methodNamed B.named B.method).1 hml hK hP (hD0.self (sz := s.heap.size)) (fun q h => Or.inr h) hE rfl rfl va_S.rf _ (lv_entry av hlen)
/-- two classes of arrays of ints are one -/
theorem lm_one {D : va_G} {cl : List vw_C} {c1 c2 : ClassId} {U : State} (h : va_K D cl [(c1, .int), (c2, .int)] U) : c1 = c2 := by
  have h1 := (h.2 0 (c1, .int) rfl).2
  have h2 := (h.2 1 (c2, .int) rfl).2
  have h1 : U.vm.findClass ("[" ++ FieldType.int.toString) = some c1 := h1
  have h2 : U.vm.findClass ("[" ++ FieldType.int.toString) = some c2 := h2
  rw [h1] at h2
  exact Option.some.inj h2
abbrev ZLS : Type := Int32 × Int32 × Int32 × Int32 × Int32 × Int32 × Int32 × Int32 × Int32
abbrev ma_W (cA : ClassId) (ad : Nat → Nat) (S : ZLS) : va_W := [(ad 0, .inr (0, [.ref (ad 1), .ref (ad 8), .ref (ad 12), .ref (ad 19), .int S.1, .int S.2.1, .int S.2.2.1, .int S.2.2.2.1, .int S.2.2.2.2.1, .int S.2.2.2.2.2.1, .int S.2.2.2.2.2.2.1, .int S.2.2.2.2.2.2.2.1, .int S.2.2.2.2.2.2.2.2]))]
abbrev ma_W2 (cA : ClassId) (ad : Nat → Nat) (waiting : Nat) (term : Nat) (S : ZLS) : va_W := [(ad 0, .inr (0, [.ref (ad 1), .ref (ad 8), .ref (waiting), .ref (term), .int S.1, .int S.2.1, .int S.2.2.1, .int S.2.2.2.1, .int S.2.2.2.2.1, .int S.2.2.2.2.2.1, .int S.2.2.2.2.2.2.1, .int S.2.2.2.2.2.2.2.1, .int S.2.2.2.2.2.2.2.2]))]
abbrev ZHS : Type := (Nat → Int32) × (Nat → Int32) × (Nat → Int32) × (Nat → Int32) × (Nat → Int32) × (Nat → Int32) × Int32 × Int32 × Int32
abbrev hp_W (cA : ClassId) (ad : Nat → Nat) (S : ZHS) : va_W := [(ad 0, .inr (1, [.ref (ad 1), .ref (ad 2), .ref (ad 3), .ref (ad 4), .ref (ad 5), .ref (ad 6), .int S.2.2.2.2.2.2.1, .int S.2.2.2.2.2.2.2.1, .int S.2.2.2.2.2.2.2.2])), (ad 1, .inl (cA, 256, .inl S.1)), (ad 2, .inl (cA, 256, .inl S.2.1)), (ad 3, .inl (cA, 256, .inl S.2.2.1)), (ad 4, .inl (cA, 256, .inl S.2.2.2.1)), (ad 5, .inl (cA, 256, .inl S.2.2.2.2.1)), (ad 6, .inl (cA, 256, .inl S.2.2.2.2.2.1))]
abbrev ZPS : Type := (Nat → Int32) × (Nat → Int32) × (Nat → Int32) × Int32 × Int32
abbrev pl_W (cA : ClassId) (ad : Nat → Nat) (S : ZPS) : va_W := [(ad 0, .inr (2, [.ref (ad 1), .ref (ad 2), .ref (ad 3), .int S.2.2.2.1, .int S.2.2.2.2])), (ad 1, .inl (cA, 200, .inl S.1)), (ad 2, .inl (cA, 200, .inl S.2.1)), (ad 3, .inl (cA, 200, .inl S.2.2.1))]
abbrev ZTS : Type := (Nat → Int32) × (Nat → Int32) × (Nat → Int32) × (Nat → Int32) × (Nat → Int32) × (Nat → Int32) × Int32
abbrev tm_W (cA : ClassId) (ad : Nat → Nat) (S : ZTS) : va_W := [(ad 0, .inr (3, [.ref (ad 1), .ref (ad 2), .ref (ad 3), .ref (ad 4), .ref (ad 5), .ref (ad 6), .int S.2.2.2.2.2.2])), (ad 1, .inl (cA, 200, .inl S.1)), (ad 2, .inl (cA, 200, .inl S.2.1)), (ad 3, .inl (cA, 600, .inl S.2.2.1)), (ad 4, .inl (cA, 200, .inl S.2.2.2.1)), (ad 5, .inl (cA, 200, .inl S.2.2.2.2.1)), (ad 6, .inl (cA, 200, .inl S.2.2.2.2.2.1))]
abbrev ZRS : Type := Int32 × (Nat → Int32) × (Nat → Int32) × Int32 × (Nat → Int32) × (Nat → Int32) × (Nat → Int32) × Int32 × (Nat → Int32) × (Nat → Int32) × (Nat → Int32) × (Nat → Int32) × (Nat → Int32) × (Nat → Int32) × (Nat → Int32) × Int32 × (Nat → Int32) × (Nat → Int32) × (Nat → Int32) × Int32 × Int32 × Int32 × Int32 × Int32 × Int32 × Int32 × Int32 × Int32 × Int32 × Int32
abbrev md_W (cA cZ : ClassId) (ad : Nat → Nat) (S : ZRS) : va_W := [(ad 0, .inr (4, [.int S.1, .ref (ad 1), .ref (ad 2), .int S.2.2.2.1, .ref (ad 3), .ref (ad 4), .ref (ad 5), .int S.2.2.2.2.2.2.2.1, .ref (ad 6), .ref (ad 7), .ref (ad 8), .ref (ad 9), .ref (ad 10), .ref (ad 11), .ref (ad 12), .int S.2.2.2.2.2.2.2.2.2.2.2.2.2.2.2.1, .ref (ad 13), .ref (ad 14), .ref (ad 15), .int S.2.2.2.2.2.2.2.2.2.2.2.2.2.2.2.2.2.2.2.1, .int S.2.2.2.2.2.2.2.2.2.2.2.2.2.2.2.2.2.2.2.2.1, .int S.2.2.2.2.2.2.2.2.2.2.2.2.2.2.2.2.2.2.2.2.2.1, .int S.2.2.2.2.2.2.2.2.2.2.2.2.2.2.2.2.2.2.2.2.2.2.1, .int S.2.2.2.2.2.2.2.2.2.2.2.2.2.2.2.2.2.2.2.2.2.2.2.1, .int S.2.2.2.2.2.2.2.2.2.2.2.2.2.2.2.2.2.2.2.2.2.2.2.2.1, .int S.2.2.2.2.2.2.2.2.2.2.2.2.2.2.2.2.2.2.2.2.2.2.2.2.2.1, .int S.2.2.2.2.2.2.2.2.2.2.2.2.2.2.2.2.2.2.2.2.2.2.2.2.2.2.1, .int S.2.2.2.2.2.2.2.2.2.2.2.2.2.2.2.2.2.2.2.2.2.2.2.2.2.2.2.1, .int S.2.2.2.2.2.2.2.2.2.2.2.2.2.2.2.2.2.2.2.2.2.2.2.2.2.2.2.2.1, .int S.2.2.2.2.2.2.2.2.2.2.2.2.2.2.2.2.2.2.2.2.2.2.2.2.2.2.2.2.2])), (ad 1, .inl (cA, 200, .inl S.2.1)), (ad 2, .inl (cA, 200, .inl S.2.2.1)), (ad 3, .inl (cA, 200, .inl S.2.2.2.2.1)), (ad 4, .inl (cA, 200, .inl S.2.2.2.2.2.1)), (ad 5, .inl (cA, 600, .inl S.2.2.2.2.2.2.1)), (ad 6, .inl (cA, 700, .inl S.2.2.2.2.2.2.2.2.1)), (ad 7, .inl (cA, 700, .inl S.2.2.2.2.2.2.2.2.2.1)), (ad 8, .inl (cA, 256, .inl S.2.2.2.2.2.2.2.2.2.2.1)), (ad 9, .inl (cA, 256, .inl S.2.2.2.2.2.2.2.2.2.2.2.1)), (ad 10, .inl (cA, 256, .inl S.2.2.2.2.2.2.2.2.2.2.2.2.1)), (ad 11, .inl (cZ, 256, .inl S.2.2.2.2.2.2.2.2.2.2.2.2.2.1)), (ad 12, .inl (cA, 256, .inl S.2.2.2.2.2.2.2.2.2.2.2.2.2.2.1)), (ad 13, .inl (cA, 200, .inl S.2.2.2.2.2.2.2.2.2.2.2.2.2.2.2.2.1)), (ad 14, .inl (cA, 200, .inl S.2.2.2.2.2.2.2.2.2.2.2.2.2.2.2.2.2.1)), (ad 15, .inl (cA, 200, .inl S.2.2.2.2.2.2.2.2.2.2.2.2.2.2.2.2.2.2.1))]
abbrev ZMS : Type := (ZLS) × (ZHS) × (ZPS) × (ZTS) × ZTS
abbrev lz_W (cA : ClassId) (ad : Nat → Nat) (S : ZMS) : va_W := ma_W cA ad S.1 ++ (hp_W cA (fun k => ad (k + 1)) S.2.1 ++ (pl_W cA (fun k => ad (k + 8)) S.2.2.1 ++ (tm_W cA (fun k => ad (k + 12)) S.2.2.2.1 ++ (tm_W cA (fun k => ad (k + 19)) S.2.2.2.2))))
