/-! Rows of our own over the printed ones on exceptions. -/
/-- every good word of the tables -/
def wx : List Cond := lw_tbl.filter goodWord
theorem wx_of {w : Cond} (h : w ∈ lw_tbl) (g : goodWord w = true) : w ∈ wx := List.mem_filter.mpr ⟨h, g⟩
theorem wx_wd : ∀ w ∈ wd, w ∈ wx := fun w h => wx_of (wd_tbl w h) (List.all_eq_true.mp wd_good w h)
theorem wx_ok {w : Cond} (h : w ∈ wx) : (w.onTables && w.keeps) = true ∨ ∃ ty, w = .arrayClass ty := good_of_word (List.mem_filter.mp h).2
theorem lx_gV {c0 cw : Cond} {own C : String} {idx : Nat} {y : MethodName} {L : List Cond} (hL : ∀ w ∈ L, w ∈ wx) (h1 : Cond.methodLink own idx y ∈ wx) (h2 : Cond.instanceMethod y ∈ wx) (h3 : Cond.selects C y y ∈ wx) (h4 : Cond.initialized C ∈ wx) (h5 : cw ∈ wx) : GoodIn (c0 :: wx) (wsV own idx C y (cw :: L)) := by
  intro w hw
  have h : w ∈ wx := by
    rcases List.mem_append.mp hw with h | h
    · simp only [List.mem_cons, List.not_mem_nil, or_false] at h
      rcases h with rfl | rfl | rfl | rfl
      · exact h1
      · exact h2
      · exact h3
      · exact h4
    · rcases List.mem_cons.mp h with rfl | h
      · exact h5
      · exact hL w h
  exact ⟨List.mem_cons_of_mem _ h, wx_ok h⟩
theorem lx_gS {c0 cw : Cond} {own : String} {idx : Nat} {y : MethodName} {L : List Cond} (hL : ∀ w ∈ L, w ∈ wx) (h1 : Cond.methodLink own idx y ∈ wx) (h2 : Cond.static y ∈ wx) (h4 : Cond.initialized own ∈ wx) (h5 : cw ∈ wx) : GoodIn (c0 :: wx) (wsS own idx y (cw :: L)) := by
  intro w hw
  have h : w ∈ wx := by
    rcases List.mem_append.mp hw with h | h
    · simp only [List.mem_cons, List.not_mem_nil, or_false] at h
      rcases h with rfl | rfl | rfl
      · exact h1
      · exact h2
      · exact h4
    · rcases List.mem_cons.mp h with rfl | h
      · exact h5
      · exact hL w h
  exact ⟨List.mem_cons_of_mem _ h, wx_ok h⟩
/-- a body that throws, out of its walk -/
theorem lx_met {l : Launch} {y : MethodName} {wsM ws' : List Cond} {rm : Room} {cc : ByteArray} {maxL : Nat} {ret : Option FieldType} {D : va_G} {cl : List vw_C} {tys : List (ClassId × FieldType)} {ws : va_W} {E : State → Prop} {av : List Value} {sz : Nat} (Qc : (Nat → Prop) → Array Value → State → Outcome → State → Prop) (XC : (Nat → Prop) → String → State → State → Prop) {mc ms : Nat}
    (hy : plainName y.cls = true) (hw : wsM = Cond.code y cc maxL ret :: ws') (hlen : (lg_sl av).length ≤ maxL)
    (body : ∀ (p : Program) (e : Env) (s : State) (m : MethodId) (below : List Frame) (meth : Method) (c : Code) (A : Nat → Prop), p.tables.exec = Jvm.exec → c.code = cc → meth.sig.returnType = ret → (∀ w ∈ wsM, w.before av.toArray s = true) → s.vm.findClass y.cls = some m.cls → meth.locks = false → meth.name = y.name → c.maxLocals = maxL → (∀ x ∈ c.exceptionTable.toList, False) →
      va_K D cl tys s → va_P D cl ws s.heap → va_D A ws → (∀ q, s.heap.size ≤ q → A q) → E s → s.heap.size = sz → A = va_A ws s.heap.size → va_S A s.heap s.heap [] → ∀ ls : Array Slot, lv_has ls maxL (lv_args 0 av) →
      W p l e (headSpec wsM rm).room s m av.toArray below meth c s.heap [] 0 0 (vx_MQ below (Qc A) (XC A) av.toArray s mc ms A) (F0 m 0 ls [])) :
    vx_Met l y wsM rm (va_Pc av (lm_pre D cl tys ws sz E)) (Qc (va_A ws sz)) (XC (va_A ws sz)) mc ms (va_A ws sz) := by
  refine vx_ofW (cc := cc) (maxL := maxL) (ret := ret) hy hw ?_
  intro p e s m args below meth c s₁ B hml htb hv
  obtain ⟨rfl, hsz, hP, hK, hD0, hE⟩ := hv
  have hts := atoms_spec (ws := wsM) B.pre
  rw [lg_entry_eq]
  subst hsz
  exact body p e s m below meth c _ B.exec B.bytes B.returns hts (findClass_of_methodNamed B.named) B.notSynchronized (name_of_methodNamed B.named B.method).1 hml htb hK hP (hD0.self (sz := s.heap.size)) (fun q h => Or.inr h) hE rfl rfl va_S.rf _ (lv_entry av hlen)
/-- a body with a table of handlers, out of its walk -/
theorem lx_metH {l : Launch} {y : MethodName} {wsM ws' : List Cond} {rm : Room} {cc : ByteArray} {maxL : Nat} {ret : Option FieldType} {hh : List (Nat × Nat × Nat × Nat)} {D : va_G} {cl : List vw_C} {tys : List (ClassId × FieldType)} {ws : va_W} {E : State → Prop} {av : List Value} {sz : Nat} (Qc : (Nat → Prop) → Array Value → State → Outcome → State → Prop) (XC : (Nat → Prop) → String → State → State → Prop) {mc ms : Nat}
    (hy : plainName y.cls = true) (hw : wsM = Cond.codeWith y cc maxL ret hh :: ws') (hlen : (lg_sl av).length ≤ maxL)
    (body : ∀ (p : Program) (e : Env) (s : State) (m : MethodId) (below : List Frame) (meth : Method) (c : Code) (A : Nat → Prop), p.tables.exec = Jvm.exec → c.code = cc → meth.sig.returnType = ret → (∀ w ∈ wsM, w.before av.toArray s = true) → s.vm.findClass y.cls = some m.cls → meth.locks = false → meth.name = y.name → c.maxLocals = maxL → c.exceptionTable.toList = tableOf hh →
      va_K D cl tys s → va_P D cl ws s.heap → va_D A ws → (∀ q, s.heap.size ≤ q → A q) → E s → s.heap.size = sz → A = va_A ws s.heap.size → va_S A s.heap s.heap [] → ∀ ls : Array Slot, lv_has ls maxL (lv_args 0 av) →
      W p l e (headSpec wsM rm).room s m av.toArray below meth c s.heap [] 0 0 (vx_MQ below (Qc A) (XC A) av.toArray s mc ms A) (F0 m 0 ls [])) :
    vx_Met l y wsM rm (va_Pc av (lm_pre D cl tys ws sz E)) (Qc (va_A ws sz)) (XC (va_A ws sz)) mc ms (va_A ws sz) := by
  refine vx_ofWH (cc := cc) (maxL := maxL) (ret := ret) (hh := hh) hy hw ?_
  intro p e s m args below meth c s₁ B hml hv
  obtain ⟨rfl, hsz, hP, hK, hD0, hE⟩ := hv
  have hts := atoms_spec (ws := wsM) B.pre
  have htb := vx_table (x := y) B (hts _ (by rw [hw]; exact List.mem_cons_self))
  rw [lg_entry_eq]
  subst hsz
  exact body p e s m below meth c _ B.exec B.bytes B.returns hts (findClass_of_methodNamed B.named) B.notSynchronized (name_of_methodNamed B.named B.method).1 hml htb hK hP (hD0.self (sz := s.heap.size)) (fun q h => Or.inr h) hE rfl rfl va_S.rf _ (lv_entry av hlen)
section LXC
variable {p : Program} {l : Launch} {e : Env} {R : Room} {s : State} {m : MethodId} {args : Array Value} {below : List Frame} {meth : Method} {c : Code} {H : Heap} {locs : List Loc} {cells slots : Nat} {Q : State → Prop}
variable {cc : ByteArray} {pc nL : Nat} {ls : Array Slot} {rest st0 : List Value} {A0 : Nat → Prop} {H0 : Heap} {D : va_G} {cl : List vw_C} {tys : List (ClassId × FieldType)} {wr wc ws : va_W}
variable {y : MethodName} {bytes : ByteArray} {maxL mc ms n index : Nat} {ret : Option FieldType} {wsM : List Cond} {rm : Room} {Ts : List Cond} {own C : String} {b : Nat} {As : List Value} {E : State → Prop}
/-- what a method that throws Ex leaves: the world as it was -/
abbrev lx_X (Ex : String) (D : va_G) (cl : List vw_C) (tys : List (ClassId × FieldType)) (A : Nat → Prop) (wc : va_W) : String → State → State → Prop := vx_X (fun _ : Unit => True) (fun E9 _ t => E9 = Ex ∧ lm_at D cl tys A wc t) A
abbrev lx_Ni (A : Nat → Prop) : Array Value → State → Outcome → State → Prop := va_Qi (fun (_ : Int32) (_ : Unit) => False) (fun _ _ => True) A
abbrev lx_Nv (A : Nat → Prop) : Array Value → State → Outcome → State → Prop := va_Qv (fun (_ : Unit) => False) (fun _ _ => True) A
/-- invokevirtual of a method that throws (one that would answer with an int) -/
theorem lx_vi {Ex : String}
    (F : CallFix p m c cc nL s args Ts own) (hK : va_K D cl tys s) (hP : va_P D cl ws H) (hD : va_D A0 ws) (hS : va_S A0 H0 H locs) (hA : ∀ q, H0.size ≤ q → A0 q)
    (isC isR : List Nat) (hC : isC.map (fun i => ws[i]?) = wc.map some) (hR : isR.map (fun i => ws[i]?) = wr.map some) (hn1 : va_nd isC = true) (hn2 : va_nd isR = true) (hdis : ∀ i ∈ isR, i ∉ isC)
    (hM : vx_Met l y wsM rm (va_Pc (.ref b :: As) (lm_pre D cl tys wc H.size E)) (lx_Ni (va_A wc H.size)) (lx_X Ex D cl tys (va_A wc H.size) wc) mc ms (va_A wc H.size))
    (cw : CallW R s args own C index y bytes maxL ret wsM rm mc ms n) (hrec : ∃ cellB : Cell, H[b]? = some cellB ∧ cellB.vm.isStatics = false ∧ s.vm.findClass C = some cellB.cls)
    (hE : lm_bl E) (hX : ∀ U : State, U.heap = H → s.WarmedH U.vm → E U)
    (hsize : ls.size = nL) (hlen : As.length = n) (hst : st0 = As.reverse ++ .ref b :: rest) (hroom : (rest.map fun v => v.category).sum ≤ 8)
    (hdg : decode cc pc = .ok (.invokevirtual index, 3)) (hf : cells + mc ≤ R.cells ∧ slots + ms ≤ R.slots)
    (kx : ∀ (ce : Cell) (q9 : Addr) (H1 : Heap) (locs1 : List Loc), va_P D cl (wr ++ wc) H1 → va_D A0 (wr ++ wc) → va_S A0 H0 H1 locs1 → H1[q9]? = some ce → ce.vm = .none → s.vm.findClass Ex = some ce.cls → vx_W p l e R s m args below meth c H1 locs1 (cells + mc) (slots + ms) Q (F0 m pc ls rest) q9) :
    W p l e R s m args below meth c H locs cells slots Q (F0 m pc ls st0) := by
  have hPc : va_P D cl wc H := hP.sub isC (lm_fm hC)
  have hDc := hD.sub isC hn1 hC
  have hFc := va_free (wc := wc) hD hS hA isC hC
  refine vx_calli (vx_runV (As := As) (rest := rest) F hM cw ⟨lm_blind hE, hrec, fun U hU hW => ⟨rfl, by rw [hU], by rw [hU]; exact hPc, va_K.moved hW.alike hK, hDc.weaken (fun _ _ _ _ => trivial), hX U hU hW⟩⟩ rfl hlen hsize hst (lv_room hroom) hdg hf) hS (fun q _ h => hFc q h) hFc (fun q _ h => hFc q h) (fun E9 ce q9 u t H1 locs1 ht hvm hp hB hz1 hk1 hS1 hce hcv hcl => ?_) (fun r u t H1 locs1 ht hvm hw => False.elim hw)
  obtain ⟨rfl, hP1, hK1, hD1⟩ := hB
  rw [ht] at hP1
  obtain ⟨hP2, hD2⟩ := va_join (wr := wr) (w1 := wc) hP hD isC isR hC hR hn2 hdis hk1 hFc hP1 hD1
  exact kx ce q9 H1 locs1 hP2 hD2 hS1 hce hcv hcl
/-- .. one that would answer nothing -/
theorem lx_vv {Ex : String}
    (F : CallFix p m c cc nL s args Ts own) (hK : va_K D cl tys s) (hP : va_P D cl ws H) (hD : va_D A0 ws) (hS : va_S A0 H0 H locs) (hA : ∀ q, H0.size ≤ q → A0 q)
    (isC isR : List Nat) (hC : isC.map (fun i => ws[i]?) = wc.map some) (hR : isR.map (fun i => ws[i]?) = wr.map some) (hn1 : va_nd isC = true) (hn2 : va_nd isR = true) (hdis : ∀ i ∈ isR, i ∉ isC)
    (hM : vx_Met l y wsM rm (va_Pc (.ref b :: As) (lm_pre D cl tys wc H.size E)) (lx_Nv (va_A wc H.size)) (lx_X Ex D cl tys (va_A wc H.size) wc) mc ms (va_A wc H.size))
    (cw : CallW R s args own C index y bytes maxL ret wsM rm mc ms n) (hrec : ∃ cellB : Cell, H[b]? = some cellB ∧ cellB.vm.isStatics = false ∧ s.vm.findClass C = some cellB.cls)
    (hE : lm_bl E) (hX : ∀ U : State, U.heap = H → s.WarmedH U.vm → E U)
    (hsize : ls.size = nL) (hlen : As.length = n) (hst : st0 = As.reverse ++ .ref b :: rest) (hroom : (rest.map fun v => v.category).sum ≤ 8)
    (hdg : decode cc pc = .ok (.invokevirtual index, 3)) (hf : cells + mc ≤ R.cells ∧ slots + ms ≤ R.slots)
    (kx : ∀ (ce : Cell) (q9 : Addr) (H1 : Heap) (locs1 : List Loc), va_P D cl (wr ++ wc) H1 → va_D A0 (wr ++ wc) → va_S A0 H0 H1 locs1 → H1[q9]? = some ce → ce.vm = .none → s.vm.findClass Ex = some ce.cls → vx_W p l e R s m args below meth c H1 locs1 (cells + mc) (slots + ms) Q (F0 m pc ls rest) q9) :
    W p l e R s m args below meth c H locs cells slots Q (F0 m pc ls st0) := by
  have hPc : va_P D cl wc H := hP.sub isC (lm_fm hC)
  have hDc := hD.sub isC hn1 hC
  have hFc := va_free (wc := wc) hD hS hA isC hC
  refine vx_callv (vx_runV (As := As) (rest := rest) F hM cw ⟨lm_blind hE, hrec, fun U hU hW => ⟨rfl, by rw [hU], by rw [hU]; exact hPc, va_K.moved hW.alike hK, hDc.weaken (fun _ _ _ _ => trivial), hX U hU hW⟩⟩ rfl hlen hsize hst (lv_room hroom) hdg hf) hS (fun q _ h => hFc q h) hFc (fun q _ h => hFc q h) (fun E9 ce q9 u t H1 locs1 ht hvm hp hB hz1 hk1 hS1 hce hcv hcl => ?_) (fun u t H1 locs1 ht hvm hw => False.elim hw)
  obtain ⟨rfl, hP1, hK1, hD1⟩ := hB
  rw [ht] at hP1
  obtain ⟨hP2, hD2⟩ := va_join (wr := wr) (w1 := wc) hP hD isC isR hC hR hn2 hdis hk1 hFc hP1 hD1
  exact kx ce q9 H1 locs1 hP2 hD2 hS1 hce hcv hcl
/-- invokestatic of a method with handlers that catches all that it meets: an int comes back -/
theorem lx_si {S : Type} {post : Int32 → S → Prop} {wf : S → va_W} {hh : List (Nat × Nat × Nat × Nat)}
    (F : CallFix p m c cc nL s args Ts own) (hK : va_K D cl tys s) (hP : va_P D cl ws H) (hD : va_D A0 ws) (hS : va_S A0 H0 H locs) (hA : ∀ q, H0.size ≤ q → A0 q)
    (isC isR : List Nat) (hC : isC.map (fun i => ws[i]?) = wc.map some) (hR : isR.map (fun i => ws[i]?) = wr.map some) (hn1 : va_nd isC = true) (hn2 : va_nd isR = true) (hdis : ∀ i ∈ isR, i ∉ isC)
    (hM : vx_Met l y wsM rm (va_Pc As (lm_pre D cl tys wc H.size E)) (va_Qi post (fun u => lm_at D cl tys (va_A wc H.size) (wf u)) (va_A wc H.size)) (vx_X (fun _ : Unit => False) (fun _ _ _ => True) (va_A wc H.size)) mc ms (va_A wc H.size))
    (cw : vx_CSW R s args own index y bytes maxL ret hh wsM rm mc ms n)
    (hE : lm_bl E) (hX : ∀ U : State, U.heap = H → s.WarmedH U.vm → E U)
    (hsize : ls.size = nL) (hlen : As.length = n) (hst : st0 = As.reverse ++ rest) (hroom : (rest.map fun v => v.category).sum ≤ 8)
    (hdg : decode cc pc = .ok (.invokestatic index, 3)) (hf : cells + mc ≤ R.cells ∧ slots + ms ≤ R.slots)
    (kk : ∀ (r : Int32) (u : S) (H1 : Heap) (locs1 : List Loc), post r u → va_P D cl (wr ++ wf u) H1 → va_D A0 (wr ++ wf u) → va_S A0 H0 H1 locs1 → W p l e R s m args below meth c H1 locs1 (cells + mc) (slots + ms) Q (F0 m (pc + 3) ls (.int r :: rest))) :
    W p l e R s m args below meth c H locs cells slots Q (F0 m pc ls st0) := by
  have hPc : va_P D cl wc H := hP.sub isC (lm_fm hC)
  have hDc := hD.sub isC hn1 hC
  have hFc := va_free (wc := wc) hD hS hA isC hC
  refine vx_calli (vx_runSX (As := As) (rest := rest) F hM cw ⟨lm_blind hE, fun U hU hW => ⟨rfl, by rw [hU], by rw [hU]; exact hPc, va_K.moved hW.alike hK, hDc.weaken (fun _ _ _ _ => trivial), hX U hU hW⟩⟩ rfl hlen hsize hst (lv_room hroom) hdg hf) hS (fun q _ h => hFc q h) hFc (fun q _ h => hFc q h) (fun E9 ce q9 u t H1 locs1 ht hvm hp => False.elim hp) (fun r u t H1 locs1 ht hvm hw hB hz1 hk1 hS1 => ?_)
  obtain ⟨hP1, hK1, hD1⟩ := hB
  rw [ht] at hP1
  obtain ⟨hP2, hD2⟩ := va_join (wr := wr) (w1 := wf u) hP hD isC isR hC hR hn2 hdis hk1 hFc hP1 hD1
  exact kk r u H1 locs1 hw hP2 hD2 hS1
end LXC
/-! What a throw of the class stands on: strings, words that warmer tables keep by rows of their own, two static fields. -/
abbrev X_ISE : String := "java/lang/IllegalStateException"
abbrev X_IAE : String := "java/lang/IllegalArgumentException"
abbrev lx_up : List String := ["java/lang/RuntimeException", "java/lang/Exception"]
/-- the texts, by their place -/
def lx_tx (k : Nat) : Nat × String := match k with
  | 0 => (48, "no such sort of node")
  | 1 => (57, "x is not one for this sort of node")
  | 2 => (78, "there is no term")
  | 3 => (81, "n is not 0 .. 5000")
  | 4 => (96, "it is not over")
  | 5 => (101, "there is no pair as the result")
  | 6 => (103, "k is not 0 or 1")
  | _ => (109, "there is no function as the result")
abbrev lx_d (C : String) : MethodName := ⟨C, "<init>", "(Ljava/lang/String;)V"⟩
def lx_N (U : State) : Prop := (va_Nw (.declares (lx_d "java/lang/RuntimeException")) U ∧ va_Nw (.declares (lx_d "java/lang/Exception")) U ∧ va_Nw (.declares (lx_d "java/lang/Throwable")) U) ∧ va_Nw (.castable X_ISE X_ISE) U ∧ va_Nw (.castable X_IAE X_IAE) U ∧ va_Nc X_IAE X_ISE U
def lx_E (sa : Nat → Nat) (A : Nat → Prop) (U : State) : Prop := (∀ k, k < 8 → vk_R R_LazyMachine (lx_tx k).1 (lx_tx k).2 (sa k) U) ∧ lx_N U ∧ vx_Zq Bundle.tN "UNASSIGNED_STACK" Bundle.steD A U U.heap ∧ vx_Zq Bundle.tN "SUPPRESSED_SENTINEL" Bundle.listD A U U.heap
theorem lx_N_warm {s U : State} (hW : s.WarmedH U.vm) (h : lx_N s) : lx_N U :=
  ⟨⟨va_Nw.warmD hW h.1.1, va_Nw.warmD hW h.1.2.1, va_Nw.warmD hW h.1.2.2⟩, va_Nw.warmC hW h.2.1, va_Nw.warmC hW h.2.2.1, va_Nc.moved hW.alike h.2.2.2⟩
theorem lx_E_bl {sa : Nat → Nat} {A : Nat → Prop} : lm_bl (lx_E sa A) := fun U g mk a h =>
  ⟨fun k hk => vk_R.same (u := U) (U := U.calling g mk a) rfl (h.1 k hk), ⟨⟨va_Nw.same rfl rfl h.2.1.1.1, va_Nw.same rfl rfl h.2.1.1.2.1, va_Nw.same rfl rfl h.2.1.1.2.2⟩, va_Nw.same rfl rfl h.2.1.2.1, va_Nw.same rfl rfl h.2.1.2.2.1, va_Nc.moved (u := U) (U := U.calling g mk a) (Vm.Alike.refl U.vm) h.2.1.2.2.2⟩,
    vx_Zq.moved (u := U) (U := U.calling g mk a) (Vm.Alike.refl U.vm) h.2.2.1, vx_Zq.moved (u := U) (U := U.calling g mk a) (Vm.Alike.refl U.vm) h.2.2.2⟩
theorem lx_E_use {sa : Nat → Nat} {A B : Nat → Prop} {s : State} {H : Heap} {locs : List Loc} (hE : lx_E sa A s) (hS : va_S A s.heap H locs) (hB : ∀ q, B q → A q) : ∀ U : State, U.heap = H → s.WarmedH U.vm → lx_E sa B U := fun U hU hW => by
  unfold lx_E
  rw [hU]
  exact ⟨fun k hk => vk_R.warm hW (hE.1 k hk), lx_N_warm hW hE.2.1, ((hE.2.2.1.kept hS.2.1).moved hW.alike).narrow hB, ((hE.2.2.2.kept hS.2.1).moved hW.alike).narrow hB⟩
abbrev lx_rm : Room := { frames := 6, cells := 1, slots := 6, locals := 100 }
theorem lx_in14 {x : Int32} (h1 : ¬ x < 0) (h7 : x ≤ 13) : vp_in x 14 := by
  intro q
  rcases q with q | q
  · exact h1 q
  · rw [Int32.le_iff_toInt_le] at h7
    have h4 : x.toNatClampNeg = x.toInt.toNat := rfl
    have h5 : (13 : Int32).toInt = 13 := by decide
    omega
theorem lx_gS1 : ∀ w ∈ (vx_atS R_LazyMachine 80 X_ISE lx_up).filter goodWord, w ∈ lw_tbl := by decide +kernel
theorem lx_gA1 : ∀ w ∈ (vx_atS R_LazyMachine 50 X_IAE lx_up).filter goodWord, w ∈ lw_tbl := by decide +kernel
theorem lx_kS : Cond.classLink R_LazyMachine 76 X_ISE ∈ lw_tbl ∧ Cond.initialized X_ISE ∈ lw_tbl := by decide +kernel
theorem lx_kA : Cond.classLink R_LazyMachine 46 X_IAE ∈ lw_tbl ∧ Cond.initialized X_IAE ∈ lw_tbl := by decide +kernel
theorem lx_atS1 {args : Array Value} {s : State} (hts : ∀ w ∈ wx, w.before args s = true) (h : lx_N s) : ∀ w ∈ vx_atS R_LazyMachine 80 X_ISE lx_up, w.before args s = true :=
  vx_hat (B := [.declares (lx_d "java/lang/RuntimeException"), .declares (lx_d "java/lang/Exception"), .declares (lx_d "java/lang/Throwable"), .castable X_ISE X_ISE]) (fun w hw => hts w (wx_of (lx_gS1 w hw) (List.mem_filter.mp hw).2)) (by decide +kernel)
    (vx_c (va_Nw.use rfl h.1.1) (vx_c (va_Nw.use rfl h.1.2.1) (vx_c (va_Nw.use rfl h.1.2.2) (vx_c (va_Nw.use rfl h.2.1) vx_n))))
theorem lx_atA1 {args : Array Value} {s : State} (hts : ∀ w ∈ wx, w.before args s = true) (h : lx_N s) : ∀ w ∈ vx_atS R_LazyMachine 50 X_IAE lx_up, w.before args s = true :=
  vx_hat (B := [.declares (lx_d "java/lang/RuntimeException"), .declares (lx_d "java/lang/Exception"), .declares (lx_d "java/lang/Throwable"), .castable X_IAE X_IAE]) (fun w hw => hts w (wx_of (lx_gA1 w hw) (List.mem_filter.mp hw).2)) (by decide +kernel)
    (vx_c (va_Nw.use rfl h.1.1) (vx_c (va_Nw.use rfl h.1.2.1) (vx_c (va_Nw.use rfl h.1.2.2) (vx_c (va_Nw.use rfl h.2.2.1) vx_n))))
section LXT
variable {p : Program} {l : Launch} {e : Env} {R : Room} {s : State} {m : MethodId} {args : Array Value} {below : List Frame} {meth : Method} {c : Code} {H : Heap} {locs : List Loc}
variable {cc : ByteArray} {pc : Nat} {ls : Array Slot} {rest : List Value} {A : Nat → Prop} {D : va_G} {cl : List vw_C} {tys : List (ClassId × FieldType)} {ws : va_W} {sa : Nat → Nat} {Qc : Array Value → State → Outcome → State → Prop}
theorem lx_thrS (hx : p.tables.exec = Jvm.exec) (hb : c.code = cc) (hl0 : l.stackTraces = false) (hown : s.vm.findClass R_LazyMachine = some m.cls) (hts : ∀ w ∈ wx, w.before args s = true) (hE : lx_E sa A s) (k : Nat) (hk : Nat.blt k 8 = true)
    (hK : va_K D cl tys s) (hP : va_P D cl ws H) (hD : va_D A ws) (hS : va_S A s.heap H locs) (hsize : ls.size = c.maxLocals)
    (d0 : decode cc pc = .ok (.new 76, 3)) (d3 : decode cc (pc + 3) = .ok (.dup, 1)) (d4 : decode cc (pc + 4) = .ok (.ldc (lx_tx k).1, 2)) (d6 : decode cc (pc + 6) = .ok (.invokespecial 80, 3)) (d9 : decode cc (pc + 9) = .ok (.athrow, 1))
    (htb : ∀ x ∈ c.exceptionTable.toList, False) (hR : 5 < R.frames ∧ (rest.map fun v => v.category).sum + 82 ≤ R.locals ∧ 1 ≤ R.cells ∧ 6 ≤ R.slots) (hlocks : meth.locks = false) :
    W p l e R s m args below meth c H locs 0 0 (vx_MQ below Qc (lx_X X_ISE D cl tys A ws) args s 1 6 A) (F0 m pc ls rest) :=
  vx_throwS hx hb hl0 hown (by decide +kernel) (by decide +kernel) (hts _ (wx_of lx_kS.1 rfl)) (hts _ (wx_of lx_kS.2 rfl)) (hE.1 k (Nat.le_of_ble_eq_true hk)) (lx_atS1 hts hE.2.1) (by decide +kernel) hE.2.2.1 hE.2.2.2 hS hsize d0 d3 d4 d6 d9 (fun x h => (htb x h).elim) hR.1 hR.2.1 (by omega) (by omega) hlocks
    (fun t hvm hz hq => ⟨(), trivial, ⟨rfl, hP.kept (fun k q hk => hq q.1 (vx_lt hP hk)), va_K.moved hvm hK, hD⟩, Nat.le_trans hS.1 hz, fun q h1 h2 => (hq q (Nat.lt_of_lt_of_le h1 hS.1)).trans (hS.2.1 q h1 h2)⟩) hS.2.2 (Nat.le_refl _) (Nat.le_refl _)
theorem lx_thrA (hx : p.tables.exec = Jvm.exec) (hb : c.code = cc) (hl0 : l.stackTraces = false) (hown : s.vm.findClass R_LazyMachine = some m.cls) (hts : ∀ w ∈ wx, w.before args s = true) (hE : lx_E sa A s) (k : Nat) (hk : Nat.blt k 8 = true)
    (hK : va_K D cl tys s) (hP : va_P D cl ws H) (hD : va_D A ws) (hS : va_S A s.heap H locs) (hsize : ls.size = c.maxLocals)
    (d0 : decode cc pc = .ok (.new 46, 3)) (d3 : decode cc (pc + 3) = .ok (.dup, 1)) (d4 : decode cc (pc + 4) = .ok (.ldc (lx_tx k).1, 2)) (d6 : decode cc (pc + 6) = .ok (.invokespecial 50, 3)) (d9 : decode cc (pc + 9) = .ok (.athrow, 1))
    (htb : ∀ x ∈ c.exceptionTable.toList, False) (hR : 5 < R.frames ∧ (rest.map fun v => v.category).sum + 82 ≤ R.locals ∧ 1 ≤ R.cells ∧ 6 ≤ R.slots) (hlocks : meth.locks = false) :
    W p l e R s m args below meth c H locs 0 0 (vx_MQ below Qc (lx_X X_IAE D cl tys A ws) args s 1 6 A) (F0 m pc ls rest) :=
  vx_throwS hx hb hl0 hown (by decide +kernel) (by decide +kernel) (hts _ (wx_of lx_kA.1 rfl)) (hts _ (wx_of lx_kA.2 rfl)) (hE.1 k (Nat.le_of_ble_eq_true hk)) (lx_atA1 hts hE.2.1) (by decide +kernel) hE.2.2.1 hE.2.2.2 hS hsize d0 d3 d4 d6 d9 (fun x h => (htb x h).elim) hR.1 hR.2.1 (by omega) (by omega) hlocks
    (fun t hvm hz hq => ⟨(), trivial, ⟨rfl, hP.kept (fun k q hk => hq q.1 (vx_lt hP hk)), va_K.moved hvm hK, hD⟩, Nat.le_trans hS.1 hz, fun q h1 h2 => (hq q (Nat.lt_of_lt_of_le h1 hS.1)).trans (hS.2.1 q h1 h2)⟩) hS.2.2 (Nat.le_refl _) (Nat.le_refl _)
end LXT
