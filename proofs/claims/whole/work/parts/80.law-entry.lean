/-! The law's entry: what the tables and the start give. -/
theorem lx_txm : ∀ k, k < 8 → Cond.stringRef R_LazyMachine (lx_tx k).1 (lx_tx k).2 ∈ lw_tbl := by decide +kernel
theorem lw_str {s : State} {b cur : Nat} (hts : ∀ w ∈ lw_tbl, w.before #[Value.ref b] s = true) (hcur : s.vm.findClass R_LazyMachine = some cur) : ∃ sa : Nat → Nat, ∀ k, k < 8 → vk_R R_LazyMachine (lx_tx k).1 (lx_tx k).2 (sa k) s := by
  have h : ∀ k : Nat, ∃ a : Nat, k < 8 → vk_R R_LazyMachine (lx_tx k).1 (lx_tx k).2 a s := by
    intro k
    by_cases hk : k < 8
    · obtain ⟨_, _, _, a, _, _, _, _, _, hev⟩ := Cond.stringRef_spec hcur (hts _ (lx_txm k hk))
      exact ⟨a, fun _ => vk_R.of (hts _ (lx_txm k hk)) hev⟩
    · exact ⟨0, fun q => absurd q hk⟩
  exact Classical.skolem.mp h
theorem lw_nw : (Cond.declares (lx_d "java/lang/RuntimeException") ∈ lw_tbl ∧ Cond.declares (lx_d "java/lang/Exception") ∈ lw_tbl ∧ Cond.declares (lx_d "java/lang/Throwable") ∈ lw_tbl) ∧ Cond.castable X_ISE X_ISE ∈ lw_tbl ∧ Cond.castable X_IAE X_IAE ∈ lw_tbl := by decide +kernel
theorem lw_nc : Cond.not (.castable X_IAE X_ISE) ∈ flatC (Jvm.Cond.and given_1 narrow_1) := by decide +kernel
theorem lw_st : (Cond.laysStatic Bundle.tN "UNASSIGNED_STACK" Bundle.steD ∈ lw_tbl ∧ Cond.laysStatic Bundle.tN "SUPPRESSED_SENTINEL" Bundle.listD ∈ lw_tbl ∧ Cond.initialized Bundle.tN ∈ lw_tbl) ∧ Cond.laysStatic "LazyMachine" "PARTS" "[I" ∈ lw_tbl := by decide +kernel
theorem lw_sr : Cond.isRef (.static Bundle.tN "UNASSIGNED_STACK" Bundle.steD) ∈ flatC (Jvm.Cond.and given_1 narrow_1) ∧ Cond.isRef (.static Bundle.tN "SUPPRESSED_SENTINEL" Bundle.listD) ∈ flatC (Jvm.Cond.and given_1 narrow_1) := by decide +kernel
theorem lw_fl : Cond.fieldLinkNest R_Term 38 "LazyMachine" "PARTS" "[I" "LazyMachine" ∈ lw_tbl := by decide +kernel
theorem lw_pa : Cond.arrayOf (.static "LazyMachine" "PARTS" "[I") .int ∈ flatC (Jvm.Cond.and given_1 narrow_1) ∧ Cond.eq (.length (.static "LazyMachine" "PARTS" "[I")) (.int (Int32.ofNat 14)) ∈ flatC (Jvm.Cond.and given_1 narrow_1) := by decide +kernel
theorem lw_pe : ∀ j, j < 14 → Cond.eq (.elem (.static "LazyMachine" "PARTS" "[I") (.int (Int32.ofNat j))) (.int (tm_pt j)) ∈ flatC (Jvm.Cond.and given_1 narrow_1) := by decide +kernel
theorem lw_env {s : State} {b cur : Nat} (hts : ∀ w ∈ lw_tbl, w.before #[Value.ref b] s = true) (hcur : s.vm.findClass R_LazyMachine = some cur) (hgv : (Jvm.Cond.and given_1 narrow_1).before #[Value.ref b] s = true) : ∃ (sa : Nat → Nat) (tp : Nat), lx_E sa (lw_A s) s ∧ tm_E tp (lw_A s) s := by
  have hs := flat_of_before _ hgv
  have hA : ∀ a : Nat, a < s.heap.size → ¬ lw_A s a := fun a h q => absurd h (Nat.not_lt.mpr q)
  obtain ⟨sa, hsa⟩ := lw_str hts hcur
  obtain ⟨tp, ht, hT⟩ := va_Tof (f := fun k => .int (tm_pt k)) (A := lw_A s) (N := 14) (by decide) (hs _ lw_pa.1) (va_eqt (hs _ lw_pa.2)) (fun j hj => va_eqt (hs _ (lw_pe j hj))) hA
  refine ⟨sa, tp, ⟨hsa, ⟨⟨va_Nw.of rfl (hts _ lw_nw.1.1), va_Nw.of rfl (hts _ lw_nw.1.2.1), va_Nw.of rfl (hts _ lw_nw.1.2.2)⟩, va_Nw.of rfl (hts _ lw_nw.2.1), va_Nw.of rfl (hts _ lw_nw.2.2), va_Nc.of (hs _ lw_nc)⟩, vx_Zqof (hts _ lw_st.1.1) (hts _ lw_st.1.2.2) (hs _ lw_sr.1) hA, vx_Zqof (hts _ lw_st.1.2.1) (hts _ lw_st.1.2.2) (hs _ lw_sr.2) hA⟩, va_Nw.of rfl (hts _ lw_fl), va_Zref (hts _ lw_st.2) (hts _ (wd_tbl _ m_0_1)) ht hA, hT⟩
/-- the classes' numbers and slots -/
theorem lw_kn {s : State} {b : Nat} (hts : ∀ w ∈ lw_tbl, w.before #[Value.ref b] s = true) : ∃ (dC : Nat → ClassId) (dI : Nat → Nat → Nat), va_K (dC, dI) classes [] s := by
  obtain ⟨c0, i0, k0⟩ := u_known (C := R_LazyMachine) (T := F_LazyMachine) (N := 13) (n := 13) hts (fun w h => wd_tbl w (i_LazyMachine w h)) (hts _ (wd_tbl _ m_0_8))
  obtain ⟨c1, i1, k1⟩ := u_known (C := R_Heap) (T := F_Heap) (N := 9) (n := 9) hts (fun w h => wd_tbl w (i_Heap w h)) (hts _ (wd_tbl _ m_0_16))
  obtain ⟨c2, i2, k2⟩ := u_known (C := R_Pile) (T := F_Pile) (N := 5) (n := 5) hts (fun w h => wd_tbl w (i_Pile w h)) (hts _ (wd_tbl _ m_1_8))
  obtain ⟨c3, i3, k3⟩ := u_known (C := R_Term) (T := F_Term) (N := 7) (n := 7) hts (fun w h => wd_tbl w (i_Term w h)) (hts _ (wd_tbl _ m_1_19))
  obtain ⟨c4, i4, k4⟩ := u_known (C := R_Model) (T := F_Model) (N := 30) (n := 30) hts (fun w h => wd_tbl w (i_Model w h)) (hts _ (wd_tbl _ m_13_12))
  refine ⟨fun k => match k with | 0 => c0 | 1 => c1 | 2 => c2 | 3 => c3 | _ => c4, fun k => match k with | 0 => i0 | 1 => i1 | 2 => i2 | 3 => i3 | _ => i4, ?_, fun k q hk => ?_⟩
  · intro c q hq
    match c, hq with
    | 0, hq => cases Option.some.inj hq; exact k0
    | 1, hq => cases Option.some.inj hq; exact k1
    | 2, hq => cases Option.some.inj hq; exact k2
    | 3, hq => cases Option.some.inj hq; exact k3
    | 4, hq => cases Option.some.inj hq; exact k4
    | n + 5, hq => exact absurd (show (none : Option vw_C) = some q from hq) (by simp)
  · exact absurd (show (none : Option (ClassId × FieldType)) = some q from hk) (by simp)
theorem lw_tys {s : State} {dC : Nat → ClassId} {dI : Nat → Nat → Nat} {cA cZ : ClassId} (h : va_K (dC, dI) classes [] s) (h1 : ArrOfT s cA .int ∧ va_RA s cA .int) (h2 : ArrOfT s cZ .boolean ∧ va_RA s cZ .boolean) : va_K (dC, dI) classes [(cA, .int), (cZ, .boolean)] s := by
  refine ⟨h.1, fun k q hk => ?_⟩
  match k, hk with
  | 0, hk => cases Option.some.inj hk; exact h1
  | 1, hk => cases Option.some.inj hk; exact h2
  | n + 2, hk => exact absurd (show (none : Option (ClassId × FieldType)) = some q from hk) (by simp)
theorem lw_P0 {D : va_G} {H : Heap} : va_P D classes [] H := fun k q hk => absurd (show (none : Option (Nat × va_E)) = some q from hk) (by simp)
theorem lw_D0 {A : Nat → Prop} : va_D A [] := ⟨fun i j p q hi => absurd (show (none : Option (Nat × va_E)) = some p from hi) (by simp), fun k q hk => absurd (show (none : Option (Nat × va_E)) = some q from hk) (by simp)⟩
theorem lw_long : Cond.arrayClass .long ∈ lw_tbl := by decide +kernel
theorem z_LazyMachine : ∀ j, j < 13 → defaultValue (t_LazyMachine j) = vp_V [.null, .null, .null, .null, .int 0, .int 0, .int 0, .int 0, .int 0, .int 0, .int 0, .int 0, .int 0] j := by decide +kernel
theorem z_Model : ∀ j, j < 30 → defaultValue (t_Model j) = vp_V [.int 0, .null, .null, .int 0, .null, .null, .null, .int 0, .null, .null, .null, .null, .null, .null, .null, .int 0, .null, .null, .null, .int 0, .int 0, .int 0, .int 0, .int 0, .int 0, .int 0, .int 0, .int 0, .int 0, .int 0] j := by decide +kernel
