set_option maxHeartbeats 4000000 in
set_option maxRecDepth 100000 in
theorem x_LazyMachine_restart (l : Launch) (hl0 : l.stackTraces = false) (dC : Nat → ClassId) (dI : Nat → Nat → Nat) (cA : ClassId) (sa : Nat → Nat) (ad : Nat → Nat) (sz : Nat) (M : ZMS) (hs : l_ss M = 0) : vx_Met l y_LazyMachine_restart (c0_LazyMachine_restart :: wx) lx_rm (va_Pc [.ref (ad 0)] (lm_pre (dC, dI) classes [(cA, .int)] (lz_W cA ad M) sz (lx_E sa (va_A (lz_W cA ad M) sz)))) (lx_Nv (va_A (lz_W cA ad M) sz)) (lx_X X_ISE (dC, dI) classes [(cA, .int)] (va_A (lz_W cA ad M) sz) (lz_W cA ad M)) 1 6 (va_A (lz_W cA ad M) sz) := by
  obtain ⟨⟨ss, sp, fo, ba, no, en, vs, vf, vg⟩, SM, PM, XM, YM⟩ := M
  refine lx_met (fun A => lx_Nv A) (fun A => lx_X X_ISE (dC, dI) classes [(cA, .int)] A (lz_W cA ad ((ss, sp, fo, ba, no, en, vs, vf, vg), SM, PM, XM, YM))) (by decide) rfl (Nat.le_of_ble_eq_true rfl) ?_
  intro p e s m below meth c A hx hb hr hts hown hlocks hname hml htb hK hP hD hA hE hsz hAe hS ls hl
  replace hl : lv_has ls 1 [(0, .ref (ad 0))] := hl
  rw [← hsz, ← hAe] at hE
  clear hAe hsz
  refine lv_aload_n hx hb d_LazyMachine_restart_0 rfl (lv_at hl 0 rfl) ?_
  refine va_get (D := (dC, dI)) (ci := 0) (v := .int ss) (C := R_LazyMachine) (T := F_LazyMachine) (N := 13) hx hb hts (fun q hq => List.mem_cons_of_mem _ (wx_wd _ (i_LazyMachine q hq))) hown hK hP 0 rfl rfl 4 (by decide) (hts _ (List.mem_cons_of_mem _ (wx_wd _ m_2_11))) (fun _ h9 => h9) rfl d_LazyMachine_restart_1 ?_
  refine lv_if_ne hx hb d_LazyMachine_restart_4 rfl (fun h4 => by exact absurd hs h4) (fun h4 => ?_)
  exact lx_thrS hx hb hl0 hown (fun w h => hts w (List.mem_cons_of_mem _ h)) hE 2 rfl hK hP hD hS (hl.1.trans hml.symm) d_LazyMachine_restart_7 d_LazyMachine_restart_10 d_LazyMachine_restart_11 d_LazyMachine_restart_13 d_LazyMachine_restart_16 htb ⟨Nat.le_of_ble_eq_true rfl, Nat.le_of_ble_eq_true rfl, Nat.le_of_ble_eq_true rfl, Nat.le_of_ble_eq_true rfl⟩ hlocks
set_option maxHeartbeats 4000000 in
set_option maxRecDepth 100000 in
theorem x_LazyMachine_run1 (l : Launch) (hl0 : l.stackTraces = false) (dC : Nat → ClassId) (dI : Nat → Nat → Nat) (cA : ClassId) (sa : Nat → Nat) (ad : Nat → Nat) (sz : Nat) (M : ZMS) (x : Int32) (hs : l_ss M = 0) : vx_Met l y_LazyMachine_run (c0_LazyMachine_run :: wx) lx_rm (va_Pc [.ref (ad 0), .int x] (lm_pre (dC, dI) classes [(cA, .int)] (lz_W cA ad M) sz (lx_E sa (va_A (lz_W cA ad M) sz)))) (lx_Ni (va_A (lz_W cA ad M) sz)) (lx_X X_ISE (dC, dI) classes [(cA, .int)] (va_A (lz_W cA ad M) sz) (lz_W cA ad M)) 1 6 (va_A (lz_W cA ad M) sz) := by
  obtain ⟨⟨ss, sp, fo, ba, no, en, vs, vf, vg⟩, SM, PM, XM, YM⟩ := M
  refine lx_met (fun A => lx_Ni A) (fun A => lx_X X_ISE (dC, dI) classes [(cA, .int)] A (lz_W cA ad ((ss, sp, fo, ba, no, en, vs, vf, vg), SM, PM, XM, YM))) (by decide) rfl (Nat.le_of_ble_eq_true rfl) ?_
  intro p e s m below meth c A hx hb hr hts hown hlocks hname hml htb hK hP hD hA hE hsz hAe hS ls hl
  replace hl : lv_has ls 3 [(0, .ref (ad 0)), (1, .int x)] := hl
  rw [← hsz, ← hAe] at hE
  clear hAe hsz
  refine lv_aload_n hx hb d_LazyMachine_run_0 rfl (lv_at hl 0 rfl) ?_
  refine va_get (D := (dC, dI)) (ci := 0) (v := .int ss) (C := R_LazyMachine) (T := F_LazyMachine) (N := 13) hx hb hts (fun q hq => List.mem_cons_of_mem _ (wx_wd _ (i_LazyMachine q hq))) hown hK hP 0 rfl rfl 4 (by decide) (hts _ (List.mem_cons_of_mem _ (wx_wd _ m_2_11))) (fun _ h9 => h9) rfl d_LazyMachine_run_1 ?_
  refine lv_if_ne hx hb d_LazyMachine_run_4 rfl (fun h4 => by exact absurd hs h4) (fun h4 => ?_)
  exact lx_thrS hx hb hl0 hown (fun w h => hts w (List.mem_cons_of_mem _ h)) hE 2 rfl hK hP hD hS (hl.1.trans hml.symm) d_LazyMachine_run_7 d_LazyMachine_run_10 d_LazyMachine_run_11 d_LazyMachine_run_13 d_LazyMachine_run_16 htb ⟨Nat.le_of_ble_eq_true rfl, Nat.le_of_ble_eq_true rfl, Nat.le_of_ble_eq_true rfl, Nat.le_of_ble_eq_true rfl⟩ hlocks
set_option maxHeartbeats 4000000 in
set_option maxRecDepth 100000 in
theorem x_LazyMachine_run2 (l : Launch) (hl0 : l.stackTraces = false) (dC : Nat → ClassId) (dI : Nat → Nat → Nat) (cA : ClassId) (sa : Nat → Nat) (ad : Nat → Nat) (sz : Nat) (M : ZMS) (x : Int32) (hs : ¬ l_ss M = 0) (hn : x < 0 ∨ ¬ x ≤ 5000) : vx_Met l y_LazyMachine_run (c0_LazyMachine_run :: wx) lx_rm (va_Pc [.ref (ad 0), .int x] (lm_pre (dC, dI) classes [(cA, .int)] (lz_W cA ad M) sz (lx_E sa (va_A (lz_W cA ad M) sz)))) (lx_Ni (va_A (lz_W cA ad M) sz)) (lx_X X_IAE (dC, dI) classes [(cA, .int)] (va_A (lz_W cA ad M) sz) (lz_W cA ad M)) 1 6 (va_A (lz_W cA ad M) sz) := by
  obtain ⟨⟨ss, sp, fo, ba, no, en, vs, vf, vg⟩, SM, PM, XM, YM⟩ := M
  refine lx_met (fun A => lx_Ni A) (fun A => lx_X X_IAE (dC, dI) classes [(cA, .int)] A (lz_W cA ad ((ss, sp, fo, ba, no, en, vs, vf, vg), SM, PM, XM, YM))) (by decide) rfl (Nat.le_of_ble_eq_true rfl) ?_
  intro p e s m below meth c A hx hb hr hts hown hlocks hname hml htb hK hP hD hA hE hsz hAe hS ls hl
  replace hl : lv_has ls 3 [(0, .ref (ad 0)), (1, .int x)] := hl
  rw [← hsz, ← hAe] at hE
  clear hAe hsz
  refine lv_aload_n hx hb d_LazyMachine_run_0 rfl (lv_at hl 0 rfl) ?_
  refine va_get (D := (dC, dI)) (ci := 0) (v := .int ss) (C := R_LazyMachine) (T := F_LazyMachine) (N := 13) hx hb hts (fun q hq => List.mem_cons_of_mem _ (wx_wd _ (i_LazyMachine q hq))) hown hK hP 0 rfl rfl 4 (by decide) (hts _ (List.mem_cons_of_mem _ (wx_wd _ m_2_11))) (fun _ h9 => h9) rfl d_LazyMachine_run_1 ?_
  refine lv_if_ne hx hb d_LazyMachine_run_4 rfl (fun h4 => ?_) (fun h4 => by exact absurd h4 hs)
  refine lv_iload_n hx hb d_LazyMachine_run_17 rfl (lv_at hl 1 rfl) ?_
  refine lv_if_lt hx hb d_LazyMachine_run_18 rfl (fun h18 => ?_) (fun h18 => ?_)
  · exact lx_thrA hx hb hl0 hown (fun w h => hts w (List.mem_cons_of_mem _ h)) hE 3 rfl hK hP hD hS (hl.1.trans hml.symm) d_LazyMachine_run_28 d_LazyMachine_run_31 d_LazyMachine_run_32 d_LazyMachine_run_34 d_LazyMachine_run_37 htb ⟨Nat.le_of_ble_eq_true rfl, Nat.le_of_ble_eq_true rfl, Nat.le_of_ble_eq_true rfl, Nat.le_of_ble_eq_true rfl⟩ hlocks
  · refine lv_iload_n hx hb d_LazyMachine_run_21 rfl (lv_at hl 1 rfl) ?_
    refine lv_sipush (v := 5000) hx hb d_LazyMachine_run_22 (by decide) ?_
    refine lv_icmp_le hx hb d_LazyMachine_run_25 rfl (fun h25 => by exact absurd h25 (hn.resolve_left h18)) (fun h25 => ?_)
    exact lx_thrA hx hb hl0 hown (fun w h => hts w (List.mem_cons_of_mem _ h)) hE 3 rfl hK hP hD hS (hl.1.trans hml.symm) d_LazyMachine_run_28 d_LazyMachine_run_31 d_LazyMachine_run_32 d_LazyMachine_run_34 d_LazyMachine_run_37 htb ⟨Nat.le_of_ble_eq_true rfl, Nat.le_of_ble_eq_true rfl, Nat.le_of_ble_eq_true rfl, Nat.le_of_ble_eq_true rfl⟩ hlocks
set_option maxHeartbeats 4000000 in
set_option maxRecDepth 100000 in
theorem x_LazyMachine_result (l : Launch) (hl0 : l.stackTraces = false) (dC : Nat → ClassId) (dI : Nat → Nat → Nat) (cA : ClassId) (sa : Nat → Nat) (ad : Nat → Nat) (sz : Nat) (M : ZMS) (x : Int32) (hs : ¬ l_ss M = 2) : vx_Met l y_LazyMachine_result (c0_LazyMachine_result :: wx) lx_rm (va_Pc [.ref (ad 0), .int x] (lm_pre (dC, dI) classes [(cA, .int)] (lz_W cA ad M) sz (lx_E sa (va_A (lz_W cA ad M) sz)))) (lx_Ni (va_A (lz_W cA ad M) sz)) (lx_X X_ISE (dC, dI) classes [(cA, .int)] (va_A (lz_W cA ad M) sz) (lz_W cA ad M)) 1 6 (va_A (lz_W cA ad M) sz) := by
  obtain ⟨⟨ss, sp, fo, ba, no, en, vs, vf, vg⟩, SM, PM, XM, YM⟩ := M
  refine lx_met (fun A => lx_Ni A) (fun A => lx_X X_ISE (dC, dI) classes [(cA, .int)] A (lz_W cA ad ((ss, sp, fo, ba, no, en, vs, vf, vg), SM, PM, XM, YM))) (by decide) rfl (Nat.le_of_ble_eq_true rfl) ?_
  intro p e s m below meth c A hx hb hr hts hown hlocks hname hml htb hK hP hD hA hE hsz hAe hS ls hl
  replace hl : lv_has ls 3 [(0, .ref (ad 0)), (1, .int x)] := hl
  rw [← hsz, ← hAe] at hE
  clear hAe hsz
  refine lv_aload_n hx hb d_LazyMachine_result_0 rfl (lv_at hl 0 rfl) ?_
  refine va_get (D := (dC, dI)) (ci := 0) (v := .int ss) (C := R_LazyMachine) (T := F_LazyMachine) (N := 13) hx hb hts (fun q hq => List.mem_cons_of_mem _ (wx_wd _ (i_LazyMachine q hq))) hown hK hP 0 rfl rfl 4 (by decide) (hts _ (List.mem_cons_of_mem _ (wx_wd _ m_2_11))) (fun _ h9 => h9) rfl d_LazyMachine_result_1 ?_
  refine lv_iconst (v := 2) hx hb d_LazyMachine_result_4 (by decide) ?_
  refine lv_icmp_eq hx hb d_LazyMachine_result_5 rfl (fun h5 => by exact absurd h5 hs) (fun h5 => ?_)
  exact lx_thrS hx hb hl0 hown (fun w h => hts w (List.mem_cons_of_mem _ h)) hE 4 rfl hK hP hD hS (hl.1.trans hml.symm) d_LazyMachine_result_8 d_LazyMachine_result_11 d_LazyMachine_result_12 d_LazyMachine_result_14 d_LazyMachine_result_17 htb ⟨Nat.le_of_ble_eq_true rfl, Nat.le_of_ble_eq_true rfl, Nat.le_of_ble_eq_true rfl, Nat.le_of_ble_eq_true rfl⟩ hlocks
set_option maxHeartbeats 4000000 in
set_option maxRecDepth 100000 in
theorem x_LazyMachine_into1 (l : Launch) (hl0 : l.stackTraces = false) (dC : Nat → ClassId) (dI : Nat → Nat → Nat) (cA : ClassId) (sa : Nat → Nat) (ad : Nat → Nat) (sz : Nat) (M : ZMS) (x : Int32) (hs : ¬ (l_ss M = 2 ∧ l_vs M = 2)) : vx_Met l y_LazyMachine_into (c0_LazyMachine_into :: wx) lx_rm (va_Pc [.ref (ad 0), .int x] (lm_pre (dC, dI) classes [(cA, .int)] (lz_W cA ad M) sz (lx_E sa (va_A (lz_W cA ad M) sz)))) (lx_Ni (va_A (lz_W cA ad M) sz)) (lx_X X_ISE (dC, dI) classes [(cA, .int)] (va_A (lz_W cA ad M) sz) (lz_W cA ad M)) 1 6 (va_A (lz_W cA ad M) sz) := by
  obtain ⟨⟨ss, sp, fo, ba, no, en, vs, vf, vg⟩, SM, PM, XM, YM⟩ := M
  refine lx_met (fun A => lx_Ni A) (fun A => lx_X X_ISE (dC, dI) classes [(cA, .int)] A (lz_W cA ad ((ss, sp, fo, ba, no, en, vs, vf, vg), SM, PM, XM, YM))) (by decide) rfl (Nat.le_of_ble_eq_true rfl) ?_
  intro p e s m below meth c A hx hb hr hts hown hlocks hname hml htb hK hP hD hA hE hsz hAe hS ls hl
  replace hl : lv_has ls 2 [(0, .ref (ad 0)), (1, .int x)] := hl
  rw [← hsz, ← hAe] at hE
  clear hAe hsz
  refine lv_aload_n hx hb d_LazyMachine_into_0 rfl (lv_at hl 0 rfl) ?_
  refine va_get (D := (dC, dI)) (ci := 0) (v := .int ss) (C := R_LazyMachine) (T := F_LazyMachine) (N := 13) hx hb hts (fun q hq => List.mem_cons_of_mem _ (wx_wd _ (i_LazyMachine q hq))) hown hK hP 0 rfl rfl 4 (by decide) (hts _ (List.mem_cons_of_mem _ (wx_wd _ m_2_11))) (fun _ h9 => h9) rfl d_LazyMachine_into_1 ?_
  refine lv_iconst (v := 2) hx hb d_LazyMachine_into_4 (by decide) ?_
  refine lv_icmp_ne hx hb d_LazyMachine_into_5 rfl (fun h5 => ?_) (fun h5 => ?_)
  · exact lx_thrS hx hb hl0 hown (fun w h => hts w (List.mem_cons_of_mem _ h)) hE 5 rfl hK hP hD hS (hl.1.trans hml.symm) d_LazyMachine_into_16 d_LazyMachine_into_19 d_LazyMachine_into_20 d_LazyMachine_into_22 d_LazyMachine_into_25 htb ⟨Nat.le_of_ble_eq_true rfl, Nat.le_of_ble_eq_true rfl, Nat.le_of_ble_eq_true rfl, Nat.le_of_ble_eq_true rfl⟩ hlocks
  · refine lv_aload_n hx hb d_LazyMachine_into_8 rfl (lv_at hl 0 rfl) ?_
    refine va_get (D := (dC, dI)) (ci := 0) (v := .int vs) (C := R_LazyMachine) (T := F_LazyMachine) (N := 13) hx hb hts (fun q hq => List.mem_cons_of_mem _ (wx_wd _ (i_LazyMachine q hq))) hown hK hP 0 rfl rfl 10 (by decide) (hts _ (List.mem_cons_of_mem _ (wx_wd _ m_2_17))) (fun _ h9 => h9) rfl d_LazyMachine_into_9 ?_
    refine lv_iconst (v := 2) hx hb d_LazyMachine_into_12 (by decide) ?_
    refine lv_icmp_eq hx hb d_LazyMachine_into_13 rfl (fun h13 => by exact absurd ⟨h5, h13⟩ hs) (fun h13 => ?_)
    exact lx_thrS hx hb hl0 hown (fun w h => hts w (List.mem_cons_of_mem _ h)) hE 5 rfl hK hP hD hS (hl.1.trans hml.symm) d_LazyMachine_into_16 d_LazyMachine_into_19 d_LazyMachine_into_20 d_LazyMachine_into_22 d_LazyMachine_into_25 htb ⟨Nat.le_of_ble_eq_true rfl, Nat.le_of_ble_eq_true rfl, Nat.le_of_ble_eq_true rfl, Nat.le_of_ble_eq_true rfl⟩ hlocks
set_option maxHeartbeats 4000000 in
set_option maxRecDepth 100000 in
theorem x_LazyMachine_apply (l : Launch) (hl0 : l.stackTraces = false) (dC : Nat → ClassId) (dI : Nat → Nat → Nat) (cA : ClassId) (sa : Nat → Nat) (ad : Nat → Nat) (sz : Nat) (M : ZMS) (x : Int32) (hs : ¬ (l_ss M = 2 ∧ l_vs M = 1)) : vx_Met l y_LazyMachine_apply (c0_LazyMachine_apply :: wx) lx_rm (va_Pc [.ref (ad 0), .int x] (lm_pre (dC, dI) classes [(cA, .int)] (lz_W cA ad M) sz (lx_E sa (va_A (lz_W cA ad M) sz)))) (lx_Ni (va_A (lz_W cA ad M) sz)) (lx_X X_ISE (dC, dI) classes [(cA, .int)] (va_A (lz_W cA ad M) sz) (lz_W cA ad M)) 1 6 (va_A (lz_W cA ad M) sz) := by
  obtain ⟨⟨ss, sp, fo, ba, no, en, vs, vf, vg⟩, SM, PM, XM, YM⟩ := M
  refine lx_met (fun A => lx_Ni A) (fun A => lx_X X_ISE (dC, dI) classes [(cA, .int)] A (lz_W cA ad ((ss, sp, fo, ba, no, en, vs, vf, vg), SM, PM, XM, YM))) (by decide) rfl (Nat.le_of_ble_eq_true rfl) ?_
  intro p e s m below meth c A hx hb hr hts hown hlocks hname hml htb hK hP hD hA hE hsz hAe hS ls hl
  replace hl : lv_has ls 2 [(0, .ref (ad 0)), (1, .int x)] := hl
  rw [← hsz, ← hAe] at hE
  clear hAe hsz
  refine lv_aload_n hx hb d_LazyMachine_apply_0 rfl (lv_at hl 0 rfl) ?_
  refine va_get (D := (dC, dI)) (ci := 0) (v := .int ss) (C := R_LazyMachine) (T := F_LazyMachine) (N := 13) hx hb hts (fun q hq => List.mem_cons_of_mem _ (wx_wd _ (i_LazyMachine q hq))) hown hK hP 0 rfl rfl 4 (by decide) (hts _ (List.mem_cons_of_mem _ (wx_wd _ m_2_11))) (fun _ h9 => h9) rfl d_LazyMachine_apply_1 ?_
  refine lv_iconst (v := 2) hx hb d_LazyMachine_apply_4 (by decide) ?_
  refine lv_icmp_ne hx hb d_LazyMachine_apply_5 rfl (fun h5 => ?_) (fun h5 => ?_)
  · exact lx_thrS hx hb hl0 hown (fun w h => hts w (List.mem_cons_of_mem _ h)) hE 7 rfl hK hP hD hS (hl.1.trans hml.symm) d_LazyMachine_apply_16 d_LazyMachine_apply_19 d_LazyMachine_apply_20 d_LazyMachine_apply_22 d_LazyMachine_apply_25 htb ⟨Nat.le_of_ble_eq_true rfl, Nat.le_of_ble_eq_true rfl, Nat.le_of_ble_eq_true rfl, Nat.le_of_ble_eq_true rfl⟩ hlocks
  · refine lv_aload_n hx hb d_LazyMachine_apply_8 rfl (lv_at hl 0 rfl) ?_
    refine va_get (D := (dC, dI)) (ci := 0) (v := .int vs) (C := R_LazyMachine) (T := F_LazyMachine) (N := 13) hx hb hts (fun q hq => List.mem_cons_of_mem _ (wx_wd _ (i_LazyMachine q hq))) hown hK hP 0 rfl rfl 10 (by decide) (hts _ (List.mem_cons_of_mem _ (wx_wd _ m_2_17))) (fun _ h9 => h9) rfl d_LazyMachine_apply_9 ?_
    refine lv_iconst (v := 1) hx hb d_LazyMachine_apply_12 (by decide) ?_
    refine lv_icmp_eq hx hb d_LazyMachine_apply_13 rfl (fun h13 => by exact absurd ⟨h5, h13⟩ hs) (fun h13 => ?_)
    exact lx_thrS hx hb hl0 hown (fun w h => hts w (List.mem_cons_of_mem _ h)) hE 7 rfl hK hP hD hS (hl.1.trans hml.symm) d_LazyMachine_apply_16 d_LazyMachine_apply_19 d_LazyMachine_apply_20 d_LazyMachine_apply_22 d_LazyMachine_apply_25 htb ⟨Nat.le_of_ble_eq_true rfl, Nat.le_of_ble_eq_true rfl, Nat.le_of_ble_eq_true rfl, Nat.le_of_ble_eq_true rfl⟩ hlocks
set_option maxHeartbeats 4000000 in
set_option maxRecDepth 100000 in
theorem x_LazyMachine_into2 (l : Launch) (hl0 : l.stackTraces = false) (dC : Nat → ClassId) (dI : Nat → Nat → Nat) (cA : ClassId) (sa : Nat → Nat) (ad : Nat → Nat) (sz : Nat) (M : ZMS) (x : Int32) (hs : l_ss M = 2) (hv : l_vs M = 2) (hk : ¬ (x = 0 ∨ x = 1)) : vx_Met l y_LazyMachine_into (c0_LazyMachine_into :: wx) lx_rm (va_Pc [.ref (ad 0), .int x] (lm_pre (dC, dI) classes [(cA, .int)] (lz_W cA ad M) sz (lx_E sa (va_A (lz_W cA ad M) sz)))) (lx_Ni (va_A (lz_W cA ad M) sz)) (lx_X X_IAE (dC, dI) classes [(cA, .int)] (va_A (lz_W cA ad M) sz) (lz_W cA ad M)) 1 6 (va_A (lz_W cA ad M) sz) := by
  obtain ⟨⟨ss, sp, fo, ba, no, en, vs, vf, vg⟩, SM, PM, XM, YM⟩ := M
  refine lx_met (fun A => lx_Ni A) (fun A => lx_X X_IAE (dC, dI) classes [(cA, .int)] A (lz_W cA ad ((ss, sp, fo, ba, no, en, vs, vf, vg), SM, PM, XM, YM))) (by decide) rfl (Nat.le_of_ble_eq_true rfl) ?_
  intro p e s m below meth c A hx hb hr hts hown hlocks hname hml htb hK hP hD hA hE hsz hAe hS ls hl
  replace hl : lv_has ls 2 [(0, .ref (ad 0)), (1, .int x)] := hl
  rw [← hsz, ← hAe] at hE
  clear hAe hsz
  refine lv_aload_n hx hb d_LazyMachine_into_0 rfl (lv_at hl 0 rfl) ?_
  refine va_get (D := (dC, dI)) (ci := 0) (v := .int ss) (C := R_LazyMachine) (T := F_LazyMachine) (N := 13) hx hb hts (fun q hq => List.mem_cons_of_mem _ (wx_wd _ (i_LazyMachine q hq))) hown hK hP 0 rfl rfl 4 (by decide) (hts _ (List.mem_cons_of_mem _ (wx_wd _ m_2_11))) (fun _ h9 => h9) rfl d_LazyMachine_into_1 ?_
  refine lv_iconst (v := 2) hx hb d_LazyMachine_into_4 (by decide) ?_
  refine lv_icmp_ne hx hb d_LazyMachine_into_5 rfl (fun h5 => by exact absurd hs h5) (fun h5 => ?_)
  refine lv_aload_n hx hb d_LazyMachine_into_8 rfl (lv_at hl 0 rfl) ?_
  refine va_get (D := (dC, dI)) (ci := 0) (v := .int vs) (C := R_LazyMachine) (T := F_LazyMachine) (N := 13) hx hb hts (fun q hq => List.mem_cons_of_mem _ (wx_wd _ (i_LazyMachine q hq))) hown hK hP 0 rfl rfl 10 (by decide) (hts _ (List.mem_cons_of_mem _ (wx_wd _ m_2_17))) (fun _ h9 => h9) rfl d_LazyMachine_into_9 ?_
  refine lv_iconst (v := 2) hx hb d_LazyMachine_into_12 (by decide) ?_
  refine lv_icmp_eq hx hb d_LazyMachine_into_13 rfl (fun h13 => ?_) (fun h13 => by exact absurd hv h13)
  refine lv_iload_n hx hb d_LazyMachine_into_26 rfl (lv_at hl 1 rfl) ?_
  refine lv_if_eq hx hb d_LazyMachine_into_27 rfl (fun h27 => by exact absurd (Or.inl h27) hk) (fun h27 => ?_)
  refine lv_iload_n hx hb d_LazyMachine_into_30 rfl (lv_at hl 1 rfl) ?_
  refine lv_iconst (v := 1) hx hb d_LazyMachine_into_31 (by decide) ?_
  refine lv_icmp_eq hx hb d_LazyMachine_into_32 rfl (fun h32 => by exact absurd (Or.inr h32) hk) (fun h32 => ?_)
  exact lx_thrA hx hb hl0 hown (fun w h => hts w (List.mem_cons_of_mem _ h)) hE 6 rfl hK hP hD hS (hl.1.trans hml.symm) d_LazyMachine_into_35 d_LazyMachine_into_38 d_LazyMachine_into_39 d_LazyMachine_into_41 d_LazyMachine_into_44 htb ⟨Nat.le_of_ble_eq_true rfl, Nat.le_of_ble_eq_true rfl, Nat.le_of_ble_eq_true rfl, Nat.le_of_ble_eq_true rfl⟩ hlocks
set_option maxHeartbeats 4000000 in
set_option maxRecDepth 100000 in
theorem x_LazyMachine_put (l : Launch) (hl0 : l.stackTraces = false) (dC : Nat → ClassId) (dI : Nat → Nat → Nat) (cA : ClassId) (sa : Nat → Nat) (ad : Nat → Nat) (sz : Nat) (M : ZMS) (x1 x2 : Int32) (hb1 : ¬ vp_in x1 14 ∨ ma_may x1 x2 = 0) : vx_Met l y_LazyMachine_put (c0_LazyMachine_put :: wx) lx_rm (va_Pc [.ref (ad 0), .int x1, .int x2] (lm_pre (dC, dI) classes [(cA, .int)] (lz_W cA ad M) sz (lx_E sa (va_A (lz_W cA ad M) sz)))) (lx_Ni (va_A (lz_W cA ad M) sz)) (lx_X X_IAE (dC, dI) classes [(cA, .int)] (va_A (lz_W cA ad M) sz) (lz_W cA ad M)) 1 6 (va_A (lz_W cA ad M) sz) := by
  obtain ⟨⟨ss, sp, fo, ba, no, en, vs, vf, vg⟩, SM, PM, XM, YM⟩ := M
  refine lx_met (fun A => lx_Ni A) (fun A => lx_X X_IAE (dC, dI) classes [(cA, .int)] A (lz_W cA ad ((ss, sp, fo, ba, no, en, vs, vf, vg), SM, PM, XM, YM))) (by decide) rfl (Nat.le_of_ble_eq_true rfl) ?_
  intro p e s m below meth c A hx hb hr hts hown hlocks hname hml htb hK hP hD hA hE hsz hAe hS ls hl
  replace hl : lv_has ls 3 [(0, .ref (ad 0)), (1, .int x1), (2, .int x2)] := hl
  rw [← hsz, ← hAe] at hE
  clear hAe hsz
  refine lv_iload_n hx hb d_LazyMachine_put_0 rfl (lv_at hl 1 rfl) ?_
  refine lv_if_lt hx hb d_LazyMachine_put_1 rfl (fun h1 => ?_) (fun h1 => ?_)
  · exact lx_thrA hx hb hl0 hown (fun w h => hts w (List.mem_cons_of_mem _ h)) hE 0 rfl hK hP hD hS (hl.1.trans hml.symm) d_LazyMachine_put_10 d_LazyMachine_put_13 d_LazyMachine_put_14 d_LazyMachine_put_16 d_LazyMachine_put_19 htb ⟨Nat.le_of_ble_eq_true rfl, Nat.le_of_ble_eq_true rfl, Nat.le_of_ble_eq_true rfl, Nat.le_of_ble_eq_true rfl⟩ hlocks
  · refine lv_iload_n hx hb d_LazyMachine_put_4 rfl (lv_at hl 1 rfl) ?_
    refine lv_bipush (v := 13) hx hb d_LazyMachine_put_5 (by decide) ?_
    refine lv_icmp_le hx hb d_LazyMachine_put_7 rfl (fun h7 => ?_) (fun h7 => ?_)
    · have hx2 : ma_may x1 x2 = 0 := hb1.resolve_left (fun q => q (lx_in14 h1 h7))
      refine lv_iload_n hx hb d_LazyMachine_put_20 rfl (lv_at hl 1 rfl) ?_
      refine lv_iload_n hx hb d_LazyMachine_put_21 rfl (lv_at hl 2 rfl) ?_
      refine lm_si (As := [.int x1, .int x2]) (rest := []) (wr := lz_W cA ad ((ss, sp, fo, ba, no, en, vs, vf, vg), SM, PM, XM, YM)) ⟨hx, hb, hml, hown, hts⟩ hK hP hD hS hA [] [0, 1, 2, 3, 4, 5, 6, 7, 8, 9, 10, 11, 12, 13, 14, 15, 16, 17, 18, 19, 20, 21, 22, 23, 24, 25] rfl rfl (by decide) (by decide) (by decide) (c_LazyMachine_mayBear l dC dI cA _ x1 x2) (cwS 2 hts (lx_gS wx_wd (wx_wd _ m_6_12) (wx_wd _ m_6_13) (wx_wd _ m_0_1) (wx_wd _ m_6_14)) rfl rfl rfl (by decide +kernel) ⟨Nat.le_of_ble_eq_true rfl, Nat.le_of_ble_eq_true rfl⟩) lm_bl_no (fun _ _ _ => trivial) hl.1 rfl rfl (Nat.le_of_ble_eq_true rfl) d_LazyMachine_put_22 ⟨Nat.le_of_ble_eq_true rfl, Nat.le_of_ble_eq_true rfl⟩ (fun r22 u22 H locs w22 hP hD hS => ?_)
      obtain ⟨e_r22, w22⟩ := w22
      have hP : va_P (dC, dI) classes (lz_W cA ad ((ss, sp, fo, ba, no, en, vs, vf, vg), SM, PM, XM, YM)) H := hP
      have hD : va_D A (lz_W cA ad ((ss, sp, fo, ba, no, en, vs, vf, vg), SM, PM, XM, YM)) := hD
      refine lv_if_ne hx hb d_LazyMachine_put_25 rfl (fun h25 => by exact absurd (by rw [e_r22]; exact hx2) h25) (fun h25 => ?_)
      exact lx_thrA hx hb hl0 hown (fun w h => hts w (List.mem_cons_of_mem _ h)) hE 1 rfl hK hP hD hS (hl.1.trans hml.symm) d_LazyMachine_put_28 d_LazyMachine_put_31 d_LazyMachine_put_32 d_LazyMachine_put_34 d_LazyMachine_put_37 htb ⟨Nat.le_of_ble_eq_true rfl, Nat.le_of_ble_eq_true rfl, Nat.le_of_ble_eq_true rfl, Nat.le_of_ble_eq_true rfl⟩ hlocks
    · exact lx_thrA hx hb hl0 hown (fun w h => hts w (List.mem_cons_of_mem _ h)) hE 0 rfl hK hP hD hS (hl.1.trans hml.symm) d_LazyMachine_put_10 d_LazyMachine_put_13 d_LazyMachine_put_14 d_LazyMachine_put_16 d_LazyMachine_put_19 htb ⟨Nat.le_of_ble_eq_true rfl, Nat.le_of_ble_eq_true rfl, Nat.le_of_ble_eq_true rfl, Nat.le_of_ble_eq_true rfl⟩ hlocks
