set_option maxHeartbeats 4000000 in
set_option maxRecDepth 100000 in
theorem c_LazyMachine_enter (l : Launch) (dC : Nat → ClassId) (dI : Nat → Nat → Nat) (cA : ClassId)  (ad : Nat → Nat) (sz : Nat) (M : ZMS) (x1 x2 : Int32)  : Met l y_LazyMachine_enter w_LazyMachine_enter ({ frames := 0, cells := 0, slots := 0, locals := 0 } : Room) (va_Pc [.ref (ad 0), .int x1, .int x2] (lm_pre (dC, dI) classes [(cA, .int)] (lz_W cA ad M) sz lm_no)) (va_Qv (fun (u : ZMS) => u = ma_enter M x1 x2) (fun u => lm_at (dC, dI) classes [(cA, .int)] (va_A (lz_W cA ad M) sz) (lz_W cA ad u)) (va_A (lz_W cA ad M) sz)) 0 0 (va_A (lz_W cA ad M) sz) := by
  obtain ⟨⟨ss, sp, fo, ba, no, en, vs, vf, vg⟩, SM, PM, XM, YM⟩ := M
  refine lm_met (fun A => va_Qv (fun (u : ZMS) => u = ma_enter ((ss, sp, fo, ba, no, en, vs, vf, vg), SM, PM, XM, YM) x1 x2) (fun u => lm_at (dC, dI) classes [(cA, .int)] A (lz_W cA ad u)) A) (by decide) rfl (Nat.le_of_ble_eq_true rfl) ?_
  intro p e s m below meth c A hx hb hr hts hown hlocks hname hml hK hP hD hA hE hsz hAe hS ls hl
  replace hl : lv_has ls 3 [(0, .ref (ad 0)), (1, .int x1), (2, .int x2)] := hl
  clear hAe hsz
  refine lv_aload_n hx hb d_LazyMachine_enter_0 rfl (lv_at hl 0 rfl) ?_
  refine lv_iconst (v := 0) hx hb d_LazyMachine_enter_1 (by decide) ?_
  refine va_put (D := (dC, dI)) (ci := 0) (v := .int 0) (ty := .boolean) (C := R_LazyMachine) (T := F_LazyMachine) (N := 13) hx hb hts (fun q hq => List.mem_cons_of_mem _ (i_LazyMachine q hq)) t_LazyMachine t_LazyMachine_ok n_LazyMachine hown hK hP hD hS 0 rfl rfl 7 (by decide) (hts _ (List.mem_cons_of_mem _ m_2_14)) (fun _ h9 => h9) rfl (by decide +kernel) (by decide +kernel) (by decide +kernel) (Nat.le_of_ble_eq_true rfl) d_LazyMachine_enter_2 (fun H locs hP hD hS => ?_)
  have hP : va_P (dC, dI) classes (lz_W cA ad ((ss, sp, fo, 0, no, en, vs, vf, vg), SM, PM, XM, YM)) H := hP
  have hD : va_D A (lz_W cA ad ((ss, sp, fo, 0, no, en, vs, vf, vg), SM, PM, XM, YM)) := hD
  refine lv_aload_n hx hb d_LazyMachine_enter_5 rfl (lv_at hl 0 rfl) ?_
  refine lv_iload_n hx hb d_LazyMachine_enter_6 rfl (lv_at hl 1 rfl) ?_
  refine va_put (D := (dC, dI)) (ci := 0) (v := .int x1) (ty := .int) (C := R_LazyMachine) (T := F_LazyMachine) (N := 13) hx hb hts (fun q hq => List.mem_cons_of_mem _ (i_LazyMachine q hq)) t_LazyMachine t_LazyMachine_ok n_LazyMachine hown hK hP hD hS 0 rfl rfl 8 (by decide) (hts _ (List.mem_cons_of_mem _ m_2_15)) (fun _ h9 => h9) rfl (by decide +kernel) rfl rfl (Nat.le_of_ble_eq_true rfl) d_LazyMachine_enter_7 (fun H locs hP hD hS => ?_)
  have hP : va_P (dC, dI) classes (lz_W cA ad ((ss, sp, fo, 0, x1, en, vs, vf, vg), SM, PM, XM, YM)) H := hP
  have hD : va_D A (lz_W cA ad ((ss, sp, fo, 0, x1, en, vs, vf, vg), SM, PM, XM, YM)) := hD
  refine lv_aload_n hx hb d_LazyMachine_enter_10 rfl (lv_at hl 0 rfl) ?_
  refine lv_iload_n hx hb d_LazyMachine_enter_11 rfl (lv_at hl 2 rfl) ?_
  refine va_put (D := (dC, dI)) (ci := 0) (v := .int x2) (ty := .int) (C := R_LazyMachine) (T := F_LazyMachine) (N := 13) hx hb hts (fun q hq => List.mem_cons_of_mem _ (i_LazyMachine q hq)) t_LazyMachine t_LazyMachine_ok n_LazyMachine hown hK hP hD hS 0 rfl rfl 9 (by decide) (hts _ (List.mem_cons_of_mem _ m_2_16)) (fun _ h9 => h9) rfl (by decide +kernel) rfl rfl (Nat.le_of_ble_eq_true rfl) d_LazyMachine_enter_12 (fun H locs hP hD hS => ?_)
  have hP : va_P (dC, dI) classes (lz_W cA ad ((ss, sp, fo, 0, x1, x2, vs, vf, vg), SM, PM, XM, YM)) H := hP
  have hD : va_D A (lz_W cA ad ((ss, sp, fo, 0, x1, x2, vs, vf, vg), SM, PM, XM, YM)) := hD
  refine lm_rv hx hb hr hlocks ((ss, sp, fo, 0, x1, x2, vs, vf, vg), SM, PM, XM, YM) ?_ hP hK hD hS d_LazyMachine_enter_15
  rfl
set_option maxHeartbeats 4000000 in
set_option maxRecDepth 100000 in
theorem c_LazyMachine_backWith (l : Launch) (dC : Nat → ClassId) (dI : Nat → Nat → Nat) (cA : ClassId)  (ad : Nat → Nat) (sz : Nat) (M : ZMS) (x1 x2 x3 : Int32)  : Met l y_LazyMachine_backWith w_LazyMachine_backWith ({ frames := 0, cells := 0, slots := 0, locals := 0 } : Room) (va_Pc [.ref (ad 0), .int x1, .int x2, .int x3] (lm_pre (dC, dI) classes [(cA, .int)] (lz_W cA ad M) sz lm_no)) (va_Qi (fun (r : Int32) (u : ZMS) => r = 1 ∧ u = ma_back M x1 x2 x3) (fun u => lm_at (dC, dI) classes [(cA, .int)] (va_A (lz_W cA ad M) sz) (lz_W cA ad u)) (va_A (lz_W cA ad M) sz)) 0 0 (va_A (lz_W cA ad M) sz) := by
  obtain ⟨⟨ss, sp, fo, ba, no, en, vs, vf, vg⟩, SM, PM, XM, YM⟩ := M
  refine lm_met (fun A => va_Qi (fun (r : Int32) (u : ZMS) => r = 1 ∧ u = ma_back ((ss, sp, fo, ba, no, en, vs, vf, vg), SM, PM, XM, YM) x1 x2 x3) (fun u => lm_at (dC, dI) classes [(cA, .int)] A (lz_W cA ad u)) A) (by decide) rfl (Nat.le_of_ble_eq_true rfl) ?_
  intro p e s m below meth c A hx hb hr hts hown hlocks hname hml hK hP hD hA hE hsz hAe hS ls hl
  replace hl : lv_has ls 4 [(0, .ref (ad 0)), (1, .int x1), (2, .int x2), (3, .int x3)] := hl
  clear hAe hsz
  refine lv_aload_n hx hb d_LazyMachine_backWith_0 rfl (lv_at hl 0 rfl) ?_
  refine lv_iconst (v := 1) hx hb d_LazyMachine_backWith_1 (by decide) ?_
  refine va_put (D := (dC, dI)) (ci := 0) (v := .int 1) (ty := .boolean) (C := R_LazyMachine) (T := F_LazyMachine) (N := 13) hx hb hts (fun q hq => List.mem_cons_of_mem _ (i_LazyMachine q hq)) t_LazyMachine t_LazyMachine_ok n_LazyMachine hown hK hP hD hS 0 rfl rfl 7 (by decide) (hts _ (List.mem_cons_of_mem _ m_2_14)) (fun _ h9 => h9) rfl (by decide +kernel) (by decide +kernel) (by decide +kernel) (Nat.le_of_ble_eq_true rfl) d_LazyMachine_backWith_2 (fun H locs hP hD hS => ?_)
  have hP : va_P (dC, dI) classes (lz_W cA ad ((ss, sp, fo, 1, no, en, vs, vf, vg), SM, PM, XM, YM)) H := hP
  have hD : va_D A (lz_W cA ad ((ss, sp, fo, 1, no, en, vs, vf, vg), SM, PM, XM, YM)) := hD
  refine lv_aload_n hx hb d_LazyMachine_backWith_5 rfl (lv_at hl 0 rfl) ?_
  refine lv_iload_n hx hb d_LazyMachine_backWith_6 rfl (lv_at hl 1 rfl) ?_
  refine va_put (D := (dC, dI)) (ci := 0) (v := .int x1) (ty := .int) (C := R_LazyMachine) (T := F_LazyMachine) (N := 13) hx hb hts (fun q hq => List.mem_cons_of_mem _ (i_LazyMachine q hq)) t_LazyMachine t_LazyMachine_ok n_LazyMachine hown hK hP hD hS 0 rfl rfl 10 (by decide) (hts _ (List.mem_cons_of_mem _ m_2_17)) (fun _ h9 => h9) rfl (by decide +kernel) rfl rfl (Nat.le_of_ble_eq_true rfl) d_LazyMachine_backWith_7 (fun H locs hP hD hS => ?_)
  have hP : va_P (dC, dI) classes (lz_W cA ad ((ss, sp, fo, 1, no, en, x1, vf, vg), SM, PM, XM, YM)) H := hP
  have hD : va_D A (lz_W cA ad ((ss, sp, fo, 1, no, en, x1, vf, vg), SM, PM, XM, YM)) := hD
  refine lv_aload_n hx hb d_LazyMachine_backWith_10 rfl (lv_at hl 0 rfl) ?_
  refine lv_iload_n hx hb d_LazyMachine_backWith_11 rfl (lv_at hl 2 rfl) ?_
  refine va_put (D := (dC, dI)) (ci := 0) (v := .int x2) (ty := .int) (C := R_LazyMachine) (T := F_LazyMachine) (N := 13) hx hb hts (fun q hq => List.mem_cons_of_mem _ (i_LazyMachine q hq)) t_LazyMachine t_LazyMachine_ok n_LazyMachine hown hK hP hD hS 0 rfl rfl 11 (by decide) (hts _ (List.mem_cons_of_mem _ m_2_18)) (fun _ h9 => h9) rfl (by decide +kernel) rfl rfl (Nat.le_of_ble_eq_true rfl) d_LazyMachine_backWith_12 (fun H locs hP hD hS => ?_)
  have hP : va_P (dC, dI) classes (lz_W cA ad ((ss, sp, fo, 1, no, en, x1, x2, vg), SM, PM, XM, YM)) H := hP
  have hD : va_D A (lz_W cA ad ((ss, sp, fo, 1, no, en, x1, x2, vg), SM, PM, XM, YM)) := hD
  refine lv_aload_n hx hb d_LazyMachine_backWith_15 rfl (lv_at hl 0 rfl) ?_
  refine lv_iload_n hx hb d_LazyMachine_backWith_16 rfl (lv_at hl 3 rfl) ?_
  refine va_put (D := (dC, dI)) (ci := 0) (v := .int x3) (ty := .int) (C := R_LazyMachine) (T := F_LazyMachine) (N := 13) hx hb hts (fun q hq => List.mem_cons_of_mem _ (i_LazyMachine q hq)) t_LazyMachine t_LazyMachine_ok n_LazyMachine hown hK hP hD hS 0 rfl rfl 12 (by decide) (hts _ (List.mem_cons_of_mem _ m_2_19)) (fun _ h9 => h9) rfl (by decide +kernel) rfl rfl (Nat.le_of_ble_eq_true rfl) d_LazyMachine_backWith_17 (fun H locs hP hD hS => ?_)
  have hP : va_P (dC, dI) classes (lz_W cA ad ((ss, sp, fo, 1, no, en, x1, x2, x3), SM, PM, XM, YM)) H := hP
  have hD : va_D A (lz_W cA ad ((ss, sp, fo, 1, no, en, x1, x2, x3), SM, PM, XM, YM)) := hD
  refine lv_iconst (v := 1) hx hb d_LazyMachine_backWith_20 (by decide) ?_
  refine lm_ri (v := 1) hx hb hr hlocks ((ss, sp, fo, 1, no, en, x1, x2, x3), SM, PM, XM, YM) ?_ hP hK hD hS d_LazyMachine_backWith_21
  exact ⟨rfl, rfl⟩
set_option maxHeartbeats 4000000 in
set_option maxRecDepth 100000 in
theorem c_LazyMachine_begin (l : Launch) (dC : Nat → ClassId) (dI : Nat → Nat → Nat) (cA : ClassId)  (ad : Nat → Nat) (sz : Nat) (M : ZMS) (x : Int32)  : Met l y_LazyMachine_begin w_LazyMachine_begin ({ frames := 2, cells := 0, slots := 0, locals := 41 } : Room) (va_Pc [.ref (ad 0), .int x] (lm_pre (dC, dI) classes [(cA, .int)] (lz_W cA ad M) sz lm_no)) (va_Qv (fun (u : ZMS) => u = ma_begin M x) (fun u => lm_at (dC, dI) classes [(cA, .int)] (va_A (lz_W cA ad M) sz) (lz_W cA ad u)) (va_A (lz_W cA ad M) sz)) 0 0 (va_A (lz_W cA ad M) sz) := by
  obtain ⟨⟨ss, sp, fo, ba, no, en, vs, vf, vg⟩, SM, PM, XM, YM⟩ := M
  refine lm_met (fun A => va_Qv (fun (u : ZMS) => u = ma_begin ((ss, sp, fo, ba, no, en, vs, vf, vg), SM, PM, XM, YM) x) (fun u => lm_at (dC, dI) classes [(cA, .int)] A (lz_W cA ad u)) A) (by decide) rfl (Nat.le_of_ble_eq_true rfl) ?_
  intro p e s m below meth c A hx hb hr hts hown hlocks hname hml hK hP hD hA hE hsz hAe hS ls hl
  replace hl : lv_has ls 2 [(0, .ref (ad 0)), (1, .int x)] := hl
  clear hAe hsz
  refine lv_aload_n hx hb d_LazyMachine_begin_0 rfl (lv_at hl 0 rfl) ?_
  refine va_get (D := (dC, dI)) (ci := 0) (v := .ref (ad 1)) (C := R_LazyMachine) (T := F_LazyMachine) (N := 13) hx hb hts (fun q hq => List.mem_cons_of_mem _ (i_LazyMachine q hq)) hown hK hP 0 rfl rfl 0 (by decide) (hts _ (List.mem_cons_of_mem _ m_2_7)) (fun _ h9 => h9) rfl d_LazyMachine_begin_1 ?_
  refine lm_vv (b := ad 1) (As := []) (rest := []) (wr := (ma_W cA ad (ss, sp, fo, ba, no, en, vs, vf, vg)) ++ (pl_W cA (fun k => ad (k + 8)) PM) ++ (tm_W cA (fun k => ad (k + 12)) XM) ++ (tm_W cA (fun k => ad (k + 19)) YM)) ⟨hx, hb, hml, hown, hts⟩ hK hP hD hS hA [1, 2, 3, 4, 5, 6, 7] [0, 8, 9, 10, 11, 12, 13, 14, 15, 16, 17, 18, 19, 20, 21, 22, 23, 24, 25] rfl rfl (by decide) (by decide) (by decide) (c_Heap_empty l dC dI cA (fun k => ad (k + 1)) _ SM  ) (cwV 0 hts (lm_gV m_3_17 m_3_18 m_3_19 m_0_2 m_3_20) rfl rfl rfl (by decide +kernel) ⟨Nat.le_of_ble_eq_true rfl, Nat.le_of_ble_eq_true rfl⟩) (va_recv (q0 := 1) hK hP rfl rfl) lm_bl_no (fun _ _ _ => trivial) hl.1 rfl rfl (Nat.le_of_ble_eq_true rfl) d_LazyMachine_begin_4 ⟨Nat.le_of_ble_eq_true rfl, Nat.le_of_ble_eq_true rfl⟩ (fun u4 H locs w4 hP hD hS => ?_)
  have hP : va_P (dC, dI) classes (lz_W cA ad ((ss, sp, fo, ba, no, en, vs, vf, vg), u4, PM, XM, YM)) H := hP.sub [0, 19, 20, 21, 22, 23, 24, 25, 1, 2, 3, 4, 5, 6, 7, 8, 9, 10, 11, 12, 13, 14, 15, 16, 17, 18] rfl
  have hD : va_D A (lz_W cA ad ((ss, sp, fo, ba, no, en, vs, vf, vg), u4, PM, XM, YM)) := hD.sub [0, 19, 20, 21, 22, 23, 24, 25, 1, 2, 3, 4, 5, 6, 7, 8, 9, 10, 11, 12, 13, 14, 15, 16, 17, 18] (by decide) rfl
  refine lv_aload_n hx hb d_LazyMachine_begin_7 rfl (lv_at hl 0 rfl) ?_
  refine va_get (D := (dC, dI)) (ci := 0) (v := .ref (ad 8)) (C := R_LazyMachine) (T := F_LazyMachine) (N := 13) hx hb hts (fun q hq => List.mem_cons_of_mem _ (i_LazyMachine q hq)) hown hK hP 0 rfl rfl 1 (by decide) (hts _ (List.mem_cons_of_mem _ m_2_8)) (fun _ h9 => h9) rfl d_LazyMachine_begin_8 ?_
  refine lm_vv (b := ad 8) (As := []) (rest := []) (wr := (ma_W cA ad (ss, sp, fo, ba, no, en, vs, vf, vg)) ++ (hp_W cA (fun k => ad (k + 1)) u4) ++ (tm_W cA (fun k => ad (k + 12)) XM) ++ (tm_W cA (fun k => ad (k + 19)) YM)) ⟨hx, hb, hml, hown, hts⟩ hK hP hD hS hA [8, 9, 10, 11] [0, 1, 2, 3, 4, 5, 6, 7, 12, 13, 14, 15, 16, 17, 18, 19, 20, 21, 22, 23, 24, 25] rfl rfl (by decide) (by decide) (by decide) (c_Pile_empty l dC dI cA (fun k => ad (k + 8)) _ PM  ) (cwV 0 hts (lm_gV m_4_5 m_4_6 m_4_7 m_0_3 m_4_8) rfl rfl rfl (by decide +kernel) ⟨Nat.le_of_ble_eq_true rfl, Nat.le_of_ble_eq_true rfl⟩) (va_recv (q0 := 8) hK hP rfl rfl) lm_bl_no (fun _ _ _ => trivial) hl.1 rfl rfl (Nat.le_of_ble_eq_true rfl) d_LazyMachine_begin_11 ⟨Nat.le_of_ble_eq_true rfl, Nat.le_of_ble_eq_true rfl⟩ (fun u11 H locs w11 hP hD hS => ?_)
  have hP : va_P (dC, dI) classes (lz_W cA ad ((ss, sp, fo, ba, no, en, vs, vf, vg), u4, u11, XM, YM)) H := hP.sub [0, 1, 2, 3, 4, 5, 6, 7, 22, 23, 24, 25, 8, 9, 10, 11, 12, 13, 14, 15, 16, 17, 18, 19, 20, 21] rfl
  have hD : va_D A (lz_W cA ad ((ss, sp, fo, ba, no, en, vs, vf, vg), u4, u11, XM, YM)) := hD.sub [0, 1, 2, 3, 4, 5, 6, 7, 22, 23, 24, 25, 8, 9, 10, 11, 12, 13, 14, 15, 16, 17, 18, 19, 20, 21] (by decide) rfl
  refine lv_aload_n hx hb d_LazyMachine_begin_14 rfl (lv_at hl 0 rfl) ?_
  refine lv_iconst (v := 0) hx hb d_LazyMachine_begin_15 (by decide) ?_
  refine va_put (D := (dC, dI)) (ci := 0) (v := .int 0) (ty := .int) (C := R_LazyMachine) (T := F_LazyMachine) (N := 13) hx hb hts (fun q hq => List.mem_cons_of_mem _ (i_LazyMachine q hq)) t_LazyMachine t_LazyMachine_ok n_LazyMachine hown hK hP hD hS 0 rfl rfl 5 (by decide) (hts _ (List.mem_cons_of_mem _ m_2_12)) (fun _ h9 => h9) rfl (by decide +kernel) rfl rfl (Nat.le_of_ble_eq_true rfl) d_LazyMachine_begin_16 (fun H locs hP hD hS => ?_)
  have hP : va_P (dC, dI) classes (lz_W cA ad ((ss, 0, fo, ba, no, en, vs, vf, vg), u4, u11, XM, YM)) H := hP
  have hD : va_D A (lz_W cA ad ((ss, 0, fo, ba, no, en, vs, vf, vg), u4, u11, XM, YM)) := hD
  refine lv_aload_n hx hb d_LazyMachine_begin_19 rfl (lv_at hl 0 rfl) ?_
  refine lv_iconst (v := 0) hx hb d_LazyMachine_begin_20 (by decide) ?_
  refine va_put (D := (dC, dI)) (ci := 0) (v := .int 0) (ty := .int) (C := R_LazyMachine) (T := F_LazyMachine) (N := 13) hx hb hts (fun q hq => List.mem_cons_of_mem _ (i_LazyMachine q hq)) t_LazyMachine t_LazyMachine_ok n_LazyMachine hown hK hP hD hS 0 rfl rfl 6 (by decide) (hts _ (List.mem_cons_of_mem _ m_2_13)) (fun _ h9 => h9) rfl (by decide +kernel) rfl rfl (Nat.le_of_ble_eq_true rfl) d_LazyMachine_begin_21 (fun H locs hP hD hS => ?_)
  have hP : va_P (dC, dI) classes (lz_W cA ad ((ss, 0, 0, ba, no, en, vs, vf, vg), u4, u11, XM, YM)) H := hP
  have hD : va_D A (lz_W cA ad ((ss, 0, 0, ba, no, en, vs, vf, vg), u4, u11, XM, YM)) := hD
  refine lv_aload_n hx hb d_LazyMachine_begin_24 rfl (lv_at hl 0 rfl) ?_
  refine lv_iload_n hx hb d_LazyMachine_begin_25 rfl (lv_at hl 1 rfl) ?_
  refine va_put (D := (dC, dI)) (ci := 0) (v := .int x) (ty := .int) (C := R_LazyMachine) (T := F_LazyMachine) (N := 13) hx hb hts (fun q hq => List.mem_cons_of_mem _ (i_LazyMachine q hq)) t_LazyMachine t_LazyMachine_ok n_LazyMachine hown hK hP hD hS 0 rfl rfl 4 (by decide) (hts _ (List.mem_cons_of_mem _ m_2_11)) (fun _ h9 => h9) rfl (by decide +kernel) rfl rfl (Nat.le_of_ble_eq_true rfl) d_LazyMachine_begin_26 (fun H locs hP hD hS => ?_)
  have hP : va_P (dC, dI) classes (lz_W cA ad ((x, 0, 0, ba, no, en, vs, vf, vg), u4, u11, XM, YM)) H := hP
  have hD : va_D A (lz_W cA ad ((x, 0, 0, ba, no, en, vs, vf, vg), u4, u11, XM, YM)) := hD
  refine lv_aload_n hx hb d_LazyMachine_begin_29 rfl (lv_at hl 0 rfl) ?_
  refine lv_iconst (v := 0) hx hb d_LazyMachine_begin_30 (by decide) ?_
  refine lv_iconst (v := -1) hx hb d_LazyMachine_begin_31 (by decide) ?_
  refine lm_vv (b := ad 0) (As := [.int 0, .int (-1)]) (rest := []) (wr := ([] : va_W)) ⟨hx, hb, hml, hown, hts⟩ hK hP hD hS hA [0, 1, 2, 3, 4, 5, 6, 7, 8, 9, 10, 11, 12, 13, 14, 15, 16, 17, 18, 19, 20, 21, 22, 23, 24, 25] [] rfl rfl (by decide) (by decide) (by decide) (c_LazyMachine_enter l dC dI cA ad _ ((x, 0, 0, ba, no, en, vs, vf, vg), u4, u11, XM, YM) 0 (-1) ) (cwV 2 hts (lm_gV m_4_9 m_4_10 m_19_6 m_0_1 m_4_11) rfl rfl rfl (by decide +kernel) ⟨Nat.le_of_ble_eq_true rfl, Nat.le_of_ble_eq_true rfl⟩) (va_recv (q0 := 0) hK hP rfl rfl) lm_bl_no (fun _ _ _ => trivial) hl.1 rfl rfl (Nat.le_of_ble_eq_true rfl) d_LazyMachine_begin_32 ⟨Nat.le_of_ble_eq_true rfl, Nat.le_of_ble_eq_true rfl⟩ (fun u32 H locs w32 hP hD hS => ?_)
  have w32 : u32 = ((x, 0, 0, 0, 0, (-1), vs, vf, vg), u4, u11, XM, YM) := w32
  subst w32
  have hP : va_P (dC, dI) classes (lz_W cA ad ((x, 0, 0, 0, 0, (-1), vs, vf, vg), u4, u11, XM, YM)) H := hP
  have hD : va_D A (lz_W cA ad ((x, 0, 0, 0, 0, (-1), vs, vf, vg), u4, u11, XM, YM)) := hD
  refine lm_rv hx hb hr hlocks ((x, 0, 0, 0, 0, (-1), vs, vf, vg), u4, u11, XM, YM) ?_ hP hK hD hS d_LazyMachine_begin_35
  subst w4 w11; rfl
set_option maxHeartbeats 4000000 in
set_option maxRecDepth 100000 in
theorem c_LazyMachine_markRoots (l : Launch) (dC : Nat → ClassId) (dI : Nat → Nat → Nat) (cA : ClassId)  (ad : Nat → Nat) (sz : Nat) (M : ZMS)  (hi : ma_lo M) : Met l y_LazyMachine_markRoots w_LazyMachine_markRoots ({ frames := 2, cells := 0, slots := 0, locals := 44 } : Room) (va_Pc [.ref (ad 0)] (lm_pre (dC, dI) classes [(cA, .int)] (lz_W cA ad M) sz lm_no)) (va_Qv (fun (u : ZMS) => u = ma_setH M (ma_roots M)) (fun u => lm_at (dC, dI) classes [(cA, .int)] (va_A (lz_W cA ad M) sz) (lz_W cA ad u)) (va_A (lz_W cA ad M) sz)) 0 0 (va_A (lz_W cA ad M) sz) := by
  obtain ⟨⟨ss, sp, fo, ba, no, en, vs, vf, vg⟩, SM, PM, XM, YM⟩ := M
  refine lm_met (fun A => va_Qv (fun (u : ZMS) => u = ma_setH ((ss, sp, fo, ba, no, en, vs, vf, vg), SM, PM, XM, YM) (ma_roots ((ss, sp, fo, ba, no, en, vs, vf, vg), SM, PM, XM, YM))) (fun u => lm_at (dC, dI) classes [(cA, .int)] A (lz_W cA ad u)) A) (by decide) rfl (Nat.le_of_ble_eq_true rfl) ?_
  intro p e s m below meth c A hx hb hr hts hown hlocks hname hml hK hP hD hA hE hsz hAe hS ls hl
  replace hl : lv_has ls 1 [(0, .ref (ad 0))] := hl
  clear hAe hsz
  refine lv_aload_n hx hb d_LazyMachine_markRoots_0 rfl (lv_at hl 0 rfl) ?_
  refine va_get (D := (dC, dI)) (ci := 0) (v := .ref (ad 1)) (C := R_LazyMachine) (T := F_LazyMachine) (N := 13) hx hb hts (fun q hq => List.mem_cons_of_mem _ (i_LazyMachine q hq)) hown hK hP 0 rfl rfl 0 (by decide) (hts _ (List.mem_cons_of_mem _ m_2_7)) (fun _ h9 => h9) rfl d_LazyMachine_markRoots_1 ?_
  refine lm_vv (b := ad 1) (As := []) (rest := []) (wr := (ma_W cA ad (ss, sp, fo, ba, no, en, vs, vf, vg)) ++ (pl_W cA (fun k => ad (k + 8)) PM) ++ (tm_W cA (fun k => ad (k + 12)) XM) ++ (tm_W cA (fun k => ad (k + 19)) YM)) ⟨hx, hb, hml, hown, hts⟩ hK hP hD hS hA [1, 2, 3, 4, 5, 6, 7] [0, 8, 9, 10, 11, 12, 13, 14, 15, 16, 17, 18, 19, 20, 21, 22, 23, 24, 25] rfl rfl (by decide) (by decide) (by decide) (c_Heap_beginMarks l dC dI cA (fun k => ad (k + 1)) _ SM  ) (cwV 0 hts (lm_gV m_5_3 m_3_22 m_3_23 m_0_2 m_4_0) rfl rfl rfl (by decide +kernel) ⟨Nat.le_of_ble_eq_true rfl, Nat.le_of_ble_eq_true rfl⟩) (va_recv (q0 := 1) hK hP rfl rfl) lm_bl_no (fun _ _ _ => trivial) hl.1 rfl rfl (Nat.le_of_ble_eq_true rfl) d_LazyMachine_markRoots_4 ⟨Nat.le_of_ble_eq_true rfl, Nat.le_of_ble_eq_true rfl⟩ (fun u4 H locs w4 hP hD hS => ?_)
  have hP : va_P (dC, dI) classes (lz_W cA ad ((ss, sp, fo, ba, no, en, vs, vf, vg), u4, PM, XM, YM)) H := hP.sub [0, 19, 20, 21, 22, 23, 24, 25, 1, 2, 3, 4, 5, 6, 7, 8, 9, 10, 11, 12, 13, 14, 15, 16, 17, 18] rfl
  have hD : va_D A (lz_W cA ad ((ss, sp, fo, ba, no, en, vs, vf, vg), u4, PM, XM, YM)) := hD.sub [0, 19, 20, 21, 22, 23, 24, 25, 1, 2, 3, 4, 5, 6, 7, 8, 9, 10, 11, 12, 13, 14, 15, 16, 17, 18] (by decide) rfl
  refine lv_aload_n hx hb d_LazyMachine_markRoots_7 rfl (lv_at hl 0 rfl) ?_
  refine va_get (D := (dC, dI)) (ci := 0) (v := .int ba) (C := R_LazyMachine) (T := F_LazyMachine) (N := 13) hx hb hts (fun q hq => List.mem_cons_of_mem _ (i_LazyMachine q hq)) hown hK hP 0 rfl rfl 7 (by decide) (hts _ (List.mem_cons_of_mem _ m_2_14)) (fun _ h9 => h9) rfl d_LazyMachine_markRoots_8 ?_
  refine lv_if_eq hx hb d_LazyMachine_markRoots_11 rfl (fun h11 => ?_) (fun h11 => ?_)
  · refine lv_aload_n hx hb d_LazyMachine_markRoots_36 rfl (lv_at hl 0 rfl) ?_
    refine va_get (D := (dC, dI)) (ci := 0) (v := .ref (ad 1)) (C := R_LazyMachine) (T := F_LazyMachine) (N := 13) hx hb hts (fun q hq => List.mem_cons_of_mem _ (i_LazyMachine q hq)) hown hK hP 0 rfl rfl 0 (by decide) (hts _ (List.mem_cons_of_mem _ m_2_7)) (fun _ h9 => h9) rfl d_LazyMachine_markRoots_37 ?_
    refine lv_aload_n hx hb d_LazyMachine_markRoots_40 rfl (lv_at hl 0 rfl) ?_
    refine va_get (D := (dC, dI)) (ci := 0) (v := .int en) (C := R_LazyMachine) (T := F_LazyMachine) (N := 13) hx hb hts (fun q hq => List.mem_cons_of_mem _ (i_LazyMachine q hq)) hown hK hP 0 rfl rfl 9 (by decide) (hts _ (List.mem_cons_of_mem _ m_2_16)) (fun _ h9 => h9) rfl d_LazyMachine_markRoots_41 ?_
    refine lm_vv (b := ad 1) (As := [.int en]) (rest := []) (wr := (ma_W cA ad (ss, sp, fo, ba, no, en, vs, vf, vg)) ++ (pl_W cA (fun k => ad (k + 8)) PM) ++ (tm_W cA (fun k => ad (k + 12)) XM) ++ (tm_W cA (fun k => ad (k + 19)) YM)) ⟨hx, hb, hml, hown, hts⟩ hK hP hD hS hA [1, 2, 3, 4, 5, 6, 7] [0, 8, 9, 10, 11, 12, 13, 14, 15, 16, 17, 18, 19, 20, 21, 22, 23, 24, 25] rfl rfl (by decide) (by decide) (by decide) (c_Heap_reach l dC dI cA (fun k => ad (k + 1)) _ u4 en (by exact hi.2.2.2.2.1 h11) (by rw [w4]; exact hp_mk_begin _)) (cwV 1 hts (lm_gV m_5_12 m_5_9 m_5_10 m_0_2 m_5_11) rfl rfl rfl (by decide +kernel) ⟨Nat.le_of_ble_eq_true rfl, Nat.le_of_ble_eq_true rfl⟩) (va_recv (q0 := 1) hK hP rfl rfl) lm_bl_no (fun _ _ _ => trivial) hl.1 rfl rfl (Nat.le_of_ble_eq_true rfl) d_LazyMachine_markRoots_44 ⟨Nat.le_of_ble_eq_true rfl, Nat.le_of_ble_eq_true rfl⟩ (fun u44 H locs w44 hP hD hS => ?_)
    have hP : va_P (dC, dI) classes (lz_W cA ad ((ss, sp, fo, ba, no, en, vs, vf, vg), u44, PM, XM, YM)) H := hP.sub [0, 19, 20, 21, 22, 23, 24, 25, 1, 2, 3, 4, 5, 6, 7, 8, 9, 10, 11, 12, 13, 14, 15, 16, 17, 18] rfl
    have hD : va_D A (lz_W cA ad ((ss, sp, fo, ba, no, en, vs, vf, vg), u44, PM, XM, YM)) := hD.sub [0, 19, 20, 21, 22, 23, 24, 25, 1, 2, 3, 4, 5, 6, 7, 8, 9, 10, 11, 12, 13, 14, 15, 16, 17, 18] (by decide) rfl
    refine lv_aload_n hx hb d_LazyMachine_markRoots_47 rfl (lv_at hl 0 rfl) ?_
    refine va_get (D := (dC, dI)) (ci := 0) (v := .ref (ad 8)) (C := R_LazyMachine) (T := F_LazyMachine) (N := 13) hx hb hts (fun q hq => List.mem_cons_of_mem _ (i_LazyMachine q hq)) hown hK hP 0 rfl rfl 1 (by decide) (hts _ (List.mem_cons_of_mem _ m_2_8)) (fun _ h9 => h9) rfl d_LazyMachine_markRoots_48 ?_
    refine lv_aload_n hx hb d_LazyMachine_markRoots_51 rfl (lv_at hl 0 rfl) ?_
    refine va_get (D := (dC, dI)) (ci := 0) (v := .ref (ad 1)) (C := R_LazyMachine) (T := F_LazyMachine) (N := 13) hx hb hts (fun q hq => List.mem_cons_of_mem _ (i_LazyMachine q hq)) hown hK hP 0 rfl rfl 0 (by decide) (hts _ (List.mem_cons_of_mem _ m_2_7)) (fun _ h9 => h9) rfl d_LazyMachine_markRoots_52 ?_
    refine lm_vv (b := ad 8) (As := [.ref (ad 1)]) (rest := []) (wr := (ma_W cA ad (ss, sp, fo, ba, no, en, vs, vf, vg)) ++ (tm_W cA (fun k => ad (k + 12)) XM) ++ (tm_W cA (fun k => ad (k + 19)) YM)) ⟨hx, hb, hml, hown, hts⟩ hK hP hD hS hA [8, 9, 10, 11, 1, 2, 3, 4, 5, 6, 7] [0, 12, 13, 14, 15, 16, 17, 18, 19, 20, 21, 22, 23, 24, 25] rfl rfl (by decide) (by decide) (by decide) (c_Pile_reachAll l dC dI cA (fun k => ad (k + 8)) (fun k => ad (k + 1)) _ PM u44  (by exact hi.2.2.1) (by exact hi.2.2.2.1) (by first | (rw [w30, w4]; exact hp_mk_from (hp_mk_begin _) (hi.2.2.2.2.2 h11).1 (hi.2.2.2.2.2 h11).2) | (rw [w44, w4]; exact hp_mk_reach (hp_mk_begin _) (hi.2.2.2.2.1 h11)))) (cwV 1 hts (lm_gV m_5_13 m_5_14 m_5_15 m_0_3 m_5_16) rfl rfl rfl (by decide +kernel) ⟨Nat.le_of_ble_eq_true rfl, Nat.le_of_ble_eq_true rfl⟩) (va_recv (q0 := 8) hK hP rfl rfl) lm_bl_no (fun _ _ _ => trivial) hl.1 rfl rfl (Nat.le_of_ble_eq_true rfl) d_LazyMachine_markRoots_55 ⟨Nat.le_of_ble_eq_true rfl, Nat.le_of_ble_eq_true rfl⟩ (fun u55 H locs w55 hP hD hS => ?_)
    have hP : va_P (dC, dI) classes (lz_W cA ad ((ss, sp, fo, ba, no, en, vs, vf, vg), u55, PM, XM, YM)) H := hP.sub [0, 19, 20, 21, 22, 23, 24, 25, 15, 16, 17, 18, 1, 2, 3, 4, 5, 6, 7, 8, 9, 10, 11, 12, 13, 14] rfl
    have hD : va_D A (lz_W cA ad ((ss, sp, fo, ba, no, en, vs, vf, vg), u55, PM, XM, YM)) := hD.sub [0, 19, 20, 21, 22, 23, 24, 25, 15, 16, 17, 18, 1, 2, 3, 4, 5, 6, 7, 8, 9, 10, 11, 12, 13, 14] (by decide) rfl
    refine lm_rv hx hb hr hlocks ((ss, sp, fo, ba, no, en, vs, vf, vg), u55, PM, XM, YM) ?_ hP hK hD hS d_LazyMachine_markRoots_58
    subst w4 w44 w55; unfold ma_setH ma_roots; first | rw [if_pos h11] | rw [if_neg h11]
  · refine lv_aload_n hx hb d_LazyMachine_markRoots_14 rfl (lv_at hl 0 rfl) ?_
    refine va_get (D := (dC, dI)) (ci := 0) (v := .ref (ad 1)) (C := R_LazyMachine) (T := F_LazyMachine) (N := 13) hx hb hts (fun q hq => List.mem_cons_of_mem _ (i_LazyMachine q hq)) hown hK hP 0 rfl rfl 0 (by decide) (hts _ (List.mem_cons_of_mem _ m_2_7)) (fun _ h9 => h9) rfl d_LazyMachine_markRoots_15 ?_
    refine lv_aload_n hx hb d_LazyMachine_markRoots_18 rfl (lv_at hl 0 rfl) ?_
    refine va_get (D := (dC, dI)) (ci := 0) (v := .int vs) (C := R_LazyMachine) (T := F_LazyMachine) (N := 13) hx hb hts (fun q hq => List.mem_cons_of_mem _ (i_LazyMachine q hq)) hown hK hP 0 rfl rfl 10 (by decide) (hts _ (List.mem_cons_of_mem _ m_2_17)) (fun _ h9 => h9) rfl d_LazyMachine_markRoots_19 ?_
    refine lv_aload_n hx hb d_LazyMachine_markRoots_22 rfl (lv_at hl 0 rfl) ?_
    refine va_get (D := (dC, dI)) (ci := 0) (v := .int vf) (C := R_LazyMachine) (T := F_LazyMachine) (N := 13) hx hb hts (fun q hq => List.mem_cons_of_mem _ (i_LazyMachine q hq)) hown hK hP 0 rfl rfl 11 (by decide) (hts _ (List.mem_cons_of_mem _ m_2_18)) (fun _ h9 => h9) rfl d_LazyMachine_markRoots_23 ?_
    refine lv_aload_n hx hb d_LazyMachine_markRoots_26 rfl (lv_at hl 0 rfl) ?_
    refine va_get (D := (dC, dI)) (ci := 0) (v := .int vg) (C := R_LazyMachine) (T := F_LazyMachine) (N := 13) hx hb hts (fun q hq => List.mem_cons_of_mem _ (i_LazyMachine q hq)) hown hK hP 0 rfl rfl 12 (by decide) (hts _ (List.mem_cons_of_mem _ m_2_19)) (fun _ h9 => h9) rfl d_LazyMachine_markRoots_27 ?_
    refine lm_vv (b := ad 1) (As := [.int vs, .int vf, .int vg]) (rest := []) (wr := (ma_W cA ad (ss, sp, fo, ba, no, en, vs, vf, vg)) ++ (pl_W cA (fun k => ad (k + 8)) PM) ++ (tm_W cA (fun k => ad (k + 12)) XM) ++ (tm_W cA (fun k => ad (k + 19)) YM)) ⟨hx, hb, hml, hown, hts⟩ hK hP hD hS hA [1, 2, 3, 4, 5, 6, 7] [0, 8, 9, 10, 11, 12, 13, 14, 15, 16, 17, 18, 19, 20, 21, 22, 23, 24, 25] rfl rfl (by decide) (by decide) (by decide) (c_Heap_reachFrom l dC dI cA (fun k => ad (k + 1)) _ u4 vs vf vg (by exact (hi.2.2.2.2.2 h11).1) (by exact (hi.2.2.2.2.2 h11).2) (by rw [w4]; exact hp_mk_begin _)) (cwV 3 hts (lm_gV m_5_4 m_5_5 m_5_6 m_0_2 m_5_7) rfl rfl rfl (by decide +kernel) ⟨Nat.le_of_ble_eq_true rfl, Nat.le_of_ble_eq_true rfl⟩) (va_recv (q0 := 1) hK hP rfl rfl) lm_bl_no (fun _ _ _ => trivial) hl.1 rfl rfl (Nat.le_of_ble_eq_true rfl) d_LazyMachine_markRoots_30 ⟨Nat.le_of_ble_eq_true rfl, Nat.le_of_ble_eq_true rfl⟩ (fun u30 H locs w30 hP hD hS => ?_)
    have hP : va_P (dC, dI) classes (lz_W cA ad ((ss, sp, fo, ba, no, en, vs, vf, vg), u30, PM, XM, YM)) H := hP.sub [0, 19, 20, 21, 22, 23, 24, 25, 1, 2, 3, 4, 5, 6, 7, 8, 9, 10, 11, 12, 13, 14, 15, 16, 17, 18] rfl
    have hD : va_D A (lz_W cA ad ((ss, sp, fo, ba, no, en, vs, vf, vg), u30, PM, XM, YM)) := hD.sub [0, 19, 20, 21, 22, 23, 24, 25, 1, 2, 3, 4, 5, 6, 7, 8, 9, 10, 11, 12, 13, 14, 15, 16, 17, 18] (by decide) rfl
    refine lv_goto hx hb d_LazyMachine_markRoots_33 rfl ?_
    refine lv_aload_n hx hb d_LazyMachine_markRoots_47 rfl (lv_at hl 0 rfl) ?_
    refine va_get (D := (dC, dI)) (ci := 0) (v := .ref (ad 8)) (C := R_LazyMachine) (T := F_LazyMachine) (N := 13) hx hb hts (fun q hq => List.mem_cons_of_mem _ (i_LazyMachine q hq)) hown hK hP 0 rfl rfl 1 (by decide) (hts _ (List.mem_cons_of_mem _ m_2_8)) (fun _ h9 => h9) rfl d_LazyMachine_markRoots_48 ?_
    refine lv_aload_n hx hb d_LazyMachine_markRoots_51 rfl (lv_at hl 0 rfl) ?_
    refine va_get (D := (dC, dI)) (ci := 0) (v := .ref (ad 1)) (C := R_LazyMachine) (T := F_LazyMachine) (N := 13) hx hb hts (fun q hq => List.mem_cons_of_mem _ (i_LazyMachine q hq)) hown hK hP 0 rfl rfl 0 (by decide) (hts _ (List.mem_cons_of_mem _ m_2_7)) (fun _ h9 => h9) rfl d_LazyMachine_markRoots_52 ?_
    refine lm_vv (b := ad 8) (As := [.ref (ad 1)]) (rest := []) (wr := (ma_W cA ad (ss, sp, fo, ba, no, en, vs, vf, vg)) ++ (tm_W cA (fun k => ad (k + 12)) XM) ++ (tm_W cA (fun k => ad (k + 19)) YM)) ⟨hx, hb, hml, hown, hts⟩ hK hP hD hS hA [8, 9, 10, 11, 1, 2, 3, 4, 5, 6, 7] [0, 12, 13, 14, 15, 16, 17, 18, 19, 20, 21, 22, 23, 24, 25] rfl rfl (by decide) (by decide) (by decide) (c_Pile_reachAll l dC dI cA (fun k => ad (k + 8)) (fun k => ad (k + 1)) _ PM u30  (by exact hi.2.2.1) (by exact hi.2.2.2.1) (by first | (rw [w30, w4]; exact hp_mk_from (hp_mk_begin _) (hi.2.2.2.2.2 h11).1 (hi.2.2.2.2.2 h11).2) | (rw [w44, w4]; exact hp_mk_reach (hp_mk_begin _) (hi.2.2.2.2.1 h11)))) (cwV 1 hts (lm_gV m_5_13 m_5_14 m_5_15 m_0_3 m_5_16) rfl rfl rfl (by decide +kernel) ⟨Nat.le_of_ble_eq_true rfl, Nat.le_of_ble_eq_true rfl⟩) (va_recv (q0 := 8) hK hP rfl rfl) lm_bl_no (fun _ _ _ => trivial) hl.1 rfl rfl (Nat.le_of_ble_eq_true rfl) d_LazyMachine_markRoots_55 ⟨Nat.le_of_ble_eq_true rfl, Nat.le_of_ble_eq_true rfl⟩ (fun u55 H locs w55 hP hD hS => ?_)
    have hP : va_P (dC, dI) classes (lz_W cA ad ((ss, sp, fo, ba, no, en, vs, vf, vg), u55, PM, XM, YM)) H := hP.sub [0, 19, 20, 21, 22, 23, 24, 25, 15, 16, 17, 18, 1, 2, 3, 4, 5, 6, 7, 8, 9, 10, 11, 12, 13, 14] rfl
    have hD : va_D A (lz_W cA ad ((ss, sp, fo, ba, no, en, vs, vf, vg), u55, PM, XM, YM)) := hD.sub [0, 19, 20, 21, 22, 23, 24, 25, 15, 16, 17, 18, 1, 2, 3, 4, 5, 6, 7, 8, 9, 10, 11, 12, 13, 14] (by decide) rfl
    refine lm_rv hx hb hr hlocks ((ss, sp, fo, ba, no, en, vs, vf, vg), u55, PM, XM, YM) ?_ hP hK hD hS d_LazyMachine_markRoots_58
    subst w4 w30 w55; unfold ma_setH ma_roots; first | rw [if_pos h11] | rw [if_neg h11]
set_option maxHeartbeats 4000000 in
set_option maxRecDepth 100000 in
theorem c_LazyMachine_hasRoomFor (l : Launch) (dC : Nat → ClassId) (dI : Nat → Nat → Nat) (cA : ClassId)  (ad : Nat → Nat) (sz : Nat) (M : ZMS) (x : Int32) (hi : ma_lo M) : Met l y_LazyMachine_hasRoomFor w_LazyMachine_hasRoomFor ({ frames := 3, cells := 0, slots := 0, locals := 66 } : Room) (va_Pc [.ref (ad 0), .int x] (lm_pre (dC, dI) classes [(cA, .int)] (lz_W cA ad M) sz lm_no)) (va_Qi (fun (r : Int32) (u : ZMS) => r = (ma_room M x).1 ∧ u = (ma_room M x).2) (fun u => lm_at (dC, dI) classes [(cA, .int)] (va_A (lz_W cA ad M) sz) (lz_W cA ad u)) (va_A (lz_W cA ad M) sz)) 0 0 (va_A (lz_W cA ad M) sz) := by
  obtain ⟨⟨ss, sp, fo, ba, no, en, vs, vf, vg⟩, SM, PM, XM, YM⟩ := M
  refine lm_met (fun A => va_Qi (fun (r : Int32) (u : ZMS) => r = (ma_room ((ss, sp, fo, ba, no, en, vs, vf, vg), SM, PM, XM, YM) x).1 ∧ u = (ma_room ((ss, sp, fo, ba, no, en, vs, vf, vg), SM, PM, XM, YM) x).2) (fun u => lm_at (dC, dI) classes [(cA, .int)] A (lz_W cA ad u)) A) (by decide) rfl (Nat.le_of_ble_eq_true rfl) ?_
  intro p e s m below meth c A hx hb hr hts hown hlocks hname hml hK hP hD hA hE hsz hAe hS ls hl
  replace hl : lv_has ls 2 [(0, .ref (ad 0)), (1, .int x)] := hl
  clear hAe hsz
  refine lv_aload_n hx hb d_LazyMachine_hasRoomFor_0 rfl (lv_at hl 0 rfl) ?_
  refine va_get (D := (dC, dI)) (ci := 0) (v := .ref (ad 1)) (C := R_LazyMachine) (T := F_LazyMachine) (N := 13) hx hb hts (fun q hq => List.mem_cons_of_mem _ (i_LazyMachine q hq)) hown hK hP 0 rfl rfl 0 (by decide) (hts _ (List.mem_cons_of_mem _ m_2_7)) (fun _ h9 => h9) rfl d_LazyMachine_hasRoomFor_1 ?_
  refine lm_vi (b := ad 1) (As := []) (rest := []) (wr := (ma_W cA ad (ss, sp, fo, ba, no, en, vs, vf, vg)) ++ (pl_W cA (fun k => ad (k + 8)) PM) ++ (tm_W cA (fun k => ad (k + 12)) XM) ++ (tm_W cA (fun k => ad (k + 19)) YM)) ⟨hx, hb, hml, hown, hts⟩ hK hP hD hS hA [1, 2, 3, 4, 5, 6, 7] [0, 8, 9, 10, 11, 12, 13, 14, 15, 16, 17, 18, 19, 20, 21, 22, 23, 24, 25] rfl rfl (by decide) (by decide) (by decide) (c_Heap_free l dC dI cA (fun k => ad (k + 1)) _ SM  ) (cwV 0 hts (lm_gV m_8_10 m_8_11 m_8_12 m_0_2 m_8_13) rfl rfl rfl (by decide +kernel) ⟨Nat.le_of_ble_eq_true rfl, Nat.le_of_ble_eq_true rfl⟩) (va_recv (q0 := 1) hK hP rfl rfl) lm_bl_no (fun _ _ _ => trivial) hl.1 rfl rfl (Nat.le_of_ble_eq_true rfl) d_LazyMachine_hasRoomFor_4 ⟨Nat.le_of_ble_eq_true rfl, Nat.le_of_ble_eq_true rfl⟩ (fun r4 u4 H locs w4 hP hD hS => ?_)
  obtain ⟨e_r4, w4⟩ := w4
  replace e_r4 := e_r4.symm
  subst e_r4
  replace w4 := w4.symm
  subst w4
  have hP : va_P (dC, dI) classes (lz_W cA ad ((ss, sp, fo, ba, no, en, vs, vf, vg), SM, PM, XM, YM)) H := hP.sub [0, 19, 20, 21, 22, 23, 24, 25, 1, 2, 3, 4, 5, 6, 7, 8, 9, 10, 11, 12, 13, 14, 15, 16, 17, 18] rfl
  have hD : va_D A (lz_W cA ad ((ss, sp, fo, ba, no, en, vs, vf, vg), SM, PM, XM, YM)) := hD.sub [0, 19, 20, 21, 22, 23, 24, 25, 1, 2, 3, 4, 5, 6, 7, 8, 9, 10, 11, 12, 13, 14, 15, 16, 17, 18] (by decide) rfl
  refine lv_iload_n hx hb d_LazyMachine_hasRoomFor_7 rfl (lv_at hl 1 rfl) ?_
  refine lv_icmp_ge hx hb d_LazyMachine_hasRoomFor_8 rfl (fun h8 => ?_) (fun h8 => ?_)
  · refine lv_aload_n hx hb d_LazyMachine_hasRoomFor_30 rfl (lv_at hl 0 rfl) ?_
    refine va_get (D := (dC, dI)) (ci := 0) (v := .ref (ad 1)) (C := R_LazyMachine) (T := F_LazyMachine) (N := 13) hx hb hts (fun q hq => List.mem_cons_of_mem _ (i_LazyMachine q hq)) hown hK hP 0 rfl rfl 0 (by decide) (hts _ (List.mem_cons_of_mem _ m_2_7)) (fun _ h9 => h9) rfl d_LazyMachine_hasRoomFor_31 ?_
    refine lm_vi (b := ad 1) (As := []) (rest := []) (wr := (ma_W cA ad (ss, sp, fo, ba, no, en, vs, vf, vg)) ++ (pl_W cA (fun k => ad (k + 8)) PM) ++ (tm_W cA (fun k => ad (k + 12)) XM) ++ (tm_W cA (fun k => ad (k + 19)) YM)) ⟨hx, hb, hml, hown, hts⟩ hK hP hD hS hA [1, 2, 3, 4, 5, 6, 7] [0, 8, 9, 10, 11, 12, 13, 14, 15, 16, 17, 18, 19, 20, 21, 22, 23, 24, 25] rfl rfl (by decide) (by decide) (by decide) (c_Heap_free l dC dI cA (fun k => ad (k + 1)) _ SM  ) (cwV 0 hts (lm_gV m_8_10 m_8_11 m_8_12 m_0_2 m_8_13) rfl rfl rfl (by decide +kernel) ⟨Nat.le_of_ble_eq_true rfl, Nat.le_of_ble_eq_true rfl⟩) (va_recv (q0 := 1) hK hP rfl rfl) lm_bl_no (fun _ _ _ => trivial) hl.1 rfl rfl (Nat.le_of_ble_eq_true rfl) d_LazyMachine_hasRoomFor_34 ⟨Nat.le_of_ble_eq_true rfl, Nat.le_of_ble_eq_true rfl⟩ (fun r34 u34 H locs w34 hP hD hS => ?_)
    obtain ⟨e_r34, w34⟩ := w34
    replace e_r34 := e_r34.symm
    subst e_r34
    replace w34 := w34.symm
    subst w34
    have hP : va_P (dC, dI) classes (lz_W cA ad ((ss, sp, fo, ba, no, en, vs, vf, vg), SM, PM, XM, YM)) H := hP.sub [0, 19, 20, 21, 22, 23, 24, 25, 1, 2, 3, 4, 5, 6, 7, 8, 9, 10, 11, 12, 13, 14, 15, 16, 17, 18] rfl
    have hD : va_D A (lz_W cA ad ((ss, sp, fo, ba, no, en, vs, vf, vg), SM, PM, XM, YM)) := hD.sub [0, 19, 20, 21, 22, 23, 24, 25, 1, 2, 3, 4, 5, 6, 7, 8, 9, 10, 11, 12, 13, 14, 15, 16, 17, 18] (by decide) rfl
    refine lv_iload_n hx hb d_LazyMachine_hasRoomFor_37 rfl (lv_at hl 1 rfl) ?_
    refine lv_icmp_lt hx hb d_LazyMachine_hasRoomFor_38 rfl (fun h38 => ?_) (fun h38 => ?_)
    · refine lv_iconst (v := 0) hx hb d_LazyMachine_hasRoomFor_45 (by decide) ?_
      refine lm_rz (v := 0) hx hb hr hlocks (by decide) ((ss, sp, fo, ba, no, en, vs, vf, vg), SM, PM, XM, YM) ?_ hP hK hD hS d_LazyMachine_hasRoomFor_46
      unfold ma_room ma_roomM; first | (rw [if_pos h8]; first | (rw [if_pos h38]; exact ⟨rfl, rfl⟩) | (rw [if_neg h38]; exact ⟨rfl, rfl⟩)) | (rw [if_neg h8]; first | (rw [if_pos (show h_fr (m_H (ma_gc ((ss, sp, fo, ba, no, en, vs, vf, vg), SM, PM, XM, YM))) < x from h38)]; exact ⟨rfl, rfl⟩) | (rw [if_neg (show ¬ h_fr (m_H (ma_gc ((ss, sp, fo, ba, no, en, vs, vf, vg), SM, PM, XM, YM))) < x from h38)]; exact ⟨rfl, rfl⟩))
    · refine lv_iconst (v := 1) hx hb d_LazyMachine_hasRoomFor_41 (by decide) ?_
      refine lv_goto hx hb d_LazyMachine_hasRoomFor_42 rfl ?_
      refine lm_rz (v := 1) hx hb hr hlocks (by decide) ((ss, sp, fo, ba, no, en, vs, vf, vg), SM, PM, XM, YM) ?_ hP hK hD hS d_LazyMachine_hasRoomFor_46
      unfold ma_room ma_roomM; first | (rw [if_pos h8]; first | (rw [if_pos h38]; exact ⟨rfl, rfl⟩) | (rw [if_neg h38]; exact ⟨rfl, rfl⟩)) | (rw [if_neg h8]; first | (rw [if_pos (show h_fr (m_H (ma_gc ((ss, sp, fo, ba, no, en, vs, vf, vg), SM, PM, XM, YM))) < x from h38)]; exact ⟨rfl, rfl⟩) | (rw [if_neg (show ¬ h_fr (m_H (ma_gc ((ss, sp, fo, ba, no, en, vs, vf, vg), SM, PM, XM, YM))) < x from h38)]; exact ⟨rfl, rfl⟩))
  · refine lv_aload_n hx hb d_LazyMachine_hasRoomFor_11 rfl (lv_at hl 0 rfl) ?_
    refine lm_vv (b := ad 0) (As := []) (rest := []) (wr := ([] : va_W)) ⟨hx, hb, hml, hown, hts⟩ hK hP hD hS hA [0, 1, 2, 3, 4, 5, 6, 7, 8, 9, 10, 11, 12, 13, 14, 15, 16, 17, 18, 19, 20, 21, 22, 23, 24, 25] [] rfl rfl (by decide) (by decide) (by decide) (c_LazyMachine_markRoots l dC dI cA ad _ ((ss, sp, fo, ba, no, en, vs, vf, vg), SM, PM, XM, YM)  (by exact hi)) (cwV 0 hts (lm_gV m_5_0 m_5_1 m_19_7 m_0_1 m_5_2) rfl rfl rfl (by decide +kernel) ⟨Nat.le_of_ble_eq_true rfl, Nat.le_of_ble_eq_true rfl⟩) (va_recv (q0 := 0) hK hP rfl rfl) lm_bl_no (fun _ _ _ => trivial) hl.1 rfl rfl (Nat.le_of_ble_eq_true rfl) d_LazyMachine_hasRoomFor_12 ⟨Nat.le_of_ble_eq_true rfl, Nat.le_of_ble_eq_true rfl⟩ (fun u12 H locs w12 hP hD hS => ?_)
    have hP : va_P (dC, dI) classes (lz_W cA ad u12) H := hP
    have hD : va_D A (lz_W cA ad u12) := hD
    refine lv_aload_n hx hb d_LazyMachine_hasRoomFor_15 rfl (lv_at hl 0 rfl) ?_
    refine va_get (D := (dC, dI)) (ci := 0) (v := .ref (ad 1)) (C := R_LazyMachine) (T := F_LazyMachine) (N := 13) hx hb hts (fun q hq => List.mem_cons_of_mem _ (i_LazyMachine q hq)) hown hK hP 0 rfl rfl 0 (by decide) (hts _ (List.mem_cons_of_mem _ m_2_7)) (fun _ h9 => h9) rfl d_LazyMachine_hasRoomFor_16 ?_
    refine lm_vi (b := ad 1) (As := []) (rest := []) (wr := (ma_W cA ad u12.1) ++ (pl_W cA (fun k => ad (k + 8)) u12.2.2.1) ++ (tm_W cA (fun k => ad (k + 12)) u12.2.2.2.1) ++ (tm_W cA (fun k => ad (k + 19)) u12.2.2.2.2)) ⟨hx, hb, hml, hown, hts⟩ hK hP hD hS hA [1, 2, 3, 4, 5, 6, 7] [0, 8, 9, 10, 11, 12, 13, 14, 15, 16, 17, 18, 19, 20, 21, 22, 23, 24, 25] rfl rfl (by decide) (by decide) (by decide) (c_Heap_spreadMarks l dC dI cA (fun k => ad (k + 1)) _ u12.2.1  (by rw [w12]; exact ma_mk_roots hi) (by rw [w12]; exact hp_ok_eq (ma_eq_roots _) hi.1)) (cwV 0 hts (lm_gV m_5_18 m_5_19 m_5_20 m_0_2 m_5_21) rfl rfl rfl (by decide +kernel) ⟨Nat.le_of_ble_eq_true rfl, Nat.le_of_ble_eq_true rfl⟩) (va_recv (q0 := 1) hK hP rfl rfl) lm_bl_no (fun _ _ _ => trivial) hl.1 rfl rfl (Nat.le_of_ble_eq_true rfl) d_LazyMachine_hasRoomFor_19 ⟨Nat.le_of_ble_eq_true rfl, Nat.le_of_ble_eq_true rfl⟩ (fun r19 u19 H locs w19 hP hD hS => ?_)
    obtain ⟨e_r19, w19⟩ := w19
    have hP : va_P (dC, dI) classes (lz_W cA ad (u12.1, u19, u12.2.2.1, u12.2.2.2.1, u12.2.2.2.2)) H := hP.sub [0, 19, 20, 21, 22, 23, 24, 25, 1, 2, 3, 4, 5, 6, 7, 8, 9, 10, 11, 12, 13, 14, 15, 16, 17, 18] rfl
    have hD : va_D A (lz_W cA ad (u12.1, u19, u12.2.2.1, u12.2.2.2.1, u12.2.2.2.2)) := hD.sub [0, 19, 20, 21, 22, 23, 24, 25, 1, 2, 3, 4, 5, 6, 7, 8, 9, 10, 11, 12, 13, 14, 15, 16, 17, 18] (by decide) rfl
    refine lv_pop hx hb d_LazyMachine_hasRoomFor_22 rfl ?_
    refine lv_aload_n hx hb d_LazyMachine_hasRoomFor_23 rfl (lv_at hl 0 rfl) ?_
    refine va_get (D := (dC, dI)) (ci := 0) (v := .ref (ad 1)) (C := R_LazyMachine) (T := F_LazyMachine) (N := 13) hx hb hts (fun q hq => List.mem_cons_of_mem _ (i_LazyMachine q hq)) hown hK hP 0 rfl rfl 0 (by decide) (hts _ (List.mem_cons_of_mem _ m_2_7)) (fun _ h9 => h9) rfl d_LazyMachine_hasRoomFor_24 ?_
    refine lm_vv (b := ad 1) (As := []) (rest := []) (wr := (ma_W cA ad u12.1) ++ (pl_W cA (fun k => ad (k + 8)) u12.2.2.1) ++ (tm_W cA (fun k => ad (k + 12)) u12.2.2.2.1) ++ (tm_W cA (fun k => ad (k + 19)) u12.2.2.2.2)) ⟨hx, hb, hml, hown, hts⟩ hK hP hD hS hA [1, 2, 3, 4, 5, 6, 7] [0, 8, 9, 10, 11, 12, 13, 14, 15, 16, 17, 18, 19, 20, 21, 22, 23, 24, 25] rfl rfl (by decide) (by decide) (by decide) (c_Heap_freeUnreached l dC dI cA (fun k => ad (k + 1)) _ u19  ) (cwV 0 hts (lm_gV m_8_14 m_4_2 m_4_3 m_0_2 m_4_4) rfl rfl rfl (by decide +kernel) ⟨Nat.le_of_ble_eq_true rfl, Nat.le_of_ble_eq_true rfl⟩) (va_recv (q0 := 1) hK hP rfl rfl) lm_bl_no (fun _ _ _ => trivial) hl.1 rfl rfl (Nat.le_of_ble_eq_true rfl) d_LazyMachine_hasRoomFor_27 ⟨Nat.le_of_ble_eq_true rfl, Nat.le_of_ble_eq_true rfl⟩ (fun u27 H locs w27 hP hD hS => ?_)
    have hP : va_P (dC, dI) classes (lz_W cA ad (u12.1, u27, u12.2.2.1, u12.2.2.2.1, u12.2.2.2.2)) H := hP.sub [0, 19, 20, 21, 22, 23, 24, 25, 1, 2, 3, 4, 5, 6, 7, 8, 9, 10, 11, 12, 13, 14, 15, 16, 17, 18] rfl
    have hD : va_D A (lz_W cA ad (u12.1, u27, u12.2.2.1, u12.2.2.2.1, u12.2.2.2.2)) := hD.sub [0, 19, 20, 21, 22, 23, 24, 25, 1, 2, 3, 4, 5, 6, 7, 8, 9, 10, 11, 12, 13, 14, 15, 16, 17, 18] (by decide) rfl
    refine lv_aload_n hx hb d_LazyMachine_hasRoomFor_30 rfl (lv_at hl 0 rfl) ?_
    refine va_get (D := (dC, dI)) (ci := 0) (v := .ref (ad 1)) (C := R_LazyMachine) (T := F_LazyMachine) (N := 13) hx hb hts (fun q hq => List.mem_cons_of_mem _ (i_LazyMachine q hq)) hown hK hP 0 rfl rfl 0 (by decide) (hts _ (List.mem_cons_of_mem _ m_2_7)) (fun _ h9 => h9) rfl d_LazyMachine_hasRoomFor_31 ?_
    refine lm_vi (b := ad 1) (As := []) (rest := []) (wr := (ma_W cA ad u12.1) ++ (pl_W cA (fun k => ad (k + 8)) u12.2.2.1) ++ (tm_W cA (fun k => ad (k + 12)) u12.2.2.2.1) ++ (tm_W cA (fun k => ad (k + 19)) u12.2.2.2.2)) ⟨hx, hb, hml, hown, hts⟩ hK hP hD hS hA [1, 2, 3, 4, 5, 6, 7] [0, 8, 9, 10, 11, 12, 13, 14, 15, 16, 17, 18, 19, 20, 21, 22, 23, 24, 25] rfl rfl (by decide) (by decide) (by decide) (c_Heap_free l dC dI cA (fun k => ad (k + 1)) _ u27  ) (cwV 0 hts (lm_gV m_8_10 m_8_11 m_8_12 m_0_2 m_8_13) rfl rfl rfl (by decide +kernel) ⟨Nat.le_of_ble_eq_true rfl, Nat.le_of_ble_eq_true rfl⟩) (va_recv (q0 := 1) hK hP rfl rfl) lm_bl_no (fun _ _ _ => trivial) hl.1 rfl rfl (Nat.le_of_ble_eq_true rfl) d_LazyMachine_hasRoomFor_34 ⟨Nat.le_of_ble_eq_true rfl, Nat.le_of_ble_eq_true rfl⟩ (fun r34 u34 H locs w34 hP hD hS => ?_)
    obtain ⟨e_r34, w34⟩ := w34
    replace e_r34 := e_r34.symm
    subst e_r34
    replace w34 := w34.symm
    subst w34
    have hP : va_P (dC, dI) classes (lz_W cA ad (u12.1, u27, u12.2.2.1, u12.2.2.2.1, u12.2.2.2.2)) H := hP.sub [0, 19, 20, 21, 22, 23, 24, 25, 1, 2, 3, 4, 5, 6, 7, 8, 9, 10, 11, 12, 13, 14, 15, 16, 17, 18] rfl
    have hD : va_D A (lz_W cA ad (u12.1, u27, u12.2.2.1, u12.2.2.2.1, u12.2.2.2.2)) := hD.sub [0, 19, 20, 21, 22, 23, 24, 25, 1, 2, 3, 4, 5, 6, 7, 8, 9, 10, 11, 12, 13, 14, 15, 16, 17, 18] (by decide) rfl
    refine lv_iload_n hx hb d_LazyMachine_hasRoomFor_37 rfl (lv_at hl 1 rfl) ?_
    refine lv_icmp_lt hx hb d_LazyMachine_hasRoomFor_38 rfl (fun h38 => ?_) (fun h38 => ?_)
    · refine lv_iconst (v := 0) hx hb d_LazyMachine_hasRoomFor_45 (by decide) ?_
      refine lm_rz (v := 0) hx hb hr hlocks (by decide) (u12.1, u27, u12.2.2.1, u12.2.2.2.1, u12.2.2.2.2) ?_ hP hK hD hS d_LazyMachine_hasRoomFor_46
      subst w12 e_r19 w19 w27; unfold ma_room ma_roomM; first | (rw [if_pos h8]; first | (rw [if_pos h38]; exact ⟨rfl, rfl⟩) | (rw [if_neg h38]; exact ⟨rfl, rfl⟩)) | (rw [if_neg h8]; first | (rw [if_pos (show h_fr (m_H (ma_gc ((ss, sp, fo, ba, no, en, vs, vf, vg), SM, PM, XM, YM))) < x from h38)]; exact ⟨rfl, rfl⟩) | (rw [if_neg (show ¬ h_fr (m_H (ma_gc ((ss, sp, fo, ba, no, en, vs, vf, vg), SM, PM, XM, YM))) < x from h38)]; exact ⟨rfl, rfl⟩))
    · refine lv_iconst (v := 1) hx hb d_LazyMachine_hasRoomFor_41 (by decide) ?_
      refine lv_goto hx hb d_LazyMachine_hasRoomFor_42 rfl ?_
      refine lm_rz (v := 1) hx hb hr hlocks (by decide) (u12.1, u27, u12.2.2.1, u12.2.2.2.1, u12.2.2.2.2) ?_ hP hK hD hS d_LazyMachine_hasRoomFor_46
      subst w12 e_r19 w19 w27; unfold ma_room ma_roomM; first | (rw [if_pos h8]; first | (rw [if_pos h38]; exact ⟨rfl, rfl⟩) | (rw [if_neg h38]; exact ⟨rfl, rfl⟩)) | (rw [if_neg h8]; first | (rw [if_pos (show h_fr (m_H (ma_gc ((ss, sp, fo, ba, no, en, vs, vf, vg), SM, PM, XM, YM))) < x from h38)]; exact ⟨rfl, rfl⟩) | (rw [if_neg (show ¬ h_fr (m_H (ma_gc ((ss, sp, fo, ba, no, en, vs, vf, vg), SM, PM, XM, YM))) < x from h38)]; exact ⟨rfl, rfl⟩))
set_option maxHeartbeats 4000000 in
set_option maxRecDepth 100000 in
theorem c_LazyMachine_cellsFor (l : Launch) (dC : Nat → ClassId) (dI : Nat → Nat → Nat) (cA : ClassId)  (ad : Nat → Nat) (sz : Nat) (M : ZMS) (x : Int32) (hx1 : vp_in x 200) : Met l y_LazyMachine_cellsFor w_LazyMachine_cellsFor ({ frames := 1, cells := 0, slots := 0, locals := 21 } : Room) (va_Pc [.ref (ad 0), .int x] (lm_pre (dC, dI) classes [(cA, .int)] (lz_W cA ad M) sz lm_no)) (va_Qi (fun (r : Int32) (u : ZMS) => r = ma_cells M x ∧ u = M) (fun u => lm_at (dC, dI) classes [(cA, .int)] (va_A (lz_W cA ad M) sz) (lz_W cA ad u)) (va_A (lz_W cA ad M) sz)) 0 0 (va_A (lz_W cA ad M) sz) := by
  obtain ⟨⟨ss, sp, fo, ba, no, en, vs, vf, vg⟩, SM, PM, XM, YM⟩ := M
  refine lm_met (fun A => va_Qi (fun (r : Int32) (u : ZMS) => r = ma_cells ((ss, sp, fo, ba, no, en, vs, vf, vg), SM, PM, XM, YM) x ∧ u = ((ss, sp, fo, ba, no, en, vs, vf, vg), SM, PM, XM, YM)) (fun u => lm_at (dC, dI) classes [(cA, .int)] A (lz_W cA ad u)) A) (by decide) rfl (Nat.le_of_ble_eq_true rfl) ?_
  intro p e s m below meth c A hx hb hr hts hown hlocks hname hml hK hP hD hA hE hsz hAe hS ls hl
  replace hl : lv_has ls 2 [(0, .ref (ad 0)), (1, .int x)] := hl
  clear hAe hsz
  refine lv_aload_n hx hb d_LazyMachine_cellsFor_0 rfl (lv_at hl 0 rfl) ?_
  refine va_get (D := (dC, dI)) (ci := 0) (v := .ref (ad 19)) (C := R_LazyMachine) (T := F_LazyMachine) (N := 13) hx hb hts (fun q hq => List.mem_cons_of_mem _ (i_LazyMachine q hq)) hown hK hP 0 rfl rfl 3 (by decide) (hts _ (List.mem_cons_of_mem _ m_2_10)) (fun _ h9 => h9) rfl d_LazyMachine_cellsFor_1 ?_
  refine lv_iload_n hx hb d_LazyMachine_cellsFor_4 rfl (lv_at hl 1 rfl) ?_
  refine lm_vi (b := ad 19) (As := [.int x]) (rest := []) (wr := (ma_W cA ad (ss, sp, fo, ba, no, en, vs, vf, vg)) ++ (hp_W cA (fun k => ad (k + 1)) SM) ++ (pl_W cA (fun k => ad (k + 8)) PM) ++ (tm_W cA (fun k => ad (k + 12)) XM)) ⟨hx, hb, hml, hown, hts⟩ hK hP hD hS hA [19, 20, 21, 22, 23, 24, 25] [0, 1, 2, 3, 4, 5, 6, 7, 8, 9, 10, 11, 12, 13, 14, 15, 16, 17, 18] rfl rfl (by decide) (by decide) (by decide) (c_Term_sort l dC dI cA (fun k => ad (k + 19)) _ YM x (by exact hx1)) (cwV 1 hts (lm_gV m_10_0 m_10_1 m_10_2 m_0_4 m_10_3) rfl rfl rfl (by decide +kernel) ⟨Nat.le_of_ble_eq_true rfl, Nat.le_of_ble_eq_true rfl⟩) (va_recv (q0 := 19) hK hP rfl rfl) lm_bl_no (fun _ _ _ => trivial) hl.1 rfl rfl (Nat.le_of_ble_eq_true rfl) d_LazyMachine_cellsFor_5 ⟨Nat.le_of_ble_eq_true rfl, Nat.le_of_ble_eq_true rfl⟩ (fun r5 u5 H locs w5 hP hD hS => ?_)
  obtain ⟨e_r5, w5⟩ := w5
  replace e_r5 := e_r5.symm
  subst e_r5
  replace w5 := w5.symm
  subst w5
  have hP : va_P (dC, dI) classes (lz_W cA ad ((ss, sp, fo, ba, no, en, vs, vf, vg), SM, PM, XM, YM)) H := hP
  have hD : va_D A (lz_W cA ad ((ss, sp, fo, ba, no, en, vs, vf, vg), SM, PM, XM, YM)) := hD
  refine lv_if_ne hx hb d_LazyMachine_cellsFor_8 rfl (fun h8 => ?_) (fun h8 => ?_)
  · refine lv_iconst (v := 1) hx hb d_LazyMachine_cellsFor_15 (by decide) ?_
    refine lm_ri (v := 1) hx hb hr hlocks ((ss, sp, fo, ba, no, en, vs, vf, vg), SM, PM, XM, YM) ?_ hP hK hD hS d_LazyMachine_cellsFor_16
    unfold ma_cells; first | (rw [if_pos h8]; exact ⟨rfl, rfl⟩) | (rw [if_neg h8]; exact ⟨rfl, rfl⟩)
  · refine lv_iconst (v := 0) hx hb d_LazyMachine_cellsFor_11 (by decide) ?_
    refine lv_goto hx hb d_LazyMachine_cellsFor_12 rfl ?_
    refine lm_ri (v := 0) hx hb hr hlocks ((ss, sp, fo, ba, no, en, vs, vf, vg), SM, PM, XM, YM) ?_ hP hK hD hS d_LazyMachine_cellsFor_16
    unfold ma_cells; first | (rw [if_pos h8]; exact ⟨rfl, rfl⟩) | (rw [if_neg h8]; exact ⟨rfl, rfl⟩)
set_option maxHeartbeats 4000000 in
set_option maxRecDepth 100000 in
theorem c_LazyMachine_thunkFor (l : Launch) (dC : Nat → ClassId) (dI : Nat → Nat → Nat) (cA : ClassId)  (ad : Nat → Nat) (sz : Nat) (M : ZMS) (x : Int32) (hx1 : vp_in x 200) (hs : ∀ j, j < 256 → hp_c (h_se (m_H M) j)) (hf : hp_fok (m_H M)) (he : hp_c (l_en M)) (ht : tm_lo (m_Y M)) : Met l y_LazyMachine_thunkFor w_LazyMachine_thunkFor ({ frames := 2, cells := 0, slots := 0, locals := 48 } : Room) (va_Pc [.ref (ad 0), .int x] (lm_pre (dC, dI) classes [(cA, .int)] (lz_W cA ad M) sz lm_no)) (va_Qi (fun (r : Int32) (u : ZMS) => r = (ma_thunk M x).1 ∧ u = (ma_thunk M x).2) (fun u => lm_at (dC, dI) classes [(cA, .int)] (va_A (lz_W cA ad M) sz) (lz_W cA ad u)) (va_A (lz_W cA ad M) sz)) 0 0 (va_A (lz_W cA ad M) sz) := by
  obtain ⟨⟨ss, sp, fo, ba, no, en, vs, vf, vg⟩, SM, PM, XM, YM⟩ := M
  refine lm_met (fun A => va_Qi (fun (r : Int32) (u : ZMS) => r = (ma_thunk ((ss, sp, fo, ba, no, en, vs, vf, vg), SM, PM, XM, YM) x).1 ∧ u = (ma_thunk ((ss, sp, fo, ba, no, en, vs, vf, vg), SM, PM, XM, YM) x).2) (fun u => lm_at (dC, dI) classes [(cA, .int)] A (lz_W cA ad u)) A) (by decide) rfl (Nat.le_of_ble_eq_true rfl) ?_
  intro p e s m below meth c A hx hb hr hts hown hlocks hname hml hK hP hD hA hE hsz hAe hS ls hl
  replace hl : lv_has ls 2 [(0, .ref (ad 0)), (1, .int x)] := hl
  clear hAe hsz
  refine lv_aload_n hx hb d_LazyMachine_thunkFor_0 rfl (lv_at hl 0 rfl) ?_
  refine va_get (D := (dC, dI)) (ci := 0) (v := .ref (ad 19)) (C := R_LazyMachine) (T := F_LazyMachine) (N := 13) hx hb hts (fun q hq => List.mem_cons_of_mem _ (i_LazyMachine q hq)) hown hK hP 0 rfl rfl 3 (by decide) (hts _ (List.mem_cons_of_mem _ m_2_10)) (fun _ h9 => h9) rfl d_LazyMachine_thunkFor_1 ?_
  refine lv_iload_n hx hb d_LazyMachine_thunkFor_4 rfl (lv_at hl 1 rfl) ?_
  refine lm_vi (b := ad 19) (As := [.int x]) (rest := []) (wr := (ma_W cA ad (ss, sp, fo, ba, no, en, vs, vf, vg)) ++ (hp_W cA (fun k => ad (k + 1)) SM) ++ (pl_W cA (fun k => ad (k + 8)) PM) ++ (tm_W cA (fun k => ad (k + 12)) XM)) ⟨hx, hb, hml, hown, hts⟩ hK hP hD hS hA [19, 20, 21, 22, 23, 24, 25] [0, 1, 2, 3, 4, 5, 6, 7, 8, 9, 10, 11, 12, 13, 14, 15, 16, 17, 18] rfl rfl (by decide) (by decide) (by decide) (c_Term_sort l dC dI cA (fun k => ad (k + 19)) _ YM x (by exact hx1)) (cwV 1 hts (lm_gV m_10_0 m_10_1 m_10_2 m_0_4 m_10_3) rfl rfl rfl (by decide +kernel) ⟨Nat.le_of_ble_eq_true rfl, Nat.le_of_ble_eq_true rfl⟩) (va_recv (q0 := 19) hK hP rfl rfl) lm_bl_no (fun _ _ _ => trivial) hl.1 rfl rfl (Nat.le_of_ble_eq_true rfl) d_LazyMachine_thunkFor_5 ⟨Nat.le_of_ble_eq_true rfl, Nat.le_of_ble_eq_true rfl⟩ (fun r5 u5 H locs w5 hP hD hS => ?_)
  obtain ⟨e_r5, w5⟩ := w5
  replace e_r5 := e_r5.symm
  subst e_r5
  replace w5 := w5.symm
  subst w5
  have hP : va_P (dC, dI) classes (lz_W cA ad ((ss, sp, fo, ba, no, en, vs, vf, vg), SM, PM, XM, YM)) H := hP
  have hD : va_D A (lz_W cA ad ((ss, sp, fo, ba, no, en, vs, vf, vg), SM, PM, XM, YM)) := hD
  refine lv_if_ne hx hb d_LazyMachine_thunkFor_8 rfl (fun h8 => ?_) (fun h8 => ?_)
  · refine lv_aload_n hx hb d_LazyMachine_thunkFor_31 rfl (lv_at hl 0 rfl) ?_
    refine va_get (D := (dC, dI)) (ci := 0) (v := .ref (ad 1)) (C := R_LazyMachine) (T := F_LazyMachine) (N := 13) hx hb hts (fun q hq => List.mem_cons_of_mem _ (i_LazyMachine q hq)) hown hK hP 0 rfl rfl 0 (by decide) (hts _ (List.mem_cons_of_mem _ m_2_7)) (fun _ h9 => h9) rfl d_LazyMachine_thunkFor_32 ?_
    refine lv_iconst (v := 3) hx hb d_LazyMachine_thunkFor_35 (by decide) ?_
    refine lv_iload_n hx hb d_LazyMachine_thunkFor_36 rfl (lv_at hl 1 rfl) ?_
    refine lv_aload_n hx hb d_LazyMachine_thunkFor_37 rfl (lv_at hl 0 rfl) ?_
    refine va_get (D := (dC, dI)) (ci := 0) (v := .int en) (C := R_LazyMachine) (T := F_LazyMachine) (N := 13) hx hb hts (fun q hq => List.mem_cons_of_mem _ (i_LazyMachine q hq)) hown hK hP 0 rfl rfl 9 (by decide) (hts _ (List.mem_cons_of_mem _ m_2_16)) (fun _ h9 => h9) rfl d_LazyMachine_thunkFor_38 ?_
    refine lm_vi (b := ad 1) (As := [.int 3, .int x, .int en]) (rest := []) (wr := (ma_W cA ad (ss, sp, fo, ba, no, en, vs, vf, vg)) ++ (pl_W cA (fun k => ad (k + 8)) PM) ++ (tm_W cA (fun k => ad (k + 12)) XM) ++ (tm_W cA (fun k => ad (k + 19)) YM)) ⟨hx, hb, hml, hown, hts⟩ hK hP hD hS hA [1, 2, 3, 4, 5, 6, 7] [0, 8, 9, 10, 11, 12, 13, 14, 15, 16, 17, 18, 19, 20, 21, 22, 23, 24, 25] rfl rfl (by decide) (by decide) (by decide) (c_Heap_take l dC dI cA (fun k => ad (k + 1)) _ SM 3 x en (by exact hf)) (cwV 3 hts (lm_gV m_8_22 m_8_23 m_9_0 m_0_2 m_9_1) rfl rfl rfl (by decide +kernel) ⟨Nat.le_of_ble_eq_true rfl, Nat.le_of_ble_eq_true rfl⟩) (va_recv (q0 := 1) hK hP rfl rfl) lm_bl_no (fun _ _ _ => trivial) hl.1 rfl rfl (Nat.le_of_ble_eq_true rfl) d_LazyMachine_thunkFor_41 ⟨Nat.le_of_ble_eq_true rfl, Nat.le_of_ble_eq_true rfl⟩ (fun r41 u41 H locs w41 hP hD hS => ?_)
    obtain ⟨e_r41, w41⟩ := w41
    have hP : va_P (dC, dI) classes (lz_W cA ad ((ss, sp, fo, ba, no, en, vs, vf, vg), u41, PM, XM, YM)) H := hP.sub [0, 19, 20, 21, 22, 23, 24, 25, 1, 2, 3, 4, 5, 6, 7, 8, 9, 10, 11, 12, 13, 14, 15, 16, 17, 18] rfl
    have hD : va_D A (lz_W cA ad ((ss, sp, fo, ba, no, en, vs, vf, vg), u41, PM, XM, YM)) := hD.sub [0, 19, 20, 21, 22, 23, 24, 25, 1, 2, 3, 4, 5, 6, 7, 8, 9, 10, 11, 12, 13, 14, 15, 16, 17, 18] (by decide) rfl
    refine lm_ri (v := r41) hx hb hr hlocks ((ss, sp, fo, ba, no, en, vs, vf, vg), u41, PM, XM, YM) ?_ hP hK hD hS d_LazyMachine_thunkFor_44
    subst e_r41 w41; unfold ma_thunk; first | (rw [if_pos h8]; exact ⟨rfl, rfl⟩) | (rw [if_neg h8]; exact ⟨rfl, rfl⟩)
  · refine lv_aload_n hx hb d_LazyMachine_thunkFor_11 rfl (lv_at hl 0 rfl) ?_
    refine va_get (D := (dC, dI)) (ci := 0) (v := .ref (ad 1)) (C := R_LazyMachine) (T := F_LazyMachine) (N := 13) hx hb hts (fun q hq => List.mem_cons_of_mem _ (i_LazyMachine q hq)) hown hK hP 0 rfl rfl 0 (by decide) (hts _ (List.mem_cons_of_mem _ m_2_7)) (fun _ h9 => h9) rfl d_LazyMachine_thunkFor_12 ?_
    refine lv_aload_n hx hb d_LazyMachine_thunkFor_15 rfl (lv_at hl 0 rfl) ?_
    refine va_get (D := (dC, dI)) (ci := 0) (v := .int en) (C := R_LazyMachine) (T := F_LazyMachine) (N := 13) hx hb hts (fun q hq => List.mem_cons_of_mem _ (i_LazyMachine q hq)) hown hK hP 0 rfl rfl 9 (by decide) (hts _ (List.mem_cons_of_mem _ m_2_16)) (fun _ h9 => h9) rfl d_LazyMachine_thunkFor_16 ?_
    refine lv_aload_n hx hb d_LazyMachine_thunkFor_19 rfl (lv_at hl 0 rfl) ?_
    refine va_get (D := (dC, dI)) (ci := 0) (v := .ref (ad 19)) (C := R_LazyMachine) (T := F_LazyMachine) (N := 13) hx hb hts (fun q hq => List.mem_cons_of_mem _ (i_LazyMachine q hq)) hown hK hP 0 rfl rfl 3 (by decide) (hts _ (List.mem_cons_of_mem _ m_2_10)) (fun _ h9 => h9) rfl d_LazyMachine_thunkFor_20 ?_
    refine lv_iload_n hx hb d_LazyMachine_thunkFor_23 rfl (lv_at hl 1 rfl) ?_
    refine lm_vi (b := ad 19) (As := [.int x]) (rest := [.int en, .ref (ad 1)]) (wr := (ma_W cA ad (ss, sp, fo, ba, no, en, vs, vf, vg)) ++ (hp_W cA (fun k => ad (k + 1)) SM) ++ (pl_W cA (fun k => ad (k + 8)) PM) ++ (tm_W cA (fun k => ad (k + 12)) XM)) ⟨hx, hb, hml, hown, hts⟩ hK hP hD hS hA [19, 20, 21, 22, 23, 24, 25] [0, 1, 2, 3, 4, 5, 6, 7, 8, 9, 10, 11, 12, 13, 14, 15, 16, 17, 18] rfl rfl (by decide) (by decide) (by decide) (c_Term_x l dC dI cA (fun k => ad (k + 19)) _ YM x (by exact hx1)) (cwV 1 hts (lm_gV m_11_11 m_11_12 m_11_13 m_0_4 m_11_14) rfl rfl rfl (by decide +kernel) ⟨Nat.le_of_ble_eq_true rfl, Nat.le_of_ble_eq_true rfl⟩) (va_recv (q0 := 19) hK hP rfl rfl) lm_bl_no (fun _ _ _ => trivial) hl.1 rfl rfl (Nat.le_of_ble_eq_true rfl) d_LazyMachine_thunkFor_24 ⟨Nat.le_of_ble_eq_true rfl, Nat.le_of_ble_eq_true rfl⟩ (fun r24 u24 H locs w24 hP hD hS => ?_)
    obtain ⟨e_r24, w24⟩ := w24
    replace e_r24 := e_r24.symm
    subst e_r24
    replace w24 := w24.symm
    subst w24
    have hP : va_P (dC, dI) classes (lz_W cA ad ((ss, sp, fo, ba, no, en, vs, vf, vg), SM, PM, XM, YM)) H := hP
    have hD : va_D A (lz_W cA ad ((ss, sp, fo, ba, no, en, vs, vf, vg), SM, PM, XM, YM)) := hD
    refine lm_vi (b := ad 1) (As := [.int en, .int (t_xs YM x.toNatClampNeg)]) (rest := []) (wr := (ma_W cA ad (ss, sp, fo, ba, no, en, vs, vf, vg)) ++ (pl_W cA (fun k => ad (k + 8)) PM) ++ (tm_W cA (fun k => ad (k + 12)) XM) ++ (tm_W cA (fun k => ad (k + 19)) YM)) ⟨hx, hb, hml, hown, hts⟩ hK hP hD hS hA [1, 2, 3, 4, 5, 6, 7] [0, 8, 9, 10, 11, 12, 13, 14, 15, 16, 17, 18, 19, 20, 21, 22, 23, 24, 25] rfl rfl (by decide) (by decide) (by decide) (c_Heap_boundTo l dC dI cA (fun k => ad (k + 1)) _ SM en (t_xs YM x.toNatClampNeg) (by exact he) (by exact ht.2 _ (hp_in_lt hx1 (by decide)) h8) (by exact hs)) (cwV 2 hts (lm_gV m_11_15 m_11_16 m_11_17 m_0_2 m_11_18) rfl rfl rfl (by decide +kernel) ⟨Nat.le_of_ble_eq_true rfl, Nat.le_of_ble_eq_true rfl⟩) (va_recv (q0 := 1) hK hP rfl rfl) lm_bl_no (fun _ _ _ => trivial) hl.1 rfl rfl (Nat.le_of_ble_eq_true rfl) d_LazyMachine_thunkFor_27 ⟨Nat.le_of_ble_eq_true rfl, Nat.le_of_ble_eq_true rfl⟩ (fun r27 u27 H locs w27 hP hD hS => ?_)
    obtain ⟨e_r27, w27⟩ := w27
    replace w27 := w27.symm
    subst w27
    have hP : va_P (dC, dI) classes (lz_W cA ad ((ss, sp, fo, ba, no, en, vs, vf, vg), SM, PM, XM, YM)) H := hP.sub [0, 19, 20, 21, 22, 23, 24, 25, 1, 2, 3, 4, 5, 6, 7, 8, 9, 10, 11, 12, 13, 14, 15, 16, 17, 18] rfl
    have hD : va_D A (lz_W cA ad ((ss, sp, fo, ba, no, en, vs, vf, vg), SM, PM, XM, YM)) := hD.sub [0, 19, 20, 21, 22, 23, 24, 25, 1, 2, 3, 4, 5, 6, 7, 8, 9, 10, 11, 12, 13, 14, 15, 16, 17, 18] (by decide) rfl
    refine lm_ri (v := r27) hx hb hr hlocks ((ss, sp, fo, ba, no, en, vs, vf, vg), SM, PM, XM, YM) ?_ hP hK hD hS d_LazyMachine_thunkFor_30
    subst e_r27; unfold ma_thunk; first | (rw [if_pos h8]; exact ⟨rfl, rfl⟩) | (rw [if_neg h8]; exact ⟨rfl, rfl⟩)
