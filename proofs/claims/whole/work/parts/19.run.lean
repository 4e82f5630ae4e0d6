set_option maxHeartbeats 4000000 in
set_option maxRecDepth 100000 in
theorem c_LazyMachine_stepAt (l : Launch) (dC : Nat → ClassId) (dI : Nat → Nat → Nat) (cA : ClassId)  (ad : Nat → Nat) (sz : Nat) (M : ZMS)  (hsf : sf_at M) : Met l y_LazyMachine_stepAt w_LazyMachine_stepAt ({ frames := 5, cells := 0, slots := 0, locals := 110 } : Room) (va_Pc [.ref (ad 0)] (lm_pre (dC, dI) classes [(cA, .int)] (lz_W cA ad M) sz lm_no)) (va_Qi (fun (r : Int32) (u : ZMS) => r = (ma_at M).1 ∧ u = (ma_at M).2) (fun u => lm_at (dC, dI) classes [(cA, .int)] (va_A (lz_W cA ad M) sz) (lz_W cA ad u)) (va_A (lz_W cA ad M) sz)) 0 0 (va_A (lz_W cA ad M) sz) := by
  obtain ⟨⟨ss, sp, fo, ba, no, en, vs, vf, vg⟩, SM, PM, XM, YM⟩ := M
  obtain ⟨hi, ht, hn, he, hbd⟩ := hsf
  refine lm_met (fun A => va_Qi (fun (r : Int32) (u : ZMS) => r = (ma_at ((ss, sp, fo, ba, no, en, vs, vf, vg), SM, PM, XM, YM)).1 ∧ u = (ma_at ((ss, sp, fo, ba, no, en, vs, vf, vg), SM, PM, XM, YM)).2) (fun u => lm_at (dC, dI) classes [(cA, .int)] A (lz_W cA ad u)) A) (by decide) rfl (Nat.le_of_ble_eq_true rfl) ?_
  intro p e s m below meth c A hx hb hr hts hown hlocks hname hml hK hP hD hA hE hsz hAe hS ls hl
  replace hl : lv_has ls 1 [(0, .ref (ad 0))] := hl
  clear hAe hsz
  refine lv_aload_n hx hb d_LazyMachine_stepAt_0 rfl (lv_at hl 0 rfl) ?_
  refine va_get (D := (dC, dI)) (ci := 0) (v := .ref (ad 19)) (C := R_LazyMachine) (T := F_LazyMachine) (N := 13) hx hb hts (fun q hq => List.mem_cons_of_mem _ (i_LazyMachine q hq)) hown hK hP 0 rfl rfl 3 (by decide) (hts _ (List.mem_cons_of_mem _ m_2_10)) (fun _ h9 => h9) rfl d_LazyMachine_stepAt_1 ?_
  refine lv_aload_n hx hb d_LazyMachine_stepAt_4 rfl (lv_at hl 0 rfl) ?_
  refine va_get (D := (dC, dI)) (ci := 0) (v := .int no) (C := R_LazyMachine) (T := F_LazyMachine) (N := 13) hx hb hts (fun q hq => List.mem_cons_of_mem _ (i_LazyMachine q hq)) hown hK hP 0 rfl rfl 8 (by decide) (hts _ (List.mem_cons_of_mem _ m_2_15)) (fun _ h9 => h9) rfl d_LazyMachine_stepAt_5 ?_
  refine lm_vi (b := ad 19) (As := [.int no]) (rest := []) (wr := (ma_W cA ad (ss, sp, fo, ba, no, en, vs, vf, vg)) ++ (hp_W cA (fun k => ad (k + 1)) SM) ++ (pl_W cA (fun k => ad (k + 8)) PM) ++ (tm_W cA (fun k => ad (k + 12)) XM)) ⟨hx, hb, hml, hown, hts⟩ hK hP hD hS hA [19, 20, 21, 22, 23, 24, 25] [0, 1, 2, 3, 4, 5, 6, 7, 8, 9, 10, 11, 12, 13, 14, 15, 16, 17, 18] rfl rfl (by decide) (by decide) (by decide) (c_Term_sort l dC dI cA (fun k => ad (k + 19)) _ YM no (by exact hn)) (cwV 1 hts (lm_gV m_10_0 m_10_1 m_10_2 m_0_4 m_10_3) rfl rfl rfl (by decide +kernel) ⟨Nat.le_of_ble_eq_true rfl, Nat.le_of_ble_eq_true rfl⟩) (va_recv (q0 := 19) hK hP rfl rfl) lm_bl_no (fun _ _ _ => trivial) hl.1 rfl rfl (Nat.le_of_ble_eq_true rfl) d_LazyMachine_stepAt_8 ⟨Nat.le_of_ble_eq_true rfl, Nat.le_of_ble_eq_true rfl⟩ (fun r8 u8 H locs w8 hP hD hS => ?_)
  obtain ⟨e_r8, w8⟩ := w8
  replace e_r8 := e_r8.symm
  subst e_r8
  replace w8 := w8.symm
  subst w8
  have hP : va_P (dC, dI) classes (lz_W cA ad ((ss, sp, fo, ba, no, en, vs, vf, vg), SM, PM, XM, YM)) H := hP
  have hD : va_D A (lz_W cA ad ((ss, sp, fo, ba, no, en, vs, vf, vg), SM, PM, XM, YM)) := hD
  by_cases h11_0 : (t_so YM no.toNatClampNeg) = 0
  · refine lv_tableIn (tgt := 80) hx hb d_LazyMachine_stepAt_11 (by rw [h11_0]; decide) (by rw [h11_0]; decide) (by rw [h11_0]; rfl) rfl ?_
    refine lv_aload_n hx hb d_LazyMachine_stepAt_80 rfl (lv_at hl 0 rfl) ?_
    refine lv_aload_n hx hb d_LazyMachine_stepAt_81 rfl (lv_at hl 0 rfl) ?_
    refine va_get (D := (dC, dI)) (ci := 0) (v := .ref (ad 1)) (C := R_LazyMachine) (T := F_LazyMachine) (N := 13) hx hb hts (fun q hq => List.mem_cons_of_mem _ (i_LazyMachine q hq)) hown hK hP 0 rfl rfl 0 (by decide) (hts _ (List.mem_cons_of_mem _ m_2_7)) (fun _ h9 => h9) rfl d_LazyMachine_stepAt_82 ?_
    refine lv_aload_n hx hb d_LazyMachine_stepAt_85 rfl (lv_at hl 0 rfl) ?_
    refine va_get (D := (dC, dI)) (ci := 0) (v := .int en) (C := R_LazyMachine) (T := F_LazyMachine) (N := 13) hx hb hts (fun q hq => List.mem_cons_of_mem _ (i_LazyMachine q hq)) hown hK hP 0 rfl rfl 9 (by decide) (hts _ (List.mem_cons_of_mem _ m_2_16)) (fun _ h9 => h9) rfl d_LazyMachine_stepAt_86 ?_
    refine lv_aload_n hx hb d_LazyMachine_stepAt_89 rfl (lv_at hl 0 rfl) ?_
    refine va_get (D := (dC, dI)) (ci := 0) (v := .ref (ad 19)) (C := R_LazyMachine) (T := F_LazyMachine) (N := 13) hx hb hts (fun q hq => List.mem_cons_of_mem _ (i_LazyMachine q hq)) hown hK hP 0 rfl rfl 3 (by decide) (hts _ (List.mem_cons_of_mem _ m_2_10)) (fun _ h9 => h9) rfl d_LazyMachine_stepAt_90 ?_
    refine lv_aload_n hx hb d_LazyMachine_stepAt_93 rfl (lv_at hl 0 rfl) ?_
    refine va_get (D := (dC, dI)) (ci := 0) (v := .int no) (C := R_LazyMachine) (T := F_LazyMachine) (N := 13) hx hb hts (fun q hq => List.mem_cons_of_mem _ (i_LazyMachine q hq)) hown hK hP 0 rfl rfl 8 (by decide) (hts _ (List.mem_cons_of_mem _ m_2_15)) (fun _ h9 => h9) rfl d_LazyMachine_stepAt_94 ?_
    refine lm_vi (b := ad 19) (As := [.int no]) (rest := [.int en, .ref (ad 1), .ref (ad 0)]) (wr := (ma_W cA ad (ss, sp, fo, ba, no, en, vs, vf, vg)) ++ (hp_W cA (fun k => ad (k + 1)) SM) ++ (pl_W cA (fun k => ad (k + 8)) PM) ++ (tm_W cA (fun k => ad (k + 12)) XM)) ⟨hx, hb, hml, hown, hts⟩ hK hP hD hS hA [19, 20, 21, 22, 23, 24, 25] [0, 1, 2, 3, 4, 5, 6, 7, 8, 9, 10, 11, 12, 13, 14, 15, 16, 17, 18] rfl rfl (by decide) (by decide) (by decide) (c_Term_x l dC dI cA (fun k => ad (k + 19)) _ YM no (by exact hn)) (cwV 1 hts (lm_gV m_11_11 m_11_12 m_11_13 m_0_4 m_11_14) rfl rfl rfl (by decide +kernel) ⟨Nat.le_of_ble_eq_true rfl, Nat.le_of_ble_eq_true rfl⟩) (va_recv (q0 := 19) hK hP rfl rfl) lm_bl_no (fun _ _ _ => trivial) hl.1 rfl rfl (Nat.le_of_ble_eq_true rfl) d_LazyMachine_stepAt_97 ⟨Nat.le_of_ble_eq_true rfl, Nat.le_of_ble_eq_true rfl⟩ (fun r97 u97 H locs w97 hP hD hS => ?_)
    obtain ⟨e_r97, w97⟩ := w97
    replace e_r97 := e_r97.symm
    subst e_r97
    replace w97 := w97.symm
    subst w97
    have hP : va_P (dC, dI) classes (lz_W cA ad ((ss, sp, fo, ba, no, en, vs, vf, vg), SM, PM, XM, YM)) H := hP
    have hD : va_D A (lz_W cA ad ((ss, sp, fo, ba, no, en, vs, vf, vg), SM, PM, XM, YM)) := hD
    refine lm_vi (b := ad 1) (As := [.int en, .int (t_xs YM no.toNatClampNeg)]) (rest := [.ref (ad 0)]) (wr := (ma_W cA ad (ss, sp, fo, ba, no, en, vs, vf, vg)) ++ (pl_W cA (fun k => ad (k + 8)) PM) ++ (tm_W cA (fun k => ad (k + 12)) XM) ++ (tm_W cA (fun k => ad (k + 19)) YM)) ⟨hx, hb, hml, hown, hts⟩ hK hP hD hS hA [1, 2, 3, 4, 5, 6, 7] [0, 8, 9, 10, 11, 12, 13, 14, 15, 16, 17, 18, 19, 20, 21, 22, 23, 24, 25] rfl rfl (by decide) (by decide) (by decide) (c_Heap_boundTo l dC dI cA (fun k => ad (k + 1)) _ SM en (t_xs YM no.toNatClampNeg) (by exact he) (by exact ht.2 _ (hp_in_lt hn (by decide)) h11_0) (by exact fun j hj => (hi.1 j hj).2)) (cwV 2 hts (lm_gV m_11_15 m_11_16 m_11_17 m_0_2 m_11_18) rfl rfl rfl (by decide +kernel) ⟨Nat.le_of_ble_eq_true rfl, Nat.le_of_ble_eq_true rfl⟩) (va_recv (q0 := 1) hK hP rfl rfl) lm_bl_no (fun _ _ _ => trivial) hl.1 rfl rfl (Nat.le_of_ble_eq_true rfl) d_LazyMachine_stepAt_100 ⟨Nat.le_of_ble_eq_true rfl, Nat.le_of_ble_eq_true rfl⟩ (fun r100 u100 H locs w100 hP hD hS => ?_)
    obtain ⟨e_r100, w100⟩ := w100
    replace w100 := w100.symm
    subst w100
    have hP : va_P (dC, dI) classes (lz_W cA ad ((ss, sp, fo, ba, no, en, vs, vf, vg), SM, PM, XM, YM)) H := hP.sub [0, 19, 20, 21, 22, 23, 24, 25, 1, 2, 3, 4, 5, 6, 7, 8, 9, 10, 11, 12, 13, 14, 15, 16, 17, 18] rfl
    have hD : va_D A (lz_W cA ad ((ss, sp, fo, ba, no, en, vs, vf, vg), SM, PM, XM, YM)) := hD.sub [0, 19, 20, 21, 22, 23, 24, 25, 1, 2, 3, 4, 5, 6, 7, 8, 9, 10, 11, 12, 13, 14, 15, 16, 17, 18] (by decide) rfl
    refine lm_vi (b := ad 0) (As := [.int r100]) (rest := []) (wr := ([] : va_W)) ⟨hx, hb, hml, hown, hts⟩ hK hP hD hS hA [0, 1, 2, 3, 4, 5, 6, 7, 8, 9, 10, 11, 12, 13, 14, 15, 16, 17, 18, 19, 20, 21, 22, 23, 24, 25] [] rfl rfl (by decide) (by decide) (by decide) (c_LazyMachine_ask l dC dI cA ad _ ((ss, sp, fo, ba, no, en, vs, vf, vg), SM, PM, XM, YM) r100 (by rw [e_r100]; exact hbd h11_0) (by exact hi.2.2.1)) (cwV 1 hts (lm_gV m_10_20 m_10_21 m_19_17 m_0_1 m_10_22) rfl rfl rfl (by decide +kernel) ⟨Nat.le_of_ble_eq_true rfl, Nat.le_of_ble_eq_true rfl⟩) (va_recv (q0 := 0) hK hP rfl rfl) lm_bl_no (fun _ _ _ => trivial) hl.1 rfl rfl (Nat.le_of_ble_eq_true rfl) d_LazyMachine_stepAt_103 ⟨Nat.le_of_ble_eq_true rfl, Nat.le_of_ble_eq_true rfl⟩ (fun r103 u103 H locs w103 hP hD hS => ?_)
    obtain ⟨e_r103, w103⟩ := w103
    have hP : va_P (dC, dI) classes (lz_W cA ad u103) H := hP
    have hD : va_D A (lz_W cA ad u103) := hD
    refine lm_ri (v := r103) hx hb hr hlocks u103 ?_ hP hK hD hS d_LazyMachine_stepAt_106
    subst e_r100 e_r103 w103; unfold ma_at; rw [if_pos h11_0]; exact ⟨rfl, rfl⟩
  by_cases h11_1 : (t_so YM no.toNatClampNeg) = 1
  · refine lv_tableIn (tgt := 107) hx hb d_LazyMachine_stepAt_11 (by rw [h11_1]; decide) (by rw [h11_1]; decide) (by rw [h11_1]; rfl) rfl ?_
    refine lv_aload_n hx hb d_LazyMachine_stepAt_107 rfl (lv_at hl 0 rfl) ?_
    refine lv_iconst (v := 1) hx hb d_LazyMachine_stepAt_108 (by decide) ?_
    refine lv_aload_n hx hb d_LazyMachine_stepAt_109 rfl (lv_at hl 0 rfl) ?_
    refine va_get (D := (dC, dI)) (ci := 0) (v := .int no) (C := R_LazyMachine) (T := F_LazyMachine) (N := 13) hx hb hts (fun q hq => List.mem_cons_of_mem _ (i_LazyMachine q hq)) hown hK hP 0 rfl rfl 8 (by decide) (hts _ (List.mem_cons_of_mem _ m_2_15)) (fun _ h9 => h9) rfl d_LazyMachine_stepAt_110 ?_
    refine lv_aload_n hx hb d_LazyMachine_stepAt_113 rfl (lv_at hl 0 rfl) ?_
    refine va_get (D := (dC, dI)) (ci := 0) (v := .int en) (C := R_LazyMachine) (T := F_LazyMachine) (N := 13) hx hb hts (fun q hq => List.mem_cons_of_mem _ (i_LazyMachine q hq)) hown hK hP 0 rfl rfl 9 (by decide) (hts _ (List.mem_cons_of_mem _ m_2_16)) (fun _ h9 => h9) rfl d_LazyMachine_stepAt_114 ?_
    refine lm_vi (b := ad 0) (As := [.int 1, .int no, .int en]) (rest := []) (wr := ([] : va_W)) ⟨hx, hb, hml, hown, hts⟩ hK hP hD hS hA [0, 1, 2, 3, 4, 5, 6, 7, 8, 9, 10, 11, 12, 13, 14, 15, 16, 17, 18, 19, 20, 21, 22, 23, 24, 25] [] rfl rfl (by decide) (by decide) (by decide) (c_LazyMachine_backWith l dC dI cA ad _ ((ss, sp, fo, ba, no, en, vs, vf, vg), SM, PM, XM, YM) 1 no en ) (cwV 3 hts (lm_gV m_10_7 m_10_8 m_19_14 m_0_1 m_10_9) rfl rfl rfl (by decide +kernel) ⟨Nat.le_of_ble_eq_true rfl, Nat.le_of_ble_eq_true rfl⟩) (va_recv (q0 := 0) hK hP rfl rfl) lm_bl_no (fun _ _ _ => trivial) hl.1 rfl rfl (Nat.le_of_ble_eq_true rfl) d_LazyMachine_stepAt_117 ⟨Nat.le_of_ble_eq_true rfl, Nat.le_of_ble_eq_true rfl⟩ (fun r117 u117 H locs w117 hP hD hS => ?_)
    obtain ⟨e_r117, w117⟩ := w117
    replace e_r117 := e_r117.symm
    subst e_r117
    have w117 : u117 = ((ss, sp, fo, 1, no, en, 1, no, en), SM, PM, XM, YM) := w117
    subst w117
    have hP : va_P (dC, dI) classes (lz_W cA ad ((ss, sp, fo, 1, no, en, 1, no, en), SM, PM, XM, YM)) H := hP
    have hD : va_D A (lz_W cA ad ((ss, sp, fo, 1, no, en, 1, no, en), SM, PM, XM, YM)) := hD
    refine lm_ri (v := 1) hx hb hr hlocks ((ss, sp, fo, 1, no, en, 1, no, en), SM, PM, XM, YM) ?_ hP hK hD hS d_LazyMachine_stepAt_120
    unfold ma_at; rw [if_neg h11_0]; rw [if_pos h11_1]; exact ⟨rfl, rfl⟩
  by_cases h11_2 : (t_so YM no.toNatClampNeg) = 2
  · refine lv_tableIn (tgt := 121) hx hb d_LazyMachine_stepAt_11 (by rw [h11_2]; decide) (by rw [h11_2]; decide) (by rw [h11_2]; rfl) rfl ?_
    refine lv_aload_n hx hb d_LazyMachine_stepAt_121 rfl (lv_at hl 0 rfl) ?_
    refine lm_vi (b := ad 0) (As := []) (rest := []) (wr := ([] : va_W)) ⟨hx, hb, hml, hown, hts⟩ hK hP hD hS hA [0, 1, 2, 3, 4, 5, 6, 7, 8, 9, 10, 11, 12, 13, 14, 15, 16, 17, 18, 19, 20, 21, 22, 23, 24, 25] [] rfl rfl (by decide) (by decide) (by decide) (c_LazyMachine_stepApply l dC dI cA ad _ ((ss, sp, fo, ba, no, en, vs, vf, vg), SM, PM, XM, YM)  (by exact hi) (by exact ht) (by exact hn) (by exact he)) (cwV 0 hts (lm_gV m_11_20 m_11_21 m_19_19 m_0_1 m_11_22) rfl rfl rfl (by decide +kernel) ⟨Nat.le_of_ble_eq_true rfl, Nat.le_of_ble_eq_true rfl⟩) (va_recv (q0 := 0) hK hP rfl rfl) lm_bl_no (fun _ _ _ => trivial) hl.1 rfl rfl (Nat.le_of_ble_eq_true rfl) d_LazyMachine_stepAt_122 ⟨Nat.le_of_ble_eq_true rfl, Nat.le_of_ble_eq_true rfl⟩ (fun r122 u122 H locs w122 hP hD hS => ?_)
    obtain ⟨e_r122, w122⟩ := w122
    have hP : va_P (dC, dI) classes (lz_W cA ad u122) H := hP
    have hD : va_D A (lz_W cA ad u122) := hD
    refine lm_ri (v := r122) hx hb hr hlocks u122 ?_ hP hK hD hS d_LazyMachine_stepAt_125
    subst e_r122 w122; unfold ma_at; rw [if_neg h11_0]; rw [if_neg h11_1]; rw [if_pos h11_2]; exact ⟨rfl, rfl⟩
  by_cases h11_3 : (t_so YM no.toNatClampNeg) = 3
  · refine lv_tableIn (tgt := 126) hx hb d_LazyMachine_stepAt_11 (by rw [h11_3]; decide) (by rw [h11_3]; decide) (by rw [h11_3]; rfl) rfl ?_
    refine lv_aload_n hx hb d_LazyMachine_stepAt_126 rfl (lv_at hl 0 rfl) ?_
    refine lv_iconst (v := 0) hx hb d_LazyMachine_stepAt_127 (by decide) ?_
    refine lv_aload_n hx hb d_LazyMachine_stepAt_128 rfl (lv_at hl 0 rfl) ?_
    refine va_get (D := (dC, dI)) (ci := 0) (v := .ref (ad 19)) (C := R_LazyMachine) (T := F_LazyMachine) (N := 13) hx hb hts (fun q hq => List.mem_cons_of_mem _ (i_LazyMachine q hq)) hown hK hP 0 rfl rfl 3 (by decide) (hts _ (List.mem_cons_of_mem _ m_2_10)) (fun _ h9 => h9) rfl d_LazyMachine_stepAt_129 ?_
    refine lv_aload_n hx hb d_LazyMachine_stepAt_132 rfl (lv_at hl 0 rfl) ?_
    refine va_get (D := (dC, dI)) (ci := 0) (v := .int no) (C := R_LazyMachine) (T := F_LazyMachine) (N := 13) hx hb hts (fun q hq => List.mem_cons_of_mem _ (i_LazyMachine q hq)) hown hK hP 0 rfl rfl 8 (by decide) (hts _ (List.mem_cons_of_mem _ m_2_15)) (fun _ h9 => h9) rfl d_LazyMachine_stepAt_133 ?_
    refine lm_vi (b := ad 19) (As := [.int no]) (rest := [.int 0, .ref (ad 0)]) (wr := (ma_W cA ad (ss, sp, fo, ba, no, en, vs, vf, vg)) ++ (hp_W cA (fun k => ad (k + 1)) SM) ++ (pl_W cA (fun k => ad (k + 8)) PM) ++ (tm_W cA (fun k => ad (k + 12)) XM)) ⟨hx, hb, hml, hown, hts⟩ hK hP hD hS hA [19, 20, 21, 22, 23, 24, 25] [0, 1, 2, 3, 4, 5, 6, 7, 8, 9, 10, 11, 12, 13, 14, 15, 16, 17, 18] rfl rfl (by decide) (by decide) (by decide) (c_Term_x l dC dI cA (fun k => ad (k + 19)) _ YM no (by exact hn)) (cwV 1 hts (lm_gV m_11_11 m_11_12 m_11_13 m_0_4 m_11_14) rfl rfl rfl (by decide +kernel) ⟨Nat.le_of_ble_eq_true rfl, Nat.le_of_ble_eq_true rfl⟩) (va_recv (q0 := 19) hK hP rfl rfl) lm_bl_no (fun _ _ _ => trivial) hl.1 rfl rfl (Nat.le_of_ble_eq_true rfl) d_LazyMachine_stepAt_136 ⟨Nat.le_of_ble_eq_true rfl, Nat.le_of_ble_eq_true rfl⟩ (fun r136 u136 H locs w136 hP hD hS => ?_)
    obtain ⟨e_r136, w136⟩ := w136
    replace e_r136 := e_r136.symm
    subst e_r136
    replace w136 := w136.symm
    subst w136
    have hP : va_P (dC, dI) classes (lz_W cA ad ((ss, sp, fo, ba, no, en, vs, vf, vg), SM, PM, XM, YM)) H := hP
    have hD : va_D A (lz_W cA ad ((ss, sp, fo, ba, no, en, vs, vf, vg), SM, PM, XM, YM)) := hD
    refine lv_iconst (v := -1) hx hb d_LazyMachine_stepAt_139 (by decide) ?_
    refine lm_vi (b := ad 0) (As := [.int 0, .int (t_xs YM no.toNatClampNeg), .int (-1)]) (rest := []) (wr := ([] : va_W)) ⟨hx, hb, hml, hown, hts⟩ hK hP hD hS hA [0, 1, 2, 3, 4, 5, 6, 7, 8, 9, 10, 11, 12, 13, 14, 15, 16, 17, 18, 19, 20, 21, 22, 23, 24, 25] [] rfl rfl (by decide) (by decide) (by decide) (c_LazyMachine_backWith l dC dI cA ad _ ((ss, sp, fo, ba, no, en, vs, vf, vg), SM, PM, XM, YM) 0 (t_xs YM no.toNatClampNeg) (-1) ) (cwV 3 hts (lm_gV m_10_7 m_10_8 m_19_14 m_0_1 m_10_9) rfl rfl rfl (by decide +kernel) ⟨Nat.le_of_ble_eq_true rfl, Nat.le_of_ble_eq_true rfl⟩) (va_recv (q0 := 0) hK hP rfl rfl) lm_bl_no (fun _ _ _ => trivial) hl.1 rfl rfl (Nat.le_of_ble_eq_true rfl) d_LazyMachine_stepAt_140 ⟨Nat.le_of_ble_eq_true rfl, Nat.le_of_ble_eq_true rfl⟩ (fun r140 u140 H locs w140 hP hD hS => ?_)
    obtain ⟨e_r140, w140⟩ := w140
    replace e_r140 := e_r140.symm
    subst e_r140
    have w140 : u140 = ((ss, sp, fo, 1, no, en, 0, (t_xs YM no.toNatClampNeg), (-1)), SM, PM, XM, YM) := w140
    subst w140
    have hP : va_P (dC, dI) classes (lz_W cA ad ((ss, sp, fo, 1, no, en, 0, (t_xs YM no.toNatClampNeg), (-1)), SM, PM, XM, YM)) H := hP
    have hD : va_D A (lz_W cA ad ((ss, sp, fo, 1, no, en, 0, (t_xs YM no.toNatClampNeg), (-1)), SM, PM, XM, YM)) := hD
    refine lm_ri (v := 1) hx hb hr hlocks ((ss, sp, fo, 1, no, en, 0, (t_xs YM no.toNatClampNeg), (-1)), SM, PM, XM, YM) ?_ hP hK hD hS d_LazyMachine_stepAt_143
    unfold ma_at; rw [if_neg h11_0]; rw [if_neg h11_1]; rw [if_neg h11_2]; rw [if_pos h11_3]; exact ⟨rfl, rfl⟩
  by_cases h11_4 : (t_so YM no.toNatClampNeg) = 4
  · refine lv_tableIn (tgt := 189) hx hb d_LazyMachine_stepAt_11 (by rw [h11_4]; decide) (by rw [h11_4]; decide) (by rw [h11_4]; rfl) rfl ?_
    refine lv_aload_n hx hb d_LazyMachine_stepAt_189 rfl (lv_at hl 0 rfl) ?_
    refine lv_iconst (v := 2) hx hb d_LazyMachine_stepAt_190 (by decide) ?_
    refine lv_aload_n hx hb d_LazyMachine_stepAt_191 rfl (lv_at hl 0 rfl) ?_
    refine va_get (D := (dC, dI)) (ci := 0) (v := .int no) (C := R_LazyMachine) (T := F_LazyMachine) (N := 13) hx hb hts (fun q hq => List.mem_cons_of_mem _ (i_LazyMachine q hq)) hown hK hP 0 rfl rfl 8 (by decide) (hts _ (List.mem_cons_of_mem _ m_2_15)) (fun _ h9 => h9) rfl d_LazyMachine_stepAt_192 ?_
    refine lv_aload_n hx hb d_LazyMachine_stepAt_195 rfl (lv_at hl 0 rfl) ?_
    refine va_get (D := (dC, dI)) (ci := 0) (v := .int en) (C := R_LazyMachine) (T := F_LazyMachine) (N := 13) hx hb hts (fun q hq => List.mem_cons_of_mem _ (i_LazyMachine q hq)) hown hK hP 0 rfl rfl 9 (by decide) (hts _ (List.mem_cons_of_mem _ m_2_16)) (fun _ h9 => h9) rfl d_LazyMachine_stepAt_196 ?_
    refine lm_vi (b := ad 0) (As := [.int 2, .int no, .int en]) (rest := []) (wr := ([] : va_W)) ⟨hx, hb, hml, hown, hts⟩ hK hP hD hS hA [0, 1, 2, 3, 4, 5, 6, 7, 8, 9, 10, 11, 12, 13, 14, 15, 16, 17, 18, 19, 20, 21, 22, 23, 24, 25] [] rfl rfl (by decide) (by decide) (by decide) (c_LazyMachine_stepUnder l dC dI cA ad _ ((ss, sp, fo, ba, no, en, vs, vf, vg), SM, PM, XM, YM) 2 no en (by exact hi.2.2.1) (by exact hn)) (cwV 3 hts (lm_gV m_12_5 m_12_6 m_19_22 m_0_1 m_12_7) rfl rfl rfl (by decide +kernel) ⟨Nat.le_of_ble_eq_true rfl, Nat.le_of_ble_eq_true rfl⟩) (va_recv (q0 := 0) hK hP rfl rfl) lm_bl_no (fun _ _ _ => trivial) hl.1 rfl rfl (Nat.le_of_ble_eq_true rfl) d_LazyMachine_stepAt_199 ⟨Nat.le_of_ble_eq_true rfl, Nat.le_of_ble_eq_true rfl⟩ (fun r199 u199 H locs w199 hP hD hS => ?_)
    obtain ⟨e_r199, w199⟩ := w199
    have hP : va_P (dC, dI) classes (lz_W cA ad u199) H := hP
    have hD : va_D A (lz_W cA ad u199) := hD
    refine lm_ri (v := r199) hx hb hr hlocks u199 ?_ hP hK hD hS d_LazyMachine_stepAt_202
    subst e_r199 w199; unfold ma_at; rw [if_neg h11_0]; rw [if_neg h11_1]; rw [if_neg h11_2]; rw [if_neg h11_3]; rw [if_neg (by rw [h11_4]; decide)]; rw [if_neg (by rw [h11_4]; decide)]; rw [if_neg (by rw [h11_4]; decide)]; rw [if_neg (by rw [h11_4]; decide)]; rw [if_neg (by rw [h11_4]; decide)]; rw [if_neg (by rw [h11_4]; decide)]; exact ⟨rfl, rfl⟩
  by_cases h11_5 : (t_so YM no.toNatClampNeg) = 5
  · refine lv_tableIn (tgt := 189) hx hb d_LazyMachine_stepAt_11 (by rw [h11_5]; decide) (by rw [h11_5]; decide) (by rw [h11_5]; rfl) rfl ?_
    refine lv_aload_n hx hb d_LazyMachine_stepAt_189 rfl (lv_at hl 0 rfl) ?_
    refine lv_iconst (v := 2) hx hb d_LazyMachine_stepAt_190 (by decide) ?_
    refine lv_aload_n hx hb d_LazyMachine_stepAt_191 rfl (lv_at hl 0 rfl) ?_
    refine va_get (D := (dC, dI)) (ci := 0) (v := .int no) (C := R_LazyMachine) (T := F_LazyMachine) (N := 13) hx hb hts (fun q hq => List.mem_cons_of_mem _ (i_LazyMachine q hq)) hown hK hP 0 rfl rfl 8 (by decide) (hts _ (List.mem_cons_of_mem _ m_2_15)) (fun _ h9 => h9) rfl d_LazyMachine_stepAt_192 ?_
    refine lv_aload_n hx hb d_LazyMachine_stepAt_195 rfl (lv_at hl 0 rfl) ?_
    refine va_get (D := (dC, dI)) (ci := 0) (v := .int en) (C := R_LazyMachine) (T := F_LazyMachine) (N := 13) hx hb hts (fun q hq => List.mem_cons_of_mem _ (i_LazyMachine q hq)) hown hK hP 0 rfl rfl 9 (by decide) (hts _ (List.mem_cons_of_mem _ m_2_16)) (fun _ h9 => h9) rfl d_LazyMachine_stepAt_196 ?_
    refine lm_vi (b := ad 0) (As := [.int 2, .int no, .int en]) (rest := []) (wr := ([] : va_W)) ⟨hx, hb, hml, hown, hts⟩ hK hP hD hS hA [0, 1, 2, 3, 4, 5, 6, 7, 8, 9, 10, 11, 12, 13, 14, 15, 16, 17, 18, 19, 20, 21, 22, 23, 24, 25] [] rfl rfl (by decide) (by decide) (by decide) (c_LazyMachine_stepUnder l dC dI cA ad _ ((ss, sp, fo, ba, no, en, vs, vf, vg), SM, PM, XM, YM) 2 no en (by exact hi.2.2.1) (by exact hn)) (cwV 3 hts (lm_gV m_12_5 m_12_6 m_19_22 m_0_1 m_12_7) rfl rfl rfl (by decide +kernel) ⟨Nat.le_of_ble_eq_true rfl, Nat.le_of_ble_eq_true rfl⟩) (va_recv (q0 := 0) hK hP rfl rfl) lm_bl_no (fun _ _ _ => trivial) hl.1 rfl rfl (Nat.le_of_ble_eq_true rfl) d_LazyMachine_stepAt_199 ⟨Nat.le_of_ble_eq_true rfl, Nat.le_of_ble_eq_true rfl⟩ (fun r199 u199 H locs w199 hP hD hS => ?_)
    obtain ⟨e_r199, w199⟩ := w199
    have hP : va_P (dC, dI) classes (lz_W cA ad u199) H := hP
    have hD : va_D A (lz_W cA ad u199) := hD
    refine lm_ri (v := r199) hx hb hr hlocks u199 ?_ hP hK hD hS d_LazyMachine_stepAt_202
    subst e_r199 w199; unfold ma_at; rw [if_neg h11_0]; rw [if_neg h11_1]; rw [if_neg h11_2]; rw [if_neg h11_3]; rw [if_neg (by rw [h11_5]; decide)]; rw [if_neg (by rw [h11_5]; decide)]; rw [if_neg (by rw [h11_5]; decide)]; rw [if_neg (by rw [h11_5]; decide)]; rw [if_neg (by rw [h11_5]; decide)]; rw [if_neg (by rw [h11_5]; decide)]; exact ⟨rfl, rfl⟩
  by_cases h11_6 : (t_so YM no.toNatClampNeg) = 6
  · refine lv_tableIn (tgt := 189) hx hb d_LazyMachine_stepAt_11 (by rw [h11_6]; decide) (by rw [h11_6]; decide) (by rw [h11_6]; rfl) rfl ?_
    refine lv_aload_n hx hb d_LazyMachine_stepAt_189 rfl (lv_at hl 0 rfl) ?_
    refine lv_iconst (v := 2) hx hb d_LazyMachine_stepAt_190 (by decide) ?_
    refine lv_aload_n hx hb d_LazyMachine_stepAt_191 rfl (lv_at hl 0 rfl) ?_
    refine va_get (D := (dC, dI)) (ci := 0) (v := .int no) (C := R_LazyMachine) (T := F_LazyMachine) (N := 13) hx hb hts (fun q hq => List.mem_cons_of_mem _ (i_LazyMachine q hq)) hown hK hP 0 rfl rfl 8 (by decide) (hts _ (List.mem_cons_of_mem _ m_2_15)) (fun _ h9 => h9) rfl d_LazyMachine_stepAt_192 ?_
    refine lv_aload_n hx hb d_LazyMachine_stepAt_195 rfl (lv_at hl 0 rfl) ?_
    refine va_get (D := (dC, dI)) (ci := 0) (v := .int en) (C := R_LazyMachine) (T := F_LazyMachine) (N := 13) hx hb hts (fun q hq => List.mem_cons_of_mem _ (i_LazyMachine q hq)) hown hK hP 0 rfl rfl 9 (by decide) (hts _ (List.mem_cons_of_mem _ m_2_16)) (fun _ h9 => h9) rfl d_LazyMachine_stepAt_196 ?_
    refine lm_vi (b := ad 0) (As := [.int 2, .int no, .int en]) (rest := []) (wr := ([] : va_W)) ⟨hx, hb, hml, hown, hts⟩ hK hP hD hS hA [0, 1, 2, 3, 4, 5, 6, 7, 8, 9, 10, 11, 12, 13, 14, 15, 16, 17, 18, 19, 20, 21, 22, 23, 24, 25] [] rfl rfl (by decide) (by decide) (by decide) (c_LazyMachine_stepUnder l dC dI cA ad _ ((ss, sp, fo, ba, no, en, vs, vf, vg), SM, PM, XM, YM) 2 no en (by exact hi.2.2.1) (by exact hn)) (cwV 3 hts (lm_gV m_12_5 m_12_6 m_19_22 m_0_1 m_12_7) rfl rfl rfl (by decide +kernel) ⟨Nat.le_of_ble_eq_true rfl, Nat.le_of_ble_eq_true rfl⟩) (va_recv (q0 := 0) hK hP rfl rfl) lm_bl_no (fun _ _ _ => trivial) hl.1 rfl rfl (Nat.le_of_ble_eq_true rfl) d_LazyMachine_stepAt_199 ⟨Nat.le_of_ble_eq_true rfl, Nat.le_of_ble_eq_true rfl⟩ (fun r199 u199 H locs w199 hP hD hS => ?_)
    obtain ⟨e_r199, w199⟩ := w199
    have hP : va_P (dC, dI) classes (lz_W cA ad u199) H := hP
    have hD : va_D A (lz_W cA ad u199) := hD
    refine lm_ri (v := r199) hx hb hr hlocks u199 ?_ hP hK hD hS d_LazyMachine_stepAt_202
    subst e_r199 w199; unfold ma_at; rw [if_neg h11_0]; rw [if_neg h11_1]; rw [if_neg h11_2]; rw [if_neg h11_3]; rw [if_neg (by rw [h11_6]; decide)]; rw [if_neg (by rw [h11_6]; decide)]; rw [if_neg (by rw [h11_6]; decide)]; rw [if_neg (by rw [h11_6]; decide)]; rw [if_neg (by rw [h11_6]; decide)]; rw [if_neg (by rw [h11_6]; decide)]; exact ⟨rfl, rfl⟩
  by_cases h11_7 : (t_so YM no.toNatClampNeg) = 7
  · refine lv_tableIn (tgt := 189) hx hb d_LazyMachine_stepAt_11 (by rw [h11_7]; decide) (by rw [h11_7]; decide) (by rw [h11_7]; rfl) rfl ?_
    refine lv_aload_n hx hb d_LazyMachine_stepAt_189 rfl (lv_at hl 0 rfl) ?_
    refine lv_iconst (v := 2) hx hb d_LazyMachine_stepAt_190 (by decide) ?_
    refine lv_aload_n hx hb d_LazyMachine_stepAt_191 rfl (lv_at hl 0 rfl) ?_
    refine va_get (D := (dC, dI)) (ci := 0) (v := .int no) (C := R_LazyMachine) (T := F_LazyMachine) (N := 13) hx hb hts (fun q hq => List.mem_cons_of_mem _ (i_LazyMachine q hq)) hown hK hP 0 rfl rfl 8 (by decide) (hts _ (List.mem_cons_of_mem _ m_2_15)) (fun _ h9 => h9) rfl d_LazyMachine_stepAt_192 ?_
    refine lv_aload_n hx hb d_LazyMachine_stepAt_195 rfl (lv_at hl 0 rfl) ?_
    refine va_get (D := (dC, dI)) (ci := 0) (v := .int en) (C := R_LazyMachine) (T := F_LazyMachine) (N := 13) hx hb hts (fun q hq => List.mem_cons_of_mem _ (i_LazyMachine q hq)) hown hK hP 0 rfl rfl 9 (by decide) (hts _ (List.mem_cons_of_mem _ m_2_16)) (fun _ h9 => h9) rfl d_LazyMachine_stepAt_196 ?_
    refine lm_vi (b := ad 0) (As := [.int 2, .int no, .int en]) (rest := []) (wr := ([] : va_W)) ⟨hx, hb, hml, hown, hts⟩ hK hP hD hS hA [0, 1, 2, 3, 4, 5, 6, 7, 8, 9, 10, 11, 12, 13, 14, 15, 16, 17, 18, 19, 20, 21, 22, 23, 24, 25] [] rfl rfl (by decide) (by decide) (by decide) (c_LazyMachine_stepUnder l dC dI cA ad _ ((ss, sp, fo, ba, no, en, vs, vf, vg), SM, PM, XM, YM) 2 no en (by exact hi.2.2.1) (by exact hn)) (cwV 3 hts (lm_gV m_12_5 m_12_6 m_19_22 m_0_1 m_12_7) rfl rfl rfl (by decide +kernel) ⟨Nat.le_of_ble_eq_true rfl, Nat.le_of_ble_eq_true rfl⟩) (va_recv (q0 := 0) hK hP rfl rfl) lm_bl_no (fun _ _ _ => trivial) hl.1 rfl rfl (Nat.le_of_ble_eq_true rfl) d_LazyMachine_stepAt_199 ⟨Nat.le_of_ble_eq_true rfl, Nat.le_of_ble_eq_true rfl⟩ (fun r199 u199 H locs w199 hP hD hS => ?_)
    obtain ⟨e_r199, w199⟩ := w199
    have hP : va_P (dC, dI) classes (lz_W cA ad u199) H := hP
    have hD : va_D A (lz_W cA ad u199) := hD
    refine lm_ri (v := r199) hx hb hr hlocks u199 ?_ hP hK hD hS d_LazyMachine_stepAt_202
    subst e_r199 w199; unfold ma_at; rw [if_neg h11_0]; rw [if_neg h11_1]; rw [if_neg h11_2]; rw [if_neg h11_3]; rw [if_neg (by rw [h11_7]; decide)]; rw [if_neg (by rw [h11_7]; decide)]; rw [if_neg (by rw [h11_7]; decide)]; rw [if_neg (by rw [h11_7]; decide)]; rw [if_neg (by rw [h11_7]; decide)]; rw [if_neg (by rw [h11_7]; decide)]; exact ⟨rfl, rfl⟩
  by_cases h11_8 : (t_so YM no.toNatClampNeg) = 8
  · refine lv_tableIn (tgt := 144) hx hb d_LazyMachine_stepAt_11 (by rw [h11_8]; decide) (by rw [h11_8]; decide) (by rw [h11_8]; rfl) rfl ?_
    refine lv_aload_n hx hb d_LazyMachine_stepAt_144 rfl (lv_at hl 0 rfl) ?_
    refine lv_iconst (v := 4) hx hb d_LazyMachine_stepAt_145 (by decide) ?_
    refine lv_aload_n hx hb d_LazyMachine_stepAt_146 rfl (lv_at hl 0 rfl) ?_
    refine va_get (D := (dC, dI)) (ci := 0) (v := .int no) (C := R_LazyMachine) (T := F_LazyMachine) (N := 13) hx hb hts (fun q hq => List.mem_cons_of_mem _ (i_LazyMachine q hq)) hown hK hP 0 rfl rfl 8 (by decide) (hts _ (List.mem_cons_of_mem _ m_2_15)) (fun _ h9 => h9) rfl d_LazyMachine_stepAt_147 ?_
    refine lv_aload_n hx hb d_LazyMachine_stepAt_150 rfl (lv_at hl 0 rfl) ?_
    refine va_get (D := (dC, dI)) (ci := 0) (v := .int en) (C := R_LazyMachine) (T := F_LazyMachine) (N := 13) hx hb hts (fun q hq => List.mem_cons_of_mem _ (i_LazyMachine q hq)) hown hK hP 0 rfl rfl 9 (by decide) (hts _ (List.mem_cons_of_mem _ m_2_16)) (fun _ h9 => h9) rfl d_LazyMachine_stepAt_151 ?_
    refine lm_vi (b := ad 0) (As := [.int 4, .int no, .int en]) (rest := []) (wr := ([] : va_W)) ⟨hx, hb, hml, hown, hts⟩ hK hP hD hS hA [0, 1, 2, 3, 4, 5, 6, 7, 8, 9, 10, 11, 12, 13, 14, 15, 16, 17, 18, 19, 20, 21, 22, 23, 24, 25] [] rfl rfl (by decide) (by decide) (by decide) (c_LazyMachine_stepUnder l dC dI cA ad _ ((ss, sp, fo, ba, no, en, vs, vf, vg), SM, PM, XM, YM) 4 no en (by exact hi.2.2.1) (by exact hn)) (cwV 3 hts (lm_gV m_12_5 m_12_6 m_19_22 m_0_1 m_12_7) rfl rfl rfl (by decide +kernel) ⟨Nat.le_of_ble_eq_true rfl, Nat.le_of_ble_eq_true rfl⟩) (va_recv (q0 := 0) hK hP rfl rfl) lm_bl_no (fun _ _ _ => trivial) hl.1 rfl rfl (Nat.le_of_ble_eq_true rfl) d_LazyMachine_stepAt_154 ⟨Nat.le_of_ble_eq_true rfl, Nat.le_of_ble_eq_true rfl⟩ (fun r154 u154 H locs w154 hP hD hS => ?_)
    obtain ⟨e_r154, w154⟩ := w154
    have hP : va_P (dC, dI) classes (lz_W cA ad u154) H := hP
    have hD : va_D A (lz_W cA ad u154) := hD
    refine lm_ri (v := r154) hx hb hr hlocks u154 ?_ hP hK hD hS d_LazyMachine_stepAt_157
    subst e_r154 w154; unfold ma_at; rw [if_neg h11_0]; rw [if_neg h11_1]; rw [if_neg h11_2]; rw [if_neg h11_3]; rw [if_pos h11_8]; exact ⟨rfl, rfl⟩
  by_cases h11_9 : (t_so YM no.toNatClampNeg) = 9
  · refine lv_tableIn (tgt := 158) hx hb d_LazyMachine_stepAt_11 (by rw [h11_9]; decide) (by rw [h11_9]; decide) (by rw [h11_9]; rfl) rfl ?_
    refine lv_aload_n hx hb d_LazyMachine_stepAt_158 rfl (lv_at hl 0 rfl) ?_
    refine lm_vi (b := ad 0) (As := []) (rest := []) (wr := ([] : va_W)) ⟨hx, hb, hml, hown, hts⟩ hK hP hD hS hA [0, 1, 2, 3, 4, 5, 6, 7, 8, 9, 10, 11, 12, 13, 14, 15, 16, 17, 18, 19, 20, 21, 22, 23, 24, 25] [] rfl rfl (by decide) (by decide) (by decide) (c_LazyMachine_stepFix l dC dI cA ad _ ((ss, sp, fo, ba, no, en, vs, vf, vg), SM, PM, XM, YM)  (by exact hi) (by exact hn)) (cwV 0 hts (lm_gV m_12_8 m_12_9 m_19_23 m_0_1 m_12_10) rfl rfl rfl (by decide +kernel) ⟨Nat.le_of_ble_eq_true rfl, Nat.le_of_ble_eq_true rfl⟩) (va_recv (q0 := 0) hK hP rfl rfl) lm_bl_no (fun _ _ _ => trivial) hl.1 rfl rfl (Nat.le_of_ble_eq_true rfl) d_LazyMachine_stepAt_159 ⟨Nat.le_of_ble_eq_true rfl, Nat.le_of_ble_eq_true rfl⟩ (fun r159 u159 H locs w159 hP hD hS => ?_)
    obtain ⟨e_r159, w159⟩ := w159
    have hP : va_P (dC, dI) classes (lz_W cA ad u159) H := hP
    have hD : va_D A (lz_W cA ad u159) := hD
    refine lm_ri (v := r159) hx hb hr hlocks u159 ?_ hP hK hD hS d_LazyMachine_stepAt_162
    subst e_r159 w159; unfold ma_at; rw [if_neg h11_0]; rw [if_neg h11_1]; rw [if_neg h11_2]; rw [if_neg h11_3]; rw [if_neg h11_8]; rw [if_pos h11_9]; exact ⟨rfl, rfl⟩
  by_cases h11_10 : (t_so YM no.toNatClampNeg) = 10
  · refine lv_tableIn (tgt := 163) hx hb d_LazyMachine_stepAt_11 (by rw [h11_10]; decide) (by rw [h11_10]; decide) (by rw [h11_10]; rfl) rfl ?_
    refine lv_aload_n hx hb d_LazyMachine_stepAt_163 rfl (lv_at hl 0 rfl) ?_
    refine lm_vi (b := ad 0) (As := []) (rest := []) (wr := ([] : va_W)) ⟨hx, hb, hml, hown, hts⟩ hK hP hD hS hA [0, 1, 2, 3, 4, 5, 6, 7, 8, 9, 10, 11, 12, 13, 14, 15, 16, 17, 18, 19, 20, 21, 22, 23, 24, 25] [] rfl rfl (by decide) (by decide) (by decide) (c_LazyMachine_stepLet l dC dI cA ad _ ((ss, sp, fo, ba, no, en, vs, vf, vg), SM, PM, XM, YM)  (by exact hi) (by exact ht) (by exact hn) (by exact he)) (cwV 0 hts (lm_gV m_12_11 m_12_12 m_20_0 m_0_1 m_12_13) rfl rfl rfl (by decide +kernel) ⟨Nat.le_of_ble_eq_true rfl, Nat.le_of_ble_eq_true rfl⟩) (va_recv (q0 := 0) hK hP rfl rfl) lm_bl_no (fun _ _ _ => trivial) hl.1 rfl rfl (Nat.le_of_ble_eq_true rfl) d_LazyMachine_stepAt_164 ⟨Nat.le_of_ble_eq_true rfl, Nat.le_of_ble_eq_true rfl⟩ (fun r164 u164 H locs w164 hP hD hS => ?_)
    obtain ⟨e_r164, w164⟩ := w164
    have hP : va_P (dC, dI) classes (lz_W cA ad u164) H := hP
    have hD : va_D A (lz_W cA ad u164) := hD
    refine lm_ri (v := r164) hx hb hr hlocks u164 ?_ hP hK hD hS d_LazyMachine_stepAt_167
    subst e_r164 w164; unfold ma_at; rw [if_neg h11_0]; rw [if_neg h11_1]; rw [if_neg h11_2]; rw [if_neg h11_3]; rw [if_neg h11_8]; rw [if_neg h11_9]; rw [if_pos h11_10]; exact ⟨rfl, rfl⟩
  by_cases h11_11 : (t_so YM no.toNatClampNeg) = 11
  · refine lv_tableIn (tgt := 168) hx hb d_LazyMachine_stepAt_11 (by rw [h11_11]; decide) (by rw [h11_11]; decide) (by rw [h11_11]; rfl) rfl ?_
    refine lv_aload_n hx hb d_LazyMachine_stepAt_168 rfl (lv_at hl 0 rfl) ?_
    refine lm_vi (b := ad 0) (As := []) (rest := []) (wr := ([] : va_W)) ⟨hx, hb, hml, hown, hts⟩ hK hP hD hS hA [0, 1, 2, 3, 4, 5, 6, 7, 8, 9, 10, 11, 12, 13, 14, 15, 16, 17, 18, 19, 20, 21, 22, 23, 24, 25] [] rfl rfl (by decide) (by decide) (by decide) (c_LazyMachine_stepPair l dC dI cA ad _ ((ss, sp, fo, ba, no, en, vs, vf, vg), SM, PM, XM, YM)  (by exact hi) (by exact ht) (by exact hn) (by exact he)) (cwV 0 hts (lm_gV m_12_14 m_12_15 m_20_1 m_0_1 m_12_16) rfl rfl rfl (by decide +kernel) ⟨Nat.le_of_ble_eq_true rfl, Nat.le_of_ble_eq_true rfl⟩) (va_recv (q0 := 0) hK hP rfl rfl) lm_bl_no (fun _ _ _ => trivial) hl.1 rfl rfl (Nat.le_of_ble_eq_true rfl) d_LazyMachine_stepAt_169 ⟨Nat.le_of_ble_eq_true rfl, Nat.le_of_ble_eq_true rfl⟩ (fun r169 u169 H locs w169 hP hD hS => ?_)
    obtain ⟨e_r169, w169⟩ := w169
    have hP : va_P (dC, dI) classes (lz_W cA ad u169) H := hP
    have hD : va_D A (lz_W cA ad u169) := hD
    refine lm_ri (v := r169) hx hb hr hlocks u169 ?_ hP hK hD hS d_LazyMachine_stepAt_172
    subst e_r169 w169; unfold ma_at; rw [if_neg h11_0]; rw [if_neg h11_1]; rw [if_neg h11_2]; rw [if_neg h11_3]; rw [if_neg h11_8]; rw [if_neg h11_9]; rw [if_neg h11_10]; rw [if_pos h11_11]; exact ⟨rfl, rfl⟩
  by_cases h11_12 : (t_so YM no.toNatClampNeg) = 12
  · refine lv_tableIn (tgt := 173) hx hb d_LazyMachine_stepAt_11 (by rw [h11_12]; decide) (by rw [h11_12]; decide) (by rw [h11_12]; rfl) rfl ?_
    refine lv_aload_n hx hb d_LazyMachine_stepAt_173 rfl (lv_at hl 0 rfl) ?_
    refine lv_iconst (v := 5) hx hb d_LazyMachine_stepAt_174 (by decide) ?_
    refine lv_iconst (v := 0) hx hb d_LazyMachine_stepAt_175 (by decide) ?_
    refine lv_iconst (v := -1) hx hb d_LazyMachine_stepAt_176 (by decide) ?_
    refine lm_vi (b := ad 0) (As := [.int 5, .int 0, .int (-1)]) (rest := []) (wr := ([] : va_W)) ⟨hx, hb, hml, hown, hts⟩ hK hP hD hS hA [0, 1, 2, 3, 4, 5, 6, 7, 8, 9, 10, 11, 12, 13, 14, 15, 16, 17, 18, 19, 20, 21, 22, 23, 24, 25] [] rfl rfl (by decide) (by decide) (by decide) (c_LazyMachine_stepUnder l dC dI cA ad _ ((ss, sp, fo, ba, no, en, vs, vf, vg), SM, PM, XM, YM) 5 0 (-1) (by exact hi.2.2.1) (by exact hn)) (cwV 3 hts (lm_gV m_12_5 m_12_6 m_19_22 m_0_1 m_12_7) rfl rfl rfl (by decide +kernel) ⟨Nat.le_of_ble_eq_true rfl, Nat.le_of_ble_eq_true rfl⟩) (va_recv (q0 := 0) hK hP rfl rfl) lm_bl_no (fun _ _ _ => trivial) hl.1 rfl rfl (Nat.le_of_ble_eq_true rfl) d_LazyMachine_stepAt_177 ⟨Nat.le_of_ble_eq_true rfl, Nat.le_of_ble_eq_true rfl⟩ (fun r177 u177 H locs w177 hP hD hS => ?_)
    obtain ⟨e_r177, w177⟩ := w177
    have hP : va_P (dC, dI) classes (lz_W cA ad u177) H := hP
    have hD : va_D A (lz_W cA ad u177) := hD
    refine lm_ri (v := r177) hx hb hr hlocks u177 ?_ hP hK hD hS d_LazyMachine_stepAt_180
    subst e_r177 w177; unfold ma_at; rw [if_neg h11_0]; rw [if_neg h11_1]; rw [if_neg h11_2]; rw [if_neg h11_3]; rw [if_neg h11_8]; rw [if_neg h11_9]; rw [if_neg h11_10]; rw [if_neg h11_11]; rw [if_pos h11_12]; exact ⟨rfl, rfl⟩
  by_cases h11_13 : (t_so YM no.toNatClampNeg) = 13
  · refine lv_tableIn (tgt := 181) hx hb d_LazyMachine_stepAt_11 (by rw [h11_13]; decide) (by rw [h11_13]; decide) (by rw [h11_13]; rfl) rfl ?_
    refine lv_aload_n hx hb d_LazyMachine_stepAt_181 rfl (lv_at hl 0 rfl) ?_
    refine lv_iconst (v := 5) hx hb d_LazyMachine_stepAt_182 (by decide) ?_
    refine lv_iconst (v := 1) hx hb d_LazyMachine_stepAt_183 (by decide) ?_
    refine lv_iconst (v := -1) hx hb d_LazyMachine_stepAt_184 (by decide) ?_
    refine lm_vi (b := ad 0) (As := [.int 5, .int 1, .int (-1)]) (rest := []) (wr := ([] : va_W)) ⟨hx, hb, hml, hown, hts⟩ hK hP hD hS hA [0, 1, 2, 3, 4, 5, 6, 7, 8, 9, 10, 11, 12, 13, 14, 15, 16, 17, 18, 19, 20, 21, 22, 23, 24, 25] [] rfl rfl (by decide) (by decide) (by decide) (c_LazyMachine_stepUnder l dC dI cA ad _ ((ss, sp, fo, ba, no, en, vs, vf, vg), SM, PM, XM, YM) 5 1 (-1) (by exact hi.2.2.1) (by exact hn)) (cwV 3 hts (lm_gV m_12_5 m_12_6 m_19_22 m_0_1 m_12_7) rfl rfl rfl (by decide +kernel) ⟨Nat.le_of_ble_eq_true rfl, Nat.le_of_ble_eq_true rfl⟩) (va_recv (q0 := 0) hK hP rfl rfl) lm_bl_no (fun _ _ _ => trivial) hl.1 rfl rfl (Nat.le_of_ble_eq_true rfl) d_LazyMachine_stepAt_185 ⟨Nat.le_of_ble_eq_true rfl, Nat.le_of_ble_eq_true rfl⟩ (fun r185 u185 H locs w185 hP hD hS => ?_)
    obtain ⟨e_r185, w185⟩ := w185
    have hP : va_P (dC, dI) classes (lz_W cA ad u185) H := hP
    have hD : va_D A (lz_W cA ad u185) := hD
    refine lm_ri (v := r185) hx hb hr hlocks u185 ?_ hP hK hD hS d_LazyMachine_stepAt_188
    subst e_r185 w185; unfold ma_at; rw [if_neg h11_0]; rw [if_neg h11_1]; rw [if_neg h11_2]; rw [if_neg h11_3]; rw [if_neg h11_8]; rw [if_neg h11_9]; rw [if_neg h11_10]; rw [if_neg h11_11]; rw [if_neg h11_12]; rw [if_pos h11_13]; exact ⟨rfl, rfl⟩
  have qh11_0 := lv_neT (a := 0) h11_0 (by decide)
  have qh11_1 := lv_neT (a := 1) h11_1 (by decide)
  have qh11_2 := lv_neT (a := 2) h11_2 (by decide)
  have qh11_3 := lv_neT (a := 3) h11_3 (by decide)
  have qh11_4 := lv_neT (a := 4) h11_4 (by decide)
  have qh11_5 := lv_neT (a := 5) h11_5 (by decide)
  have qh11_6 := lv_neT (a := 6) h11_6 (by decide)
  have qh11_7 := lv_neT (a := 7) h11_7 (by decide)
  have qh11_8 := lv_neT (a := 8) h11_8 (by decide)
  have qh11_9 := lv_neT (a := 9) h11_9 (by decide)
  have qh11_10 := lv_neT (a := 10) h11_10 (by decide)
  have qh11_11 := lv_neT (a := 11) h11_11 (by decide)
  have qh11_12 := lv_neT (a := 12) h11_12 (by decide)
  have qh11_13 := lv_neT (a := 13) h11_13 (by decide)
  refine lv_tableOut (tgt := 189) hx hb d_LazyMachine_stepAt_11 (by omega) rfl ?_
  refine lv_aload_n hx hb d_LazyMachine_stepAt_189 rfl (lv_at hl 0 rfl) ?_
  refine lv_iconst (v := 2) hx hb d_LazyMachine_stepAt_190 (by decide) ?_
  refine lv_aload_n hx hb d_LazyMachine_stepAt_191 rfl (lv_at hl 0 rfl) ?_
  refine va_get (D := (dC, dI)) (ci := 0) (v := .int no) (C := R_LazyMachine) (T := F_LazyMachine) (N := 13) hx hb hts (fun q hq => List.mem_cons_of_mem _ (i_LazyMachine q hq)) hown hK hP 0 rfl rfl 8 (by decide) (hts _ (List.mem_cons_of_mem _ m_2_15)) (fun _ h9 => h9) rfl d_LazyMachine_stepAt_192 ?_
  refine lv_aload_n hx hb d_LazyMachine_stepAt_195 rfl (lv_at hl 0 rfl) ?_
  refine va_get (D := (dC, dI)) (ci := 0) (v := .int en) (C := R_LazyMachine) (T := F_LazyMachine) (N := 13) hx hb hts (fun q hq => List.mem_cons_of_mem _ (i_LazyMachine q hq)) hown hK hP 0 rfl rfl 9 (by decide) (hts _ (List.mem_cons_of_mem _ m_2_16)) (fun _ h9 => h9) rfl d_LazyMachine_stepAt_196 ?_
  refine lm_vi (b := ad 0) (As := [.int 2, .int no, .int en]) (rest := []) (wr := ([] : va_W)) ⟨hx, hb, hml, hown, hts⟩ hK hP hD hS hA [0, 1, 2, 3, 4, 5, 6, 7, 8, 9, 10, 11, 12, 13, 14, 15, 16, 17, 18, 19, 20, 21, 22, 23, 24, 25] [] rfl rfl (by decide) (by decide) (by decide) (c_LazyMachine_stepUnder l dC dI cA ad _ ((ss, sp, fo, ba, no, en, vs, vf, vg), SM, PM, XM, YM) 2 no en (by exact hi.2.2.1) (by exact hn)) (cwV 3 hts (lm_gV m_12_5 m_12_6 m_19_22 m_0_1 m_12_7) rfl rfl rfl (by decide +kernel) ⟨Nat.le_of_ble_eq_true rfl, Nat.le_of_ble_eq_true rfl⟩) (va_recv (q0 := 0) hK hP rfl rfl) lm_bl_no (fun _ _ _ => trivial) hl.1 rfl rfl (Nat.le_of_ble_eq_true rfl) d_LazyMachine_stepAt_199 ⟨Nat.le_of_ble_eq_true rfl, Nat.le_of_ble_eq_true rfl⟩ (fun r199 u199 H locs w199 hP hD hS => ?_)
  obtain ⟨e_r199, w199⟩ := w199
  have hP : va_P (dC, dI) classes (lz_W cA ad u199) H := hP
  have hD : va_D A (lz_W cA ad u199) := hD
  refine lm_ri (v := r199) hx hb hr hlocks u199 ?_ hP hK hD hS d_LazyMachine_stepAt_202
  subst e_r199 w199; unfold ma_at; rw [if_neg h11_0]; rw [if_neg h11_1]; rw [if_neg h11_2]; rw [if_neg h11_3]; rw [if_neg h11_8]; rw [if_neg h11_9]; rw [if_neg h11_10]; rw [if_neg h11_11]; rw [if_neg h11_12]; rw [if_neg h11_13]; exact ⟨rfl, rfl⟩
set_option maxHeartbeats 4000000 in
set_option maxRecDepth 100000 in
theorem c_LazyMachine_stepBack (l : Launch) (dC : Nat → ClassId) (dI : Nat → Nat → Nat) (cA : ClassId)  (ad : Nat → Nat) (sz : Nat) (M : ZMS)  (hsf : sf_bk M) : Met l y_LazyMachine_stepBack w_LazyMachine_stepBack ({ frames := 5, cells := 0, slots := 0, locals := 108 } : Room) (va_Pc [.ref (ad 0)] (lm_pre (dC, dI) classes [(cA, .int)] (lz_W cA ad M) sz lm_no)) (va_Qi (fun (r : Int32) (u : ZMS) => r = (ma_bk M).1 ∧ u = (ma_bk M).2) (fun u => lm_at (dC, dI) classes [(cA, .int)] (va_A (lz_W cA ad M) sz) (lz_W cA ad u)) (va_A (lz_W cA ad M) sz)) 0 0 (va_A (lz_W cA ad M) sz) := by
  obtain ⟨⟨ss, sp, fo, ba, no, en, vs, vf, vg⟩, SM, PM, XM, YM⟩ := M
  obtain ⟨hi, hu, hv1, hv2, hn2⟩ := hsf
  refine lm_met (fun A => va_Qi (fun (r : Int32) (u : ZMS) => r = (ma_bk ((ss, sp, fo, ba, no, en, vs, vf, vg), SM, PM, XM, YM)).1 ∧ u = (ma_bk ((ss, sp, fo, ba, no, en, vs, vf, vg), SM, PM, XM, YM)).2) (fun u => lm_at (dC, dI) classes [(cA, .int)] A (lz_W cA ad u)) A) (by decide) rfl (Nat.le_of_ble_eq_true rfl) ?_
  intro p e s m below meth c A hx hb hr hts hown hlocks hname hml hK hP hD hA hE hsz hAe hS ls hl
  replace hl : lv_has ls 2 [(0, .ref (ad 0))] := hl
  clear hAe hsz
  refine lv_aload_n hx hb d_LazyMachine_stepBack_0 rfl (lv_at hl 0 rfl) ?_
  refine va_get (D := (dC, dI)) (ci := 0) (v := .ref (ad 8)) (C := R_LazyMachine) (T := F_LazyMachine) (N := 13) hx hb hts (fun q hq => List.mem_cons_of_mem _ (i_LazyMachine q hq)) hown hK hP 0 rfl rfl 1 (by decide) (hts _ (List.mem_cons_of_mem _ m_2_8)) (fun _ h9 => h9) rfl d_LazyMachine_stepBack_1 ?_
  refine lm_vi (b := ad 8) (As := []) (rest := []) (wr := (ma_W cA ad (ss, sp, fo, ba, no, en, vs, vf, vg)) ++ (hp_W cA (fun k => ad (k + 1)) SM) ++ (tm_W cA (fun k => ad (k + 12)) XM) ++ (tm_W cA (fun k => ad (k + 19)) YM)) ⟨hx, hb, hml, hown, hts⟩ hK hP hD hS hA [8, 9, 10, 11] [0, 1, 2, 3, 4, 5, 6, 7, 12, 13, 14, 15, 16, 17, 18, 19, 20, 21, 22, 23, 24, 25] rfl rfl (by decide) (by decide) (by decide) (c_Pile_topFirst l dC dI cA (fun k => ad (k + 8)) _ PM  (by exact hi.2.2.1)) (cwV 0 hts (lm_gV m_7_12 m_7_13 m_7_14 m_0_3 m_7_15) rfl rfl rfl (by decide +kernel) ⟨Nat.le_of_ble_eq_true rfl, Nat.le_of_ble_eq_true rfl⟩) (va_recv (q0 := 8) hK hP rfl rfl) lm_bl_no (fun _ _ _ => trivial) hl.1 rfl rfl (Nat.le_of_ble_eq_true rfl) d_LazyMachine_stepBack_4 ⟨Nat.le_of_ble_eq_true rfl, Nat.le_of_ble_eq_true rfl⟩ (fun r4 u4 H locs w4 hP hD hS => ?_)
  obtain ⟨e_r4, w4⟩ := w4
  replace w4 := w4.symm
  subst w4
  have hP : va_P (dC, dI) classes (lz_W cA ad ((ss, sp, fo, ba, no, en, vs, vf, vg), SM, PM, XM, YM)) H := hP.sub [0, 1, 2, 3, 4, 5, 6, 7, 22, 23, 24, 25, 8, 9, 10, 11, 12, 13, 14, 15, 16, 17, 18, 19, 20, 21] rfl
  have hD : va_D A (lz_W cA ad ((ss, sp, fo, ba, no, en, vs, vf, vg), SM, PM, XM, YM)) := hD.sub [0, 1, 2, 3, 4, 5, 6, 7, 22, 23, 24, 25, 8, 9, 10, 11, 12, 13, 14, 15, 16, 17, 18, 19, 20, 21] (by decide) rfl
  refine lv_istore_n (lv' := [(1, .int r4), (0, .ref (ad 0))]) hx hb d_LazyMachine_stepBack_7 rfl hl (by decide) rfl (fun ls hl => ?_)
  refine lv_aload_n hx hb d_LazyMachine_stepBack_8 rfl (lv_at hl 1 rfl) ?_
  refine va_get (D := (dC, dI)) (ci := 0) (v := .ref (ad 8)) (C := R_LazyMachine) (T := F_LazyMachine) (N := 13) hx hb hts (fun q hq => List.mem_cons_of_mem _ (i_LazyMachine q hq)) hown hK hP 0 rfl rfl 1 (by decide) (hts _ (List.mem_cons_of_mem _ m_2_8)) (fun _ h9 => h9) rfl d_LazyMachine_stepBack_9 ?_
  refine lm_vi (b := ad 8) (As := []) (rest := []) (wr := (ma_W cA ad (ss, sp, fo, ba, no, en, vs, vf, vg)) ++ (hp_W cA (fun k => ad (k + 1)) SM) ++ (tm_W cA (fun k => ad (k + 12)) XM) ++ (tm_W cA (fun k => ad (k + 19)) YM)) ⟨hx, hb, hml, hown, hts⟩ hK hP hD hS hA [8, 9, 10, 11] [0, 1, 2, 3, 4, 5, 6, 7, 12, 13, 14, 15, 16, 17, 18, 19, 20, 21, 22, 23, 24, 25] rfl rfl (by decide) (by decide) (by decide) (c_Pile_topSort l dC dI cA (fun k => ad (k + 8)) _ PM  (by exact hi.2.2.1)) (cwV 0 hts (lm_gV m_7_16 m_7_17 m_7_18 m_0_3 m_7_19) rfl rfl rfl (by decide +kernel) ⟨Nat.le_of_ble_eq_true rfl, Nat.le_of_ble_eq_true rfl⟩) (va_recv (q0 := 8) hK hP rfl rfl) lm_bl_no (fun _ _ _ => trivial) hl.1 rfl rfl (Nat.le_of_ble_eq_true rfl) d_LazyMachine_stepBack_12 ⟨Nat.le_of_ble_eq_true rfl, Nat.le_of_ble_eq_true rfl⟩ (fun r12 u12 H locs w12 hP hD hS => ?_)
  obtain ⟨e_r12, w12⟩ := w12
  replace w12 := w12.symm
  subst w12
  have hP : va_P (dC, dI) classes (lz_W cA ad ((ss, sp, fo, ba, no, en, vs, vf, vg), SM, PM, XM, YM)) H := hP.sub [0, 1, 2, 3, 4, 5, 6, 7, 22, 23, 24, 25, 8, 9, 10, 11, 12, 13, 14, 15, 16, 17, 18, 19, 20, 21] rfl
  have hD : va_D A (lz_W cA ad ((ss, sp, fo, ba, no, en, vs, vf, vg), SM, PM, XM, YM)) := hD.sub [0, 1, 2, 3, 4, 5, 6, 7, 22, 23, 24, 25, 8, 9, 10, 11, 12, 13, 14, 15, 16, 17, 18, 19, 20, 21] (by decide) rfl
  rw [e_r12]
  by_cases h15_0 : (pl_topSort PM) = 0
  · refine lv_tableIn (tgt := 52) hx hb d_LazyMachine_stepBack_15 (by rw [h15_0]; decide) (by rw [h15_0]; decide) (by rw [h15_0]; rfl) rfl ?_
    refine lv_aload_n hx hb d_LazyMachine_stepBack_52 rfl (lv_at hl 1 rfl) ?_
    refine va_get (D := (dC, dI)) (ci := 0) (v := .ref (ad 8)) (C := R_LazyMachine) (T := F_LazyMachine) (N := 13) hx hb hts (fun q hq => List.mem_cons_of_mem _ (i_LazyMachine q hq)) hown hK hP 0 rfl rfl 1 (by decide) (hts _ (List.mem_cons_of_mem _ m_2_8)) (fun _ h9 => h9) rfl d_LazyMachine_stepBack_53 ?_
    refine lm_vv (b := ad 8) (As := []) (rest := []) (wr := (ma_W cA ad (ss, sp, fo, ba, no, en, vs, vf, vg)) ++ (hp_W cA (fun k => ad (k + 1)) SM) ++ (tm_W cA (fun k => ad (k + 12)) XM) ++ (tm_W cA (fun k => ad (k + 19)) YM)) ⟨hx, hb, hml, hown, hts⟩ hK hP hD hS hA [8, 9, 10, 11] [0, 1, 2, 3, 4, 5, 6, 7, 12, 13, 14, 15, 16, 17, 18, 19, 20, 21, 22, 23, 24, 25] rfl rfl (by decide) (by decide) (by decide) (c_Pile_drop l dC dI cA (fun k => ad (k + 8)) _ PM  ) (cwV 0 hts (lm_gV m_7_20 m_7_21 m_7_22 m_0_3 m_7_23) rfl rfl rfl (by decide +kernel) ⟨Nat.le_of_ble_eq_true rfl, Nat.le_of_ble_eq_true rfl⟩) (va_recv (q0 := 8) hK hP rfl rfl) lm_bl_no (fun _ _ _ => trivial) hl.1 rfl rfl (Nat.le_of_ble_eq_true rfl) d_LazyMachine_stepBack_56 ⟨Nat.le_of_ble_eq_true rfl, Nat.le_of_ble_eq_true rfl⟩ (fun u56 H locs w56 hP hD hS => ?_)
    have hP : va_P (dC, dI) classes (lz_W cA ad ((ss, sp, fo, ba, no, en, vs, vf, vg), SM, u56, XM, YM)) H := hP.sub [0, 1, 2, 3, 4, 5, 6, 7, 22, 23, 24, 25, 8, 9, 10, 11, 12, 13, 14, 15, 16, 17, 18, 19, 20, 21] rfl
    have hD : va_D A (lz_W cA ad ((ss, sp, fo, ba, no, en, vs, vf, vg), SM, u56, XM, YM)) := hD.sub [0, 1, 2, 3, 4, 5, 6, 7, 22, 23, 24, 25, 8, 9, 10, 11, 12, 13, 14, 15, 16, 17, 18, 19, 20, 21] (by decide) rfl
    refine lv_aload_n hx hb d_LazyMachine_stepBack_59 rfl (lv_at hl 1 rfl) ?_
    refine va_get (D := (dC, dI)) (ci := 0) (v := .ref (ad 1)) (C := R_LazyMachine) (T := F_LazyMachine) (N := 13) hx hb hts (fun q hq => List.mem_cons_of_mem _ (i_LazyMachine q hq)) hown hK hP 0 rfl rfl 0 (by decide) (hts _ (List.mem_cons_of_mem _ m_2_7)) (fun _ h9 => h9) rfl d_LazyMachine_stepBack_60 ?_
    refine lv_iload_n hx hb d_LazyMachine_stepBack_63 rfl (lv_at hl 0 rfl) ?_
    refine lv_aload_n hx hb d_LazyMachine_stepBack_64 rfl (lv_at hl 1 rfl) ?_
    refine va_get (D := (dC, dI)) (ci := 0) (v := .int vs) (C := R_LazyMachine) (T := F_LazyMachine) (N := 13) hx hb hts (fun q hq => List.mem_cons_of_mem _ (i_LazyMachine q hq)) hown hK hP 0 rfl rfl 10 (by decide) (hts _ (List.mem_cons_of_mem _ m_2_17)) (fun _ h9 => h9) rfl d_LazyMachine_stepBack_65 ?_
    refine lv_aload_n hx hb d_LazyMachine_stepBack_68 rfl (lv_at hl 1 rfl) ?_
    refine va_get (D := (dC, dI)) (ci := 0) (v := .int vf) (C := R_LazyMachine) (T := F_LazyMachine) (N := 13) hx hb hts (fun q hq => List.mem_cons_of_mem _ (i_LazyMachine q hq)) hown hK hP 0 rfl rfl 11 (by decide) (hts _ (List.mem_cons_of_mem _ m_2_18)) (fun _ h9 => h9) rfl d_LazyMachine_stepBack_69 ?_
    refine lv_aload_n hx hb d_LazyMachine_stepBack_72 rfl (lv_at hl 1 rfl) ?_
    refine va_get (D := (dC, dI)) (ci := 0) (v := .int vg) (C := R_LazyMachine) (T := F_LazyMachine) (N := 13) hx hb hts (fun q hq => List.mem_cons_of_mem _ (i_LazyMachine q hq)) hown hK hP 0 rfl rfl 12 (by decide) (hts _ (List.mem_cons_of_mem _ m_2_19)) (fun _ h9 => h9) rfl d_LazyMachine_stepBack_73 ?_
    refine lm_vv (b := ad 1) (As := [.int r4, .int vs, .int vf, .int vg]) (rest := []) (wr := (ma_W cA ad (ss, sp, fo, ba, no, en, vs, vf, vg)) ++ (pl_W cA (fun k => ad (k + 8)) u56) ++ (tm_W cA (fun k => ad (k + 12)) XM) ++ (tm_W cA (fun k => ad (k + 19)) YM)) ⟨hx, hb, hml, hown, hts⟩ hK hP hD hS hA [1, 2, 3, 4, 5, 6, 7] [0, 8, 9, 10, 11, 12, 13, 14, 15, 16, 17, 18, 19, 20, 21, 22, 23, 24, 25] rfl rfl (by decide) (by decide) (by decide) (c_Heap_become l dC dI cA (fun k => ad (k + 1)) _ SM r4 vs vf vg (by rw [e_r4]; exact hu h15_0)) (cwV 4 hts (lm_gV m_8_0 m_8_1 m_8_2 m_0_2 m_8_3) rfl rfl rfl (by decide +kernel) ⟨Nat.le_of_ble_eq_true rfl, Nat.le_of_ble_eq_true rfl⟩) (va_recv (q0 := 1) hK hP rfl rfl) lm_bl_no (fun _ _ _ => trivial) hl.1 rfl rfl (Nat.le_of_ble_eq_true rfl) d_LazyMachine_stepBack_76 ⟨Nat.le_of_ble_eq_true rfl, Nat.le_of_ble_eq_true rfl⟩ (fun u76 H locs w76 hP hD hS => ?_)
    have hP : va_P (dC, dI) classes (lz_W cA ad ((ss, sp, fo, ba, no, en, vs, vf, vg), u76, u56, XM, YM)) H := hP.sub [0, 19, 20, 21, 22, 23, 24, 25, 1, 2, 3, 4, 5, 6, 7, 8, 9, 10, 11, 12, 13, 14, 15, 16, 17, 18] rfl
    have hD : va_D A (lz_W cA ad ((ss, sp, fo, ba, no, en, vs, vf, vg), u76, u56, XM, YM)) := hD.sub [0, 19, 20, 21, 22, 23, 24, 25, 1, 2, 3, 4, 5, 6, 7, 8, 9, 10, 11, 12, 13, 14, 15, 16, 17, 18] (by decide) rfl
    refine lv_iconst (v := 1) hx hb d_LazyMachine_stepBack_79 (by decide) ?_
    refine lm_ri (v := 1) hx hb hr hlocks ((ss, sp, fo, ba, no, en, vs, vf, vg), u76, u56, XM, YM) ?_ hP hK hD hS d_LazyMachine_stepBack_80
    subst e_r4 e_r12 w56 w76; unfold ma_bk; rw [if_pos h15_0]; exact ⟨rfl, rfl⟩
  by_cases h15_1 : (pl_topSort PM) = 1
  · refine lv_tableIn (tgt := 81) hx hb d_LazyMachine_stepBack_15 (by rw [h15_1]; decide) (by rw [h15_1]; decide) (by rw [h15_1]; rfl) rfl ?_
    refine lv_aload_n hx hb d_LazyMachine_stepBack_81 rfl (lv_at hl 1 rfl) ?_
    refine lv_iload_n hx hb d_LazyMachine_stepBack_82 rfl (lv_at hl 0 rfl) ?_
    refine lm_vi (b := ad 0) (As := [.int r4]) (rest := []) (wr := ([] : va_W)) ⟨hx, hb, hml, hown, hts⟩ hK hP hD hS hA [0, 1, 2, 3, 4, 5, 6, 7, 8, 9, 10, 11, 12, 13, 14, 15, 16, 17, 18, 19, 20, 21, 22, 23, 24, 25] [] rfl rfl (by decide) (by decide) (by decide) (c_LazyMachine_stepArgument l dC dI cA ad _ ((ss, sp, fo, ba, no, en, vs, vf, vg), SM, PM, XM, YM) r4 (by exact hi) (by exact hv1)) (cwV 1 hts (lm_gV m_8_4 m_8_5 m_19_9 m_0_1 m_8_6) rfl rfl rfl (by decide +kernel) ⟨Nat.le_of_ble_eq_true rfl, Nat.le_of_ble_eq_true rfl⟩) (va_recv (q0 := 0) hK hP rfl rfl) lm_bl_no (fun _ _ _ => trivial) hl.1 rfl rfl (Nat.le_of_ble_eq_true rfl) d_LazyMachine_stepBack_83 ⟨Nat.le_of_ble_eq_true rfl, Nat.le_of_ble_eq_true rfl⟩ (fun r83 u83 H locs w83 hP hD hS => ?_)
    obtain ⟨e_r83, w83⟩ := w83
    have hP : va_P (dC, dI) classes (lz_W cA ad u83) H := hP
    have hD : va_D A (lz_W cA ad u83) := hD
    refine lm_ri (v := r83) hx hb hr hlocks u83 ?_ hP hK hD hS d_LazyMachine_stepBack_86
    subst e_r4 e_r12 e_r83 w83; unfold ma_bk; rw [if_neg h15_0]; rw [if_pos h15_1]; exact ⟨rfl, rfl⟩
  by_cases h15_2 : (pl_topSort PM) = 2
  · refine lv_tableIn (tgt := 87) hx hb d_LazyMachine_stepBack_15 (by rw [h15_2]; decide) (by rw [h15_2]; decide) (by rw [h15_2]; rfl) rfl ?_
    refine lv_aload_n hx hb d_LazyMachine_stepBack_87 rfl (lv_at hl 1 rfl) ?_
    refine lv_iload_n hx hb d_LazyMachine_stepBack_88 rfl (lv_at hl 0 rfl) ?_
    refine lv_aload_n hx hb d_LazyMachine_stepBack_89 rfl (lv_at hl 1 rfl) ?_
    refine va_get (D := (dC, dI)) (ci := 0) (v := .ref (ad 8)) (C := R_LazyMachine) (T := F_LazyMachine) (N := 13) hx hb hts (fun q hq => List.mem_cons_of_mem _ (i_LazyMachine q hq)) hown hK hP 0 rfl rfl 1 (by decide) (hts _ (List.mem_cons_of_mem _ m_2_8)) (fun _ h9 => h9) rfl d_LazyMachine_stepBack_90 ?_
    refine lm_vi (b := ad 8) (As := []) (rest := [.int r4, .ref (ad 0)]) (wr := (ma_W cA ad (ss, sp, fo, ba, no, en, vs, vf, vg)) ++ (hp_W cA (fun k => ad (k + 1)) SM) ++ (tm_W cA (fun k => ad (k + 12)) XM) ++ (tm_W cA (fun k => ad (k + 19)) YM)) ⟨hx, hb, hml, hown, hts⟩ hK hP hD hS hA [8, 9, 10, 11] [0, 1, 2, 3, 4, 5, 6, 7, 12, 13, 14, 15, 16, 17, 18, 19, 20, 21, 22, 23, 24, 25] rfl rfl (by decide) (by decide) (by decide) (c_Pile_topSecond l dC dI cA (fun k => ad (k + 8)) _ PM  (by exact hi.2.2.1)) (cwV 0 hts (lm_gV m_9_3 m_9_4 m_9_5 m_0_3 m_9_6) rfl rfl rfl (by decide +kernel) ⟨Nat.le_of_ble_eq_true rfl, Nat.le_of_ble_eq_true rfl⟩) (va_recv (q0 := 8) hK hP rfl rfl) lm_bl_no (fun _ _ _ => trivial) hl.1 rfl rfl (Nat.le_of_ble_eq_true rfl) d_LazyMachine_stepBack_93 ⟨Nat.le_of_ble_eq_true rfl, Nat.le_of_ble_eq_true rfl⟩ (fun r93 u93 H locs w93 hP hD hS => ?_)
    obtain ⟨e_r93, w93⟩ := w93
    replace w93 := w93.symm
    subst w93
    have hP : va_P (dC, dI) classes (lz_W cA ad ((ss, sp, fo, ba, no, en, vs, vf, vg), SM, PM, XM, YM)) H := hP.sub [0, 1, 2, 3, 4, 5, 6, 7, 22, 23, 24, 25, 8, 9, 10, 11, 12, 13, 14, 15, 16, 17, 18, 19, 20, 21] rfl
    have hD : va_D A (lz_W cA ad ((ss, sp, fo, ba, no, en, vs, vf, vg), SM, PM, XM, YM)) := hD.sub [0, 1, 2, 3, 4, 5, 6, 7, 22, 23, 24, 25, 8, 9, 10, 11, 12, 13, 14, 15, 16, 17, 18, 19, 20, 21] (by decide) rfl
    refine lm_vi (b := ad 0) (As := [.int r4, .int r93]) (rest := []) (wr := ([] : va_W)) ⟨hx, hb, hml, hown, hts⟩ hK hP hD hS hA [0, 1, 2, 3, 4, 5, 6, 7, 8, 9, 10, 11, 12, 13, 14, 15, 16, 17, 18, 19, 20, 21, 22, 23, 24, 25] [] rfl rfl (by decide) (by decide) (by decide) (c_LazyMachine_stepLeft l dC dI cA ad _ ((ss, sp, fo, ba, no, en, vs, vf, vg), SM, PM, XM, YM) r4 r93 (by exact hi.2.2.1) (by rw [e_r4]; exact hn2 (by first | exact Or.inl h15_2 | exact Or.inr (Or.inl h15_3) | exact Or.inr (Or.inr h15_4)))) (cwV 2 hts (lm_gV m_9_7 m_9_8 m_19_12 m_0_1 m_9_9) rfl rfl rfl (by decide +kernel) ⟨Nat.le_of_ble_eq_true rfl, Nat.le_of_ble_eq_true rfl⟩) (va_recv (q0 := 0) hK hP rfl rfl) lm_bl_no (fun _ _ _ => trivial) hl.1 rfl rfl (Nat.le_of_ble_eq_true rfl) d_LazyMachine_stepBack_96 ⟨Nat.le_of_ble_eq_true rfl, Nat.le_of_ble_eq_true rfl⟩ (fun r96 u96 H locs w96 hP hD hS => ?_)
    obtain ⟨e_r96, w96⟩ := w96
    have hP : va_P (dC, dI) classes (lz_W cA ad u96) H := hP
    have hD : va_D A (lz_W cA ad u96) := hD
    refine lm_ri (v := r96) hx hb hr hlocks u96 ?_ hP hK hD hS d_LazyMachine_stepBack_99
    subst e_r4 e_r12 e_r93 e_r96 w96; unfold ma_bk; rw [if_neg h15_0]; rw [if_neg h15_1]; rw [if_pos h15_2]; exact ⟨rfl, rfl⟩
  by_cases h15_3 : (pl_topSort PM) = 3
  · refine lv_tableIn (tgt := 100) hx hb d_LazyMachine_stepBack_15 (by rw [h15_3]; decide) (by rw [h15_3]; decide) (by rw [h15_3]; rfl) rfl ?_
    refine lv_aload_n hx hb d_LazyMachine_stepBack_100 rfl (lv_at hl 1 rfl) ?_
    refine lv_iload_n hx hb d_LazyMachine_stepBack_101 rfl (lv_at hl 0 rfl) ?_
    refine lv_aload_n hx hb d_LazyMachine_stepBack_102 rfl (lv_at hl 1 rfl) ?_
    refine va_get (D := (dC, dI)) (ci := 0) (v := .ref (ad 8)) (C := R_LazyMachine) (T := F_LazyMachine) (N := 13) hx hb hts (fun q hq => List.mem_cons_of_mem _ (i_LazyMachine q hq)) hown hK hP 0 rfl rfl 1 (by decide) (hts _ (List.mem_cons_of_mem _ m_2_8)) (fun _ h9 => h9) rfl d_LazyMachine_stepBack_103 ?_
    refine lm_vi (b := ad 8) (As := []) (rest := [.int r4, .ref (ad 0)]) (wr := (ma_W cA ad (ss, sp, fo, ba, no, en, vs, vf, vg)) ++ (hp_W cA (fun k => ad (k + 1)) SM) ++ (tm_W cA (fun k => ad (k + 12)) XM) ++ (tm_W cA (fun k => ad (k + 19)) YM)) ⟨hx, hb, hml, hown, hts⟩ hK hP hD hS hA [8, 9, 10, 11] [0, 1, 2, 3, 4, 5, 6, 7, 12, 13, 14, 15, 16, 17, 18, 19, 20, 21, 22, 23, 24, 25] rfl rfl (by decide) (by decide) (by decide) (c_Pile_topSecond l dC dI cA (fun k => ad (k + 8)) _ PM  (by exact hi.2.2.1)) (cwV 0 hts (lm_gV m_9_3 m_9_4 m_9_5 m_0_3 m_9_6) rfl rfl rfl (by decide +kernel) ⟨Nat.le_of_ble_eq_true rfl, Nat.le_of_ble_eq_true rfl⟩) (va_recv (q0 := 8) hK hP rfl rfl) lm_bl_no (fun _ _ _ => trivial) hl.1 rfl rfl (Nat.le_of_ble_eq_true rfl) d_LazyMachine_stepBack_106 ⟨Nat.le_of_ble_eq_true rfl, Nat.le_of_ble_eq_true rfl⟩ (fun r106 u106 H locs w106 hP hD hS => ?_)
    obtain ⟨e_r106, w106⟩ := w106
    replace w106 := w106.symm
    subst w106
    have hP : va_P (dC, dI) classes (lz_W cA ad ((ss, sp, fo, ba, no, en, vs, vf, vg), SM, PM, XM, YM)) H := hP.sub [0, 1, 2, 3, 4, 5, 6, 7, 22, 23, 24, 25, 8, 9, 10, 11, 12, 13, 14, 15, 16, 17, 18, 19, 20, 21] rfl
    have hD : va_D A (lz_W cA ad ((ss, sp, fo, ba, no, en, vs, vf, vg), SM, PM, XM, YM)) := hD.sub [0, 1, 2, 3, 4, 5, 6, 7, 22, 23, 24, 25, 8, 9, 10, 11, 12, 13, 14, 15, 16, 17, 18, 19, 20, 21] (by decide) rfl
    refine lm_vi (b := ad 0) (As := [.int r4, .int r106]) (rest := []) (wr := ([] : va_W)) ⟨hx, hb, hml, hown, hts⟩ hK hP hD hS hA [0, 1, 2, 3, 4, 5, 6, 7, 8, 9, 10, 11, 12, 13, 14, 15, 16, 17, 18, 19, 20, 21, 22, 23, 24, 25] [] rfl rfl (by decide) (by decide) (by decide) (c_LazyMachine_stepRight l dC dI cA ad _ ((ss, sp, fo, ba, no, en, vs, vf, vg), SM, PM, XM, YM) r4 r106 (by rw [e_r4]; exact hn2 (by first | exact Or.inl h15_2 | exact Or.inr (Or.inl h15_3) | exact Or.inr (Or.inr h15_4)))) (cwV 2 hts (lm_gV m_9_21 m_9_22 m_19_13 m_0_1 m_9_23) rfl rfl rfl (by decide +kernel) ⟨Nat.le_of_ble_eq_true rfl, Nat.le_of_ble_eq_true rfl⟩) (va_recv (q0 := 0) hK hP rfl rfl) lm_bl_no (fun _ _ _ => trivial) hl.1 rfl rfl (Nat.le_of_ble_eq_true rfl) d_LazyMachine_stepBack_109 ⟨Nat.le_of_ble_eq_true rfl, Nat.le_of_ble_eq_true rfl⟩ (fun r109 u109 H locs w109 hP hD hS => ?_)
    obtain ⟨e_r109, w109⟩ := w109
    have hP : va_P (dC, dI) classes (lz_W cA ad u109) H := hP
    have hD : va_D A (lz_W cA ad u109) := hD
    refine lm_ri (v := r109) hx hb hr hlocks u109 ?_ hP hK hD hS d_LazyMachine_stepBack_112
    subst e_r4 e_r12 e_r106 e_r109 w109; unfold ma_bk; rw [if_neg h15_0]; rw [if_neg h15_1]; rw [if_neg h15_2]; rw [if_pos h15_3]; exact ⟨rfl, rfl⟩
  by_cases h15_4 : (pl_topSort PM) = 4
  · refine lv_tableIn (tgt := 113) hx hb d_LazyMachine_stepBack_15 (by rw [h15_4]; decide) (by rw [h15_4]; decide) (by rw [h15_4]; rfl) rfl ?_
    refine lv_aload_n hx hb d_LazyMachine_stepBack_113 rfl (lv_at hl 1 rfl) ?_
    refine lv_iload_n hx hb d_LazyMachine_stepBack_114 rfl (lv_at hl 0 rfl) ?_
    refine lv_aload_n hx hb d_LazyMachine_stepBack_115 rfl (lv_at hl 1 rfl) ?_
    refine va_get (D := (dC, dI)) (ci := 0) (v := .ref (ad 8)) (C := R_LazyMachine) (T := F_LazyMachine) (N := 13) hx hb hts (fun q hq => List.mem_cons_of_mem _ (i_LazyMachine q hq)) hown hK hP 0 rfl rfl 1 (by decide) (hts _ (List.mem_cons_of_mem _ m_2_8)) (fun _ h9 => h9) rfl d_LazyMachine_stepBack_116 ?_
    refine lm_vi (b := ad 8) (As := []) (rest := [.int r4, .ref (ad 0)]) (wr := (ma_W cA ad (ss, sp, fo, ba, no, en, vs, vf, vg)) ++ (hp_W cA (fun k => ad (k + 1)) SM) ++ (tm_W cA (fun k => ad (k + 12)) XM) ++ (tm_W cA (fun k => ad (k + 19)) YM)) ⟨hx, hb, hml, hown, hts⟩ hK hP hD hS hA [8, 9, 10, 11] [0, 1, 2, 3, 4, 5, 6, 7, 12, 13, 14, 15, 16, 17, 18, 19, 20, 21, 22, 23, 24, 25] rfl rfl (by decide) (by decide) (by decide) (c_Pile_topSecond l dC dI cA (fun k => ad (k + 8)) _ PM  (by exact hi.2.2.1)) (cwV 0 hts (lm_gV m_9_3 m_9_4 m_9_5 m_0_3 m_9_6) rfl rfl rfl (by decide +kernel) ⟨Nat.le_of_ble_eq_true rfl, Nat.le_of_ble_eq_true rfl⟩) (va_recv (q0 := 8) hK hP rfl rfl) lm_bl_no (fun _ _ _ => trivial) hl.1 rfl rfl (Nat.le_of_ble_eq_true rfl) d_LazyMachine_stepBack_119 ⟨Nat.le_of_ble_eq_true rfl, Nat.le_of_ble_eq_true rfl⟩ (fun r119 u119 H locs w119 hP hD hS => ?_)
    obtain ⟨e_r119, w119⟩ := w119
    replace w119 := w119.symm
    subst w119
    have hP : va_P (dC, dI) classes (lz_W cA ad ((ss, sp, fo, ba, no, en, vs, vf, vg), SM, PM, XM, YM)) H := hP.sub [0, 1, 2, 3, 4, 5, 6, 7, 22, 23, 24, 25, 8, 9, 10, 11, 12, 13, 14, 15, 16, 17, 18, 19, 20, 21] rfl
    have hD : va_D A (lz_W cA ad ((ss, sp, fo, ba, no, en, vs, vf, vg), SM, PM, XM, YM)) := hD.sub [0, 1, 2, 3, 4, 5, 6, 7, 22, 23, 24, 25, 8, 9, 10, 11, 12, 13, 14, 15, 16, 17, 18, 19, 20, 21] (by decide) rfl
    refine lm_vi (b := ad 0) (As := [.int r4, .int r119]) (rest := []) (wr := ([] : va_W)) ⟨hx, hb, hml, hown, hts⟩ hK hP hD hS hA [0, 1, 2, 3, 4, 5, 6, 7, 8, 9, 10, 11, 12, 13, 14, 15, 16, 17, 18, 19, 20, 21, 22, 23, 24, 25] [] rfl rfl (by decide) (by decide) (by decide) (c_LazyMachine_stepTest l dC dI cA ad _ ((ss, sp, fo, ba, no, en, vs, vf, vg), SM, PM, XM, YM) r4 r119 (by rw [e_r4]; exact hn2 (by first | exact Or.inl h15_2 | exact Or.inr (Or.inl h15_3) | exact Or.inr (Or.inr h15_4)))) (cwV 2 hts (lm_gV m_10_10 m_10_11 m_19_15 m_0_1 m_10_12) rfl rfl rfl (by decide +kernel) ⟨Nat.le_of_ble_eq_true rfl, Nat.le_of_ble_eq_true rfl⟩) (va_recv (q0 := 0) hK hP rfl rfl) lm_bl_no (fun _ _ _ => trivial) hl.1 rfl rfl (Nat.le_of_ble_eq_true rfl) d_LazyMachine_stepBack_122 ⟨Nat.le_of_ble_eq_true rfl, Nat.le_of_ble_eq_true rfl⟩ (fun r122 u122 H locs w122 hP hD hS => ?_)
    obtain ⟨e_r122, w122⟩ := w122
    have hP : va_P (dC, dI) classes (lz_W cA ad u122) H := hP
    have hD : va_D A (lz_W cA ad u122) := hD
    refine lm_ri (v := r122) hx hb hr hlocks u122 ?_ hP hK hD hS d_LazyMachine_stepBack_125
    subst e_r4 e_r12 e_r119 e_r122 w122; unfold ma_bk; rw [if_neg h15_0]; rw [if_neg h15_1]; rw [if_neg h15_2]; rw [if_neg h15_3]; rw [if_pos h15_4]; exact ⟨rfl, rfl⟩
  by_cases h15_5 : (pl_topSort PM) = 5
  · refine lv_tableIn (tgt := 126) hx hb d_LazyMachine_stepBack_15 (by rw [h15_5]; decide) (by rw [h15_5]; decide) (by rw [h15_5]; rfl) rfl ?_
    refine lv_aload_n hx hb d_LazyMachine_stepBack_126 rfl (lv_at hl 1 rfl) ?_
    refine lv_iload_n hx hb d_LazyMachine_stepBack_127 rfl (lv_at hl 0 rfl) ?_
    refine lm_vi (b := ad 0) (As := [.int r4]) (rest := []) (wr := ([] : va_W)) ⟨hx, hb, hml, hown, hts⟩ hK hP hD hS hA [0, 1, 2, 3, 4, 5, 6, 7, 8, 9, 10, 11, 12, 13, 14, 15, 16, 17, 18, 19, 20, 21, 22, 23, 24, 25] [] rfl rfl (by decide) (by decide) (by decide) (c_LazyMachine_stepPart l dC dI cA ad _ ((ss, sp, fo, ba, no, en, vs, vf, vg), SM, PM, XM, YM) r4 (by exact hi.2.2.1) (by exact hv2)) (cwV 1 hts (lm_gV m_10_13 m_10_14 m_19_16 m_0_1 m_10_15) rfl rfl rfl (by decide +kernel) ⟨Nat.le_of_ble_eq_true rfl, Nat.le_of_ble_eq_true rfl⟩) (va_recv (q0 := 0) hK hP rfl rfl) lm_bl_no (fun _ _ _ => trivial) hl.1 rfl rfl (Nat.le_of_ble_eq_true rfl) d_LazyMachine_stepBack_128 ⟨Nat.le_of_ble_eq_true rfl, Nat.le_of_ble_eq_true rfl⟩ (fun r128 u128 H locs w128 hP hD hS => ?_)
    obtain ⟨e_r128, w128⟩ := w128
    have hP : va_P (dC, dI) classes (lz_W cA ad u128) H := hP
    have hD : va_D A (lz_W cA ad u128) := hD
    refine lm_ri (v := r128) hx hb hr hlocks u128 ?_ hP hK hD hS d_LazyMachine_stepBack_131
    subst e_r4 e_r12 e_r128 w128; unfold ma_bk; rw [if_neg h15_0]; rw [if_neg h15_1]; rw [if_neg h15_2]; rw [if_neg h15_3]; rw [if_neg h15_4]; rw [if_pos h15_5]; exact ⟨rfl, rfl⟩
  have qh15_0 := lv_neT (a := 0) h15_0 (by decide)
  have qh15_1 := lv_neT (a := 1) h15_1 (by decide)
  have qh15_2 := lv_neT (a := 2) h15_2 (by decide)
  have qh15_3 := lv_neT (a := 3) h15_3 (by decide)
  have qh15_4 := lv_neT (a := 4) h15_4 (by decide)
  have qh15_5 := lv_neT (a := 5) h15_5 (by decide)
  refine lv_tableOut (tgt := 132) hx hb d_LazyMachine_stepBack_15 (by omega) rfl ?_
  refine lv_iconst (v := 2) hx hb d_LazyMachine_stepBack_132 (by decide) ?_
  refine lm_ri (v := 2) hx hb hr hlocks ((ss, sp, fo, ba, no, en, vs, vf, vg), SM, PM, XM, YM) ?_ hP hK hD hS d_LazyMachine_stepBack_133
  subst e_r4 e_r12; unfold ma_bk; rw [if_neg h15_0]; rw [if_neg h15_1]; rw [if_neg h15_2]; rw [if_neg h15_3]; rw [if_neg h15_4]; rw [if_neg h15_5]; exact ⟨rfl, rfl⟩
set_option maxHeartbeats 4000000 in
set_option maxRecDepth 100000 in
theorem c_LazyMachine_run (l : Launch) (dC : Nat → ClassId) (dI : Nat → Nat → Nat) (cA : ClassId)  (ad : Nat → Nat) (sz : Nat) (M : ZMS) (x : Int32) (hs : ¬ l_ss M = 0) (hx1 : ∃ k : Nat, k ≤ 5000 ∧ x = nI k) (I : Nat → ZMS → Prop) (hI0 : I 0 M) (hI1 : ∀ j N, j < 5000 → I j N → l_ss N = 1 → sf_step N) (hI2 : ∀ j N, j < 5000 → I j N → l_ss N = 1 → I (j + 1) (ma_step N)) : Met l y_LazyMachine_run w_LazyMachine_run ({ frames := 6, cells := 0, slots := 0, locals := 130 } : Room) (va_Pc [.ref (ad 0), .int x] (lm_pre (dC, dI) classes [(cA, .int)] (lz_W cA ad M) sz lm_no)) (va_Qi (fun (r : Int32) (u : ZMS) => r = l_ss (ma_runN x.toNatClampNeg M) ∧ u = ma_runN x.toNatClampNeg M) (fun u => lm_at (dC, dI) classes [(cA, .int)] (va_A (lz_W cA ad M) sz) (lz_W cA ad u)) (va_A (lz_W cA ad M) sz)) 0 0 (va_A (lz_W cA ad M) sz) := by
  obtain ⟨⟨ss, sp, fo, ba, no, en, vs, vf, vg⟩, SM, PM, XM, YM⟩ := M
  obtain ⟨k, hk0, rfl⟩ := hx1
  have hs : ¬ ss = 0 := hs
  refine lm_met (fun A => va_Qi (fun (r : Int32) (u : ZMS) => r = l_ss (ma_runN (nI k).toNatClampNeg ((ss, sp, fo, ba, no, en, vs, vf, vg), SM, PM, XM, YM)) ∧ u = ma_runN (nI k).toNatClampNeg ((ss, sp, fo, ba, no, en, vs, vf, vg), SM, PM, XM, YM)) (fun u => lm_at (dC, dI) classes [(cA, .int)] A (lz_W cA ad u)) A) (by decide) rfl (Nat.le_of_ble_eq_true rfl) ?_
  intro p e s m below meth c A hx hb hr hts hown hlocks hname hml hK hP hD hA hE hsz hAe hS ls hl
  replace hl : lv_has ls 3 [(0, .ref (ad 0)), (1, .int (nI k))] := hl
  clear hAe hsz
  refine lv_aload_n hx hb d_LazyMachine_run_0 rfl (lv_at hl 0 rfl) ?_
  refine va_get (D := (dC, dI)) (ci := 0) (v := .int ss) (C := R_LazyMachine) (T := F_LazyMachine) (N := 13) hx hb hts (fun q hq => List.mem_cons_of_mem _ (i_LazyMachine q hq)) hown hK hP 0 rfl rfl 4 (by decide) (hts _ (List.mem_cons_of_mem _ m_2_11)) (fun _ h9 => h9) rfl d_LazyMachine_run_1 ?_
  refine lv_if_ne hx hb d_LazyMachine_run_4 rfl (fun h4 => ?_) (fun h4 => by exact absurd h4 hs)
  refine lv_iload_n hx hb d_LazyMachine_run_17 rfl (lv_at hl 1 rfl) ?_
  refine lv_if_lt hx hb d_LazyMachine_run_18 rfl (fun h18 => by exact absurd h18 (nI_pos (by omega))) (fun h18 => ?_)
  refine lv_iload_n hx hb d_LazyMachine_run_21 rfl (lv_at hl 1 rfl) ?_
  refine lv_sipush (v := 5000) hx hb d_LazyMachine_run_22 (by decide) ?_
  refine lv_icmp_le hx hb d_LazyMachine_run_25 rfl (fun h25 => ?_) (fun h25 => by exact absurd (show nI k ≤ (5000 : Int32) from nI_le (b := 5000) hk0 (by decide)) h25)
  refine lv_iconst (v := 0) hx hb d_LazyMachine_run_38 (by decide) ?_
  refine lv_istore_n (lv' := [(2, .int 0), (0, .ref (ad 0)), (1, .int (nI k))]) hx hb d_LazyMachine_run_39 rfl hl (by decide) rfl (fun ls hl => ?_)
  have loop : ∀ (fu : Nat) (i : Nat) (N : ZMS) (ls : Array Slot) (H : Heap) (locs : List Loc), (i + fu = k) → (I i N) → (ma_runN (nI k).toNatClampNeg ((ss, sp, fo, ba, no, en, vs, vf, vg), SM, PM, XM, YM) = ma_runN fu N) → lv_has ls 3 [(2, .int (nI i)), (0, .ref (ad 0)), (1, .int (nI k))] → va_P (dC, dI) classes (lz_W cA ad N) H → va_D A (lz_W cA ad N) → va_S A s.heap H locs → W p l e (headSpec w_LazyMachine_run ({ frames := 6, cells := 0, slots := 0, locals := 130 } : Room)).room s m (List.toArray [.ref (ad 0), .int (nI k)]) below meth c H locs 0 0 (MQ below (va_Qi (fun (r : Int32) (u : ZMS) => r = l_ss (ma_runN (nI k).toNatClampNeg ((ss, sp, fo, ba, no, en, vs, vf, vg), SM, PM, XM, YM)) ∧ u = ma_runN (nI k).toNatClampNeg ((ss, sp, fo, ba, no, en, vs, vf, vg), SM, PM, XM, YM)) (fun u => lm_at (dC, dI) classes [(cA, .int)] A (lz_W cA ad u)) A) (List.toArray [.ref (ad 0), .int (nI k)]) s 0 0 A) (F0 m 40 ls []) := by
    intro fu
    induction fu with
    | zero => 
      intro i N ls H locs hk hI hq hl hP hD hS
      refine lv_iload_n hx hb d_LazyMachine_run_40 rfl (lv_at hl 0 rfl) ?_
      refine lv_iload_n hx hb d_LazyMachine_run_41 rfl (lv_at hl 2 rfl) ?_
      refine lv_icmp_ge hx hb d_LazyMachine_run_42 rfl (fun h42 => ?_) (fun h42 => by exact absurd (nI_le (by omega) (by omega)) h42)
      refine lv_aload_n hx hb d_LazyMachine_run_107 rfl (lv_at hl 1 rfl) ?_
      refine va_get (D := (dC, dI)) (ci := 0) (v := .int N.1.1) (C := R_LazyMachine) (T := F_LazyMachine) (N := 13) hx hb hts (fun q hq => List.mem_cons_of_mem _ (i_LazyMachine q hq)) hown hK hP 0 rfl rfl 4 (by decide) (hts _ (List.mem_cons_of_mem _ m_2_11)) (fun _ h9 => h9) rfl d_LazyMachine_run_108 ?_
      refine lm_ri (v := N.1.1) hx hb hr hlocks N ?_ hP hK hD hS d_LazyMachine_run_111
      rw [hq]; first | (rw [ma_runN, if_neg h50]; exact ⟨rfl, rfl⟩) | (rw [ma_runN]; exact ⟨rfl, rfl⟩)
    | succ fu ih => 
      intro i N ls H locs hk hI hq hl hP hD hS
      refine lv_iload_n hx hb d_LazyMachine_run_40 rfl (lv_at hl 0 rfl) ?_
      refine lv_iload_n hx hb d_LazyMachine_run_41 rfl (lv_at hl 2 rfl) ?_
      refine lv_icmp_ge hx hb d_LazyMachine_run_42 rfl (fun h42 => by exact absurd h42 (nI_ge (by omega) (by omega))) (fun h42 => ?_)
      refine lv_aload_n hx hb d_LazyMachine_run_45 rfl (lv_at hl 1 rfl) ?_
      refine va_get (D := (dC, dI)) (ci := 0) (v := .int N.1.1) (C := R_LazyMachine) (T := F_LazyMachine) (N := 13) hx hb hts (fun q hq => List.mem_cons_of_mem _ (i_LazyMachine q hq)) hown hK hP 0 rfl rfl 4 (by decide) (hts _ (List.mem_cons_of_mem _ m_2_11)) (fun _ h9 => h9) rfl d_LazyMachine_run_46 ?_
      refine lv_iconst (v := 1) hx hb d_LazyMachine_run_49 (by decide) ?_
      refine lv_icmp_ne hx hb d_LazyMachine_run_50 rfl (fun h50 => ?_) (fun h50 => ?_)
      · refine lv_aload_n hx hb d_LazyMachine_run_107 rfl (lv_at hl 1 rfl) ?_
        refine va_get (D := (dC, dI)) (ci := 0) (v := .int N.1.1) (C := R_LazyMachine) (T := F_LazyMachine) (N := 13) hx hb hts (fun q hq => List.mem_cons_of_mem _ (i_LazyMachine q hq)) hown hK hP 0 rfl rfl 4 (by decide) (hts _ (List.mem_cons_of_mem _ m_2_11)) (fun _ h9 => h9) rfl d_LazyMachine_run_108 ?_
        refine lm_ri (v := N.1.1) hx hb hr hlocks N ?_ hP hK hD hS d_LazyMachine_run_111
        rw [hq]; first | (rw [ma_runN, if_neg h50]; exact ⟨rfl, rfl⟩) | (rw [ma_runN]; exact ⟨rfl, rfl⟩)
      · refine lv_aload_n hx hb d_LazyMachine_run_53 rfl (lv_at hl 1 rfl) ?_
        refine lv_aload_n hx hb d_LazyMachine_run_54 rfl (lv_at hl 1 rfl) ?_
        refine va_get (D := (dC, dI)) (ci := 0) (v := .int N.1.2.2.2.1) (C := R_LazyMachine) (T := F_LazyMachine) (N := 13) hx hb hts (fun q hq => List.mem_cons_of_mem _ (i_LazyMachine q hq)) hown hK hP 0 rfl rfl 7 (by decide) (hts _ (List.mem_cons_of_mem _ m_2_14)) (fun _ h9 => h9) rfl d_LazyMachine_run_55 ?_
        refine lv_if_eq hx hb d_LazyMachine_run_58 rfl (fun h58 => ?_) (fun h58 => ?_)
        · refine lv_aload_n hx hb d_LazyMachine_run_68 rfl (lv_at hl 1 rfl) ?_
          refine lm_vi (b := ad 0) (As := []) (rest := [.ref (ad 0)]) (wr := ([] : va_W)) ⟨hx, hb, hml, hown, hts⟩ hK hP hD hS hA [0, 1, 2, 3, 4, 5, 6, 7, 8, 9, 10, 11, 12, 13, 14, 15, 16, 17, 18, 19, 20, 21, 22, 23, 24, 25] [] rfl rfl (by decide) (by decide) (by decide) (c_LazyMachine_stepAt l dC dI cA ad _ N  (by exact (hI1 i N (by omega) hI h50).1 h58)) (cwV 0 hts (lm_gV m_11_8 m_11_9 m_19_18 m_0_1 m_11_10) rfl rfl rfl (by decide +kernel) ⟨Nat.le_of_ble_eq_true rfl, Nat.le_of_ble_eq_true rfl⟩) (va_recv (q0 := 0) hK hP rfl rfl) lm_bl_no (fun _ _ _ => trivial) hl.1 rfl rfl (Nat.le_of_ble_eq_true rfl) d_LazyMachine_run_69 ⟨Nat.le_of_ble_eq_true rfl, Nat.le_of_ble_eq_true rfl⟩ (fun r69 u69 H locs w69 hP hD hS => ?_)
          obtain ⟨e_r69, w69⟩ := w69
          have hP : va_P (dC, dI) classes (lz_W cA ad u69) H := hP
          have hD : va_D A (lz_W cA ad u69) := hD
          refine va_put (D := (dC, dI)) (ci := 0) (v := .int r69) (ty := .int) (C := R_LazyMachine) (T := F_LazyMachine) (N := 13) hx hb hts (fun q hq => List.mem_cons_of_mem _ (i_LazyMachine q hq)) t_LazyMachine t_LazyMachine_ok n_LazyMachine hown hK hP hD hS 0 rfl rfl 4 (by decide) (hts _ (List.mem_cons_of_mem _ m_2_11)) (fun _ h9 => h9) rfl (by decide +kernel) rfl rfl (Nat.le_of_ble_eq_true rfl) d_LazyMachine_run_72 (fun H locs hP hD hS => ?_)
          have hP : va_P (dC, dI) classes (lz_W cA ad ((r69, u69.1.2.1, u69.1.2.2.1, u69.1.2.2.2.1, u69.1.2.2.2.2.1, u69.1.2.2.2.2.2.1, u69.1.2.2.2.2.2.2.1, u69.1.2.2.2.2.2.2.2.1, u69.1.2.2.2.2.2.2.2.2), u69.2.1, u69.2.2.1, u69.2.2.2.1, u69.2.2.2.2)) H := hP
          have hD : va_D A (lz_W cA ad ((r69, u69.1.2.1, u69.1.2.2.1, u69.1.2.2.2.1, u69.1.2.2.2.2.1, u69.1.2.2.2.2.2.1, u69.1.2.2.2.2.2.2.1, u69.1.2.2.2.2.2.2.2.1, u69.1.2.2.2.2.2.2.2.2), u69.2.1, u69.2.2.1, u69.2.2.2.1, u69.2.2.2.2)) := hD
          refine lv_aload_n hx hb d_LazyMachine_run_75 rfl (lv_at hl 1 rfl) ?_
          refine va_get (D := (dC, dI)) (ci := 0) (v := .int r69) (C := R_LazyMachine) (T := F_LazyMachine) (N := 13) hx hb hts (fun q hq => List.mem_cons_of_mem _ (i_LazyMachine q hq)) hown hK hP 0 rfl rfl 4 (by decide) (hts _ (List.mem_cons_of_mem _ m_2_11)) (fun _ h9 => h9) rfl d_LazyMachine_run_76 ?_
          refine lv_iconst (v := 1) hx hb d_LazyMachine_run_79 (by decide) ?_
          refine lv_icmp_eq hx hb d_LazyMachine_run_80 rfl (fun h80 => ?_) (fun h80 => ?_)
          · refine lv_aload_n hx hb d_LazyMachine_run_91 rfl (lv_at hl 1 rfl) ?_
            refine lv_dup hx hb d_LazyMachine_run_92 rfl ?_
            refine va_get (D := (dC, dI)) (ci := 0) (v := .int u69.1.2.1) (C := R_LazyMachine) (T := F_LazyMachine) (N := 13) hx hb hts (fun q hq => List.mem_cons_of_mem _ (i_LazyMachine q hq)) hown hK hP 0 rfl rfl 5 (by decide) (hts _ (List.mem_cons_of_mem _ m_2_12)) (fun _ h9 => h9) rfl d_LazyMachine_run_93 ?_
            refine lv_iconst (v := 1) hx hb d_LazyMachine_run_96 (by decide) ?_
            refine lv_iadd hx hb d_LazyMachine_run_97 ?_
            refine va_put (D := (dC, dI)) (ci := 0) (v := .int (u69.1.2.1 + 1)) (ty := .int) (C := R_LazyMachine) (T := F_LazyMachine) (N := 13) hx hb hts (fun q hq => List.mem_cons_of_mem _ (i_LazyMachine q hq)) t_LazyMachine t_LazyMachine_ok n_LazyMachine hown hK hP hD hS 0 rfl rfl 5 (by decide) (hts _ (List.mem_cons_of_mem _ m_2_12)) (fun _ h9 => h9) rfl (by decide +kernel) rfl rfl (Nat.le_of_ble_eq_true rfl) d_LazyMachine_run_98 (fun H locs hP hD hS => ?_)
            have hP : va_P (dC, dI) classes (lz_W cA ad ((r69, (u69.1.2.1 + 1), u69.1.2.2.1, u69.1.2.2.2.1, u69.1.2.2.2.2.1, u69.1.2.2.2.2.2.1, u69.1.2.2.2.2.2.2.1, u69.1.2.2.2.2.2.2.2.1, u69.1.2.2.2.2.2.2.2.2), u69.2.1, u69.2.2.1, u69.2.2.2.1, u69.2.2.2.2)) H := hP
            have hD : va_D A (lz_W cA ad ((r69, (u69.1.2.1 + 1), u69.1.2.2.1, u69.1.2.2.2.1, u69.1.2.2.2.2.1, u69.1.2.2.2.2.2.1, u69.1.2.2.2.2.2.2.1, u69.1.2.2.2.2.2.2.2.1, u69.1.2.2.2.2.2.2.2.2), u69.2.1, u69.2.2.1, u69.2.2.2.1, u69.2.2.2.2)) := hD
            refine lv_iinc (k := 0) (v := (nI (i + 1))) (lv' := [(2, .int (nI (i + 1))), (0, .ref (ad 0)), (1, .int (nI k))]) hx hb d_LazyMachine_run_101 hl rfl ((nI_succ i).symm) (by decide) rfl (fun ls hl => ?_)
            refine lv_goto hx hb d_LazyMachine_run_104 rfl ?_
            have hst : ((r69, (u69.1.2.1 + 1), u69.1.2.2.1, u69.1.2.2.2.1, u69.1.2.2.2.2.1, u69.1.2.2.2.2.2.1, u69.1.2.2.2.2.2.2.1, u69.1.2.2.2.2.2.2.2.1, u69.1.2.2.2.2.2.2.2.2), u69.2.1, u69.2.2.1, u69.2.2.2.1, u69.2.2.2.2) = ma_step N := by
              subst e_r69 w69; unfold ma_step ma_fin; (first | rw [if_pos h58] | rw [if_neg h58]); (first | rw [if_pos h80] | rw [if_neg h80]); rfl
            rw [hst] at hP hD
            exact ih (i + 1) (ma_step N) _ _ _ (by omega) (by exact hI2 i N (by omega) hI h50) (by rw [hq, ma_runN, if_pos h50]) (lv_sub hl [0, 1, 2] rfl) hP hD hS
          · refine lv_aload_n hx hb d_LazyMachine_run_83 rfl (lv_at hl 1 rfl) ?_
            refine va_get (D := (dC, dI)) (ci := 0) (v := .int r69) (C := R_LazyMachine) (T := F_LazyMachine) (N := 13) hx hb hts (fun q hq => List.mem_cons_of_mem _ (i_LazyMachine q hq)) hown hK hP 0 rfl rfl 4 (by decide) (hts _ (List.mem_cons_of_mem _ m_2_11)) (fun _ h9 => h9) rfl d_LazyMachine_run_84 ?_
            refine lv_iconst (v := 2) hx hb d_LazyMachine_run_87 (by decide) ?_
            refine lv_icmp_ne hx hb d_LazyMachine_run_88 rfl (fun h88 => ?_) (fun h88 => ?_)
            · refine lv_iinc (k := 0) (v := (nI (i + 1))) (lv' := [(2, .int (nI (i + 1))), (0, .ref (ad 0)), (1, .int (nI k))]) hx hb d_LazyMachine_run_101 hl rfl ((nI_succ i).symm) (by decide) rfl (fun ls hl => ?_)
              refine lv_goto hx hb d_LazyMachine_run_104 rfl ?_
              have hst : ((r69, u69.1.2.1, u69.1.2.2.1, u69.1.2.2.2.1, u69.1.2.2.2.2.1, u69.1.2.2.2.2.2.1, u69.1.2.2.2.2.2.2.1, u69.1.2.2.2.2.2.2.2.1, u69.1.2.2.2.2.2.2.2.2), u69.2.1, u69.2.2.1, u69.2.2.2.1, u69.2.2.2.2) = ma_step N := by
                subst e_r69 w69; unfold ma_step ma_fin; (first | rw [if_pos h58] | rw [if_neg h58]); (first | rw [if_pos h80] | rw [if_neg h80]); (first | rw [if_pos h88] | rw [if_neg h88]); rfl
              rw [hst] at hP hD
              exact ih (i + 1) (ma_step N) _ _ _ (by omega) (by exact hI2 i N (by omega) hI h50) (by rw [hq, ma_runN, if_pos h50]) (lv_sub hl [0, 1, 2] rfl) hP hD hS
            · refine lv_aload_n hx hb d_LazyMachine_run_91 rfl (lv_at hl 1 rfl) ?_
              refine lv_dup hx hb d_LazyMachine_run_92 rfl ?_
              refine va_get (D := (dC, dI)) (ci := 0) (v := .int u69.1.2.1) (C := R_LazyMachine) (T := F_LazyMachine) (N := 13) hx hb hts (fun q hq => List.mem_cons_of_mem _ (i_LazyMachine q hq)) hown hK hP 0 rfl rfl 5 (by decide) (hts _ (List.mem_cons_of_mem _ m_2_12)) (fun _ h9 => h9) rfl d_LazyMachine_run_93 ?_
              refine lv_iconst (v := 1) hx hb d_LazyMachine_run_96 (by decide) ?_
              refine lv_iadd hx hb d_LazyMachine_run_97 ?_
              refine va_put (D := (dC, dI)) (ci := 0) (v := .int (u69.1.2.1 + 1)) (ty := .int) (C := R_LazyMachine) (T := F_LazyMachine) (N := 13) hx hb hts (fun q hq => List.mem_cons_of_mem _ (i_LazyMachine q hq)) t_LazyMachine t_LazyMachine_ok n_LazyMachine hown hK hP hD hS 0 rfl rfl 5 (by decide) (hts _ (List.mem_cons_of_mem _ m_2_12)) (fun _ h9 => h9) rfl (by decide +kernel) rfl rfl (Nat.le_of_ble_eq_true rfl) d_LazyMachine_run_98 (fun H locs hP hD hS => ?_)
              have hP : va_P (dC, dI) classes (lz_W cA ad ((r69, (u69.1.2.1 + 1), u69.1.2.2.1, u69.1.2.2.2.1, u69.1.2.2.2.2.1, u69.1.2.2.2.2.2.1, u69.1.2.2.2.2.2.2.1, u69.1.2.2.2.2.2.2.2.1, u69.1.2.2.2.2.2.2.2.2), u69.2.1, u69.2.2.1, u69.2.2.2.1, u69.2.2.2.2)) H := hP
              have hD : va_D A (lz_W cA ad ((r69, (u69.1.2.1 + 1), u69.1.2.2.1, u69.1.2.2.2.1, u69.1.2.2.2.2.1, u69.1.2.2.2.2.2.1, u69.1.2.2.2.2.2.2.1, u69.1.2.2.2.2.2.2.2.1, u69.1.2.2.2.2.2.2.2.2), u69.2.1, u69.2.2.1, u69.2.2.2.1, u69.2.2.2.2)) := hD
              refine lv_iinc (k := 0) (v := (nI (i + 1))) (lv' := [(2, .int (nI (i + 1))), (0, .ref (ad 0)), (1, .int (nI k))]) hx hb d_LazyMachine_run_101 hl rfl ((nI_succ i).symm) (by decide) rfl (fun ls hl => ?_)
              refine lv_goto hx hb d_LazyMachine_run_104 rfl ?_
              have hst : ((r69, (u69.1.2.1 + 1), u69.1.2.2.1, u69.1.2.2.2.1, u69.1.2.2.2.2.1, u69.1.2.2.2.2.2.1, u69.1.2.2.2.2.2.2.1, u69.1.2.2.2.2.2.2.2.1, u69.1.2.2.2.2.2.2.2.2), u69.2.1, u69.2.2.1, u69.2.2.2.1, u69.2.2.2.2) = ma_step N := by
                subst e_r69 w69; unfold ma_step ma_fin; (first | rw [if_pos h58] | rw [if_neg h58]); (first | rw [if_pos h80] | rw [if_neg h80]); (first | rw [if_pos h88] | rw [if_neg h88]); rfl
              rw [hst] at hP hD
              exact ih (i + 1) (ma_step N) _ _ _ (by omega) (by exact hI2 i N (by omega) hI h50) (by rw [hq, ma_runN, if_pos h50]) (lv_sub hl [0, 1, 2] rfl) hP hD hS
        · refine lv_aload_n hx hb d_LazyMachine_run_61 rfl (lv_at hl 1 rfl) ?_
          refine lm_vi (b := ad 0) (As := []) (rest := [.ref (ad 0)]) (wr := ([] : va_W)) ⟨hx, hb, hml, hown, hts⟩ hK hP hD hS hA [0, 1, 2, 3, 4, 5, 6, 7, 8, 9, 10, 11, 12, 13, 14, 15, 16, 17, 18, 19, 20, 21, 22, 23, 24, 25] [] rfl rfl (by decide) (by decide) (by decide) (c_LazyMachine_stepBack l dC dI cA ad _ N  (by exact (hI1 i N (by omega) hI h50).2 h58)) (cwV 0 hts (lm_gV m_7_9 m_7_10 m_19_8 m_0_1 m_7_11) rfl rfl rfl (by decide +kernel) ⟨Nat.le_of_ble_eq_true rfl, Nat.le_of_ble_eq_true rfl⟩) (va_recv (q0 := 0) hK hP rfl rfl) lm_bl_no (fun _ _ _ => trivial) hl.1 rfl rfl (Nat.le_of_ble_eq_true rfl) d_LazyMachine_run_62 ⟨Nat.le_of_ble_eq_true rfl, Nat.le_of_ble_eq_true rfl⟩ (fun r62 u62 H locs w62 hP hD hS => ?_)
          obtain ⟨e_r62, w62⟩ := w62
          have hP : va_P (dC, dI) classes (lz_W cA ad u62) H := hP
          have hD : va_D A (lz_W cA ad u62) := hD
          refine lv_goto hx hb d_LazyMachine_run_65 rfl ?_
          refine va_put (D := (dC, dI)) (ci := 0) (v := .int r62) (ty := .int) (C := R_LazyMachine) (T := F_LazyMachine) (N := 13) hx hb hts (fun q hq => List.mem_cons_of_mem _ (i_LazyMachine q hq)) t_LazyMachine t_LazyMachine_ok n_LazyMachine hown hK hP hD hS 0 rfl rfl 4 (by decide) (hts _ (List.mem_cons_of_mem _ m_2_11)) (fun _ h9 => h9) rfl (by decide +kernel) rfl rfl (Nat.le_of_ble_eq_true rfl) d_LazyMachine_run_72 (fun H locs hP hD hS => ?_)
          have hP : va_P (dC, dI) classes (lz_W cA ad ((r62, u62.1.2.1, u62.1.2.2.1, u62.1.2.2.2.1, u62.1.2.2.2.2.1, u62.1.2.2.2.2.2.1, u62.1.2.2.2.2.2.2.1, u62.1.2.2.2.2.2.2.2.1, u62.1.2.2.2.2.2.2.2.2), u62.2.1, u62.2.2.1, u62.2.2.2.1, u62.2.2.2.2)) H := hP
          have hD : va_D A (lz_W cA ad ((r62, u62.1.2.1, u62.1.2.2.1, u62.1.2.2.2.1, u62.1.2.2.2.2.1, u62.1.2.2.2.2.2.1, u62.1.2.2.2.2.2.2.1, u62.1.2.2.2.2.2.2.2.1, u62.1.2.2.2.2.2.2.2.2), u62.2.1, u62.2.2.1, u62.2.2.2.1, u62.2.2.2.2)) := hD
          refine lv_aload_n hx hb d_LazyMachine_run_75 rfl (lv_at hl 1 rfl) ?_
          refine va_get (D := (dC, dI)) (ci := 0) (v := .int r62) (C := R_LazyMachine) (T := F_LazyMachine) (N := 13) hx hb hts (fun q hq => List.mem_cons_of_mem _ (i_LazyMachine q hq)) hown hK hP 0 rfl rfl 4 (by decide) (hts _ (List.mem_cons_of_mem _ m_2_11)) (fun _ h9 => h9) rfl d_LazyMachine_run_76 ?_
          refine lv_iconst (v := 1) hx hb d_LazyMachine_run_79 (by decide) ?_
          refine lv_icmp_eq hx hb d_LazyMachine_run_80 rfl (fun h80 => ?_) (fun h80 => ?_)
          · refine lv_aload_n hx hb d_LazyMachine_run_91 rfl (lv_at hl 1 rfl) ?_
            refine lv_dup hx hb d_LazyMachine_run_92 rfl ?_
            refine va_get (D := (dC, dI)) (ci := 0) (v := .int u62.1.2.1) (C := R_LazyMachine) (T := F_LazyMachine) (N := 13) hx hb hts (fun q hq => List.mem_cons_of_mem _ (i_LazyMachine q hq)) hown hK hP 0 rfl rfl 5 (by decide) (hts _ (List.mem_cons_of_mem _ m_2_12)) (fun _ h9 => h9) rfl d_LazyMachine_run_93 ?_
            refine lv_iconst (v := 1) hx hb d_LazyMachine_run_96 (by decide) ?_
            refine lv_iadd hx hb d_LazyMachine_run_97 ?_
            refine va_put (D := (dC, dI)) (ci := 0) (v := .int (u62.1.2.1 + 1)) (ty := .int) (C := R_LazyMachine) (T := F_LazyMachine) (N := 13) hx hb hts (fun q hq => List.mem_cons_of_mem _ (i_LazyMachine q hq)) t_LazyMachine t_LazyMachine_ok n_LazyMachine hown hK hP hD hS 0 rfl rfl 5 (by decide) (hts _ (List.mem_cons_of_mem _ m_2_12)) (fun _ h9 => h9) rfl (by decide +kernel) rfl rfl (Nat.le_of_ble_eq_true rfl) d_LazyMachine_run_98 (fun H locs hP hD hS => ?_)
            have hP : va_P (dC, dI) classes (lz_W cA ad ((r62, (u62.1.2.1 + 1), u62.1.2.2.1, u62.1.2.2.2.1, u62.1.2.2.2.2.1, u62.1.2.2.2.2.2.1, u62.1.2.2.2.2.2.2.1, u62.1.2.2.2.2.2.2.2.1, u62.1.2.2.2.2.2.2.2.2), u62.2.1, u62.2.2.1, u62.2.2.2.1, u62.2.2.2.2)) H := hP
            have hD : va_D A (lz_W cA ad ((r62, (u62.1.2.1 + 1), u62.1.2.2.1, u62.1.2.2.2.1, u62.1.2.2.2.2.1, u62.1.2.2.2.2.2.1, u62.1.2.2.2.2.2.2.1, u62.1.2.2.2.2.2.2.2.1, u62.1.2.2.2.2.2.2.2.2), u62.2.1, u62.2.2.1, u62.2.2.2.1, u62.2.2.2.2)) := hD
            refine lv_iinc (k := 0) (v := (nI (i + 1))) (lv' := [(2, .int (nI (i + 1))), (0, .ref (ad 0)), (1, .int (nI k))]) hx hb d_LazyMachine_run_101 hl rfl ((nI_succ i).symm) (by decide) rfl (fun ls hl => ?_)
            refine lv_goto hx hb d_LazyMachine_run_104 rfl ?_
            have hst : ((r62, (u62.1.2.1 + 1), u62.1.2.2.1, u62.1.2.2.2.1, u62.1.2.2.2.2.1, u62.1.2.2.2.2.2.1, u62.1.2.2.2.2.2.2.1, u62.1.2.2.2.2.2.2.2.1, u62.1.2.2.2.2.2.2.2.2), u62.2.1, u62.2.2.1, u62.2.2.2.1, u62.2.2.2.2) = ma_step N := by
              subst e_r62 w62; unfold ma_step ma_fin; (first | rw [if_pos h58] | rw [if_neg h58]); (first | rw [if_pos h80] | rw [if_neg h80]); rfl
            rw [hst] at hP hD
            exact ih (i + 1) (ma_step N) _ _ _ (by omega) (by exact hI2 i N (by omega) hI h50) (by rw [hq, ma_runN, if_pos h50]) (lv_sub hl [0, 1, 2] rfl) hP hD hS
          · refine lv_aload_n hx hb d_LazyMachine_run_83 rfl (lv_at hl 1 rfl) ?_
            refine va_get (D := (dC, dI)) (ci := 0) (v := .int r62) (C := R_LazyMachine) (T := F_LazyMachine) (N := 13) hx hb hts (fun q hq => List.mem_cons_of_mem _ (i_LazyMachine q hq)) hown hK hP 0 rfl rfl 4 (by decide) (hts _ (List.mem_cons_of_mem _ m_2_11)) (fun _ h9 => h9) rfl d_LazyMachine_run_84 ?_
            refine lv_iconst (v := 2) hx hb d_LazyMachine_run_87 (by decide) ?_
            refine lv_icmp_ne hx hb d_LazyMachine_run_88 rfl (fun h88 => ?_) (fun h88 => ?_)
            · refine lv_iinc (k := 0) (v := (nI (i + 1))) (lv' := [(2, .int (nI (i + 1))), (0, .ref (ad 0)), (1, .int (nI k))]) hx hb d_LazyMachine_run_101 hl rfl ((nI_succ i).symm) (by decide) rfl (fun ls hl => ?_)
              refine lv_goto hx hb d_LazyMachine_run_104 rfl ?_
              have hst : ((r62, u62.1.2.1, u62.1.2.2.1, u62.1.2.2.2.1, u62.1.2.2.2.2.1, u62.1.2.2.2.2.2.1, u62.1.2.2.2.2.2.2.1, u62.1.2.2.2.2.2.2.2.1, u62.1.2.2.2.2.2.2.2.2), u62.2.1, u62.2.2.1, u62.2.2.2.1, u62.2.2.2.2) = ma_step N := by
                subst e_r62 w62; unfold ma_step ma_fin; (first | rw [if_pos h58] | rw [if_neg h58]); (first | rw [if_pos h80] | rw [if_neg h80]); (first | rw [if_pos h88] | rw [if_neg h88]); rfl
              rw [hst] at hP hD
              exact ih (i + 1) (ma_step N) _ _ _ (by omega) (by exact hI2 i N (by omega) hI h50) (by rw [hq, ma_runN, if_pos h50]) (lv_sub hl [0, 1, 2] rfl) hP hD hS
            · refine lv_aload_n hx hb d_LazyMachine_run_91 rfl (lv_at hl 1 rfl) ?_
              refine lv_dup hx hb d_LazyMachine_run_92 rfl ?_
              refine va_get (D := (dC, dI)) (ci := 0) (v := .int u62.1.2.1) (C := R_LazyMachine) (T := F_LazyMachine) (N := 13) hx hb hts (fun q hq => List.mem_cons_of_mem _ (i_LazyMachine q hq)) hown hK hP 0 rfl rfl 5 (by decide) (hts _ (List.mem_cons_of_mem _ m_2_12)) (fun _ h9 => h9) rfl d_LazyMachine_run_93 ?_
              refine lv_iconst (v := 1) hx hb d_LazyMachine_run_96 (by decide) ?_
              refine lv_iadd hx hb d_LazyMachine_run_97 ?_
              refine va_put (D := (dC, dI)) (ci := 0) (v := .int (u62.1.2.1 + 1)) (ty := .int) (C := R_LazyMachine) (T := F_LazyMachine) (N := 13) hx hb hts (fun q hq => List.mem_cons_of_mem _ (i_LazyMachine q hq)) t_LazyMachine t_LazyMachine_ok n_LazyMachine hown hK hP hD hS 0 rfl rfl 5 (by decide) (hts _ (List.mem_cons_of_mem _ m_2_12)) (fun _ h9 => h9) rfl (by decide +kernel) rfl rfl (Nat.le_of_ble_eq_true rfl) d_LazyMachine_run_98 (fun H locs hP hD hS => ?_)
              have hP : va_P (dC, dI) classes (lz_W cA ad ((r62, (u62.1.2.1 + 1), u62.1.2.2.1, u62.1.2.2.2.1, u62.1.2.2.2.2.1, u62.1.2.2.2.2.2.1, u62.1.2.2.2.2.2.2.1, u62.1.2.2.2.2.2.2.2.1, u62.1.2.2.2.2.2.2.2.2), u62.2.1, u62.2.2.1, u62.2.2.2.1, u62.2.2.2.2)) H := hP
              have hD : va_D A (lz_W cA ad ((r62, (u62.1.2.1 + 1), u62.1.2.2.1, u62.1.2.2.2.1, u62.1.2.2.2.2.1, u62.1.2.2.2.2.2.1, u62.1.2.2.2.2.2.2.1, u62.1.2.2.2.2.2.2.2.1, u62.1.2.2.2.2.2.2.2.2), u62.2.1, u62.2.2.1, u62.2.2.2.1, u62.2.2.2.2)) := hD
              refine lv_iinc (k := 0) (v := (nI (i + 1))) (lv' := [(2, .int (nI (i + 1))), (0, .ref (ad 0)), (1, .int (nI k))]) hx hb d_LazyMachine_run_101 hl rfl ((nI_succ i).symm) (by decide) rfl (fun ls hl => ?_)
              refine lv_goto hx hb d_LazyMachine_run_104 rfl ?_
              have hst : ((r62, (u62.1.2.1 + 1), u62.1.2.2.1, u62.1.2.2.2.1, u62.1.2.2.2.2.1, u62.1.2.2.2.2.2.1, u62.1.2.2.2.2.2.2.1, u62.1.2.2.2.2.2.2.2.1, u62.1.2.2.2.2.2.2.2.2), u62.2.1, u62.2.2.1, u62.2.2.2.1, u62.2.2.2.2) = ma_step N := by
                subst e_r62 w62; unfold ma_step ma_fin; (first | rw [if_pos h58] | rw [if_neg h58]); (first | rw [if_pos h80] | rw [if_neg h80]); (first | rw [if_pos h88] | rw [if_neg h88]); rfl
              rw [hst] at hP hD
              exact ih (i + 1) (ma_step N) _ _ _ (by omega) (by exact hI2 i N (by omega) hI h50) (by rw [hq, ma_runN, if_pos h50]) (lv_sub hl [0, 1, 2] rfl) hP hD hS
  exact loop k 0 ((ss, sp, fo, ba, no, en, vs, vf, vg), SM, PM, XM, YM) _ _ _ (by omega) (by exact hI0) (by rw [nI_clamp (by omega)]) hl hP hD hS
