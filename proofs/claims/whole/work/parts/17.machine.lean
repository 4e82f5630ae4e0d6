set_option maxHeartbeats 4000000 in
set_option maxRecDepth 100000 in
theorem c_LazyMachine_ask (l : Launch) (dC : Nat → ClassId) (dI : Nat → Nat → Nat) (cA : ClassId)  (ad : Nat → Nat) (sz : Nat) (M : ZMS) (x : Int32) (hx1 : hp_c x) (hz : pl_ok (m_P M)) : Met l y_LazyMachine_ask w_LazyMachine_ask ({ frames := 2, cells := 0, slots := 0, locals := 43 } : Room) (va_Pc [.ref (ad 0), .int x] (lm_pre (dC, dI) classes [(cA, .int)] (lz_W cA ad M) sz lm_no)) (va_Qi (fun (r : Int32) (u : ZMS) => r = (ma_ask M x).1 ∧ u = (ma_ask M x).2) (fun u => lm_at (dC, dI) classes [(cA, .int)] (va_A (lz_W cA ad M) sz) (lz_W cA ad u)) (va_A (lz_W cA ad M) sz)) 0 0 (va_A (lz_W cA ad M) sz) := by
  obtain ⟨⟨ss, sp, fo, ba, no, en, vs, vf, vg⟩, SM, PM, XM, YM⟩ := M
  refine lm_met (fun A => va_Qi (fun (r : Int32) (u : ZMS) => r = (ma_ask ((ss, sp, fo, ba, no, en, vs, vf, vg), SM, PM, XM, YM) x).1 ∧ u = (ma_ask ((ss, sp, fo, ba, no, en, vs, vf, vg), SM, PM, XM, YM) x).2) (fun u => lm_at (dC, dI) classes [(cA, .int)] A (lz_W cA ad u)) A) (by decide) rfl (Nat.le_of_ble_eq_true rfl) ?_
  intro p e s m below meth c A hx hb hr hts hown hlocks hname hml hK hP hD hA hE hsz hAe hS ls hl
  replace hl : lv_has ls 5 [(0, .ref (ad 0)), (1, .int x)] := hl
  clear hAe hsz
  refine lv_aload_n hx hb d_LazyMachine_ask_0 rfl (lv_at hl 0 rfl) ?_
  refine va_get (D := (dC, dI)) (ci := 0) (v := .ref (ad 1)) (C := R_LazyMachine) (T := F_LazyMachine) (N := 13) hx hb hts (fun q hq => List.mem_cons_of_mem _ (i_LazyMachine q hq)) hown hK hP 0 rfl rfl 0 (by decide) (hts _ (List.mem_cons_of_mem _ m_2_7)) (fun _ h9 => h9) rfl d_LazyMachine_ask_1 ?_
  refine lv_iload_n hx hb d_LazyMachine_ask_4 rfl (lv_at hl 1 rfl) ?_
  refine lm_vi (b := ad 1) (As := [.int x]) (rest := []) (wr := (ma_W cA ad (ss, sp, fo, ba, no, en, vs, vf, vg)) ++ (pl_W cA (fun k => ad (k + 8)) PM) ++ (tm_W cA (fun k => ad (k + 12)) XM) ++ (tm_W cA (fun k => ad (k + 19)) YM)) ⟨hx, hb, hml, hown, hts⟩ hK hP hD hS hA [1, 2, 3, 4, 5, 6, 7] [0, 8, 9, 10, 11, 12, 13, 14, 15, 16, 17, 18, 19, 20, 21, 22, 23, 24, 25] rfl rfl (by decide) (by decide) (by decide) (c_Heap_state l dC dI cA (fun k => ad (k + 1)) _ SM x (by exact hx1)) (cwV 1 hts (lm_gV m_10_16 m_10_17 m_10_18 m_0_2 m_10_19) rfl rfl rfl (by decide +kernel) ⟨Nat.le_of_ble_eq_true rfl, Nat.le_of_ble_eq_true rfl⟩) (va_recv (q0 := 1) hK hP rfl rfl) lm_bl_no (fun _ _ _ => trivial) hl.1 rfl rfl (Nat.le_of_ble_eq_true rfl) d_LazyMachine_ask_5 ⟨Nat.le_of_ble_eq_true rfl, Nat.le_of_ble_eq_true rfl⟩ (fun r5 u5 H locs w5 hP hD hS => ?_)
  obtain ⟨e_r5, w5⟩ := w5
  replace w5 := w5.symm
  subst w5
  have hP : va_P (dC, dI) classes (lz_W cA ad ((ss, sp, fo, ba, no, en, vs, vf, vg), SM, PM, XM, YM)) H := hP.sub [0, 19, 20, 21, 22, 23, 24, 25, 1, 2, 3, 4, 5, 6, 7, 8, 9, 10, 11, 12, 13, 14, 15, 16, 17, 18] rfl
  have hD : va_D A (lz_W cA ad ((ss, sp, fo, ba, no, en, vs, vf, vg), SM, PM, XM, YM)) := hD.sub [0, 19, 20, 21, 22, 23, 24, 25, 1, 2, 3, 4, 5, 6, 7, 8, 9, 10, 11, 12, 13, 14, 15, 16, 17, 18] (by decide) rfl
  refine lv_istore_n (lv' := [(2, .int r5), (0, .ref (ad 0)), (1, .int x)]) hx hb d_LazyMachine_ask_8 rfl hl (by decide) rfl (fun ls hl => ?_)
  refine lv_iload_n hx hb d_LazyMachine_ask_9 rfl (lv_at hl 0 rfl) ?_
  refine lv_iconst (v := 4) hx hb d_LazyMachine_ask_10 (by decide) ?_
  refine lv_icmp_ne hx hb d_LazyMachine_ask_11 rfl (fun h11 => ?_) (fun h11 => ?_)
  · refine lv_aload_n hx hb d_LazyMachine_ask_16 rfl (lv_at hl 1 rfl) ?_
    refine va_get (D := (dC, dI)) (ci := 0) (v := .ref (ad 1)) (C := R_LazyMachine) (T := F_LazyMachine) (N := 13) hx hb hts (fun q hq => List.mem_cons_of_mem _ (i_LazyMachine q hq)) hown hK hP 0 rfl rfl 0 (by decide) (hts _ (List.mem_cons_of_mem _ m_2_7)) (fun _ h9 => h9) rfl d_LazyMachine_ask_17 ?_
    refine lv_iload_n hx hb d_LazyMachine_ask_20 rfl (lv_at hl 2 rfl) ?_
    refine lm_vi (b := ad 1) (As := [.int x]) (rest := []) (wr := (ma_W cA ad (ss, sp, fo, ba, no, en, vs, vf, vg)) ++ (pl_W cA (fun k => ad (k + 8)) PM) ++ (tm_W cA (fun k => ad (k + 12)) XM) ++ (tm_W cA (fun k => ad (k + 19)) YM)) ⟨hx, hb, hml, hown, hts⟩ hK hP hD hS hA [1, 2, 3, 4, 5, 6, 7] [0, 8, 9, 10, 11, 12, 13, 14, 15, 16, 17, 18, 19, 20, 21, 22, 23, 24, 25] rfl rfl (by decide) (by decide) (by decide) (c_Heap_first l dC dI cA (fun k => ad (k + 1)) _ SM x (by exact hx1)) (cwV 1 hts (lm_gV m_10_23 m_11_0 m_11_1 m_0_2 m_11_2) rfl rfl rfl (by decide +kernel) ⟨Nat.le_of_ble_eq_true rfl, Nat.le_of_ble_eq_true rfl⟩) (va_recv (q0 := 1) hK hP rfl rfl) lm_bl_no (fun _ _ _ => trivial) hl.1 rfl rfl (Nat.le_of_ble_eq_true rfl) d_LazyMachine_ask_21 ⟨Nat.le_of_ble_eq_true rfl, Nat.le_of_ble_eq_true rfl⟩ (fun r21 u21 H locs w21 hP hD hS => ?_)
    obtain ⟨e_r21, w21⟩ := w21
    replace w21 := w21.symm
    subst w21
    have hP : va_P (dC, dI) classes (lz_W cA ad ((ss, sp, fo, ba, no, en, vs, vf, vg), SM, PM, XM, YM)) H := hP.sub [0, 19, 20, 21, 22, 23, 24, 25, 1, 2, 3, 4, 5, 6, 7, 8, 9, 10, 11, 12, 13, 14, 15, 16, 17, 18] rfl
    have hD : va_D A (lz_W cA ad ((ss, sp, fo, ba, no, en, vs, vf, vg), SM, PM, XM, YM)) := hD.sub [0, 19, 20, 21, 22, 23, 24, 25, 1, 2, 3, 4, 5, 6, 7, 8, 9, 10, 11, 12, 13, 14, 15, 16, 17, 18] (by decide) rfl
    refine lv_istore_n (lv' := [(3, .int r21), (2, .int r5), (0, .ref (ad 0)), (1, .int x)]) hx hb d_LazyMachine_ask_24 rfl hl (by decide) rfl (fun ls hl => ?_)
    refine lv_aload_n hx hb d_LazyMachine_ask_25 rfl (lv_at hl 2 rfl) ?_
    refine va_get (D := (dC, dI)) (ci := 0) (v := .ref (ad 1)) (C := R_LazyMachine) (T := F_LazyMachine) (N := 13) hx hb hts (fun q hq => List.mem_cons_of_mem _ (i_LazyMachine q hq)) hown hK hP 0 rfl rfl 0 (by decide) (hts _ (List.mem_cons_of_mem _ m_2_7)) (fun _ h9 => h9) rfl d_LazyMachine_ask_26 ?_
    refine lv_iload_n hx hb d_LazyMachine_ask_29 rfl (lv_at hl 3 rfl) ?_
    refine lm_vi (b := ad 1) (As := [.int x]) (rest := []) (wr := (ma_W cA ad (ss, sp, fo, ba, no, en, vs, vf, vg)) ++ (pl_W cA (fun k => ad (k + 8)) PM) ++ (tm_W cA (fun k => ad (k + 12)) XM) ++ (tm_W cA (fun k => ad (k + 19)) YM)) ⟨hx, hb, hml, hown, hts⟩ hK hP hD hS hA [1, 2, 3, 4, 5, 6, 7] [0, 8, 9, 10, 11, 12, 13, 14, 15, 16, 17, 18, 19, 20, 21, 22, 23, 24, 25] rfl rfl (by decide) (by decide) (by decide) (c_Heap_second l dC dI cA (fun k => ad (k + 1)) _ SM x (by exact hx1)) (cwV 1 hts (lm_gV m_11_3 m_11_4 m_11_5 m_0_2 m_11_6) rfl rfl rfl (by decide +kernel) ⟨Nat.le_of_ble_eq_true rfl, Nat.le_of_ble_eq_true rfl⟩) (va_recv (q0 := 1) hK hP rfl rfl) lm_bl_no (fun _ _ _ => trivial) hl.1 rfl rfl (Nat.le_of_ble_eq_true rfl) d_LazyMachine_ask_30 ⟨Nat.le_of_ble_eq_true rfl, Nat.le_of_ble_eq_true rfl⟩ (fun r30 u30 H locs w30 hP hD hS => ?_)
    obtain ⟨e_r30, w30⟩ := w30
    replace w30 := w30.symm
    subst w30
    have hP : va_P (dC, dI) classes (lz_W cA ad ((ss, sp, fo, ba, no, en, vs, vf, vg), SM, PM, XM, YM)) H := hP.sub [0, 19, 20, 21, 22, 23, 24, 25, 1, 2, 3, 4, 5, 6, 7, 8, 9, 10, 11, 12, 13, 14, 15, 16, 17, 18] rfl
    have hD : va_D A (lz_W cA ad ((ss, sp, fo, ba, no, en, vs, vf, vg), SM, PM, XM, YM)) := hD.sub [0, 19, 20, 21, 22, 23, 24, 25, 1, 2, 3, 4, 5, 6, 7, 8, 9, 10, 11, 12, 13, 14, 15, 16, 17, 18] (by decide) rfl
    refine lv_istore (lv' := [(4, .int r30), (3, .int r21), (2, .int r5), (0, .ref (ad 0)), (1, .int x)]) hx hb d_LazyMachine_ask_33 hl (by decide) rfl (fun ls hl => ?_)
    refine lv_iload_n hx hb d_LazyMachine_ask_35 rfl (lv_at hl 2 rfl) ?_
    refine lv_iconst (v := 3) hx hb d_LazyMachine_ask_36 (by decide) ?_
    refine lv_icmp_eq hx hb d_LazyMachine_ask_37 rfl (fun h37 => ?_) (fun h37 => ?_)
    · refine lv_aload_n hx hb d_LazyMachine_ask_49 rfl (lv_at hl 3 rfl) ?_
      refine va_get (D := (dC, dI)) (ci := 0) (v := .ref (ad 8)) (C := R_LazyMachine) (T := F_LazyMachine) (N := 13) hx hb hts (fun q hq => List.mem_cons_of_mem _ (i_LazyMachine q hq)) hown hK hP 0 rfl rfl 1 (by decide) (hts _ (List.mem_cons_of_mem _ m_2_8)) (fun _ h9 => h9) rfl d_LazyMachine_ask_50 ?_
      refine lm_vi (b := ad 8) (As := []) (rest := []) (wr := (ma_W cA ad (ss, sp, fo, ba, no, en, vs, vf, vg)) ++ (hp_W cA (fun k => ad (k + 1)) SM) ++ (tm_W cA (fun k => ad (k + 12)) XM) ++ (tm_W cA (fun k => ad (k + 19)) YM)) ⟨hx, hb, hml, hown, hts⟩ hK hP hD hS hA [8, 9, 10, 11] [0, 1, 2, 3, 4, 5, 6, 7, 12, 13, 14, 15, 16, 17, 18, 19, 20, 21, 22, 23, 24, 25] rfl rfl (by decide) (by decide) (by decide) (c_Pile_isFull l dC dI cA (fun k => ad (k + 8)) _ PM  ) (cwV 0 hts (lm_gV m_11_7 m_9_15 m_9_16 m_0_3 m_9_17) rfl rfl rfl (by decide +kernel) ⟨Nat.le_of_ble_eq_true rfl, Nat.le_of_ble_eq_true rfl⟩) (va_recv (q0 := 8) hK hP rfl rfl) lm_bl_no (fun _ _ _ => trivial) hl.1 rfl rfl (Nat.le_of_ble_eq_true rfl) d_LazyMachine_ask_53 ⟨Nat.le_of_ble_eq_true rfl, Nat.le_of_ble_eq_true rfl⟩ (fun r53 u53 H locs w53 hP hD hS => ?_)
      obtain ⟨e_r53, w53⟩ := w53
      replace w53 := w53.symm
      subst w53
      have hP : va_P (dC, dI) classes (lz_W cA ad ((ss, sp, fo, ba, no, en, vs, vf, vg), SM, PM, XM, YM)) H := hP.sub [0, 1, 2, 3, 4, 5, 6, 7, 22, 23, 24, 25, 8, 9, 10, 11, 12, 13, 14, 15, 16, 17, 18, 19, 20, 21] rfl
      have hD : va_D A (lz_W cA ad ((ss, sp, fo, ba, no, en, vs, vf, vg), SM, PM, XM, YM)) := hD.sub [0, 1, 2, 3, 4, 5, 6, 7, 22, 23, 24, 25, 8, 9, 10, 11, 12, 13, 14, 15, 16, 17, 18, 19, 20, 21] (by decide) rfl
      refine lv_if_eq hx hb d_LazyMachine_ask_56 rfl (fun h56 => ?_) (fun h56 => ?_)
      · refine lv_aload_n hx hb d_LazyMachine_ask_61 rfl (lv_at hl 3 rfl) ?_
        refine va_get (D := (dC, dI)) (ci := 0) (v := .ref (ad 1)) (C := R_LazyMachine) (T := F_LazyMachine) (N := 13) hx hb hts (fun q hq => List.mem_cons_of_mem _ (i_LazyMachine q hq)) hown hK hP 0 rfl rfl 0 (by decide) (hts _ (List.mem_cons_of_mem _ m_2_7)) (fun _ h9 => h9) rfl d_LazyMachine_ask_62 ?_
        refine lv_iload_n hx hb d_LazyMachine_ask_65 rfl (lv_at hl 4 rfl) ?_
        refine lv_iconst (v := 4) hx hb d_LazyMachine_ask_66 (by decide) ?_
        refine lv_iconst (v := -1) hx hb d_LazyMachine_ask_67 (by decide) ?_
        refine lv_iconst (v := -1) hx hb d_LazyMachine_ask_68 (by decide) ?_
        refine lm_vv (b := ad 1) (As := [.int x, .int 4, .int (-1), .int (-1)]) (rest := []) (wr := (ma_W cA ad (ss, sp, fo, ba, no, en, vs, vf, vg)) ++ (pl_W cA (fun k => ad (k + 8)) PM) ++ (tm_W cA (fun k => ad (k + 12)) XM) ++ (tm_W cA (fun k => ad (k + 19)) YM)) ⟨hx, hb, hml, hown, hts⟩ hK hP hD hS hA [1, 2, 3, 4, 5, 6, 7] [0, 8, 9, 10, 11, 12, 13, 14, 15, 16, 17, 18, 19, 20, 21, 22, 23, 24, 25] rfl rfl (by decide) (by decide) (by decide) (c_Heap_become l dC dI cA (fun k => ad (k + 1)) _ SM x 4 (-1) (-1) (by exact hx1)) (cwV 4 hts (lm_gV m_8_0 m_8_1 m_8_2 m_0_2 m_8_3) rfl rfl rfl (by decide +kernel) ⟨Nat.le_of_ble_eq_true rfl, Nat.le_of_ble_eq_true rfl⟩) (va_recv (q0 := 1) hK hP rfl rfl) lm_bl_no (fun _ _ _ => trivial) hl.1 rfl rfl (Nat.le_of_ble_eq_true rfl) d_LazyMachine_ask_69 ⟨Nat.le_of_ble_eq_true rfl, Nat.le_of_ble_eq_true rfl⟩ (fun u69 H locs w69 hP hD hS => ?_)
        have hP : va_P (dC, dI) classes (lz_W cA ad ((ss, sp, fo, ba, no, en, vs, vf, vg), u69, PM, XM, YM)) H := hP.sub [0, 19, 20, 21, 22, 23, 24, 25, 1, 2, 3, 4, 5, 6, 7, 8, 9, 10, 11, 12, 13, 14, 15, 16, 17, 18] rfl
        have hD : va_D A (lz_W cA ad ((ss, sp, fo, ba, no, en, vs, vf, vg), u69, PM, XM, YM)) := hD.sub [0, 19, 20, 21, 22, 23, 24, 25, 1, 2, 3, 4, 5, 6, 7, 8, 9, 10, 11, 12, 13, 14, 15, 16, 17, 18] (by decide) rfl
        refine lv_aload_n hx hb d_LazyMachine_ask_72 rfl (lv_at hl 3 rfl) ?_
        refine lv_dup hx hb d_LazyMachine_ask_73 rfl ?_
        refine va_get (D := (dC, dI)) (ci := 0) (v := .int fo) (C := R_LazyMachine) (T := F_LazyMachine) (N := 13) hx hb hts (fun q hq => List.mem_cons_of_mem _ (i_LazyMachine q hq)) hown hK hP 0 rfl rfl 6 (by decide) (hts _ (List.mem_cons_of_mem _ m_2_13)) (fun _ h9 => h9) rfl d_LazyMachine_ask_74 ?_
        refine lv_iconst (v := 1) hx hb d_LazyMachine_ask_77 (by decide) ?_
        refine lv_iadd hx hb d_LazyMachine_ask_78 ?_
        refine va_put (D := (dC, dI)) (ci := 0) (v := .int (fo + 1)) (ty := .int) (C := R_LazyMachine) (T := F_LazyMachine) (N := 13) hx hb hts (fun q hq => List.mem_cons_of_mem _ (i_LazyMachine q hq)) t_LazyMachine t_LazyMachine_ok n_LazyMachine hown hK hP hD hS 0 rfl rfl 6 (by decide) (hts _ (List.mem_cons_of_mem _ m_2_13)) (fun _ h9 => h9) rfl (by decide +kernel) rfl rfl (Nat.le_of_ble_eq_true rfl) d_LazyMachine_ask_79 (fun H locs hP hD hS => ?_)
        have hP : va_P (dC, dI) classes (lz_W cA ad ((ss, sp, (fo + 1), ba, no, en, vs, vf, vg), u69, PM, XM, YM)) H := hP
        have hD : va_D A (lz_W cA ad ((ss, sp, (fo + 1), ba, no, en, vs, vf, vg), u69, PM, XM, YM)) := hD
        refine lv_aload_n hx hb d_LazyMachine_ask_82 rfl (lv_at hl 3 rfl) ?_
        refine va_get (D := (dC, dI)) (ci := 0) (v := .ref (ad 8)) (C := R_LazyMachine) (T := F_LazyMachine) (N := 13) hx hb hts (fun q hq => List.mem_cons_of_mem _ (i_LazyMachine q hq)) hown hK hP 0 rfl rfl 1 (by decide) (hts _ (List.mem_cons_of_mem _ m_2_8)) (fun _ h9 => h9) rfl d_LazyMachine_ask_83 ?_
        refine lv_iconst (v := 0) hx hb d_LazyMachine_ask_86 (by decide) ?_
        refine lv_iload_n hx hb d_LazyMachine_ask_87 rfl (lv_at hl 4 rfl) ?_
        refine lv_iconst (v := -1) hx hb d_LazyMachine_ask_88 (by decide) ?_
        refine lm_vv (b := ad 8) (As := [.int 0, .int x, .int (-1)]) (rest := []) (wr := (ma_W cA ad (ss, sp, (fo + 1), ba, no, en, vs, vf, vg)) ++ (hp_W cA (fun k => ad (k + 1)) u69) ++ (tm_W cA (fun k => ad (k + 12)) XM) ++ (tm_W cA (fun k => ad (k + 19)) YM)) ⟨hx, hb, hml, hown, hts⟩ hK hP hD hS hA [8, 9, 10, 11] [0, 1, 2, 3, 4, 5, 6, 7, 12, 13, 14, 15, 16, 17, 18, 19, 20, 21, 22, 23, 24, 25] rfl rfl (by decide) (by decide) (by decide) (c_Pile_add l dC dI cA (fun k => ad (k + 8)) _ PM 0 x (-1) (by exact hz)) (cwV 3 hts (lm_gV m_9_10 m_9_11 m_9_12 m_0_3 m_9_13) rfl rfl rfl (by decide +kernel) ⟨Nat.le_of_ble_eq_true rfl, Nat.le_of_ble_eq_true rfl⟩) (va_recv (q0 := 8) hK hP rfl rfl) lm_bl_no (fun _ _ _ => trivial) hl.1 rfl rfl (Nat.le_of_ble_eq_true rfl) d_LazyMachine_ask_89 ⟨Nat.le_of_ble_eq_true rfl, Nat.le_of_ble_eq_true rfl⟩ (fun u89 H locs w89 hP hD hS => ?_)
        have hP : va_P (dC, dI) classes (lz_W cA ad ((ss, sp, (fo + 1), ba, no, en, vs, vf, vg), u69, u89, XM, YM)) H := hP.sub [0, 1, 2, 3, 4, 5, 6, 7, 22, 23, 24, 25, 8, 9, 10, 11, 12, 13, 14, 15, 16, 17, 18, 19, 20, 21] rfl
        have hD : va_D A (lz_W cA ad ((ss, sp, (fo + 1), ba, no, en, vs, vf, vg), u69, u89, XM, YM)) := hD.sub [0, 1, 2, 3, 4, 5, 6, 7, 22, 23, 24, 25, 8, 9, 10, 11, 12, 13, 14, 15, 16, 17, 18, 19, 20, 21] (by decide) rfl
        refine lv_aload_n hx hb d_LazyMachine_ask_92 rfl (lv_at hl 3 rfl) ?_
        refine lv_iload_n hx hb d_LazyMachine_ask_93 rfl (lv_at hl 1 rfl) ?_
        refine lv_iload hx hb d_LazyMachine_ask_94 (lv_at hl 0 rfl) ?_
        refine lm_vv (b := ad 0) (As := [.int r21, .int r30]) (rest := []) (wr := ([] : va_W)) ⟨hx, hb, hml, hown, hts⟩ hK hP hD hS hA [0, 1, 2, 3, 4, 5, 6, 7, 8, 9, 10, 11, 12, 13, 14, 15, 16, 17, 18, 19, 20, 21, 22, 23, 24, 25] [] rfl rfl (by decide) (by decide) (by decide) (c_LazyMachine_enter l dC dI cA ad _ ((ss, sp, (fo + 1), ba, no, en, vs, vf, vg), u69, u89, XM, YM) r21 r30 ) (cwV 2 hts (lm_gV m_4_9 m_4_10 m_19_6 m_0_1 m_4_11) rfl rfl rfl (by decide +kernel) ⟨Nat.le_of_ble_eq_true rfl, Nat.le_of_ble_eq_true rfl⟩) (va_recv (q0 := 0) hK hP rfl rfl) lm_bl_no (fun _ _ _ => trivial) hl.1 rfl rfl (Nat.le_of_ble_eq_true rfl) d_LazyMachine_ask_96 ⟨Nat.le_of_ble_eq_true rfl, Nat.le_of_ble_eq_true rfl⟩ (fun u96 H locs w96 hP hD hS => ?_)
        have w96 : u96 = ((ss, sp, (fo + 1), 0, r21, r30, vs, vf, vg), u69, u89, XM, YM) := w96
        subst w96
        have hP : va_P (dC, dI) classes (lz_W cA ad ((ss, sp, (fo + 1), 0, r21, r30, vs, vf, vg), u69, u89, XM, YM)) H := hP
        have hD : va_D A (lz_W cA ad ((ss, sp, (fo + 1), 0, r21, r30, vs, vf, vg), u69, u89, XM, YM)) := hD
        refine lv_iconst (v := 1) hx hb d_LazyMachine_ask_99 (by decide) ?_
        refine lm_ri (v := 1) hx hb hr hlocks ((ss, sp, (fo + 1), 0, r21, r30, vs, vf, vg), u69, u89, XM, YM) ?_ hP hK hD hS d_LazyMachine_ask_100
        subst e_r5 e_r21 e_r30 e_r53 w69 w89; unfold ma_ask; (first | rw [if_pos h11] | rw [if_neg h11]); (first | rw [if_pos h37] | rw [if_neg h37]); (first | rw [if_pos h56] | rw [if_neg h56]); exact ⟨rfl, rfl⟩
      · refine lv_iconst (v := 5) hx hb d_LazyMachine_ask_59 (by decide) ?_
        refine lm_ri (v := 5) hx hb hr hlocks ((ss, sp, fo, ba, no, en, vs, vf, vg), SM, PM, XM, YM) ?_ hP hK hD hS d_LazyMachine_ask_60
        subst e_r5 e_r21 e_r30 e_r53; unfold ma_ask; (first | rw [if_pos h11] | rw [if_neg h11]); (first | rw [if_pos h37] | rw [if_neg h37]); (first | rw [if_pos h56] | rw [if_neg h56]); exact ⟨rfl, rfl⟩
    · refine lv_aload_n hx hb d_LazyMachine_ask_40 rfl (lv_at hl 3 rfl) ?_
      refine lv_iload_n hx hb d_LazyMachine_ask_41 rfl (lv_at hl 2 rfl) ?_
      refine lv_iload_n hx hb d_LazyMachine_ask_42 rfl (lv_at hl 1 rfl) ?_
      refine lv_iload hx hb d_LazyMachine_ask_43 (lv_at hl 0 rfl) ?_
      refine lm_vi (b := ad 0) (As := [.int r5, .int r21, .int r30]) (rest := []) (wr := ([] : va_W)) ⟨hx, hb, hml, hown, hts⟩ hK hP hD hS hA [0, 1, 2, 3, 4, 5, 6, 7, 8, 9, 10, 11, 12, 13, 14, 15, 16, 17, 18, 19, 20, 21, 22, 23, 24, 25] [] rfl rfl (by decide) (by decide) (by decide) (c_LazyMachine_backWith l dC dI cA ad _ ((ss, sp, fo, ba, no, en, vs, vf, vg), SM, PM, XM, YM) r5 r21 r30 ) (cwV 3 hts (lm_gV m_10_7 m_10_8 m_19_14 m_0_1 m_10_9) rfl rfl rfl (by decide +kernel) ⟨Nat.le_of_ble_eq_true rfl, Nat.le_of_ble_eq_true rfl⟩) (va_recv (q0 := 0) hK hP rfl rfl) lm_bl_no (fun _ _ _ => trivial) hl.1 rfl rfl (Nat.le_of_ble_eq_true rfl) d_LazyMachine_ask_45 ⟨Nat.le_of_ble_eq_true rfl, Nat.le_of_ble_eq_true rfl⟩ (fun r45 u45 H locs w45 hP hD hS => ?_)
      obtain ⟨e_r45, w45⟩ := w45
      replace e_r45 := e_r45.symm
      subst e_r45
      have w45 : u45 = ((ss, sp, fo, 1, no, en, r5, r21, r30), SM, PM, XM, YM) := w45
      subst w45
      have hP : va_P (dC, dI) classes (lz_W cA ad ((ss, sp, fo, 1, no, en, r5, r21, r30), SM, PM, XM, YM)) H := hP
      have hD : va_D A (lz_W cA ad ((ss, sp, fo, 1, no, en, r5, r21, r30), SM, PM, XM, YM)) := hD
      refine lm_ri (v := 1) hx hb hr hlocks ((ss, sp, fo, 1, no, en, r5, r21, r30), SM, PM, XM, YM) ?_ hP hK hD hS d_LazyMachine_ask_48
      subst e_r5 e_r21 e_r30; unfold ma_ask; (first | rw [if_pos h11] | rw [if_neg h11]); (first | rw [if_pos h37] | rw [if_neg h37]); exact ⟨rfl, rfl⟩
  · refine lv_iconst (v := 4) hx hb d_LazyMachine_ask_14 (by decide) ?_
    refine lm_ri (v := 4) hx hb hr hlocks ((ss, sp, fo, ba, no, en, vs, vf, vg), SM, PM, XM, YM) ?_ hP hK hD hS d_LazyMachine_ask_15
    subst e_r5; unfold ma_ask; (first | rw [if_pos h11] | rw [if_neg h11]); exact ⟨rfl, rfl⟩
set_option maxHeartbeats 4000000 in
set_option maxRecDepth 100000 in
theorem c_LazyMachine_stepUnder (l : Launch) (dC : Nat → ClassId) (dI : Nat → Nat → Nat) (cA : ClassId)  (ad : Nat → Nat) (sz : Nat) (M : ZMS) (x1 x2 x3 : Int32) (hz : pl_ok (m_P M)) (hn : vp_in (l_no M) 200) : Met l y_LazyMachine_stepUnder w_LazyMachine_stepUnder ({ frames := 2, cells := 0, slots := 0, locals := 43 } : Room) (va_Pc [.ref (ad 0), .int x1, .int x2, .int x3] (lm_pre (dC, dI) classes [(cA, .int)] (lz_W cA ad M) sz lm_no)) (va_Qi (fun (r : Int32) (u : ZMS) => r = (ma_under M x1 x2 x3).1 ∧ u = (ma_under M x1 x2 x3).2) (fun u => lm_at (dC, dI) classes [(cA, .int)] (va_A (lz_W cA ad M) sz) (lz_W cA ad u)) (va_A (lz_W cA ad M) sz)) 0 0 (va_A (lz_W cA ad M) sz) := by
  obtain ⟨⟨ss, sp, fo, ba, no, en, vs, vf, vg⟩, SM, PM, XM, YM⟩ := M
  refine lm_met (fun A => va_Qi (fun (r : Int32) (u : ZMS) => r = (ma_under ((ss, sp, fo, ba, no, en, vs, vf, vg), SM, PM, XM, YM) x1 x2 x3).1 ∧ u = (ma_under ((ss, sp, fo, ba, no, en, vs, vf, vg), SM, PM, XM, YM) x1 x2 x3).2) (fun u => lm_at (dC, dI) classes [(cA, .int)] A (lz_W cA ad u)) A) (by decide) rfl (Nat.le_of_ble_eq_true rfl) ?_
  intro p e s m below meth c A hx hb hr hts hown hlocks hname hml hK hP hD hA hE hsz hAe hS ls hl
  replace hl : lv_has ls 4 [(0, .ref (ad 0)), (1, .int x1), (2, .int x2), (3, .int x3)] := hl
  clear hAe hsz
  refine lv_aload_n hx hb d_LazyMachine_stepUnder_0 rfl (lv_at hl 0 rfl) ?_
  refine va_get (D := (dC, dI)) (ci := 0) (v := .ref (ad 8)) (C := R_LazyMachine) (T := F_LazyMachine) (N := 13) hx hb hts (fun q hq => List.mem_cons_of_mem _ (i_LazyMachine q hq)) hown hK hP 0 rfl rfl 1 (by decide) (hts _ (List.mem_cons_of_mem _ m_2_8)) (fun _ h9 => h9) rfl d_LazyMachine_stepUnder_1 ?_
  refine lm_vi (b := ad 8) (As := []) (rest := []) (wr := (ma_W cA ad (ss, sp, fo, ba, no, en, vs, vf, vg)) ++ (hp_W cA (fun k => ad (k + 1)) SM) ++ (tm_W cA (fun k => ad (k + 12)) XM) ++ (tm_W cA (fun k => ad (k + 19)) YM)) ⟨hx, hb, hml, hown, hts⟩ hK hP hD hS hA [8, 9, 10, 11] [0, 1, 2, 3, 4, 5, 6, 7, 12, 13, 14, 15, 16, 17, 18, 19, 20, 21, 22, 23, 24, 25] rfl rfl (by decide) (by decide) (by decide) (c_Pile_isFull l dC dI cA (fun k => ad (k + 8)) _ PM  ) (cwV 0 hts (lm_gV m_11_7 m_9_15 m_9_16 m_0_3 m_9_17) rfl rfl rfl (by decide +kernel) ⟨Nat.le_of_ble_eq_true rfl, Nat.le_of_ble_eq_true rfl⟩) (va_recv (q0 := 8) hK hP rfl rfl) lm_bl_no (fun _ _ _ => trivial) hl.1 rfl rfl (Nat.le_of_ble_eq_true rfl) d_LazyMachine_stepUnder_4 ⟨Nat.le_of_ble_eq_true rfl, Nat.le_of_ble_eq_true rfl⟩ (fun r4 u4 H locs w4 hP hD hS => ?_)
  obtain ⟨e_r4, w4⟩ := w4
  replace w4 := w4.symm
  subst w4
  have hP : va_P (dC, dI) classes (lz_W cA ad ((ss, sp, fo, ba, no, en, vs, vf, vg), SM, PM, XM, YM)) H := hP.sub [0, 1, 2, 3, 4, 5, 6, 7, 22, 23, 24, 25, 8, 9, 10, 11, 12, 13, 14, 15, 16, 17, 18, 19, 20, 21] rfl
  have hD : va_D A (lz_W cA ad ((ss, sp, fo, ba, no, en, vs, vf, vg), SM, PM, XM, YM)) := hD.sub [0, 1, 2, 3, 4, 5, 6, 7, 22, 23, 24, 25, 8, 9, 10, 11, 12, 13, 14, 15, 16, 17, 18, 19, 20, 21] (by decide) rfl
  refine lv_if_eq hx hb d_LazyMachine_stepUnder_7 rfl (fun h7 => ?_) (fun h7 => ?_)
  · refine lv_aload_n hx hb d_LazyMachine_stepUnder_12 rfl (lv_at hl 0 rfl) ?_
    refine va_get (D := (dC, dI)) (ci := 0) (v := .ref (ad 8)) (C := R_LazyMachine) (T := F_LazyMachine) (N := 13) hx hb hts (fun q hq => List.mem_cons_of_mem _ (i_LazyMachine q hq)) hown hK hP 0 rfl rfl 1 (by decide) (hts _ (List.mem_cons_of_mem _ m_2_8)) (fun _ h9 => h9) rfl d_LazyMachine_stepUnder_13 ?_
    refine lv_iload_n hx hb d_LazyMachine_stepUnder_16 rfl (lv_at hl 1 rfl) ?_
    refine lv_iload_n hx hb d_LazyMachine_stepUnder_17 rfl (lv_at hl 2 rfl) ?_
    refine lv_iload_n hx hb d_LazyMachine_stepUnder_18 rfl (lv_at hl 3 rfl) ?_
    refine lm_vv (b := ad 8) (As := [.int x1, .int x2, .int x3]) (rest := []) (wr := (ma_W cA ad (ss, sp, fo, ba, no, en, vs, vf, vg)) ++ (hp_W cA (fun k => ad (k + 1)) SM) ++ (tm_W cA (fun k => ad (k + 12)) XM) ++ (tm_W cA (fun k => ad (k + 19)) YM)) ⟨hx, hb, hml, hown, hts⟩ hK hP hD hS hA [8, 9, 10, 11] [0, 1, 2, 3, 4, 5, 6, 7, 12, 13, 14, 15, 16, 17, 18, 19, 20, 21, 22, 23, 24, 25] rfl rfl (by decide) (by decide) (by decide) (c_Pile_add l dC dI cA (fun k => ad (k + 8)) _ PM x1 x2 x3 (by exact hz)) (cwV 3 hts (lm_gV m_9_10 m_9_11 m_9_12 m_0_3 m_9_13) rfl rfl rfl (by decide +kernel) ⟨Nat.le_of_ble_eq_true rfl, Nat.le_of_ble_eq_true rfl⟩) (va_recv (q0 := 8) hK hP rfl rfl) lm_bl_no (fun _ _ _ => trivial) hl.1 rfl rfl (Nat.le_of_ble_eq_true rfl) d_LazyMachine_stepUnder_19 ⟨Nat.le_of_ble_eq_true rfl, Nat.le_of_ble_eq_true rfl⟩ (fun u19 H locs w19 hP hD hS => ?_)
    have hP : va_P (dC, dI) classes (lz_W cA ad ((ss, sp, fo, ba, no, en, vs, vf, vg), SM, u19, XM, YM)) H := hP.sub [0, 1, 2, 3, 4, 5, 6, 7, 22, 23, 24, 25, 8, 9, 10, 11, 12, 13, 14, 15, 16, 17, 18, 19, 20, 21] rfl
    have hD : va_D A (lz_W cA ad ((ss, sp, fo, ba, no, en, vs, vf, vg), SM, u19, XM, YM)) := hD.sub [0, 1, 2, 3, 4, 5, 6, 7, 22, 23, 24, 25, 8, 9, 10, 11, 12, 13, 14, 15, 16, 17, 18, 19, 20, 21] (by decide) rfl
    refine lv_aload_n hx hb d_LazyMachine_stepUnder_22 rfl (lv_at hl 0 rfl) ?_
    refine lv_aload_n hx hb d_LazyMachine_stepUnder_23 rfl (lv_at hl 0 rfl) ?_
    refine va_get (D := (dC, dI)) (ci := 0) (v := .ref (ad 19)) (C := R_LazyMachine) (T := F_LazyMachine) (N := 13) hx hb hts (fun q hq => List.mem_cons_of_mem _ (i_LazyMachine q hq)) hown hK hP 0 rfl rfl 3 (by decide) (hts _ (List.mem_cons_of_mem _ m_2_10)) (fun _ h9 => h9) rfl d_LazyMachine_stepUnder_24 ?_
    refine lv_aload_n hx hb d_LazyMachine_stepUnder_27 rfl (lv_at hl 0 rfl) ?_
    refine va_get (D := (dC, dI)) (ci := 0) (v := .int no) (C := R_LazyMachine) (T := F_LazyMachine) (N := 13) hx hb hts (fun q hq => List.mem_cons_of_mem _ (i_LazyMachine q hq)) hown hK hP 0 rfl rfl 8 (by decide) (hts _ (List.mem_cons_of_mem _ m_2_15)) (fun _ h9 => h9) rfl d_LazyMachine_stepUnder_28 ?_
    refine lv_iconst (v := 0) hx hb d_LazyMachine_stepUnder_31 (by decide) ?_
    refine lm_vi (b := ad 19) (As := [.int no, .int 0]) (rest := [.ref (ad 0)]) (wr := (ma_W cA ad (ss, sp, fo, ba, no, en, vs, vf, vg)) ++ (hp_W cA (fun k => ad (k + 1)) SM) ++ (pl_W cA (fun k => ad (k + 8)) u19) ++ (tm_W cA (fun k => ad (k + 12)) XM)) ⟨hx, hb, hml, hown, hts⟩ hK hP hD hS hA [19, 20, 21, 22, 23, 24, 25] [0, 1, 2, 3, 4, 5, 6, 7, 8, 9, 10, 11, 12, 13, 14, 15, 16, 17, 18] rfl rfl (by decide) (by decide) (by decide) (c_Term_part l dC dI cA (fun k => ad (k + 19)) _ YM no 0 (by exact nd_ix hn (w := 0) (by decide))) (cwV 2 hts (lm_gV m_8_18 m_8_19 m_8_20 m_0_4 m_8_21) rfl rfl rfl (by decide +kernel) ⟨Nat.le_of_ble_eq_true rfl, Nat.le_of_ble_eq_true rfl⟩) (va_recv (q0 := 19) hK hP rfl rfl) lm_bl_no (fun _ _ _ => trivial) hl.1 rfl rfl (Nat.le_of_ble_eq_true rfl) d_LazyMachine_stepUnder_32 ⟨Nat.le_of_ble_eq_true rfl, Nat.le_of_ble_eq_true rfl⟩ (fun r32 u32 H locs w32 hP hD hS => ?_)
    obtain ⟨e_r32, w32⟩ := w32
    replace w32 := w32.symm
    subst w32
    have hP : va_P (dC, dI) classes (lz_W cA ad ((ss, sp, fo, ba, no, en, vs, vf, vg), SM, u19, XM, YM)) H := hP
    have hD : va_D A (lz_W cA ad ((ss, sp, fo, ba, no, en, vs, vf, vg), SM, u19, XM, YM)) := hD
    refine lv_aload_n hx hb d_LazyMachine_stepUnder_35 rfl (lv_at hl 0 rfl) ?_
    refine va_get (D := (dC, dI)) (ci := 0) (v := .int en) (C := R_LazyMachine) (T := F_LazyMachine) (N := 13) hx hb hts (fun q hq => List.mem_cons_of_mem _ (i_LazyMachine q hq)) hown hK hP 0 rfl rfl 9 (by decide) (hts _ (List.mem_cons_of_mem _ m_2_16)) (fun _ h9 => h9) rfl d_LazyMachine_stepUnder_36 ?_
    refine lm_vv (b := ad 0) (As := [.int r32, .int en]) (rest := []) (wr := ([] : va_W)) ⟨hx, hb, hml, hown, hts⟩ hK hP hD hS hA [0, 1, 2, 3, 4, 5, 6, 7, 8, 9, 10, 11, 12, 13, 14, 15, 16, 17, 18, 19, 20, 21, 22, 23, 24, 25] [] rfl rfl (by decide) (by decide) (by decide) (c_LazyMachine_enter l dC dI cA ad _ ((ss, sp, fo, ba, no, en, vs, vf, vg), SM, u19, XM, YM) r32 en ) (cwV 2 hts (lm_gV m_4_9 m_4_10 m_19_6 m_0_1 m_4_11) rfl rfl rfl (by decide +kernel) ⟨Nat.le_of_ble_eq_true rfl, Nat.le_of_ble_eq_true rfl⟩) (va_recv (q0 := 0) hK hP rfl rfl) lm_bl_no (fun _ _ _ => trivial) hl.1 rfl rfl (Nat.le_of_ble_eq_true rfl) d_LazyMachine_stepUnder_39 ⟨Nat.le_of_ble_eq_true rfl, Nat.le_of_ble_eq_true rfl⟩ (fun u39 H locs w39 hP hD hS => ?_)
    have w39 : u39 = ((ss, sp, fo, 0, r32, en, vs, vf, vg), SM, u19, XM, YM) := w39
    subst w39
    have hP : va_P (dC, dI) classes (lz_W cA ad ((ss, sp, fo, 0, r32, en, vs, vf, vg), SM, u19, XM, YM)) H := hP
    have hD : va_D A (lz_W cA ad ((ss, sp, fo, 0, r32, en, vs, vf, vg), SM, u19, XM, YM)) := hD
    refine lv_iconst (v := 1) hx hb d_LazyMachine_stepUnder_42 (by decide) ?_
    refine lm_ri (v := 1) hx hb hr hlocks ((ss, sp, fo, 0, r32, en, vs, vf, vg), SM, u19, XM, YM) ?_ hP hK hD hS d_LazyMachine_stepUnder_43
    subst e_r4 w19 e_r32; unfold ma_under; (first | rw [if_pos h7] | rw [if_neg h7]); exact ⟨rfl, rfl⟩
  · refine lv_iconst (v := 5) hx hb d_LazyMachine_stepUnder_10 (by decide) ?_
    refine lm_ri (v := 5) hx hb hr hlocks ((ss, sp, fo, ba, no, en, vs, vf, vg), SM, PM, XM, YM) ?_ hP hK hD hS d_LazyMachine_stepUnder_11
    subst e_r4; unfold ma_under; (first | rw [if_pos h7] | rw [if_neg h7]); exact ⟨rfl, rfl⟩
set_option maxHeartbeats 4000000 in
set_option maxRecDepth 100000 in
theorem c_LazyMachine_stepApply (l : Launch) (dC : Nat → ClassId) (dI : Nat → Nat → Nat) (cA : ClassId)  (ad : Nat → Nat) (sz : Nat) (M : ZMS)  (hi : ma_lo M) (ht : tm_lo (m_Y M)) (hn : vp_in (l_no M) 200) (he : hp_c (l_en M)) : Met l y_LazyMachine_stepApply w_LazyMachine_stepApply ({ frames := 4, cells := 0, slots := 0, locals := 87 } : Room) (va_Pc [.ref (ad 0)] (lm_pre (dC, dI) classes [(cA, .int)] (lz_W cA ad M) sz lm_no)) (va_Qi (fun (r : Int32) (u : ZMS) => r = (ma_apply1 M).1 ∧ u = (ma_apply1 M).2) (fun u => lm_at (dC, dI) classes [(cA, .int)] (va_A (lz_W cA ad M) sz) (lz_W cA ad u)) (va_A (lz_W cA ad M) sz)) 0 0 (va_A (lz_W cA ad M) sz) := by
  obtain ⟨⟨ss, sp, fo, ba, no, en, vs, vf, vg⟩, SM, PM, XM, YM⟩ := M
  refine lm_met (fun A => va_Qi (fun (r : Int32) (u : ZMS) => r = (ma_apply1 ((ss, sp, fo, ba, no, en, vs, vf, vg), SM, PM, XM, YM)).1 ∧ u = (ma_apply1 ((ss, sp, fo, ba, no, en, vs, vf, vg), SM, PM, XM, YM)).2) (fun u => lm_at (dC, dI) classes [(cA, .int)] A (lz_W cA ad u)) A) (by decide) rfl (Nat.le_of_ble_eq_true rfl) ?_
  intro p e s m below meth c A hx hb hr hts hown hlocks hname hml hK hP hD hA hE hsz hAe hS ls hl
  replace hl : lv_has ls 2 [(0, .ref (ad 0))] := hl
  clear hAe hsz
  refine lv_aload_n hx hb d_LazyMachine_stepApply_0 rfl (lv_at hl 0 rfl) ?_
  refine va_get (D := (dC, dI)) (ci := 0) (v := .ref (ad 8)) (C := R_LazyMachine) (T := F_LazyMachine) (N := 13) hx hb hts (fun q hq => List.mem_cons_of_mem _ (i_LazyMachine q hq)) hown hK hP 0 rfl rfl 1 (by decide) (hts _ (List.mem_cons_of_mem _ m_2_8)) (fun _ h9 => h9) rfl d_LazyMachine_stepApply_1 ?_
  refine lm_vi (b := ad 8) (As := []) (rest := []) (wr := (ma_W cA ad (ss, sp, fo, ba, no, en, vs, vf, vg)) ++ (hp_W cA (fun k => ad (k + 1)) SM) ++ (tm_W cA (fun k => ad (k + 12)) XM) ++ (tm_W cA (fun k => ad (k + 19)) YM)) ⟨hx, hb, hml, hown, hts⟩ hK hP hD hS hA [8, 9, 10, 11] [0, 1, 2, 3, 4, 5, 6, 7, 12, 13, 14, 15, 16, 17, 18, 19, 20, 21, 22, 23, 24, 25] rfl rfl (by decide) (by decide) (by decide) (c_Pile_isFull l dC dI cA (fun k => ad (k + 8)) _ PM  ) (cwV 0 hts (lm_gV m_11_7 m_9_15 m_9_16 m_0_3 m_9_17) rfl rfl rfl (by decide +kernel) ⟨Nat.le_of_ble_eq_true rfl, Nat.le_of_ble_eq_true rfl⟩) (va_recv (q0 := 8) hK hP rfl rfl) lm_bl_no (fun _ _ _ => trivial) hl.1 rfl rfl (Nat.le_of_ble_eq_true rfl) d_LazyMachine_stepApply_4 ⟨Nat.le_of_ble_eq_true rfl, Nat.le_of_ble_eq_true rfl⟩ (fun r4 u4 H locs w4 hP hD hS => ?_)
  obtain ⟨e_r4, w4⟩ := w4
  replace w4 := w4.symm
  subst w4
  have hP : va_P (dC, dI) classes (lz_W cA ad ((ss, sp, fo, ba, no, en, vs, vf, vg), SM, PM, XM, YM)) H := hP.sub [0, 1, 2, 3, 4, 5, 6, 7, 22, 23, 24, 25, 8, 9, 10, 11, 12, 13, 14, 15, 16, 17, 18, 19, 20, 21] rfl
  have hD : va_D A (lz_W cA ad ((ss, sp, fo, ba, no, en, vs, vf, vg), SM, PM, XM, YM)) := hD.sub [0, 1, 2, 3, 4, 5, 6, 7, 22, 23, 24, 25, 8, 9, 10, 11, 12, 13, 14, 15, 16, 17, 18, 19, 20, 21] (by decide) rfl
  refine lv_if_eq hx hb d_LazyMachine_stepApply_7 rfl (fun h7 => ?_) (fun h7 => ?_)
  · refine lv_aload_n hx hb d_LazyMachine_stepApply_12 rfl (lv_at hl 0 rfl) ?_
    refine va_get (D := (dC, dI)) (ci := 0) (v := .ref (ad 19)) (C := R_LazyMachine) (T := F_LazyMachine) (N := 13) hx hb hts (fun q hq => List.mem_cons_of_mem _ (i_LazyMachine q hq)) hown hK hP 0 rfl rfl 3 (by decide) (hts _ (List.mem_cons_of_mem _ m_2_10)) (fun _ h9 => h9) rfl d_LazyMachine_stepApply_13 ?_
    refine lv_aload_n hx hb d_LazyMachine_stepApply_16 rfl (lv_at hl 0 rfl) ?_
    refine va_get (D := (dC, dI)) (ci := 0) (v := .int no) (C := R_LazyMachine) (T := F_LazyMachine) (N := 13) hx hb hts (fun q hq => List.mem_cons_of_mem _ (i_LazyMachine q hq)) hown hK hP 0 rfl rfl 8 (by decide) (hts _ (List.mem_cons_of_mem _ m_2_15)) (fun _ h9 => h9) rfl d_LazyMachine_stepApply_17 ?_
    refine lv_iconst (v := 1) hx hb d_LazyMachine_stepApply_20 (by decide) ?_
    refine lm_vi (b := ad 19) (As := [.int no, .int 1]) (rest := []) (wr := (ma_W cA ad (ss, sp, fo, ba, no, en, vs, vf, vg)) ++ (hp_W cA (fun k => ad (k + 1)) SM) ++ (pl_W cA (fun k => ad (k + 8)) PM) ++ (tm_W cA (fun k => ad (k + 12)) XM)) ⟨hx, hb, hml, hown, hts⟩ hK hP hD hS hA [19, 20, 21, 22, 23, 24, 25] [0, 1, 2, 3, 4, 5, 6, 7, 8, 9, 10, 11, 12, 13, 14, 15, 16, 17, 18] rfl rfl (by decide) (by decide) (by decide) (c_Term_part l dC dI cA (fun k => ad (k + 19)) _ YM no 1 (by exact nd_ix hn (w := 1) (by decide))) (cwV 2 hts (lm_gV m_8_18 m_8_19 m_8_20 m_0_4 m_8_21) rfl rfl rfl (by decide +kernel) ⟨Nat.le_of_ble_eq_true rfl, Nat.le_of_ble_eq_true rfl⟩) (va_recv (q0 := 19) hK hP rfl rfl) lm_bl_no (fun _ _ _ => trivial) hl.1 rfl rfl (Nat.le_of_ble_eq_true rfl) d_LazyMachine_stepApply_21 ⟨Nat.le_of_ble_eq_true rfl, Nat.le_of_ble_eq_true rfl⟩ (fun r21 u21 H locs w21 hP hD hS => ?_)
    obtain ⟨e_r21, w21⟩ := w21
    replace w21 := w21.symm
    subst w21
    have hP : va_P (dC, dI) classes (lz_W cA ad ((ss, sp, fo, ba, no, en, vs, vf, vg), SM, PM, XM, YM)) H := hP
    have hD : va_D A (lz_W cA ad ((ss, sp, fo, ba, no, en, vs, vf, vg), SM, PM, XM, YM)) := hD
    refine lv_istore_n (lv' := [(1, .int r21), (0, .ref (ad 0))]) hx hb d_LazyMachine_stepApply_24 rfl hl (by decide) rfl (fun ls hl => ?_)
    refine lv_aload_n hx hb d_LazyMachine_stepApply_25 rfl (lv_at hl 1 rfl) ?_
    refine lv_aload_n hx hb d_LazyMachine_stepApply_26 rfl (lv_at hl 1 rfl) ?_
    refine lv_iload_n hx hb d_LazyMachine_stepApply_27 rfl (lv_at hl 0 rfl) ?_
    refine lm_vi (b := ad 0) (As := [.int r21]) (rest := [.ref (ad 0)]) (wr := ([] : va_W)) ⟨hx, hb, hml, hown, hts⟩ hK hP hD hS hA [0, 1, 2, 3, 4, 5, 6, 7, 8, 9, 10, 11, 12, 13, 14, 15, 16, 17, 18, 19, 20, 21, 22, 23, 24, 25] [] rfl rfl (by decide) (by decide) (by decide) (c_LazyMachine_cellsFor l dC dI cA ad _ ((ss, sp, fo, ba, no, en, vs, vf, vg), SM, PM, XM, YM) r21 (by rw [e_r21]; exact nd_part ht hn (w := 1) (by decide))) (cwV 1 hts (lm_gV m_11_23 m_12_0 m_19_20 m_0_1 m_12_1) rfl rfl rfl (by decide +kernel) ⟨Nat.le_of_ble_eq_true rfl, Nat.le_of_ble_eq_true rfl⟩) (va_recv (q0 := 0) hK hP rfl rfl) lm_bl_no (fun _ _ _ => trivial) hl.1 rfl rfl (Nat.le_of_ble_eq_true rfl) d_LazyMachine_stepApply_28 ⟨Nat.le_of_ble_eq_true rfl, Nat.le_of_ble_eq_true rfl⟩ (fun r28 u28 H locs w28 hP hD hS => ?_)
    obtain ⟨e_r28, w28⟩ := w28
    replace w28 := w28.symm
    subst w28
    have hP : va_P (dC, dI) classes (lz_W cA ad ((ss, sp, fo, ba, no, en, vs, vf, vg), SM, PM, XM, YM)) H := hP
    have hD : va_D A (lz_W cA ad ((ss, sp, fo, ba, no, en, vs, vf, vg), SM, PM, XM, YM)) := hD
    refine lm_vi (b := ad 0) (As := [.int r28]) (rest := []) (wr := ([] : va_W)) ⟨hx, hb, hml, hown, hts⟩ hK hP hD hS hA [0, 1, 2, 3, 4, 5, 6, 7, 8, 9, 10, 11, 12, 13, 14, 15, 16, 17, 18, 19, 20, 21, 22, 23, 24, 25] [] rfl rfl (by decide) (by decide) (by decide) (c_LazyMachine_hasRoomFor l dC dI cA ad _ ((ss, sp, fo, ba, no, en, vs, vf, vg), SM, PM, XM, YM) r28 (by exact hi)) (cwV 1 hts (lm_gV m_8_7 m_8_8 m_19_10 m_0_1 m_8_9) rfl rfl rfl (by decide +kernel) ⟨Nat.le_of_ble_eq_true rfl, Nat.le_of_ble_eq_true rfl⟩) (va_recv (q0 := 0) hK hP rfl rfl) lm_bl_no (fun _ _ _ => trivial) hl.1 rfl rfl (Nat.le_of_ble_eq_true rfl) d_LazyMachine_stepApply_31 ⟨Nat.le_of_ble_eq_true rfl, Nat.le_of_ble_eq_true rfl⟩ (fun r31 u31 H locs w31 hP hD hS => ?_)
    obtain ⟨e_r31, w31⟩ := w31
    have hP : va_P (dC, dI) classes (lz_W cA ad u31) H := hP
    have hD : va_D A (lz_W cA ad u31) := hD
    refine lv_if_ne hx hb d_LazyMachine_stepApply_34 rfl (fun h34 => ?_) (fun h34 => ?_)
    · refine lv_aload_n hx hb d_LazyMachine_stepApply_40 rfl (lv_at hl 1 rfl) ?_
      refine lv_iconst (v := 1) hx hb d_LazyMachine_stepApply_41 (by decide) ?_
      refine lv_aload_n hx hb d_LazyMachine_stepApply_42 rfl (lv_at hl 1 rfl) ?_
      refine lv_iload_n hx hb d_LazyMachine_stepApply_43 rfl (lv_at hl 0 rfl) ?_
      refine lm_vi (b := ad 0) (As := [.int r21]) (rest := [.int 1, .ref (ad 0)]) (wr := ([] : va_W)) ⟨hx, hb, hml, hown, hts⟩ hK hP hD hS hA [0, 1, 2, 3, 4, 5, 6, 7, 8, 9, 10, 11, 12, 13, 14, 15, 16, 17, 18, 19, 20, 21, 22, 23, 24, 25] [] rfl rfl (by decide) (by decide) (by decide) (c_LazyMachine_thunkFor l dC dI cA ad _ u31 r21 (by rw [e_r21]; exact nd_part ht hn (w := 1) (by decide)) (by rw [w31]; exact (th_room hi ht he).1) (by rw [w31]; exact (th_room hi ht he).2.1) (by rw [w31]; exact (th_room hi ht he).2.2.1) (by rw [w31]; exact (th_room hi ht he).2.2.2)) (cwV 1 hts (lm_gV m_12_2 m_12_3 m_19_21 m_0_1 m_12_4) rfl rfl rfl (by decide +kernel) ⟨Nat.le_of_ble_eq_true rfl, Nat.le_of_ble_eq_true rfl⟩) (va_recv (q0 := 0) hK hP rfl rfl) lm_bl_no (fun _ _ _ => trivial) hl.1 rfl rfl (Nat.le_of_ble_eq_true rfl) d_LazyMachine_stepApply_44 ⟨Nat.le_of_ble_eq_true rfl, Nat.le_of_ble_eq_true rfl⟩ (fun r44 u44 H locs w44 hP hD hS => ?_)
      obtain ⟨e_r44, w44⟩ := w44
      have hP : va_P (dC, dI) classes (lz_W cA ad u44) H := hP
      have hD : va_D A (lz_W cA ad u44) := hD
      refine lv_iconst (v := -1) hx hb d_LazyMachine_stepApply_47 (by decide) ?_
      refine lm_vi (b := ad 0) (As := [.int 1, .int r44, .int (-1)]) (rest := []) (wr := ([] : va_W)) ⟨hx, hb, hml, hown, hts⟩ hK hP hD hS hA [0, 1, 2, 3, 4, 5, 6, 7, 8, 9, 10, 11, 12, 13, 14, 15, 16, 17, 18, 19, 20, 21, 22, 23, 24, 25] [] rfl rfl (by decide) (by decide) (by decide) (c_LazyMachine_stepUnder l dC dI cA ad _ u44 1 r44 (-1) (by rw [w44]; rw [ma_thunk_P, w31, ma_room_P]; exact hi.2.2.1) (by rw [w44]; rw [ma_thunk_no, w31, ma_room_no]; exact hn)) (cwV 3 hts (lm_gV m_12_5 m_12_6 m_19_22 m_0_1 m_12_7) rfl rfl rfl (by decide +kernel) ⟨Nat.le_of_ble_eq_true rfl, Nat.le_of_ble_eq_true rfl⟩) (va_recv (q0 := 0) hK hP rfl rfl) lm_bl_no (fun _ _ _ => trivial) hl.1 rfl rfl (Nat.le_of_ble_eq_true rfl) d_LazyMachine_stepApply_48 ⟨Nat.le_of_ble_eq_true rfl, Nat.le_of_ble_eq_true rfl⟩ (fun r48 u48 H locs w48 hP hD hS => ?_)
      obtain ⟨e_r48, w48⟩ := w48
      have hP : va_P (dC, dI) classes (lz_W cA ad u48) H := hP
      have hD : va_D A (lz_W cA ad u48) := hD
      refine lm_ri (v := r48) hx hb hr hlocks u48 ?_ hP hK hD hS d_LazyMachine_stepApply_51
      subst e_r4 e_r21 e_r28 e_r31 w31 e_r44 w44 e_r48 w48; unfold ma_apply1; (first | rw [if_pos h7] | rw [if_neg h7]); (first | rw [if_pos h34] | rw [if_neg h34]); exact ⟨rfl, rfl⟩
    · refine lv_bipush (v := 6) hx hb d_LazyMachine_stepApply_37 (by decide) ?_
      refine lm_ri (v := 6) hx hb hr hlocks u31 ?_ hP hK hD hS d_LazyMachine_stepApply_39
      subst e_r4 e_r21 e_r28 e_r31 w31; unfold ma_apply1; (first | rw [if_pos h7] | rw [if_neg h7]); (first | rw [if_pos h34] | rw [if_neg h34]); exact ⟨rfl, rfl⟩
  · refine lv_iconst (v := 5) hx hb d_LazyMachine_stepApply_10 (by decide) ?_
    refine lm_ri (v := 5) hx hb hr hlocks ((ss, sp, fo, ba, no, en, vs, vf, vg), SM, PM, XM, YM) ?_ hP hK hD hS d_LazyMachine_stepApply_11
    subst e_r4; unfold ma_apply1; (first | rw [if_pos h7] | rw [if_neg h7]); exact ⟨rfl, rfl⟩
set_option maxHeartbeats 4000000 in
set_option maxRecDepth 100000 in
theorem c_LazyMachine_stepFix (l : Launch) (dC : Nat → ClassId) (dI : Nat → Nat → Nat) (cA : ClassId)  (ad : Nat → Nat) (sz : Nat) (M : ZMS)  (hi : ma_lo M) (hn : vp_in (l_no M) 200) : Met l y_LazyMachine_stepFix w_LazyMachine_stepFix ({ frames := 4, cells := 0, slots := 0, locals := 87 } : Room) (va_Pc [.ref (ad 0)] (lm_pre (dC, dI) classes [(cA, .int)] (lz_W cA ad M) sz lm_no)) (va_Qi (fun (r : Int32) (u : ZMS) => r = (ma_fix M).1 ∧ u = (ma_fix M).2) (fun u => lm_at (dC, dI) classes [(cA, .int)] (va_A (lz_W cA ad M) sz) (lz_W cA ad u)) (va_A (lz_W cA ad M) sz)) 0 0 (va_A (lz_W cA ad M) sz) := by
  obtain ⟨⟨ss, sp, fo, ba, no, en, vs, vf, vg⟩, SM, PM, XM, YM⟩ := M
  refine lm_met (fun A => va_Qi (fun (r : Int32) (u : ZMS) => r = (ma_fix ((ss, sp, fo, ba, no, en, vs, vf, vg), SM, PM, XM, YM)).1 ∧ u = (ma_fix ((ss, sp, fo, ba, no, en, vs, vf, vg), SM, PM, XM, YM)).2) (fun u => lm_at (dC, dI) classes [(cA, .int)] A (lz_W cA ad u)) A) (by decide) rfl (Nat.le_of_ble_eq_true rfl) ?_
  intro p e s m below meth c A hx hb hr hts hown hlocks hname hml hK hP hD hA hE hsz hAe hS ls hl
  replace hl : lv_has ls 2 [(0, .ref (ad 0))] := hl
  clear hAe hsz
  refine lv_aload_n hx hb d_LazyMachine_stepFix_0 rfl (lv_at hl 0 rfl) ?_
  refine va_get (D := (dC, dI)) (ci := 0) (v := .ref (ad 8)) (C := R_LazyMachine) (T := F_LazyMachine) (N := 13) hx hb hts (fun q hq => List.mem_cons_of_mem _ (i_LazyMachine q hq)) hown hK hP 0 rfl rfl 1 (by decide) (hts _ (List.mem_cons_of_mem _ m_2_8)) (fun _ h9 => h9) rfl d_LazyMachine_stepFix_1 ?_
  refine lm_vi (b := ad 8) (As := []) (rest := []) (wr := (ma_W cA ad (ss, sp, fo, ba, no, en, vs, vf, vg)) ++ (hp_W cA (fun k => ad (k + 1)) SM) ++ (tm_W cA (fun k => ad (k + 12)) XM) ++ (tm_W cA (fun k => ad (k + 19)) YM)) ⟨hx, hb, hml, hown, hts⟩ hK hP hD hS hA [8, 9, 10, 11] [0, 1, 2, 3, 4, 5, 6, 7, 12, 13, 14, 15, 16, 17, 18, 19, 20, 21, 22, 23, 24, 25] rfl rfl (by decide) (by decide) (by decide) (c_Pile_isFull l dC dI cA (fun k => ad (k + 8)) _ PM  ) (cwV 0 hts (lm_gV m_11_7 m_9_15 m_9_16 m_0_3 m_9_17) rfl rfl rfl (by decide +kernel) ⟨Nat.le_of_ble_eq_true rfl, Nat.le_of_ble_eq_true rfl⟩) (va_recv (q0 := 8) hK hP rfl rfl) lm_bl_no (fun _ _ _ => trivial) hl.1 rfl rfl (Nat.le_of_ble_eq_true rfl) d_LazyMachine_stepFix_4 ⟨Nat.le_of_ble_eq_true rfl, Nat.le_of_ble_eq_true rfl⟩ (fun r4 u4 H locs w4 hP hD hS => ?_)
  obtain ⟨e_r4, w4⟩ := w4
  replace w4 := w4.symm
  subst w4
  have hP : va_P (dC, dI) classes (lz_W cA ad ((ss, sp, fo, ba, no, en, vs, vf, vg), SM, PM, XM, YM)) H := hP.sub [0, 1, 2, 3, 4, 5, 6, 7, 22, 23, 24, 25, 8, 9, 10, 11, 12, 13, 14, 15, 16, 17, 18, 19, 20, 21] rfl
  have hD : va_D A (lz_W cA ad ((ss, sp, fo, ba, no, en, vs, vf, vg), SM, PM, XM, YM)) := hD.sub [0, 1, 2, 3, 4, 5, 6, 7, 22, 23, 24, 25, 8, 9, 10, 11, 12, 13, 14, 15, 16, 17, 18, 19, 20, 21] (by decide) rfl
  refine lv_if_eq hx hb d_LazyMachine_stepFix_7 rfl (fun h7 => ?_) (fun h7 => ?_)
  · refine lv_aload_n hx hb d_LazyMachine_stepFix_12 rfl (lv_at hl 0 rfl) ?_
    refine lv_iconst (v := 2) hx hb d_LazyMachine_stepFix_13 (by decide) ?_
    refine lm_vi (b := ad 0) (As := [.int 2]) (rest := []) (wr := ([] : va_W)) ⟨hx, hb, hml, hown, hts⟩ hK hP hD hS hA [0, 1, 2, 3, 4, 5, 6, 7, 8, 9, 10, 11, 12, 13, 14, 15, 16, 17, 18, 19, 20, 21, 22, 23, 24, 25] [] rfl rfl (by decide) (by decide) (by decide) (c_LazyMachine_hasRoomFor l dC dI cA ad _ ((ss, sp, fo, ba, no, en, vs, vf, vg), SM, PM, XM, YM) 2 (by exact hi)) (cwV 1 hts (lm_gV m_8_7 m_8_8 m_19_10 m_0_1 m_8_9) rfl rfl rfl (by decide +kernel) ⟨Nat.le_of_ble_eq_true rfl, Nat.le_of_ble_eq_true rfl⟩) (va_recv (q0 := 0) hK hP rfl rfl) lm_bl_no (fun _ _ _ => trivial) hl.1 rfl rfl (Nat.le_of_ble_eq_true rfl) d_LazyMachine_stepFix_14 ⟨Nat.le_of_ble_eq_true rfl, Nat.le_of_ble_eq_true rfl⟩ (fun r14 u14 H locs w14 hP hD hS => ?_)
    obtain ⟨e_r14, w14⟩ := w14
    have hP : va_P (dC, dI) classes (lz_W cA ad u14) H := hP
    have hD : va_D A (lz_W cA ad u14) := hD
    refine lv_if_ne hx hb d_LazyMachine_stepFix_17 rfl (fun h17 => ?_) (fun h17 => ?_)
    · refine lv_aload_n hx hb d_LazyMachine_stepFix_23 rfl (lv_at hl 0 rfl) ?_
      refine va_get (D := (dC, dI)) (ci := 0) (v := .ref (ad 1)) (C := R_LazyMachine) (T := F_LazyMachine) (N := 13) hx hb hts (fun q hq => List.mem_cons_of_mem _ (i_LazyMachine q hq)) hown hK hP 0 rfl rfl 0 (by decide) (hts _ (List.mem_cons_of_mem _ m_2_7)) (fun _ h9 => h9) rfl d_LazyMachine_stepFix_24 ?_
      refine lv_iconst (v := 4) hx hb d_LazyMachine_stepFix_27 (by decide) ?_
      refine lv_iconst (v := -1) hx hb d_LazyMachine_stepFix_28 (by decide) ?_
      refine lv_iconst (v := -1) hx hb d_LazyMachine_stepFix_29 (by decide) ?_
      refine lm_vi (b := ad 1) (As := [.int 4, .int (-1), .int (-1)]) (rest := []) (wr := (ma_W cA ad u14.1) ++ (pl_W cA (fun k => ad (k + 8)) u14.2.2.1) ++ (tm_W cA (fun k => ad (k + 12)) u14.2.2.2.1) ++ (tm_W cA (fun k => ad (k + 19)) u14.2.2.2.2)) ⟨hx, hb, hml, hown, hts⟩ hK hP hD hS hA [1, 2, 3, 4, 5, 6, 7] [0, 8, 9, 10, 11, 12, 13, 14, 15, 16, 17, 18, 19, 20, 21, 22, 23, 24, 25] rfl rfl (by decide) (by decide) (by decide) (c_Heap_take l dC dI cA (fun k => ad (k + 1)) _ u14.2.1 4 (-1) (-1) (by rw [w14]; exact (ma_lo_room hi).2.1)) (cwV 3 hts (lm_gV m_8_22 m_8_23 m_9_0 m_0_2 m_9_1) rfl rfl rfl (by decide +kernel) ⟨Nat.le_of_ble_eq_true rfl, Nat.le_of_ble_eq_true rfl⟩) (va_recv (q0 := 1) hK hP rfl rfl) lm_bl_no (fun _ _ _ => trivial) hl.1 rfl rfl (Nat.le_of_ble_eq_true rfl) d_LazyMachine_stepFix_30 ⟨Nat.le_of_ble_eq_true rfl, Nat.le_of_ble_eq_true rfl⟩ (fun r30 u30 H locs w30 hP hD hS => ?_)
      obtain ⟨e_r30, w30⟩ := w30
      have hP : va_P (dC, dI) classes (lz_W cA ad (u14.1, u30, u14.2.2.1, u14.2.2.2.1, u14.2.2.2.2)) H := hP.sub [0, 19, 20, 21, 22, 23, 24, 25, 1, 2, 3, 4, 5, 6, 7, 8, 9, 10, 11, 12, 13, 14, 15, 16, 17, 18] rfl
      have hD : va_D A (lz_W cA ad (u14.1, u30, u14.2.2.1, u14.2.2.2.1, u14.2.2.2.2)) := hD.sub [0, 19, 20, 21, 22, 23, 24, 25, 1, 2, 3, 4, 5, 6, 7, 8, 9, 10, 11, 12, 13, 14, 15, 16, 17, 18] (by decide) rfl
      refine lv_istore_n (lv' := [(1, .int r30), (0, .ref (ad 0))]) hx hb d_LazyMachine_stepFix_33 rfl hl (by decide) rfl (fun ls hl => ?_)
      refine lv_aload_n hx hb d_LazyMachine_stepFix_34 rfl (lv_at hl 1 rfl) ?_
      refine lv_dup hx hb d_LazyMachine_stepFix_35 rfl ?_
      refine va_get (D := (dC, dI)) (ci := 0) (v := .int u14.1.2.2.1) (C := R_LazyMachine) (T := F_LazyMachine) (N := 13) hx hb hts (fun q hq => List.mem_cons_of_mem _ (i_LazyMachine q hq)) hown hK hP 0 rfl rfl 6 (by decide) (hts _ (List.mem_cons_of_mem _ m_2_13)) (fun _ h9 => h9) rfl d_LazyMachine_stepFix_36 ?_
      refine lv_iconst (v := 1) hx hb d_LazyMachine_stepFix_39 (by decide) ?_
      refine lv_iadd hx hb d_LazyMachine_stepFix_40 ?_
      refine va_put (D := (dC, dI)) (ci := 0) (v := .int (u14.1.2.2.1 + 1)) (ty := .int) (C := R_LazyMachine) (T := F_LazyMachine) (N := 13) hx hb hts (fun q hq => List.mem_cons_of_mem _ (i_LazyMachine q hq)) t_LazyMachine t_LazyMachine_ok n_LazyMachine hown hK hP hD hS 0 rfl rfl 6 (by decide) (hts _ (List.mem_cons_of_mem _ m_2_13)) (fun _ h9 => h9) rfl (by decide +kernel) rfl rfl (Nat.le_of_ble_eq_true rfl) d_LazyMachine_stepFix_41 (fun H locs hP hD hS => ?_)
      have hP : va_P (dC, dI) classes (lz_W cA ad ((u14.1.1, u14.1.2.1, (u14.1.2.2.1 + 1), u14.1.2.2.2.1, u14.1.2.2.2.2.1, u14.1.2.2.2.2.2.1, u14.1.2.2.2.2.2.2.1, u14.1.2.2.2.2.2.2.2.1, u14.1.2.2.2.2.2.2.2.2), u30, u14.2.2.1, u14.2.2.2.1, u14.2.2.2.2)) H := hP
      have hD : va_D A (lz_W cA ad ((u14.1.1, u14.1.2.1, (u14.1.2.2.1 + 1), u14.1.2.2.2.1, u14.1.2.2.2.2.1, u14.1.2.2.2.2.2.1, u14.1.2.2.2.2.2.2.1, u14.1.2.2.2.2.2.2.2.1, u14.1.2.2.2.2.2.2.2.2), u30, u14.2.2.1, u14.2.2.2.1, u14.2.2.2.2)) := hD
      refine lv_aload_n hx hb d_LazyMachine_stepFix_44 rfl (lv_at hl 1 rfl) ?_
      refine va_get (D := (dC, dI)) (ci := 0) (v := .ref (ad 8)) (C := R_LazyMachine) (T := F_LazyMachine) (N := 13) hx hb hts (fun q hq => List.mem_cons_of_mem _ (i_LazyMachine q hq)) hown hK hP 0 rfl rfl 1 (by decide) (hts _ (List.mem_cons_of_mem _ m_2_8)) (fun _ h9 => h9) rfl d_LazyMachine_stepFix_45 ?_
      refine lv_iconst (v := 0) hx hb d_LazyMachine_stepFix_48 (by decide) ?_
      refine lv_iload_n hx hb d_LazyMachine_stepFix_49 rfl (lv_at hl 0 rfl) ?_
      refine lv_iconst (v := -1) hx hb d_LazyMachine_stepFix_50 (by decide) ?_
      refine lm_vv (b := ad 8) (As := [.int 0, .int r30, .int (-1)]) (rest := []) (wr := (ma_W cA ad (u14.1.1, u14.1.2.1, (u14.1.2.2.1 + 1), u14.1.2.2.2.1, u14.1.2.2.2.2.1, u14.1.2.2.2.2.2.1, u14.1.2.2.2.2.2.2.1, u14.1.2.2.2.2.2.2.2.1, u14.1.2.2.2.2.2.2.2.2)) ++ (hp_W cA (fun k => ad (k + 1)) u30) ++ (tm_W cA (fun k => ad (k + 12)) u14.2.2.2.1) ++ (tm_W cA (fun k => ad (k + 19)) u14.2.2.2.2)) ⟨hx, hb, hml, hown, hts⟩ hK hP hD hS hA [8, 9, 10, 11] [0, 1, 2, 3, 4, 5, 6, 7, 12, 13, 14, 15, 16, 17, 18, 19, 20, 21, 22, 23, 24, 25] rfl rfl (by decide) (by decide) (by decide) (c_Pile_add l dC dI cA (fun k => ad (k + 8)) _ u14.2.2.1 0 r30 (-1) (by show pl_ok (m_P u14); rw [w14, ma_room_P]; exact hi.2.2.1)) (cwV 3 hts (lm_gV m_9_10 m_9_11 m_9_12 m_0_3 m_9_13) rfl rfl rfl (by decide +kernel) ⟨Nat.le_of_ble_eq_true rfl, Nat.le_of_ble_eq_true rfl⟩) (va_recv (q0 := 8) hK hP rfl rfl) lm_bl_no (fun _ _ _ => trivial) hl.1 rfl rfl (Nat.le_of_ble_eq_true rfl) d_LazyMachine_stepFix_51 ⟨Nat.le_of_ble_eq_true rfl, Nat.le_of_ble_eq_true rfl⟩ (fun u51 H locs w51 hP hD hS => ?_)
      have hP : va_P (dC, dI) classes (lz_W cA ad ((u14.1.1, u14.1.2.1, (u14.1.2.2.1 + 1), u14.1.2.2.2.1, u14.1.2.2.2.2.1, u14.1.2.2.2.2.2.1, u14.1.2.2.2.2.2.2.1, u14.1.2.2.2.2.2.2.2.1, u14.1.2.2.2.2.2.2.2.2), u30, u51, u14.2.2.2.1, u14.2.2.2.2)) H := hP.sub [0, 1, 2, 3, 4, 5, 6, 7, 22, 23, 24, 25, 8, 9, 10, 11, 12, 13, 14, 15, 16, 17, 18, 19, 20, 21] rfl
      have hD : va_D A (lz_W cA ad ((u14.1.1, u14.1.2.1, (u14.1.2.2.1 + 1), u14.1.2.2.2.1, u14.1.2.2.2.2.1, u14.1.2.2.2.2.2.1, u14.1.2.2.2.2.2.2.1, u14.1.2.2.2.2.2.2.2.1, u14.1.2.2.2.2.2.2.2.2), u30, u51, u14.2.2.2.1, u14.2.2.2.2)) := hD.sub [0, 1, 2, 3, 4, 5, 6, 7, 22, 23, 24, 25, 8, 9, 10, 11, 12, 13, 14, 15, 16, 17, 18, 19, 20, 21] (by decide) rfl
      refine lv_aload_n hx hb d_LazyMachine_stepFix_54 rfl (lv_at hl 1 rfl) ?_
      refine lv_aload_n hx hb d_LazyMachine_stepFix_55 rfl (lv_at hl 1 rfl) ?_
      refine va_get (D := (dC, dI)) (ci := 0) (v := .ref (ad 19)) (C := R_LazyMachine) (T := F_LazyMachine) (N := 13) hx hb hts (fun q hq => List.mem_cons_of_mem _ (i_LazyMachine q hq)) hown hK hP 0 rfl rfl 3 (by decide) (hts _ (List.mem_cons_of_mem _ m_2_10)) (fun _ h9 => h9) rfl d_LazyMachine_stepFix_56 ?_
      refine lv_aload_n hx hb d_LazyMachine_stepFix_59 rfl (lv_at hl 1 rfl) ?_
      refine va_get (D := (dC, dI)) (ci := 0) (v := .int u14.1.2.2.2.2.1) (C := R_LazyMachine) (T := F_LazyMachine) (N := 13) hx hb hts (fun q hq => List.mem_cons_of_mem _ (i_LazyMachine q hq)) hown hK hP 0 rfl rfl 8 (by decide) (hts _ (List.mem_cons_of_mem _ m_2_15)) (fun _ h9 => h9) rfl d_LazyMachine_stepFix_60 ?_
      refine lv_iconst (v := 0) hx hb d_LazyMachine_stepFix_63 (by decide) ?_
      refine lm_vi (b := ad 19) (As := [.int u14.1.2.2.2.2.1, .int 0]) (rest := [.ref (ad 0)]) (wr := (ma_W cA ad (u14.1.1, u14.1.2.1, (u14.1.2.2.1 + 1), u14.1.2.2.2.1, u14.1.2.2.2.2.1, u14.1.2.2.2.2.2.1, u14.1.2.2.2.2.2.2.1, u14.1.2.2.2.2.2.2.2.1, u14.1.2.2.2.2.2.2.2.2)) ++ (hp_W cA (fun k => ad (k + 1)) u30) ++ (pl_W cA (fun k => ad (k + 8)) u51) ++ (tm_W cA (fun k => ad (k + 12)) u14.2.2.2.1)) ⟨hx, hb, hml, hown, hts⟩ hK hP hD hS hA [19, 20, 21, 22, 23, 24, 25] [0, 1, 2, 3, 4, 5, 6, 7, 8, 9, 10, 11, 12, 13, 14, 15, 16, 17, 18] rfl rfl (by decide) (by decide) (by decide) (c_Term_part l dC dI cA (fun k => ad (k + 19)) _ u14.2.2.2.2 u14.1.2.2.2.2.1 0 (by show vp_in (l_no u14 * 3 + 0) 600; rw [w14, ma_room_no]; exact nd_ix hn (w := 0) (by decide))) (cwV 2 hts (lm_gV m_8_18 m_8_19 m_8_20 m_0_4 m_8_21) rfl rfl rfl (by decide +kernel) ⟨Nat.le_of_ble_eq_true rfl, Nat.le_of_ble_eq_true rfl⟩) (va_recv (q0 := 19) hK hP rfl rfl) lm_bl_no (fun _ _ _ => trivial) hl.1 rfl rfl (Nat.le_of_ble_eq_true rfl) d_LazyMachine_stepFix_64 ⟨Nat.le_of_ble_eq_true rfl, Nat.le_of_ble_eq_true rfl⟩ (fun r64 u64 H locs w64 hP hD hS => ?_)
      obtain ⟨e_r64, w64⟩ := w64
      replace w64 := w64.symm
      subst w64
      have hP : va_P (dC, dI) classes (lz_W cA ad ((u14.1.1, u14.1.2.1, (u14.1.2.2.1 + 1), u14.1.2.2.2.1, u14.1.2.2.2.2.1, u14.1.2.2.2.2.2.1, u14.1.2.2.2.2.2.2.1, u14.1.2.2.2.2.2.2.2.1, u14.1.2.2.2.2.2.2.2.2), u30, u51, u14.2.2.2.1, u14.2.2.2.2)) H := hP
      have hD : va_D A (lz_W cA ad ((u14.1.1, u14.1.2.1, (u14.1.2.2.1 + 1), u14.1.2.2.2.1, u14.1.2.2.2.2.1, u14.1.2.2.2.2.2.1, u14.1.2.2.2.2.2.2.1, u14.1.2.2.2.2.2.2.2.1, u14.1.2.2.2.2.2.2.2.2), u30, u51, u14.2.2.2.1, u14.2.2.2.2)) := hD
      refine lv_aload_n hx hb d_LazyMachine_stepFix_67 rfl (lv_at hl 1 rfl) ?_
      refine va_get (D := (dC, dI)) (ci := 0) (v := .ref (ad 1)) (C := R_LazyMachine) (T := F_LazyMachine) (N := 13) hx hb hts (fun q hq => List.mem_cons_of_mem _ (i_LazyMachine q hq)) hown hK hP 0 rfl rfl 0 (by decide) (hts _ (List.mem_cons_of_mem _ m_2_7)) (fun _ h9 => h9) rfl d_LazyMachine_stepFix_68 ?_
      refine lv_iconst (v := 5) hx hb d_LazyMachine_stepFix_71 (by decide) ?_
      refine lv_iload_n hx hb d_LazyMachine_stepFix_72 rfl (lv_at hl 0 rfl) ?_
      refine lv_aload_n hx hb d_LazyMachine_stepFix_73 rfl (lv_at hl 1 rfl) ?_
      refine va_get (D := (dC, dI)) (ci := 0) (v := .int u14.1.2.2.2.2.2.1) (C := R_LazyMachine) (T := F_LazyMachine) (N := 13) hx hb hts (fun q hq => List.mem_cons_of_mem _ (i_LazyMachine q hq)) hown hK hP 0 rfl rfl 9 (by decide) (hts _ (List.mem_cons_of_mem _ m_2_16)) (fun _ h9 => h9) rfl d_LazyMachine_stepFix_74 ?_
      refine lm_vi (b := ad 1) (As := [.int 5, .int r30, .int u14.1.2.2.2.2.2.1]) (rest := [.int r64, .ref (ad 0)]) (wr := (ma_W cA ad (u14.1.1, u14.1.2.1, (u14.1.2.2.1 + 1), u14.1.2.2.2.1, u14.1.2.2.2.2.1, u14.1.2.2.2.2.2.1, u14.1.2.2.2.2.2.2.1, u14.1.2.2.2.2.2.2.2.1, u14.1.2.2.2.2.2.2.2.2)) ++ (pl_W cA (fun k => ad (k + 8)) u51) ++ (tm_W cA (fun k => ad (k + 12)) u14.2.2.2.1) ++ (tm_W cA (fun k => ad (k + 19)) u14.2.2.2.2)) ⟨hx, hb, hml, hown, hts⟩ hK hP hD hS hA [1, 2, 3, 4, 5, 6, 7] [0, 8, 9, 10, 11, 12, 13, 14, 15, 16, 17, 18, 19, 20, 21, 22, 23, 24, 25] rfl rfl (by decide) (by decide) (by decide) (c_Heap_take l dC dI cA (fun k => ad (k + 1)) _ u30 5 r30 u14.1.2.2.2.2.2.1 (by rw [w30, w14]; exact hp_fok_take (ma_lo_room hi).2.1)) (cwV 3 hts (lm_gV m_8_22 m_8_23 m_9_0 m_0_2 m_9_1) rfl rfl rfl (by decide +kernel) ⟨Nat.le_of_ble_eq_true rfl, Nat.le_of_ble_eq_true rfl⟩) (va_recv (q0 := 1) hK hP rfl rfl) lm_bl_no (fun _ _ _ => trivial) hl.1 rfl rfl (Nat.le_of_ble_eq_true rfl) d_LazyMachine_stepFix_77 ⟨Nat.le_of_ble_eq_true rfl, Nat.le_of_ble_eq_true rfl⟩ (fun r77 u77 H locs w77 hP hD hS => ?_)
      obtain ⟨e_r77, w77⟩ := w77
      have hP : va_P (dC, dI) classes (lz_W cA ad ((u14.1.1, u14.1.2.1, (u14.1.2.2.1 + 1), u14.1.2.2.2.1, u14.1.2.2.2.2.1, u14.1.2.2.2.2.2.1, u14.1.2.2.2.2.2.2.1, u14.1.2.2.2.2.2.2.2.1, u14.1.2.2.2.2.2.2.2.2), u77, u51, u14.2.2.2.1, u14.2.2.2.2)) H := hP.sub [0, 19, 20, 21, 22, 23, 24, 25, 1, 2, 3, 4, 5, 6, 7, 8, 9, 10, 11, 12, 13, 14, 15, 16, 17, 18] rfl
      have hD : va_D A (lz_W cA ad ((u14.1.1, u14.1.2.1, (u14.1.2.2.1 + 1), u14.1.2.2.2.1, u14.1.2.2.2.2.1, u14.1.2.2.2.2.2.1, u14.1.2.2.2.2.2.2.1, u14.1.2.2.2.2.2.2.2.1, u14.1.2.2.2.2.2.2.2.2), u77, u51, u14.2.2.2.1, u14.2.2.2.2)) := hD.sub [0, 19, 20, 21, 22, 23, 24, 25, 1, 2, 3, 4, 5, 6, 7, 8, 9, 10, 11, 12, 13, 14, 15, 16, 17, 18] (by decide) rfl
      refine lm_vv (b := ad 0) (As := [.int r64, .int r77]) (rest := []) (wr := ([] : va_W)) ⟨hx, hb, hml, hown, hts⟩ hK hP hD hS hA [0, 1, 2, 3, 4, 5, 6, 7, 8, 9, 10, 11, 12, 13, 14, 15, 16, 17, 18, 19, 20, 21, 22, 23, 24, 25] [] rfl rfl (by decide) (by decide) (by decide) (c_LazyMachine_enter l dC dI cA ad _ ((u14.1.1, u14.1.2.1, (u14.1.2.2.1 + 1), u14.1.2.2.2.1, u14.1.2.2.2.2.1, u14.1.2.2.2.2.2.1, u14.1.2.2.2.2.2.2.1, u14.1.2.2.2.2.2.2.2.1, u14.1.2.2.2.2.2.2.2.2), u77, u51, u14.2.2.2.1, u14.2.2.2.2) r64 r77 ) (cwV 2 hts (lm_gV m_4_9 m_4_10 m_19_6 m_0_1 m_4_11) rfl rfl rfl (by decide +kernel) ⟨Nat.le_of_ble_eq_true rfl, Nat.le_of_ble_eq_true rfl⟩) (va_recv (q0 := 0) hK hP rfl rfl) lm_bl_no (fun _ _ _ => trivial) hl.1 rfl rfl (Nat.le_of_ble_eq_true rfl) d_LazyMachine_stepFix_80 ⟨Nat.le_of_ble_eq_true rfl, Nat.le_of_ble_eq_true rfl⟩ (fun u80 H locs w80 hP hD hS => ?_)
      have w80 : u80 = ((u14.1.1, u14.1.2.1, (u14.1.2.2.1 + 1), 0, r64, r77, u14.1.2.2.2.2.2.2.1, u14.1.2.2.2.2.2.2.2.1, u14.1.2.2.2.2.2.2.2.2), u77, u51, u14.2.2.2.1, u14.2.2.2.2) := w80
      subst w80
      have hP : va_P (dC, dI) classes (lz_W cA ad ((u14.1.1, u14.1.2.1, (u14.1.2.2.1 + 1), 0, r64, r77, u14.1.2.2.2.2.2.2.1, u14.1.2.2.2.2.2.2.2.1, u14.1.2.2.2.2.2.2.2.2), u77, u51, u14.2.2.2.1, u14.2.2.2.2)) H := hP
      have hD : va_D A (lz_W cA ad ((u14.1.1, u14.1.2.1, (u14.1.2.2.1 + 1), 0, r64, r77, u14.1.2.2.2.2.2.2.1, u14.1.2.2.2.2.2.2.2.1, u14.1.2.2.2.2.2.2.2.2), u77, u51, u14.2.2.2.1, u14.2.2.2.2)) := hD
      refine lv_iconst (v := 1) hx hb d_LazyMachine_stepFix_83 (by decide) ?_
      refine lm_ri (v := 1) hx hb hr hlocks ((u14.1.1, u14.1.2.1, (u14.1.2.2.1 + 1), 0, r64, r77, u14.1.2.2.2.2.2.2.1, u14.1.2.2.2.2.2.2.2.1, u14.1.2.2.2.2.2.2.2.2), u77, u51, u14.2.2.2.1, u14.2.2.2.2) ?_ hP hK hD hS d_LazyMachine_stepFix_84
      subst e_r4 e_r14 w14 e_r30 w30 w51 e_r64 e_r77 w77; unfold ma_fix ma_fix2; (first | rw [if_pos h7] | rw [if_neg h7]); (first | rw [if_pos h17] | rw [if_neg h17]); exact ⟨rfl, rfl⟩
    · refine lv_bipush (v := 6) hx hb d_LazyMachine_stepFix_20 (by decide) ?_
      refine lm_ri (v := 6) hx hb hr hlocks u14 ?_ hP hK hD hS d_LazyMachine_stepFix_22
      subst e_r4 e_r14 w14; unfold ma_fix ma_fix2; (first | rw [if_pos h7] | rw [if_neg h7]); (first | rw [if_pos h17] | rw [if_neg h17]); exact ⟨rfl, rfl⟩
  · refine lv_iconst (v := 5) hx hb d_LazyMachine_stepFix_10 (by decide) ?_
    refine lm_ri (v := 5) hx hb hr hlocks ((ss, sp, fo, ba, no, en, vs, vf, vg), SM, PM, XM, YM) ?_ hP hK hD hS d_LazyMachine_stepFix_11
    subst e_r4; unfold ma_fix ma_fix2; (first | rw [if_pos h7] | rw [if_neg h7]); exact ⟨rfl, rfl⟩
set_option maxHeartbeats 4000000 in
set_option maxRecDepth 100000 in
theorem c_LazyMachine_stepLet (l : Launch) (dC : Nat → ClassId) (dI : Nat → Nat → Nat) (cA : ClassId)  (ad : Nat → Nat) (sz : Nat) (M : ZMS)  (hi : ma_lo M) (ht : tm_lo (m_Y M)) (hn : vp_in (l_no M) 200) (he : hp_c (l_en M)) : Met l y_LazyMachine_stepLet w_LazyMachine_stepLet ({ frames := 4, cells := 0, slots := 0, locals := 87 } : Room) (va_Pc [.ref (ad 0)] (lm_pre (dC, dI) classes [(cA, .int)] (lz_W cA ad M) sz lm_no)) (va_Qi (fun (r : Int32) (u : ZMS) => r = (ma_let M).1 ∧ u = (ma_let M).2) (fun u => lm_at (dC, dI) classes [(cA, .int)] (va_A (lz_W cA ad M) sz) (lz_W cA ad u)) (va_A (lz_W cA ad M) sz)) 0 0 (va_A (lz_W cA ad M) sz) := by
  obtain ⟨⟨ss, sp, fo, ba, no, en, vs, vf, vg⟩, SM, PM, XM, YM⟩ := M
  refine lm_met (fun A => va_Qi (fun (r : Int32) (u : ZMS) => r = (ma_let ((ss, sp, fo, ba, no, en, vs, vf, vg), SM, PM, XM, YM)).1 ∧ u = (ma_let ((ss, sp, fo, ba, no, en, vs, vf, vg), SM, PM, XM, YM)).2) (fun u => lm_at (dC, dI) classes [(cA, .int)] A (lz_W cA ad u)) A) (by decide) rfl (Nat.le_of_ble_eq_true rfl) ?_
  intro p e s m below meth c A hx hb hr hts hown hlocks hname hml hK hP hD hA hE hsz hAe hS ls hl
  replace hl : lv_has ls 3 [(0, .ref (ad 0))] := hl
  clear hAe hsz
  refine lv_aload_n hx hb d_LazyMachine_stepLet_0 rfl (lv_at hl 0 rfl) ?_
  refine va_get (D := (dC, dI)) (ci := 0) (v := .ref (ad 19)) (C := R_LazyMachine) (T := F_LazyMachine) (N := 13) hx hb hts (fun q hq => List.mem_cons_of_mem _ (i_LazyMachine q hq)) hown hK hP 0 rfl rfl 3 (by decide) (hts _ (List.mem_cons_of_mem _ m_2_10)) (fun _ h9 => h9) rfl d_LazyMachine_stepLet_1 ?_
  refine lv_aload_n hx hb d_LazyMachine_stepLet_4 rfl (lv_at hl 0 rfl) ?_
  refine va_get (D := (dC, dI)) (ci := 0) (v := .int no) (C := R_LazyMachine) (T := F_LazyMachine) (N := 13) hx hb hts (fun q hq => List.mem_cons_of_mem _ (i_LazyMachine q hq)) hown hK hP 0 rfl rfl 8 (by decide) (hts _ (List.mem_cons_of_mem _ m_2_15)) (fun _ h9 => h9) rfl d_LazyMachine_stepLet_5 ?_
  refine lv_iconst (v := 0) hx hb d_LazyMachine_stepLet_8 (by decide) ?_
  refine lm_vi (b := ad 19) (As := [.int no, .int 0]) (rest := []) (wr := (ma_W cA ad (ss, sp, fo, ba, no, en, vs, vf, vg)) ++ (hp_W cA (fun k => ad (k + 1)) SM) ++ (pl_W cA (fun k => ad (k + 8)) PM) ++ (tm_W cA (fun k => ad (k + 12)) XM)) ⟨hx, hb, hml, hown, hts⟩ hK hP hD hS hA [19, 20, 21, 22, 23, 24, 25] [0, 1, 2, 3, 4, 5, 6, 7, 8, 9, 10, 11, 12, 13, 14, 15, 16, 17, 18] rfl rfl (by decide) (by decide) (by decide) (c_Term_part l dC dI cA (fun k => ad (k + 19)) _ YM no 0 (by exact nd_ix hn (w := 0) (by decide))) (cwV 2 hts (lm_gV m_8_18 m_8_19 m_8_20 m_0_4 m_8_21) rfl rfl rfl (by decide +kernel) ⟨Nat.le_of_ble_eq_true rfl, Nat.le_of_ble_eq_true rfl⟩) (va_recv (q0 := 19) hK hP rfl rfl) lm_bl_no (fun _ _ _ => trivial) hl.1 rfl rfl (Nat.le_of_ble_eq_true rfl) d_LazyMachine_stepLet_9 ⟨Nat.le_of_ble_eq_true rfl, Nat.le_of_ble_eq_true rfl⟩ (fun r9 u9 H locs w9 hP hD hS => ?_)
  obtain ⟨e_r9, w9⟩ := w9
  replace w9 := w9.symm
  subst w9
  have hP : va_P (dC, dI) classes (lz_W cA ad ((ss, sp, fo, ba, no, en, vs, vf, vg), SM, PM, XM, YM)) H := hP
  have hD : va_D A (lz_W cA ad ((ss, sp, fo, ba, no, en, vs, vf, vg), SM, PM, XM, YM)) := hD
  refine lv_istore_n (lv' := [(1, .int r9), (0, .ref (ad 0))]) hx hb d_LazyMachine_stepLet_12 rfl hl (by decide) rfl (fun ls hl => ?_)
  refine lv_aload_n hx hb d_LazyMachine_stepLet_13 rfl (lv_at hl 1 rfl) ?_
  refine lv_aload_n hx hb d_LazyMachine_stepLet_14 rfl (lv_at hl 1 rfl) ?_
  refine lv_iload_n hx hb d_LazyMachine_stepLet_15 rfl (lv_at hl 0 rfl) ?_
  refine lm_vi (b := ad 0) (As := [.int r9]) (rest := [.ref (ad 0)]) (wr := ([] : va_W)) ⟨hx, hb, hml, hown, hts⟩ hK hP hD hS hA [0, 1, 2, 3, 4, 5, 6, 7, 8, 9, 10, 11, 12, 13, 14, 15, 16, 17, 18, 19, 20, 21, 22, 23, 24, 25] [] rfl rfl (by decide) (by decide) (by decide) (c_LazyMachine_cellsFor l dC dI cA ad _ ((ss, sp, fo, ba, no, en, vs, vf, vg), SM, PM, XM, YM) r9 (by rw [e_r9]; exact nd_part ht hn (w := 0) (by decide))) (cwV 1 hts (lm_gV m_11_23 m_12_0 m_19_20 m_0_1 m_12_1) rfl rfl rfl (by decide +kernel) ⟨Nat.le_of_ble_eq_true rfl, Nat.le_of_ble_eq_true rfl⟩) (va_recv (q0 := 0) hK hP rfl rfl) lm_bl_no (fun _ _ _ => trivial) hl.1 rfl rfl (Nat.le_of_ble_eq_true rfl) d_LazyMachine_stepLet_16 ⟨Nat.le_of_ble_eq_true rfl, Nat.le_of_ble_eq_true rfl⟩ (fun r16 u16 H locs w16 hP hD hS => ?_)
  obtain ⟨e_r16, w16⟩ := w16
  replace w16 := w16.symm
  subst w16
  have hP : va_P (dC, dI) classes (lz_W cA ad ((ss, sp, fo, ba, no, en, vs, vf, vg), SM, PM, XM, YM)) H := hP
  have hD : va_D A (lz_W cA ad ((ss, sp, fo, ba, no, en, vs, vf, vg), SM, PM, XM, YM)) := hD
  refine lv_iconst (v := 1) hx hb d_LazyMachine_stepLet_19 (by decide) ?_
  refine lv_iadd hx hb d_LazyMachine_stepLet_20 ?_
  refine lm_vi (b := ad 0) (As := [.int (r16 + 1)]) (rest := []) (wr := ([] : va_W)) ⟨hx, hb, hml, hown, hts⟩ hK hP hD hS hA [0, 1, 2, 3, 4, 5, 6, 7, 8, 9, 10, 11, 12, 13, 14, 15, 16, 17, 18, 19, 20, 21, 22, 23, 24, 25] [] rfl rfl (by decide) (by decide) (by decide) (c_LazyMachine_hasRoomFor l dC dI cA ad _ ((ss, sp, fo, ba, no, en, vs, vf, vg), SM, PM, XM, YM) (r16 + 1) (by exact hi)) (cwV 1 hts (lm_gV m_8_7 m_8_8 m_19_10 m_0_1 m_8_9) rfl rfl rfl (by decide +kernel) ⟨Nat.le_of_ble_eq_true rfl, Nat.le_of_ble_eq_true rfl⟩) (va_recv (q0 := 0) hK hP rfl rfl) lm_bl_no (fun _ _ _ => trivial) hl.1 rfl rfl (Nat.le_of_ble_eq_true rfl) d_LazyMachine_stepLet_21 ⟨Nat.le_of_ble_eq_true rfl, Nat.le_of_ble_eq_true rfl⟩ (fun r21 u21 H locs w21 hP hD hS => ?_)
  obtain ⟨e_r21, w21⟩ := w21
  have hP : va_P (dC, dI) classes (lz_W cA ad u21) H := hP
  have hD : va_D A (lz_W cA ad u21) := hD
  refine lv_if_ne hx hb d_LazyMachine_stepLet_24 rfl (fun h24 => ?_) (fun h24 => ?_)
  · refine lv_aload_n hx hb d_LazyMachine_stepLet_30 rfl (lv_at hl 1 rfl) ?_
    refine lv_iload_n hx hb d_LazyMachine_stepLet_31 rfl (lv_at hl 0 rfl) ?_
    refine lm_vi (b := ad 0) (As := [.int r9]) (rest := []) (wr := ([] : va_W)) ⟨hx, hb, hml, hown, hts⟩ hK hP hD hS hA [0, 1, 2, 3, 4, 5, 6, 7, 8, 9, 10, 11, 12, 13, 14, 15, 16, 17, 18, 19, 20, 21, 22, 23, 24, 25] [] rfl rfl (by decide) (by decide) (by decide) (c_LazyMachine_thunkFor l dC dI cA ad _ u21 r9 (by rw [e_r9]; exact nd_part ht hn (w := 0) (by decide)) (by rw [w21]; exact (th_room hi ht he).1) (by rw [w21]; exact (th_room hi ht he).2.1) (by rw [w21]; exact (th_room hi ht he).2.2.1) (by rw [w21]; exact (th_room hi ht he).2.2.2)) (cwV 1 hts (lm_gV m_12_2 m_12_3 m_19_21 m_0_1 m_12_4) rfl rfl rfl (by decide +kernel) ⟨Nat.le_of_ble_eq_true rfl, Nat.le_of_ble_eq_true rfl⟩) (va_recv (q0 := 0) hK hP rfl rfl) lm_bl_no (fun _ _ _ => trivial) hl.1 rfl rfl (Nat.le_of_ble_eq_true rfl) d_LazyMachine_stepLet_32 ⟨Nat.le_of_ble_eq_true rfl, Nat.le_of_ble_eq_true rfl⟩ (fun r32 u32 H locs w32 hP hD hS => ?_)
    obtain ⟨e_r32, w32⟩ := w32
    have hP : va_P (dC, dI) classes (lz_W cA ad u32) H := hP
    have hD : va_D A (lz_W cA ad u32) := hD
    refine lv_istore_n (lv' := [(2, .int r32), (1, .int r9), (0, .ref (ad 0))]) hx hb d_LazyMachine_stepLet_35 rfl hl (by decide) rfl (fun ls hl => ?_)
    refine lv_aload_n hx hb d_LazyMachine_stepLet_36 rfl (lv_at hl 2 rfl) ?_
    refine lv_aload_n hx hb d_LazyMachine_stepLet_37 rfl (lv_at hl 2 rfl) ?_
    refine va_get (D := (dC, dI)) (ci := 0) (v := .ref (ad 19)) (C := R_LazyMachine) (T := F_LazyMachine) (N := 13) hx hb hts (fun q hq => List.mem_cons_of_mem _ (i_LazyMachine q hq)) hown hK hP 0 rfl rfl 3 (by decide) (hts _ (List.mem_cons_of_mem _ m_2_10)) (fun _ h9 => h9) rfl d_LazyMachine_stepLet_38 ?_
    refine lv_aload_n hx hb d_LazyMachine_stepLet_41 rfl (lv_at hl 2 rfl) ?_
    refine va_get (D := (dC, dI)) (ci := 0) (v := .int u32.1.2.2.2.2.1) (C := R_LazyMachine) (T := F_LazyMachine) (N := 13) hx hb hts (fun q hq => List.mem_cons_of_mem _ (i_LazyMachine q hq)) hown hK hP 0 rfl rfl 8 (by decide) (hts _ (List.mem_cons_of_mem _ m_2_15)) (fun _ h9 => h9) rfl d_LazyMachine_stepLet_42 ?_
    refine lv_iconst (v := 1) hx hb d_LazyMachine_stepLet_45 (by decide) ?_
    refine lm_vi (b := ad 19) (As := [.int u32.1.2.2.2.2.1, .int 1]) (rest := [.ref (ad 0)]) (wr := (ma_W cA ad u32.1) ++ (hp_W cA (fun k => ad (k + 1)) u32.2.1) ++ (pl_W cA (fun k => ad (k + 8)) u32.2.2.1) ++ (tm_W cA (fun k => ad (k + 12)) u32.2.2.2.1)) ⟨hx, hb, hml, hown, hts⟩ hK hP hD hS hA [19, 20, 21, 22, 23, 24, 25] [0, 1, 2, 3, 4, 5, 6, 7, 8, 9, 10, 11, 12, 13, 14, 15, 16, 17, 18] rfl rfl (by decide) (by decide) (by decide) (c_Term_part l dC dI cA (fun k => ad (k + 19)) _ u32.2.2.2.2 u32.1.2.2.2.2.1 1 (by show vp_in (l_no u32 * 3 + 1) 600; rw [w32, ma_thunk_no, w21, ma_room_no]; exact nd_ix hn (w := 1) (by decide))) (cwV 2 hts (lm_gV m_8_18 m_8_19 m_8_20 m_0_4 m_8_21) rfl rfl rfl (by decide +kernel) ⟨Nat.le_of_ble_eq_true rfl, Nat.le_of_ble_eq_true rfl⟩) (va_recv (q0 := 19) hK hP rfl rfl) lm_bl_no (fun _ _ _ => trivial) hl.1 rfl rfl (Nat.le_of_ble_eq_true rfl) d_LazyMachine_stepLet_46 ⟨Nat.le_of_ble_eq_true rfl, Nat.le_of_ble_eq_true rfl⟩ (fun r46 u46 H locs w46 hP hD hS => ?_)
    obtain ⟨e_r46, w46⟩ := w46
    replace w46 := w46.symm
    subst w46
    have hP : va_P (dC, dI) classes (lz_W cA ad u32) H := hP
    have hD : va_D A (lz_W cA ad u32) := hD
    refine lv_aload_n hx hb d_LazyMachine_stepLet_49 rfl (lv_at hl 2 rfl) ?_
    refine va_get (D := (dC, dI)) (ci := 0) (v := .ref (ad 1)) (C := R_LazyMachine) (T := F_LazyMachine) (N := 13) hx hb hts (fun q hq => List.mem_cons_of_mem _ (i_LazyMachine q hq)) hown hK hP 0 rfl rfl 0 (by decide) (hts _ (List.mem_cons_of_mem _ m_2_7)) (fun _ h9 => h9) rfl d_LazyMachine_stepLet_50 ?_
    refine lv_iconst (v := 5) hx hb d_LazyMachine_stepLet_53 (by decide) ?_
    refine lv_iload_n hx hb d_LazyMachine_stepLet_54 rfl (lv_at hl 0 rfl) ?_
    refine lv_aload_n hx hb d_LazyMachine_stepLet_55 rfl (lv_at hl 2 rfl) ?_
    refine va_get (D := (dC, dI)) (ci := 0) (v := .int u32.1.2.2.2.2.2.1) (C := R_LazyMachine) (T := F_LazyMachine) (N := 13) hx hb hts (fun q hq => List.mem_cons_of_mem _ (i_LazyMachine q hq)) hown hK hP 0 rfl rfl 9 (by decide) (hts _ (List.mem_cons_of_mem _ m_2_16)) (fun _ h9 => h9) rfl d_LazyMachine_stepLet_56 ?_
    refine lm_vi (b := ad 1) (As := [.int 5, .int r32, .int u32.1.2.2.2.2.2.1]) (rest := [.int r46, .ref (ad 0)]) (wr := (ma_W cA ad u32.1) ++ (pl_W cA (fun k => ad (k + 8)) u32.2.2.1) ++ (tm_W cA (fun k => ad (k + 12)) u32.2.2.2.1) ++ (tm_W cA (fun k => ad (k + 19)) u32.2.2.2.2)) ⟨hx, hb, hml, hown, hts⟩ hK hP hD hS hA [1, 2, 3, 4, 5, 6, 7] [0, 8, 9, 10, 11, 12, 13, 14, 15, 16, 17, 18, 19, 20, 21, 22, 23, 24, 25] rfl rfl (by decide) (by decide) (by decide) (c_Heap_take l dC dI cA (fun k => ad (k + 1)) _ u32.2.1 5 r32 u32.1.2.2.2.2.2.1 (by show hp_fok (m_H u32); rw [w32]; exact hp_fok_thunk (by rw [w21]; exact (ma_lo_room hi).2.1))) (cwV 3 hts (lm_gV m_8_22 m_8_23 m_9_0 m_0_2 m_9_1) rfl rfl rfl (by decide +kernel) ⟨Nat.le_of_ble_eq_true rfl, Nat.le_of_ble_eq_true rfl⟩) (va_recv (q0 := 1) hK hP rfl rfl) lm_bl_no (fun _ _ _ => trivial) hl.1 rfl rfl (Nat.le_of_ble_eq_true rfl) d_LazyMachine_stepLet_59 ⟨Nat.le_of_ble_eq_true rfl, Nat.le_of_ble_eq_true rfl⟩ (fun r59 u59 H locs w59 hP hD hS => ?_)
    obtain ⟨e_r59, w59⟩ := w59
    have hP : va_P (dC, dI) classes (lz_W cA ad (u32.1, u59, u32.2.2.1, u32.2.2.2.1, u32.2.2.2.2)) H := hP.sub [0, 19, 20, 21, 22, 23, 24, 25, 1, 2, 3, 4, 5, 6, 7, 8, 9, 10, 11, 12, 13, 14, 15, 16, 17, 18] rfl
    have hD : va_D A (lz_W cA ad (u32.1, u59, u32.2.2.1, u32.2.2.2.1, u32.2.2.2.2)) := hD.sub [0, 19, 20, 21, 22, 23, 24, 25, 1, 2, 3, 4, 5, 6, 7, 8, 9, 10, 11, 12, 13, 14, 15, 16, 17, 18] (by decide) rfl
    refine lm_vv (b := ad 0) (As := [.int r46, .int r59]) (rest := []) (wr := ([] : va_W)) ⟨hx, hb, hml, hown, hts⟩ hK hP hD hS hA [0, 1, 2, 3, 4, 5, 6, 7, 8, 9, 10, 11, 12, 13, 14, 15, 16, 17, 18, 19, 20, 21, 22, 23, 24, 25] [] rfl rfl (by decide) (by decide) (by decide) (c_LazyMachine_enter l dC dI cA ad _ (u32.1, u59, u32.2.2.1, u32.2.2.2.1, u32.2.2.2.2) r46 r59 ) (cwV 2 hts (lm_gV m_4_9 m_4_10 m_19_6 m_0_1 m_4_11) rfl rfl rfl (by decide +kernel) ⟨Nat.le_of_ble_eq_true rfl, Nat.le_of_ble_eq_true rfl⟩) (va_recv (q0 := 0) hK hP rfl rfl) lm_bl_no (fun _ _ _ => trivial) hl.1 rfl rfl (Nat.le_of_ble_eq_true rfl) d_LazyMachine_stepLet_62 ⟨Nat.le_of_ble_eq_true rfl, Nat.le_of_ble_eq_true rfl⟩ (fun u62 H locs w62 hP hD hS => ?_)
    have w62 : u62 = ((u32.1.1, u32.1.2.1, u32.1.2.2.1, 0, r46, r59, u32.1.2.2.2.2.2.2.1, u32.1.2.2.2.2.2.2.2.1, u32.1.2.2.2.2.2.2.2.2), u59, u32.2.2.1, u32.2.2.2.1, u32.2.2.2.2) := w62
    subst w62
    have hP : va_P (dC, dI) classes (lz_W cA ad ((u32.1.1, u32.1.2.1, u32.1.2.2.1, 0, r46, r59, u32.1.2.2.2.2.2.2.1, u32.1.2.2.2.2.2.2.2.1, u32.1.2.2.2.2.2.2.2.2), u59, u32.2.2.1, u32.2.2.2.1, u32.2.2.2.2)) H := hP
    have hD : va_D A (lz_W cA ad ((u32.1.1, u32.1.2.1, u32.1.2.2.1, 0, r46, r59, u32.1.2.2.2.2.2.2.1, u32.1.2.2.2.2.2.2.2.1, u32.1.2.2.2.2.2.2.2.2), u59, u32.2.2.1, u32.2.2.2.1, u32.2.2.2.2)) := hD
    refine lv_iconst (v := 1) hx hb d_LazyMachine_stepLet_65 (by decide) ?_
    refine lm_ri (v := 1) hx hb hr hlocks ((u32.1.1, u32.1.2.1, u32.1.2.2.1, 0, r46, r59, u32.1.2.2.2.2.2.2.1, u32.1.2.2.2.2.2.2.2.1, u32.1.2.2.2.2.2.2.2.2), u59, u32.2.2.1, u32.2.2.2.1, u32.2.2.2.2) ?_ hP hK hD hS d_LazyMachine_stepLet_66
    subst e_r9 e_r16 e_r21 w21 e_r32 w32 e_r46 e_r59 w59; unfold ma_let ma_let2; (first | rw [if_pos h24] | rw [if_neg h24]); exact ⟨rfl, rfl⟩
  · refine lv_bipush (v := 6) hx hb d_LazyMachine_stepLet_27 (by decide) ?_
    refine lm_ri (v := 6) hx hb hr hlocks u21 ?_ hP hK hD hS d_LazyMachine_stepLet_29
    subst e_r9 e_r16 e_r21 w21; unfold ma_let ma_let2; (first | rw [if_pos h24] | rw [if_neg h24]); exact ⟨rfl, rfl⟩
set_option maxHeartbeats 4000000 in
set_option maxRecDepth 100000 in
theorem c_LazyMachine_stepPair (l : Launch) (dC : Nat → ClassId) (dI : Nat → Nat → Nat) (cA : ClassId)  (ad : Nat → Nat) (sz : Nat) (M : ZMS)  (hi : ma_lo M) (ht : tm_lo (m_Y M)) (hn : vp_in (l_no M) 200) (he : hp_c (l_en M)) : Met l y_LazyMachine_stepPair w_LazyMachine_stepPair ({ frames := 4, cells := 0, slots := 0, locals := 87 } : Room) (va_Pc [.ref (ad 0)] (lm_pre (dC, dI) classes [(cA, .int)] (lz_W cA ad M) sz lm_no)) (va_Qi (fun (r : Int32) (u : ZMS) => r = (ma_pair M).1 ∧ u = (ma_pair M).2) (fun u => lm_at (dC, dI) classes [(cA, .int)] (va_A (lz_W cA ad M) sz) (lz_W cA ad u)) (va_A (lz_W cA ad M) sz)) 0 0 (va_A (lz_W cA ad M) sz) := by
  obtain ⟨⟨ss, sp, fo, ba, no, en, vs, vf, vg⟩, SM, PM, XM, YM⟩ := M
  refine lm_met (fun A => va_Qi (fun (r : Int32) (u : ZMS) => r = (ma_pair ((ss, sp, fo, ba, no, en, vs, vf, vg), SM, PM, XM, YM)).1 ∧ u = (ma_pair ((ss, sp, fo, ba, no, en, vs, vf, vg), SM, PM, XM, YM)).2) (fun u => lm_at (dC, dI) classes [(cA, .int)] A (lz_W cA ad u)) A) (by decide) rfl (Nat.le_of_ble_eq_true rfl) ?_
  intro p e s m below meth c A hx hb hr hts hown hlocks hname hml hK hP hD hA hE hsz hAe hS ls hl
  replace hl : lv_has ls 4 [(0, .ref (ad 0))] := hl
  clear hAe hsz
  refine lv_aload_n hx hb d_LazyMachine_stepPair_0 rfl (lv_at hl 0 rfl) ?_
  refine va_get (D := (dC, dI)) (ci := 0) (v := .ref (ad 19)) (C := R_LazyMachine) (T := F_LazyMachine) (N := 13) hx hb hts (fun q hq => List.mem_cons_of_mem _ (i_LazyMachine q hq)) hown hK hP 0 rfl rfl 3 (by decide) (hts _ (List.mem_cons_of_mem _ m_2_10)) (fun _ h9 => h9) rfl d_LazyMachine_stepPair_1 ?_
  refine lv_aload_n hx hb d_LazyMachine_stepPair_4 rfl (lv_at hl 0 rfl) ?_
  refine va_get (D := (dC, dI)) (ci := 0) (v := .int no) (C := R_LazyMachine) (T := F_LazyMachine) (N := 13) hx hb hts (fun q hq => List.mem_cons_of_mem _ (i_LazyMachine q hq)) hown hK hP 0 rfl rfl 8 (by decide) (hts _ (List.mem_cons_of_mem _ m_2_15)) (fun _ h9 => h9) rfl d_LazyMachine_stepPair_5 ?_
  refine lv_iconst (v := 0) hx hb d_LazyMachine_stepPair_8 (by decide) ?_
  refine lm_vi (b := ad 19) (As := [.int no, .int 0]) (rest := []) (wr := (ma_W cA ad (ss, sp, fo, ba, no, en, vs, vf, vg)) ++ (hp_W cA (fun k => ad (k + 1)) SM) ++ (pl_W cA (fun k => ad (k + 8)) PM) ++ (tm_W cA (fun k => ad (k + 12)) XM)) ⟨hx, hb, hml, hown, hts⟩ hK hP hD hS hA [19, 20, 21, 22, 23, 24, 25] [0, 1, 2, 3, 4, 5, 6, 7, 8, 9, 10, 11, 12, 13, 14, 15, 16, 17, 18] rfl rfl (by decide) (by decide) (by decide) (c_Term_part l dC dI cA (fun k => ad (k + 19)) _ YM no 0 (by exact nd_ix hn (w := 0) (by decide))) (cwV 2 hts (lm_gV m_8_18 m_8_19 m_8_20 m_0_4 m_8_21) rfl rfl rfl (by decide +kernel) ⟨Nat.le_of_ble_eq_true rfl, Nat.le_of_ble_eq_true rfl⟩) (va_recv (q0 := 19) hK hP rfl rfl) lm_bl_no (fun _ _ _ => trivial) hl.1 rfl rfl (Nat.le_of_ble_eq_true rfl) d_LazyMachine_stepPair_9 ⟨Nat.le_of_ble_eq_true rfl, Nat.le_of_ble_eq_true rfl⟩ (fun r9 u9 H locs w9 hP hD hS => ?_)
  obtain ⟨e_r9, w9⟩ := w9
  replace w9 := w9.symm
  subst w9
  have hP : va_P (dC, dI) classes (lz_W cA ad ((ss, sp, fo, ba, no, en, vs, vf, vg), SM, PM, XM, YM)) H := hP
  have hD : va_D A (lz_W cA ad ((ss, sp, fo, ba, no, en, vs, vf, vg), SM, PM, XM, YM)) := hD
  refine lv_istore_n (lv' := [(1, .int r9), (0, .ref (ad 0))]) hx hb d_LazyMachine_stepPair_12 rfl hl (by decide) rfl (fun ls hl => ?_)
  refine lv_aload_n hx hb d_LazyMachine_stepPair_13 rfl (lv_at hl 1 rfl) ?_
  refine va_get (D := (dC, dI)) (ci := 0) (v := .ref (ad 19)) (C := R_LazyMachine) (T := F_LazyMachine) (N := 13) hx hb hts (fun q hq => List.mem_cons_of_mem _ (i_LazyMachine q hq)) hown hK hP 0 rfl rfl 3 (by decide) (hts _ (List.mem_cons_of_mem _ m_2_10)) (fun _ h9 => h9) rfl d_LazyMachine_stepPair_14 ?_
  refine lv_aload_n hx hb d_LazyMachine_stepPair_17 rfl (lv_at hl 1 rfl) ?_
  refine va_get (D := (dC, dI)) (ci := 0) (v := .int no) (C := R_LazyMachine) (T := F_LazyMachine) (N := 13) hx hb hts (fun q hq => List.mem_cons_of_mem _ (i_LazyMachine q hq)) hown hK hP 0 rfl rfl 8 (by decide) (hts _ (List.mem_cons_of_mem _ m_2_15)) (fun _ h9 => h9) rfl d_LazyMachine_stepPair_18 ?_
  refine lv_iconst (v := 1) hx hb d_LazyMachine_stepPair_21 (by decide) ?_
  refine lm_vi (b := ad 19) (As := [.int no, .int 1]) (rest := []) (wr := (ma_W cA ad (ss, sp, fo, ba, no, en, vs, vf, vg)) ++ (hp_W cA (fun k => ad (k + 1)) SM) ++ (pl_W cA (fun k => ad (k + 8)) PM) ++ (tm_W cA (fun k => ad (k + 12)) XM)) ⟨hx, hb, hml, hown, hts⟩ hK hP hD hS hA [19, 20, 21, 22, 23, 24, 25] [0, 1, 2, 3, 4, 5, 6, 7, 8, 9, 10, 11, 12, 13, 14, 15, 16, 17, 18] rfl rfl (by decide) (by decide) (by decide) (c_Term_part l dC dI cA (fun k => ad (k + 19)) _ YM no 1 (by exact nd_ix hn (w := 1) (by decide))) (cwV 2 hts (lm_gV m_8_18 m_8_19 m_8_20 m_0_4 m_8_21) rfl rfl rfl (by decide +kernel) ⟨Nat.le_of_ble_eq_true rfl, Nat.le_of_ble_eq_true rfl⟩) (va_recv (q0 := 19) hK hP rfl rfl) lm_bl_no (fun _ _ _ => trivial) hl.1 rfl rfl (Nat.le_of_ble_eq_true rfl) d_LazyMachine_stepPair_22 ⟨Nat.le_of_ble_eq_true rfl, Nat.le_of_ble_eq_true rfl⟩ (fun r22 u22 H locs w22 hP hD hS => ?_)
  obtain ⟨e_r22, w22⟩ := w22
  replace w22 := w22.symm
  subst w22
  have hP : va_P (dC, dI) classes (lz_W cA ad ((ss, sp, fo, ba, no, en, vs, vf, vg), SM, PM, XM, YM)) H := hP
  have hD : va_D A (lz_W cA ad ((ss, sp, fo, ba, no, en, vs, vf, vg), SM, PM, XM, YM)) := hD
  refine lv_istore_n (lv' := [(2, .int r22), (1, .int r9), (0, .ref (ad 0))]) hx hb d_LazyMachine_stepPair_25 rfl hl (by decide) rfl (fun ls hl => ?_)
  refine lv_aload_n hx hb d_LazyMachine_stepPair_26 rfl (lv_at hl 2 rfl) ?_
  refine lv_aload_n hx hb d_LazyMachine_stepPair_27 rfl (lv_at hl 2 rfl) ?_
  refine lv_iload_n hx hb d_LazyMachine_stepPair_28 rfl (lv_at hl 1 rfl) ?_
  refine lm_vi (b := ad 0) (As := [.int r9]) (rest := [.ref (ad 0)]) (wr := ([] : va_W)) ⟨hx, hb, hml, hown, hts⟩ hK hP hD hS hA [0, 1, 2, 3, 4, 5, 6, 7, 8, 9, 10, 11, 12, 13, 14, 15, 16, 17, 18, 19, 20, 21, 22, 23, 24, 25] [] rfl rfl (by decide) (by decide) (by decide) (c_LazyMachine_cellsFor l dC dI cA ad _ ((ss, sp, fo, ba, no, en, vs, vf, vg), SM, PM, XM, YM) r9 (by rw [e_r9]; exact nd_part ht hn (w := 0) (by decide))) (cwV 1 hts (lm_gV m_11_23 m_12_0 m_19_20 m_0_1 m_12_1) rfl rfl rfl (by decide +kernel) ⟨Nat.le_of_ble_eq_true rfl, Nat.le_of_ble_eq_true rfl⟩) (va_recv (q0 := 0) hK hP rfl rfl) lm_bl_no (fun _ _ _ => trivial) hl.1 rfl rfl (Nat.le_of_ble_eq_true rfl) d_LazyMachine_stepPair_29 ⟨Nat.le_of_ble_eq_true rfl, Nat.le_of_ble_eq_true rfl⟩ (fun r29 u29 H locs w29 hP hD hS => ?_)
  obtain ⟨e_r29, w29⟩ := w29
  replace w29 := w29.symm
  subst w29
  have hP : va_P (dC, dI) classes (lz_W cA ad ((ss, sp, fo, ba, no, en, vs, vf, vg), SM, PM, XM, YM)) H := hP
  have hD : va_D A (lz_W cA ad ((ss, sp, fo, ba, no, en, vs, vf, vg), SM, PM, XM, YM)) := hD
  refine lv_aload_n hx hb d_LazyMachine_stepPair_32 rfl (lv_at hl 2 rfl) ?_
  refine lv_iload_n hx hb d_LazyMachine_stepPair_33 rfl (lv_at hl 0 rfl) ?_
  refine lm_vi (b := ad 0) (As := [.int r22]) (rest := [.int r29, .ref (ad 0)]) (wr := ([] : va_W)) ⟨hx, hb, hml, hown, hts⟩ hK hP hD hS hA [0, 1, 2, 3, 4, 5, 6, 7, 8, 9, 10, 11, 12, 13, 14, 15, 16, 17, 18, 19, 20, 21, 22, 23, 24, 25] [] rfl rfl (by decide) (by decide) (by decide) (c_LazyMachine_cellsFor l dC dI cA ad _ ((ss, sp, fo, ba, no, en, vs, vf, vg), SM, PM, XM, YM) r22 (by rw [e_r22]; exact nd_part ht hn (w := 1) (by decide))) (cwV 1 hts (lm_gV m_11_23 m_12_0 m_19_20 m_0_1 m_12_1) rfl rfl rfl (by decide +kernel) ⟨Nat.le_of_ble_eq_true rfl, Nat.le_of_ble_eq_true rfl⟩) (va_recv (q0 := 0) hK hP rfl rfl) lm_bl_no (fun _ _ _ => trivial) hl.1 rfl rfl (Nat.le_of_ble_eq_true rfl) d_LazyMachine_stepPair_34 ⟨Nat.le_of_ble_eq_true rfl, Nat.le_of_ble_eq_true rfl⟩ (fun r34 u34 H locs w34 hP hD hS => ?_)
  obtain ⟨e_r34, w34⟩ := w34
  replace w34 := w34.symm
  subst w34
  have hP : va_P (dC, dI) classes (lz_W cA ad ((ss, sp, fo, ba, no, en, vs, vf, vg), SM, PM, XM, YM)) H := hP
  have hD : va_D A (lz_W cA ad ((ss, sp, fo, ba, no, en, vs, vf, vg), SM, PM, XM, YM)) := hD
  refine lv_iadd hx hb d_LazyMachine_stepPair_37 ?_
  refine lm_vi (b := ad 0) (As := [.int (r29 + r34)]) (rest := []) (wr := ([] : va_W)) ⟨hx, hb, hml, hown, hts⟩ hK hP hD hS hA [0, 1, 2, 3, 4, 5, 6, 7, 8, 9, 10, 11, 12, 13, 14, 15, 16, 17, 18, 19, 20, 21, 22, 23, 24, 25] [] rfl rfl (by decide) (by decide) (by decide) (c_LazyMachine_hasRoomFor l dC dI cA ad _ ((ss, sp, fo, ba, no, en, vs, vf, vg), SM, PM, XM, YM) (r29 + r34) (by exact hi)) (cwV 1 hts (lm_gV m_8_7 m_8_8 m_19_10 m_0_1 m_8_9) rfl rfl rfl (by decide +kernel) ⟨Nat.le_of_ble_eq_true rfl, Nat.le_of_ble_eq_true rfl⟩) (va_recv (q0 := 0) hK hP rfl rfl) lm_bl_no (fun _ _ _ => trivial) hl.1 rfl rfl (Nat.le_of_ble_eq_true rfl) d_LazyMachine_stepPair_38 ⟨Nat.le_of_ble_eq_true rfl, Nat.le_of_ble_eq_true rfl⟩ (fun r38 u38 H locs w38 hP hD hS => ?_)
  obtain ⟨e_r38, w38⟩ := w38
  have hP : va_P (dC, dI) classes (lz_W cA ad u38) H := hP
  have hD : va_D A (lz_W cA ad u38) := hD
  refine lv_if_ne hx hb d_LazyMachine_stepPair_41 rfl (fun h41 => ?_) (fun h41 => ?_)
  · refine lv_aload_n hx hb d_LazyMachine_stepPair_47 rfl (lv_at hl 2 rfl) ?_
    refine lv_iload_n hx hb d_LazyMachine_stepPair_48 rfl (lv_at hl 1 rfl) ?_
    refine lm_vi (b := ad 0) (As := [.int r9]) (rest := []) (wr := ([] : va_W)) ⟨hx, hb, hml, hown, hts⟩ hK hP hD hS hA [0, 1, 2, 3, 4, 5, 6, 7, 8, 9, 10, 11, 12, 13, 14, 15, 16, 17, 18, 19, 20, 21, 22, 23, 24, 25] [] rfl rfl (by decide) (by decide) (by decide) (c_LazyMachine_thunkFor l dC dI cA ad _ u38 r9 (by rw [e_r9]; exact nd_part ht hn (w := 0) (by decide)) (by rw [w38]; exact (th_room hi ht he).1) (by rw [w38]; exact (th_room hi ht he).2.1) (by rw [w38]; exact (th_room hi ht he).2.2.1) (by rw [w38]; exact (th_room hi ht he).2.2.2)) (cwV 1 hts (lm_gV m_12_2 m_12_3 m_19_21 m_0_1 m_12_4) rfl rfl rfl (by decide +kernel) ⟨Nat.le_of_ble_eq_true rfl, Nat.le_of_ble_eq_true rfl⟩) (va_recv (q0 := 0) hK hP rfl rfl) lm_bl_no (fun _ _ _ => trivial) hl.1 rfl rfl (Nat.le_of_ble_eq_true rfl) d_LazyMachine_stepPair_49 ⟨Nat.le_of_ble_eq_true rfl, Nat.le_of_ble_eq_true rfl⟩ (fun r49 u49 H locs w49 hP hD hS => ?_)
    obtain ⟨e_r49, w49⟩ := w49
    have hP : va_P (dC, dI) classes (lz_W cA ad u49) H := hP
    have hD : va_D A (lz_W cA ad u49) := hD
    refine lv_istore_n (lv' := [(3, .int r49), (2, .int r22), (1, .int r9), (0, .ref (ad 0))]) hx hb d_LazyMachine_stepPair_52 rfl hl (by decide) rfl (fun ls hl => ?_)
    refine lv_aload_n hx hb d_LazyMachine_stepPair_53 rfl (lv_at hl 3 rfl) ?_
    refine lv_iconst (v := 2) hx hb d_LazyMachine_stepPair_54 (by decide) ?_
    refine lv_iload_n hx hb d_LazyMachine_stepPair_55 rfl (lv_at hl 0 rfl) ?_
    refine lv_aload_n hx hb d_LazyMachine_stepPair_56 rfl (lv_at hl 3 rfl) ?_
    refine lv_iload_n hx hb d_LazyMachine_stepPair_57 rfl (lv_at hl 1 rfl) ?_
    refine lm_vi (b := ad 0) (As := [.int r22]) (rest := [.int r49, .int 2, .ref (ad 0)]) (wr := ([] : va_W)) ⟨hx, hb, hml, hown, hts⟩ hK hP hD hS hA [0, 1, 2, 3, 4, 5, 6, 7, 8, 9, 10, 11, 12, 13, 14, 15, 16, 17, 18, 19, 20, 21, 22, 23, 24, 25] [] rfl rfl (by decide) (by decide) (by decide) (c_LazyMachine_thunkFor l dC dI cA ad _ u49 r22 (by rw [e_r22]; exact nd_part ht hn (w := 1) (by decide)) (by rw [w49]; exact hp_se_thunk (by rw [w38]; exact (th_room hi ht he).1) (by rw [w38]; exact (th_room hi ht he).2.2.1)) (by rw [w49]; exact hp_fok_thunk (by rw [w38]; exact (th_room hi ht he).2.1)) (by rw [w49, ma_thunk_en]; rw [w38]; exact (th_room hi ht he).2.2.1) (by rw [w49, ma_thunk_Y]; rw [w38]; exact (th_room hi ht he).2.2.2)) (cwV 1 hts (lm_gV m_12_2 m_12_3 m_19_21 m_0_1 m_12_4) rfl rfl rfl (by decide +kernel) ⟨Nat.le_of_ble_eq_true rfl, Nat.le_of_ble_eq_true rfl⟩) (va_recv (q0 := 0) hK hP rfl rfl) lm_bl_no (fun _ _ _ => trivial) hl.1 rfl rfl (Nat.le_of_ble_eq_true rfl) d_LazyMachine_stepPair_58 ⟨Nat.le_of_ble_eq_true rfl, Nat.le_of_ble_eq_true rfl⟩ (fun r58 u58 H locs w58 hP hD hS => ?_)
    obtain ⟨e_r58, w58⟩ := w58
    have hP : va_P (dC, dI) classes (lz_W cA ad u58) H := hP
    have hD : va_D A (lz_W cA ad u58) := hD
    refine lm_vi (b := ad 0) (As := [.int 2, .int r49, .int r58]) (rest := []) (wr := ([] : va_W)) ⟨hx, hb, hml, hown, hts⟩ hK hP hD hS hA [0, 1, 2, 3, 4, 5, 6, 7, 8, 9, 10, 11, 12, 13, 14, 15, 16, 17, 18, 19, 20, 21, 22, 23, 24, 25] [] rfl rfl (by decide) (by decide) (by decide) (c_LazyMachine_backWith l dC dI cA ad _ u58 2 r49 r58 ) (cwV 3 hts (lm_gV m_10_7 m_10_8 m_19_14 m_0_1 m_10_9) rfl rfl rfl (by decide +kernel) ⟨Nat.le_of_ble_eq_true rfl, Nat.le_of_ble_eq_true rfl⟩) (va_recv (q0 := 0) hK hP rfl rfl) lm_bl_no (fun _ _ _ => trivial) hl.1 rfl rfl (Nat.le_of_ble_eq_true rfl) d_LazyMachine_stepPair_61 ⟨Nat.le_of_ble_eq_true rfl, Nat.le_of_ble_eq_true rfl⟩ (fun r61 u61 H locs w61 hP hD hS => ?_)
    obtain ⟨e_r61, w61⟩ := w61
    replace e_r61 := e_r61.symm
    subst e_r61
    have w61 : u61 = ((u58.1.1, u58.1.2.1, u58.1.2.2.1, 1, u58.1.2.2.2.2.1, u58.1.2.2.2.2.2.1, 2, r49, r58), u58.2.1, u58.2.2.1, u58.2.2.2.1, u58.2.2.2.2) := w61
    subst w61
    have hP : va_P (dC, dI) classes (lz_W cA ad ((u58.1.1, u58.1.2.1, u58.1.2.2.1, 1, u58.1.2.2.2.2.1, u58.1.2.2.2.2.2.1, 2, r49, r58), u58.2.1, u58.2.2.1, u58.2.2.2.1, u58.2.2.2.2)) H := hP
    have hD : va_D A (lz_W cA ad ((u58.1.1, u58.1.2.1, u58.1.2.2.1, 1, u58.1.2.2.2.2.1, u58.1.2.2.2.2.2.1, 2, r49, r58), u58.2.1, u58.2.2.1, u58.2.2.2.1, u58.2.2.2.2)) := hD
    refine lm_ri (v := 1) hx hb hr hlocks ((u58.1.1, u58.1.2.1, u58.1.2.2.1, 1, u58.1.2.2.2.2.1, u58.1.2.2.2.2.2.1, 2, r49, r58), u58.2.1, u58.2.2.1, u58.2.2.2.1, u58.2.2.2.2) ?_ hP hK hD hS d_LazyMachine_stepPair_64
    subst e_r9 e_r22 e_r29 e_r34 e_r38 w38 e_r49 w49 e_r58 w58; unfold ma_pair ma_pairM; (first | rw [if_pos h41] | rw [if_neg h41]); exact ⟨rfl, rfl⟩
  · refine lv_bipush (v := 6) hx hb d_LazyMachine_stepPair_44 (by decide) ?_
    refine lm_ri (v := 6) hx hb hr hlocks u38 ?_ hP hK hD hS d_LazyMachine_stepPair_46
    subst e_r9 e_r22 e_r29 e_r34 e_r38 w38; unfold ma_pair ma_pairM; (first | rw [if_pos h41] | rw [if_neg h41]); exact ⟨rfl, rfl⟩
set_option maxHeartbeats 4000000 in
set_option maxRecDepth 100000 in
theorem c_LazyMachine_enterFunction (l : Launch) (dC : Nat → ClassId) (dI : Nat → Nat → Nat) (cA : ClassId)  (ad : Nat → Nat) (sz : Nat) (M : ZMS) (x : Int32) (hv : vp_in (l_vf M) 200) (hf : hp_fok (m_H M)) : Met l y_LazyMachine_enterFunction w_LazyMachine_enterFunction ({ frames := 2, cells := 0, slots := 0, locals := 48 } : Room) (va_Pc [.ref (ad 0), .int x] (lm_pre (dC, dI) classes [(cA, .int)] (lz_W cA ad M) sz lm_no)) (va_Qv (fun (u : ZMS) => u = ma_fun M x) (fun u => lm_at (dC, dI) classes [(cA, .int)] (va_A (lz_W cA ad M) sz) (lz_W cA ad u)) (va_A (lz_W cA ad M) sz)) 0 0 (va_A (lz_W cA ad M) sz) := by
  obtain ⟨⟨ss, sp, fo, ba, no, en, vs, vf, vg⟩, SM, PM, XM, YM⟩ := M
  refine lm_met (fun A => va_Qv (fun (u : ZMS) => u = ma_fun ((ss, sp, fo, ba, no, en, vs, vf, vg), SM, PM, XM, YM) x) (fun u => lm_at (dC, dI) classes [(cA, .int)] A (lz_W cA ad u)) A) (by decide) rfl (Nat.le_of_ble_eq_true rfl) ?_
  intro p e s m below meth c A hx hb hr hts hown hlocks hname hml hK hP hD hA hE hsz hAe hS ls hl
  replace hl : lv_has ls 2 [(0, .ref (ad 0)), (1, .int x)] := hl
  clear hAe hsz
  refine lv_aload_n hx hb d_LazyMachine_enterFunction_0 rfl (lv_at hl 0 rfl) ?_
  refine lv_aload_n hx hb d_LazyMachine_enterFunction_1 rfl (lv_at hl 0 rfl) ?_
  refine va_get (D := (dC, dI)) (ci := 0) (v := .ref (ad 19)) (C := R_LazyMachine) (T := F_LazyMachine) (N := 13) hx hb hts (fun q hq => List.mem_cons_of_mem _ (i_LazyMachine q hq)) hown hK hP 0 rfl rfl 3 (by decide) (hts _ (List.mem_cons_of_mem _ m_2_10)) (fun _ h9 => h9) rfl d_LazyMachine_enterFunction_2 ?_
  refine lv_aload_n hx hb d_LazyMachine_enterFunction_5 rfl (lv_at hl 0 rfl) ?_
  refine va_get (D := (dC, dI)) (ci := 0) (v := .int vf) (C := R_LazyMachine) (T := F_LazyMachine) (N := 13) hx hb hts (fun q hq => List.mem_cons_of_mem _ (i_LazyMachine q hq)) hown hK hP 0 rfl rfl 11 (by decide) (hts _ (List.mem_cons_of_mem _ m_2_18)) (fun _ h9 => h9) rfl d_LazyMachine_enterFunction_6 ?_
  refine lv_iconst (v := 0) hx hb d_LazyMachine_enterFunction_9 (by decide) ?_
  refine lm_vi (b := ad 19) (As := [.int vf, .int 0]) (rest := [.ref (ad 0)]) (wr := (ma_W cA ad (ss, sp, fo, ba, no, en, vs, vf, vg)) ++ (hp_W cA (fun k => ad (k + 1)) SM) ++ (pl_W cA (fun k => ad (k + 8)) PM) ++ (tm_W cA (fun k => ad (k + 12)) XM)) ⟨hx, hb, hml, hown, hts⟩ hK hP hD hS hA [19, 20, 21, 22, 23, 24, 25] [0, 1, 2, 3, 4, 5, 6, 7, 8, 9, 10, 11, 12, 13, 14, 15, 16, 17, 18] rfl rfl (by decide) (by decide) (by decide) (c_Term_part l dC dI cA (fun k => ad (k + 19)) _ YM vf 0 (by exact nd_ix hv (w := 0) (by decide))) (cwV 2 hts (lm_gV m_8_18 m_8_19 m_8_20 m_0_4 m_8_21) rfl rfl rfl (by decide +kernel) ⟨Nat.le_of_ble_eq_true rfl, Nat.le_of_ble_eq_true rfl⟩) (va_recv (q0 := 19) hK hP rfl rfl) lm_bl_no (fun _ _ _ => trivial) hl.1 rfl rfl (Nat.le_of_ble_eq_true rfl) d_LazyMachine_enterFunction_10 ⟨Nat.le_of_ble_eq_true rfl, Nat.le_of_ble_eq_true rfl⟩ (fun r10 u10 H locs w10 hP hD hS => ?_)
  obtain ⟨e_r10, w10⟩ := w10
  replace w10 := w10.symm
  subst w10
  have hP : va_P (dC, dI) classes (lz_W cA ad ((ss, sp, fo, ba, no, en, vs, vf, vg), SM, PM, XM, YM)) H := hP
  have hD : va_D A (lz_W cA ad ((ss, sp, fo, ba, no, en, vs, vf, vg), SM, PM, XM, YM)) := hD
  refine lv_aload_n hx hb d_LazyMachine_enterFunction_13 rfl (lv_at hl 0 rfl) ?_
  refine va_get (D := (dC, dI)) (ci := 0) (v := .ref (ad 1)) (C := R_LazyMachine) (T := F_LazyMachine) (N := 13) hx hb hts (fun q hq => List.mem_cons_of_mem _ (i_LazyMachine q hq)) hown hK hP 0 rfl rfl 0 (by decide) (hts _ (List.mem_cons_of_mem _ m_2_7)) (fun _ h9 => h9) rfl d_LazyMachine_enterFunction_14 ?_
  refine lv_iconst (v := 5) hx hb d_LazyMachine_enterFunction_17 (by decide) ?_
  refine lv_iload_n hx hb d_LazyMachine_enterFunction_18 rfl (lv_at hl 1 rfl) ?_
  refine lv_aload_n hx hb d_LazyMachine_enterFunction_19 rfl (lv_at hl 0 rfl) ?_
  refine va_get (D := (dC, dI)) (ci := 0) (v := .int vg) (C := R_LazyMachine) (T := F_LazyMachine) (N := 13) hx hb hts (fun q hq => List.mem_cons_of_mem _ (i_LazyMachine q hq)) hown hK hP 0 rfl rfl 12 (by decide) (hts _ (List.mem_cons_of_mem _ m_2_19)) (fun _ h9 => h9) rfl d_LazyMachine_enterFunction_20 ?_
  refine lm_vi (b := ad 1) (As := [.int 5, .int x, .int vg]) (rest := [.int r10, .ref (ad 0)]) (wr := (ma_W cA ad (ss, sp, fo, ba, no, en, vs, vf, vg)) ++ (pl_W cA (fun k => ad (k + 8)) PM) ++ (tm_W cA (fun k => ad (k + 12)) XM) ++ (tm_W cA (fun k => ad (k + 19)) YM)) ⟨hx, hb, hml, hown, hts⟩ hK hP hD hS hA [1, 2, 3, 4, 5, 6, 7] [0, 8, 9, 10, 11, 12, 13, 14, 15, 16, 17, 18, 19, 20, 21, 22, 23, 24, 25] rfl rfl (by decide) (by decide) (by decide) (c_Heap_take l dC dI cA (fun k => ad (k + 1)) _ SM 5 x vg (by exact hf)) (cwV 3 hts (lm_gV m_8_22 m_8_23 m_9_0 m_0_2 m_9_1) rfl rfl rfl (by decide +kernel) ⟨Nat.le_of_ble_eq_true rfl, Nat.le_of_ble_eq_true rfl⟩) (va_recv (q0 := 1) hK hP rfl rfl) lm_bl_no (fun _ _ _ => trivial) hl.1 rfl rfl (Nat.le_of_ble_eq_true rfl) d_LazyMachine_enterFunction_23 ⟨Nat.le_of_ble_eq_true rfl, Nat.le_of_ble_eq_true rfl⟩ (fun r23 u23 H locs w23 hP hD hS => ?_)
  obtain ⟨e_r23, w23⟩ := w23
  have hP : va_P (dC, dI) classes (lz_W cA ad ((ss, sp, fo, ba, no, en, vs, vf, vg), u23, PM, XM, YM)) H := hP.sub [0, 19, 20, 21, 22, 23, 24, 25, 1, 2, 3, 4, 5, 6, 7, 8, 9, 10, 11, 12, 13, 14, 15, 16, 17, 18] rfl
  have hD : va_D A (lz_W cA ad ((ss, sp, fo, ba, no, en, vs, vf, vg), u23, PM, XM, YM)) := hD.sub [0, 19, 20, 21, 22, 23, 24, 25, 1, 2, 3, 4, 5, 6, 7, 8, 9, 10, 11, 12, 13, 14, 15, 16, 17, 18] (by decide) rfl
  refine lm_vv (b := ad 0) (As := [.int r10, .int r23]) (rest := []) (wr := ([] : va_W)) ⟨hx, hb, hml, hown, hts⟩ hK hP hD hS hA [0, 1, 2, 3, 4, 5, 6, 7, 8, 9, 10, 11, 12, 13, 14, 15, 16, 17, 18, 19, 20, 21, 22, 23, 24, 25] [] rfl rfl (by decide) (by decide) (by decide) (c_LazyMachine_enter l dC dI cA ad _ ((ss, sp, fo, ba, no, en, vs, vf, vg), u23, PM, XM, YM) r10 r23 ) (cwV 2 hts (lm_gV m_4_9 m_4_10 m_19_6 m_0_1 m_4_11) rfl rfl rfl (by decide +kernel) ⟨Nat.le_of_ble_eq_true rfl, Nat.le_of_ble_eq_true rfl⟩) (va_recv (q0 := 0) hK hP rfl rfl) lm_bl_no (fun _ _ _ => trivial) hl.1 rfl rfl (Nat.le_of_ble_eq_true rfl) d_LazyMachine_enterFunction_26 ⟨Nat.le_of_ble_eq_true rfl, Nat.le_of_ble_eq_true rfl⟩ (fun u26 H locs w26 hP hD hS => ?_)
  have w26 : u26 = ((ss, sp, fo, 0, r10, r23, vs, vf, vg), u23, PM, XM, YM) := w26
  subst w26
  have hP : va_P (dC, dI) classes (lz_W cA ad ((ss, sp, fo, 0, r10, r23, vs, vf, vg), u23, PM, XM, YM)) H := hP
  have hD : va_D A (lz_W cA ad ((ss, sp, fo, 0, r10, r23, vs, vf, vg), u23, PM, XM, YM)) := hD
  refine lm_rv hx hb hr hlocks ((ss, sp, fo, 0, r10, r23, vs, vf, vg), u23, PM, XM, YM) ?_ hP hK hD hS d_LazyMachine_enterFunction_29
  subst e_r10 e_r23 w23; unfold ma_fun ma_link; rfl
set_option maxHeartbeats 4000000 in
set_option maxRecDepth 100000 in
theorem c_LazyMachine_stepArgument (l : Launch) (dC : Nat → ClassId) (dI : Nat → Nat → Nat) (cA : ClassId)  (ad : Nat → Nat) (sz : Nat) (M : ZMS) (x : Int32) (hi : ma_lo M) (hv : l_vs M = 1 → vp_in (l_vf M) 200) : Met l y_LazyMachine_stepArgument w_LazyMachine_stepArgument ({ frames := 4, cells := 0, slots := 0, locals := 87 } : Room) (va_Pc [.ref (ad 0), .int x] (lm_pre (dC, dI) classes [(cA, .int)] (lz_W cA ad M) sz lm_no)) (va_Qi (fun (r : Int32) (u : ZMS) => r = (ma_arg M x).1 ∧ u = (ma_arg M x).2) (fun u => lm_at (dC, dI) classes [(cA, .int)] (va_A (lz_W cA ad M) sz) (lz_W cA ad u)) (va_A (lz_W cA ad M) sz)) 0 0 (va_A (lz_W cA ad M) sz) := by
  obtain ⟨⟨ss, sp, fo, ba, no, en, vs, vf, vg⟩, SM, PM, XM, YM⟩ := M
  refine lm_met (fun A => va_Qi (fun (r : Int32) (u : ZMS) => r = (ma_arg ((ss, sp, fo, ba, no, en, vs, vf, vg), SM, PM, XM, YM) x).1 ∧ u = (ma_arg ((ss, sp, fo, ba, no, en, vs, vf, vg), SM, PM, XM, YM) x).2) (fun u => lm_at (dC, dI) classes [(cA, .int)] A (lz_W cA ad u)) A) (by decide) rfl (Nat.le_of_ble_eq_true rfl) ?_
  intro p e s m below meth c A hx hb hr hts hown hlocks hname hml hK hP hD hA hE hsz hAe hS ls hl
  replace hl : lv_has ls 2 [(0, .ref (ad 0)), (1, .int x)] := hl
  clear hAe hsz
  refine lv_aload_n hx hb d_LazyMachine_stepArgument_0 rfl (lv_at hl 0 rfl) ?_
  refine va_get (D := (dC, dI)) (ci := 0) (v := .int vs) (C := R_LazyMachine) (T := F_LazyMachine) (N := 13) hx hb hts (fun q hq => List.mem_cons_of_mem _ (i_LazyMachine q hq)) hown hK hP 0 rfl rfl 10 (by decide) (hts _ (List.mem_cons_of_mem _ m_2_17)) (fun _ h9 => h9) rfl d_LazyMachine_stepArgument_1 ?_
  refine lv_iconst (v := 1) hx hb d_LazyMachine_stepArgument_4 (by decide) ?_
  refine lv_icmp_eq hx hb d_LazyMachine_stepArgument_5 rfl (fun h5 => ?_) (fun h5 => ?_)
  · refine lv_aload_n hx hb d_LazyMachine_stepArgument_10 rfl (lv_at hl 0 rfl) ?_
    refine lv_iconst (v := 1) hx hb d_LazyMachine_stepArgument_11 (by decide) ?_
    refine lm_vi (b := ad 0) (As := [.int 1]) (rest := []) (wr := ([] : va_W)) ⟨hx, hb, hml, hown, hts⟩ hK hP hD hS hA [0, 1, 2, 3, 4, 5, 6, 7, 8, 9, 10, 11, 12, 13, 14, 15, 16, 17, 18, 19, 20, 21, 22, 23, 24, 25] [] rfl rfl (by decide) (by decide) (by decide) (c_LazyMachine_hasRoomFor l dC dI cA ad _ ((ss, sp, fo, ba, no, en, vs, vf, vg), SM, PM, XM, YM) 1 (by exact hi)) (cwV 1 hts (lm_gV m_8_7 m_8_8 m_19_10 m_0_1 m_8_9) rfl rfl rfl (by decide +kernel) ⟨Nat.le_of_ble_eq_true rfl, Nat.le_of_ble_eq_true rfl⟩) (va_recv (q0 := 0) hK hP rfl rfl) lm_bl_no (fun _ _ _ => trivial) hl.1 rfl rfl (Nat.le_of_ble_eq_true rfl) d_LazyMachine_stepArgument_12 ⟨Nat.le_of_ble_eq_true rfl, Nat.le_of_ble_eq_true rfl⟩ (fun r12 u12 H locs w12 hP hD hS => ?_)
    obtain ⟨e_r12, w12⟩ := w12
    have hP : va_P (dC, dI) classes (lz_W cA ad u12) H := hP
    have hD : va_D A (lz_W cA ad u12) := hD
    refine lv_if_ne hx hb d_LazyMachine_stepArgument_15 rfl (fun h15 => ?_) (fun h15 => ?_)
    · refine lv_aload_n hx hb d_LazyMachine_stepArgument_21 rfl (lv_at hl 0 rfl) ?_
      refine va_get (D := (dC, dI)) (ci := 0) (v := .ref (ad 8)) (C := R_LazyMachine) (T := F_LazyMachine) (N := 13) hx hb hts (fun q hq => List.mem_cons_of_mem _ (i_LazyMachine q hq)) hown hK hP 0 rfl rfl 1 (by decide) (hts _ (List.mem_cons_of_mem _ m_2_8)) (fun _ h9 => h9) rfl d_LazyMachine_stepArgument_22 ?_
      refine lm_vv (b := ad 8) (As := []) (rest := []) (wr := (ma_W cA ad u12.1) ++ (hp_W cA (fun k => ad (k + 1)) u12.2.1) ++ (tm_W cA (fun k => ad (k + 12)) u12.2.2.2.1) ++ (tm_W cA (fun k => ad (k + 19)) u12.2.2.2.2)) ⟨hx, hb, hml, hown, hts⟩ hK hP hD hS hA [8, 9, 10, 11] [0, 1, 2, 3, 4, 5, 6, 7, 12, 13, 14, 15, 16, 17, 18, 19, 20, 21, 22, 23, 24, 25] rfl rfl (by decide) (by decide) (by decide) (c_Pile_drop l dC dI cA (fun k => ad (k + 8)) _ u12.2.2.1  ) (cwV 0 hts (lm_gV m_7_20 m_7_21 m_7_22 m_0_3 m_7_23) rfl rfl rfl (by decide +kernel) ⟨Nat.le_of_ble_eq_true rfl, Nat.le_of_ble_eq_true rfl⟩) (va_recv (q0 := 8) hK hP rfl rfl) lm_bl_no (fun _ _ _ => trivial) hl.1 rfl rfl (Nat.le_of_ble_eq_true rfl) d_LazyMachine_stepArgument_25 ⟨Nat.le_of_ble_eq_true rfl, Nat.le_of_ble_eq_true rfl⟩ (fun u25 H locs w25 hP hD hS => ?_)
      have hP : va_P (dC, dI) classes (lz_W cA ad (u12.1, u12.2.1, u25, u12.2.2.2.1, u12.2.2.2.2)) H := hP.sub [0, 1, 2, 3, 4, 5, 6, 7, 22, 23, 24, 25, 8, 9, 10, 11, 12, 13, 14, 15, 16, 17, 18, 19, 20, 21] rfl
      have hD : va_D A (lz_W cA ad (u12.1, u12.2.1, u25, u12.2.2.2.1, u12.2.2.2.2)) := hD.sub [0, 1, 2, 3, 4, 5, 6, 7, 22, 23, 24, 25, 8, 9, 10, 11, 12, 13, 14, 15, 16, 17, 18, 19, 20, 21] (by decide) rfl
      refine lv_aload_n hx hb d_LazyMachine_stepArgument_28 rfl (lv_at hl 0 rfl) ?_
      refine lv_iload_n hx hb d_LazyMachine_stepArgument_29 rfl (lv_at hl 1 rfl) ?_
      refine lm_vv (b := ad 0) (As := [.int x]) (rest := []) (wr := ([] : va_W)) ⟨hx, hb, hml, hown, hts⟩ hK hP hD hS hA [0, 1, 2, 3, 4, 5, 6, 7, 8, 9, 10, 11, 12, 13, 14, 15, 16, 17, 18, 19, 20, 21, 22, 23, 24, 25] [] rfl rfl (by decide) (by decide) (by decide) (c_LazyMachine_enterFunction l dC dI cA ad _ (u12.1, u12.2.1, u25, u12.2.2.2.1, u12.2.2.2.2) x (by show vp_in (l_vf u12) 200; rw [w12, ma_room_vf]; exact hv h5) (by show hp_fok (m_H u12); rw [w12]; exact (ma_lo_room hi).2.1)) (cwV 1 hts (lm_gV m_8_15 m_8_16 m_19_11 m_0_1 m_8_17) rfl rfl rfl (by decide +kernel) ⟨Nat.le_of_ble_eq_true rfl, Nat.le_of_ble_eq_true rfl⟩) (va_recv (q0 := 0) hK hP rfl rfl) lm_bl_no (fun _ _ _ => trivial) hl.1 rfl rfl (Nat.le_of_ble_eq_true rfl) d_LazyMachine_stepArgument_30 ⟨Nat.le_of_ble_eq_true rfl, Nat.le_of_ble_eq_true rfl⟩ (fun u30 H locs w30 hP hD hS => ?_)
      have hP : va_P (dC, dI) classes (lz_W cA ad u30) H := hP
      have hD : va_D A (lz_W cA ad u30) := hD
      refine lv_iconst (v := 1) hx hb d_LazyMachine_stepArgument_33 (by decide) ?_
      refine lm_ri (v := 1) hx hb hr hlocks u30 ?_ hP hK hD hS d_LazyMachine_stepArgument_34
      subst e_r12 w12 w25 w30; unfold ma_arg; (first | rw [if_pos h5] | rw [if_neg h5]); (first | rw [if_pos h15] | rw [if_neg h15]); exact ⟨rfl, rfl⟩
    · refine lv_bipush (v := 6) hx hb d_LazyMachine_stepArgument_18 (by decide) ?_
      refine lm_ri (v := 6) hx hb hr hlocks u12 ?_ hP hK hD hS d_LazyMachine_stepArgument_20
      subst e_r12 w12; unfold ma_arg; (first | rw [if_pos h5] | rw [if_neg h5]); (first | rw [if_pos h15] | rw [if_neg h15]); exact ⟨rfl, rfl⟩
  · refine lv_iconst (v := 3) hx hb d_LazyMachine_stepArgument_8 (by decide) ?_
    refine lm_ri (v := 3) hx hb hr hlocks ((ss, sp, fo, ba, no, en, vs, vf, vg), SM, PM, XM, YM) ?_ hP hK hD hS d_LazyMachine_stepArgument_9
    unfold ma_arg; (first | rw [if_pos h5] | rw [if_neg h5]); exact ⟨rfl, rfl⟩
set_option maxHeartbeats 4000000 in
set_option maxRecDepth 100000 in
theorem c_LazyMachine_stepLeft (l : Launch) (dC : Nat → ClassId) (dI : Nat → Nat → Nat) (cA : ClassId)  (ad : Nat → Nat) (sz : Nat) (M : ZMS) (x1 x2 : Int32) (hz : pl_ok (m_P M)) (hx1 : vp_in x1 200) : Met l y_LazyMachine_stepLeft w_LazyMachine_stepLeft ({ frames := 2, cells := 0, slots := 0, locals := 43 } : Room) (va_Pc [.ref (ad 0), .int x1, .int x2] (lm_pre (dC, dI) classes [(cA, .int)] (lz_W cA ad M) sz lm_no)) (va_Qi (fun (r : Int32) (u : ZMS) => r = (ma_left M x1 x2).1 ∧ u = (ma_left M x1 x2).2) (fun u => lm_at (dC, dI) classes [(cA, .int)] (va_A (lz_W cA ad M) sz) (lz_W cA ad u)) (va_A (lz_W cA ad M) sz)) 0 0 (va_A (lz_W cA ad M) sz) := by
  obtain ⟨⟨ss, sp, fo, ba, no, en, vs, vf, vg⟩, SM, PM, XM, YM⟩ := M
  refine lm_met (fun A => va_Qi (fun (r : Int32) (u : ZMS) => r = (ma_left ((ss, sp, fo, ba, no, en, vs, vf, vg), SM, PM, XM, YM) x1 x2).1 ∧ u = (ma_left ((ss, sp, fo, ba, no, en, vs, vf, vg), SM, PM, XM, YM) x1 x2).2) (fun u => lm_at (dC, dI) classes [(cA, .int)] A (lz_W cA ad u)) A) (by decide) rfl (Nat.le_of_ble_eq_true rfl) ?_
  intro p e s m below meth c A hx hb hr hts hown hlocks hname hml hK hP hD hA hE hsz hAe hS ls hl
  replace hl : lv_has ls 3 [(0, .ref (ad 0)), (1, .int x1), (2, .int x2)] := hl
  clear hAe hsz
  refine lv_aload_n hx hb d_LazyMachine_stepLeft_0 rfl (lv_at hl 0 rfl) ?_
  refine va_get (D := (dC, dI)) (ci := 0) (v := .int vs) (C := R_LazyMachine) (T := F_LazyMachine) (N := 13) hx hb hts (fun q hq => List.mem_cons_of_mem _ (i_LazyMachine q hq)) hown hK hP 0 rfl rfl 10 (by decide) (hts _ (List.mem_cons_of_mem _ m_2_17)) (fun _ h9 => h9) rfl d_LazyMachine_stepLeft_1 ?_
  refine lv_if_eq hx hb d_LazyMachine_stepLeft_4 rfl (fun h4 => ?_) (fun h4 => ?_)
  · refine lv_aload_n hx hb d_LazyMachine_stepLeft_9 rfl (lv_at hl 0 rfl) ?_
    refine va_get (D := (dC, dI)) (ci := 0) (v := .ref (ad 8)) (C := R_LazyMachine) (T := F_LazyMachine) (N := 13) hx hb hts (fun q hq => List.mem_cons_of_mem _ (i_LazyMachine q hq)) hown hK hP 0 rfl rfl 1 (by decide) (hts _ (List.mem_cons_of_mem _ m_2_8)) (fun _ h9 => h9) rfl d_LazyMachine_stepLeft_10 ?_
    refine lm_vv (b := ad 8) (As := []) (rest := []) (wr := (ma_W cA ad (ss, sp, fo, ba, no, en, vs, vf, vg)) ++ (hp_W cA (fun k => ad (k + 1)) SM) ++ (tm_W cA (fun k => ad (k + 12)) XM) ++ (tm_W cA (fun k => ad (k + 19)) YM)) ⟨hx, hb, hml, hown, hts⟩ hK hP hD hS hA [8, 9, 10, 11] [0, 1, 2, 3, 4, 5, 6, 7, 12, 13, 14, 15, 16, 17, 18, 19, 20, 21, 22, 23, 24, 25] rfl rfl (by decide) (by decide) (by decide) (c_Pile_drop l dC dI cA (fun k => ad (k + 8)) _ PM  ) (cwV 0 hts (lm_gV m_7_20 m_7_21 m_7_22 m_0_3 m_7_23) rfl rfl rfl (by decide +kernel) ⟨Nat.le_of_ble_eq_true rfl, Nat.le_of_ble_eq_true rfl⟩) (va_recv (q0 := 8) hK hP rfl rfl) lm_bl_no (fun _ _ _ => trivial) hl.1 rfl rfl (Nat.le_of_ble_eq_true rfl) d_LazyMachine_stepLeft_13 ⟨Nat.le_of_ble_eq_true rfl, Nat.le_of_ble_eq_true rfl⟩ (fun u13 H locs w13 hP hD hS => ?_)
    have hP : va_P (dC, dI) classes (lz_W cA ad ((ss, sp, fo, ba, no, en, vs, vf, vg), SM, u13, XM, YM)) H := hP.sub [0, 1, 2, 3, 4, 5, 6, 7, 22, 23, 24, 25, 8, 9, 10, 11, 12, 13, 14, 15, 16, 17, 18, 19, 20, 21] rfl
    have hD : va_D A (lz_W cA ad ((ss, sp, fo, ba, no, en, vs, vf, vg), SM, u13, XM, YM)) := hD.sub [0, 1, 2, 3, 4, 5, 6, 7, 22, 23, 24, 25, 8, 9, 10, 11, 12, 13, 14, 15, 16, 17, 18, 19, 20, 21] (by decide) rfl
    refine lv_aload_n hx hb d_LazyMachine_stepLeft_16 rfl (lv_at hl 0 rfl) ?_
    refine va_get (D := (dC, dI)) (ci := 0) (v := .ref (ad 8)) (C := R_LazyMachine) (T := F_LazyMachine) (N := 13) hx hb hts (fun q hq => List.mem_cons_of_mem _ (i_LazyMachine q hq)) hown hK hP 0 rfl rfl 1 (by decide) (hts _ (List.mem_cons_of_mem _ m_2_8)) (fun _ h9 => h9) rfl d_LazyMachine_stepLeft_17 ?_
    refine lv_iconst (v := 3) hx hb d_LazyMachine_stepLeft_20 (by decide) ?_
    refine lv_iload_n hx hb d_LazyMachine_stepLeft_21 rfl (lv_at hl 1 rfl) ?_
    refine lv_aload_n hx hb d_LazyMachine_stepLeft_22 rfl (lv_at hl 0 rfl) ?_
    refine va_get (D := (dC, dI)) (ci := 0) (v := .int vf) (C := R_LazyMachine) (T := F_LazyMachine) (N := 13) hx hb hts (fun q hq => List.mem_cons_of_mem _ (i_LazyMachine q hq)) hown hK hP 0 rfl rfl 11 (by decide) (hts _ (List.mem_cons_of_mem _ m_2_18)) (fun _ h9 => h9) rfl d_LazyMachine_stepLeft_23 ?_
    refine lm_vv (b := ad 8) (As := [.int 3, .int x1, .int vf]) (rest := []) (wr := (ma_W cA ad (ss, sp, fo, ba, no, en, vs, vf, vg)) ++ (hp_W cA (fun k => ad (k + 1)) SM) ++ (tm_W cA (fun k => ad (k + 12)) XM) ++ (tm_W cA (fun k => ad (k + 19)) YM)) ⟨hx, hb, hml, hown, hts⟩ hK hP hD hS hA [8, 9, 10, 11] [0, 1, 2, 3, 4, 5, 6, 7, 12, 13, 14, 15, 16, 17, 18, 19, 20, 21, 22, 23, 24, 25] rfl rfl (by decide) (by decide) (by decide) (c_Pile_add l dC dI cA (fun k => ad (k + 8)) _ u13 3 x1 vf (by rw [w13]; exact pl_ok_drop hz)) (cwV 3 hts (lm_gV m_9_10 m_9_11 m_9_12 m_0_3 m_9_13) rfl rfl rfl (by decide +kernel) ⟨Nat.le_of_ble_eq_true rfl, Nat.le_of_ble_eq_true rfl⟩) (va_recv (q0 := 8) hK hP rfl rfl) lm_bl_no (fun _ _ _ => trivial) hl.1 rfl rfl (Nat.le_of_ble_eq_true rfl) d_LazyMachine_stepLeft_26 ⟨Nat.le_of_ble_eq_true rfl, Nat.le_of_ble_eq_true rfl⟩ (fun u26 H locs w26 hP hD hS => ?_)
    have hP : va_P (dC, dI) classes (lz_W cA ad ((ss, sp, fo, ba, no, en, vs, vf, vg), SM, u26, XM, YM)) H := hP.sub [0, 1, 2, 3, 4, 5, 6, 7, 22, 23, 24, 25, 8, 9, 10, 11, 12, 13, 14, 15, 16, 17, 18, 19, 20, 21] rfl
    have hD : va_D A (lz_W cA ad ((ss, sp, fo, ba, no, en, vs, vf, vg), SM, u26, XM, YM)) := hD.sub [0, 1, 2, 3, 4, 5, 6, 7, 22, 23, 24, 25, 8, 9, 10, 11, 12, 13, 14, 15, 16, 17, 18, 19, 20, 21] (by decide) rfl
    refine lv_aload_n hx hb d_LazyMachine_stepLeft_29 rfl (lv_at hl 0 rfl) ?_
    refine lv_aload_n hx hb d_LazyMachine_stepLeft_30 rfl (lv_at hl 0 rfl) ?_
    refine va_get (D := (dC, dI)) (ci := 0) (v := .ref (ad 19)) (C := R_LazyMachine) (T := F_LazyMachine) (N := 13) hx hb hts (fun q hq => List.mem_cons_of_mem _ (i_LazyMachine q hq)) hown hK hP 0 rfl rfl 3 (by decide) (hts _ (List.mem_cons_of_mem _ m_2_10)) (fun _ h9 => h9) rfl d_LazyMachine_stepLeft_31 ?_
    refine lv_iload_n hx hb d_LazyMachine_stepLeft_34 rfl (lv_at hl 1 rfl) ?_
    refine lv_iconst (v := 1) hx hb d_LazyMachine_stepLeft_35 (by decide) ?_
    refine lm_vi (b := ad 19) (As := [.int x1, .int 1]) (rest := [.ref (ad 0)]) (wr := (ma_W cA ad (ss, sp, fo, ba, no, en, vs, vf, vg)) ++ (hp_W cA (fun k => ad (k + 1)) SM) ++ (pl_W cA (fun k => ad (k + 8)) u26) ++ (tm_W cA (fun k => ad (k + 12)) XM)) ⟨hx, hb, hml, hown, hts⟩ hK hP hD hS hA [19, 20, 21, 22, 23, 24, 25] [0, 1, 2, 3, 4, 5, 6, 7, 8, 9, 10, 11, 12, 13, 14, 15, 16, 17, 18] rfl rfl (by decide) (by decide) (by decide) (c_Term_part l dC dI cA (fun k => ad (k + 19)) _ YM x1 1 (by exact nd_ix hx1 (w := 1) (by decide))) (cwV 2 hts (lm_gV m_8_18 m_8_19 m_8_20 m_0_4 m_8_21) rfl rfl rfl (by decide +kernel) ⟨Nat.le_of_ble_eq_true rfl, Nat.le_of_ble_eq_true rfl⟩) (va_recv (q0 := 19) hK hP rfl rfl) lm_bl_no (fun _ _ _ => trivial) hl.1 rfl rfl (Nat.le_of_ble_eq_true rfl) d_LazyMachine_stepLeft_36 ⟨Nat.le_of_ble_eq_true rfl, Nat.le_of_ble_eq_true rfl⟩ (fun r36 u36 H locs w36 hP hD hS => ?_)
    obtain ⟨e_r36, w36⟩ := w36
    replace w36 := w36.symm
    subst w36
    have hP : va_P (dC, dI) classes (lz_W cA ad ((ss, sp, fo, ba, no, en, vs, vf, vg), SM, u26, XM, YM)) H := hP
    have hD : va_D A (lz_W cA ad ((ss, sp, fo, ba, no, en, vs, vf, vg), SM, u26, XM, YM)) := hD
    refine lv_iload_n hx hb d_LazyMachine_stepLeft_39 rfl (lv_at hl 2 rfl) ?_
    refine lm_vv (b := ad 0) (As := [.int r36, .int x2]) (rest := []) (wr := ([] : va_W)) ⟨hx, hb, hml, hown, hts⟩ hK hP hD hS hA [0, 1, 2, 3, 4, 5, 6, 7, 8, 9, 10, 11, 12, 13, 14, 15, 16, 17, 18, 19, 20, 21, 22, 23, 24, 25] [] rfl rfl (by decide) (by decide) (by decide) (c_LazyMachine_enter l dC dI cA ad _ ((ss, sp, fo, ba, no, en, vs, vf, vg), SM, u26, XM, YM) r36 x2 ) (cwV 2 hts (lm_gV m_4_9 m_4_10 m_19_6 m_0_1 m_4_11) rfl rfl rfl (by decide +kernel) ⟨Nat.le_of_ble_eq_true rfl, Nat.le_of_ble_eq_true rfl⟩) (va_recv (q0 := 0) hK hP rfl rfl) lm_bl_no (fun _ _ _ => trivial) hl.1 rfl rfl (Nat.le_of_ble_eq_true rfl) d_LazyMachine_stepLeft_40 ⟨Nat.le_of_ble_eq_true rfl, Nat.le_of_ble_eq_true rfl⟩ (fun u40 H locs w40 hP hD hS => ?_)
    have w40 : u40 = ((ss, sp, fo, 0, r36, x2, vs, vf, vg), SM, u26, XM, YM) := w40
    subst w40
    have hP : va_P (dC, dI) classes (lz_W cA ad ((ss, sp, fo, 0, r36, x2, vs, vf, vg), SM, u26, XM, YM)) H := hP
    have hD : va_D A (lz_W cA ad ((ss, sp, fo, 0, r36, x2, vs, vf, vg), SM, u26, XM, YM)) := hD
    refine lv_iconst (v := 1) hx hb d_LazyMachine_stepLeft_43 (by decide) ?_
    refine lm_ri (v := 1) hx hb hr hlocks ((ss, sp, fo, 0, r36, x2, vs, vf, vg), SM, u26, XM, YM) ?_ hP hK hD hS d_LazyMachine_stepLeft_44
    subst w13 w26 e_r36; unfold ma_left; (first | rw [if_pos h4] | rw [if_neg h4]); exact ⟨rfl, rfl⟩
  · refine lv_iconst (v := 3) hx hb d_LazyMachine_stepLeft_7 (by decide) ?_
    refine lm_ri (v := 3) hx hb hr hlocks ((ss, sp, fo, ba, no, en, vs, vf, vg), SM, PM, XM, YM) ?_ hP hK hD hS d_LazyMachine_stepLeft_8
    unfold ma_left; (first | rw [if_pos h4] | rw [if_neg h4]); exact ⟨rfl, rfl⟩
set_option maxHeartbeats 4000000 in
set_option maxRecDepth 100000 in
theorem c_LazyMachine_reckon (l : Launch) (dC : Nat → ClassId) (dI : Nat → Nat → Nat) (cA : ClassId)   (sz : Nat)  (y1 y2 y3 : Int32)  : Met l y_LazyMachine_reckon w_LazyMachine_reckon ({ frames := 0, cells := 0, slots := 0, locals := 0 } : Room) (va_Pc [.int y1, .int y2, .int y3] (lm_pre (dC, dI) classes [(cA, .int)] (([] : va_W)) sz lm_no)) (va_Qi (fun (r : Int32) (u : Unit) => r = ma_reckon y1 y2 y3 ∧ u = ()) (fun u => lm_at (dC, dI) classes [(cA, .int)] (va_A (([] : va_W)) sz) (([] : va_W))) (va_A (([] : va_W)) sz)) 0 0 (va_A (([] : va_W)) sz) := by
  refine lm_met (fun A => va_Qi (fun (r : Int32) (u : Unit) => r = ma_reckon y1 y2 y3 ∧ u = ()) (fun u => lm_at (dC, dI) classes [(cA, .int)] A (([] : va_W))) A) (by decide) rfl (Nat.le_of_ble_eq_true rfl) ?_
  intro p e s m below meth c A hx hb hr hts hown hlocks hname hml hK hP hD hA hE hsz hAe hS ls hl
  replace hl : lv_has ls 3 [(0, .int y1), (1, .int y2), (2, .int y3)] := hl
  clear hAe hsz
  refine lv_iload_n hx hb d_LazyMachine_reckon_0 rfl (lv_at hl 0 rfl) ?_
  by_cases h1_4 : y1 = 4
  · refine lv_tableIn (tgt := 28) hx hb d_LazyMachine_reckon_1 (by rw [h1_4]; decide) (by rw [h1_4]; decide) (by rw [h1_4]; rfl) rfl ?_
    refine lv_iload_n hx hb d_LazyMachine_reckon_28 rfl (lv_at hl 1 rfl) ?_
    refine lv_iload_n hx hb d_LazyMachine_reckon_29 rfl (lv_at hl 2 rfl) ?_
    refine lv_iadd hx hb d_LazyMachine_reckon_30 ?_
    refine lm_ri (v := (y2 + y3)) hx hb hr hlocks () ?_ hP hK hD hS d_LazyMachine_reckon_31
    unfold ma_reckon; (first | rw [if_pos h1_4] | rw [if_neg h1_4]); exact ⟨rfl, rfl⟩
  by_cases h1_5 : y1 = 5
  · refine lv_tableIn (tgt := 32) hx hb d_LazyMachine_reckon_1 (by rw [h1_5]; decide) (by rw [h1_5]; decide) (by rw [h1_5]; rfl) rfl ?_
    refine lv_iload_n hx hb d_LazyMachine_reckon_32 rfl (lv_at hl 1 rfl) ?_
    refine lv_iload_n hx hb d_LazyMachine_reckon_33 rfl (lv_at hl 2 rfl) ?_
    refine lv_isub hx hb d_LazyMachine_reckon_34 ?_
    refine lm_ri (v := (y2 - y3)) hx hb hr hlocks () ?_ hP hK hD hS d_LazyMachine_reckon_35
    unfold ma_reckon; (first | rw [if_pos h1_4] | rw [if_neg h1_4]); (first | rw [if_pos h1_5] | rw [if_neg h1_5]); exact ⟨rfl, rfl⟩
  by_cases h1_6 : y1 = 6
  · refine lv_tableIn (tgt := 36) hx hb d_LazyMachine_reckon_1 (by rw [h1_6]; decide) (by rw [h1_6]; decide) (by rw [h1_6]; rfl) rfl ?_
    refine lv_iload_n hx hb d_LazyMachine_reckon_36 rfl (lv_at hl 1 rfl) ?_
    refine lv_iload_n hx hb d_LazyMachine_reckon_37 rfl (lv_at hl 2 rfl) ?_
    refine lv_imul hx hb d_LazyMachine_reckon_38 ?_
    refine lm_ri (v := (y2 * y3)) hx hb hr hlocks () ?_ hP hK hD hS d_LazyMachine_reckon_39
    unfold ma_reckon; (first | rw [if_pos h1_4] | rw [if_neg h1_4]); (first | rw [if_pos h1_5] | rw [if_neg h1_5]); (first | rw [if_pos h1_6] | rw [if_neg h1_6]); exact ⟨rfl, rfl⟩
  have qh1_4 := lv_neT (a := 4) h1_4 (by decide)
  have qh1_5 := lv_neT (a := 5) h1_5 (by decide)
  have qh1_6 := lv_neT (a := 6) h1_6 (by decide)
  refine lv_tableOut (tgt := 40) hx hb d_LazyMachine_reckon_1 (by omega) rfl ?_
  refine lv_iload_n hx hb d_LazyMachine_reckon_40 rfl (lv_at hl 1 rfl) ?_
  refine lv_iload_n hx hb d_LazyMachine_reckon_41 rfl (lv_at hl 2 rfl) ?_
  refine lv_icmp_ge hx hb d_LazyMachine_reckon_42 rfl (fun h42 => ?_) (fun h42 => ?_)
  · refine lv_iconst (v := 0) hx hb d_LazyMachine_reckon_49 (by decide) ?_
    refine lm_ri (v := 0) hx hb hr hlocks () ?_ hP hK hD hS d_LazyMachine_reckon_50
    unfold ma_reckon; (first | rw [if_pos h1_4] | rw [if_neg h1_4]); (first | rw [if_pos h1_5] | rw [if_neg h1_5]); (first | rw [if_pos h1_6] | rw [if_neg h1_6]); (first | rw [if_pos h42] | rw [if_neg h42]); exact ⟨rfl, rfl⟩
  · refine lv_iconst (v := 1) hx hb d_LazyMachine_reckon_45 (by decide) ?_
    refine lv_goto hx hb d_LazyMachine_reckon_46 rfl ?_
    refine lm_ri (v := 1) hx hb hr hlocks () ?_ hP hK hD hS d_LazyMachine_reckon_50
    unfold ma_reckon; (first | rw [if_pos h1_4] | rw [if_neg h1_4]); (first | rw [if_pos h1_5] | rw [if_neg h1_5]); (first | rw [if_pos h1_6] | rw [if_neg h1_6]); (first | rw [if_pos h42] | rw [if_neg h42]); exact ⟨rfl, rfl⟩
set_option maxHeartbeats 4000000 in
set_option maxRecDepth 100000 in
theorem c_LazyMachine_stepRight (l : Launch) (dC : Nat → ClassId) (dI : Nat → Nat → Nat) (cA : ClassId)  (ad : Nat → Nat) (sz : Nat) (M : ZMS) (x1 x2 : Int32) (hx1 : vp_in x1 200) : Met l y_LazyMachine_stepRight w_LazyMachine_stepRight ({ frames := 1, cells := 0, slots := 0, locals := 23 } : Room) (va_Pc [.ref (ad 0), .int x1, .int x2] (lm_pre (dC, dI) classes [(cA, .int)] (lz_W cA ad M) sz lm_no)) (va_Qi (fun (r : Int32) (u : ZMS) => r = (ma_right M x1 x2).1 ∧ u = (ma_right M x1 x2).2) (fun u => lm_at (dC, dI) classes [(cA, .int)] (va_A (lz_W cA ad M) sz) (lz_W cA ad u)) (va_A (lz_W cA ad M) sz)) 0 0 (va_A (lz_W cA ad M) sz) := by
  obtain ⟨⟨ss, sp, fo, ba, no, en, vs, vf, vg⟩, SM, PM, XM, YM⟩ := M
  refine lm_met (fun A => va_Qi (fun (r : Int32) (u : ZMS) => r = (ma_right ((ss, sp, fo, ba, no, en, vs, vf, vg), SM, PM, XM, YM) x1 x2).1 ∧ u = (ma_right ((ss, sp, fo, ba, no, en, vs, vf, vg), SM, PM, XM, YM) x1 x2).2) (fun u => lm_at (dC, dI) classes [(cA, .int)] A (lz_W cA ad u)) A) (by decide) rfl (Nat.le_of_ble_eq_true rfl) ?_
  intro p e s m below meth c A hx hb hr hts hown hlocks hname hml hK hP hD hA hE hsz hAe hS ls hl
  replace hl : lv_has ls 3 [(0, .ref (ad 0)), (1, .int x1), (2, .int x2)] := hl
  clear hAe hsz
  refine lv_aload_n hx hb d_LazyMachine_stepRight_0 rfl (lv_at hl 0 rfl) ?_
  refine va_get (D := (dC, dI)) (ci := 0) (v := .int vs) (C := R_LazyMachine) (T := F_LazyMachine) (N := 13) hx hb hts (fun q hq => List.mem_cons_of_mem _ (i_LazyMachine q hq)) hown hK hP 0 rfl rfl 10 (by decide) (hts _ (List.mem_cons_of_mem _ m_2_17)) (fun _ h9 => h9) rfl d_LazyMachine_stepRight_1 ?_
  refine lv_if_eq hx hb d_LazyMachine_stepRight_4 rfl (fun h4 => ?_) (fun h4 => ?_)
  · refine lv_aload_n hx hb d_LazyMachine_stepRight_9 rfl (lv_at hl 0 rfl) ?_
    refine va_get (D := (dC, dI)) (ci := 0) (v := .ref (ad 8)) (C := R_LazyMachine) (T := F_LazyMachine) (N := 13) hx hb hts (fun q hq => List.mem_cons_of_mem _ (i_LazyMachine q hq)) hown hK hP 0 rfl rfl 1 (by decide) (hts _ (List.mem_cons_of_mem _ m_2_8)) (fun _ h9 => h9) rfl d_LazyMachine_stepRight_10 ?_
    refine lm_vv (b := ad 8) (As := []) (rest := []) (wr := (ma_W cA ad (ss, sp, fo, ba, no, en, vs, vf, vg)) ++ (hp_W cA (fun k => ad (k + 1)) SM) ++ (tm_W cA (fun k => ad (k + 12)) XM) ++ (tm_W cA (fun k => ad (k + 19)) YM)) ⟨hx, hb, hml, hown, hts⟩ hK hP hD hS hA [8, 9, 10, 11] [0, 1, 2, 3, 4, 5, 6, 7, 12, 13, 14, 15, 16, 17, 18, 19, 20, 21, 22, 23, 24, 25] rfl rfl (by decide) (by decide) (by decide) (c_Pile_drop l dC dI cA (fun k => ad (k + 8)) _ PM  ) (cwV 0 hts (lm_gV m_7_20 m_7_21 m_7_22 m_0_3 m_7_23) rfl rfl rfl (by decide +kernel) ⟨Nat.le_of_ble_eq_true rfl, Nat.le_of_ble_eq_true rfl⟩) (va_recv (q0 := 8) hK hP rfl rfl) lm_bl_no (fun _ _ _ => trivial) hl.1 rfl rfl (Nat.le_of_ble_eq_true rfl) d_LazyMachine_stepRight_13 ⟨Nat.le_of_ble_eq_true rfl, Nat.le_of_ble_eq_true rfl⟩ (fun u13 H locs w13 hP hD hS => ?_)
    have hP : va_P (dC, dI) classes (lz_W cA ad ((ss, sp, fo, ba, no, en, vs, vf, vg), SM, u13, XM, YM)) H := hP.sub [0, 1, 2, 3, 4, 5, 6, 7, 22, 23, 24, 25, 8, 9, 10, 11, 12, 13, 14, 15, 16, 17, 18, 19, 20, 21] rfl
    have hD : va_D A (lz_W cA ad ((ss, sp, fo, ba, no, en, vs, vf, vg), SM, u13, XM, YM)) := hD.sub [0, 1, 2, 3, 4, 5, 6, 7, 22, 23, 24, 25, 8, 9, 10, 11, 12, 13, 14, 15, 16, 17, 18, 19, 20, 21] (by decide) rfl
    refine lv_aload_n hx hb d_LazyMachine_stepRight_16 rfl (lv_at hl 0 rfl) ?_
    refine lv_iconst (v := 0) hx hb d_LazyMachine_stepRight_17 (by decide) ?_
    refine lv_aload_n hx hb d_LazyMachine_stepRight_18 rfl (lv_at hl 0 rfl) ?_
    refine va_get (D := (dC, dI)) (ci := 0) (v := .ref (ad 19)) (C := R_LazyMachine) (T := F_LazyMachine) (N := 13) hx hb hts (fun q hq => List.mem_cons_of_mem _ (i_LazyMachine q hq)) hown hK hP 0 rfl rfl 3 (by decide) (hts _ (List.mem_cons_of_mem _ m_2_10)) (fun _ h9 => h9) rfl d_LazyMachine_stepRight_19 ?_
    refine lv_iload_n hx hb d_LazyMachine_stepRight_22 rfl (lv_at hl 1 rfl) ?_
    refine lm_vi (b := ad 19) (As := [.int x1]) (rest := [.int 0, .ref (ad 0)]) (wr := (ma_W cA ad (ss, sp, fo, ba, no, en, vs, vf, vg)) ++ (hp_W cA (fun k => ad (k + 1)) SM) ++ (pl_W cA (fun k => ad (k + 8)) u13) ++ (tm_W cA (fun k => ad (k + 12)) XM)) ⟨hx, hb, hml, hown, hts⟩ hK hP hD hS hA [19, 20, 21, 22, 23, 24, 25] [0, 1, 2, 3, 4, 5, 6, 7, 8, 9, 10, 11, 12, 13, 14, 15, 16, 17, 18] rfl rfl (by decide) (by decide) (by decide) (c_Term_sort l dC dI cA (fun k => ad (k + 19)) _ YM x1 (by exact hx1)) (cwV 1 hts (lm_gV m_10_0 m_10_1 m_10_2 m_0_4 m_10_3) rfl rfl rfl (by decide +kernel) ⟨Nat.le_of_ble_eq_true rfl, Nat.le_of_ble_eq_true rfl⟩) (va_recv (q0 := 19) hK hP rfl rfl) lm_bl_no (fun _ _ _ => trivial) hl.1 rfl rfl (Nat.le_of_ble_eq_true rfl) d_LazyMachine_stepRight_23 ⟨Nat.le_of_ble_eq_true rfl, Nat.le_of_ble_eq_true rfl⟩ (fun r23 u23 H locs w23 hP hD hS => ?_)
    obtain ⟨e_r23, w23⟩ := w23
    replace e_r23 := e_r23.symm
    subst e_r23
    replace w23 := w23.symm
    subst w23
    have hP : va_P (dC, dI) classes (lz_W cA ad ((ss, sp, fo, ba, no, en, vs, vf, vg), SM, u13, XM, YM)) H := hP
    have hD : va_D A (lz_W cA ad ((ss, sp, fo, ba, no, en, vs, vf, vg), SM, u13, XM, YM)) := hD
    refine lv_iload_n hx hb d_LazyMachine_stepRight_26 rfl (lv_at hl 2 rfl) ?_
    refine lv_aload_n hx hb d_LazyMachine_stepRight_27 rfl (lv_at hl 0 rfl) ?_
    refine va_get (D := (dC, dI)) (ci := 0) (v := .int vf) (C := R_LazyMachine) (T := F_LazyMachine) (N := 13) hx hb hts (fun q hq => List.mem_cons_of_mem _ (i_LazyMachine q hq)) hown hK hP 0 rfl rfl 11 (by decide) (hts _ (List.mem_cons_of_mem _ m_2_18)) (fun _ h9 => h9) rfl d_LazyMachine_stepRight_28 ?_
    refine lm_si (As := [.int (t_so YM x1.toNatClampNeg), .int x2, .int vf]) (rest := [.int 0, .ref (ad 0)]) (wr := (ma_W cA ad (ss, sp, fo, ba, no, en, vs, vf, vg)) ++ (hp_W cA (fun k => ad (k + 1)) SM) ++ (pl_W cA (fun k => ad (k + 8)) u13) ++ (tm_W cA (fun k => ad (k + 12)) XM) ++ (tm_W cA (fun k => ad (k + 19)) YM)) ⟨hx, hb, hml, hown, hts⟩ hK hP hD hS hA [] [0, 1, 2, 3, 4, 5, 6, 7, 8, 9, 10, 11, 12, 13, 14, 15, 16, 17, 18, 19, 20, 21, 22, 23, 24, 25] rfl rfl (by decide) (by decide) (by decide) (c_LazyMachine_reckon l dC dI cA  _  (t_so YM x1.toNatClampNeg) x2 vf ) (cwS 3 hts (lm_gS m_10_4 m_10_5 m_0_1 m_10_6) rfl rfl rfl (by decide +kernel) ⟨Nat.le_of_ble_eq_true rfl, Nat.le_of_ble_eq_true rfl⟩) lm_bl_no (fun _ _ _ => trivial) hl.1 rfl rfl (Nat.le_of_ble_eq_true rfl) d_LazyMachine_stepRight_31 ⟨Nat.le_of_ble_eq_true rfl, Nat.le_of_ble_eq_true rfl⟩ (fun r31 u31 H locs w31 hP hD hS => ?_)
    obtain ⟨e_r31, w31⟩ := w31
    have hP : va_P (dC, dI) classes (lz_W cA ad ((ss, sp, fo, ba, no, en, vs, vf, vg), SM, u13, XM, YM)) H := hP
    have hD : va_D A (lz_W cA ad ((ss, sp, fo, ba, no, en, vs, vf, vg), SM, u13, XM, YM)) := hD
    refine lv_iconst (v := -1) hx hb d_LazyMachine_stepRight_34 (by decide) ?_
    refine lm_vi (b := ad 0) (As := [.int 0, .int r31, .int (-1)]) (rest := []) (wr := ([] : va_W)) ⟨hx, hb, hml, hown, hts⟩ hK hP hD hS hA [0, 1, 2, 3, 4, 5, 6, 7, 8, 9, 10, 11, 12, 13, 14, 15, 16, 17, 18, 19, 20, 21, 22, 23, 24, 25] [] rfl rfl (by decide) (by decide) (by decide) (c_LazyMachine_backWith l dC dI cA ad _ ((ss, sp, fo, ba, no, en, vs, vf, vg), SM, u13, XM, YM) 0 r31 (-1) ) (cwV 3 hts (lm_gV m_10_7 m_10_8 m_19_14 m_0_1 m_10_9) rfl rfl rfl (by decide +kernel) ⟨Nat.le_of_ble_eq_true rfl, Nat.le_of_ble_eq_true rfl⟩) (va_recv (q0 := 0) hK hP rfl rfl) lm_bl_no (fun _ _ _ => trivial) hl.1 rfl rfl (Nat.le_of_ble_eq_true rfl) d_LazyMachine_stepRight_35 ⟨Nat.le_of_ble_eq_true rfl, Nat.le_of_ble_eq_true rfl⟩ (fun r35 u35 H locs w35 hP hD hS => ?_)
    obtain ⟨e_r35, w35⟩ := w35
    replace e_r35 := e_r35.symm
    subst e_r35
    have w35 : u35 = ((ss, sp, fo, 1, no, en, 0, r31, (-1)), SM, u13, XM, YM) := w35
    subst w35
    have hP : va_P (dC, dI) classes (lz_W cA ad ((ss, sp, fo, 1, no, en, 0, r31, (-1)), SM, u13, XM, YM)) H := hP
    have hD : va_D A (lz_W cA ad ((ss, sp, fo, 1, no, en, 0, r31, (-1)), SM, u13, XM, YM)) := hD
    refine lm_ri (v := 1) hx hb hr hlocks ((ss, sp, fo, 1, no, en, 0, r31, (-1)), SM, u13, XM, YM) ?_ hP hK hD hS d_LazyMachine_stepRight_38
    subst w13 e_r31; unfold ma_right; (first | rw [if_pos h4] | rw [if_neg h4]); exact ⟨rfl, rfl⟩
  · refine lv_iconst (v := 3) hx hb d_LazyMachine_stepRight_7 (by decide) ?_
    refine lm_ri (v := 3) hx hb hr hlocks ((ss, sp, fo, ba, no, en, vs, vf, vg), SM, PM, XM, YM) ?_ hP hK hD hS d_LazyMachine_stepRight_8
    unfold ma_right; (first | rw [if_pos h4] | rw [if_neg h4]); exact ⟨rfl, rfl⟩
set_option maxHeartbeats 4000000 in
set_option maxRecDepth 100000 in
theorem c_LazyMachine_stepTest (l : Launch) (dC : Nat → ClassId) (dI : Nat → Nat → Nat) (cA : ClassId)  (ad : Nat → Nat) (sz : Nat) (M : ZMS) (x1 x2 : Int32) (hx1 : vp_in x1 200) : Met l y_LazyMachine_stepTest w_LazyMachine_stepTest ({ frames := 1, cells := 0, slots := 0, locals := 22 } : Room) (va_Pc [.ref (ad 0), .int x1, .int x2] (lm_pre (dC, dI) classes [(cA, .int)] (lz_W cA ad M) sz lm_no)) (va_Qi (fun (r : Int32) (u : ZMS) => r = (ma_test M x1 x2).1 ∧ u = (ma_test M x1 x2).2) (fun u => lm_at (dC, dI) classes [(cA, .int)] (va_A (lz_W cA ad M) sz) (lz_W cA ad u)) (va_A (lz_W cA ad M) sz)) 0 0 (va_A (lz_W cA ad M) sz) := by
  obtain ⟨⟨ss, sp, fo, ba, no, en, vs, vf, vg⟩, SM, PM, XM, YM⟩ := M
  refine lm_met (fun A => va_Qi (fun (r : Int32) (u : ZMS) => r = (ma_test ((ss, sp, fo, ba, no, en, vs, vf, vg), SM, PM, XM, YM) x1 x2).1 ∧ u = (ma_test ((ss, sp, fo, ba, no, en, vs, vf, vg), SM, PM, XM, YM) x1 x2).2) (fun u => lm_at (dC, dI) classes [(cA, .int)] A (lz_W cA ad u)) A) (by decide) rfl (Nat.le_of_ble_eq_true rfl) ?_
  intro p e s m below meth c A hx hb hr hts hown hlocks hname hml hK hP hD hA hE hsz hAe hS ls hl
  replace hl : lv_has ls 3 [(0, .ref (ad 0)), (1, .int x1), (2, .int x2)] := hl
  clear hAe hsz
  refine lv_aload_n hx hb d_LazyMachine_stepTest_0 rfl (lv_at hl 0 rfl) ?_
  refine va_get (D := (dC, dI)) (ci := 0) (v := .int vs) (C := R_LazyMachine) (T := F_LazyMachine) (N := 13) hx hb hts (fun q hq => List.mem_cons_of_mem _ (i_LazyMachine q hq)) hown hK hP 0 rfl rfl 10 (by decide) (hts _ (List.mem_cons_of_mem _ m_2_17)) (fun _ h9 => h9) rfl d_LazyMachine_stepTest_1 ?_
  refine lv_if_eq hx hb d_LazyMachine_stepTest_4 rfl (fun h4 => ?_) (fun h4 => ?_)
  · refine lv_aload_n hx hb d_LazyMachine_stepTest_9 rfl (lv_at hl 0 rfl) ?_
    refine va_get (D := (dC, dI)) (ci := 0) (v := .ref (ad 8)) (C := R_LazyMachine) (T := F_LazyMachine) (N := 13) hx hb hts (fun q hq => List.mem_cons_of_mem _ (i_LazyMachine q hq)) hown hK hP 0 rfl rfl 1 (by decide) (hts _ (List.mem_cons_of_mem _ m_2_8)) (fun _ h9 => h9) rfl d_LazyMachine_stepTest_10 ?_
    refine lm_vv (b := ad 8) (As := []) (rest := []) (wr := (ma_W cA ad (ss, sp, fo, ba, no, en, vs, vf, vg)) ++ (hp_W cA (fun k => ad (k + 1)) SM) ++ (tm_W cA (fun k => ad (k + 12)) XM) ++ (tm_W cA (fun k => ad (k + 19)) YM)) ⟨hx, hb, hml, hown, hts⟩ hK hP hD hS hA [8, 9, 10, 11] [0, 1, 2, 3, 4, 5, 6, 7, 12, 13, 14, 15, 16, 17, 18, 19, 20, 21, 22, 23, 24, 25] rfl rfl (by decide) (by decide) (by decide) (c_Pile_drop l dC dI cA (fun k => ad (k + 8)) _ PM  ) (cwV 0 hts (lm_gV m_7_20 m_7_21 m_7_22 m_0_3 m_7_23) rfl rfl rfl (by decide +kernel) ⟨Nat.le_of_ble_eq_true rfl, Nat.le_of_ble_eq_true rfl⟩) (va_recv (q0 := 8) hK hP rfl rfl) lm_bl_no (fun _ _ _ => trivial) hl.1 rfl rfl (Nat.le_of_ble_eq_true rfl) d_LazyMachine_stepTest_13 ⟨Nat.le_of_ble_eq_true rfl, Nat.le_of_ble_eq_true rfl⟩ (fun u13 H locs w13 hP hD hS => ?_)
    have hP : va_P (dC, dI) classes (lz_W cA ad ((ss, sp, fo, ba, no, en, vs, vf, vg), SM, u13, XM, YM)) H := hP.sub [0, 1, 2, 3, 4, 5, 6, 7, 22, 23, 24, 25, 8, 9, 10, 11, 12, 13, 14, 15, 16, 17, 18, 19, 20, 21] rfl
    have hD : va_D A (lz_W cA ad ((ss, sp, fo, ba, no, en, vs, vf, vg), SM, u13, XM, YM)) := hD.sub [0, 1, 2, 3, 4, 5, 6, 7, 22, 23, 24, 25, 8, 9, 10, 11, 12, 13, 14, 15, 16, 17, 18, 19, 20, 21] (by decide) rfl
    refine lv_aload_n hx hb d_LazyMachine_stepTest_16 rfl (lv_at hl 0 rfl) ?_
    refine lv_aload_n hx hb d_LazyMachine_stepTest_17 rfl (lv_at hl 0 rfl) ?_
    refine va_get (D := (dC, dI)) (ci := 0) (v := .ref (ad 19)) (C := R_LazyMachine) (T := F_LazyMachine) (N := 13) hx hb hts (fun q hq => List.mem_cons_of_mem _ (i_LazyMachine q hq)) hown hK hP 0 rfl rfl 3 (by decide) (hts _ (List.mem_cons_of_mem _ m_2_10)) (fun _ h9 => h9) rfl d_LazyMachine_stepTest_18 ?_
    refine lv_iload_n hx hb d_LazyMachine_stepTest_21 rfl (lv_at hl 1 rfl) ?_
    refine lv_aload_n hx hb d_LazyMachine_stepTest_22 rfl (lv_at hl 0 rfl) ?_
    refine va_get (D := (dC, dI)) (ci := 0) (v := .int vf) (C := R_LazyMachine) (T := F_LazyMachine) (N := 13) hx hb hts (fun q hq => List.mem_cons_of_mem _ (i_LazyMachine q hq)) hown hK hP 0 rfl rfl 11 (by decide) (hts _ (List.mem_cons_of_mem _ m_2_18)) (fun _ h9 => h9) rfl d_LazyMachine_stepTest_23 ?_
    refine lv_if_ne hx hb d_LazyMachine_stepTest_26 rfl (fun h26 => ?_) (fun h26 => ?_)
    · refine lv_iconst (v := 2) hx hb d_LazyMachine_stepTest_33 (by decide) ?_
      refine lm_vi (b := ad 19) (As := [.int x1, .int 2]) (rest := [.ref (ad 0)]) (wr := (ma_W cA ad (ss, sp, fo, ba, no, en, vs, vf, vg)) ++ (hp_W cA (fun k => ad (k + 1)) SM) ++ (pl_W cA (fun k => ad (k + 8)) u13) ++ (tm_W cA (fun k => ad (k + 12)) XM)) ⟨hx, hb, hml, hown, hts⟩ hK hP hD hS hA [19, 20, 21, 22, 23, 24, 25] [0, 1, 2, 3, 4, 5, 6, 7, 8, 9, 10, 11, 12, 13, 14, 15, 16, 17, 18] rfl rfl (by decide) (by decide) (by decide) (c_Term_part l dC dI cA (fun k => ad (k + 19)) _ YM x1 2 (by first | exact nd_ix hx1 (w := 1) (by decide) | exact nd_ix hx1 (w := 2) (by decide))) (cwV 2 hts (lm_gV m_8_18 m_8_19 m_8_20 m_0_4 m_8_21) rfl rfl rfl (by decide +kernel) ⟨Nat.le_of_ble_eq_true rfl, Nat.le_of_ble_eq_true rfl⟩) (va_recv (q0 := 19) hK hP rfl rfl) lm_bl_no (fun _ _ _ => trivial) hl.1 rfl rfl (Nat.le_of_ble_eq_true rfl) d_LazyMachine_stepTest_34 ⟨Nat.le_of_ble_eq_true rfl, Nat.le_of_ble_eq_true rfl⟩ (fun r34 u34 H locs w34 hP hD hS => ?_)
      obtain ⟨e_r34, w34⟩ := w34
      replace w34 := w34.symm
      subst w34
      have hP : va_P (dC, dI) classes (lz_W cA ad ((ss, sp, fo, ba, no, en, vs, vf, vg), SM, u13, XM, YM)) H := hP
      have hD : va_D A (lz_W cA ad ((ss, sp, fo, ba, no, en, vs, vf, vg), SM, u13, XM, YM)) := hD
      refine lv_iload_n hx hb d_LazyMachine_stepTest_37 rfl (lv_at hl 2 rfl) ?_
      refine lm_vv (b := ad 0) (As := [.int r34, .int x2]) (rest := []) (wr := ([] : va_W)) ⟨hx, hb, hml, hown, hts⟩ hK hP hD hS hA [0, 1, 2, 3, 4, 5, 6, 7, 8, 9, 10, 11, 12, 13, 14, 15, 16, 17, 18, 19, 20, 21, 22, 23, 24, 25] [] rfl rfl (by decide) (by decide) (by decide) (c_LazyMachine_enter l dC dI cA ad _ ((ss, sp, fo, ba, no, en, vs, vf, vg), SM, u13, XM, YM) r34 x2 ) (cwV 2 hts (lm_gV m_4_9 m_4_10 m_19_6 m_0_1 m_4_11) rfl rfl rfl (by decide +kernel) ⟨Nat.le_of_ble_eq_true rfl, Nat.le_of_ble_eq_true rfl⟩) (va_recv (q0 := 0) hK hP rfl rfl) lm_bl_no (fun _ _ _ => trivial) hl.1 rfl rfl (Nat.le_of_ble_eq_true rfl) d_LazyMachine_stepTest_38 ⟨Nat.le_of_ble_eq_true rfl, Nat.le_of_ble_eq_true rfl⟩ (fun u38 H locs w38 hP hD hS => ?_)
      have w38 : u38 = ((ss, sp, fo, 0, r34, x2, vs, vf, vg), SM, u13, XM, YM) := w38
      subst w38
      have hP : va_P (dC, dI) classes (lz_W cA ad ((ss, sp, fo, 0, r34, x2, vs, vf, vg), SM, u13, XM, YM)) H := hP
      have hD : va_D A (lz_W cA ad ((ss, sp, fo, 0, r34, x2, vs, vf, vg), SM, u13, XM, YM)) := hD
      refine lv_iconst (v := 1) hx hb d_LazyMachine_stepTest_41 (by decide) ?_
      refine lm_ri (v := 1) hx hb hr hlocks ((ss, sp, fo, 0, r34, x2, vs, vf, vg), SM, u13, XM, YM) ?_ hP hK hD hS d_LazyMachine_stepTest_42
      subst w13 e_r34; unfold ma_test; (first | rw [if_pos h4] | rw [if_neg h4]); (first | rw [if_pos h26] | rw [if_neg h26]); exact ⟨rfl, rfl⟩
    · refine lv_iconst (v := 1) hx hb d_LazyMachine_stepTest_29 (by decide) ?_
      refine lv_goto hx hb d_LazyMachine_stepTest_30 rfl ?_
      refine lm_vi (b := ad 19) (As := [.int x1, .int 1]) (rest := [.ref (ad 0)]) (wr := (ma_W cA ad (ss, sp, fo, ba, no, en, vs, vf, vg)) ++ (hp_W cA (fun k => ad (k + 1)) SM) ++ (pl_W cA (fun k => ad (k + 8)) u13) ++ (tm_W cA (fun k => ad (k + 12)) XM)) ⟨hx, hb, hml, hown, hts⟩ hK hP hD hS hA [19, 20, 21, 22, 23, 24, 25] [0, 1, 2, 3, 4, 5, 6, 7, 8, 9, 10, 11, 12, 13, 14, 15, 16, 17, 18] rfl rfl (by decide) (by decide) (by decide) (c_Term_part l dC dI cA (fun k => ad (k + 19)) _ YM x1 1 (by first | exact nd_ix hx1 (w := 1) (by decide) | exact nd_ix hx1 (w := 2) (by decide))) (cwV 2 hts (lm_gV m_8_18 m_8_19 m_8_20 m_0_4 m_8_21) rfl rfl rfl (by decide +kernel) ⟨Nat.le_of_ble_eq_true rfl, Nat.le_of_ble_eq_true rfl⟩) (va_recv (q0 := 19) hK hP rfl rfl) lm_bl_no (fun _ _ _ => trivial) hl.1 rfl rfl (Nat.le_of_ble_eq_true rfl) d_LazyMachine_stepTest_34 ⟨Nat.le_of_ble_eq_true rfl, Nat.le_of_ble_eq_true rfl⟩ (fun r34 u34 H locs w34 hP hD hS => ?_)
      obtain ⟨e_r34, w34⟩ := w34
      replace w34 := w34.symm
      subst w34
      have hP : va_P (dC, dI) classes (lz_W cA ad ((ss, sp, fo, ba, no, en, vs, vf, vg), SM, u13, XM, YM)) H := hP
      have hD : va_D A (lz_W cA ad ((ss, sp, fo, ba, no, en, vs, vf, vg), SM, u13, XM, YM)) := hD
      refine lv_iload_n hx hb d_LazyMachine_stepTest_37 rfl (lv_at hl 2 rfl) ?_
      refine lm_vv (b := ad 0) (As := [.int r34, .int x2]) (rest := []) (wr := ([] : va_W)) ⟨hx, hb, hml, hown, hts⟩ hK hP hD hS hA [0, 1, 2, 3, 4, 5, 6, 7, 8, 9, 10, 11, 12, 13, 14, 15, 16, 17, 18, 19, 20, 21, 22, 23, 24, 25] [] rfl rfl (by decide) (by decide) (by decide) (c_LazyMachine_enter l dC dI cA ad _ ((ss, sp, fo, ba, no, en, vs, vf, vg), SM, u13, XM, YM) r34 x2 ) (cwV 2 hts (lm_gV m_4_9 m_4_10 m_19_6 m_0_1 m_4_11) rfl rfl rfl (by decide +kernel) ⟨Nat.le_of_ble_eq_true rfl, Nat.le_of_ble_eq_true rfl⟩) (va_recv (q0 := 0) hK hP rfl rfl) lm_bl_no (fun _ _ _ => trivial) hl.1 rfl rfl (Nat.le_of_ble_eq_true rfl) d_LazyMachine_stepTest_38 ⟨Nat.le_of_ble_eq_true rfl, Nat.le_of_ble_eq_true rfl⟩ (fun u38 H locs w38 hP hD hS => ?_)
      have w38 : u38 = ((ss, sp, fo, 0, r34, x2, vs, vf, vg), SM, u13, XM, YM) := w38
      subst w38
      have hP : va_P (dC, dI) classes (lz_W cA ad ((ss, sp, fo, 0, r34, x2, vs, vf, vg), SM, u13, XM, YM)) H := hP
      have hD : va_D A (lz_W cA ad ((ss, sp, fo, 0, r34, x2, vs, vf, vg), SM, u13, XM, YM)) := hD
      refine lv_iconst (v := 1) hx hb d_LazyMachine_stepTest_41 (by decide) ?_
      refine lm_ri (v := 1) hx hb hr hlocks ((ss, sp, fo, 0, r34, x2, vs, vf, vg), SM, u13, XM, YM) ?_ hP hK hD hS d_LazyMachine_stepTest_42
      subst w13 e_r34; unfold ma_test; (first | rw [if_pos h4] | rw [if_neg h4]); (first | rw [if_pos h26] | rw [if_neg h26]); exact ⟨rfl, rfl⟩
  · refine lv_iconst (v := 3) hx hb d_LazyMachine_stepTest_7 (by decide) ?_
    refine lm_ri (v := 3) hx hb hr hlocks ((ss, sp, fo, ba, no, en, vs, vf, vg), SM, PM, XM, YM) ?_ hP hK hD hS d_LazyMachine_stepTest_8
    unfold ma_test; (first | rw [if_pos h4] | rw [if_neg h4]); exact ⟨rfl, rfl⟩
set_option maxHeartbeats 4000000 in
set_option maxRecDepth 100000 in
theorem c_LazyMachine_stepPart (l : Launch) (dC : Nat → ClassId) (dI : Nat → Nat → Nat) (cA : ClassId)  (ad : Nat → Nat) (sz : Nat) (M : ZMS) (x : Int32) (hz : pl_ok (m_P M)) (hv : l_vs M = 2 → hp_c (l_vf M) ∧ hp_c (l_vg M)) : Met l y_LazyMachine_stepPart w_LazyMachine_stepPart ({ frames := 3, cells := 0, slots := 0, locals := 67 } : Room) (va_Pc [.ref (ad 0), .int x] (lm_pre (dC, dI) classes [(cA, .int)] (lz_W cA ad M) sz lm_no)) (va_Qi (fun (r : Int32) (u : ZMS) => r = (ma_part M x).1 ∧ u = (ma_part M x).2) (fun u => lm_at (dC, dI) classes [(cA, .int)] (va_A (lz_W cA ad M) sz) (lz_W cA ad u)) (va_A (lz_W cA ad M) sz)) 0 0 (va_A (lz_W cA ad M) sz) := by
  obtain ⟨⟨ss, sp, fo, ba, no, en, vs, vf, vg⟩, SM, PM, XM, YM⟩ := M
  refine lm_met (fun A => va_Qi (fun (r : Int32) (u : ZMS) => r = (ma_part ((ss, sp, fo, ba, no, en, vs, vf, vg), SM, PM, XM, YM) x).1 ∧ u = (ma_part ((ss, sp, fo, ba, no, en, vs, vf, vg), SM, PM, XM, YM) x).2) (fun u => lm_at (dC, dI) classes [(cA, .int)] A (lz_W cA ad u)) A) (by decide) rfl (Nat.le_of_ble_eq_true rfl) ?_
  intro p e s m below meth c A hx hb hr hts hown hlocks hname hml hK hP hD hA hE hsz hAe hS ls hl
  replace hl : lv_has ls 3 [(0, .ref (ad 0)), (1, .int x)] := hl
  clear hAe hsz
  refine lv_aload_n hx hb d_LazyMachine_stepPart_0 rfl (lv_at hl 0 rfl) ?_
  refine va_get (D := (dC, dI)) (ci := 0) (v := .int vs) (C := R_LazyMachine) (T := F_LazyMachine) (N := 13) hx hb hts (fun q hq => List.mem_cons_of_mem _ (i_LazyMachine q hq)) hown hK hP 0 rfl rfl 10 (by decide) (hts _ (List.mem_cons_of_mem _ m_2_17)) (fun _ h9 => h9) rfl d_LazyMachine_stepPart_1 ?_
  refine lv_iconst (v := 2) hx hb d_LazyMachine_stepPart_4 (by decide) ?_
  refine lv_icmp_eq hx hb d_LazyMachine_stepPart_5 rfl (fun h5 => ?_) (fun h5 => ?_)
  · refine lv_iload_n hx hb d_LazyMachine_stepPart_10 rfl (lv_at hl 1 rfl) ?_
    refine lv_if_ne hx hb d_LazyMachine_stepPart_11 rfl (fun h11 => ?_) (fun h11 => ?_)
    · refine lv_aload_n hx hb d_LazyMachine_stepPart_21 rfl (lv_at hl 0 rfl) ?_
      refine va_get (D := (dC, dI)) (ci := 0) (v := .int vg) (C := R_LazyMachine) (T := F_LazyMachine) (N := 13) hx hb hts (fun q hq => List.mem_cons_of_mem _ (i_LazyMachine q hq)) hown hK hP 0 rfl rfl 12 (by decide) (hts _ (List.mem_cons_of_mem _ m_2_19)) (fun _ h9 => h9) rfl d_LazyMachine_stepPart_22 ?_
      refine lv_istore_n (lv' := [(2, .int vg), (0, .ref (ad 0)), (1, .int x)]) hx hb d_LazyMachine_stepPart_25 rfl hl (by decide) rfl (fun ls hl => ?_)
      refine lv_aload_n hx hb d_LazyMachine_stepPart_26 rfl (lv_at hl 1 rfl) ?_
      refine va_get (D := (dC, dI)) (ci := 0) (v := .ref (ad 1)) (C := R_LazyMachine) (T := F_LazyMachine) (N := 13) hx hb hts (fun q hq => List.mem_cons_of_mem _ (i_LazyMachine q hq)) hown hK hP 0 rfl rfl 0 (by decide) (hts _ (List.mem_cons_of_mem _ m_2_7)) (fun _ h9 => h9) rfl d_LazyMachine_stepPart_27 ?_
      refine lv_iload_n hx hb d_LazyMachine_stepPart_30 rfl (lv_at hl 0 rfl) ?_
      refine lm_vi (b := ad 1) (As := [.int vg]) (rest := []) (wr := (ma_W cA ad (ss, sp, fo, ba, no, en, vs, vf, vg)) ++ (pl_W cA (fun k => ad (k + 8)) PM) ++ (tm_W cA (fun k => ad (k + 12)) XM) ++ (tm_W cA (fun k => ad (k + 19)) YM)) ⟨hx, hb, hml, hown, hts⟩ hK hP hD hS hA [1, 2, 3, 4, 5, 6, 7] [0, 8, 9, 10, 11, 12, 13, 14, 15, 16, 17, 18, 19, 20, 21, 22, 23, 24, 25] rfl rfl (by decide) (by decide) (by decide) (c_Heap_state l dC dI cA (fun k => ad (k + 1)) _ SM vg (by first | exact (hv h5).1 | exact (hv h5).2)) (cwV 1 hts (lm_gV m_10_16 m_10_17 m_10_18 m_0_2 m_10_19) rfl rfl rfl (by decide +kernel) ⟨Nat.le_of_ble_eq_true rfl, Nat.le_of_ble_eq_true rfl⟩) (va_recv (q0 := 1) hK hP rfl rfl) lm_bl_no (fun _ _ _ => trivial) hl.1 rfl rfl (Nat.le_of_ble_eq_true rfl) d_LazyMachine_stepPart_31 ⟨Nat.le_of_ble_eq_true rfl, Nat.le_of_ble_eq_true rfl⟩ (fun r31 u31 H locs w31 hP hD hS => ?_)
      obtain ⟨e_r31, w31⟩ := w31
      replace w31 := w31.symm
      subst w31
      have hP : va_P (dC, dI) classes (lz_W cA ad ((ss, sp, fo, ba, no, en, vs, vf, vg), SM, PM, XM, YM)) H := hP.sub [0, 19, 20, 21, 22, 23, 24, 25, 1, 2, 3, 4, 5, 6, 7, 8, 9, 10, 11, 12, 13, 14, 15, 16, 17, 18] rfl
      have hD : va_D A (lz_W cA ad ((ss, sp, fo, ba, no, en, vs, vf, vg), SM, PM, XM, YM)) := hD.sub [0, 19, 20, 21, 22, 23, 24, 25, 1, 2, 3, 4, 5, 6, 7, 8, 9, 10, 11, 12, 13, 14, 15, 16, 17, 18] (by decide) rfl
      refine lv_iconst (v := 4) hx hb d_LazyMachine_stepPart_34 (by decide) ?_
      refine lv_icmp_ne hx hb d_LazyMachine_stepPart_35 rfl (fun h35 => ?_) (fun h35 => ?_)
      · refine lv_aload_n hx hb d_LazyMachine_stepPart_40 rfl (lv_at hl 1 rfl) ?_
        refine va_get (D := (dC, dI)) (ci := 0) (v := .ref (ad 8)) (C := R_LazyMachine) (T := F_LazyMachine) (N := 13) hx hb hts (fun q hq => List.mem_cons_of_mem _ (i_LazyMachine q hq)) hown hK hP 0 rfl rfl 1 (by decide) (hts _ (List.mem_cons_of_mem _ m_2_8)) (fun _ h9 => h9) rfl d_LazyMachine_stepPart_41 ?_
        refine lm_vv (b := ad 8) (As := []) (rest := []) (wr := (ma_W cA ad (ss, sp, fo, ba, no, en, vs, vf, vg)) ++ (hp_W cA (fun k => ad (k + 1)) SM) ++ (tm_W cA (fun k => ad (k + 12)) XM) ++ (tm_W cA (fun k => ad (k + 19)) YM)) ⟨hx, hb, hml, hown, hts⟩ hK hP hD hS hA [8, 9, 10, 11] [0, 1, 2, 3, 4, 5, 6, 7, 12, 13, 14, 15, 16, 17, 18, 19, 20, 21, 22, 23, 24, 25] rfl rfl (by decide) (by decide) (by decide) (c_Pile_drop l dC dI cA (fun k => ad (k + 8)) _ PM  ) (cwV 0 hts (lm_gV m_7_20 m_7_21 m_7_22 m_0_3 m_7_23) rfl rfl rfl (by decide +kernel) ⟨Nat.le_of_ble_eq_true rfl, Nat.le_of_ble_eq_true rfl⟩) (va_recv (q0 := 8) hK hP rfl rfl) lm_bl_no (fun _ _ _ => trivial) hl.1 rfl rfl (Nat.le_of_ble_eq_true rfl) d_LazyMachine_stepPart_44 ⟨Nat.le_of_ble_eq_true rfl, Nat.le_of_ble_eq_true rfl⟩ (fun u44 H locs w44 hP hD hS => ?_)
        have hP : va_P (dC, dI) classes (lz_W cA ad ((ss, sp, fo, ba, no, en, vs, vf, vg), SM, u44, XM, YM)) H := hP.sub [0, 1, 2, 3, 4, 5, 6, 7, 22, 23, 24, 25, 8, 9, 10, 11, 12, 13, 14, 15, 16, 17, 18, 19, 20, 21] rfl
        have hD : va_D A (lz_W cA ad ((ss, sp, fo, ba, no, en, vs, vf, vg), SM, u44, XM, YM)) := hD.sub [0, 1, 2, 3, 4, 5, 6, 7, 22, 23, 24, 25, 8, 9, 10, 11, 12, 13, 14, 15, 16, 17, 18, 19, 20, 21] (by decide) rfl
        refine lv_aload_n hx hb d_LazyMachine_stepPart_47 rfl (lv_at hl 1 rfl) ?_
        refine lv_iload_n hx hb d_LazyMachine_stepPart_48 rfl (lv_at hl 0 rfl) ?_
        refine lm_vi (b := ad 0) (As := [.int vg]) (rest := []) (wr := ([] : va_W)) ⟨hx, hb, hml, hown, hts⟩ hK hP hD hS hA [0, 1, 2, 3, 4, 5, 6, 7, 8, 9, 10, 11, 12, 13, 14, 15, 16, 17, 18, 19, 20, 21, 22, 23, 24, 25] [] rfl rfl (by decide) (by decide) (by decide) (c_LazyMachine_ask l dC dI cA ad _ ((ss, sp, fo, ba, no, en, vs, vf, vg), SM, u44, XM, YM) vg (by first | exact (hv h5).1 | exact (hv h5).2) (by show pl_ok u44; rw [w44]; exact pl_ok_drop hz)) (cwV 1 hts (lm_gV m_10_20 m_10_21 m_19_17 m_0_1 m_10_22) rfl rfl rfl (by decide +kernel) ⟨Nat.le_of_ble_eq_true rfl, Nat.le_of_ble_eq_true rfl⟩) (va_recv (q0 := 0) hK hP rfl rfl) lm_bl_no (fun _ _ _ => trivial) hl.1 rfl rfl (Nat.le_of_ble_eq_true rfl) d_LazyMachine_stepPart_49 ⟨Nat.le_of_ble_eq_true rfl, Nat.le_of_ble_eq_true rfl⟩ (fun r49 u49 H locs w49 hP hD hS => ?_)
        obtain ⟨e_r49, w49⟩ := w49
        have hP : va_P (dC, dI) classes (lz_W cA ad u49) H := hP
        have hD : va_D A (lz_W cA ad u49) := hD
        refine lm_ri (v := r49) hx hb hr hlocks u49 ?_ hP hK hD hS d_LazyMachine_stepPart_52
        subst e_r31 w44 e_r49 w49; unfold ma_part; (first | rw [if_pos h5] | rw [if_neg h5]); (first | rw [if_pos h11] | rw [if_neg h11]); (first | rw [if_pos h35] | rw [if_neg h35]); exact ⟨rfl, rfl⟩
      · refine lv_iconst (v := 4) hx hb d_LazyMachine_stepPart_38 (by decide) ?_
        refine lm_ri (v := 4) hx hb hr hlocks ((ss, sp, fo, ba, no, en, vs, vf, vg), SM, PM, XM, YM) ?_ hP hK hD hS d_LazyMachine_stepPart_39
        subst e_r31; unfold ma_part; (first | rw [if_pos h5] | rw [if_neg h5]); (first | rw [if_pos h11] | rw [if_neg h11]); (first | rw [if_pos h35] | rw [if_neg h35]); exact ⟨rfl, rfl⟩
    · refine lv_aload_n hx hb d_LazyMachine_stepPart_14 rfl (lv_at hl 0 rfl) ?_
      refine va_get (D := (dC, dI)) (ci := 0) (v := .int vf) (C := R_LazyMachine) (T := F_LazyMachine) (N := 13) hx hb hts (fun q hq => List.mem_cons_of_mem _ (i_LazyMachine q hq)) hown hK hP 0 rfl rfl 11 (by decide) (hts _ (List.mem_cons_of_mem _ m_2_18)) (fun _ h9 => h9) rfl d_LazyMachine_stepPart_15 ?_
      refine lv_goto hx hb d_LazyMachine_stepPart_18 rfl ?_
      refine lv_istore_n (lv' := [(2, .int vf), (0, .ref (ad 0)), (1, .int x)]) hx hb d_LazyMachine_stepPart_25 rfl hl (by decide) rfl (fun ls hl => ?_)
      refine lv_aload_n hx hb d_LazyMachine_stepPart_26 rfl (lv_at hl 1 rfl) ?_
      refine va_get (D := (dC, dI)) (ci := 0) (v := .ref (ad 1)) (C := R_LazyMachine) (T := F_LazyMachine) (N := 13) hx hb hts (fun q hq => List.mem_cons_of_mem _ (i_LazyMachine q hq)) hown hK hP 0 rfl rfl 0 (by decide) (hts _ (List.mem_cons_of_mem _ m_2_7)) (fun _ h9 => h9) rfl d_LazyMachine_stepPart_27 ?_
      refine lv_iload_n hx hb d_LazyMachine_stepPart_30 rfl (lv_at hl 0 rfl) ?_
      refine lm_vi (b := ad 1) (As := [.int vf]) (rest := []) (wr := (ma_W cA ad (ss, sp, fo, ba, no, en, vs, vf, vg)) ++ (pl_W cA (fun k => ad (k + 8)) PM) ++ (tm_W cA (fun k => ad (k + 12)) XM) ++ (tm_W cA (fun k => ad (k + 19)) YM)) ⟨hx, hb, hml, hown, hts⟩ hK hP hD hS hA [1, 2, 3, 4, 5, 6, 7] [0, 8, 9, 10, 11, 12, 13, 14, 15, 16, 17, 18, 19, 20, 21, 22, 23, 24, 25] rfl rfl (by decide) (by decide) (by decide) (c_Heap_state l dC dI cA (fun k => ad (k + 1)) _ SM vf (by first | exact (hv h5).1 | exact (hv h5).2)) (cwV 1 hts (lm_gV m_10_16 m_10_17 m_10_18 m_0_2 m_10_19) rfl rfl rfl (by decide +kernel) ⟨Nat.le_of_ble_eq_true rfl, Nat.le_of_ble_eq_true rfl⟩) (va_recv (q0 := 1) hK hP rfl rfl) lm_bl_no (fun _ _ _ => trivial) hl.1 rfl rfl (Nat.le_of_ble_eq_true rfl) d_LazyMachine_stepPart_31 ⟨Nat.le_of_ble_eq_true rfl, Nat.le_of_ble_eq_true rfl⟩ (fun r31 u31 H locs w31 hP hD hS => ?_)
      obtain ⟨e_r31, w31⟩ := w31
      replace w31 := w31.symm
      subst w31
      have hP : va_P (dC, dI) classes (lz_W cA ad ((ss, sp, fo, ba, no, en, vs, vf, vg), SM, PM, XM, YM)) H := hP.sub [0, 19, 20, 21, 22, 23, 24, 25, 1, 2, 3, 4, 5, 6, 7, 8, 9, 10, 11, 12, 13, 14, 15, 16, 17, 18] rfl
      have hD : va_D A (lz_W cA ad ((ss, sp, fo, ba, no, en, vs, vf, vg), SM, PM, XM, YM)) := hD.sub [0, 19, 20, 21, 22, 23, 24, 25, 1, 2, 3, 4, 5, 6, 7, 8, 9, 10, 11, 12, 13, 14, 15, 16, 17, 18] (by decide) rfl
      refine lv_iconst (v := 4) hx hb d_LazyMachine_stepPart_34 (by decide) ?_
      refine lv_icmp_ne hx hb d_LazyMachine_stepPart_35 rfl (fun h35 => ?_) (fun h35 => ?_)
      · refine lv_aload_n hx hb d_LazyMachine_stepPart_40 rfl (lv_at hl 1 rfl) ?_
        refine va_get (D := (dC, dI)) (ci := 0) (v := .ref (ad 8)) (C := R_LazyMachine) (T := F_LazyMachine) (N := 13) hx hb hts (fun q hq => List.mem_cons_of_mem _ (i_LazyMachine q hq)) hown hK hP 0 rfl rfl 1 (by decide) (hts _ (List.mem_cons_of_mem _ m_2_8)) (fun _ h9 => h9) rfl d_LazyMachine_stepPart_41 ?_
        refine lm_vv (b := ad 8) (As := []) (rest := []) (wr := (ma_W cA ad (ss, sp, fo, ba, no, en, vs, vf, vg)) ++ (hp_W cA (fun k => ad (k + 1)) SM) ++ (tm_W cA (fun k => ad (k + 12)) XM) ++ (tm_W cA (fun k => ad (k + 19)) YM)) ⟨hx, hb, hml, hown, hts⟩ hK hP hD hS hA [8, 9, 10, 11] [0, 1, 2, 3, 4, 5, 6, 7, 12, 13, 14, 15, 16, 17, 18, 19, 20, 21, 22, 23, 24, 25] rfl rfl (by decide) (by decide) (by decide) (c_Pile_drop l dC dI cA (fun k => ad (k + 8)) _ PM  ) (cwV 0 hts (lm_gV m_7_20 m_7_21 m_7_22 m_0_3 m_7_23) rfl rfl rfl (by decide +kernel) ⟨Nat.le_of_ble_eq_true rfl, Nat.le_of_ble_eq_true rfl⟩) (va_recv (q0 := 8) hK hP rfl rfl) lm_bl_no (fun _ _ _ => trivial) hl.1 rfl rfl (Nat.le_of_ble_eq_true rfl) d_LazyMachine_stepPart_44 ⟨Nat.le_of_ble_eq_true rfl, Nat.le_of_ble_eq_true rfl⟩ (fun u44 H locs w44 hP hD hS => ?_)
        have hP : va_P (dC, dI) classes (lz_W cA ad ((ss, sp, fo, ba, no, en, vs, vf, vg), SM, u44, XM, YM)) H := hP.sub [0, 1, 2, 3, 4, 5, 6, 7, 22, 23, 24, 25, 8, 9, 10, 11, 12, 13, 14, 15, 16, 17, 18, 19, 20, 21] rfl
        have hD : va_D A (lz_W cA ad ((ss, sp, fo, ba, no, en, vs, vf, vg), SM, u44, XM, YM)) := hD.sub [0, 1, 2, 3, 4, 5, 6, 7, 22, 23, 24, 25, 8, 9, 10, 11, 12, 13, 14, 15, 16, 17, 18, 19, 20, 21] (by decide) rfl
        refine lv_aload_n hx hb d_LazyMachine_stepPart_47 rfl (lv_at hl 1 rfl) ?_
        refine lv_iload_n hx hb d_LazyMachine_stepPart_48 rfl (lv_at hl 0 rfl) ?_
        refine lm_vi (b := ad 0) (As := [.int vf]) (rest := []) (wr := ([] : va_W)) ⟨hx, hb, hml, hown, hts⟩ hK hP hD hS hA [0, 1, 2, 3, 4, 5, 6, 7, 8, 9, 10, 11, 12, 13, 14, 15, 16, 17, 18, 19, 20, 21, 22, 23, 24, 25] [] rfl rfl (by decide) (by decide) (by decide) (c_LazyMachine_ask l dC dI cA ad _ ((ss, sp, fo, ba, no, en, vs, vf, vg), SM, u44, XM, YM) vf (by first | exact (hv h5).1 | exact (hv h5).2) (by show pl_ok u44; rw [w44]; exact pl_ok_drop hz)) (cwV 1 hts (lm_gV m_10_20 m_10_21 m_19_17 m_0_1 m_10_22) rfl rfl rfl (by decide +kernel) ⟨Nat.le_of_ble_eq_true rfl, Nat.le_of_ble_eq_true rfl⟩) (va_recv (q0 := 0) hK hP rfl rfl) lm_bl_no (fun _ _ _ => trivial) hl.1 rfl rfl (Nat.le_of_ble_eq_true rfl) d_LazyMachine_stepPart_49 ⟨Nat.le_of_ble_eq_true rfl, Nat.le_of_ble_eq_true rfl⟩ (fun r49 u49 H locs w49 hP hD hS => ?_)
        obtain ⟨e_r49, w49⟩ := w49
        have hP : va_P (dC, dI) classes (lz_W cA ad u49) H := hP
        have hD : va_D A (lz_W cA ad u49) := hD
        refine lm_ri (v := r49) hx hb hr hlocks u49 ?_ hP hK hD hS d_LazyMachine_stepPart_52
        subst e_r31 w44 e_r49 w49; unfold ma_part; (first | rw [if_pos h5] | rw [if_neg h5]); (first | rw [if_pos h11] | rw [if_neg h11]); (first | rw [if_pos h35] | rw [if_neg h35]); exact ⟨rfl, rfl⟩
      · refine lv_iconst (v := 4) hx hb d_LazyMachine_stepPart_38 (by decide) ?_
        refine lm_ri (v := 4) hx hb hr hlocks ((ss, sp, fo, ba, no, en, vs, vf, vg), SM, PM, XM, YM) ?_ hP hK hD hS d_LazyMachine_stepPart_39
        subst e_r31; unfold ma_part; (first | rw [if_pos h5] | rw [if_neg h5]); (first | rw [if_pos h11] | rw [if_neg h11]); (first | rw [if_pos h35] | rw [if_neg h35]); exact ⟨rfl, rfl⟩
  · refine lv_iconst (v := 3) hx hb d_LazyMachine_stepPart_8 (by decide) ?_
    refine lm_ri (v := 3) hx hb hr hlocks ((ss, sp, fo, ba, no, en, vs, vf, vg), SM, PM, XM, YM) ?_ hP hK hD hS d_LazyMachine_stepPart_9
    unfold ma_part; (first | rw [if_pos h5] | rw [if_neg h5]); exact ⟨rfl, rfl⟩
