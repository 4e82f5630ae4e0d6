set_option maxHeartbeats 4000000 in
set_option maxRecDepth 100000 in
theorem c_LazyMachine_mayBear (l : Launch) (dC : Nat → ClassId) (dI : Nat → Nat → Nat) (cA : ClassId)   (sz : Nat)  (y1 y2 : Int32)  : Met l y_LazyMachine_mayBear w_LazyMachine_mayBear ({ frames := 0, cells := 0, slots := 0, locals := 0 } : Room) (va_Pc [.int y1, .int y2] (lm_pre (dC, dI) classes [(cA, .int)] (([] : va_W)) sz lm_no)) (va_Qi (fun (r : Int32) (u : Unit) => r = ma_may y1 y2 ∧ u = ()) (fun u => lm_at (dC, dI) classes [(cA, .int)] (va_A (([] : va_W)) sz) (([] : va_W))) (va_A (([] : va_W)) sz)) 0 0 (va_A (([] : va_W)) sz) := by
  refine lm_met (fun A => va_Qi (fun (r : Int32) (u : Unit) => r = ma_may y1 y2 ∧ u = ()) (fun u => lm_at (dC, dI) classes [(cA, .int)] A (([] : va_W))) A) (by decide) rfl (Nat.le_of_ble_eq_true rfl) ?_
  intro p e s m below meth c A hx hb hr hts hown hlocks hname hml hK hP hD hA hE hsz hAe hS ls hl
  replace hl : lv_has ls 2 [(0, .int y1), (1, .int y2)] := hl
  clear hAe hsz
  refine lv_iload_n hx hb d_LazyMachine_mayBear_0 rfl (lv_at hl 0 rfl) ?_
  refine lv_if_ne hx hb d_LazyMachine_mayBear_1 rfl (fun h1 => ?_) (fun h1 => ?_)
  · refine lv_iload_n hx hb d_LazyMachine_mayBear_20 rfl (lv_at hl 0 rfl) ?_
    refine lv_iconst (v := 3) hx hb d_LazyMachine_mayBear_21 (by decide) ?_
    refine lv_icmp_eq hx hb d_LazyMachine_mayBear_22 rfl (fun h22 => ?_) (fun h22 => ?_)
    · refine lv_iconst (v := 1) hx hb d_LazyMachine_mayBear_29 (by decide) ?_
      refine lv_goto hx hb d_LazyMachine_mayBear_30 rfl ?_
      refine lm_rz (v := 1) hx hb hr hlocks (by decide) () ?_ hP hK hD hS d_LazyMachine_mayBear_34
      unfold ma_may; (first | rw [if_pos h1] | rw [if_neg h1]); (first | rw [if_pos h22] | rw [if_neg h22]); exact ⟨rfl, rfl⟩
    · refine lv_iload_n hx hb d_LazyMachine_mayBear_25 rfl (lv_at hl 1 rfl) ?_
      refine lv_if_ne hx hb d_LazyMachine_mayBear_26 rfl (fun h26 => ?_) (fun h26 => ?_)
      · refine lv_iconst (v := 0) hx hb d_LazyMachine_mayBear_33 (by decide) ?_
        refine lm_rz (v := 0) hx hb hr hlocks (by decide) () ?_ hP hK hD hS d_LazyMachine_mayBear_34
        unfold ma_may; (first | rw [if_pos h1] | rw [if_neg h1]); (first | rw [if_pos h22] | rw [if_neg h22]); (first | rw [if_pos h26] | rw [if_neg h26]); exact ⟨rfl, rfl⟩
      · refine lv_iconst (v := 1) hx hb d_LazyMachine_mayBear_29 (by decide) ?_
        refine lv_goto hx hb d_LazyMachine_mayBear_30 rfl ?_
        refine lm_rz (v := 1) hx hb hr hlocks (by decide) () ?_ hP hK hD hS d_LazyMachine_mayBear_34
        unfold ma_may; (first | rw [if_pos h1] | rw [if_neg h1]); (first | rw [if_pos h22] | rw [if_neg h22]); (first | rw [if_pos h26] | rw [if_neg h26]); exact ⟨rfl, rfl⟩
  · refine lv_iload_n hx hb d_LazyMachine_mayBear_4 rfl (lv_at hl 1 rfl) ?_
    refine lv_if_lt hx hb d_LazyMachine_mayBear_5 rfl (fun h5 => ?_) (fun h5 => ?_)
    · refine lv_iconst (v := 0) hx hb d_LazyMachine_mayBear_18 (by decide) ?_
      refine lm_rz (v := 0) hx hb hr hlocks (by decide) () ?_ hP hK hD hS d_LazyMachine_mayBear_19
      unfold ma_may; (first | rw [if_pos h1] | rw [if_neg h1]); (first | rw [if_pos h5] | rw [if_neg h5]); exact ⟨rfl, rfl⟩
    · refine lv_iload_n hx hb d_LazyMachine_mayBear_8 rfl (lv_at hl 1 rfl) ?_
      refine lv_bipush (v := 40) hx hb d_LazyMachine_mayBear_9 (by decide) ?_
      refine lv_icmp_gt hx hb d_LazyMachine_mayBear_11 rfl (fun h11 => ?_) (fun h11 => ?_)
      · refine lv_iconst (v := 0) hx hb d_LazyMachine_mayBear_18 (by decide) ?_
        refine lm_rz (v := 0) hx hb hr hlocks (by decide) () ?_ hP hK hD hS d_LazyMachine_mayBear_19
        unfold ma_may; (first | rw [if_pos h1] | rw [if_neg h1]); (first | rw [if_pos h5] | rw [if_neg h5]); (first | rw [if_pos h11] | rw [if_neg h11]); exact ⟨rfl, rfl⟩
      · refine lv_iconst (v := 1) hx hb d_LazyMachine_mayBear_14 (by decide) ?_
        refine lv_goto hx hb d_LazyMachine_mayBear_15 rfl ?_
        refine lm_rz (v := 1) hx hb hr hlocks (by decide) () ?_ hP hK hD hS d_LazyMachine_mayBear_19
        unfold ma_may; (first | rw [if_pos h1] | rw [if_neg h1]); (first | rw [if_pos h5] | rw [if_neg h5]); (first | rw [if_pos h11] | rw [if_neg h11]); exact ⟨rfl, rfl⟩
set_option maxHeartbeats 4000000 in
set_option maxRecDepth 100000 in
theorem c_LazyMachine_put (l : Launch) (dC : Nat → ClassId) (dI : Nat → Nat → Nat) (cA : ClassId)  (ad : Nat → Nat) (sz : Nat) (M : ZMS) (x1 x2 : Int32) (hx1 : ∃ k : Nat, k < 14 ∧ x1 = nI k) (hx2 : ¬ ma_may x1 x2 = 0) (hz : tm_ok (m_X M)) : Met l y_LazyMachine_put w_LazyMachine_put ({ frames := 1, cells := 0, slots := 0, locals := 22 } : Room) (va_Pc [.ref (ad 0), .int x1, .int x2] (lm_pre (dC, dI) classes [(cA, .int)] (lz_W cA ad M) sz lm_no)) (va_Qi (fun (r : Int32) (u : ZMS) => r = (ma_put M x1 x2).1 ∧ u = (ma_put M x1 x2).2) (fun u => lm_at (dC, dI) classes [(cA, .int)] (va_A (lz_W cA ad M) sz) (lz_W cA ad u)) (va_A (lz_W cA ad M) sz)) 0 0 (va_A (lz_W cA ad M) sz) := by
  obtain ⟨⟨ss, sp, fo, ba, no, en, vs, vf, vg⟩, SM, PM, XM, YM⟩ := M
  refine lm_met (fun A => va_Qi (fun (r : Int32) (u : ZMS) => r = (ma_put ((ss, sp, fo, ba, no, en, vs, vf, vg), SM, PM, XM, YM) x1 x2).1 ∧ u = (ma_put ((ss, sp, fo, ba, no, en, vs, vf, vg), SM, PM, XM, YM) x1 x2).2) (fun u => lm_at (dC, dI) classes [(cA, .int)] A (lz_W cA ad u)) A) (by decide) rfl (Nat.le_of_ble_eq_true rfl) ?_
  intro p e s m below meth c A hx hb hr hts hown hlocks hname hml hK hP hD hA hE hsz hAe hS ls hl
  replace hl : lv_has ls 3 [(0, .ref (ad 0)), (1, .int x1), (2, .int x2)] := hl
  clear hAe hsz
  refine lv_iload_n hx hb d_LazyMachine_put_0 rfl (lv_at hl 1 rfl) ?_
  refine lv_if_lt hx hb d_LazyMachine_put_1 rfl (fun h1 => by obtain ⟨k, hk, rfl⟩ := hx1; exact absurd h1 (nI_pos (by omega))) (fun h1 => ?_)
  refine lv_iload_n hx hb d_LazyMachine_put_4 rfl (lv_at hl 1 rfl) ?_
  refine lv_bipush (v := 13) hx hb d_LazyMachine_put_5 (by decide) ?_
  refine lv_icmp_le hx hb d_LazyMachine_put_7 rfl (fun h7 => ?_) (fun h7 => by obtain ⟨k, hk, rfl⟩ := hx1; exact absurd (show nI k ≤ (13 : Int32) from nI_le (b := 13) (by omega) (by decide)) h7)
  refine lv_iload_n hx hb d_LazyMachine_put_20 rfl (lv_at hl 1 rfl) ?_
  refine lv_iload_n hx hb d_LazyMachine_put_21 rfl (lv_at hl 2 rfl) ?_
  refine lm_si (As := [.int x1, .int x2]) (rest := []) (wr := (ma_W cA ad (ss, sp, fo, ba, no, en, vs, vf, vg)) ++ (hp_W cA (fun k => ad (k + 1)) SM) ++ (pl_W cA (fun k => ad (k + 8)) PM) ++ (tm_W cA (fun k => ad (k + 12)) XM) ++ (tm_W cA (fun k => ad (k + 19)) YM)) ⟨hx, hb, hml, hown, hts⟩ hK hP hD hS hA [] [0, 1, 2, 3, 4, 5, 6, 7, 8, 9, 10, 11, 12, 13, 14, 15, 16, 17, 18, 19, 20, 21, 22, 23, 24, 25] rfl rfl (by decide) (by decide) (by decide) (c_LazyMachine_mayBear l dC dI cA  _  x1 x2 ) (cwS 2 hts (lm_gS m_6_12 m_6_13 m_0_1 m_6_14) rfl rfl rfl (by decide +kernel) ⟨Nat.le_of_ble_eq_true rfl, Nat.le_of_ble_eq_true rfl⟩) lm_bl_no (fun _ _ _ => trivial) hl.1 rfl rfl (Nat.le_of_ble_eq_true rfl) d_LazyMachine_put_22 ⟨Nat.le_of_ble_eq_true rfl, Nat.le_of_ble_eq_true rfl⟩ (fun r22 u22 H locs w22 hP hD hS => ?_)
  obtain ⟨e_r22, w22⟩ := w22
  have hP : va_P (dC, dI) classes (lz_W cA ad ((ss, sp, fo, ba, no, en, vs, vf, vg), SM, PM, XM, YM)) H := hP
  have hD : va_D A (lz_W cA ad ((ss, sp, fo, ba, no, en, vs, vf, vg), SM, PM, XM, YM)) := hD
  refine lv_if_ne hx hb d_LazyMachine_put_25 rfl (fun h25 => ?_) (fun h25 => by exact absurd (by rw [← e_r22]; exact h25) hx2)
  refine lv_aload_n hx hb d_LazyMachine_put_38 rfl (lv_at hl 0 rfl) ?_
  refine va_get (D := (dC, dI)) (ci := 0) (v := .ref (ad 12)) (C := R_LazyMachine) (T := F_LazyMachine) (N := 13) hx hb hts (fun q hq => List.mem_cons_of_mem _ (i_LazyMachine q hq)) hown hK hP 0 rfl rfl 2 (by decide) (hts _ (List.mem_cons_of_mem _ m_2_9)) (fun _ h9 => h9) rfl d_LazyMachine_put_39 ?_
  refine lv_iload_n hx hb d_LazyMachine_put_42 rfl (lv_at hl 1 rfl) ?_
  refine lv_iload_n hx hb d_LazyMachine_put_43 rfl (lv_at hl 2 rfl) ?_
  refine lm_vi (b := ad 12) (As := [.int x1, .int x2]) (rest := []) (wr := (ma_W cA ad (ss, sp, fo, ba, no, en, vs, vf, vg)) ++ (hp_W cA (fun k => ad (k + 1)) SM) ++ (pl_W cA (fun k => ad (k + 8)) PM) ++ (tm_W cA (fun k => ad (k + 19)) YM)) ⟨hx, hb, hml, hown, hts⟩ hK hP hD hS hA [12, 13, 14, 15, 16, 17, 18] [0, 1, 2, 3, 4, 5, 6, 7, 8, 9, 10, 11, 19, 20, 21, 22, 23, 24, 25] rfl rfl (by decide) (by decide) (by decide) (c_Term_add l dC dI cA (fun k => ad (k + 12)) _ XM x1 x2 (by exact hz)) (cwV 2 hts (lm_gV m_6_15 m_6_16 m_6_17 m_0_4 m_6_18) rfl rfl rfl (by decide +kernel) ⟨Nat.le_of_ble_eq_true rfl, Nat.le_of_ble_eq_true rfl⟩) (va_recv (q0 := 12) hK hP rfl rfl) lm_bl_no (fun _ _ _ => trivial) hl.1 rfl rfl (Nat.le_of_ble_eq_true rfl) d_LazyMachine_put_44 ⟨Nat.le_of_ble_eq_true rfl, Nat.le_of_ble_eq_true rfl⟩ (fun r44 u44 H locs w44 hP hD hS => ?_)
  obtain ⟨e_r44, w44⟩ := w44
  have hP : va_P (dC, dI) classes (lz_W cA ad ((ss, sp, fo, ba, no, en, vs, vf, vg), SM, PM, u44, YM)) H := hP.sub [0, 1, 2, 3, 4, 5, 6, 7, 8, 9, 10, 11, 19, 20, 21, 22, 23, 24, 25, 12, 13, 14, 15, 16, 17, 18] rfl
  have hD : va_D A (lz_W cA ad ((ss, sp, fo, ba, no, en, vs, vf, vg), SM, PM, u44, YM)) := hD.sub [0, 1, 2, 3, 4, 5, 6, 7, 8, 9, 10, 11, 19, 20, 21, 22, 23, 24, 25, 12, 13, 14, 15, 16, 17, 18] (by decide) rfl
  refine lv_if_eq hx hb d_LazyMachine_put_47 rfl (fun h47 => ?_) (fun h47 => ?_)
  · refine lv_iconst (v := -1) hx hb d_LazyMachine_put_60 (by decide) ?_
    refine lm_ri (v := (-1)) hx hb hr hlocks ((ss, sp, fo, ba, no, en, vs, vf, vg), SM, PM, u44, YM) ?_ hP hK hD hS d_LazyMachine_put_61
    subst e_r22 e_r44 w44; unfold ma_put ma_setX; (first | rw [if_pos h47] | rw [if_neg h47]); exact ⟨rfl, rfl⟩
  · refine lv_aload_n hx hb d_LazyMachine_put_50 rfl (lv_at hl 0 rfl) ?_
    refine va_get (D := (dC, dI)) (ci := 0) (v := .ref (ad 12)) (C := R_LazyMachine) (T := F_LazyMachine) (N := 13) hx hb hts (fun q hq => List.mem_cons_of_mem _ (i_LazyMachine q hq)) hown hK hP 0 rfl rfl 2 (by decide) (hts _ (List.mem_cons_of_mem _ m_2_9)) (fun _ h9 => h9) rfl d_LazyMachine_put_51 ?_
    refine lm_vi (b := ad 12) (As := []) (rest := []) (wr := (ma_W cA ad (ss, sp, fo, ba, no, en, vs, vf, vg)) ++ (hp_W cA (fun k => ad (k + 1)) SM) ++ (pl_W cA (fun k => ad (k + 8)) PM) ++ (tm_W cA (fun k => ad (k + 19)) YM)) ⟨hx, hb, hml, hown, hts⟩ hK hP hD hS hA [12, 13, 14, 15, 16, 17, 18] [0, 1, 2, 3, 4, 5, 6, 7, 8, 9, 10, 11, 19, 20, 21, 22, 23, 24, 25] rfl rfl (by decide) (by decide) (by decide) (c_Term_size l dC dI cA (fun k => ad (k + 12)) _ u44  ) (cwV 0 hts (lm_gV m_4_16 m_4_17 m_4_18 m_0_4 m_4_19) rfl rfl rfl (by decide +kernel) ⟨Nat.le_of_ble_eq_true rfl, Nat.le_of_ble_eq_true rfl⟩) (va_recv (q0 := 12) hK hP rfl rfl) lm_bl_no (fun _ _ _ => trivial) hl.1 rfl rfl (Nat.le_of_ble_eq_true rfl) d_LazyMachine_put_54 ⟨Nat.le_of_ble_eq_true rfl, Nat.le_of_ble_eq_true rfl⟩ (fun r54 u54 H locs w54 hP hD hS => ?_)
    obtain ⟨e_r54, w54⟩ := w54
    replace e_r54 := e_r54.symm
    subst e_r54
    replace w54 := w54.symm
    subst w54
    have hP : va_P (dC, dI) classes (lz_W cA ad ((ss, sp, fo, ba, no, en, vs, vf, vg), SM, PM, u44, YM)) H := hP.sub [0, 1, 2, 3, 4, 5, 6, 7, 8, 9, 10, 11, 19, 20, 21, 22, 23, 24, 25, 12, 13, 14, 15, 16, 17, 18] rfl
    have hD : va_D A (lz_W cA ad ((ss, sp, fo, ba, no, en, vs, vf, vg), SM, PM, u44, YM)) := hD.sub [0, 1, 2, 3, 4, 5, 6, 7, 8, 9, 10, 11, 19, 20, 21, 22, 23, 24, 25, 12, 13, 14, 15, 16, 17, 18] (by decide) rfl
    refine lv_goto hx hb d_LazyMachine_put_57 rfl ?_
    refine lm_ri (v := (t_sz u44)) hx hb hr hlocks ((ss, sp, fo, ba, no, en, vs, vf, vg), SM, PM, u44, YM) ?_ hP hK hD hS d_LazyMachine_put_61
    subst e_r22 e_r44 w44; unfold ma_put ma_setX; (first | rw [if_pos h47] | rw [if_neg h47]); exact ⟨rfl, rfl⟩
set_option maxHeartbeats 4000000 in
set_option maxRecDepth 100000 in
theorem c_LazyMachine_load (l : Launch) (dC : Nat → ClassId) (dI : Nat → Nat → Nat) (cA : ClassId) (tp : Nat) (ad : Nat → Nat) (sz : Nat) (M : ZMS)  (hz : tm_ok (m_X M)) (hso : tm_so (m_X M)) : Met l y_LazyMachine_load w_LazyMachine_load ({ frames := 3, cells := 0, slots := 0, locals := 66 } : Room) (va_Pc [.ref (ad 0)] (lm_pre (dC, dI) classes [(cA, .int)] (lz_W cA ad M) sz (tm_E tp (va_A (lz_W cA ad M) sz)))) (va_Qi (fun (r : Int32) (u : ZMS) => r = (ma_load M).1 ∧ u = (ma_load M).2) (fun u => lm_at (dC, dI) classes [(cA, .int)] (va_A (lz_W cA ad M) sz) (lz_W cA (lm_sw ad) u)) (va_A (lz_W cA ad M) sz)) 0 0 (va_A (lz_W cA ad M) sz) := by
  obtain ⟨⟨ss, sp, fo, ba, no, en, vs, vf, vg⟩, SM, PM, XM, YM⟩ := M
  refine lm_met (fun A => va_Qi (fun (r : Int32) (u : ZMS) => r = (ma_load ((ss, sp, fo, ba, no, en, vs, vf, vg), SM, PM, XM, YM)).1 ∧ u = (ma_load ((ss, sp, fo, ba, no, en, vs, vf, vg), SM, PM, XM, YM)).2) (fun u => lm_at (dC, dI) classes [(cA, .int)] A (lz_W cA (lm_sw ad) u)) A) (by decide) rfl (Nat.le_of_ble_eq_true rfl) ?_
  intro p e s m below meth c A hx hb hr hts hown hlocks hname hml hK hP hD hA hE hsz hAe hS ls hl
  replace hl : lv_has ls 3 [(0, .ref (ad 0))] := hl
  subst hsz
  rw [← hAe] at hE
  clear hAe
  refine lv_aload_n hx hb d_LazyMachine_load_0 rfl (lv_at hl 0 rfl) ?_
  refine va_get (D := (dC, dI)) (ci := 0) (v := .ref (ad 12)) (C := R_LazyMachine) (T := F_LazyMachine) (N := 13) hx hb hts (fun q hq => List.mem_cons_of_mem _ (i_LazyMachine q hq)) hown hK hP 0 rfl rfl 2 (by decide) (hts _ (List.mem_cons_of_mem _ m_2_9)) (fun _ h9 => h9) rfl d_LazyMachine_load_1 ?_
  refine lm_vi (b := ad 12) (As := []) (rest := []) (wr := (ma_W cA ad (ss, sp, fo, ba, no, en, vs, vf, vg)) ++ (hp_W cA (fun k => ad (k + 1)) SM) ++ (pl_W cA (fun k => ad (k + 8)) PM) ++ (tm_W cA (fun k => ad (k + 19)) YM)) ⟨hx, hb, hml, hown, hts⟩ hK hP hD hS hA [12, 13, 14, 15, 16, 17, 18] [0, 1, 2, 3, 4, 5, 6, 7, 8, 9, 10, 11, 19, 20, 21, 22, 23, 24, 25] rfl rfl (by decide) (by decide) (by decide) (c_Term_settle l dC dI cA tp (fun k => ad (k + 12)) _ XM  (by exact hz) (by exact hso)) (cwV 0 hts (lm_gV m_3_0 m_3_1 m_3_2 m_0_4 m_3_3) rfl rfl rfl (by decide +kernel) ⟨Nat.le_of_ble_eq_true rfl, Nat.le_of_ble_eq_true rfl⟩) (va_recv (q0 := 12) hK hP rfl rfl) tm_E_bl (tm_E_use hE hS (va_free (wc := tm_W cA (fun k => ad (k + 12)) XM) hD hS hA [12, 13, 14, 15, 16, 17, 18] rfl)) hl.1 rfl rfl (Nat.le_of_ble_eq_true rfl) d_LazyMachine_load_4 ⟨Nat.le_of_ble_eq_true rfl, Nat.le_of_ble_eq_true rfl⟩ (fun r4 u4 H locs w4 hP hD hS => ?_)
  obtain ⟨e_r4, w4⟩ := w4
  have hP : va_P (dC, dI) classes (lz_W cA ad ((ss, sp, fo, ba, no, en, vs, vf, vg), SM, PM, u4, YM)) H := hP.sub [0, 1, 2, 3, 4, 5, 6, 7, 8, 9, 10, 11, 19, 20, 21, 22, 23, 24, 25, 12, 13, 14, 15, 16, 17, 18] rfl
  have hD : va_D A (lz_W cA ad ((ss, sp, fo, ba, no, en, vs, vf, vg), SM, PM, u4, YM)) := hD.sub [0, 1, 2, 3, 4, 5, 6, 7, 8, 9, 10, 11, 19, 20, 21, 22, 23, 24, 25, 12, 13, 14, 15, 16, 17, 18] (by decide) rfl
  refine lv_istore_n (lv' := [(1, .int r4), (0, .ref (ad 0))]) hx hb d_LazyMachine_load_7 rfl hl (by decide) rfl (fun ls hl => ?_)
  refine lv_aload_n hx hb d_LazyMachine_load_8 rfl (lv_at hl 1 rfl) ?_
  refine va_get (D := (dC, dI)) (ci := 0) (v := .ref (ad 12)) (C := R_LazyMachine) (T := F_LazyMachine) (N := 13) hx hb hts (fun q hq => List.mem_cons_of_mem _ (i_LazyMachine q hq)) hown hK hP 0 rfl rfl 2 (by decide) (hts _ (List.mem_cons_of_mem _ m_2_9)) (fun _ h9 => h9) rfl d_LazyMachine_load_9 ?_
  refine lv_astore_n (lv' := [(2, .ref (ad 12)), (1, .int r4), (0, .ref (ad 0))]) hx hb d_LazyMachine_load_12 rfl hl (by decide) rfl (fun ls hl => ?_)
  refine lv_aload_n hx hb d_LazyMachine_load_13 rfl (lv_at hl 2 rfl) ?_
  refine lv_aload_n hx hb d_LazyMachine_load_14 rfl (lv_at hl 2 rfl) ?_
  refine va_get (D := (dC, dI)) (ci := 0) (v := .ref (ad 19)) (C := R_LazyMachine) (T := F_LazyMachine) (N := 13) hx hb hts (fun q hq => List.mem_cons_of_mem _ (i_LazyMachine q hq)) hown hK hP 0 rfl rfl 3 (by decide) (hts _ (List.mem_cons_of_mem _ m_2_10)) (fun _ h9 => h9) rfl d_LazyMachine_load_15 ?_
  refine va_put (D := (dC, dI)) (ci := 0) (v := .ref (ad 19)) (ty := .object "LazyMachine$Term") (C := R_LazyMachine) (T := F_LazyMachine) (N := 13) hx hb hts (fun q hq => List.mem_cons_of_mem _ (i_LazyMachine q hq)) t_LazyMachine t_LazyMachine_ok n_LazyMachine hown hK hP hD hS 0 rfl rfl 2 (by decide) (hts _ (List.mem_cons_of_mem _ m_2_9)) (fun _ h9 => h9) rfl (by decide +kernel) rfl rfl (Nat.le_of_ble_eq_true rfl) d_LazyMachine_load_18 (fun H locs hP hD hS => ?_)
  have hP : va_P (dC, dI) classes (ma_W2 cA ad (ad 19) (ad 19) (ss, sp, fo, ba, no, en, vs, vf, vg) ++ (hp_W cA (fun k => ad (k + 1)) SM ++ (pl_W cA (fun k => ad (k + 8)) PM ++ (tm_W cA (fun k => ad (k + 12)) u4 ++ (tm_W cA (fun k => ad (k + 19)) YM))))) H := hP
  have hD : va_D A (ma_W2 cA ad (ad 19) (ad 19) (ss, sp, fo, ba, no, en, vs, vf, vg) ++ (hp_W cA (fun k => ad (k + 1)) SM ++ (pl_W cA (fun k => ad (k + 8)) PM ++ (tm_W cA (fun k => ad (k + 12)) u4 ++ (tm_W cA (fun k => ad (k + 19)) YM))))) := hD
  refine lv_aload_n hx hb d_LazyMachine_load_21 rfl (lv_at hl 2 rfl) ?_
  refine lv_aload_n hx hb d_LazyMachine_load_22 rfl (lv_at hl 0 rfl) ?_
  refine va_put (D := (dC, dI)) (ci := 0) (v := .ref (ad 12)) (ty := .object "LazyMachine$Term") (C := R_LazyMachine) (T := F_LazyMachine) (N := 13) hx hb hts (fun q hq => List.mem_cons_of_mem _ (i_LazyMachine q hq)) t_LazyMachine t_LazyMachine_ok n_LazyMachine hown hK hP hD hS 0 rfl rfl 3 (by decide) (hts _ (List.mem_cons_of_mem _ m_2_10)) (fun _ h9 => h9) rfl (by decide +kernel) rfl rfl (Nat.le_of_ble_eq_true rfl) d_LazyMachine_load_23 (fun H locs hP hD hS => ?_)
  have hP : va_P (dC, dI) classes (ma_W2 cA ad (ad 19) (ad 12) (ss, sp, fo, ba, no, en, vs, vf, vg) ++ (hp_W cA (fun k => ad (k + 1)) SM ++ (pl_W cA (fun k => ad (k + 8)) PM ++ (tm_W cA (fun k => ad (k + 12)) u4 ++ (tm_W cA (fun k => ad (k + 19)) YM))))) H := hP
  have hD : va_D A (ma_W2 cA ad (ad 19) (ad 12) (ss, sp, fo, ba, no, en, vs, vf, vg) ++ (hp_W cA (fun k => ad (k + 1)) SM ++ (pl_W cA (fun k => ad (k + 8)) PM ++ (tm_W cA (fun k => ad (k + 12)) u4 ++ (tm_W cA (fun k => ad (k + 19)) YM))))) := hD
  have hP : va_P (dC, dI) classes (lz_W cA (lm_sw ad) ((ss, sp, fo, ba, no, en, vs, vf, vg), SM, PM, YM, u4)) H := hP.sub [0, 1, 2, 3, 4, 5, 6, 7, 8, 9, 10, 11, 19, 20, 21, 22, 23, 24, 25, 12, 13, 14, 15, 16, 17, 18] rfl
  have hD : va_D A (lz_W cA (lm_sw ad) ((ss, sp, fo, ba, no, en, vs, vf, vg), SM, PM, YM, u4)) := hD.sub [0, 1, 2, 3, 4, 5, 6, 7, 8, 9, 10, 11, 19, 20, 21, 22, 23, 24, 25, 12, 13, 14, 15, 16, 17, 18] (by decide) rfl
  refine lv_aload_n hx hb d_LazyMachine_load_26 rfl (lv_at hl 2 rfl) ?_
  refine va_get (D := (dC, dI)) (ci := 0) (v := .ref (ad 19)) (C := R_LazyMachine) (T := F_LazyMachine) (N := 13) hx hb hts (fun q hq => List.mem_cons_of_mem _ (i_LazyMachine q hq)) hown hK hP 0 rfl rfl 2 (by decide) (hts _ (List.mem_cons_of_mem _ m_2_9)) (fun _ h9 => h9) rfl d_LazyMachine_load_27 ?_
  refine lm_vv (b := ad 19) (As := []) (rest := []) (wr := (ma_W cA (lm_sw ad) (ss, sp, fo, ba, no, en, vs, vf, vg)) ++ (hp_W cA (fun k => ad (k + 1)) SM) ++ (pl_W cA (fun k => ad (k + 8)) PM) ++ (tm_W cA (fun k => ad (k + 12)) u4)) ⟨hx, hb, hml, hown, hts⟩ hK hP hD hS hA [12, 13, 14, 15, 16, 17, 18] [0, 1, 2, 3, 4, 5, 6, 7, 8, 9, 10, 11, 19, 20, 21, 22, 23, 24, 25] rfl rfl (by decide) (by decide) (by decide) (c_Term_clear l dC dI cA (fun k => ad (k + 19)) _ YM  ) (cwV 0 hts (lm_gV m_3_10 m_3_11 m_3_12 m_0_4 m_3_13) rfl rfl rfl (by decide +kernel) ⟨Nat.le_of_ble_eq_true rfl, Nat.le_of_ble_eq_true rfl⟩) (va_recv (a := ad 19) (q0 := 12) hK hP rfl rfl) lm_bl_no (fun _ _ _ => trivial) hl.1 rfl rfl (Nat.le_of_ble_eq_true rfl) d_LazyMachine_load_30 ⟨Nat.le_of_ble_eq_true rfl, Nat.le_of_ble_eq_true rfl⟩ (fun u30 H locs w30 hP hD hS => ?_)
  have hP : va_P (dC, dI) classes (lz_W cA (lm_sw ad) ((ss, sp, fo, ba, no, en, vs, vf, vg), SM, PM, u30, u4)) H := hP.sub [0, 1, 2, 3, 4, 5, 6, 7, 8, 9, 10, 11, 19, 20, 21, 22, 23, 24, 25, 12, 13, 14, 15, 16, 17, 18] rfl
  have hD : va_D A (lz_W cA (lm_sw ad) ((ss, sp, fo, ba, no, en, vs, vf, vg), SM, PM, u30, u4)) := hD.sub [0, 1, 2, 3, 4, 5, 6, 7, 8, 9, 10, 11, 19, 20, 21, 22, 23, 24, 25, 12, 13, 14, 15, 16, 17, 18] (by decide) rfl
  refine lv_iload_n hx hb d_LazyMachine_load_33 rfl (lv_at hl 1 rfl) ?_
  refine lv_if_eq hx hb d_LazyMachine_load_34 rfl (fun h34 => ?_) (fun h34 => ?_)
  · refine lv_aload_n hx hb d_LazyMachine_load_44 rfl (lv_at hl 2 rfl) ?_
    refine lv_iload_n hx hb d_LazyMachine_load_45 rfl (lv_at hl 1 rfl) ?_
    refine lv_if_ne hx hb d_LazyMachine_load_46 rfl (fun h46 => ?_) (fun h46 => ?_)
    · refine lv_iconst (v := 0) hx hb d_LazyMachine_load_53 (by decide) ?_
      refine lm_vv (b := ad 0) (As := [.int 0]) (rest := []) (wr := ([] : va_W)) ⟨hx, hb, hml, hown, hts⟩ hK hP hD hS hA [0, 1, 2, 3, 4, 5, 6, 7, 8, 9, 10, 11, 12, 13, 14, 15, 16, 17, 18, 19, 20, 21, 22, 23, 24, 25] [] rfl rfl (by decide) (by decide) (by decide) (c_LazyMachine_begin l dC dI cA (lm_sw ad) _ ((ss, sp, fo, ba, no, en, vs, vf, vg), SM, PM, u30, u4) 0 ) (cwV 1 hts (lm_gV m_3_14 m_3_15 m_19_5 m_0_1 m_3_16) rfl rfl rfl (by decide +kernel) ⟨Nat.le_of_ble_eq_true rfl, Nat.le_of_ble_eq_true rfl⟩) (va_recv (a := ad 0) (q0 := 0) hK hP rfl rfl) lm_bl_no (fun _ _ _ => trivial) hl.1 rfl rfl (Nat.le_of_ble_eq_true rfl) d_LazyMachine_load_54 ⟨Nat.le_of_ble_eq_true rfl, Nat.le_of_ble_eq_true rfl⟩ (fun u54 H locs w54 hP hD hS => ?_)
      have hP : va_P (dC, dI) classes (lz_W cA (lm_sw ad) u54) H := hP
      have hD : va_D A (lz_W cA (lm_sw ad) u54) := hD
      refine lv_iload_n hx hb d_LazyMachine_load_57 rfl (lv_at hl 1 rfl) ?_
      refine lm_ri (v := r4) hx hb hr hlocks u54 ?_ hP hK hD hS d_LazyMachine_load_58
      subst e_r4 w4 w30 w54; unfold ma_load; first | (rw [if_pos h34, if_pos h34]; exact ⟨rfl, rfl⟩) | (rw [if_neg h34, if_neg h34]; exact ⟨rfl, rfl⟩) | exact absurd h34 h46 | exact absurd h46 h34
    · refine lv_iconst (v := 1) hx hb d_LazyMachine_load_49 (by decide) ?_
      refine lv_goto hx hb d_LazyMachine_load_50 rfl ?_
      refine lm_vv (b := ad 0) (As := [.int 1]) (rest := []) (wr := ([] : va_W)) ⟨hx, hb, hml, hown, hts⟩ hK hP hD hS hA [0, 1, 2, 3, 4, 5, 6, 7, 8, 9, 10, 11, 12, 13, 14, 15, 16, 17, 18, 19, 20, 21, 22, 23, 24, 25] [] rfl rfl (by decide) (by decide) (by decide) (c_LazyMachine_begin l dC dI cA (lm_sw ad) _ ((ss, sp, fo, ba, no, en, vs, vf, vg), SM, PM, u30, u4) 1 ) (cwV 1 hts (lm_gV m_3_14 m_3_15 m_19_5 m_0_1 m_3_16) rfl rfl rfl (by decide +kernel) ⟨Nat.le_of_ble_eq_true rfl, Nat.le_of_ble_eq_true rfl⟩) (va_recv (a := ad 0) (q0 := 0) hK hP rfl rfl) lm_bl_no (fun _ _ _ => trivial) hl.1 rfl rfl (Nat.le_of_ble_eq_true rfl) d_LazyMachine_load_54 ⟨Nat.le_of_ble_eq_true rfl, Nat.le_of_ble_eq_true rfl⟩ (fun u54 H locs w54 hP hD hS => ?_)
      have hP : va_P (dC, dI) classes (lz_W cA (lm_sw ad) u54) H := hP
      have hD : va_D A (lz_W cA (lm_sw ad) u54) := hD
      refine lv_iload_n hx hb d_LazyMachine_load_57 rfl (lv_at hl 1 rfl) ?_
      refine lm_ri (v := r4) hx hb hr hlocks u54 ?_ hP hK hD hS d_LazyMachine_load_58
      subst e_r4 w4 w30 w54; unfold ma_load; first | (rw [if_pos h34, if_pos h34]; exact ⟨rfl, rfl⟩) | (rw [if_neg h34, if_neg h34]; exact ⟨rfl, rfl⟩) | exact absurd h34 h46 | exact absurd h46 h34
  · refine lv_aload_n hx hb d_LazyMachine_load_37 rfl (lv_at hl 2 rfl) ?_
    refine va_get (D := (dC, dI)) (ci := 0) (v := .ref (ad 12)) (C := R_LazyMachine) (T := F_LazyMachine) (N := 13) hx hb hts (fun q hq => List.mem_cons_of_mem _ (i_LazyMachine q hq)) hown hK hP 0 rfl rfl 3 (by decide) (hts _ (List.mem_cons_of_mem _ m_2_10)) (fun _ h9 => h9) rfl d_LazyMachine_load_38 ?_
    refine lm_vv (b := ad 12) (As := []) (rest := []) (wr := (ma_W cA (lm_sw ad) (ss, sp, fo, ba, no, en, vs, vf, vg)) ++ (hp_W cA (fun k => ad (k + 1)) SM) ++ (pl_W cA (fun k => ad (k + 8)) PM) ++ (tm_W cA (fun k => ad (k + 19)) u30)) ⟨hx, hb, hml, hown, hts⟩ hK hP hD hS hA [19, 20, 21, 22, 23, 24, 25] [0, 1, 2, 3, 4, 5, 6, 7, 8, 9, 10, 11, 12, 13, 14, 15, 16, 17, 18] rfl rfl (by decide) (by decide) (by decide) (c_Term_clear l dC dI cA (fun k => ad (k + 12)) _ u4  ) (cwV 0 hts (lm_gV m_3_10 m_3_11 m_3_12 m_0_4 m_3_13) rfl rfl rfl (by decide +kernel) ⟨Nat.le_of_ble_eq_true rfl, Nat.le_of_ble_eq_true rfl⟩) (va_recv (a := ad 12) (q0 := 19) hK hP rfl rfl) lm_bl_no (fun _ _ _ => trivial) hl.1 rfl rfl (Nat.le_of_ble_eq_true rfl) d_LazyMachine_load_41 ⟨Nat.le_of_ble_eq_true rfl, Nat.le_of_ble_eq_true rfl⟩ (fun u41 H locs w41 hP hD hS => ?_)
    have hP : va_P (dC, dI) classes (lz_W cA (lm_sw ad) ((ss, sp, fo, ba, no, en, vs, vf, vg), SM, PM, u30, u41)) H := hP
    have hD : va_D A (lz_W cA (lm_sw ad) ((ss, sp, fo, ba, no, en, vs, vf, vg), SM, PM, u30, u41)) := hD
    refine lv_aload_n hx hb d_LazyMachine_load_44 rfl (lv_at hl 2 rfl) ?_
    refine lv_iload_n hx hb d_LazyMachine_load_45 rfl (lv_at hl 1 rfl) ?_
    refine lv_if_ne hx hb d_LazyMachine_load_46 rfl (fun h46 => ?_) (fun h46 => ?_)
    · refine lv_iconst (v := 0) hx hb d_LazyMachine_load_53 (by decide) ?_
      refine lm_vv (b := ad 0) (As := [.int 0]) (rest := []) (wr := ([] : va_W)) ⟨hx, hb, hml, hown, hts⟩ hK hP hD hS hA [0, 1, 2, 3, 4, 5, 6, 7, 8, 9, 10, 11, 12, 13, 14, 15, 16, 17, 18, 19, 20, 21, 22, 23, 24, 25] [] rfl rfl (by decide) (by decide) (by decide) (c_LazyMachine_begin l dC dI cA (lm_sw ad) _ ((ss, sp, fo, ba, no, en, vs, vf, vg), SM, PM, u30, u41) 0 ) (cwV 1 hts (lm_gV m_3_14 m_3_15 m_19_5 m_0_1 m_3_16) rfl rfl rfl (by decide +kernel) ⟨Nat.le_of_ble_eq_true rfl, Nat.le_of_ble_eq_true rfl⟩) (va_recv (a := ad 0) (q0 := 0) hK hP rfl rfl) lm_bl_no (fun _ _ _ => trivial) hl.1 rfl rfl (Nat.le_of_ble_eq_true rfl) d_LazyMachine_load_54 ⟨Nat.le_of_ble_eq_true rfl, Nat.le_of_ble_eq_true rfl⟩ (fun u54 H locs w54 hP hD hS => ?_)
      have hP : va_P (dC, dI) classes (lz_W cA (lm_sw ad) u54) H := hP
      have hD : va_D A (lz_W cA (lm_sw ad) u54) := hD
      refine lv_iload_n hx hb d_LazyMachine_load_57 rfl (lv_at hl 1 rfl) ?_
      refine lm_ri (v := r4) hx hb hr hlocks u54 ?_ hP hK hD hS d_LazyMachine_load_58
      subst e_r4 w4 w30 w41 w54; unfold ma_load; first | (rw [if_pos h34, if_pos h34]; exact ⟨rfl, rfl⟩) | (rw [if_neg h34, if_neg h34]; exact ⟨rfl, rfl⟩) | exact absurd h34 h46 | exact absurd h46 h34
    · refine lv_iconst (v := 1) hx hb d_LazyMachine_load_49 (by decide) ?_
      refine lv_goto hx hb d_LazyMachine_load_50 rfl ?_
      refine lm_vv (b := ad 0) (As := [.int 1]) (rest := []) (wr := ([] : va_W)) ⟨hx, hb, hml, hown, hts⟩ hK hP hD hS hA [0, 1, 2, 3, 4, 5, 6, 7, 8, 9, 10, 11, 12, 13, 14, 15, 16, 17, 18, 19, 20, 21, 22, 23, 24, 25] [] rfl rfl (by decide) (by decide) (by decide) (c_LazyMachine_begin l dC dI cA (lm_sw ad) _ ((ss, sp, fo, ba, no, en, vs, vf, vg), SM, PM, u30, u41) 1 ) (cwV 1 hts (lm_gV m_3_14 m_3_15 m_19_5 m_0_1 m_3_16) rfl rfl rfl (by decide +kernel) ⟨Nat.le_of_ble_eq_true rfl, Nat.le_of_ble_eq_true rfl⟩) (va_recv (a := ad 0) (q0 := 0) hK hP rfl rfl) lm_bl_no (fun _ _ _ => trivial) hl.1 rfl rfl (Nat.le_of_ble_eq_true rfl) d_LazyMachine_load_54 ⟨Nat.le_of_ble_eq_true rfl, Nat.le_of_ble_eq_true rfl⟩ (fun u54 H locs w54 hP hD hS => ?_)
      have hP : va_P (dC, dI) classes (lz_W cA (lm_sw ad) u54) H := hP
      have hD : va_D A (lz_W cA (lm_sw ad) u54) := hD
      refine lv_iload_n hx hb d_LazyMachine_load_57 rfl (lv_at hl 1 rfl) ?_
      refine lm_ri (v := r4) hx hb hr hlocks u54 ?_ hP hK hD hS d_LazyMachine_load_58
      subst e_r4 w4 w30 w41 w54; unfold ma_load; first | (rw [if_pos h34, if_pos h34]; exact ⟨rfl, rfl⟩) | (rw [if_neg h34, if_neg h34]; exact ⟨rfl, rfl⟩) | exact absurd h34 h46 | exact absurd h46 h34
set_option maxHeartbeats 4000000 in
set_option maxRecDepth 100000 in
theorem c_LazyMachine_restart (l : Launch) (dC : Nat → ClassId) (dI : Nat → Nat → Nat) (cA : ClassId)  (ad : Nat → Nat) (sz : Nat) (M : ZMS)  (hs : ¬ l_ss M = 0) : Met l y_LazyMachine_restart w_LazyMachine_restart ({ frames := 3, cells := 0, slots := 0, locals := 62 } : Room) (va_Pc [.ref (ad 0)] (lm_pre (dC, dI) classes [(cA, .int)] (lz_W cA ad M) sz lm_no)) (va_Qv (fun (u : ZMS) => u = ma_begin M 1) (fun u => lm_at (dC, dI) classes [(cA, .int)] (va_A (lz_W cA ad M) sz) (lz_W cA ad u)) (va_A (lz_W cA ad M) sz)) 0 0 (va_A (lz_W cA ad M) sz) := by
  obtain ⟨⟨ss, sp, fo, ba, no, en, vs, vf, vg⟩, SM, PM, XM, YM⟩ := M
  refine lm_met (fun A => va_Qv (fun (u : ZMS) => u = ma_begin ((ss, sp, fo, ba, no, en, vs, vf, vg), SM, PM, XM, YM) 1) (fun u => lm_at (dC, dI) classes [(cA, .int)] A (lz_W cA ad u)) A) (by decide) rfl (Nat.le_of_ble_eq_true rfl) ?_
  intro p e s m below meth c A hx hb hr hts hown hlocks hname hml hK hP hD hA hE hsz hAe hS ls hl
  replace hl : lv_has ls 1 [(0, .ref (ad 0))] := hl
  clear hAe hsz
  refine lv_aload_n hx hb d_LazyMachine_restart_0 rfl (lv_at hl 0 rfl) ?_
  refine va_get (D := (dC, dI)) (ci := 0) (v := .int ss) (C := R_LazyMachine) (T := F_LazyMachine) (N := 13) hx hb hts (fun q hq => List.mem_cons_of_mem _ (i_LazyMachine q hq)) hown hK hP 0 rfl rfl 4 (by decide) (hts _ (List.mem_cons_of_mem _ m_2_11)) (fun _ h9 => h9) rfl d_LazyMachine_restart_1 ?_
  refine lv_if_ne hx hb d_LazyMachine_restart_4 rfl (fun h4 => ?_) (fun h4 => by exact absurd h4 hs)
  refine lv_aload_n hx hb d_LazyMachine_restart_17 rfl (lv_at hl 0 rfl) ?_
  refine lv_iconst (v := 1) hx hb d_LazyMachine_restart_18 (by decide) ?_
  refine lm_vv (b := ad 0) (As := [.int 1]) (rest := []) (wr := ([] : va_W)) ⟨hx, hb, hml, hown, hts⟩ hK hP hD hS hA [0, 1, 2, 3, 4, 5, 6, 7, 8, 9, 10, 11, 12, 13, 14, 15, 16, 17, 18, 19, 20, 21, 22, 23, 24, 25] [] rfl rfl (by decide) (by decide) (by decide) (c_LazyMachine_begin l dC dI cA ad _ ((ss, sp, fo, ba, no, en, vs, vf, vg), SM, PM, XM, YM) 1 ) (cwV 1 hts (lm_gV m_3_14 m_3_15 m_19_5 m_0_1 m_3_16) rfl rfl rfl (by decide +kernel) ⟨Nat.le_of_ble_eq_true rfl, Nat.le_of_ble_eq_true rfl⟩) (va_recv (q0 := 0) hK hP rfl rfl) lm_bl_no (fun _ _ _ => trivial) hl.1 rfl rfl (Nat.le_of_ble_eq_true rfl) d_LazyMachine_restart_19 ⟨Nat.le_of_ble_eq_true rfl, Nat.le_of_ble_eq_true rfl⟩ (fun u19 H locs w19 hP hD hS => ?_)
  have hP : va_P (dC, dI) classes (lz_W cA ad u19) H := hP
  have hD : va_D A (lz_W cA ad u19) := hD
  refine lm_rv hx hb hr hlocks u19 ?_ hP hK hD hS d_LazyMachine_restart_22
  exact w19
set_option maxHeartbeats 4000000 in
set_option maxRecDepth 100000 in
theorem c_LazyMachine_result (l : Launch) (dC : Nat → ClassId) (dI : Nat → Nat → Nat) (cA : ClassId)  (ad : Nat → Nat) (sz : Nat) (M : ZMS) (x : Int32) (hs : l_ss M = 2) : Met l y_LazyMachine_result w_LazyMachine_result ({ frames := 0, cells := 0, slots := 0, locals := 0 } : Room) (va_Pc [.ref (ad 0), .int x] (lm_pre (dC, dI) classes [(cA, .int)] (lz_W cA ad M) sz lm_no)) (va_Qi (fun (r : Int32) (u : ZMS) => r = ma_result M x ∧ u = M) (fun u => lm_at (dC, dI) classes [(cA, .int)] (va_A (lz_W cA ad M) sz) (lz_W cA ad u)) (va_A (lz_W cA ad M) sz)) 0 0 (va_A (lz_W cA ad M) sz) := by
  obtain ⟨⟨ss, sp, fo, ba, no, en, vs, vf, vg⟩, SM, PM, XM, YM⟩ := M
  refine lm_met (fun A => va_Qi (fun (r : Int32) (u : ZMS) => r = ma_result ((ss, sp, fo, ba, no, en, vs, vf, vg), SM, PM, XM, YM) x ∧ u = ((ss, sp, fo, ba, no, en, vs, vf, vg), SM, PM, XM, YM)) (fun u => lm_at (dC, dI) classes [(cA, .int)] A (lz_W cA ad u)) A) (by decide) rfl (Nat.le_of_ble_eq_true rfl) ?_
  intro p e s m below meth c A hx hb hr hts hown hlocks hname hml hK hP hD hA hE hsz hAe hS ls hl
  replace hl : lv_has ls 3 [(0, .ref (ad 0)), (1, .int x)] := hl
  clear hAe hsz
  refine lv_aload_n hx hb d_LazyMachine_result_0 rfl (lv_at hl 0 rfl) ?_
  refine va_get (D := (dC, dI)) (ci := 0) (v := .int ss) (C := R_LazyMachine) (T := F_LazyMachine) (N := 13) hx hb hts (fun q hq => List.mem_cons_of_mem _ (i_LazyMachine q hq)) hown hK hP 0 rfl rfl 4 (by decide) (hts _ (List.mem_cons_of_mem _ m_2_11)) (fun _ h9 => h9) rfl d_LazyMachine_result_1 ?_
  refine lv_iconst (v := 2) hx hb d_LazyMachine_result_4 (by decide) ?_
  refine lv_icmp_eq hx hb d_LazyMachine_result_5 rfl (fun h5 => ?_) (fun h5 => by exact absurd hs h5)
  refine lv_iload_n hx hb d_LazyMachine_result_18 rfl (lv_at hl 1 rfl) ?_
  refine lv_if_ne hx hb d_LazyMachine_result_19 rfl (fun h19 => ?_) (fun h19 => ?_)
  · refine lv_iload_n hx hb d_LazyMachine_result_27 rfl (lv_at hl 1 rfl) ?_
    refine lv_iconst (v := 1) hx hb d_LazyMachine_result_28 (by decide) ?_
    refine lv_icmp_ne hx hb d_LazyMachine_result_29 rfl (fun h29 => ?_) (fun h29 => ?_)
    · refine lv_iload_n hx hb d_LazyMachine_result_39 rfl (lv_at hl 1 rfl) ?_
      refine lv_iconst (v := 2) hx hb d_LazyMachine_result_40 (by decide) ?_
      refine lv_icmp_ne hx hb d_LazyMachine_result_41 rfl (fun h41 => ?_) (fun h41 => ?_)
      · refine lv_iconst (v := 0) hx hb d_LazyMachine_result_56 (by decide) ?_
        refine lv_istore_n (lv' := [(2, .int 0), (0, .ref (ad 0)), (1, .int x)]) hx hb d_LazyMachine_result_57 rfl hl (by decide) rfl (fun ls hl => ?_)
        refine lv_iload_n hx hb d_LazyMachine_result_58 rfl (lv_at hl 0 rfl) ?_
        refine lv_if_eq hx hb d_LazyMachine_result_59 rfl (fun h59 => ?_) (fun h59 => by exact absurd h59 (by decide))
        refine lv_iconst (v := -1) hx hb d_LazyMachine_result_69 (by decide) ?_
        refine lm_ri (v := (-1)) hx hb hr hlocks ((ss, sp, fo, ba, no, en, vs, vf, vg), SM, PM, XM, YM) ?_ hP hK hD hS d_LazyMachine_result_70
        first | exact absurd h59 (by decide) | exact absurd (h29.symm.trans h41) (by decide) | (unfold ma_result; simp [l_vs, l_vf, h19, h29, h41])
      · refine lv_aload_n hx hb d_LazyMachine_result_44 rfl (lv_at hl 0 rfl) ?_
        refine va_get (D := (dC, dI)) (ci := 0) (v := .int vs) (C := R_LazyMachine) (T := F_LazyMachine) (N := 13) hx hb hts (fun q hq => List.mem_cons_of_mem _ (i_LazyMachine q hq)) hown hK hP 0 rfl rfl 10 (by decide) (hts _ (List.mem_cons_of_mem _ m_2_17)) (fun _ h9 => h9) rfl d_LazyMachine_result_45 ?_
        refine lv_iconst (v := 1) hx hb d_LazyMachine_result_48 (by decide) ?_
        refine lv_icmp_ne hx hb d_LazyMachine_result_49 rfl (fun h49 => ?_) (fun h49 => ?_)
        · refine lv_iconst (v := 0) hx hb d_LazyMachine_result_56 (by decide) ?_
          refine lv_istore_n (lv' := [(2, .int 0), (0, .ref (ad 0)), (1, .int x)]) hx hb d_LazyMachine_result_57 rfl hl (by decide) rfl (fun ls hl => ?_)
          refine lv_iload_n hx hb d_LazyMachine_result_58 rfl (lv_at hl 0 rfl) ?_
          refine lv_if_eq hx hb d_LazyMachine_result_59 rfl (fun h59 => ?_) (fun h59 => by exact absurd h59 (by decide))
          refine lv_iconst (v := -1) hx hb d_LazyMachine_result_69 (by decide) ?_
          refine lm_ri (v := (-1)) hx hb hr hlocks ((ss, sp, fo, ba, no, en, vs, vf, vg), SM, PM, XM, YM) ?_ hP hK hD hS d_LazyMachine_result_70
          first | exact absurd h59 (by decide) | exact absurd (h29.symm.trans h41) (by decide) | (unfold ma_result; simp [l_vs, l_vf, h19, h29, h41, h49])
        · refine lv_iconst (v := 1) hx hb d_LazyMachine_result_52 (by decide) ?_
          refine lv_goto hx hb d_LazyMachine_result_53 rfl ?_
          refine lv_istore_n (lv' := [(2, .int 1), (0, .ref (ad 0)), (1, .int x)]) hx hb d_LazyMachine_result_57 rfl hl (by decide) rfl (fun ls hl => ?_)
          refine lv_iload_n hx hb d_LazyMachine_result_58 rfl (lv_at hl 0 rfl) ?_
          refine lv_if_eq hx hb d_LazyMachine_result_59 rfl (fun h59 => by exact absurd h59 (by decide)) (fun h59 => ?_)
          refine lv_aload_n hx hb d_LazyMachine_result_62 rfl (lv_at hl 1 rfl) ?_
          refine va_get (D := (dC, dI)) (ci := 0) (v := .int vf) (C := R_LazyMachine) (T := F_LazyMachine) (N := 13) hx hb hts (fun q hq => List.mem_cons_of_mem _ (i_LazyMachine q hq)) hown hK hP 0 rfl rfl 11 (by decide) (hts _ (List.mem_cons_of_mem _ m_2_18)) (fun _ h9 => h9) rfl d_LazyMachine_result_63 ?_
          refine lv_goto hx hb d_LazyMachine_result_66 rfl ?_
          refine lm_ri (v := vf) hx hb hr hlocks ((ss, sp, fo, ba, no, en, vs, vf, vg), SM, PM, XM, YM) ?_ hP hK hD hS d_LazyMachine_result_70
          first | exact absurd h59 (by decide) | exact absurd (h29.symm.trans h41) (by decide) | (unfold ma_result; simp [l_vs, l_vf, h19, h29, h41, h49])
    · refine lv_aload_n hx hb d_LazyMachine_result_32 rfl (lv_at hl 0 rfl) ?_
      refine va_get (D := (dC, dI)) (ci := 0) (v := .int vs) (C := R_LazyMachine) (T := F_LazyMachine) (N := 13) hx hb hts (fun q hq => List.mem_cons_of_mem _ (i_LazyMachine q hq)) hown hK hP 0 rfl rfl 10 (by decide) (hts _ (List.mem_cons_of_mem _ m_2_17)) (fun _ h9 => h9) rfl d_LazyMachine_result_33 ?_
      refine lv_if_eq hx hb d_LazyMachine_result_36 rfl (fun h36 => ?_) (fun h36 => ?_)
      · refine lv_iconst (v := 1) hx hb d_LazyMachine_result_52 (by decide) ?_
        refine lv_goto hx hb d_LazyMachine_result_53 rfl ?_
        refine lv_istore_n (lv' := [(2, .int 1), (0, .ref (ad 0)), (1, .int x)]) hx hb d_LazyMachine_result_57 rfl hl (by decide) rfl (fun ls hl => ?_)
        refine lv_iload_n hx hb d_LazyMachine_result_58 rfl (lv_at hl 0 rfl) ?_
        refine lv_if_eq hx hb d_LazyMachine_result_59 rfl (fun h59 => by exact absurd h59 (by decide)) (fun h59 => ?_)
        refine lv_aload_n hx hb d_LazyMachine_result_62 rfl (lv_at hl 1 rfl) ?_
        refine va_get (D := (dC, dI)) (ci := 0) (v := .int vf) (C := R_LazyMachine) (T := F_LazyMachine) (N := 13) hx hb hts (fun q hq => List.mem_cons_of_mem _ (i_LazyMachine q hq)) hown hK hP 0 rfl rfl 11 (by decide) (hts _ (List.mem_cons_of_mem _ m_2_18)) (fun _ h9 => h9) rfl d_LazyMachine_result_63 ?_
        refine lv_goto hx hb d_LazyMachine_result_66 rfl ?_
        refine lm_ri (v := vf) hx hb hr hlocks ((ss, sp, fo, ba, no, en, vs, vf, vg), SM, PM, XM, YM) ?_ hP hK hD hS d_LazyMachine_result_70
        first | exact absurd h59 (by decide) | exact absurd (h29.symm.trans h41) (by decide) | (unfold ma_result; simp [l_vs, l_vf, h19, h29, h36])
      · refine lv_iload_n hx hb d_LazyMachine_result_39 rfl (lv_at hl 1 rfl) ?_
        refine lv_iconst (v := 2) hx hb d_LazyMachine_result_40 (by decide) ?_
        refine lv_icmp_ne hx hb d_LazyMachine_result_41 rfl (fun h41 => ?_) (fun h41 => ?_)
        · refine lv_iconst (v := 0) hx hb d_LazyMachine_result_56 (by decide) ?_
          refine lv_istore_n (lv' := [(2, .int 0), (0, .ref (ad 0)), (1, .int x)]) hx hb d_LazyMachine_result_57 rfl hl (by decide) rfl (fun ls hl => ?_)
          refine lv_iload_n hx hb d_LazyMachine_result_58 rfl (lv_at hl 0 rfl) ?_
          refine lv_if_eq hx hb d_LazyMachine_result_59 rfl (fun h59 => ?_) (fun h59 => by exact absurd h59 (by decide))
          refine lv_iconst (v := -1) hx hb d_LazyMachine_result_69 (by decide) ?_
          refine lm_ri (v := (-1)) hx hb hr hlocks ((ss, sp, fo, ba, no, en, vs, vf, vg), SM, PM, XM, YM) ?_ hP hK hD hS d_LazyMachine_result_70
          first | exact absurd h59 (by decide) | exact absurd (h29.symm.trans h41) (by decide) | (unfold ma_result; simp [l_vs, l_vf, h19, h29, h36, h41])
        · refine lv_aload_n hx hb d_LazyMachine_result_44 rfl (lv_at hl 0 rfl) ?_
          refine va_get (D := (dC, dI)) (ci := 0) (v := .int vs) (C := R_LazyMachine) (T := F_LazyMachine) (N := 13) hx hb hts (fun q hq => List.mem_cons_of_mem _ (i_LazyMachine q hq)) hown hK hP 0 rfl rfl 10 (by decide) (hts _ (List.mem_cons_of_mem _ m_2_17)) (fun _ h9 => h9) rfl d_LazyMachine_result_45 ?_
          refine lv_iconst (v := 1) hx hb d_LazyMachine_result_48 (by decide) ?_
          refine lv_icmp_ne hx hb d_LazyMachine_result_49 rfl (fun h49 => ?_) (fun h49 => ?_)
          · refine lv_iconst (v := 0) hx hb d_LazyMachine_result_56 (by decide) ?_
            refine lv_istore_n (lv' := [(2, .int 0), (0, .ref (ad 0)), (1, .int x)]) hx hb d_LazyMachine_result_57 rfl hl (by decide) rfl (fun ls hl => ?_)
            refine lv_iload_n hx hb d_LazyMachine_result_58 rfl (lv_at hl 0 rfl) ?_
            refine lv_if_eq hx hb d_LazyMachine_result_59 rfl (fun h59 => ?_) (fun h59 => by exact absurd h59 (by decide))
            refine lv_iconst (v := -1) hx hb d_LazyMachine_result_69 (by decide) ?_
            refine lm_ri (v := (-1)) hx hb hr hlocks ((ss, sp, fo, ba, no, en, vs, vf, vg), SM, PM, XM, YM) ?_ hP hK hD hS d_LazyMachine_result_70
            first | exact absurd h59 (by decide) | exact absurd (h29.symm.trans h41) (by decide) | (unfold ma_result; simp [l_vs, l_vf, h19, h29, h36, h41, h49])
          · refine lv_iconst (v := 1) hx hb d_LazyMachine_result_52 (by decide) ?_
            refine lv_goto hx hb d_LazyMachine_result_53 rfl ?_
            refine lv_istore_n (lv' := [(2, .int 1), (0, .ref (ad 0)), (1, .int x)]) hx hb d_LazyMachine_result_57 rfl hl (by decide) rfl (fun ls hl => ?_)
            refine lv_iload_n hx hb d_LazyMachine_result_58 rfl (lv_at hl 0 rfl) ?_
            refine lv_if_eq hx hb d_LazyMachine_result_59 rfl (fun h59 => by exact absurd h59 (by decide)) (fun h59 => ?_)
            refine lv_aload_n hx hb d_LazyMachine_result_62 rfl (lv_at hl 1 rfl) ?_
            refine va_get (D := (dC, dI)) (ci := 0) (v := .int vf) (C := R_LazyMachine) (T := F_LazyMachine) (N := 13) hx hb hts (fun q hq => List.mem_cons_of_mem _ (i_LazyMachine q hq)) hown hK hP 0 rfl rfl 11 (by decide) (hts _ (List.mem_cons_of_mem _ m_2_18)) (fun _ h9 => h9) rfl d_LazyMachine_result_63 ?_
            refine lv_goto hx hb d_LazyMachine_result_66 rfl ?_
            refine lm_ri (v := vf) hx hb hr hlocks ((ss, sp, fo, ba, no, en, vs, vf, vg), SM, PM, XM, YM) ?_ hP hK hD hS d_LazyMachine_result_70
            first | exact absurd h59 (by decide) | exact absurd (h29.symm.trans h41) (by decide) | (unfold ma_result; simp [l_vs, l_vf, h19, h29, h36, h41, h49])
  · refine lv_aload_n hx hb d_LazyMachine_result_22 rfl (lv_at hl 0 rfl) ?_
    refine va_get (D := (dC, dI)) (ci := 0) (v := .int vs) (C := R_LazyMachine) (T := F_LazyMachine) (N := 13) hx hb hts (fun q hq => List.mem_cons_of_mem _ (i_LazyMachine q hq)) hown hK hP 0 rfl rfl 10 (by decide) (hts _ (List.mem_cons_of_mem _ m_2_17)) (fun _ h9 => h9) rfl d_LazyMachine_result_23 ?_
    refine lm_ri (v := vs) hx hb hr hlocks ((ss, sp, fo, ba, no, en, vs, vf, vg), SM, PM, XM, YM) ?_ hP hK hD hS d_LazyMachine_result_26
    first | exact absurd h59 (by decide) | exact absurd (h29.symm.trans h41) (by decide) | (unfold ma_result; simp [l_vs, l_vf, h19])
set_option maxHeartbeats 4000000 in
set_option maxRecDepth 100000 in
theorem c_LazyMachine_into (l : Launch) (dC : Nat → ClassId) (dI : Nat → Nat → Nat) (cA : ClassId)  (ad : Nat → Nat) (sz : Nat) (M : ZMS) (x : Int32) (hs : l_ss M = 2) (hv : l_vs M = 2) (hx1 : x = 0 ∨ x = 1) (hz : pl_ok (m_P M)) (hc : hp_c (l_vf M) ∧ hp_c (l_vg M)) : Met l y_LazyMachine_into w_LazyMachine_into ({ frames := 3, cells := 0, slots := 0, locals := 67 } : Room) (va_Pc [.ref (ad 0), .int x] (lm_pre (dC, dI) classes [(cA, .int)] (lz_W cA ad M) sz lm_no)) (va_Qi (fun (r : Int32) (u : ZMS) => r = (ma_into M x).1 ∧ u = (ma_into M x).2) (fun u => lm_at (dC, dI) classes [(cA, .int)] (va_A (lz_W cA ad M) sz) (lz_W cA ad u)) (va_A (lz_W cA ad M) sz)) 0 0 (va_A (lz_W cA ad M) sz) := by
  obtain ⟨⟨ss, sp, fo, ba, no, en, vs, vf, vg⟩, SM, PM, XM, YM⟩ := M
  refine lm_met (fun A => va_Qi (fun (r : Int32) (u : ZMS) => r = (ma_into ((ss, sp, fo, ba, no, en, vs, vf, vg), SM, PM, XM, YM) x).1 ∧ u = (ma_into ((ss, sp, fo, ba, no, en, vs, vf, vg), SM, PM, XM, YM) x).2) (fun u => lm_at (dC, dI) classes [(cA, .int)] A (lz_W cA ad u)) A) (by decide) rfl (Nat.le_of_ble_eq_true rfl) ?_
  intro p e s m below meth c A hx hb hr hts hown hlocks hname hml hK hP hD hA hE hsz hAe hS ls hl
  replace hl : lv_has ls 2 [(0, .ref (ad 0)), (1, .int x)] := hl
  clear hAe hsz
  refine lv_aload_n hx hb d_LazyMachine_into_0 rfl (lv_at hl 0 rfl) ?_
  refine va_get (D := (dC, dI)) (ci := 0) (v := .int ss) (C := R_LazyMachine) (T := F_LazyMachine) (N := 13) hx hb hts (fun q hq => List.mem_cons_of_mem _ (i_LazyMachine q hq)) hown hK hP 0 rfl rfl 4 (by decide) (hts _ (List.mem_cons_of_mem _ m_2_11)) (fun _ h9 => h9) rfl d_LazyMachine_into_1 ?_
  refine lv_iconst (v := 2) hx hb d_LazyMachine_into_4 (by decide) ?_
  refine lv_icmp_ne hx hb d_LazyMachine_into_5 rfl (fun h5 => by exact absurd hs h5) (fun h5 => ?_)
  refine lv_aload_n hx hb d_LazyMachine_into_8 rfl (lv_at hl 0 rfl) ?_
  refine va_get (D := (dC, dI)) (ci := 0) (v := .int vs) (C := R_LazyMachine) (T := F_LazyMachine) (N := 13) hx hb hts (fun q hq => List.mem_cons_of_mem _ (i_LazyMachine q hq)) hown hK hP 0 rfl rfl 10 (by decide) (hts _ (List.mem_cons_of_mem _ m_2_17)) (fun _ h9 => h9) rfl d_LazyMachine_into_9 ?_
  refine lv_iconst (v := 2) hx hb d_LazyMachine_into_12 (by decide) ?_
  refine lv_icmp_eq hx hb d_LazyMachine_into_13 rfl (fun h13 => ?_) (fun h13 => by exact absurd hv h13)
  refine lv_iload_n hx hb d_LazyMachine_into_26 rfl (lv_at hl 1 rfl) ?_
  refine lv_if_eq hx hb d_LazyMachine_into_27 rfl (fun h27 => ?_) (fun h27 => ?_)
  · refine lv_aload_n hx hb d_LazyMachine_into_45 rfl (lv_at hl 0 rfl) ?_
    refine lv_aload_n hx hb d_LazyMachine_into_46 rfl (lv_at hl 0 rfl) ?_
    refine lv_iload_n hx hb d_LazyMachine_into_47 rfl (lv_at hl 1 rfl) ?_
    refine lv_if_ne hx hb d_LazyMachine_into_48 rfl (fun h48 => ?_) (fun h48 => ?_)
    · refine lv_aload_n hx hb d_LazyMachine_into_58 rfl (lv_at hl 0 rfl) ?_
      refine va_get (D := (dC, dI)) (ci := 0) (v := .int vg) (C := R_LazyMachine) (T := F_LazyMachine) (N := 13) hx hb hts (fun q hq => List.mem_cons_of_mem _ (i_LazyMachine q hq)) hown hK hP 0 rfl rfl 12 (by decide) (hts _ (List.mem_cons_of_mem _ m_2_19)) (fun _ h9 => h9) rfl d_LazyMachine_into_59 ?_
      refine lm_vi (b := ad 0) (As := [.int vg]) (rest := [.ref (ad 0)]) (wr := ([] : va_W)) ⟨hx, hb, hml, hown, hts⟩ hK hP hD hS hA [0, 1, 2, 3, 4, 5, 6, 7, 8, 9, 10, 11, 12, 13, 14, 15, 16, 17, 18, 19, 20, 21, 22, 23, 24, 25] [] rfl rfl (by decide) (by decide) (by decide) (c_LazyMachine_ask l dC dI cA ad _ ((ss, sp, fo, ba, no, en, vs, vf, vg), SM, PM, XM, YM) vg (by first | exact hc.1 | exact hc.2) (by exact hz)) (cwV 1 hts (lm_gV m_10_20 m_10_21 m_19_17 m_0_1 m_10_22) rfl rfl rfl (by decide +kernel) ⟨Nat.le_of_ble_eq_true rfl, Nat.le_of_ble_eq_true rfl⟩) (va_recv (q0 := 0) hK hP rfl rfl) lm_bl_no (fun _ _ _ => trivial) hl.1 rfl rfl (Nat.le_of_ble_eq_true rfl) d_LazyMachine_into_62 ⟨Nat.le_of_ble_eq_true rfl, Nat.le_of_ble_eq_true rfl⟩ (fun r62 u62 H locs w62 hP hD hS => ?_)
      obtain ⟨e_r62, w62⟩ := w62
      have hP : va_P (dC, dI) classes (lz_W cA ad u62) H := hP
      have hD : va_D A (lz_W cA ad u62) := hD
      refine va_put (D := (dC, dI)) (ci := 0) (v := .int r62) (ty := .int) (C := R_LazyMachine) (T := F_LazyMachine) (N := 13) hx hb hts (fun q hq => List.mem_cons_of_mem _ (i_LazyMachine q hq)) t_LazyMachine t_LazyMachine_ok n_LazyMachine hown hK hP hD hS 0 rfl rfl 4 (by decide) (hts _ (List.mem_cons_of_mem _ m_2_11)) (fun _ h9 => h9) rfl (by decide +kernel) rfl rfl (Nat.le_of_ble_eq_true rfl) d_LazyMachine_into_65 (fun H locs hP hD hS => ?_)
      have hP : va_P (dC, dI) classes (lz_W cA ad ((r62, u62.1.2.1, u62.1.2.2.1, u62.1.2.2.2.1, u62.1.2.2.2.2.1, u62.1.2.2.2.2.2.1, u62.1.2.2.2.2.2.2.1, u62.1.2.2.2.2.2.2.2.1, u62.1.2.2.2.2.2.2.2.2), u62.2.1, u62.2.2.1, u62.2.2.2.1, u62.2.2.2.2)) H := hP
      have hD : va_D A (lz_W cA ad ((r62, u62.1.2.1, u62.1.2.2.1, u62.1.2.2.2.1, u62.1.2.2.2.2.1, u62.1.2.2.2.2.2.1, u62.1.2.2.2.2.2.2.1, u62.1.2.2.2.2.2.2.2.1, u62.1.2.2.2.2.2.2.2.2), u62.2.1, u62.2.2.1, u62.2.2.2.1, u62.2.2.2.2)) := hD
      refine lv_aload_n hx hb d_LazyMachine_into_68 rfl (lv_at hl 0 rfl) ?_
      refine va_get (D := (dC, dI)) (ci := 0) (v := .int r62) (C := R_LazyMachine) (T := F_LazyMachine) (N := 13) hx hb hts (fun q hq => List.mem_cons_of_mem _ (i_LazyMachine q hq)) hown hK hP 0 rfl rfl 4 (by decide) (hts _ (List.mem_cons_of_mem _ m_2_11)) (fun _ h9 => h9) rfl d_LazyMachine_into_69 ?_
      refine lm_ri (v := r62) hx hb hr hlocks ((r62, u62.1.2.1, u62.1.2.2.1, u62.1.2.2.2.1, u62.1.2.2.2.2.1, u62.1.2.2.2.2.2.1, u62.1.2.2.2.2.2.2.1, u62.1.2.2.2.2.2.2.2.1, u62.1.2.2.2.2.2.2.2.2), u62.2.1, u62.2.2.1, u62.2.2.2.1, u62.2.2.2.2) ?_ hP hK hD hS d_LazyMachine_into_72
      subst e_r62 w62; unfold ma_into; (first | rw [if_pos h48] | rw [if_neg h48]); exact ⟨rfl, rfl⟩
    · refine lv_aload_n hx hb d_LazyMachine_into_51 rfl (lv_at hl 0 rfl) ?_
      refine va_get (D := (dC, dI)) (ci := 0) (v := .int vf) (C := R_LazyMachine) (T := F_LazyMachine) (N := 13) hx hb hts (fun q hq => List.mem_cons_of_mem _ (i_LazyMachine q hq)) hown hK hP 0 rfl rfl 11 (by decide) (hts _ (List.mem_cons_of_mem _ m_2_18)) (fun _ h9 => h9) rfl d_LazyMachine_into_52 ?_
      refine lv_goto hx hb d_LazyMachine_into_55 rfl ?_
      refine lm_vi (b := ad 0) (As := [.int vf]) (rest := [.ref (ad 0)]) (wr := ([] : va_W)) ⟨hx, hb, hml, hown, hts⟩ hK hP hD hS hA [0, 1, 2, 3, 4, 5, 6, 7, 8, 9, 10, 11, 12, 13, 14, 15, 16, 17, 18, 19, 20, 21, 22, 23, 24, 25] [] rfl rfl (by decide) (by decide) (by decide) (c_LazyMachine_ask l dC dI cA ad _ ((ss, sp, fo, ba, no, en, vs, vf, vg), SM, PM, XM, YM) vf (by first | exact hc.1 | exact hc.2) (by exact hz)) (cwV 1 hts (lm_gV m_10_20 m_10_21 m_19_17 m_0_1 m_10_22) rfl rfl rfl (by decide +kernel) ⟨Nat.le_of_ble_eq_true rfl, Nat.le_of_ble_eq_true rfl⟩) (va_recv (q0 := 0) hK hP rfl rfl) lm_bl_no (fun _ _ _ => trivial) hl.1 rfl rfl (Nat.le_of_ble_eq_true rfl) d_LazyMachine_into_62 ⟨Nat.le_of_ble_eq_true rfl, Nat.le_of_ble_eq_true rfl⟩ (fun r62 u62 H locs w62 hP hD hS => ?_)
      obtain ⟨e_r62, w62⟩ := w62
      have hP : va_P (dC, dI) classes (lz_W cA ad u62) H := hP
      have hD : va_D A (lz_W cA ad u62) := hD
      refine va_put (D := (dC, dI)) (ci := 0) (v := .int r62) (ty := .int) (C := R_LazyMachine) (T := F_LazyMachine) (N := 13) hx hb hts (fun q hq => List.mem_cons_of_mem _ (i_LazyMachine q hq)) t_LazyMachine t_LazyMachine_ok n_LazyMachine hown hK hP hD hS 0 rfl rfl 4 (by decide) (hts _ (List.mem_cons_of_mem _ m_2_11)) (fun _ h9 => h9) rfl (by decide +kernel) rfl rfl (Nat.le_of_ble_eq_true rfl) d_LazyMachine_into_65 (fun H locs hP hD hS => ?_)
      have hP : va_P (dC, dI) classes (lz_W cA ad ((r62, u62.1.2.1, u62.1.2.2.1, u62.1.2.2.2.1, u62.1.2.2.2.2.1, u62.1.2.2.2.2.2.1, u62.1.2.2.2.2.2.2.1, u62.1.2.2.2.2.2.2.2.1, u62.1.2.2.2.2.2.2.2.2), u62.2.1, u62.2.2.1, u62.2.2.2.1, u62.2.2.2.2)) H := hP
      have hD : va_D A (lz_W cA ad ((r62, u62.1.2.1, u62.1.2.2.1, u62.1.2.2.2.1, u62.1.2.2.2.2.1, u62.1.2.2.2.2.2.1, u62.1.2.2.2.2.2.2.1, u62.1.2.2.2.2.2.2.2.1, u62.1.2.2.2.2.2.2.2.2), u62.2.1, u62.2.2.1, u62.2.2.2.1, u62.2.2.2.2)) := hD
      refine lv_aload_n hx hb d_LazyMachine_into_68 rfl (lv_at hl 0 rfl) ?_
      refine va_get (D := (dC, dI)) (ci := 0) (v := .int r62) (C := R_LazyMachine) (T := F_LazyMachine) (N := 13) hx hb hts (fun q hq => List.mem_cons_of_mem _ (i_LazyMachine q hq)) hown hK hP 0 rfl rfl 4 (by decide) (hts _ (List.mem_cons_of_mem _ m_2_11)) (fun _ h9 => h9) rfl d_LazyMachine_into_69 ?_
      refine lm_ri (v := r62) hx hb hr hlocks ((r62, u62.1.2.1, u62.1.2.2.1, u62.1.2.2.2.1, u62.1.2.2.2.2.1, u62.1.2.2.2.2.2.1, u62.1.2.2.2.2.2.2.1, u62.1.2.2.2.2.2.2.2.1, u62.1.2.2.2.2.2.2.2.2), u62.2.1, u62.2.2.1, u62.2.2.2.1, u62.2.2.2.2) ?_ hP hK hD hS d_LazyMachine_into_72
      subst e_r62 w62; unfold ma_into; (first | rw [if_pos h48] | rw [if_neg h48]); exact ⟨rfl, rfl⟩
  · refine lv_iload_n hx hb d_LazyMachine_into_30 rfl (lv_at hl 1 rfl) ?_
    refine lv_iconst (v := 1) hx hb d_LazyMachine_into_31 (by decide) ?_
    refine lv_icmp_eq hx hb d_LazyMachine_into_32 rfl (fun h32 => ?_) (fun h32 => by exact absurd (hx1.resolve_left h27) h32)
    refine lv_aload_n hx hb d_LazyMachine_into_45 rfl (lv_at hl 0 rfl) ?_
    refine lv_aload_n hx hb d_LazyMachine_into_46 rfl (lv_at hl 0 rfl) ?_
    refine lv_iload_n hx hb d_LazyMachine_into_47 rfl (lv_at hl 1 rfl) ?_
    refine lv_if_ne hx hb d_LazyMachine_into_48 rfl (fun h48 => ?_) (fun h48 => ?_)
    · refine lv_aload_n hx hb d_LazyMachine_into_58 rfl (lv_at hl 0 rfl) ?_
      refine va_get (D := (dC, dI)) (ci := 0) (v := .int vg) (C := R_LazyMachine) (T := F_LazyMachine) (N := 13) hx hb hts (fun q hq => List.mem_cons_of_mem _ (i_LazyMachine q hq)) hown hK hP 0 rfl rfl 12 (by decide) (hts _ (List.mem_cons_of_mem _ m_2_19)) (fun _ h9 => h9) rfl d_LazyMachine_into_59 ?_
      refine lm_vi (b := ad 0) (As := [.int vg]) (rest := [.ref (ad 0)]) (wr := ([] : va_W)) ⟨hx, hb, hml, hown, hts⟩ hK hP hD hS hA [0, 1, 2, 3, 4, 5, 6, 7, 8, 9, 10, 11, 12, 13, 14, 15, 16, 17, 18, 19, 20, 21, 22, 23, 24, 25] [] rfl rfl (by decide) (by decide) (by decide) (c_LazyMachine_ask l dC dI cA ad _ ((ss, sp, fo, ba, no, en, vs, vf, vg), SM, PM, XM, YM) vg (by first | exact hc.1 | exact hc.2) (by exact hz)) (cwV 1 hts (lm_gV m_10_20 m_10_21 m_19_17 m_0_1 m_10_22) rfl rfl rfl (by decide +kernel) ⟨Nat.le_of_ble_eq_true rfl, Nat.le_of_ble_eq_true rfl⟩) (va_recv (q0 := 0) hK hP rfl rfl) lm_bl_no (fun _ _ _ => trivial) hl.1 rfl rfl (Nat.le_of_ble_eq_true rfl) d_LazyMachine_into_62 ⟨Nat.le_of_ble_eq_true rfl, Nat.le_of_ble_eq_true rfl⟩ (fun r62 u62 H locs w62 hP hD hS => ?_)
      obtain ⟨e_r62, w62⟩ := w62
      have hP : va_P (dC, dI) classes (lz_W cA ad u62) H := hP
      have hD : va_D A (lz_W cA ad u62) := hD
      refine va_put (D := (dC, dI)) (ci := 0) (v := .int r62) (ty := .int) (C := R_LazyMachine) (T := F_LazyMachine) (N := 13) hx hb hts (fun q hq => List.mem_cons_of_mem _ (i_LazyMachine q hq)) t_LazyMachine t_LazyMachine_ok n_LazyMachine hown hK hP hD hS 0 rfl rfl 4 (by decide) (hts _ (List.mem_cons_of_mem _ m_2_11)) (fun _ h9 => h9) rfl (by decide +kernel) rfl rfl (Nat.le_of_ble_eq_true rfl) d_LazyMachine_into_65 (fun H locs hP hD hS => ?_)
      have hP : va_P (dC, dI) classes (lz_W cA ad ((r62, u62.1.2.1, u62.1.2.2.1, u62.1.2.2.2.1, u62.1.2.2.2.2.1, u62.1.2.2.2.2.2.1, u62.1.2.2.2.2.2.2.1, u62.1.2.2.2.2.2.2.2.1, u62.1.2.2.2.2.2.2.2.2), u62.2.1, u62.2.2.1, u62.2.2.2.1, u62.2.2.2.2)) H := hP
      have hD : va_D A (lz_W cA ad ((r62, u62.1.2.1, u62.1.2.2.1, u62.1.2.2.2.1, u62.1.2.2.2.2.1, u62.1.2.2.2.2.2.1, u62.1.2.2.2.2.2.2.1, u62.1.2.2.2.2.2.2.2.1, u62.1.2.2.2.2.2.2.2.2), u62.2.1, u62.2.2.1, u62.2.2.2.1, u62.2.2.2.2)) := hD
      refine lv_aload_n hx hb d_LazyMachine_into_68 rfl (lv_at hl 0 rfl) ?_
      refine va_get (D := (dC, dI)) (ci := 0) (v := .int r62) (C := R_LazyMachine) (T := F_LazyMachine) (N := 13) hx hb hts (fun q hq => List.mem_cons_of_mem _ (i_LazyMachine q hq)) hown hK hP 0 rfl rfl 4 (by decide) (hts _ (List.mem_cons_of_mem _ m_2_11)) (fun _ h9 => h9) rfl d_LazyMachine_into_69 ?_
      refine lm_ri (v := r62) hx hb hr hlocks ((r62, u62.1.2.1, u62.1.2.2.1, u62.1.2.2.2.1, u62.1.2.2.2.2.1, u62.1.2.2.2.2.2.1, u62.1.2.2.2.2.2.2.1, u62.1.2.2.2.2.2.2.2.1, u62.1.2.2.2.2.2.2.2.2), u62.2.1, u62.2.2.1, u62.2.2.2.1, u62.2.2.2.2) ?_ hP hK hD hS d_LazyMachine_into_72
      subst e_r62 w62; unfold ma_into; (first | rw [if_pos h48] | rw [if_neg h48]); exact ⟨rfl, rfl⟩
    · refine lv_aload_n hx hb d_LazyMachine_into_51 rfl (lv_at hl 0 rfl) ?_
      refine va_get (D := (dC, dI)) (ci := 0) (v := .int vf) (C := R_LazyMachine) (T := F_LazyMachine) (N := 13) hx hb hts (fun q hq => List.mem_cons_of_mem _ (i_LazyMachine q hq)) hown hK hP 0 rfl rfl 11 (by decide) (hts _ (List.mem_cons_of_mem _ m_2_18)) (fun _ h9 => h9) rfl d_LazyMachine_into_52 ?_
      refine lv_goto hx hb d_LazyMachine_into_55 rfl ?_
      refine lm_vi (b := ad 0) (As := [.int vf]) (rest := [.ref (ad 0)]) (wr := ([] : va_W)) ⟨hx, hb, hml, hown, hts⟩ hK hP hD hS hA [0, 1, 2, 3, 4, 5, 6, 7, 8, 9, 10, 11, 12, 13, 14, 15, 16, 17, 18, 19, 20, 21, 22, 23, 24, 25] [] rfl rfl (by decide) (by decide) (by decide) (c_LazyMachine_ask l dC dI cA ad _ ((ss, sp, fo, ba, no, en, vs, vf, vg), SM, PM, XM, YM) vf (by first | exact hc.1 | exact hc.2) (by exact hz)) (cwV 1 hts (lm_gV m_10_20 m_10_21 m_19_17 m_0_1 m_10_22) rfl rfl rfl (by decide +kernel) ⟨Nat.le_of_ble_eq_true rfl, Nat.le_of_ble_eq_true rfl⟩) (va_recv (q0 := 0) hK hP rfl rfl) lm_bl_no (fun _ _ _ => trivial) hl.1 rfl rfl (Nat.le_of_ble_eq_true rfl) d_LazyMachine_into_62 ⟨Nat.le_of_ble_eq_true rfl, Nat.le_of_ble_eq_true rfl⟩ (fun r62 u62 H locs w62 hP hD hS => ?_)
      obtain ⟨e_r62, w62⟩ := w62
      have hP : va_P (dC, dI) classes (lz_W cA ad u62) H := hP
      have hD : va_D A (lz_W cA ad u62) := hD
      refine va_put (D := (dC, dI)) (ci := 0) (v := .int r62) (ty := .int) (C := R_LazyMachine) (T := F_LazyMachine) (N := 13) hx hb hts (fun q hq => List.mem_cons_of_mem _ (i_LazyMachine q hq)) t_LazyMachine t_LazyMachine_ok n_LazyMachine hown hK hP hD hS 0 rfl rfl 4 (by decide) (hts _ (List.mem_cons_of_mem _ m_2_11)) (fun _ h9 => h9) rfl (by decide +kernel) rfl rfl (Nat.le_of_ble_eq_true rfl) d_LazyMachine_into_65 (fun H locs hP hD hS => ?_)
      have hP : va_P (dC, dI) classes (lz_W cA ad ((r62, u62.1.2.1, u62.1.2.2.1, u62.1.2.2.2.1, u62.1.2.2.2.2.1, u62.1.2.2.2.2.2.1, u62.1.2.2.2.2.2.2.1, u62.1.2.2.2.2.2.2.2.1, u62.1.2.2.2.2.2.2.2.2), u62.2.1, u62.2.2.1, u62.2.2.2.1, u62.2.2.2.2)) H := hP
      have hD : va_D A (lz_W cA ad ((r62, u62.1.2.1, u62.1.2.2.1, u62.1.2.2.2.1, u62.1.2.2.2.2.1, u62.1.2.2.2.2.2.1, u62.1.2.2.2.2.2.2.1, u62.1.2.2.2.2.2.2.2.1, u62.1.2.2.2.2.2.2.2.2), u62.2.1, u62.2.2.1, u62.2.2.2.1, u62.2.2.2.2)) := hD
      refine lv_aload_n hx hb d_LazyMachine_into_68 rfl (lv_at hl 0 rfl) ?_
      refine va_get (D := (dC, dI)) (ci := 0) (v := .int r62) (C := R_LazyMachine) (T := F_LazyMachine) (N := 13) hx hb hts (fun q hq => List.mem_cons_of_mem _ (i_LazyMachine q hq)) hown hK hP 0 rfl rfl 4 (by decide) (hts _ (List.mem_cons_of_mem _ m_2_11)) (fun _ h9 => h9) rfl d_LazyMachine_into_69 ?_
      refine lm_ri (v := r62) hx hb hr hlocks ((r62, u62.1.2.1, u62.1.2.2.1, u62.1.2.2.2.1, u62.1.2.2.2.2.1, u62.1.2.2.2.2.2.1, u62.1.2.2.2.2.2.2.1, u62.1.2.2.2.2.2.2.2.1, u62.1.2.2.2.2.2.2.2.2), u62.2.1, u62.2.2.1, u62.2.2.2.1, u62.2.2.2.2) ?_ hP hK hD hS d_LazyMachine_into_72
      subst e_r62 w62; unfold ma_into; (first | rw [if_pos h48] | rw [if_neg h48]); exact ⟨rfl, rfl⟩
set_option maxHeartbeats 4000000 in
set_option maxRecDepth 100000 in
theorem c_LazyMachine_apply (l : Launch) (dC : Nat → ClassId) (dI : Nat → Nat → Nat) (cA : ClassId)  (ad : Nat → Nat) (sz : Nat) (M : ZMS) (x : Int32) (hi : ma_lo M) (hs : l_ss M = 2) (hv : l_vs M = 1) (hn : vp_in (l_vf M) 200) : Met l y_LazyMachine_apply w_LazyMachine_apply ({ frames := 4, cells := 0, slots := 0, locals := 87 } : Room) (va_Pc [.ref (ad 0), .int x] (lm_pre (dC, dI) classes [(cA, .int)] (lz_W cA ad M) sz lm_no)) (va_Qi (fun (r : Int32) (u : ZMS) => r = (ma_app M x).1 ∧ u = (ma_app M x).2) (fun u => lm_at (dC, dI) classes [(cA, .int)] (va_A (lz_W cA ad M) sz) (lz_W cA ad u)) (va_A (lz_W cA ad M) sz)) 0 0 (va_A (lz_W cA ad M) sz) := by
  obtain ⟨⟨ss, sp, fo, ba, no, en, vs, vf, vg⟩, SM, PM, XM, YM⟩ := M
  refine lm_met (fun A => va_Qi (fun (r : Int32) (u : ZMS) => r = (ma_app ((ss, sp, fo, ba, no, en, vs, vf, vg), SM, PM, XM, YM) x).1 ∧ u = (ma_app ((ss, sp, fo, ba, no, en, vs, vf, vg), SM, PM, XM, YM) x).2) (fun u => lm_at (dC, dI) classes [(cA, .int)] A (lz_W cA ad u)) A) (by decide) rfl (Nat.le_of_ble_eq_true rfl) ?_
  intro p e s m below meth c A hx hb hr hts hown hlocks hname hml hK hP hD hA hE hsz hAe hS ls hl
  replace hl : lv_has ls 2 [(0, .ref (ad 0)), (1, .int x)] := hl
  clear hAe hsz
  refine lv_aload_n hx hb d_LazyMachine_apply_0 rfl (lv_at hl 0 rfl) ?_
  refine va_get (D := (dC, dI)) (ci := 0) (v := .int ss) (C := R_LazyMachine) (T := F_LazyMachine) (N := 13) hx hb hts (fun q hq => List.mem_cons_of_mem _ (i_LazyMachine q hq)) hown hK hP 0 rfl rfl 4 (by decide) (hts _ (List.mem_cons_of_mem _ m_2_11)) (fun _ h9 => h9) rfl d_LazyMachine_apply_1 ?_
  refine lv_iconst (v := 2) hx hb d_LazyMachine_apply_4 (by decide) ?_
  refine lv_icmp_ne hx hb d_LazyMachine_apply_5 rfl (fun h5 => by exact absurd hs h5) (fun h5 => ?_)
  refine lv_aload_n hx hb d_LazyMachine_apply_8 rfl (lv_at hl 0 rfl) ?_
  refine va_get (D := (dC, dI)) (ci := 0) (v := .int vs) (C := R_LazyMachine) (T := F_LazyMachine) (N := 13) hx hb hts (fun q hq => List.mem_cons_of_mem _ (i_LazyMachine q hq)) hown hK hP 0 rfl rfl 10 (by decide) (hts _ (List.mem_cons_of_mem _ m_2_17)) (fun _ h9 => h9) rfl d_LazyMachine_apply_9 ?_
  refine lv_iconst (v := 1) hx hb d_LazyMachine_apply_12 (by decide) ?_
  refine lv_icmp_eq hx hb d_LazyMachine_apply_13 rfl (fun h13 => ?_) (fun h13 => by exact absurd hv h13)
  refine lv_aload_n hx hb d_LazyMachine_apply_26 rfl (lv_at hl 0 rfl) ?_
  refine lv_iconst (v := 2) hx hb d_LazyMachine_apply_27 (by decide) ?_
  refine lm_vi (b := ad 0) (As := [.int 2]) (rest := []) (wr := ([] : va_W)) ⟨hx, hb, hml, hown, hts⟩ hK hP hD hS hA [0, 1, 2, 3, 4, 5, 6, 7, 8, 9, 10, 11, 12, 13, 14, 15, 16, 17, 18, 19, 20, 21, 22, 23, 24, 25] [] rfl rfl (by decide) (by decide) (by decide) (c_LazyMachine_hasRoomFor l dC dI cA ad _ ((ss, sp, fo, ba, no, en, vs, vf, vg), SM, PM, XM, YM) 2 (by exact hi)) (cwV 1 hts (lm_gV m_8_7 m_8_8 m_19_10 m_0_1 m_8_9) rfl rfl rfl (by decide +kernel) ⟨Nat.le_of_ble_eq_true rfl, Nat.le_of_ble_eq_true rfl⟩) (va_recv (q0 := 0) hK hP rfl rfl) lm_bl_no (fun _ _ _ => trivial) hl.1 rfl rfl (Nat.le_of_ble_eq_true rfl) d_LazyMachine_apply_28 ⟨Nat.le_of_ble_eq_true rfl, Nat.le_of_ble_eq_true rfl⟩ (fun r28 u28 H locs w28 hP hD hS => ?_)
  obtain ⟨e_r28, w28⟩ := w28
  have hP : va_P (dC, dI) classes (lz_W cA ad u28) H := hP
  have hD : va_D A (lz_W cA ad u28) := hD
  refine lv_if_eq hx hb d_LazyMachine_apply_31 rfl (fun h31 => ?_) (fun h31 => ?_)
  · refine lv_aload_n hx hb d_LazyMachine_apply_56 rfl (lv_at hl 0 rfl) ?_
    refine lv_bipush (v := 6) hx hb d_LazyMachine_apply_57 (by decide) ?_
    refine va_put (D := (dC, dI)) (ci := 0) (v := .int 6) (ty := .int) (C := R_LazyMachine) (T := F_LazyMachine) (N := 13) hx hb hts (fun q hq => List.mem_cons_of_mem _ (i_LazyMachine q hq)) t_LazyMachine t_LazyMachine_ok n_LazyMachine hown hK hP hD hS 0 rfl rfl 4 (by decide) (hts _ (List.mem_cons_of_mem _ m_2_11)) (fun _ h9 => h9) rfl (by decide +kernel) rfl rfl (Nat.le_of_ble_eq_true rfl) d_LazyMachine_apply_59 (fun H locs hP hD hS => ?_)
    have hP : va_P (dC, dI) classes (lz_W cA ad ((6, u28.1.2.1, u28.1.2.2.1, u28.1.2.2.2.1, u28.1.2.2.2.2.1, u28.1.2.2.2.2.2.1, u28.1.2.2.2.2.2.2.1, u28.1.2.2.2.2.2.2.2.1, u28.1.2.2.2.2.2.2.2.2), u28.2.1, u28.2.2.1, u28.2.2.2.1, u28.2.2.2.2)) H := hP
    have hD : va_D A (lz_W cA ad ((6, u28.1.2.1, u28.1.2.2.1, u28.1.2.2.2.1, u28.1.2.2.2.2.1, u28.1.2.2.2.2.2.1, u28.1.2.2.2.2.2.2.1, u28.1.2.2.2.2.2.2.2.1, u28.1.2.2.2.2.2.2.2.2), u28.2.1, u28.2.2.1, u28.2.2.2.1, u28.2.2.2.2)) := hD
    refine lv_aload_n hx hb d_LazyMachine_apply_62 rfl (lv_at hl 0 rfl) ?_
    refine va_get (D := (dC, dI)) (ci := 0) (v := .int 6) (C := R_LazyMachine) (T := F_LazyMachine) (N := 13) hx hb hts (fun q hq => List.mem_cons_of_mem _ (i_LazyMachine q hq)) hown hK hP 0 rfl rfl 4 (by decide) (hts _ (List.mem_cons_of_mem _ m_2_11)) (fun _ h9 => h9) rfl d_LazyMachine_apply_63 ?_
    refine lm_ri (v := 6) hx hb hr hlocks ((6, u28.1.2.1, u28.1.2.2.1, u28.1.2.2.2.1, u28.1.2.2.2.2.1, u28.1.2.2.2.2.2.1, u28.1.2.2.2.2.2.2.1, u28.1.2.2.2.2.2.2.2.1, u28.1.2.2.2.2.2.2.2.2), u28.2.1, u28.2.2.1, u28.2.2.2.1, u28.2.2.2.2) ?_ hP hK hD hS d_LazyMachine_apply_66
    subst e_r28 w28; unfold ma_app; (first | rw [if_pos h31] | rw [if_neg h31]); exact ⟨rfl, rfl⟩
  · refine lv_aload_n hx hb d_LazyMachine_apply_34 rfl (lv_at hl 0 rfl) ?_
    refine lv_aload_n hx hb d_LazyMachine_apply_35 rfl (lv_at hl 0 rfl) ?_
    refine va_get (D := (dC, dI)) (ci := 0) (v := .ref (ad 1)) (C := R_LazyMachine) (T := F_LazyMachine) (N := 13) hx hb hts (fun q hq => List.mem_cons_of_mem _ (i_LazyMachine q hq)) hown hK hP 0 rfl rfl 0 (by decide) (hts _ (List.mem_cons_of_mem _ m_2_7)) (fun _ h9 => h9) rfl d_LazyMachine_apply_36 ?_
    refine lv_iconst (v := 0) hx hb d_LazyMachine_apply_39 (by decide) ?_
    refine lv_iload_n hx hb d_LazyMachine_apply_40 rfl (lv_at hl 1 rfl) ?_
    refine lv_iconst (v := -1) hx hb d_LazyMachine_apply_41 (by decide) ?_
    refine lm_vi (b := ad 1) (As := [.int 0, .int x, .int (-1)]) (rest := [.ref (ad 0)]) (wr := (ma_W cA ad u28.1) ++ (pl_W cA (fun k => ad (k + 8)) u28.2.2.1) ++ (tm_W cA (fun k => ad (k + 12)) u28.2.2.2.1) ++ (tm_W cA (fun k => ad (k + 19)) u28.2.2.2.2)) ⟨hx, hb, hml, hown, hts⟩ hK hP hD hS hA [1, 2, 3, 4, 5, 6, 7] [0, 8, 9, 10, 11, 12, 13, 14, 15, 16, 17, 18, 19, 20, 21, 22, 23, 24, 25] rfl rfl (by decide) (by decide) (by decide) (c_Heap_take l dC dI cA (fun k => ad (k + 1)) _ u28.2.1 0 x (-1) (by show hp_fok (m_H u28); rw [w28]; exact (ma_lo_room hi).2.1)) (cwV 3 hts (lm_gV m_8_22 m_8_23 m_9_0 m_0_2 m_9_1) rfl rfl rfl (by decide +kernel) ⟨Nat.le_of_ble_eq_true rfl, Nat.le_of_ble_eq_true rfl⟩) (va_recv (q0 := 1) hK hP rfl rfl) lm_bl_no (fun _ _ _ => trivial) hl.1 rfl rfl (Nat.le_of_ble_eq_true rfl) d_LazyMachine_apply_42 ⟨Nat.le_of_ble_eq_true rfl, Nat.le_of_ble_eq_true rfl⟩ (fun r42 u42 H locs w42 hP hD hS => ?_)
    obtain ⟨e_r42, w42⟩ := w42
    have hP : va_P (dC, dI) classes (lz_W cA ad (u28.1, u42, u28.2.2.1, u28.2.2.2.1, u28.2.2.2.2)) H := hP.sub [0, 19, 20, 21, 22, 23, 24, 25, 1, 2, 3, 4, 5, 6, 7, 8, 9, 10, 11, 12, 13, 14, 15, 16, 17, 18] rfl
    have hD : va_D A (lz_W cA ad (u28.1, u42, u28.2.2.1, u28.2.2.2.1, u28.2.2.2.2)) := hD.sub [0, 19, 20, 21, 22, 23, 24, 25, 1, 2, 3, 4, 5, 6, 7, 8, 9, 10, 11, 12, 13, 14, 15, 16, 17, 18] (by decide) rfl
    refine lm_vv (b := ad 0) (As := [.int r42]) (rest := []) (wr := ([] : va_W)) ⟨hx, hb, hml, hown, hts⟩ hK hP hD hS hA [0, 1, 2, 3, 4, 5, 6, 7, 8, 9, 10, 11, 12, 13, 14, 15, 16, 17, 18, 19, 20, 21, 22, 23, 24, 25] [] rfl rfl (by decide) (by decide) (by decide) (c_LazyMachine_enterFunction l dC dI cA ad _ (u28.1, u42, u28.2.2.1, u28.2.2.2.1, u28.2.2.2.2) r42 (by show vp_in (l_vf u28) 200; rw [w28, ma_room_vf]; exact hn) (by show hp_fok u42; rw [w42, w28]; exact hp_fok_take (ma_lo_room hi).2.1)) (cwV 1 hts (lm_gV m_8_15 m_8_16 m_19_11 m_0_1 m_8_17) rfl rfl rfl (by decide +kernel) ⟨Nat.le_of_ble_eq_true rfl, Nat.le_of_ble_eq_true rfl⟩) (va_recv (q0 := 0) hK hP rfl rfl) lm_bl_no (fun _ _ _ => trivial) hl.1 rfl rfl (Nat.le_of_ble_eq_true rfl) d_LazyMachine_apply_45 ⟨Nat.le_of_ble_eq_true rfl, Nat.le_of_ble_eq_true rfl⟩ (fun u45 H locs w45 hP hD hS => ?_)
    have hP : va_P (dC, dI) classes (lz_W cA ad u45) H := hP
    have hD : va_D A (lz_W cA ad u45) := hD
    refine lv_aload_n hx hb d_LazyMachine_apply_48 rfl (lv_at hl 0 rfl) ?_
    refine lv_iconst (v := 1) hx hb d_LazyMachine_apply_49 (by decide) ?_
    refine va_put (D := (dC, dI)) (ci := 0) (v := .int 1) (ty := .int) (C := R_LazyMachine) (T := F_LazyMachine) (N := 13) hx hb hts (fun q hq => List.mem_cons_of_mem _ (i_LazyMachine q hq)) t_LazyMachine t_LazyMachine_ok n_LazyMachine hown hK hP hD hS 0 rfl rfl 4 (by decide) (hts _ (List.mem_cons_of_mem _ m_2_11)) (fun _ h9 => h9) rfl (by decide +kernel) rfl rfl (Nat.le_of_ble_eq_true rfl) d_LazyMachine_apply_50 (fun H locs hP hD hS => ?_)
    have hP : va_P (dC, dI) classes (lz_W cA ad ((1, u45.1.2.1, u45.1.2.2.1, u45.1.2.2.2.1, u45.1.2.2.2.2.1, u45.1.2.2.2.2.2.1, u45.1.2.2.2.2.2.2.1, u45.1.2.2.2.2.2.2.2.1, u45.1.2.2.2.2.2.2.2.2), u45.2.1, u45.2.2.1, u45.2.2.2.1, u45.2.2.2.2)) H := hP
    have hD : va_D A (lz_W cA ad ((1, u45.1.2.1, u45.1.2.2.1, u45.1.2.2.2.1, u45.1.2.2.2.2.1, u45.1.2.2.2.2.2.1, u45.1.2.2.2.2.2.2.1, u45.1.2.2.2.2.2.2.2.1, u45.1.2.2.2.2.2.2.2.2), u45.2.1, u45.2.2.1, u45.2.2.2.1, u45.2.2.2.2)) := hD
    refine lv_goto hx hb d_LazyMachine_apply_53 rfl ?_
    refine lv_aload_n hx hb d_LazyMachine_apply_62 rfl (lv_at hl 0 rfl) ?_
    refine va_get (D := (dC, dI)) (ci := 0) (v := .int 1) (C := R_LazyMachine) (T := F_LazyMachine) (N := 13) hx hb hts (fun q hq => List.mem_cons_of_mem _ (i_LazyMachine q hq)) hown hK hP 0 rfl rfl 4 (by decide) (hts _ (List.mem_cons_of_mem _ m_2_11)) (fun _ h9 => h9) rfl d_LazyMachine_apply_63 ?_
    refine lm_ri (v := 1) hx hb hr hlocks ((1, u45.1.2.1, u45.1.2.2.1, u45.1.2.2.2.1, u45.1.2.2.2.2.1, u45.1.2.2.2.2.2.1, u45.1.2.2.2.2.2.2.1, u45.1.2.2.2.2.2.2.2.1, u45.1.2.2.2.2.2.2.2.2), u45.2.1, u45.2.2.1, u45.2.2.2.1, u45.2.2.2.2) ?_ hP hK hD hS d_LazyMachine_apply_66
    subst e_r28 w28 e_r42 w42 w45; unfold ma_app; (first | rw [if_pos h31] | rw [if_neg h31]); exact ⟨rfl, rfl⟩
set_option maxHeartbeats 4000000 in
set_option maxRecDepth 100000 in
theorem c_LazyMachine_count (l : Launch) (dC : Nat → ClassId) (dI : Nat → Nat → Nat) (cA : ClassId)  (ad : Nat → Nat) (sz : Nat) (M : ZMS) (x : Int32) (hi : x = 6 → ma_lo M) : Met l y_LazyMachine_count w_LazyMachine_count ({ frames := 3, cells := 0, slots := 0, locals := 66 } : Room) (va_Pc [.ref (ad 0), .int x] (lm_pre (dC, dI) classes [(cA, .int)] (lz_W cA ad M) sz lm_no)) (va_Qi (fun (r : Int32) (u : ZMS) => r = (ma_count M x).1 ∧ u = (ma_count M x).2) (fun u => lm_at (dC, dI) classes [(cA, .int)] (va_A (lz_W cA ad M) sz) (lz_W cA ad u)) (va_A (lz_W cA ad M) sz)) 0 0 (va_A (lz_W cA ad M) sz) := by
  obtain ⟨⟨ss, sp, fo, ba, no, en, vs, vf, vg⟩, SM, PM, XM, YM⟩ := M
  refine lm_met (fun A => va_Qi (fun (r : Int32) (u : ZMS) => r = (ma_count ((ss, sp, fo, ba, no, en, vs, vf, vg), SM, PM, XM, YM) x).1 ∧ u = (ma_count ((ss, sp, fo, ba, no, en, vs, vf, vg), SM, PM, XM, YM) x).2) (fun u => lm_at (dC, dI) classes [(cA, .int)] A (lz_W cA ad u)) A) (by decide) rfl (Nat.le_of_ble_eq_true rfl) ?_
  intro p e s m below meth c A hx hb hr hts hown hlocks hname hml hK hP hD hA hE hsz hAe hS ls hl
  replace hl : lv_has ls 2 [(0, .ref (ad 0)), (1, .int x)] := hl
  clear hAe hsz
  refine lv_iload_n hx hb d_LazyMachine_count_0 rfl (lv_at hl 1 rfl) ?_
  by_cases h1_0 : x = 0
  · refine lv_tableIn (tgt := 52) hx hb d_LazyMachine_count_1 (by rw [h1_0]; decide) (by rw [h1_0]; decide) (by rw [h1_0]; rfl) rfl ?_
    refine lv_aload_n hx hb d_LazyMachine_count_52 rfl (lv_at hl 0 rfl) ?_
    refine va_get (D := (dC, dI)) (ci := 0) (v := .ref (ad 12)) (C := R_LazyMachine) (T := F_LazyMachine) (N := 13) hx hb hts (fun q hq => List.mem_cons_of_mem _ (i_LazyMachine q hq)) hown hK hP 0 rfl rfl 2 (by decide) (hts _ (List.mem_cons_of_mem _ m_2_9)) (fun _ h9 => h9) rfl d_LazyMachine_count_53 ?_
    refine lm_vi (b := ad 12) (As := []) (rest := []) (wr := (ma_W cA ad (ss, sp, fo, ba, no, en, vs, vf, vg)) ++ (hp_W cA (fun k => ad (k + 1)) SM) ++ (pl_W cA (fun k => ad (k + 8)) PM) ++ (tm_W cA (fun k => ad (k + 19)) YM)) ⟨hx, hb, hml, hown, hts⟩ hK hP hD hS hA [12, 13, 14, 15, 16, 17, 18] [0, 1, 2, 3, 4, 5, 6, 7, 8, 9, 10, 11, 19, 20, 21, 22, 23, 24, 25] rfl rfl (by decide) (by decide) (by decide) (c_Term_size l dC dI cA (fun k => ad (k + 12)) _ XM  ) (cwV 0 hts (lm_gV m_4_16 m_4_17 m_4_18 m_0_4 m_4_19) rfl rfl rfl (by decide +kernel) ⟨Nat.le_of_ble_eq_true rfl, Nat.le_of_ble_eq_true rfl⟩) (va_recv (q0 := 12) hK hP rfl rfl) lm_bl_no (fun _ _ _ => trivial) hl.1 rfl rfl (Nat.le_of_ble_eq_true rfl) d_LazyMachine_count_56 ⟨Nat.le_of_ble_eq_true rfl, Nat.le_of_ble_eq_true rfl⟩ (fun r56 u56 H locs w56 hP hD hS => ?_)
    obtain ⟨e_r56, w56⟩ := w56
    replace e_r56 := e_r56.symm
    subst e_r56
    replace w56 := w56.symm
    subst w56
    have hP : va_P (dC, dI) classes (lz_W cA ad ((ss, sp, fo, ba, no, en, vs, vf, vg), SM, PM, XM, YM)) H := hP.sub [0, 1, 2, 3, 4, 5, 6, 7, 8, 9, 10, 11, 19, 20, 21, 22, 23, 24, 25, 12, 13, 14, 15, 16, 17, 18] rfl
    have hD : va_D A (lz_W cA ad ((ss, sp, fo, ba, no, en, vs, vf, vg), SM, PM, XM, YM)) := hD.sub [0, 1, 2, 3, 4, 5, 6, 7, 8, 9, 10, 11, 19, 20, 21, 22, 23, 24, 25, 12, 13, 14, 15, 16, 17, 18] (by decide) rfl
    refine lm_ri (v := (t_sz XM)) hx hb hr hlocks ((ss, sp, fo, ba, no, en, vs, vf, vg), SM, PM, XM, YM) ?_ hP hK hD hS d_LazyMachine_count_59
    unfold ma_count; rw [if_pos h1_0]; exact ⟨rfl, rfl⟩
  by_cases h1_1 : x = 1
  · refine lv_tableIn (tgt := 60) hx hb d_LazyMachine_count_1 (by rw [h1_1]; decide) (by rw [h1_1]; decide) (by rw [h1_1]; rfl) rfl ?_
    refine lv_aload_n hx hb d_LazyMachine_count_60 rfl (lv_at hl 0 rfl) ?_
    refine va_get (D := (dC, dI)) (ci := 0) (v := .ref (ad 19)) (C := R_LazyMachine) (T := F_LazyMachine) (N := 13) hx hb hts (fun q hq => List.mem_cons_of_mem _ (i_LazyMachine q hq)) hown hK hP 0 rfl rfl 3 (by decide) (hts _ (List.mem_cons_of_mem _ m_2_10)) (fun _ h9 => h9) rfl d_LazyMachine_count_61 ?_
    refine lm_vi (b := ad 19) (As := []) (rest := []) (wr := (ma_W cA ad (ss, sp, fo, ba, no, en, vs, vf, vg)) ++ (hp_W cA (fun k => ad (k + 1)) SM) ++ (pl_W cA (fun k => ad (k + 8)) PM) ++ (tm_W cA (fun k => ad (k + 12)) XM)) ⟨hx, hb, hml, hown, hts⟩ hK hP hD hS hA [19, 20, 21, 22, 23, 24, 25] [0, 1, 2, 3, 4, 5, 6, 7, 8, 9, 10, 11, 12, 13, 14, 15, 16, 17, 18] rfl rfl (by decide) (by decide) (by decide) (c_Term_size l dC dI cA (fun k => ad (k + 19)) _ YM  ) (cwV 0 hts (lm_gV m_4_16 m_4_17 m_4_18 m_0_4 m_4_19) rfl rfl rfl (by decide +kernel) ⟨Nat.le_of_ble_eq_true rfl, Nat.le_of_ble_eq_true rfl⟩) (va_recv (q0 := 19) hK hP rfl rfl) lm_bl_no (fun _ _ _ => trivial) hl.1 rfl rfl (Nat.le_of_ble_eq_true rfl) d_LazyMachine_count_64 ⟨Nat.le_of_ble_eq_true rfl, Nat.le_of_ble_eq_true rfl⟩ (fun r64 u64 H locs w64 hP hD hS => ?_)
    obtain ⟨e_r64, w64⟩ := w64
    replace e_r64 := e_r64.symm
    subst e_r64
    replace w64 := w64.symm
    subst w64
    have hP : va_P (dC, dI) classes (lz_W cA ad ((ss, sp, fo, ba, no, en, vs, vf, vg), SM, PM, XM, YM)) H := hP
    have hD : va_D A (lz_W cA ad ((ss, sp, fo, ba, no, en, vs, vf, vg), SM, PM, XM, YM)) := hD
    refine lm_ri (v := (t_sz YM)) hx hb hr hlocks ((ss, sp, fo, ba, no, en, vs, vf, vg), SM, PM, XM, YM) ?_ hP hK hD hS d_LazyMachine_count_67
    unfold ma_count; rw [if_neg h1_0]; rw [if_pos h1_1]; exact ⟨rfl, rfl⟩
  by_cases h1_2 : x = 2
  · refine lv_tableIn (tgt := 68) hx hb d_LazyMachine_count_1 (by rw [h1_2]; decide) (by rw [h1_2]; decide) (by rw [h1_2]; rfl) rfl ?_
    refine lv_aload_n hx hb d_LazyMachine_count_68 rfl (lv_at hl 0 rfl) ?_
    refine va_get (D := (dC, dI)) (ci := 0) (v := .int ss) (C := R_LazyMachine) (T := F_LazyMachine) (N := 13) hx hb hts (fun q hq => List.mem_cons_of_mem _ (i_LazyMachine q hq)) hown hK hP 0 rfl rfl 4 (by decide) (hts _ (List.mem_cons_of_mem _ m_2_11)) (fun _ h9 => h9) rfl d_LazyMachine_count_69 ?_
    refine lm_ri (v := ss) hx hb hr hlocks ((ss, sp, fo, ba, no, en, vs, vf, vg), SM, PM, XM, YM) ?_ hP hK hD hS d_LazyMachine_count_72
    unfold ma_count; rw [if_neg h1_0]; rw [if_neg h1_1]; rw [if_pos h1_2]; exact ⟨rfl, rfl⟩
  by_cases h1_3 : x = 3
  · refine lv_tableIn (tgt := 73) hx hb d_LazyMachine_count_1 (by rw [h1_3]; decide) (by rw [h1_3]; decide) (by rw [h1_3]; rfl) rfl ?_
    refine lv_aload_n hx hb d_LazyMachine_count_73 rfl (lv_at hl 0 rfl) ?_
    refine va_get (D := (dC, dI)) (ci := 0) (v := .int sp) (C := R_LazyMachine) (T := F_LazyMachine) (N := 13) hx hb hts (fun q hq => List.mem_cons_of_mem _ (i_LazyMachine q hq)) hown hK hP 0 rfl rfl 5 (by decide) (hts _ (List.mem_cons_of_mem _ m_2_12)) (fun _ h9 => h9) rfl d_LazyMachine_count_74 ?_
    refine lm_ri (v := sp) hx hb hr hlocks ((ss, sp, fo, ba, no, en, vs, vf, vg), SM, PM, XM, YM) ?_ hP hK hD hS d_LazyMachine_count_77
    unfold ma_count; rw [if_neg h1_0]; rw [if_neg h1_1]; rw [if_neg h1_2]; rw [if_pos h1_3]; exact ⟨rfl, rfl⟩
  by_cases h1_4 : x = 4
  · refine lv_tableIn (tgt := 78) hx hb d_LazyMachine_count_1 (by rw [h1_4]; decide) (by rw [h1_4]; decide) (by rw [h1_4]; rfl) rfl ?_
    refine lv_aload_n hx hb d_LazyMachine_count_78 rfl (lv_at hl 0 rfl) ?_
    refine va_get (D := (dC, dI)) (ci := 0) (v := .int fo) (C := R_LazyMachine) (T := F_LazyMachine) (N := 13) hx hb hts (fun q hq => List.mem_cons_of_mem _ (i_LazyMachine q hq)) hown hK hP 0 rfl rfl 6 (by decide) (hts _ (List.mem_cons_of_mem _ m_2_13)) (fun _ h9 => h9) rfl d_LazyMachine_count_79 ?_
    refine lm_ri (v := fo) hx hb hr hlocks ((ss, sp, fo, ba, no, en, vs, vf, vg), SM, PM, XM, YM) ?_ hP hK hD hS d_LazyMachine_count_82
    unfold ma_count; rw [if_neg h1_0]; rw [if_neg h1_1]; rw [if_neg h1_2]; rw [if_neg h1_3]; rw [if_pos h1_4]; exact ⟨rfl, rfl⟩
  by_cases h1_5 : x = 5
  · refine lv_tableIn (tgt := 83) hx hb d_LazyMachine_count_1 (by rw [h1_5]; decide) (by rw [h1_5]; decide) (by rw [h1_5]; rfl) rfl ?_
    refine lv_aload_n hx hb d_LazyMachine_count_83 rfl (lv_at hl 0 rfl) ?_
    refine va_get (D := (dC, dI)) (ci := 0) (v := .ref (ad 8)) (C := R_LazyMachine) (T := F_LazyMachine) (N := 13) hx hb hts (fun q hq => List.mem_cons_of_mem _ (i_LazyMachine q hq)) hown hK hP 0 rfl rfl 1 (by decide) (hts _ (List.mem_cons_of_mem _ m_2_8)) (fun _ h9 => h9) rfl d_LazyMachine_count_84 ?_
    refine lm_vi (b := ad 8) (As := []) (rest := []) (wr := (ma_W cA ad (ss, sp, fo, ba, no, en, vs, vf, vg)) ++ (hp_W cA (fun k => ad (k + 1)) SM) ++ (tm_W cA (fun k => ad (k + 12)) XM) ++ (tm_W cA (fun k => ad (k + 19)) YM)) ⟨hx, hb, hml, hown, hts⟩ hK hP hD hS hA [8, 9, 10, 11] [0, 1, 2, 3, 4, 5, 6, 7, 12, 13, 14, 15, 16, 17, 18, 19, 20, 21, 22, 23, 24, 25] rfl rfl (by decide) (by decide) (by decide) (c_Pile_size l dC dI cA (fun k => ad (k + 8)) _ PM  ) (cwV 0 hts (lm_gV m_4_20 m_4_21 m_4_22 m_0_3 m_4_23) rfl rfl rfl (by decide +kernel) ⟨Nat.le_of_ble_eq_true rfl, Nat.le_of_ble_eq_true rfl⟩) (va_recv (q0 := 8) hK hP rfl rfl) lm_bl_no (fun _ _ _ => trivial) hl.1 rfl rfl (Nat.le_of_ble_eq_true rfl) d_LazyMachine_count_87 ⟨Nat.le_of_ble_eq_true rfl, Nat.le_of_ble_eq_true rfl⟩ (fun r87 u87 H locs w87 hP hD hS => ?_)
    obtain ⟨e_r87, w87⟩ := w87
    replace e_r87 := e_r87.symm
    subst e_r87
    replace w87 := w87.symm
    subst w87
    have hP : va_P (dC, dI) classes (lz_W cA ad ((ss, sp, fo, ba, no, en, vs, vf, vg), SM, PM, XM, YM)) H := hP.sub [0, 1, 2, 3, 4, 5, 6, 7, 22, 23, 24, 25, 8, 9, 10, 11, 12, 13, 14, 15, 16, 17, 18, 19, 20, 21] rfl
    have hD : va_D A (lz_W cA ad ((ss, sp, fo, ba, no, en, vs, vf, vg), SM, PM, XM, YM)) := hD.sub [0, 1, 2, 3, 4, 5, 6, 7, 22, 23, 24, 25, 8, 9, 10, 11, 12, 13, 14, 15, 16, 17, 18, 19, 20, 21] (by decide) rfl
    refine lm_ri (v := (p_sz PM)) hx hb hr hlocks ((ss, sp, fo, ba, no, en, vs, vf, vg), SM, PM, XM, YM) ?_ hP hK hD hS d_LazyMachine_count_90
    unfold ma_count; rw [if_neg h1_0]; rw [if_neg h1_1]; rw [if_neg h1_2]; rw [if_neg h1_3]; rw [if_neg h1_4]; rw [if_pos h1_5]; exact ⟨rfl, rfl⟩
  by_cases h1_6 : x = 6
  · refine lv_tableIn (tgt := 91) hx hb d_LazyMachine_count_1 (by rw [h1_6]; decide) (by rw [h1_6]; decide) (by rw [h1_6]; rfl) rfl ?_
    refine lv_aload_n hx hb d_LazyMachine_count_91 rfl (lv_at hl 0 rfl) ?_
    refine lm_vv (b := ad 0) (As := []) (rest := []) (wr := ([] : va_W)) ⟨hx, hb, hml, hown, hts⟩ hK hP hD hS hA [0, 1, 2, 3, 4, 5, 6, 7, 8, 9, 10, 11, 12, 13, 14, 15, 16, 17, 18, 19, 20, 21, 22, 23, 24, 25] [] rfl rfl (by decide) (by decide) (by decide) (c_LazyMachine_markRoots l dC dI cA ad _ ((ss, sp, fo, ba, no, en, vs, vf, vg), SM, PM, XM, YM)  (by exact hi h1_6)) (cwV 0 hts (lm_gV m_5_0 m_5_1 m_19_7 m_0_1 m_5_2) rfl rfl rfl (by decide +kernel) ⟨Nat.le_of_ble_eq_true rfl, Nat.le_of_ble_eq_true rfl⟩) (va_recv (q0 := 0) hK hP rfl rfl) lm_bl_no (fun _ _ _ => trivial) hl.1 rfl rfl (Nat.le_of_ble_eq_true rfl) d_LazyMachine_count_92 ⟨Nat.le_of_ble_eq_true rfl, Nat.le_of_ble_eq_true rfl⟩ (fun u92 H locs w92 hP hD hS => ?_)
    have hP : va_P (dC, dI) classes (lz_W cA ad u92) H := hP
    have hD : va_D A (lz_W cA ad u92) := hD
    refine lv_aload_n hx hb d_LazyMachine_count_95 rfl (lv_at hl 0 rfl) ?_
    refine va_get (D := (dC, dI)) (ci := 0) (v := .ref (ad 1)) (C := R_LazyMachine) (T := F_LazyMachine) (N := 13) hx hb hts (fun q hq => List.mem_cons_of_mem _ (i_LazyMachine q hq)) hown hK hP 0 rfl rfl 0 (by decide) (hts _ (List.mem_cons_of_mem _ m_2_7)) (fun _ h9 => h9) rfl d_LazyMachine_count_96 ?_
    refine lm_vi (b := ad 1) (As := []) (rest := []) (wr := (ma_W cA ad u92.1) ++ (pl_W cA (fun k => ad (k + 8)) u92.2.2.1) ++ (tm_W cA (fun k => ad (k + 12)) u92.2.2.2.1) ++ (tm_W cA (fun k => ad (k + 19)) u92.2.2.2.2)) ⟨hx, hb, hml, hown, hts⟩ hK hP hD hS hA [1, 2, 3, 4, 5, 6, 7] [0, 8, 9, 10, 11, 12, 13, 14, 15, 16, 17, 18, 19, 20, 21, 22, 23, 24, 25] rfl rfl (by decide) (by decide) (by decide) (c_Heap_spreadMarks l dC dI cA (fun k => ad (k + 1)) _ u92.2.1  (by rw [w92]; exact ma_mk_roots (hi h1_6)) (by rw [w92]; exact hp_ok_eq (ma_eq_roots _) (hi h1_6).1)) (cwV 0 hts (lm_gV m_5_18 m_5_19 m_5_20 m_0_2 m_5_21) rfl rfl rfl (by decide +kernel) ⟨Nat.le_of_ble_eq_true rfl, Nat.le_of_ble_eq_true rfl⟩) (va_recv (q0 := 1) hK hP rfl rfl) lm_bl_no (fun _ _ _ => trivial) hl.1 rfl rfl (Nat.le_of_ble_eq_true rfl) d_LazyMachine_count_99 ⟨Nat.le_of_ble_eq_true rfl, Nat.le_of_ble_eq_true rfl⟩ (fun r99 u99 H locs w99 hP hD hS => ?_)
    obtain ⟨e_r99, w99⟩ := w99
    have hP : va_P (dC, dI) classes (lz_W cA ad (u92.1, u99, u92.2.2.1, u92.2.2.2.1, u92.2.2.2.2)) H := hP.sub [0, 19, 20, 21, 22, 23, 24, 25, 1, 2, 3, 4, 5, 6, 7, 8, 9, 10, 11, 12, 13, 14, 15, 16, 17, 18] rfl
    have hD : va_D A (lz_W cA ad (u92.1, u99, u92.2.2.1, u92.2.2.2.1, u92.2.2.2.2)) := hD.sub [0, 19, 20, 21, 22, 23, 24, 25, 1, 2, 3, 4, 5, 6, 7, 8, 9, 10, 11, 12, 13, 14, 15, 16, 17, 18] (by decide) rfl
    refine lm_ri (v := r99) hx hb hr hlocks (u92.1, u99, u92.2.2.1, u92.2.2.2.1, u92.2.2.2.2) ?_ hP hK hD hS d_LazyMachine_count_102
    subst w92 e_r99 w99; unfold ma_count; rw [if_neg h1_0]; rw [if_neg h1_1]; rw [if_neg h1_2]; rw [if_neg h1_3]; rw [if_neg h1_4]; rw [if_neg h1_5]; rw [if_pos h1_6]; exact ⟨rfl, rfl⟩
  by_cases h1_7 : x = 7
  · refine lv_tableIn (tgt := 103) hx hb d_LazyMachine_count_1 (by rw [h1_7]; decide) (by rw [h1_7]; decide) (by rw [h1_7]; rfl) rfl ?_
    refine lv_aload_n hx hb d_LazyMachine_count_103 rfl (lv_at hl 0 rfl) ?_
    refine va_get (D := (dC, dI)) (ci := 0) (v := .int ss) (C := R_LazyMachine) (T := F_LazyMachine) (N := 13) hx hb hts (fun q hq => List.mem_cons_of_mem _ (i_LazyMachine q hq)) hown hK hP 0 rfl rfl 4 (by decide) (hts _ (List.mem_cons_of_mem _ m_2_11)) (fun _ h9 => h9) rfl d_LazyMachine_count_104 ?_
    refine lv_if_eq hx hb d_LazyMachine_count_107 rfl (fun h107 => ?_) (fun h107 => ?_)
    · refine lv_iconst (v := -1) hx hb d_LazyMachine_count_117 (by decide) ?_
      refine lv_goto hx hb d_LazyMachine_count_118 rfl ?_
      refine lm_ri (v := (-1)) hx hb hr hlocks ((ss, sp, fo, ba, no, en, vs, vf, vg), SM, PM, XM, YM) ?_ hP hK hD hS d_LazyMachine_count_125
      unfold ma_count; rw [if_neg h1_0]; rw [if_neg h1_1]; rw [if_neg h1_2]; rw [if_neg h1_3]; rw [if_neg h1_4]; rw [if_neg h1_5]; rw [if_neg h1_6]; rw [if_pos h1_7]; (first | rw [if_pos h107] | rw [if_neg h107]); exact ⟨rfl, rfl⟩
    · refine lv_aload_n hx hb d_LazyMachine_count_110 rfl (lv_at hl 0 rfl) ?_
      refine va_get (D := (dC, dI)) (ci := 0) (v := .int ba) (C := R_LazyMachine) (T := F_LazyMachine) (N := 13) hx hb hts (fun q hq => List.mem_cons_of_mem _ (i_LazyMachine q hq)) hown hK hP 0 rfl rfl 7 (by decide) (hts _ (List.mem_cons_of_mem _ m_2_14)) (fun _ h9 => h9) rfl d_LazyMachine_count_111 ?_
      refine lv_if_eq hx hb d_LazyMachine_count_114 rfl (fun h114 => ?_) (fun h114 => ?_)
      · refine lv_aload_n hx hb d_LazyMachine_count_121 rfl (lv_at hl 0 rfl) ?_
        refine va_get (D := (dC, dI)) (ci := 0) (v := .int no) (C := R_LazyMachine) (T := F_LazyMachine) (N := 13) hx hb hts (fun q hq => List.mem_cons_of_mem _ (i_LazyMachine q hq)) hown hK hP 0 rfl rfl 8 (by decide) (hts _ (List.mem_cons_of_mem _ m_2_15)) (fun _ h9 => h9) rfl d_LazyMachine_count_122 ?_
        refine lm_ri (v := no) hx hb hr hlocks ((ss, sp, fo, ba, no, en, vs, vf, vg), SM, PM, XM, YM) ?_ hP hK hD hS d_LazyMachine_count_125
        unfold ma_count; rw [if_neg h1_0]; rw [if_neg h1_1]; rw [if_neg h1_2]; rw [if_neg h1_3]; rw [if_neg h1_4]; rw [if_neg h1_5]; rw [if_neg h1_6]; rw [if_pos h1_7]; (first | rw [if_pos h107] | rw [if_neg h107]); (first | rw [if_pos h114] | rw [if_neg h114]); exact ⟨rfl, rfl⟩
      · refine lv_iconst (v := -1) hx hb d_LazyMachine_count_117 (by decide) ?_
        refine lv_goto hx hb d_LazyMachine_count_118 rfl ?_
        refine lm_ri (v := (-1)) hx hb hr hlocks ((ss, sp, fo, ba, no, en, vs, vf, vg), SM, PM, XM, YM) ?_ hP hK hD hS d_LazyMachine_count_125
        unfold ma_count; rw [if_neg h1_0]; rw [if_neg h1_1]; rw [if_neg h1_2]; rw [if_neg h1_3]; rw [if_neg h1_4]; rw [if_neg h1_5]; rw [if_neg h1_6]; rw [if_pos h1_7]; (first | rw [if_pos h107] | rw [if_neg h107]); (first | rw [if_pos h114] | rw [if_neg h114]); exact ⟨rfl, rfl⟩
  by_cases h1_8 : x = 8
  · refine lv_tableIn (tgt := 126) hx hb d_LazyMachine_count_1 (by rw [h1_8]; decide) (by rw [h1_8]; decide) (by rw [h1_8]; rfl) rfl ?_
    refine lv_aload_n hx hb d_LazyMachine_count_126 rfl (lv_at hl 0 rfl) ?_
    refine va_get (D := (dC, dI)) (ci := 0) (v := .ref (ad 8)) (C := R_LazyMachine) (T := F_LazyMachine) (N := 13) hx hb hts (fun q hq => List.mem_cons_of_mem _ (i_LazyMachine q hq)) hown hK hP 0 rfl rfl 1 (by decide) (hts _ (List.mem_cons_of_mem _ m_2_8)) (fun _ h9 => h9) rfl d_LazyMachine_count_127 ?_
    refine lm_vi (b := ad 8) (As := []) (rest := []) (wr := (ma_W cA ad (ss, sp, fo, ba, no, en, vs, vf, vg)) ++ (hp_W cA (fun k => ad (k + 1)) SM) ++ (tm_W cA (fun k => ad (k + 12)) XM) ++ (tm_W cA (fun k => ad (k + 19)) YM)) ⟨hx, hb, hml, hown, hts⟩ hK hP hD hS hA [8, 9, 10, 11] [0, 1, 2, 3, 4, 5, 6, 7, 12, 13, 14, 15, 16, 17, 18, 19, 20, 21, 22, 23, 24, 25] rfl rfl (by decide) (by decide) (by decide) (c_Pile_most l dC dI cA (fun k => ad (k + 8)) _ PM  ) (cwV 0 hts (lm_gV m_5_23 m_6_0 m_6_1 m_0_3 m_6_2) rfl rfl rfl (by decide +kernel) ⟨Nat.le_of_ble_eq_true rfl, Nat.le_of_ble_eq_true rfl⟩) (va_recv (q0 := 8) hK hP rfl rfl) lm_bl_no (fun _ _ _ => trivial) hl.1 rfl rfl (Nat.le_of_ble_eq_true rfl) d_LazyMachine_count_130 ⟨Nat.le_of_ble_eq_true rfl, Nat.le_of_ble_eq_true rfl⟩ (fun r130 u130 H locs w130 hP hD hS => ?_)
    obtain ⟨e_r130, w130⟩ := w130
    replace e_r130 := e_r130.symm
    subst e_r130
    replace w130 := w130.symm
    subst w130
    have hP : va_P (dC, dI) classes (lz_W cA ad ((ss, sp, fo, ba, no, en, vs, vf, vg), SM, PM, XM, YM)) H := hP.sub [0, 1, 2, 3, 4, 5, 6, 7, 22, 23, 24, 25, 8, 9, 10, 11, 12, 13, 14, 15, 16, 17, 18, 19, 20, 21] rfl
    have hD : va_D A (lz_W cA ad ((ss, sp, fo, ba, no, en, vs, vf, vg), SM, PM, XM, YM)) := hD.sub [0, 1, 2, 3, 4, 5, 6, 7, 22, 23, 24, 25, 8, 9, 10, 11, 12, 13, 14, 15, 16, 17, 18, 19, 20, 21] (by decide) rfl
    refine lm_ri (v := (p_mo PM)) hx hb hr hlocks ((ss, sp, fo, ba, no, en, vs, vf, vg), SM, PM, XM, YM) ?_ hP hK hD hS d_LazyMachine_count_133
    unfold ma_count; rw [if_neg h1_0]; rw [if_neg h1_1]; rw [if_neg h1_2]; rw [if_neg h1_3]; rw [if_neg h1_4]; rw [if_neg h1_5]; rw [if_neg h1_6]; rw [if_neg h1_7]; rw [if_pos h1_8]; exact ⟨rfl, rfl⟩
  have qh1_0 := lv_neT (a := 0) h1_0 (by decide)
  have qh1_1 := lv_neT (a := 1) h1_1 (by decide)
  have qh1_2 := lv_neT (a := 2) h1_2 (by decide)
  have qh1_3 := lv_neT (a := 3) h1_3 (by decide)
  have qh1_4 := lv_neT (a := 4) h1_4 (by decide)
  have qh1_5 := lv_neT (a := 5) h1_5 (by decide)
  have qh1_6 := lv_neT (a := 6) h1_6 (by decide)
  have qh1_7 := lv_neT (a := 7) h1_7 (by decide)
  have qh1_8 := lv_neT (a := 8) h1_8 (by decide)
  refine lv_tableOut (tgt := 134) hx hb d_LazyMachine_count_1 (by omega) rfl ?_
  refine lv_iconst (v := -1) hx hb d_LazyMachine_count_134 (by decide) ?_
  refine lm_ri (v := (-1)) hx hb hr hlocks ((ss, sp, fo, ba, no, en, vs, vf, vg), SM, PM, XM, YM) ?_ hP hK hD hS d_LazyMachine_count_135
  unfold ma_count; rw [if_neg h1_0]; rw [if_neg h1_1]; rw [if_neg h1_2]; rw [if_neg h1_3]; rw [if_neg h1_4]; rw [if_neg h1_5]; rw [if_neg h1_6]; rw [if_neg h1_7]; rw [if_neg h1_8]; exact ⟨rfl, rfl⟩
