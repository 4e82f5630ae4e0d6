set_option maxHeartbeats 4000000 in
set_option maxRecDepth 100000 in
theorem c_Model_begin (l : Launch) (dC : Nat → ClassId) (dI : Nat → Nat → Nat) (cA cZ : ClassId)  (ad : Nat → Nat) (sz : Nat) (S : ZNS)   : Met l y_Model_begin w_Model_begin ({ frames := 0, cells := 0, slots := 0, locals := 0 } : Room) (va_Pc [.ref (ad 0)] (lm_pre (dC, dI) classes [(cA, .int), (cZ, .boolean)] (mr_W cA cZ ad S) sz lm_no)) (va_Qv (fun (u : ZNS) => u = md_begin S) (fun u => lm_at (dC, dI) classes [(cA, .int), (cZ, .boolean)] (va_A (mr_W cA cZ ad S) sz) (mr_W cA cZ ad u)) (va_A (mr_W cA cZ ad S) sz)) 0 0 (va_A (mr_W cA cZ ad S) sz) := by
  obtain ⟨⟨aso, axs, ato, ath, asi⟩, ⟨asr, anu, ach, aow, aar⟩, ⟨ais, aon, atw, awh, afi⟩, ⟨ase, afr, amo, ass, asp⟩, ⟨afo, aba, ano, aen, avs⟩, ⟨avo, avt, are, atd, ale⟩⟩ := S
  refine lm_met (fun A => va_Qv (fun (u : ZNS) => u = md_begin ((aso, axs, ato, ath, asi), (asr, anu, ach, aow, aar), (ais, aon, atw, awh, afi), (ase, afr, amo, ass, asp), (afo, aba, ano, aen, avs), (avo, avt, are, atd, ale))) (fun u => lm_at (dC, dI) classes [(cA, .int), (cZ, .boolean)] A (mr_W cA cZ ad u)) A) (by decide) rfl (Nat.le_of_ble_eq_true rfl) ?_
  intro p e s m below meth c A hx hb hr hts hown hlocks hname hml hK hP hD hA hE hsz hAe hS ls hl
  replace hl : lv_has ls 1 [(0, .ref (ad 0))] := hl
  clear hAe hsz
  refine lv_aload_n hx hb d_Model_begin_0 rfl (lv_at hl 0 rfl) ?_
  refine lv_iconst (v := 1) hx hb d_Model_begin_1 (by decide) ?_
  refine va_put (D := (dC, dI)) (ci := 4) (v := .int 1) (ty := .int) (C := R_Model) (T := F_Model) (N := 30) hx hb hts (fun q hq => List.mem_cons_of_mem _ (i_Model q hq)) t_Model t_Model_ok n_Model hown hK hP hD hS 0 rfl rfl 21 (by decide) (hts _ (List.mem_cons_of_mem _ m_14_14)) (fun _ h9 => h9) rfl (by decide +kernel) rfl rfl (Nat.le_of_ble_eq_true rfl) d_Model_begin_2 (fun H locs hP hD hS => ?_)
  have hP : va_P (dC, dI) classes (mr_W cA cZ ad ((aso, axs, ato, ath, asi), (asr, anu, ach, aow, aar), (ais, aon, atw, awh, afi), (ase, afr, amo, 1, asp), (afo, aba, ano, aen, avs), (avo, avt, are, atd, ale))) H := hP
  have hD : va_D A (mr_W cA cZ ad ((aso, axs, ato, ath, asi), (asr, anu, ach, aow, aar), (ais, aon, atw, awh, afi), (ase, afr, amo, 1, asp), (afo, aba, ano, aen, avs), (avo, avt, are, atd, ale))) := hD
  refine lv_aload_n hx hb d_Model_begin_5 rfl (lv_at hl 0 rfl) ?_
  refine lv_iconst (v := 0) hx hb d_Model_begin_6 (by decide) ?_
  refine va_put (D := (dC, dI)) (ci := 4) (v := .int 0) (ty := .int) (C := R_Model) (T := F_Model) (N := 30) hx hb hts (fun q hq => List.mem_cons_of_mem _ (i_Model q hq)) t_Model t_Model_ok n_Model hown hK hP hD hS 0 rfl rfl 22 (by decide) (hts _ (List.mem_cons_of_mem _ m_14_15)) (fun _ h9 => h9) rfl (by decide +kernel) rfl rfl (Nat.le_of_ble_eq_true rfl) d_Model_begin_7 (fun H locs hP hD hS => ?_)
  have hP : va_P (dC, dI) classes (mr_W cA cZ ad ((aso, axs, ato, ath, asi), (asr, anu, ach, aow, aar), (ais, aon, atw, awh, afi), (ase, afr, amo, 1, 0), (afo, aba, ano, aen, avs), (avo, avt, are, atd, ale))) H := hP
  have hD : va_D A (mr_W cA cZ ad ((aso, axs, ato, ath, asi), (asr, anu, ach, aow, aar), (ais, aon, atw, awh, afi), (ase, afr, amo, 1, 0), (afo, aba, ano, aen, avs), (avo, avt, are, atd, ale))) := hD
  refine lv_aload_n hx hb d_Model_begin_10 rfl (lv_at hl 0 rfl) ?_
  refine lv_iconst (v := 0) hx hb d_Model_begin_11 (by decide) ?_
  refine va_put (D := (dC, dI)) (ci := 4) (v := .int 0) (ty := .int) (C := R_Model) (T := F_Model) (N := 30) hx hb hts (fun q hq => List.mem_cons_of_mem _ (i_Model q hq)) t_Model t_Model_ok n_Model hown hK hP hD hS 0 rfl rfl 23 (by decide) (hts _ (List.mem_cons_of_mem _ m_14_16)) (fun _ h9 => h9) rfl (by decide +kernel) rfl rfl (Nat.le_of_ble_eq_true rfl) d_Model_begin_12 (fun H locs hP hD hS => ?_)
  have hP : va_P (dC, dI) classes (mr_W cA cZ ad ((aso, axs, ato, ath, asi), (asr, anu, ach, aow, aar), (ais, aon, atw, awh, afi), (ase, afr, amo, 1, 0), (0, aba, ano, aen, avs), (avo, avt, are, atd, ale))) H := hP
  have hD : va_D A (mr_W cA cZ ad ((aso, axs, ato, ath, asi), (asr, anu, ach, aow, aar), (ais, aon, atw, awh, afi), (ase, afr, amo, 1, 0), (0, aba, ano, aen, avs), (avo, avt, are, atd, ale))) := hD
  refine lv_aload_n hx hb d_Model_begin_15 rfl (lv_at hl 0 rfl) ?_
  refine lv_iconst (v := 0) hx hb d_Model_begin_16 (by decide) ?_
  refine va_put (D := (dC, dI)) (ci := 4) (v := .int 0) (ty := .int) (C := R_Model) (T := F_Model) (N := 30) hx hb hts (fun q hq => List.mem_cons_of_mem _ (i_Model q hq)) t_Model t_Model_ok n_Model hown hK hP hD hS 0 rfl rfl 19 (by decide) (hts _ (List.mem_cons_of_mem _ m_14_12)) (fun _ h9 => h9) rfl (by decide +kernel) rfl rfl (Nat.le_of_ble_eq_true rfl) d_Model_begin_17 (fun H locs hP hD hS => ?_)
  have hP : va_P (dC, dI) classes (mr_W cA cZ ad ((aso, axs, ato, ath, asi), (asr, anu, ach, aow, aar), (ais, aon, atw, awh, afi), (ase, 0, amo, 1, 0), (0, aba, ano, aen, avs), (avo, avt, are, atd, ale))) H := hP
  have hD : va_D A (mr_W cA cZ ad ((aso, axs, ato, ath, asi), (asr, anu, ach, aow, aar), (ais, aon, atw, awh, afi), (ase, 0, amo, 1, 0), (0, aba, ano, aen, avs), (avo, avt, are, atd, ale))) := hD
  refine lv_aload_n hx hb d_Model_begin_20 rfl (lv_at hl 0 rfl) ?_
  refine lv_iconst (v := 0) hx hb d_Model_begin_21 (by decide) ?_
  refine va_put (D := (dC, dI)) (ci := 4) (v := .int 0) (ty := .int) (C := R_Model) (T := F_Model) (N := 30) hx hb hts (fun q hq => List.mem_cons_of_mem _ (i_Model q hq)) t_Model t_Model_ok n_Model hown hK hP hD hS 0 rfl rfl 20 (by decide) (hts _ (List.mem_cons_of_mem _ m_14_13)) (fun _ h9 => h9) rfl (by decide +kernel) rfl rfl (Nat.le_of_ble_eq_true rfl) d_Model_begin_22 (fun H locs hP hD hS => ?_)
  have hP : va_P (dC, dI) classes (mr_W cA cZ ad ((aso, axs, ato, ath, asi), (asr, anu, ach, aow, aar), (ais, aon, atw, awh, afi), (ase, 0, 0, 1, 0), (0, aba, ano, aen, avs), (avo, avt, are, atd, ale))) H := hP
  have hD : va_D A (mr_W cA cZ ad ((aso, axs, ato, ath, asi), (asr, anu, ach, aow, aar), (ais, aon, atw, awh, afi), (ase, 0, 0, 1, 0), (0, aba, ano, aen, avs), (avo, avt, are, atd, ale))) := hD
  refine lv_aload_n hx hb d_Model_begin_25 rfl (lv_at hl 0 rfl) ?_
  refine lv_iconst (v := 0) hx hb d_Model_begin_26 (by decide) ?_
  refine va_put (D := (dC, dI)) (ci := 4) (v := .int 0) (ty := .boolean) (C := R_Model) (T := F_Model) (N := 30) hx hb hts (fun q hq => List.mem_cons_of_mem _ (i_Model q hq)) t_Model t_Model_ok n_Model hown hK hP hD hS 0 rfl rfl 24 (by decide) (hts _ (List.mem_cons_of_mem _ m_14_17)) (fun _ h9 => h9) rfl (by decide +kernel) (by decide +kernel) (by decide +kernel) (Nat.le_of_ble_eq_true rfl) d_Model_begin_27 (fun H locs hP hD hS => ?_)
  have hP : va_P (dC, dI) classes (mr_W cA cZ ad ((aso, axs, ato, ath, asi), (asr, anu, ach, aow, aar), (ais, aon, atw, awh, afi), (ase, 0, 0, 1, 0), (0, 0, ano, aen, avs), (avo, avt, are, atd, ale))) H := hP
  have hD : va_D A (mr_W cA cZ ad ((aso, axs, ato, ath, asi), (asr, anu, ach, aow, aar), (ais, aon, atw, awh, afi), (ase, 0, 0, 1, 0), (0, 0, ano, aen, avs), (avo, avt, are, atd, ale))) := hD
  refine lv_aload_n hx hb d_Model_begin_30 rfl (lv_at hl 0 rfl) ?_
  refine lv_iconst (v := 0) hx hb d_Model_begin_31 (by decide) ?_
  refine va_put (D := (dC, dI)) (ci := 4) (v := .int 0) (ty := .int) (C := R_Model) (T := F_Model) (N := 30) hx hb hts (fun q hq => List.mem_cons_of_mem _ (i_Model q hq)) t_Model t_Model_ok n_Model hown hK hP hD hS 0 rfl rfl 25 (by decide) (hts _ (List.mem_cons_of_mem _ m_14_18)) (fun _ h9 => h9) rfl (by decide +kernel) rfl rfl (Nat.le_of_ble_eq_true rfl) d_Model_begin_32 (fun H locs hP hD hS => ?_)
  have hP : va_P (dC, dI) classes (mr_W cA cZ ad ((aso, axs, ato, ath, asi), (asr, anu, ach, aow, aar), (ais, aon, atw, awh, afi), (ase, 0, 0, 1, 0), (0, 0, 0, aen, avs), (avo, avt, are, atd, ale))) H := hP
  have hD : va_D A (mr_W cA cZ ad ((aso, axs, ato, ath, asi), (asr, anu, ach, aow, aar), (ais, aon, atw, awh, afi), (ase, 0, 0, 1, 0), (0, 0, 0, aen, avs), (avo, avt, are, atd, ale))) := hD
  refine lv_aload_n hx hb d_Model_begin_35 rfl (lv_at hl 0 rfl) ?_
  refine lv_iconst (v := -1) hx hb d_Model_begin_36 (by decide) ?_
  refine va_put (D := (dC, dI)) (ci := 4) (v := .int (-1)) (ty := .int) (C := R_Model) (T := F_Model) (N := 30) hx hb hts (fun q hq => List.mem_cons_of_mem _ (i_Model q hq)) t_Model t_Model_ok n_Model hown hK hP hD hS 0 rfl rfl 26 (by decide) (hts _ (List.mem_cons_of_mem _ m_14_19)) (fun _ h9 => h9) rfl (by decide +kernel) rfl rfl (Nat.le_of_ble_eq_true rfl) d_Model_begin_37 (fun H locs hP hD hS => ?_)
  have hP : va_P (dC, dI) classes (mr_W cA cZ ad ((aso, axs, ato, ath, asi), (asr, anu, ach, aow, aar), (ais, aon, atw, awh, afi), (ase, 0, 0, 1, 0), (0, 0, 0, (-1), avs), (avo, avt, are, atd, ale))) H := hP
  have hD : va_D A (mr_W cA cZ ad ((aso, axs, ato, ath, asi), (asr, anu, ach, aow, aar), (ais, aon, atw, awh, afi), (ase, 0, 0, 1, 0), (0, 0, 0, (-1), avs), (avo, avt, are, atd, ale))) := hD
  refine lm_rv hx hb hr hlocks ((aso, axs, ato, ath, asi), (asr, anu, ach, aow, aar), (ais, aon, atw, awh, afi), (ase, 0, 0, 1, 0), (0, 0, 0, (-1), avs), (avo, avt, are, atd, ale)) ?_ hP hK hD hS d_Model_begin_40
  rfl
set_option maxHeartbeats 4000000 in
set_option maxRecDepth 100000 in
theorem c_Model_restart (l : Launch) (dC : Nat → ClassId) (dI : Nat → Nat → Nat) (cA cZ : ClassId)  (ad : Nat → Nat) (sz : Nat) (S : ZNS)   : Met l y_Model_restart w_Model_restart ({ frames := 1, cells := 0, slots := 0, locals := 22 } : Room) (va_Pc [.ref (ad 0)] (lm_pre (dC, dI) classes [(cA, .int), (cZ, .boolean)] (mr_W cA cZ ad S) sz lm_no)) (va_Qv (fun (u : ZNS) => u = md_restart S) (fun u => lm_at (dC, dI) classes [(cA, .int), (cZ, .boolean)] (va_A (mr_W cA cZ ad S) sz) (mr_W cA cZ ad u)) (va_A (mr_W cA cZ ad S) sz)) 0 0 (va_A (mr_W cA cZ ad S) sz) := by
  obtain ⟨⟨aso, axs, ato, ath, asi⟩, ⟨asr, anu, ach, aow, aar⟩, ⟨ais, aon, atw, awh, afi⟩, ⟨ase, afr, amo, ass, asp⟩, ⟨afo, aba, ano, aen, avs⟩, ⟨avo, avt, are, atd, ale⟩⟩ := S
  refine lm_met (fun A => va_Qv (fun (u : ZNS) => u = md_restart ((aso, axs, ato, ath, asi), (asr, anu, ach, aow, aar), (ais, aon, atw, awh, afi), (ase, afr, amo, ass, asp), (afo, aba, ano, aen, avs), (avo, avt, are, atd, ale))) (fun u => lm_at (dC, dI) classes [(cA, .int), (cZ, .boolean)] A (mr_W cA cZ ad u)) A) (by decide) rfl (Nat.le_of_ble_eq_true rfl) ?_
  intro p e s m below meth c A hx hb hr hts hown hlocks hname hml hK hP hD hA hE hsz hAe hS ls hl
  replace hl : lv_has ls 1 [(0, .ref (ad 0))] := hl
  clear hAe hsz
  refine lv_aload_n hx hb d_Model_restart_0 rfl (lv_at hl 0 rfl) ?_
  refine lv_aload_n hx hb d_Model_restart_1 rfl (lv_at hl 0 rfl) ?_
  refine va_get (D := (dC, dI)) (ci := 4) (v := .int ass) (C := R_Model) (T := F_Model) (N := 30) hx hb hts (fun q hq => List.mem_cons_of_mem _ (i_Model q hq)) hown hK hP 0 rfl rfl 21 (by decide) (hts _ (List.mem_cons_of_mem _ m_14_14)) (fun _ h9 => h9) rfl d_Model_restart_2 ?_
  refine lv_if_ne hx hb d_Model_restart_5 rfl (fun h5 => ?_) (fun h5 => ?_)
  · refine lv_iconst (v := 0) hx hb d_Model_restart_12 (by decide) ?_
    refine lv_iconst (v := 0) hx hb d_Model_restart_13 (by decide) ?_
    refine lm_vi (b := ad 0) (As := [.int 0, .int 0]) (rest := []) (wr := ([] : va_W)) ⟨hx, hb, hml, hown, hts⟩ hK hP hD hS hA [0, 1, 2, 3, 4, 5, 6, 7, 8, 9, 10, 11, 12, 13, 14, 15] [] rfl rfl (by decide) (by decide) (by decide) (c_Model_fails l dC dI cA cZ ad _ ((aso, axs, ato, ath, asi), (asr, anu, ach, aow, aar), (ais, aon, atw, awh, afi), (ase, afr, amo, ass, asp), (afo, aba, ano, aen, avs), (avo, avt, are, atd, ale)) 0 0 ) (cwV 2 hts (lm_gV m_15_8 m_15_9 m_20_2 m_0_5 m_15_10) rfl rfl rfl (by decide +kernel) ⟨Nat.le_of_ble_eq_true rfl, Nat.le_of_ble_eq_true rfl⟩) (va_recv (q0 := 0) hK hP rfl rfl) lm_bl_no (fun _ _ _ => trivial) hl.1 rfl rfl (Nat.le_of_ble_eq_true rfl) d_Model_restart_14 ⟨Nat.le_of_ble_eq_true rfl, Nat.le_of_ble_eq_true rfl⟩ (fun r14 u14 H locs w14 hP hD hS => ?_)
    obtain ⟨e_r14, w14⟩ := w14
    have e_r14 : r14 = 0 := e_r14
    replace e_r14 := e_r14.symm
    subst e_r14
    have w14 : u14 = ((aso, axs, ato, 0, asi), (asr, anu, ach, aow, aar), (ais, aon, atw, awh, afi), (ase, afr, amo, ass, asp), (afo, aba, ano, aen, avs), (avo, avt, are, atd, ale)) := w14
    replace w14 := w14.symm
    subst w14
    have hP : va_P (dC, dI) classes (mr_W cA cZ ad ((aso, axs, ato, 0, asi), (asr, anu, ach, aow, aar), (ais, aon, atw, awh, afi), (ase, afr, amo, ass, asp), (afo, aba, ano, aen, avs), (avo, avt, are, atd, ale))) H := hP
    have hD : va_D A (mr_W cA cZ ad ((aso, axs, ato, 0, asi), (asr, anu, ach, aow, aar), (ais, aon, atw, awh, afi), (ase, afr, amo, ass, asp), (afo, aba, ano, aen, avs), (avo, avt, are, atd, ale))) := hD
    refine lv_if_eq hx hb d_Model_restart_17 rfl (fun h17 => ?_) (fun h17 => by exact absurd h17 (by decide))
    refine lv_aload_n hx hb d_Model_restart_21 rfl (lv_at hl 0 rfl) ?_
    refine lm_vv (b := ad 0) (As := []) (rest := []) (wr := ([] : va_W)) ⟨hx, hb, hml, hown, hts⟩ hK hP hD hS hA [0, 1, 2, 3, 4, 5, 6, 7, 8, 9, 10, 11, 12, 13, 14, 15] [] rfl rfl (by decide) (by decide) (by decide) (c_Model_begin l dC dI cA cZ ad _ ((aso, axs, ato, 0, asi), (asr, anu, ach, aow, aar), (ais, aon, atw, awh, afi), (ase, afr, amo, ass, asp), (afo, aba, ano, aen, avs), (avo, avt, are, atd, ale))  ) (cwV 0 hts (lm_gV m_15_18 m_15_19 m_20_3 m_0_5 m_15_20) rfl rfl rfl (by decide +kernel) ⟨Nat.le_of_ble_eq_true rfl, Nat.le_of_ble_eq_true rfl⟩) (va_recv (q0 := 0) hK hP rfl rfl) lm_bl_no (fun _ _ _ => trivial) hl.1 rfl rfl (Nat.le_of_ble_eq_true rfl) d_Model_restart_22 ⟨Nat.le_of_ble_eq_true rfl, Nat.le_of_ble_eq_true rfl⟩ (fun u22 H locs w22 hP hD hS => ?_)
    have hP : va_P (dC, dI) classes (mr_W cA cZ ad u22) H := hP
    have hD : va_D A (mr_W cA cZ ad u22) := hD
    refine lm_rv hx hb hr hlocks u22 ?_ hP hK hD hS d_Model_restart_25
    subst w22; unfold md_restart; (first | rw [if_pos h5] | rw [if_neg h5]); rfl
  · refine lv_iconst (v := 1) hx hb d_Model_restart_8 (by decide) ?_
    refine lv_goto hx hb d_Model_restart_9 rfl ?_
    refine lv_iconst (v := 0) hx hb d_Model_restart_13 (by decide) ?_
    refine lm_vi (b := ad 0) (As := [.int 1, .int 0]) (rest := []) (wr := ([] : va_W)) ⟨hx, hb, hml, hown, hts⟩ hK hP hD hS hA [0, 1, 2, 3, 4, 5, 6, 7, 8, 9, 10, 11, 12, 13, 14, 15] [] rfl rfl (by decide) (by decide) (by decide) (c_Model_fails l dC dI cA cZ ad _ ((aso, axs, ato, ath, asi), (asr, anu, ach, aow, aar), (ais, aon, atw, awh, afi), (ase, afr, amo, ass, asp), (afo, aba, ano, aen, avs), (avo, avt, are, atd, ale)) 1 0 ) (cwV 2 hts (lm_gV m_15_8 m_15_9 m_20_2 m_0_5 m_15_10) rfl rfl rfl (by decide +kernel) ⟨Nat.le_of_ble_eq_true rfl, Nat.le_of_ble_eq_true rfl⟩) (va_recv (q0 := 0) hK hP rfl rfl) lm_bl_no (fun _ _ _ => trivial) hl.1 rfl rfl (Nat.le_of_ble_eq_true rfl) d_Model_restart_14 ⟨Nat.le_of_ble_eq_true rfl, Nat.le_of_ble_eq_true rfl⟩ (fun r14 u14 H locs w14 hP hD hS => ?_)
    obtain ⟨e_r14, w14⟩ := w14
    have e_r14 : r14 = 1 := e_r14
    replace e_r14 := e_r14.symm
    subst e_r14
    have w14 : u14 = ((aso, axs, ato, 1, asi), (asr, anu, ach, aow, aar), (ais, aon, atw, awh, afi), (ase, afr, amo, ass, asp), (afo, aba, ano, aen, avs), (avo, avt, are, atd, ale)) := w14
    replace w14 := w14.symm
    subst w14
    have hP : va_P (dC, dI) classes (mr_W cA cZ ad ((aso, axs, ato, 1, asi), (asr, anu, ach, aow, aar), (ais, aon, atw, awh, afi), (ase, afr, amo, ass, asp), (afo, aba, ano, aen, avs), (avo, avt, are, atd, ale))) H := hP
    have hD : va_D A (mr_W cA cZ ad ((aso, axs, ato, 1, asi), (asr, anu, ach, aow, aar), (ais, aon, atw, awh, afi), (ase, afr, amo, ass, asp), (afo, aba, ano, aen, avs), (avo, avt, are, atd, ale))) := hD
    refine lv_if_eq hx hb d_Model_restart_17 rfl (fun h17 => by exact absurd h17 (by decide)) (fun h17 => ?_)
    refine lm_rv hx hb hr hlocks ((aso, axs, ato, 1, asi), (asr, anu, ach, aow, aar), (ais, aon, atw, awh, afi), (ase, afr, amo, ass, asp), (afo, aba, ano, aen, avs), (avo, avt, are, atd, ale)) ?_ hP hK hD hS d_Model_restart_20
    unfold md_restart; (first | rw [if_pos h5] | rw [if_neg h5]); rfl
set_option maxHeartbeats 4000000 in
set_option maxRecDepth 100000 in
theorem c_Model_reckoned (l : Launch) (dC : Nat → ClassId) (dI : Nat → Nat → Nat) (cA cZ : ClassId)   (sz : Nat)  (y1 y2 y3 : Int32)  : Met l y_Model_reckoned w_Model_reckoned ({ frames := 0, cells := 0, slots := 0, locals := 0 } : Room) (va_Pc [.int y1, .int y2, .int y3] (lm_pre (dC, dI) classes [(cA, .int), (cZ, .boolean)] (([] : va_W)) sz lm_no)) (va_Qi (fun (r : Int32) (u : Unit) => r = ma_reckon y1 y2 y3 ∧ u = ()) (fun u => lm_at (dC, dI) classes [(cA, .int), (cZ, .boolean)] (va_A (([] : va_W)) sz) (([] : va_W))) (va_A (([] : va_W)) sz)) 0 0 (va_A (([] : va_W)) sz) := by
  refine lm_met (fun A => va_Qi (fun (r : Int32) (u : Unit) => r = ma_reckon y1 y2 y3 ∧ u = ()) (fun u => lm_at (dC, dI) classes [(cA, .int), (cZ, .boolean)] A (([] : va_W))) A) (by decide) rfl (Nat.le_of_ble_eq_true rfl) ?_
  intro p e s m below meth c A hx hb hr hts hown hlocks hname hml hK hP hD hA hE hsz hAe hS ls hl
  replace hl : lv_has ls 3 [(0, .int y1), (1, .int y2), (2, .int y3)] := hl
  clear hAe hsz
  refine lv_iload_n hx hb d_Model_reckoned_0 rfl (lv_at hl 0 rfl) ?_
  refine lv_iconst (v := 4) hx hb d_Model_reckoned_1 (by decide) ?_
  refine lv_icmp_ne hx hb d_Model_reckoned_2 rfl (fun h2 => ?_) (fun h2 => ?_)
  · refine lv_iload_n hx hb d_Model_reckoned_11 rfl (lv_at hl 0 rfl) ?_
    refine lv_iconst (v := 5) hx hb d_Model_reckoned_12 (by decide) ?_
    refine lv_icmp_ne hx hb d_Model_reckoned_13 rfl (fun h13 => ?_) (fun h13 => ?_)
    · refine lv_iload_n hx hb d_Model_reckoned_22 rfl (lv_at hl 0 rfl) ?_
      refine lv_bipush (v := 6) hx hb d_Model_reckoned_23 (by decide) ?_
      refine lv_icmp_ne hx hb d_Model_reckoned_25 rfl (fun h25 => ?_) (fun h25 => ?_)
      · refine lv_iload_n hx hb d_Model_reckoned_34 rfl (lv_at hl 1 rfl) ?_
        refine lv_iload_n hx hb d_Model_reckoned_35 rfl (lv_at hl 2 rfl) ?_
        refine lv_icmp_ge hx hb d_Model_reckoned_36 rfl (fun h36 => ?_) (fun h36 => ?_)
        · refine lv_iconst (v := 0) hx hb d_Model_reckoned_43 (by decide) ?_
          refine lm_ri (v := 0) hx hb hr hlocks () ?_ hP hK hD hS d_Model_reckoned_44
          unfold ma_reckon; (first | rw [if_pos h2] | rw [if_neg h2]); (first | rw [if_pos h13] | rw [if_neg h13]); (first | rw [if_pos h25] | rw [if_neg h25]); (first | rw [if_pos h36] | rw [if_neg h36]); exact ⟨rfl, rfl⟩
        · refine lv_iconst (v := 1) hx hb d_Model_reckoned_39 (by decide) ?_
          refine lv_goto hx hb d_Model_reckoned_40 rfl ?_
          refine lm_ri (v := 1) hx hb hr hlocks () ?_ hP hK hD hS d_Model_reckoned_44
          unfold ma_reckon; (first | rw [if_pos h2] | rw [if_neg h2]); (first | rw [if_pos h13] | rw [if_neg h13]); (first | rw [if_pos h25] | rw [if_neg h25]); (first | rw [if_pos h36] | rw [if_neg h36]); exact ⟨rfl, rfl⟩
      · refine lv_iload_n hx hb d_Model_reckoned_28 rfl (lv_at hl 1 rfl) ?_
        refine lv_iload_n hx hb d_Model_reckoned_29 rfl (lv_at hl 2 rfl) ?_
        refine lv_imul hx hb d_Model_reckoned_30 ?_
        refine lv_goto hx hb d_Model_reckoned_31 rfl ?_
        refine lm_ri (v := (y2 * y3)) hx hb hr hlocks () ?_ hP hK hD hS d_Model_reckoned_44
        unfold ma_reckon; (first | rw [if_pos h2] | rw [if_neg h2]); (first | rw [if_pos h13] | rw [if_neg h13]); (first | rw [if_pos h25] | rw [if_neg h25]); exact ⟨rfl, rfl⟩
    · refine lv_iload_n hx hb d_Model_reckoned_16 rfl (lv_at hl 1 rfl) ?_
      refine lv_iload_n hx hb d_Model_reckoned_17 rfl (lv_at hl 2 rfl) ?_
      refine lv_isub hx hb d_Model_reckoned_18 ?_
      refine lv_goto hx hb d_Model_reckoned_19 rfl ?_
      refine lm_ri (v := (y2 - y3)) hx hb hr hlocks () ?_ hP hK hD hS d_Model_reckoned_44
      unfold ma_reckon; (first | rw [if_pos h2] | rw [if_neg h2]); (first | rw [if_pos h13] | rw [if_neg h13]); exact ⟨rfl, rfl⟩
  · refine lv_iload_n hx hb d_Model_reckoned_5 rfl (lv_at hl 1 rfl) ?_
    refine lv_iload_n hx hb d_Model_reckoned_6 rfl (lv_at hl 2 rfl) ?_
    refine lv_iadd hx hb d_Model_reckoned_7 ?_
    refine lv_goto hx hb d_Model_reckoned_8 rfl ?_
    refine lm_ri (v := (y2 + y3)) hx hb hr hlocks () ?_ hP hK hD hS d_Model_reckoned_44
    unfold ma_reckon; (first | rw [if_pos h2] | rw [if_neg h2]); exact ⟨rfl, rfl⟩
