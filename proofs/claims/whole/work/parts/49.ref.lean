set_option maxHeartbeats 4000000 in
set_option maxRecDepth 100000 in
theorem c_Model_load (l : Launch) (dC : Nat → ClassId) (dI : Nat → Nat → Nat) (cA cZ : ClassId)  (ad : Nat → Nat) (sz : Nat) (S : ZNS)  (hz : ∃ n : Nat, n ≤ 200 ∧ r_to S = nI n) : Met l y_Model_load w_Model_load ({ frames := 1, cells := 0, slots := 0, locals := 20 } : Room) (va_Pc [.ref (ad 0)] (lm_pre (dC, dI) classes [(cA, .int), (cZ, .boolean)] (mr_W cA cZ ad S) sz lm_no)) (va_Qi (fun (r : Int32) (u : ZNS) => r = (md_load S).1 ∧ u = (md_load S).2) (fun u => lm_at (dC, dI) classes [(cA, .int), (cZ, .boolean)] (va_A (mr_W cA cZ ad S) sz) (mr_W cA cZ ad u)) (va_A (mr_W cA cZ ad S) sz)) 0 0 (va_A (mr_W cA cZ ad S) sz) := by
  obtain ⟨⟨aso, axs, ato, ath, asi⟩, ⟨asr, anu, ach, aow, aar⟩, ⟨ais, aon, atw, awh, afi⟩, ⟨ase, afr, amo, ass, asp⟩, ⟨afo, aba, ano, aen, avs⟩, ⟨avo, avt, are, atd, ale⟩⟩ := S
  obtain ⟨n, hz, hzz⟩ := hz
  have hzz : ato = nI n := hzz
  subst hzz
  refine lm_met (fun A => va_Qi (fun (r : Int32) (u : ZNS) => r = (md_load ((aso, axs, (nI n), ath, asi), (asr, anu, ach, aow, aar), (ais, aon, atw, awh, afi), (ase, afr, amo, ass, asp), (afo, aba, ano, aen, avs), (avo, avt, are, atd, ale))).1 ∧ u = (md_load ((aso, axs, (nI n), ath, asi), (asr, anu, ach, aow, aar), (ais, aon, atw, awh, afi), (ase, afr, amo, ass, asp), (afo, aba, ano, aen, avs), (avo, avt, are, atd, ale))).2) (fun u => lm_at (dC, dI) classes [(cA, .int), (cZ, .boolean)] A (mr_W cA cZ ad u)) A) (by decide) rfl (Nat.le_of_ble_eq_true rfl) ?_
  intro p e s m below meth c A hx hb hr hts hown hlocks hname hml hK hP hD hA hE hsz hAe hS ls hl
  replace hl : lv_has ls 8 [(0, .ref (ad 0))] := hl
  clear hAe hsz
  refine lv_aload_n hx hb d_Model_load_0 rfl (lv_at hl 0 rfl) ?_
  refine lv_iconst (v := 0) hx hb d_Model_load_1 (by decide) ?_
  refine va_put (D := (dC, dI)) (ci := 4) (v := .int 0) (ty := .int) (C := R_Model) (T := F_Model) (N := 30) hx hb hts (fun q hq => List.mem_cons_of_mem _ (i_Model q hq)) t_Model t_Model_ok n_Model hown hK hP hD hS 0 rfl rfl 0 (by decide) (hts _ (List.mem_cons_of_mem _ m_13_17)) (fun _ h9 => h9) rfl (by decide +kernel) rfl rfl (Nat.le_of_ble_eq_true rfl) d_Model_load_2 (fun H locs hP hD hS => ?_)
  have hP : va_P (dC, dI) classes (mr_W cA cZ ad ((aso, axs, (nI n), 0, asi), (asr, anu, ach, aow, aar), (ais, aon, atw, awh, afi), (ase, afr, amo, ass, asp), (afo, aba, ano, aen, avs), (avo, avt, are, atd, ale))) H := hP
  have hD : va_D A (mr_W cA cZ ad ((aso, axs, (nI n), 0, asi), (asr, anu, ach, aow, aar), (ais, aon, atw, awh, afi), (ase, afr, amo, ass, asp), (afo, aba, ano, aen, avs), (avo, avt, are, atd, ale))) := hD
  refine lv_aload_n hx hb d_Model_load_5 rfl (lv_at hl 0 rfl) ?_
  refine va_get (D := (dC, dI)) (ci := 4) (v := .int (nI n)) (C := R_Model) (T := F_Model) (N := 30) hx hb hts (fun q hq => List.mem_cons_of_mem _ (i_Model q hq)) hown hK hP 0 rfl rfl 3 (by decide) (hts _ (List.mem_cons_of_mem _ m_13_20)) (fun _ h9 => h9) rfl d_Model_load_6 ?_
  refine lv_istore_n (lv' := [(1, .int (nI n)), (0, .ref (ad 0))]) hx hb d_Model_load_9 rfl hl (by decide) rfl (fun ls hl => ?_)
  refine lv_aload_n hx hb d_Model_load_10 rfl (lv_at hl 1 rfl) ?_
  refine lv_iconst (v := 0) hx hb d_Model_load_11 (by decide) ?_
  refine va_put (D := (dC, dI)) (ci := 4) (v := .int 0) (ty := .int) (C := R_Model) (T := F_Model) (N := 30) hx hb hts (fun q hq => List.mem_cons_of_mem _ (i_Model q hq)) t_Model t_Model_ok n_Model hown hK hP hD hS 0 rfl rfl 3 (by decide) (hts _ (List.mem_cons_of_mem _ m_13_20)) (fun _ h9 => h9) rfl (by decide +kernel) rfl rfl (Nat.le_of_ble_eq_true rfl) d_Model_load_12 (fun H locs hP hD hS => ?_)
  have hP : va_P (dC, dI) classes (mr_W cA cZ ad ((aso, axs, 0, 0, asi), (asr, anu, ach, aow, aar), (ais, aon, atw, awh, afi), (ase, afr, amo, ass, asp), (afo, aba, ano, aen, avs), (avo, avt, are, atd, ale))) H := hP
  have hD : va_D A (mr_W cA cZ ad ((aso, axs, 0, 0, asi), (asr, anu, ach, aow, aar), (ais, aon, atw, awh, afi), (ase, afr, amo, ass, asp), (afo, aba, ano, aen, avs), (avo, avt, are, atd, ale))) := hD
  refine lv_aload_n hx hb d_Model_load_15 rfl (lv_at hl 1 rfl) ?_
  refine lv_iconst (v := 0) hx hb d_Model_load_16 (by decide) ?_
  refine va_put (D := (dC, dI)) (ci := 4) (v := .int 0) (ty := .int) (C := R_Model) (T := F_Model) (N := 30) hx hb hts (fun q hq => List.mem_cons_of_mem _ (i_Model q hq)) t_Model t_Model_ok n_Model hown hK hP hD hS 0 rfl rfl 7 (by decide) (hts _ (List.mem_cons_of_mem _ m_14_0)) (fun _ h9 => h9) rfl (by decide +kernel) rfl rfl (Nat.le_of_ble_eq_true rfl) d_Model_load_17 (fun H locs hP hD hS => ?_)
  have hP : va_P (dC, dI) classes (mr_W cA cZ ad ((aso, axs, 0, 0, 0), (asr, anu, ach, aow, aar), (ais, aon, atw, awh, afi), (ase, afr, amo, ass, asp), (afo, aba, ano, aen, avs), (avo, avt, are, atd, ale))) H := hP
  have hD : va_D A (mr_W cA cZ ad ((aso, axs, 0, 0, 0), (asr, anu, ach, aow, aar), (ais, aon, atw, awh, afi), (ase, afr, amo, ass, asp), (afo, aba, ano, aen, avs), (avo, avt, are, atd, ale))) := hD
  refine lv_aload_n hx hb d_Model_load_20 rfl (lv_at hl 1 rfl) ?_
  refine lv_iconst (v := 0) hx hb d_Model_load_21 (by decide) ?_
  refine va_put (D := (dC, dI)) (ci := 4) (v := .int 0) (ty := .int) (C := R_Model) (T := F_Model) (N := 30) hx hb hts (fun q hq => List.mem_cons_of_mem _ (i_Model q hq)) t_Model t_Model_ok n_Model hown hK hP hD hS 0 rfl rfl 21 (by decide) (hts _ (List.mem_cons_of_mem _ m_14_14)) (fun _ h9 => h9) rfl (by decide +kernel) rfl rfl (Nat.le_of_ble_eq_true rfl) d_Model_load_22 (fun H locs hP hD hS => ?_)
  have hP : va_P (dC, dI) classes (mr_W cA cZ ad ((aso, axs, 0, 0, 0), (asr, anu, ach, aow, aar), (ais, aon, atw, awh, afi), (ase, afr, amo, 0, asp), (afo, aba, ano, aen, avs), (avo, avt, are, atd, ale))) H := hP
  have hD : va_D A (mr_W cA cZ ad ((aso, axs, 0, 0, 0), (asr, anu, ach, aow, aar), (ais, aon, atw, awh, afi), (ase, afr, amo, 0, asp), (afo, aba, ano, aen, avs), (avo, avt, are, atd, ale))) := hD
  refine lv_iconst (v := 1) hx hb d_Model_load_25 (by decide) ?_
  refine lv_istore_n (lv' := [(2, .int 1), (1, .int (nI n)), (0, .ref (ad 0))]) hx hb d_Model_load_26 rfl hl (by decide) rfl (fun ls hl => ?_)
  refine lv_aload_n hx hb d_Model_load_27 rfl (lv_at hl 2 rfl) ?_
  refine va_get (D := (dC, dI)) (ci := 4) (v := .ref (ad 6)) (C := R_Model) (T := F_Model) (N := 30) hx hb hts (fun q hq => List.mem_cons_of_mem _ (i_Model q hq)) hown hK hP 0 rfl rfl 8 (by decide) (hts _ (List.mem_cons_of_mem _ m_14_1)) (fun _ h9 => h9) rfl d_Model_load_28 ?_
  refine lv_iconst (v := 0) hx hb d_Model_load_31 (by decide) ?_
  refine lv_iconst (v := -1) hx hb d_Model_load_32 (by decide) ?_
  have hin : vp_in 0 700 := by exact vp_in_nI (n := 0) (by decide) (by decide)
  refine va_iast (f := aow) (n := 700) hx hb hK hP hD hS 6 0 rfl rfl hin d_Model_load_33 (fun H locs hP hD hS => ?_)
  have hP : va_P (dC, dI) classes (mr_W cA cZ ad ((aso, axs, 0, 0, 0), (asr, anu, ach, (upd aow (0 : Int32).toNatClampNeg (-1)), aar), (ais, aon, atw, awh, afi), (ase, afr, amo, 0, asp), (afo, aba, ano, aen, avs), (avo, avt, are, atd, ale))) H := hP
  have hD : va_D A (mr_W cA cZ ad ((aso, axs, 0, 0, 0), (asr, anu, ach, (upd aow (0 : Int32).toNatClampNeg (-1)), aar), (ais, aon, atw, awh, afi), (ase, afr, amo, 0, asp), (afo, aba, ano, aen, avs), (avo, avt, are, atd, ale))) := hD
  refine lv_aload_n hx hb d_Model_load_34 rfl (lv_at hl 2 rfl) ?_
  refine va_get (D := (dC, dI)) (ci := 4) (v := .ref (ad 7)) (C := R_Model) (T := F_Model) (N := 30) hx hb hts (fun q hq => List.mem_cons_of_mem _ (i_Model q hq)) hown hK hP 0 rfl rfl 9 (by decide) (hts _ (List.mem_cons_of_mem _ m_14_2)) (fun _ h9 => h9) rfl d_Model_load_35 ?_
  refine lv_iconst (v := 0) hx hb d_Model_load_38 (by decide) ?_
  refine lv_iconst (v := 0) hx hb d_Model_load_39 (by decide) ?_
  have hin : vp_in 0 700 := by exact vp_in_nI (n := 0) (by decide) (by decide)
  refine va_iast (f := aar) (n := 700) hx hb hK hP hD hS 7 0 rfl rfl hin d_Model_load_40 (fun H locs hP hD hS => ?_)
  have hP : va_P (dC, dI) classes (mr_W cA cZ ad ((aso, axs, 0, 0, 0), (asr, anu, ach, (upd aow (0 : Int32).toNatClampNeg (-1)), (upd aar (0 : Int32).toNatClampNeg 0)), (ais, aon, atw, awh, afi), (ase, afr, amo, 0, asp), (afo, aba, ano, aen, avs), (avo, avt, are, atd, ale))) H := hP
  have hD : va_D A (mr_W cA cZ ad ((aso, axs, 0, 0, 0), (asr, anu, ach, (upd aow (0 : Int32).toNatClampNeg (-1)), (upd aar (0 : Int32).toNatClampNeg 0)), (ais, aon, atw, awh, afi), (ase, afr, amo, 0, asp), (afo, aba, ano, aen, avs), (avo, avt, are, atd, ale))) := hD
  refine lv_iconst (v := 0) hx hb d_Model_load_41 (by decide) ?_
  refine lv_istore_n (lv' := [(3, .int 0), (2, .int 1), (1, .int (nI n)), (0, .ref (ad 0))]) hx hb d_Model_load_42 rfl hl (by decide) rfl (fun ls hl => ?_)
  have loop : ∀ (fu : Nat) (k o : Nat) (Z : ZNS) (ls : Array Slot) (H : Heap) (locs : List Loc), (k + fu = n) → (o ≤ 2 * k + 1) → (md_ows Z o) → (md_load ((aso, axs, (nI n), ath, asi), (asr, anu, ach, aow, aar), (ais, aon, atw, awh, afi), (ase, afr, amo, ass, asp), (afo, aba, ano, aen, avs), (avo, avt, are, atd, ale)) = md_loadN n fu k o Z) → lv_has ls 8 [(3, .int (nI k)), (2, .int (nI o)), (0, .ref (ad 0)), (1, .int (nI n))] → va_P (dC, dI) classes (mr_W cA cZ ad Z) H → va_D A (mr_W cA cZ ad Z) → va_S A s.heap H locs → W p l e (headSpec w_Model_load ({ frames := 1, cells := 0, slots := 0, locals := 20 } : Room)).room s m (List.toArray [.ref (ad 0)]) below meth c H locs 0 0 (MQ below (va_Qi (fun (r : Int32) (u : ZNS) => r = (md_load ((aso, axs, (nI n), ath, asi), (asr, anu, ach, aow, aar), (ais, aon, atw, awh, afi), (ase, afr, amo, ass, asp), (afo, aba, ano, aen, avs), (avo, avt, are, atd, ale))).1 ∧ u = (md_load ((aso, axs, (nI n), ath, asi), (asr, anu, ach, aow, aar), (ais, aon, atw, awh, afi), (ase, afr, amo, ass, asp), (afo, aba, ano, aen, avs), (avo, avt, are, atd, ale))).2) (fun u => lm_at (dC, dI) classes [(cA, .int), (cZ, .boolean)] A (mr_W cA cZ ad u)) A) (List.toArray [.ref (ad 0)]) s 0 0 A) (F0 m 43 ls []) := by
    intro fu
    induction fu with
    | zero => 
      intro k o Z ls H locs hk ho how hq hl hP hD hS
      refine lv_iload_n hx hb d_Model_load_43 rfl (lv_at hl 0 rfl) ?_
      refine lv_iload_n hx hb d_Model_load_44 rfl (lv_at hl 3 rfl) ?_
      refine lv_icmp_ge hx hb d_Model_load_45 rfl (fun h45 => ?_) (fun h45 => by exact absurd (nI_le (by omega) (by omega)) h45)
      refine lv_iload_n hx hb d_Model_load_250 rfl (lv_at hl 1 rfl) ?_
      refine lv_if_le hx hb d_Model_load_251 rfl (fun h251 => ?_) (fun h251 => ?_)
      · refine lv_aload_n hx hb d_Model_load_258 rfl (lv_at hl 2 rfl) ?_
        refine lv_iload_n hx hb d_Model_load_259 rfl (lv_at hl 3 rfl) ?_
        refine va_put (D := (dC, dI)) (ci := 4) (v := .int (nI n)) (ty := .int) (C := R_Model) (T := F_Model) (N := 30) hx hb hts (fun q hq => List.mem_cons_of_mem _ (i_Model q hq)) t_Model t_Model_ok n_Model hown hK hP hD hS 0 rfl rfl 7 (by decide) (hts _ (List.mem_cons_of_mem _ m_14_0)) (fun _ h9 => h9) rfl (by decide +kernel) rfl rfl (Nat.le_of_ble_eq_true rfl) d_Model_load_260 (fun H locs hP hD hS => ?_)
        have hP : va_P (dC, dI) classes (mr_W cA cZ ad ((Z.1.1, Z.1.2.1, Z.1.2.2.1, Z.1.2.2.2.1, (nI n)), (Z.2.1.1, Z.2.1.2.1, Z.2.1.2.2.1, Z.2.1.2.2.2.1, Z.2.1.2.2.2.2), (Z.2.2.1.1, Z.2.2.1.2.1, Z.2.2.1.2.2.1, Z.2.2.1.2.2.2.1, Z.2.2.1.2.2.2.2), (Z.2.2.2.1.1, Z.2.2.2.1.2.1, Z.2.2.2.1.2.2.1, Z.2.2.2.1.2.2.2.1, Z.2.2.2.1.2.2.2.2), (Z.2.2.2.2.1.1, Z.2.2.2.2.1.2.1, Z.2.2.2.2.1.2.2.1, Z.2.2.2.2.1.2.2.2.1, Z.2.2.2.2.1.2.2.2.2), (Z.2.2.2.2.2.1, Z.2.2.2.2.2.2.1, Z.2.2.2.2.2.2.2.1, Z.2.2.2.2.2.2.2.2.1, Z.2.2.2.2.2.2.2.2.2))) H := hP
        have hD : va_D A (mr_W cA cZ ad ((Z.1.1, Z.1.2.1, Z.1.2.2.1, Z.1.2.2.2.1, (nI n)), (Z.2.1.1, Z.2.1.2.1, Z.2.1.2.2.1, Z.2.1.2.2.2.1, Z.2.1.2.2.2.2), (Z.2.2.1.1, Z.2.2.1.2.1, Z.2.2.1.2.2.1, Z.2.2.1.2.2.2.1, Z.2.2.1.2.2.2.2), (Z.2.2.2.1.1, Z.2.2.2.1.2.1, Z.2.2.2.1.2.2.1, Z.2.2.2.1.2.2.2.1, Z.2.2.2.1.2.2.2.2), (Z.2.2.2.2.1.1, Z.2.2.2.2.1.2.1, Z.2.2.2.2.1.2.2.1, Z.2.2.2.2.1.2.2.2.1, Z.2.2.2.2.1.2.2.2.2), (Z.2.2.2.2.2.1, Z.2.2.2.2.2.2.1, Z.2.2.2.2.2.2.2.1, Z.2.2.2.2.2.2.2.2.1, Z.2.2.2.2.2.2.2.2.2))) := hD
        refine lv_aload_n hx hb d_Model_load_263 rfl (lv_at hl 2 rfl) ?_
        refine lm_vv (b := ad 0) (As := []) (rest := []) (wr := ([] : va_W)) ⟨hx, hb, hml, hown, hts⟩ hK hP hD hS hA [0, 1, 2, 3, 4, 5, 6, 7, 8, 9, 10, 11, 12, 13, 14, 15] [] rfl rfl (by decide) (by decide) (by decide) (c_Model_begin l dC dI cA cZ ad _ ((Z.1.1, Z.1.2.1, Z.1.2.2.1, Z.1.2.2.2.1, (nI n)), (Z.2.1.1, Z.2.1.2.1, Z.2.1.2.2.1, Z.2.1.2.2.2.1, Z.2.1.2.2.2.2), (Z.2.2.1.1, Z.2.2.1.2.1, Z.2.2.1.2.2.1, Z.2.2.1.2.2.2.1, Z.2.2.1.2.2.2.2), (Z.2.2.2.1.1, Z.2.2.2.1.2.1, Z.2.2.2.1.2.2.1, Z.2.2.2.1.2.2.2.1, Z.2.2.2.1.2.2.2.2), (Z.2.2.2.2.1.1, Z.2.2.2.2.1.2.1, Z.2.2.2.2.1.2.2.1, Z.2.2.2.2.1.2.2.2.1, Z.2.2.2.2.1.2.2.2.2), (Z.2.2.2.2.2.1, Z.2.2.2.2.2.2.1, Z.2.2.2.2.2.2.2.1, Z.2.2.2.2.2.2.2.2.1, Z.2.2.2.2.2.2.2.2.2))  ) (cwV 0 hts (lm_gV m_15_18 m_15_19 m_20_3 m_0_5 m_15_20) rfl rfl rfl (by decide +kernel) ⟨Nat.le_of_ble_eq_true rfl, Nat.le_of_ble_eq_true rfl⟩) (va_recv (q0 := 0) hK hP rfl rfl) lm_bl_no (fun _ _ _ => trivial) hl.1 rfl rfl (Nat.le_of_ble_eq_true rfl) d_Model_load_264 ⟨Nat.le_of_ble_eq_true rfl, Nat.le_of_ble_eq_true rfl⟩ (fun u264 H locs w264 hP hD hS => ?_)
        have hP : va_P (dC, dI) classes (mr_W cA cZ ad u264) H := hP
        have hD : va_D A (mr_W cA cZ ad u264) := hD
        refine lv_iconst (v := 0) hx hb d_Model_load_267 (by decide) ?_
        refine lm_ri (v := 0) hx hb hr hlocks u264 ?_ hP hK hD hS d_Model_load_268
        rw [hq, md_loadN, if_pos (tm_o0 h251 (by omega))]; exact ⟨rfl, w264⟩
      · refine lv_iconst (v := 1) hx hb d_Model_load_254 (by decide) ?_
        refine lv_iload_n hx hb d_Model_load_255 rfl (lv_at hl 3 rfl) ?_
        refine lv_iadd hx hb d_Model_load_256 ?_
        refine lm_ri (v := (1 + (nI n))) hx hb hr hlocks Z ?_ hP hK hD hS d_Model_load_257
        rw [hq, md_loadN, if_neg (fun p => h251 (by rw [p]; decide))]; exact ⟨rfl, rfl⟩
    | succ fu ih => 
      intro k o Z ls H locs hk ho how hq hl hP hD hS
      refine lv_iload_n hx hb d_Model_load_43 rfl (lv_at hl 0 rfl) ?_
      refine lv_iload_n hx hb d_Model_load_44 rfl (lv_at hl 3 rfl) ?_
      refine lv_icmp_ge hx hb d_Model_load_45 rfl (fun h45 => by exact absurd h45 (nI_ge (by omega) (by omega))) (fun h45 => ?_)
      refine lv_iload_n hx hb d_Model_load_48 rfl (lv_at hl 1 rfl) ?_
      refine lv_if_ne hx hb d_Model_load_49 rfl (fun h49 => ?_) (fun h49 => ?_)
      · obtain ⟨q, rfl⟩ : ∃ q, o = q + 1 := by
          rcases o with _ | q
          · exact absurd rfl h49
          · exact ⟨q, rfl⟩
        refine lv_iinc (k := 1) (v := (nI q)) (lv' := [(2, .int (nI q)), (3, .int (nI k)), (0, .ref (ad 0)), (1, .int (nI n))]) hx hb d_Model_load_56 hl rfl (pk_m1 q) (by decide) rfl (fun ls hl => ?_)
        refine lv_aload_n hx hb d_Model_load_59 rfl (lv_at hl 2 rfl) ?_
        refine va_get (D := (dC, dI)) (ci := 4) (v := .ref (ad 7)) (C := R_Model) (T := F_Model) (N := 30) hx hb hts (fun q hq => List.mem_cons_of_mem _ (i_Model q hq)) hown hK hP 0 rfl rfl 9 (by decide) (hts _ (List.mem_cons_of_mem _ m_14_2)) (fun _ h9 => h9) rfl d_Model_load_60 ?_
        refine lv_iload_n hx hb d_Model_load_63 rfl (lv_at hl 0 rfl) ?_
        have hin : vp_in (nI q) 700 := by first | assumption | exact vp_in_nI (by omega) (by decide)
        refine va_iald (f := Z.2.1.2.2.2.2) (n := 700) hx hb hK hP 7 0 rfl rfl hin d_Model_load_64 ?_
        rw [nI_clamp (show q < 2 ^ 31 by omega)]
        refine lv_istore (lv' := [(4, .int (Z.2.1.2.2.2.2 q)), (2, .int (nI q)), (3, .int (nI k)), (0, .ref (ad 0)), (1, .int (nI n))]) hx hb d_Model_load_65 hl (by decide) rfl (fun ls hl => ?_)
        refine lv_aload_n hx hb d_Model_load_67 rfl (lv_at hl 3 rfl) ?_
        refine va_get (D := (dC, dI)) (ci := 4) (v := .ref (ad 6)) (C := R_Model) (T := F_Model) (N := 30) hx hb hts (fun q hq => List.mem_cons_of_mem _ (i_Model q hq)) hown hK hP 0 rfl rfl 8 (by decide) (hts _ (List.mem_cons_of_mem _ m_14_1)) (fun _ h9 => h9) rfl d_Model_load_68 ?_
        refine lv_iload_n hx hb d_Model_load_71 rfl (lv_at hl 1 rfl) ?_
        have hin : vp_in (nI q) 700 := by first | assumption | exact vp_in_nI (by omega) (by decide)
        refine va_iald (f := Z.2.1.2.2.2.1) (n := 700) hx hb hK hP 6 0 rfl rfl hin d_Model_load_72 ?_
        rw [nI_clamp (show q < 2 ^ 31 by omega)]
        refine lv_iconst (v := -1) hx hb d_Model_load_73 (by decide) ?_
        refine lv_icmp_eq hx hb d_Model_load_74 rfl (fun h74 => ?_) (fun h74 => ?_)
        · have hl1s : md_l1 Z k q = Z := by unfold md_l1; rw [if_pos h74]
          have hl1 : md_ows (md_l1 Z k q) (q + 1) := by rw [hl1s]; exact how
          refine lv_aload_n hx hb d_Model_load_89 rfl (lv_at hl 3 rfl) ?_
          refine va_get (D := (dC, dI)) (ci := 4) (v := .ref (ad 1)) (C := R_Model) (T := F_Model) (N := 30) hx hb hts (fun q hq => List.mem_cons_of_mem _ (i_Model q hq)) hown hK hP 0 rfl rfl 1 (by decide) (hts _ (List.mem_cons_of_mem _ m_13_18)) (fun _ h9 => h9) rfl d_Model_load_90 ?_
          refine lv_iload_n hx hb d_Model_load_93 rfl (lv_at hl 2 rfl) ?_
          have hin : vp_in (nI k) 200 := by first | assumption | exact vp_in_nI (by omega) (by decide)
          refine va_iald (f := Z.1.1) (n := 200) hx hb hK hP 1 0 rfl rfl hin d_Model_load_94 ?_
          rw [nI_clamp (show k < 2 ^ 31 by omega)]
          refine lv_if_ne hx hb d_Model_load_95 rfl (fun h95 => ?_) (fun h95 => ?_)
          · have hq9 : md_load ((aso, axs, (nI n), ath, asi), (asr, anu, ach, aow, aar), (ais, aon, atw, awh, afi), (ase, afr, amo, ass, asp), (afo, aba, ano, aen, avs), (avo, avt, are, atd, ale)) = md_loadN n fu (k + 1) (md_inN (md_many (r_so (md_l2 (md_l1 Z k q) k) k)).toNatClampNeg k (Z.2.1.2.2.2.2 q) q (md_l2 (md_l1 Z k q) k)).1 (md_inN (md_many (r_so (md_l2 (md_l1 Z k q) k) k)).toNatClampNeg k (Z.2.1.2.2.2.2 q) q (md_l2 (md_l1 Z k q) k)).2 := by rw [hq, md_loadN, if_neg (by omega), show q + 1 - 1 = q from rfl, if_neg (fun p => by rw [hl1s] at p; exact h95 p.1)]
            refine lv_aload_n hx hb d_Model_load_113 rfl (lv_at hl 3 rfl) ?_
            refine va_get (D := (dC, dI)) (ci := 4) (v := .ref (ad 3)) (C := R_Model) (T := F_Model) (N := 30) hx hb hts (fun q hq => List.mem_cons_of_mem _ (i_Model q hq)) hown hK hP 0 rfl rfl 4 (by decide) (hts _ (List.mem_cons_of_mem _ m_13_21)) (fun _ h9 => h9) rfl d_Model_load_114 ?_
            refine lv_iload_n hx hb d_Model_load_117 rfl (lv_at hl 2 rfl) ?_
            refine lv_aload_n hx hb d_Model_load_118 rfl (lv_at hl 3 rfl) ?_
            refine va_get (D := (dC, dI)) (ci := 4) (v := .ref (ad 1)) (C := R_Model) (T := F_Model) (N := 30) hx hb hts (fun q hq => List.mem_cons_of_mem _ (i_Model q hq)) hown hK hP 0 rfl rfl 1 (by decide) (hts _ (List.mem_cons_of_mem _ m_13_18)) (fun _ h9 => h9) rfl d_Model_load_119 ?_
            refine lv_iload_n hx hb d_Model_load_122 rfl (lv_at hl 2 rfl) ?_
            have hin : vp_in (nI k) 200 := by first | assumption | exact vp_in_nI (by omega) (by decide)
            refine va_iald (f := Z.1.1) (n := 200) hx hb hK hP 1 0 rfl rfl hin d_Model_load_123 ?_
            rw [nI_clamp (show k < 2 ^ 31 by omega)]
            have hin : vp_in (nI k) 200 := by first | assumption | exact vp_in_nI (by omega) (by decide)
            refine va_iast (f := Z.2.1.1) (n := 200) hx hb hK hP hD hS 3 0 rfl rfl hin d_Model_load_124 (fun H locs hP hD hS => ?_)
            rw [nI_clamp (show k < 2 ^ 31 by omega)] at hP hD
            have hP : va_P (dC, dI) classes (mr_W cA cZ ad ((Z.1.1, Z.1.2.1, Z.1.2.2.1, Z.1.2.2.2.1, Z.1.2.2.2.2), ((upd Z.2.1.1 k (Z.1.1 k)), Z.2.1.2.1, Z.2.1.2.2.1, Z.2.1.2.2.2.1, Z.2.1.2.2.2.2), (Z.2.2.1.1, Z.2.2.1.2.1, Z.2.2.1.2.2.1, Z.2.2.1.2.2.2.1, Z.2.2.1.2.2.2.2), (Z.2.2.2.1.1, Z.2.2.2.1.2.1, Z.2.2.2.1.2.2.1, Z.2.2.2.1.2.2.2.1, Z.2.2.2.1.2.2.2.2), (Z.2.2.2.2.1.1, Z.2.2.2.2.1.2.1, Z.2.2.2.2.1.2.2.1, Z.2.2.2.2.1.2.2.2.1, Z.2.2.2.2.1.2.2.2.2), (Z.2.2.2.2.2.1, Z.2.2.2.2.2.2.1, Z.2.2.2.2.2.2.2.1, Z.2.2.2.2.2.2.2.2.1, Z.2.2.2.2.2.2.2.2.2))) H := hP
            have hD : va_D A (mr_W cA cZ ad ((Z.1.1, Z.1.2.1, Z.1.2.2.1, Z.1.2.2.2.1, Z.1.2.2.2.2), ((upd Z.2.1.1 k (Z.1.1 k)), Z.2.1.2.1, Z.2.1.2.2.1, Z.2.1.2.2.2.1, Z.2.1.2.2.2.2), (Z.2.2.1.1, Z.2.2.1.2.1, Z.2.2.1.2.2.1, Z.2.2.1.2.2.2.1, Z.2.2.1.2.2.2.2), (Z.2.2.2.1.1, Z.2.2.2.1.2.1, Z.2.2.2.1.2.2.1, Z.2.2.2.1.2.2.2.1, Z.2.2.2.1.2.2.2.2), (Z.2.2.2.2.1.1, Z.2.2.2.2.1.2.1, Z.2.2.2.2.1.2.2.1, Z.2.2.2.2.1.2.2.2.1, Z.2.2.2.2.1.2.2.2.2), (Z.2.2.2.2.2.1, Z.2.2.2.2.2.2.1, Z.2.2.2.2.2.2.2.1, Z.2.2.2.2.2.2.2.2.1, Z.2.2.2.2.2.2.2.2.2))) := hD
            refine lv_aload_n hx hb d_Model_load_125 rfl (lv_at hl 3 rfl) ?_
            refine va_get (D := (dC, dI)) (ci := 4) (v := .ref (ad 4)) (C := R_Model) (T := F_Model) (N := 30) hx hb hts (fun q hq => List.mem_cons_of_mem _ (i_Model q hq)) hown hK hP 0 rfl rfl 5 (by decide) (hts _ (List.mem_cons_of_mem _ m_13_22)) (fun _ h9 => h9) rfl d_Model_load_126 ?_
            refine lv_iload_n hx hb d_Model_load_129 rfl (lv_at hl 2 rfl) ?_
            refine lv_aload_n hx hb d_Model_load_130 rfl (lv_at hl 3 rfl) ?_
            refine va_get (D := (dC, dI)) (ci := 4) (v := .ref (ad 2)) (C := R_Model) (T := F_Model) (N := 30) hx hb hts (fun q hq => List.mem_cons_of_mem _ (i_Model q hq)) hown hK hP 0 rfl rfl 2 (by decide) (hts _ (List.mem_cons_of_mem _ m_13_19)) (fun _ h9 => h9) rfl d_Model_load_131 ?_
            refine lv_iload_n hx hb d_Model_load_134 rfl (lv_at hl 2 rfl) ?_
            have hin : vp_in (nI k) 200 := by first | assumption | exact vp_in_nI (by omega) (by decide)
            refine va_iald (f := Z.1.2.1) (n := 200) hx hb hK hP 2 0 rfl rfl hin d_Model_load_135 ?_
            rw [nI_clamp (show k < 2 ^ 31 by omega)]
            have hin : vp_in (nI k) 200 := by first | assumption | exact vp_in_nI (by omega) (by decide)
            refine va_iast (f := Z.2.1.2.1) (n := 200) hx hb hK hP hD hS 4 0 rfl rfl hin d_Model_load_136 (fun H locs hP hD hS => ?_)
            rw [nI_clamp (show k < 2 ^ 31 by omega)] at hP hD
            have hP : va_P (dC, dI) classes (mr_W cA cZ ad ((Z.1.1, Z.1.2.1, Z.1.2.2.1, Z.1.2.2.2.1, Z.1.2.2.2.2), ((upd Z.2.1.1 k (Z.1.1 k)), (upd Z.2.1.2.1 k (Z.1.2.1 k)), Z.2.1.2.2.1, Z.2.1.2.2.2.1, Z.2.1.2.2.2.2), (Z.2.2.1.1, Z.2.2.1.2.1, Z.2.2.1.2.2.1, Z.2.2.1.2.2.2.1, Z.2.2.1.2.2.2.2), (Z.2.2.2.1.1, Z.2.2.2.1.2.1, Z.2.2.2.1.2.2.1, Z.2.2.2.1.2.2.2.1, Z.2.2.2.1.2.2.2.2), (Z.2.2.2.2.1.1, Z.2.2.2.2.1.2.1, Z.2.2.2.2.1.2.2.1, Z.2.2.2.2.1.2.2.2.1, Z.2.2.2.2.1.2.2.2.2), (Z.2.2.2.2.2.1, Z.2.2.2.2.2.2.1, Z.2.2.2.2.2.2.2.1, Z.2.2.2.2.2.2.2.2.1, Z.2.2.2.2.2.2.2.2.2))) H := hP
            have hD : va_D A (mr_W cA cZ ad ((Z.1.1, Z.1.2.1, Z.1.2.2.1, Z.1.2.2.2.1, Z.1.2.2.2.2), ((upd Z.2.1.1 k (Z.1.1 k)), (upd Z.2.1.2.1 k (Z.1.2.1 k)), Z.2.1.2.2.1, Z.2.1.2.2.2.1, Z.2.1.2.2.2.2), (Z.2.2.1.1, Z.2.2.1.2.1, Z.2.2.1.2.2.1, Z.2.2.1.2.2.2.1, Z.2.2.1.2.2.2.2), (Z.2.2.2.1.1, Z.2.2.2.1.2.1, Z.2.2.2.1.2.2.1, Z.2.2.2.1.2.2.2.1, Z.2.2.2.1.2.2.2.2), (Z.2.2.2.2.1.1, Z.2.2.2.2.1.2.1, Z.2.2.2.2.1.2.2.1, Z.2.2.2.2.1.2.2.2.1, Z.2.2.2.2.1.2.2.2.2), (Z.2.2.2.2.2.1, Z.2.2.2.2.2.2.1, Z.2.2.2.2.2.2.2.1, Z.2.2.2.2.2.2.2.2.1, Z.2.2.2.2.2.2.2.2.2))) := hD
            refine lv_aload_n hx hb d_Model_load_137 rfl (lv_at hl 3 rfl) ?_
            refine va_get (D := (dC, dI)) (ci := 4) (v := .ref (ad 1)) (C := R_Model) (T := F_Model) (N := 30) hx hb hts (fun q hq => List.mem_cons_of_mem _ (i_Model q hq)) hown hK hP 0 rfl rfl 1 (by decide) (hts _ (List.mem_cons_of_mem _ m_13_18)) (fun _ h9 => h9) rfl d_Model_load_138 ?_
            refine lv_iload_n hx hb d_Model_load_141 rfl (lv_at hl 2 rfl) ?_
            have hin : vp_in (nI k) 200 := by first | assumption | exact vp_in_nI (by omega) (by decide)
            refine va_iald (f := Z.1.1) (n := 200) hx hb hK hP 1 0 rfl rfl hin d_Model_load_142 ?_
            rw [nI_clamp (show k < 2 ^ 31 by omega)]
            refine lm_si (As := [.int (Z.1.1 k)]) (rest := []) (wr := (mr_W cA cZ ad ((Z.1.1, Z.1.2.1, Z.1.2.2.1, Z.1.2.2.2.1, Z.1.2.2.2.2), ((upd Z.2.1.1 k (Z.1.1 k)), (upd Z.2.1.2.1 k (Z.1.2.1 k)), Z.2.1.2.2.1, Z.2.1.2.2.2.1, Z.2.1.2.2.2.2), (Z.2.2.1.1, Z.2.2.1.2.1, Z.2.2.1.2.2.1, Z.2.2.1.2.2.2.1, Z.2.2.1.2.2.2.2), (Z.2.2.2.1.1, Z.2.2.2.1.2.1, Z.2.2.2.1.2.2.1, Z.2.2.2.1.2.2.2.1, Z.2.2.2.1.2.2.2.2), (Z.2.2.2.2.1.1, Z.2.2.2.2.1.2.1, Z.2.2.2.2.1.2.2.1, Z.2.2.2.2.1.2.2.2.1, Z.2.2.2.2.1.2.2.2.2), (Z.2.2.2.2.2.1, Z.2.2.2.2.2.2.1, Z.2.2.2.2.2.2.2.1, Z.2.2.2.2.2.2.2.2.1, Z.2.2.2.2.2.2.2.2.2)))) ⟨hx, hb, hml, hown, hts⟩ hK hP hD hS hA [] [0, 1, 2, 3, 4, 5, 6, 7, 8, 9, 10, 11, 12, 13, 14, 15] rfl rfl (by decide) (by decide) (by decide) (c_Model_many l dC dI cA cZ  _  (Z.1.1 k) ) (cwS 1 hts (lm_gS m_15_15 m_15_16 m_0_5 m_15_17) rfl rfl rfl (by decide +kernel) ⟨Nat.le_of_ble_eq_true rfl, Nat.le_of_ble_eq_true rfl⟩) lm_bl_no (fun _ _ _ => trivial) hl.1 rfl rfl (Nat.le_of_ble_eq_true rfl) d_Model_load_143 ⟨Nat.le_of_ble_eq_true rfl, Nat.le_of_ble_eq_true rfl⟩ (fun r143 u143 H locs w143 hP hD hS => ?_)
            obtain ⟨e_r143, w143⟩ := w143
            have hP : va_P (dC, dI) classes (mr_W cA cZ ad ((Z.1.1, Z.1.2.1, Z.1.2.2.1, Z.1.2.2.2.1, Z.1.2.2.2.2), ((upd Z.2.1.1 k (Z.1.1 k)), (upd Z.2.1.2.1 k (Z.1.2.1 k)), Z.2.1.2.2.1, Z.2.1.2.2.2.1, Z.2.1.2.2.2.2), (Z.2.2.1.1, Z.2.2.1.2.1, Z.2.2.1.2.2.1, Z.2.2.1.2.2.2.1, Z.2.2.1.2.2.2.2), (Z.2.2.2.1.1, Z.2.2.2.1.2.1, Z.2.2.2.1.2.2.1, Z.2.2.2.1.2.2.2.1, Z.2.2.2.1.2.2.2.2), (Z.2.2.2.2.1.1, Z.2.2.2.2.1.2.1, Z.2.2.2.2.1.2.2.1, Z.2.2.2.2.1.2.2.2.1, Z.2.2.2.2.1.2.2.2.2), (Z.2.2.2.2.2.1, Z.2.2.2.2.2.2.1, Z.2.2.2.2.2.2.2.1, Z.2.2.2.2.2.2.2.2.1, Z.2.2.2.2.2.2.2.2.2))) H := hP
            have hD : va_D A (mr_W cA cZ ad ((Z.1.1, Z.1.2.1, Z.1.2.2.1, Z.1.2.2.2.1, Z.1.2.2.2.2), ((upd Z.2.1.1 k (Z.1.1 k)), (upd Z.2.1.2.1 k (Z.1.2.1 k)), Z.2.1.2.2.1, Z.2.1.2.2.2.1, Z.2.1.2.2.2.2), (Z.2.2.1.1, Z.2.2.1.2.1, Z.2.2.1.2.2.1, Z.2.2.1.2.2.2.1, Z.2.2.1.2.2.2.2), (Z.2.2.2.1.1, Z.2.2.2.1.2.1, Z.2.2.2.1.2.2.1, Z.2.2.2.1.2.2.2.1, Z.2.2.2.1.2.2.2.2), (Z.2.2.2.2.1.1, Z.2.2.2.2.1.2.1, Z.2.2.2.2.1.2.2.1, Z.2.2.2.2.1.2.2.2.1, Z.2.2.2.2.1.2.2.2.2), (Z.2.2.2.2.2.1, Z.2.2.2.2.2.2.1, Z.2.2.2.2.2.2.2.1, Z.2.2.2.2.2.2.2.2.1, Z.2.2.2.2.2.2.2.2.2))) := hD
            refine lv_istore (lv' := [(5, .int r143), (4, .int (Z.2.1.2.2.2.2 q)), (2, .int (nI q)), (3, .int (nI k)), (0, .ref (ad 0)), (1, .int (nI n))]) hx hb d_Model_load_146 hl (by decide) rfl (fun ls hl => ?_)
            obtain ⟨mm, hmm, hmm2⟩ := md_many_n (r_so (md_l2 (md_l1 Z k q) k) k)
            have hmr : r143 = nI mm := by
              rw [e_r143, ← hmm2, hl1s]; rfl
            have hl2s : md_l2 (md_l1 Z k q) k = ((Z.1.1, Z.1.2.1, Z.1.2.2.1, Z.1.2.2.2.1, Z.1.2.2.2.2), ((upd Z.2.1.1 k (Z.1.1 k)), (upd Z.2.1.2.1 k (Z.1.2.1 k)), Z.2.1.2.2.1, Z.2.1.2.2.2.1, Z.2.1.2.2.2.2), (Z.2.2.1.1, Z.2.2.1.2.1, Z.2.2.1.2.2.1, Z.2.2.1.2.2.2.1, Z.2.2.1.2.2.2.2), (Z.2.2.2.1.1, Z.2.2.2.1.2.1, Z.2.2.2.1.2.2.1, Z.2.2.2.1.2.2.2.1, Z.2.2.2.1.2.2.2.2), (Z.2.2.2.2.1.1, Z.2.2.2.2.1.2.1, Z.2.2.2.2.1.2.2.1, Z.2.2.2.2.1.2.2.2.1, Z.2.2.2.2.1.2.2.2.2), (Z.2.2.2.2.2.1, Z.2.2.2.2.2.2.1, Z.2.2.2.2.2.2.2.1, Z.2.2.2.2.2.2.2.2.1, Z.2.2.2.2.2.2.2.2.2)) := by rw [hl1s]; rfl
            refine lv_iload hx hb d_Model_load_148 (lv_at hl 0 rfl) ?_
            refine lv_iconst (v := 1) hx hb d_Model_load_150 (by decide) ?_
            refine lv_isub hx hb d_Model_load_151 ?_
            refine lv_topi (fun z_ e_ => ?_)
            have e_ : z_ = (nI mm - 1) := e_.trans (by rw [hmr])
            subst e_
            refine lv_istore (lv' := [(6, .int (nI mm - 1)), (5, .int r143), (4, .int (Z.2.1.2.2.2.2 q)), (2, .int (nI q)), (3, .int (nI k)), (0, .ref (ad 0)), (1, .int (nI n))]) hx hb d_Model_load_152 hl (by decide) rfl (fun ls hl => ?_)
            have loop : ∀ (fv : Nat) (cn o : Nat) (Y : ZNS) (ls : Array Slot) (H : Heap) (locs : List Loc), (cn = fv) → (o + cn ≤ 2 * k + 3) → (cn ≤ 3) → (md_ows Y o) → (md_load ((aso, axs, (nI n), ath, asi), (asr, anu, ach, aow, aar), (ais, aon, atw, awh, afi), (ase, afr, amo, ass, asp), (afo, aba, ano, aen, avs), (avo, avt, are, atd, ale)) = md_loadN n fu (k + 1) (md_inN cn k (Z.2.1.2.2.2.2 q) o Y).1 (md_inN cn k (Z.2.1.2.2.2.2 q) o Y).2) → lv_has ls 8 [(6, .int (nI cn - 1)), (2, .int (nI o)), (4, .int (Z.2.1.2.2.2.2 q)), (3, .int (nI k)), (0, .ref (ad 0)), (1, .int (nI n))] → va_P (dC, dI) classes (mr_W cA cZ ad Y) H → va_D A (mr_W cA cZ ad Y) → va_S A s.heap H locs → W p l e (headSpec w_Model_load ({ frames := 1, cells := 0, slots := 0, locals := 20 } : Room)).room s m (List.toArray [.ref (ad 0)]) below meth c H locs 0 0 (MQ below (va_Qi (fun (r : Int32) (u : ZNS) => r = (md_load ((aso, axs, (nI n), ath, asi), (asr, anu, ach, aow, aar), (ais, aon, atw, awh, afi), (ase, afr, amo, ass, asp), (afo, aba, ano, aen, avs), (avo, avt, are, atd, ale))).1 ∧ u = (md_load ((aso, axs, (nI n), ath, asi), (asr, anu, ach, aow, aar), (ais, aon, atw, awh, afi), (ase, afr, amo, ass, asp), (afo, aba, ano, aen, avs), (avo, avt, are, atd, ale))).2) (fun u => lm_at (dC, dI) classes [(cA, .int), (cZ, .boolean)] A (mr_W cA cZ ad u)) A) (List.toArray [.ref (ad 0)]) s 0 0 A) (F0 m 154 ls []) := by
              intro fv
              induction fv with
              | zero => 
                intro cn o Y ls H locs hc ho hc3 how hqi hl hP hD hS
                refine lv_iload hx hb d_Model_load_154 (lv_at hl 0 rfl) ?_
                refine lv_if_lt hx hb d_Model_load_156 rfl (fun h156 => ?_) (fun h156 => by exact absurd (by rw [hc]; decide) h156)
                refine lv_iinc (k := 3) (v := (nI (k + 1))) (lv' := [(3, .int (nI (k + 1))), (6, .int (nI cn - 1)), (2, .int (nI o)), (4, .int (Z.2.1.2.2.2.2 q)), (0, .ref (ad 0)), (1, .int (nI n))]) hx hb d_Model_load_244 hl rfl ((nI_succ k).symm) (by decide) rfl (fun ls hl => ?_)
                refine lv_goto hx hb d_Model_load_247 rfl ?_
                exact ih (k + 1) o Y _ _ _ (by omega) (by omega) (by exact how) (by rw [hqi, hc, md_inN]) (lv_sub hl [0, 2, 4, 5] rfl) hP hD hS
              | succ fv ih2 => 
                intro cn o Y ls H locs hc ho hc3 how hqi hl hP hD hS
                obtain ⟨d, rfl⟩ : ∃ d, cn = d + 1 := ⟨fv, hc⟩
                have hd : d = fv := by omega
                rw [nI_pred] at hl
                refine lv_iload hx hb d_Model_load_154 (lv_at hl 0 rfl) ?_
                refine lv_if_lt hx hb d_Model_load_156 rfl (fun h156 => by exact absurd h156 (nI_pos (by omega))) (fun h156 => ?_)
                refine lv_aload_n hx hb d_Model_load_159 rfl (lv_at hl 4 rfl) ?_
                refine va_get (D := (dC, dI)) (ci := 4) (v := .ref (ad 1)) (C := R_Model) (T := F_Model) (N := 30) hx hb hts (fun q hq => List.mem_cons_of_mem _ (i_Model q hq)) hown hK hP 0 rfl rfl 1 (by decide) (hts _ (List.mem_cons_of_mem _ m_13_18)) (fun _ h9 => h9) rfl d_Model_load_160 ?_
                refine lv_iload_n hx hb d_Model_load_163 rfl (lv_at hl 3 rfl) ?_
                have hin : vp_in (nI k) 200 := by first | assumption | exact vp_in_nI (by omega) (by decide)
                refine va_iald (f := Y.1.1) (n := 200) hx hb hK hP 1 0 rfl rfl hin d_Model_load_164 ?_
                rw [nI_clamp (show k < 2 ^ 31 by omega)]
                refine lv_iconst (v := 1) hx hb d_Model_load_165 (by decide) ?_
                refine lv_icmp_eq hx hb d_Model_load_166 rfl (fun h166 => ?_) (fun h166 => ?_)
                · refine lv_iconst (v := 1) hx hb d_Model_load_197 (by decide) ?_
                  refine lv_goto hx hb d_Model_load_198 rfl ?_
                  refine lv_istore (lv' := [(7, .int 1), (6, .int (nI d)), (2, .int (nI o)), (4, .int (Z.2.1.2.2.2.2 q)), (3, .int (nI k)), (0, .ref (ad 0)), (1, .int (nI n))]) hx hb d_Model_load_202 hl (by decide) rfl (fun ls hl => ?_)
                  refine lv_aload_n hx hb d_Model_load_204 rfl (lv_at hl 5 rfl) ?_
                  refine va_get (D := (dC, dI)) (ci := 4) (v := .ref (ad 6)) (C := R_Model) (T := F_Model) (N := 30) hx hb hts (fun q hq => List.mem_cons_of_mem _ (i_Model q hq)) hown hK hP 0 rfl rfl 8 (by decide) (hts _ (List.mem_cons_of_mem _ m_14_1)) (fun _ h9 => h9) rfl d_Model_load_205 ?_
                  refine lv_iload_n hx hb d_Model_load_208 rfl (lv_at hl 2 rfl) ?_
                  refine lv_iconst (v := 3) hx hb d_Model_load_209 (by decide) ?_
                  refine lv_iload_n hx hb d_Model_load_210 rfl (lv_at hl 4 rfl) ?_
                  refine lv_imul hx hb d_Model_load_211 ?_
                  refine lv_iload hx hb d_Model_load_212 (lv_at hl 1 rfl) ?_
                  refine lv_iadd hx hb d_Model_load_214 ?_
                  have hin : vp_in (nI o) 700 := by first | assumption | exact vp_in_nI (by omega) (by decide)
                  refine va_iast (f := Y.2.1.2.2.2.1) (n := 700) hx hb hK hP hD hS 6 0 rfl rfl hin d_Model_load_215 (fun H locs hP hD hS => ?_)
                  rw [nI_clamp (show o < 2 ^ 31 by omega)] at hP hD
                  have hP : va_P (dC, dI) classes (mr_W cA cZ ad ((Y.1.1, Y.1.2.1, Y.1.2.2.1, Y.1.2.2.2.1, Y.1.2.2.2.2), (Y.2.1.1, Y.2.1.2.1, Y.2.1.2.2.1, (upd Y.2.1.2.2.2.1 o ((3 * (nI k)) + (nI d))), Y.2.1.2.2.2.2), (Y.2.2.1.1, Y.2.2.1.2.1, Y.2.2.1.2.2.1, Y.2.2.1.2.2.2.1, Y.2.2.1.2.2.2.2), (Y.2.2.2.1.1, Y.2.2.2.1.2.1, Y.2.2.2.1.2.2.1, Y.2.2.2.1.2.2.2.1, Y.2.2.2.1.2.2.2.2), (Y.2.2.2.2.1.1, Y.2.2.2.2.1.2.1, Y.2.2.2.2.1.2.2.1, Y.2.2.2.2.1.2.2.2.1, Y.2.2.2.2.1.2.2.2.2), (Y.2.2.2.2.2.1, Y.2.2.2.2.2.2.1, Y.2.2.2.2.2.2.2.1, Y.2.2.2.2.2.2.2.2.1, Y.2.2.2.2.2.2.2.2.2))) H := hP
                  have hD : va_D A (mr_W cA cZ ad ((Y.1.1, Y.1.2.1, Y.1.2.2.1, Y.1.2.2.2.1, Y.1.2.2.2.2), (Y.2.1.1, Y.2.1.2.1, Y.2.1.2.2.1, (upd Y.2.1.2.2.2.1 o ((3 * (nI k)) + (nI d))), Y.2.1.2.2.2.2), (Y.2.2.1.1, Y.2.2.1.2.1, Y.2.2.1.2.2.1, Y.2.2.1.2.2.2.1, Y.2.2.1.2.2.2.2), (Y.2.2.2.1.1, Y.2.2.2.1.2.1, Y.2.2.2.1.2.2.1, Y.2.2.2.1.2.2.2.1, Y.2.2.2.1.2.2.2.2), (Y.2.2.2.2.1.1, Y.2.2.2.2.1.2.1, Y.2.2.2.2.1.2.2.1, Y.2.2.2.2.1.2.2.2.1, Y.2.2.2.2.1.2.2.2.2), (Y.2.2.2.2.2.1, Y.2.2.2.2.2.2.1, Y.2.2.2.2.2.2.2.1, Y.2.2.2.2.2.2.2.2.1, Y.2.2.2.2.2.2.2.2.2))) := hD
                  refine lv_aload_n hx hb d_Model_load_216 rfl (lv_at hl 5 rfl) ?_
                  refine va_get (D := (dC, dI)) (ci := 4) (v := .ref (ad 7)) (C := R_Model) (T := F_Model) (N := 30) hx hb hts (fun q hq => List.mem_cons_of_mem _ (i_Model q hq)) hown hK hP 0 rfl rfl 9 (by decide) (hts _ (List.mem_cons_of_mem _ m_14_2)) (fun _ h9 => h9) rfl d_Model_load_217 ?_
                  refine lv_iload_n hx hb d_Model_load_220 rfl (lv_at hl 2 rfl) ?_
                  refine lv_iload hx hb d_Model_load_221 (lv_at hl 3 rfl) ?_
                  refine lv_iload hx hb d_Model_load_223 (lv_at hl 0 rfl) ?_
                  refine lv_if_eq hx hb d_Model_load_225 rfl (fun h225 => by exact absurd h225 (by decide)) (fun h225 => ?_)
                  refine lv_iconst (v := 1) hx hb d_Model_load_228 (by decide) ?_
                  refine lv_goto hx hb d_Model_load_229 rfl ?_
                  refine lv_iadd hx hb d_Model_load_233 ?_
                  have hin : vp_in (nI o) 700 := by first | assumption | exact vp_in_nI (by omega) (by decide)
                  refine va_iast (f := Y.2.1.2.2.2.2) (n := 700) hx hb hK hP hD hS 7 0 rfl rfl hin d_Model_load_234 (fun H locs hP hD hS => ?_)
                  rw [nI_clamp (show o < 2 ^ 31 by omega)] at hP hD
                  have hP : va_P (dC, dI) classes (mr_W cA cZ ad ((Y.1.1, Y.1.2.1, Y.1.2.2.1, Y.1.2.2.2.1, Y.1.2.2.2.2), (Y.2.1.1, Y.2.1.2.1, Y.2.1.2.2.1, (upd Y.2.1.2.2.2.1 o ((3 * (nI k)) + (nI d))), (upd Y.2.1.2.2.2.2 o ((Z.2.1.2.2.2.2 q) + 1))), (Y.2.2.1.1, Y.2.2.1.2.1, Y.2.2.1.2.2.1, Y.2.2.1.2.2.2.1, Y.2.2.1.2.2.2.2), (Y.2.2.2.1.1, Y.2.2.2.1.2.1, Y.2.2.2.1.2.2.1, Y.2.2.2.1.2.2.2.1, Y.2.2.2.1.2.2.2.2), (Y.2.2.2.2.1.1, Y.2.2.2.2.1.2.1, Y.2.2.2.2.1.2.2.1, Y.2.2.2.2.1.2.2.2.1, Y.2.2.2.2.1.2.2.2.2), (Y.2.2.2.2.2.1, Y.2.2.2.2.2.2.1, Y.2.2.2.2.2.2.2.1, Y.2.2.2.2.2.2.2.2.1, Y.2.2.2.2.2.2.2.2.2))) H := hP
                  have hD : va_D A (mr_W cA cZ ad ((Y.1.1, Y.1.2.1, Y.1.2.2.1, Y.1.2.2.2.1, Y.1.2.2.2.2), (Y.2.1.1, Y.2.1.2.1, Y.2.1.2.2.1, (upd Y.2.1.2.2.2.1 o ((3 * (nI k)) + (nI d))), (upd Y.2.1.2.2.2.2 o ((Z.2.1.2.2.2.2 q) + 1))), (Y.2.2.1.1, Y.2.2.1.2.1, Y.2.2.1.2.2.1, Y.2.2.1.2.2.2.1, Y.2.2.1.2.2.2.2), (Y.2.2.2.1.1, Y.2.2.2.1.2.1, Y.2.2.2.1.2.2.1, Y.2.2.2.1.2.2.2.1, Y.2.2.2.1.2.2.2.2), (Y.2.2.2.2.1.1, Y.2.2.2.2.1.2.1, Y.2.2.2.2.1.2.2.1, Y.2.2.2.2.1.2.2.2.1, Y.2.2.2.2.1.2.2.2.2), (Y.2.2.2.2.2.1, Y.2.2.2.2.2.2.1, Y.2.2.2.2.2.2.2.1, Y.2.2.2.2.2.2.2.2.1, Y.2.2.2.2.2.2.2.2.2))) := hD
                  refine lv_iinc (k := 2) (v := (nI (o + 1))) (lv' := [(2, .int (nI (o + 1))), (7, .int 1), (6, .int (nI d)), (4, .int (Z.2.1.2.2.2.2 q)), (3, .int (nI k)), (0, .ref (ad 0)), (1, .int (nI n))]) hx hb d_Model_load_235 hl rfl ((nI_succ o).symm) (by decide) rfl (fun ls hl => ?_)
                  refine lv_iinc (k := 2) (v := (nI d - 1)) (lv' := [(6, .int (nI d - 1)), (2, .int (nI (o + 1))), (7, .int 1), (4, .int (Z.2.1.2.2.2.2 q)), (3, .int (nI k)), (0, .ref (ad 0)), (1, .int (nI n))]) hx hb d_Model_load_238 hl rfl ((Int32.sub_eq_add_neg (nI d) 1).symm) (by decide) rfl (fun ls hl => ?_)
                  refine lv_goto hx hb d_Model_load_241 rfl ?_
                  have hst : ((Y.1.1, Y.1.2.1, Y.1.2.2.1, Y.1.2.2.2.1, Y.1.2.2.2.2), (Y.2.1.1, Y.2.1.2.1, Y.2.1.2.2.1, (upd Y.2.1.2.2.2.1 o ((3 * (nI k)) + (nI d))), (upd Y.2.1.2.2.2.2 o ((Z.2.1.2.2.2.2 q) + 1))), (Y.2.2.1.1, Y.2.2.1.2.1, Y.2.2.1.2.2.1, Y.2.2.1.2.2.2.1, Y.2.2.1.2.2.2.2), (Y.2.2.2.1.1, Y.2.2.2.1.2.1, Y.2.2.2.1.2.2.1, Y.2.2.2.1.2.2.2.1, Y.2.2.2.1.2.2.2.2), (Y.2.2.2.2.1.1, Y.2.2.2.2.1.2.1, Y.2.2.2.2.1.2.2.1, Y.2.2.2.2.1.2.2.2.1, Y.2.2.2.2.1.2.2.2.2), (Y.2.2.2.2.2.1, Y.2.2.2.2.2.2.1, Y.2.2.2.2.2.2.2.1, Y.2.2.2.2.2.2.2.2.1, Y.2.2.2.2.2.2.2.2.2)) = s_ar (s_ow Y (upd (r_ow Y) o (3 * nI k + nI d))) (upd (r_ar Y) o ((Z.2.1.2.2.2.2 q) + tm_binds (r_so Y k) (nI d))) := by
                    unfold tm_binds; (first | rw [if_pos h166] | rw [if_neg h166]); rfl
                  rw [hst] at hP hD
                  exact ih2 d (o + 1) (s_ar (s_ow Y (upd (r_ow Y) o (3 * nI k + nI d))) (upd (r_ar Y) o ((Z.2.1.2.2.2.2 q) + tm_binds (r_so Y k) (nI d)))) _ _ _ (by omega) (by omega) (by omega) (by exact md_ows_in how (by omega) (by omega)) (by rw [hqi, md_inN]) (lv_sub hl [0, 1, 3, 4, 5, 6] rfl) hP hD hS
                · refine lv_aload_n hx hb d_Model_load_169 rfl (lv_at hl 4 rfl) ?_
                  refine va_get (D := (dC, dI)) (ci := 4) (v := .ref (ad 1)) (C := R_Model) (T := F_Model) (N := 30) hx hb hts (fun q hq => List.mem_cons_of_mem _ (i_Model q hq)) hown hK hP 0 rfl rfl 1 (by decide) (hts _ (List.mem_cons_of_mem _ m_13_18)) (fun _ h9 => h9) rfl d_Model_load_170 ?_
                  refine lv_iload_n hx hb d_Model_load_173 rfl (lv_at hl 3 rfl) ?_
                  have hin : vp_in (nI k) 200 := by first | assumption | exact vp_in_nI (by omega) (by decide)
                  refine va_iald (f := Y.1.1) (n := 200) hx hb hK hP 1 0 rfl rfl hin d_Model_load_174 ?_
                  rw [nI_clamp (show k < 2 ^ 31 by omega)]
                  refine lv_bipush (v := 9) hx hb d_Model_load_175 (by decide) ?_
                  refine lv_icmp_eq hx hb d_Model_load_177 rfl (fun h177 => ?_) (fun h177 => ?_)
                  · refine lv_iconst (v := 1) hx hb d_Model_load_197 (by decide) ?_
                    refine lv_goto hx hb d_Model_load_198 rfl ?_
                    refine lv_istore (lv' := [(7, .int 1), (6, .int (nI d)), (2, .int (nI o)), (4, .int (Z.2.1.2.2.2.2 q)), (3, .int (nI k)), (0, .ref (ad 0)), (1, .int (nI n))]) hx hb d_Model_load_202 hl (by decide) rfl (fun ls hl => ?_)
                    refine lv_aload_n hx hb d_Model_load_204 rfl (lv_at hl 5 rfl) ?_
                    refine va_get (D := (dC, dI)) (ci := 4) (v := .ref (ad 6)) (C := R_Model) (T := F_Model) (N := 30) hx hb hts (fun q hq => List.mem_cons_of_mem _ (i_Model q hq)) hown hK hP 0 rfl rfl 8 (by decide) (hts _ (List.mem_cons_of_mem _ m_14_1)) (fun _ h9 => h9) rfl d_Model_load_205 ?_
                    refine lv_iload_n hx hb d_Model_load_208 rfl (lv_at hl 2 rfl) ?_
                    refine lv_iconst (v := 3) hx hb d_Model_load_209 (by decide) ?_
                    refine lv_iload_n hx hb d_Model_load_210 rfl (lv_at hl 4 rfl) ?_
                    refine lv_imul hx hb d_Model_load_211 ?_
                    refine lv_iload hx hb d_Model_load_212 (lv_at hl 1 rfl) ?_
                    refine lv_iadd hx hb d_Model_load_214 ?_
                    have hin : vp_in (nI o) 700 := by first | assumption | exact vp_in_nI (by omega) (by decide)
                    refine va_iast (f := Y.2.1.2.2.2.1) (n := 700) hx hb hK hP hD hS 6 0 rfl rfl hin d_Model_load_215 (fun H locs hP hD hS => ?_)
                    rw [nI_clamp (show o < 2 ^ 31 by omega)] at hP hD
                    have hP : va_P (dC, dI) classes (mr_W cA cZ ad ((Y.1.1, Y.1.2.1, Y.1.2.2.1, Y.1.2.2.2.1, Y.1.2.2.2.2), (Y.2.1.1, Y.2.1.2.1, Y.2.1.2.2.1, (upd Y.2.1.2.2.2.1 o ((3 * (nI k)) + (nI d))), Y.2.1.2.2.2.2), (Y.2.2.1.1, Y.2.2.1.2.1, Y.2.2.1.2.2.1, Y.2.2.1.2.2.2.1, Y.2.2.1.2.2.2.2), (Y.2.2.2.1.1, Y.2.2.2.1.2.1, Y.2.2.2.1.2.2.1, Y.2.2.2.1.2.2.2.1, Y.2.2.2.1.2.2.2.2), (Y.2.2.2.2.1.1, Y.2.2.2.2.1.2.1, Y.2.2.2.2.1.2.2.1, Y.2.2.2.2.1.2.2.2.1, Y.2.2.2.2.1.2.2.2.2), (Y.2.2.2.2.2.1, Y.2.2.2.2.2.2.1, Y.2.2.2.2.2.2.2.1, Y.2.2.2.2.2.2.2.2.1, Y.2.2.2.2.2.2.2.2.2))) H := hP
                    have hD : va_D A (mr_W cA cZ ad ((Y.1.1, Y.1.2.1, Y.1.2.2.1, Y.1.2.2.2.1, Y.1.2.2.2.2), (Y.2.1.1, Y.2.1.2.1, Y.2.1.2.2.1, (upd Y.2.1.2.2.2.1 o ((3 * (nI k)) + (nI d))), Y.2.1.2.2.2.2), (Y.2.2.1.1, Y.2.2.1.2.1, Y.2.2.1.2.2.1, Y.2.2.1.2.2.2.1, Y.2.2.1.2.2.2.2), (Y.2.2.2.1.1, Y.2.2.2.1.2.1, Y.2.2.2.1.2.2.1, Y.2.2.2.1.2.2.2.1, Y.2.2.2.1.2.2.2.2), (Y.2.2.2.2.1.1, Y.2.2.2.2.1.2.1, Y.2.2.2.2.1.2.2.1, Y.2.2.2.2.1.2.2.2.1, Y.2.2.2.2.1.2.2.2.2), (Y.2.2.2.2.2.1, Y.2.2.2.2.2.2.1, Y.2.2.2.2.2.2.2.1, Y.2.2.2.2.2.2.2.2.1, Y.2.2.2.2.2.2.2.2.2))) := hD
                    refine lv_aload_n hx hb d_Model_load_216 rfl (lv_at hl 5 rfl) ?_
                    refine va_get (D := (dC, dI)) (ci := 4) (v := .ref (ad 7)) (C := R_Model) (T := F_Model) (N := 30) hx hb hts (fun q hq => List.mem_cons_of_mem _ (i_Model q hq)) hown hK hP 0 rfl rfl 9 (by decide) (hts _ (List.mem_cons_of_mem _ m_14_2)) (fun _ h9 => h9) rfl d_Model_load_217 ?_
                    refine lv_iload_n hx hb d_Model_load_220 rfl (lv_at hl 2 rfl) ?_
                    refine lv_iload hx hb d_Model_load_221 (lv_at hl 3 rfl) ?_
                    refine lv_iload hx hb d_Model_load_223 (lv_at hl 0 rfl) ?_
                    refine lv_if_eq hx hb d_Model_load_225 rfl (fun h225 => by exact absurd h225 (by decide)) (fun h225 => ?_)
                    refine lv_iconst (v := 1) hx hb d_Model_load_228 (by decide) ?_
                    refine lv_goto hx hb d_Model_load_229 rfl ?_
                    refine lv_iadd hx hb d_Model_load_233 ?_
                    have hin : vp_in (nI o) 700 := by first | assumption | exact vp_in_nI (by omega) (by decide)
                    refine va_iast (f := Y.2.1.2.2.2.2) (n := 700) hx hb hK hP hD hS 7 0 rfl rfl hin d_Model_load_234 (fun H locs hP hD hS => ?_)
                    rw [nI_clamp (show o < 2 ^ 31 by omega)] at hP hD
                    have hP : va_P (dC, dI) classes (mr_W cA cZ ad ((Y.1.1, Y.1.2.1, Y.1.2.2.1, Y.1.2.2.2.1, Y.1.2.2.2.2), (Y.2.1.1, Y.2.1.2.1, Y.2.1.2.2.1, (upd Y.2.1.2.2.2.1 o ((3 * (nI k)) + (nI d))), (upd Y.2.1.2.2.2.2 o ((Z.2.1.2.2.2.2 q) + 1))), (Y.2.2.1.1, Y.2.2.1.2.1, Y.2.2.1.2.2.1, Y.2.2.1.2.2.2.1, Y.2.2.1.2.2.2.2), (Y.2.2.2.1.1, Y.2.2.2.1.2.1, Y.2.2.2.1.2.2.1, Y.2.2.2.1.2.2.2.1, Y.2.2.2.1.2.2.2.2), (Y.2.2.2.2.1.1, Y.2.2.2.2.1.2.1, Y.2.2.2.2.1.2.2.1, Y.2.2.2.2.1.2.2.2.1, Y.2.2.2.2.1.2.2.2.2), (Y.2.2.2.2.2.1, Y.2.2.2.2.2.2.1, Y.2.2.2.2.2.2.2.1, Y.2.2.2.2.2.2.2.2.1, Y.2.2.2.2.2.2.2.2.2))) H := hP
                    have hD : va_D A (mr_W cA cZ ad ((Y.1.1, Y.1.2.1, Y.1.2.2.1, Y.1.2.2.2.1, Y.1.2.2.2.2), (Y.2.1.1, Y.2.1.2.1, Y.2.1.2.2.1, (upd Y.2.1.2.2.2.1 o ((3 * (nI k)) + (nI d))), (upd Y.2.1.2.2.2.2 o ((Z.2.1.2.2.2.2 q) + 1))), (Y.2.2.1.1, Y.2.2.1.2.1, Y.2.2.1.2.2.1, Y.2.2.1.2.2.2.1, Y.2.2.1.2.2.2.2), (Y.2.2.2.1.1, Y.2.2.2.1.2.1, Y.2.2.2.1.2.2.1, Y.2.2.2.1.2.2.2.1, Y.2.2.2.1.2.2.2.2), (Y.2.2.2.2.1.1, Y.2.2.2.2.1.2.1, Y.2.2.2.2.1.2.2.1, Y.2.2.2.2.1.2.2.2.1, Y.2.2.2.2.1.2.2.2.2), (Y.2.2.2.2.2.1, Y.2.2.2.2.2.2.1, Y.2.2.2.2.2.2.2.1, Y.2.2.2.2.2.2.2.2.1, Y.2.2.2.2.2.2.2.2.2))) := hD
                    refine lv_iinc (k := 2) (v := (nI (o + 1))) (lv' := [(2, .int (nI (o + 1))), (7, .int 1), (6, .int (nI d)), (4, .int (Z.2.1.2.2.2.2 q)), (3, .int (nI k)), (0, .ref (ad 0)), (1, .int (nI n))]) hx hb d_Model_load_235 hl rfl ((nI_succ o).symm) (by decide) rfl (fun ls hl => ?_)
                    refine lv_iinc (k := 2) (v := (nI d - 1)) (lv' := [(6, .int (nI d - 1)), (2, .int (nI (o + 1))), (7, .int 1), (4, .int (Z.2.1.2.2.2.2 q)), (3, .int (nI k)), (0, .ref (ad 0)), (1, .int (nI n))]) hx hb d_Model_load_238 hl rfl ((Int32.sub_eq_add_neg (nI d) 1).symm) (by decide) rfl (fun ls hl => ?_)
                    refine lv_goto hx hb d_Model_load_241 rfl ?_
                    have hst : ((Y.1.1, Y.1.2.1, Y.1.2.2.1, Y.1.2.2.2.1, Y.1.2.2.2.2), (Y.2.1.1, Y.2.1.2.1, Y.2.1.2.2.1, (upd Y.2.1.2.2.2.1 o ((3 * (nI k)) + (nI d))), (upd Y.2.1.2.2.2.2 o ((Z.2.1.2.2.2.2 q) + 1))), (Y.2.2.1.1, Y.2.2.1.2.1, Y.2.2.1.2.2.1, Y.2.2.1.2.2.2.1, Y.2.2.1.2.2.2.2), (Y.2.2.2.1.1, Y.2.2.2.1.2.1, Y.2.2.2.1.2.2.1, Y.2.2.2.1.2.2.2.1, Y.2.2.2.1.2.2.2.2), (Y.2.2.2.2.1.1, Y.2.2.2.2.1.2.1, Y.2.2.2.2.1.2.2.1, Y.2.2.2.2.1.2.2.2.1, Y.2.2.2.2.1.2.2.2.2), (Y.2.2.2.2.2.1, Y.2.2.2.2.2.2.1, Y.2.2.2.2.2.2.2.1, Y.2.2.2.2.2.2.2.2.1, Y.2.2.2.2.2.2.2.2.2)) = s_ar (s_ow Y (upd (r_ow Y) o (3 * nI k + nI d))) (upd (r_ar Y) o ((Z.2.1.2.2.2.2 q) + tm_binds (r_so Y k) (nI d))) := by
                      unfold tm_binds; (first | rw [if_pos h166] | rw [if_neg h166]); (first | rw [if_pos h177] | rw [if_neg h177]); rfl
                    rw [hst] at hP hD
                    exact ih2 d (o + 1) (s_ar (s_ow Y (upd (r_ow Y) o (3 * nI k + nI d))) (upd (r_ar Y) o ((Z.2.1.2.2.2.2 q) + tm_binds (r_so Y k) (nI d)))) _ _ _ (by omega) (by omega) (by omega) (by exact md_ows_in how (by omega) (by omega)) (by rw [hqi, md_inN]) (lv_sub hl [0, 1, 3, 4, 5, 6] rfl) hP hD hS
                  · refine lv_aload_n hx hb d_Model_load_180 rfl (lv_at hl 4 rfl) ?_
                    refine va_get (D := (dC, dI)) (ci := 4) (v := .ref (ad 1)) (C := R_Model) (T := F_Model) (N := 30) hx hb hts (fun q hq => List.mem_cons_of_mem _ (i_Model q hq)) hown hK hP 0 rfl rfl 1 (by decide) (hts _ (List.mem_cons_of_mem _ m_13_18)) (fun _ h9 => h9) rfl d_Model_load_181 ?_
                    refine lv_iload_n hx hb d_Model_load_184 rfl (lv_at hl 3 rfl) ?_
                    have hin : vp_in (nI k) 200 := by first | assumption | exact vp_in_nI (by omega) (by decide)
                    refine va_iald (f := Y.1.1) (n := 200) hx hb hK hP 1 0 rfl rfl hin d_Model_load_185 ?_
                    rw [nI_clamp (show k < 2 ^ 31 by omega)]
                    refine lv_bipush (v := 10) hx hb d_Model_load_186 (by decide) ?_
                    refine lv_icmp_ne hx hb d_Model_load_188 rfl (fun h188 => ?_) (fun h188 => ?_)
                    · refine lv_iconst (v := 0) hx hb d_Model_load_201 (by decide) ?_
                      refine lv_istore (lv' := [(7, .int 0), (6, .int (nI d)), (2, .int (nI o)), (4, .int (Z.2.1.2.2.2.2 q)), (3, .int (nI k)), (0, .ref (ad 0)), (1, .int (nI n))]) hx hb d_Model_load_202 hl (by decide) rfl (fun ls hl => ?_)
                      refine lv_aload_n hx hb d_Model_load_204 rfl (lv_at hl 5 rfl) ?_
                      refine va_get (D := (dC, dI)) (ci := 4) (v := .ref (ad 6)) (C := R_Model) (T := F_Model) (N := 30) hx hb hts (fun q hq => List.mem_cons_of_mem _ (i_Model q hq)) hown hK hP 0 rfl rfl 8 (by decide) (hts _ (List.mem_cons_of_mem _ m_14_1)) (fun _ h9 => h9) rfl d_Model_load_205 ?_
                      refine lv_iload_n hx hb d_Model_load_208 rfl (lv_at hl 2 rfl) ?_
                      refine lv_iconst (v := 3) hx hb d_Model_load_209 (by decide) ?_
                      refine lv_iload_n hx hb d_Model_load_210 rfl (lv_at hl 4 rfl) ?_
                      refine lv_imul hx hb d_Model_load_211 ?_
                      refine lv_iload hx hb d_Model_load_212 (lv_at hl 1 rfl) ?_
                      refine lv_iadd hx hb d_Model_load_214 ?_
                      have hin : vp_in (nI o) 700 := by first | assumption | exact vp_in_nI (by omega) (by decide)
                      refine va_iast (f := Y.2.1.2.2.2.1) (n := 700) hx hb hK hP hD hS 6 0 rfl rfl hin d_Model_load_215 (fun H locs hP hD hS => ?_)
                      rw [nI_clamp (show o < 2 ^ 31 by omega)] at hP hD
                      have hP : va_P (dC, dI) classes (mr_W cA cZ ad ((Y.1.1, Y.1.2.1, Y.1.2.2.1, Y.1.2.2.2.1, Y.1.2.2.2.2), (Y.2.1.1, Y.2.1.2.1, Y.2.1.2.2.1, (upd Y.2.1.2.2.2.1 o ((3 * (nI k)) + (nI d))), Y.2.1.2.2.2.2), (Y.2.2.1.1, Y.2.2.1.2.1, Y.2.2.1.2.2.1, Y.2.2.1.2.2.2.1, Y.2.2.1.2.2.2.2), (Y.2.2.2.1.1, Y.2.2.2.1.2.1, Y.2.2.2.1.2.2.1, Y.2.2.2.1.2.2.2.1, Y.2.2.2.1.2.2.2.2), (Y.2.2.2.2.1.1, Y.2.2.2.2.1.2.1, Y.2.2.2.2.1.2.2.1, Y.2.2.2.2.1.2.2.2.1, Y.2.2.2.2.1.2.2.2.2), (Y.2.2.2.2.2.1, Y.2.2.2.2.2.2.1, Y.2.2.2.2.2.2.2.1, Y.2.2.2.2.2.2.2.2.1, Y.2.2.2.2.2.2.2.2.2))) H := hP
                      have hD : va_D A (mr_W cA cZ ad ((Y.1.1, Y.1.2.1, Y.1.2.2.1, Y.1.2.2.2.1, Y.1.2.2.2.2), (Y.2.1.1, Y.2.1.2.1, Y.2.1.2.2.1, (upd Y.2.1.2.2.2.1 o ((3 * (nI k)) + (nI d))), Y.2.1.2.2.2.2), (Y.2.2.1.1, Y.2.2.1.2.1, Y.2.2.1.2.2.1, Y.2.2.1.2.2.2.1, Y.2.2.1.2.2.2.2), (Y.2.2.2.1.1, Y.2.2.2.1.2.1, Y.2.2.2.1.2.2.1, Y.2.2.2.1.2.2.2.1, Y.2.2.2.1.2.2.2.2), (Y.2.2.2.2.1.1, Y.2.2.2.2.1.2.1, Y.2.2.2.2.1.2.2.1, Y.2.2.2.2.1.2.2.2.1, Y.2.2.2.2.1.2.2.2.2), (Y.2.2.2.2.2.1, Y.2.2.2.2.2.2.1, Y.2.2.2.2.2.2.2.1, Y.2.2.2.2.2.2.2.2.1, Y.2.2.2.2.2.2.2.2.2))) := hD
                      refine lv_aload_n hx hb d_Model_load_216 rfl (lv_at hl 5 rfl) ?_
                      refine va_get (D := (dC, dI)) (ci := 4) (v := .ref (ad 7)) (C := R_Model) (T := F_Model) (N := 30) hx hb hts (fun q hq => List.mem_cons_of_mem _ (i_Model q hq)) hown hK hP 0 rfl rfl 9 (by decide) (hts _ (List.mem_cons_of_mem _ m_14_2)) (fun _ h9 => h9) rfl d_Model_load_217 ?_
                      refine lv_iload_n hx hb d_Model_load_220 rfl (lv_at hl 2 rfl) ?_
                      refine lv_iload hx hb d_Model_load_221 (lv_at hl 3 rfl) ?_
                      refine lv_iload hx hb d_Model_load_223 (lv_at hl 0 rfl) ?_
                      refine lv_if_eq hx hb d_Model_load_225 rfl (fun h225 => ?_) (fun h225 => by exact absurd h225 (by decide))
                      refine lv_iconst (v := 0) hx hb d_Model_load_232 (by decide) ?_
                      refine lv_iadd hx hb d_Model_load_233 ?_
                      have hin : vp_in (nI o) 700 := by first | assumption | exact vp_in_nI (by omega) (by decide)
                      refine va_iast (f := Y.2.1.2.2.2.2) (n := 700) hx hb hK hP hD hS 7 0 rfl rfl hin d_Model_load_234 (fun H locs hP hD hS => ?_)
                      rw [nI_clamp (show o < 2 ^ 31 by omega)] at hP hD
                      have hP : va_P (dC, dI) classes (mr_W cA cZ ad ((Y.1.1, Y.1.2.1, Y.1.2.2.1, Y.1.2.2.2.1, Y.1.2.2.2.2), (Y.2.1.1, Y.2.1.2.1, Y.2.1.2.2.1, (upd Y.2.1.2.2.2.1 o ((3 * (nI k)) + (nI d))), (upd Y.2.1.2.2.2.2 o ((Z.2.1.2.2.2.2 q) + 0))), (Y.2.2.1.1, Y.2.2.1.2.1, Y.2.2.1.2.2.1, Y.2.2.1.2.2.2.1, Y.2.2.1.2.2.2.2), (Y.2.2.2.1.1, Y.2.2.2.1.2.1, Y.2.2.2.1.2.2.1, Y.2.2.2.1.2.2.2.1, Y.2.2.2.1.2.2.2.2), (Y.2.2.2.2.1.1, Y.2.2.2.2.1.2.1, Y.2.2.2.2.1.2.2.1, Y.2.2.2.2.1.2.2.2.1, Y.2.2.2.2.1.2.2.2.2), (Y.2.2.2.2.2.1, Y.2.2.2.2.2.2.1, Y.2.2.2.2.2.2.2.1, Y.2.2.2.2.2.2.2.2.1, Y.2.2.2.2.2.2.2.2.2))) H := hP
                      have hD : va_D A (mr_W cA cZ ad ((Y.1.1, Y.1.2.1, Y.1.2.2.1, Y.1.2.2.2.1, Y.1.2.2.2.2), (Y.2.1.1, Y.2.1.2.1, Y.2.1.2.2.1, (upd Y.2.1.2.2.2.1 o ((3 * (nI k)) + (nI d))), (upd Y.2.1.2.2.2.2 o ((Z.2.1.2.2.2.2 q) + 0))), (Y.2.2.1.1, Y.2.2.1.2.1, Y.2.2.1.2.2.1, Y.2.2.1.2.2.2.1, Y.2.2.1.2.2.2.2), (Y.2.2.2.1.1, Y.2.2.2.1.2.1, Y.2.2.2.1.2.2.1, Y.2.2.2.1.2.2.2.1, Y.2.2.2.1.2.2.2.2), (Y.2.2.2.2.1.1, Y.2.2.2.2.1.2.1, Y.2.2.2.2.1.2.2.1, Y.2.2.2.2.1.2.2.2.1, Y.2.2.2.2.1.2.2.2.2), (Y.2.2.2.2.2.1, Y.2.2.2.2.2.2.1, Y.2.2.2.2.2.2.2.1, Y.2.2.2.2.2.2.2.2.1, Y.2.2.2.2.2.2.2.2.2))) := hD
                      refine lv_iinc (k := 2) (v := (nI (o + 1))) (lv' := [(2, .int (nI (o + 1))), (7, .int 0), (6, .int (nI d)), (4, .int (Z.2.1.2.2.2.2 q)), (3, .int (nI k)), (0, .ref (ad 0)), (1, .int (nI n))]) hx hb d_Model_load_235 hl rfl ((nI_succ o).symm) (by decide) rfl (fun ls hl => ?_)
                      refine lv_iinc (k := 2) (v := (nI d - 1)) (lv' := [(6, .int (nI d - 1)), (2, .int (nI (o + 1))), (7, .int 0), (4, .int (Z.2.1.2.2.2.2 q)), (3, .int (nI k)), (0, .ref (ad 0)), (1, .int (nI n))]) hx hb d_Model_load_238 hl rfl ((Int32.sub_eq_add_neg (nI d) 1).symm) (by decide) rfl (fun ls hl => ?_)
                      refine lv_goto hx hb d_Model_load_241 rfl ?_
                      have hst : ((Y.1.1, Y.1.2.1, Y.1.2.2.1, Y.1.2.2.2.1, Y.1.2.2.2.2), (Y.2.1.1, Y.2.1.2.1, Y.2.1.2.2.1, (upd Y.2.1.2.2.2.1 o ((3 * (nI k)) + (nI d))), (upd Y.2.1.2.2.2.2 o ((Z.2.1.2.2.2.2 q) + 0))), (Y.2.2.1.1, Y.2.2.1.2.1, Y.2.2.1.2.2.1, Y.2.2.1.2.2.2.1, Y.2.2.1.2.2.2.2), (Y.2.2.2.1.1, Y.2.2.2.1.2.1, Y.2.2.2.1.2.2.1, Y.2.2.2.1.2.2.2.1, Y.2.2.2.1.2.2.2.2), (Y.2.2.2.2.1.1, Y.2.2.2.2.1.2.1, Y.2.2.2.2.1.2.2.1, Y.2.2.2.2.1.2.2.2.1, Y.2.2.2.2.1.2.2.2.2), (Y.2.2.2.2.2.1, Y.2.2.2.2.2.2.1, Y.2.2.2.2.2.2.2.1, Y.2.2.2.2.2.2.2.2.1, Y.2.2.2.2.2.2.2.2.2)) = s_ar (s_ow Y (upd (r_ow Y) o (3 * nI k + nI d))) (upd (r_ar Y) o ((Z.2.1.2.2.2.2 q) + tm_binds (r_so Y k) (nI d))) := by
                        unfold tm_binds; (first | rw [if_pos h166] | rw [if_neg h166]); (first | rw [if_pos h177] | rw [if_neg h177]); (first | rw [if_pos h188] | rw [if_neg h188]); rfl
                      rw [hst] at hP hD
                      exact ih2 d (o + 1) (s_ar (s_ow Y (upd (r_ow Y) o (3 * nI k + nI d))) (upd (r_ar Y) o ((Z.2.1.2.2.2.2 q) + tm_binds (r_so Y k) (nI d)))) _ _ _ (by omega) (by omega) (by omega) (by exact md_ows_in how (by omega) (by omega)) (by rw [hqi, md_inN]) (lv_sub hl [0, 1, 3, 4, 5, 6] rfl) hP hD hS
                    · refine lv_iload hx hb d_Model_load_191 (lv_at hl 0 rfl) ?_
                      refine lv_iconst (v := 1) hx hb d_Model_load_193 (by decide) ?_
                      refine lv_icmp_ne hx hb d_Model_load_194 rfl (fun h194 => ?_) (fun h194 => ?_)
                      · refine lv_iconst (v := 0) hx hb d_Model_load_201 (by decide) ?_
                        refine lv_istore (lv' := [(7, .int 0), (6, .int (nI d)), (2, .int (nI o)), (4, .int (Z.2.1.2.2.2.2 q)), (3, .int (nI k)), (0, .ref (ad 0)), (1, .int (nI n))]) hx hb d_Model_load_202 hl (by decide) rfl (fun ls hl => ?_)
                        refine lv_aload_n hx hb d_Model_load_204 rfl (lv_at hl 5 rfl) ?_
                        refine va_get (D := (dC, dI)) (ci := 4) (v := .ref (ad 6)) (C := R_Model) (T := F_Model) (N := 30) hx hb hts (fun q hq => List.mem_cons_of_mem _ (i_Model q hq)) hown hK hP 0 rfl rfl 8 (by decide) (hts _ (List.mem_cons_of_mem _ m_14_1)) (fun _ h9 => h9) rfl d_Model_load_205 ?_
                        refine lv_iload_n hx hb d_Model_load_208 rfl (lv_at hl 2 rfl) ?_
                        refine lv_iconst (v := 3) hx hb d_Model_load_209 (by decide) ?_
                        refine lv_iload_n hx hb d_Model_load_210 rfl (lv_at hl 4 rfl) ?_
                        refine lv_imul hx hb d_Model_load_211 ?_
                        refine lv_iload hx hb d_Model_load_212 (lv_at hl 1 rfl) ?_
                        refine lv_iadd hx hb d_Model_load_214 ?_
                        have hin : vp_in (nI o) 700 := by first | assumption | exact vp_in_nI (by omega) (by decide)
                        refine va_iast (f := Y.2.1.2.2.2.1) (n := 700) hx hb hK hP hD hS 6 0 rfl rfl hin d_Model_load_215 (fun H locs hP hD hS => ?_)
                        rw [nI_clamp (show o < 2 ^ 31 by omega)] at hP hD
                        have hP : va_P (dC, dI) classes (mr_W cA cZ ad ((Y.1.1, Y.1.2.1, Y.1.2.2.1, Y.1.2.2.2.1, Y.1.2.2.2.2), (Y.2.1.1, Y.2.1.2.1, Y.2.1.2.2.1, (upd Y.2.1.2.2.2.1 o ((3 * (nI k)) + (nI d))), Y.2.1.2.2.2.2), (Y.2.2.1.1, Y.2.2.1.2.1, Y.2.2.1.2.2.1, Y.2.2.1.2.2.2.1, Y.2.2.1.2.2.2.2), (Y.2.2.2.1.1, Y.2.2.2.1.2.1, Y.2.2.2.1.2.2.1, Y.2.2.2.1.2.2.2.1, Y.2.2.2.1.2.2.2.2), (Y.2.2.2.2.1.1, Y.2.2.2.2.1.2.1, Y.2.2.2.2.1.2.2.1, Y.2.2.2.2.1.2.2.2.1, Y.2.2.2.2.1.2.2.2.2), (Y.2.2.2.2.2.1, Y.2.2.2.2.2.2.1, Y.2.2.2.2.2.2.2.1, Y.2.2.2.2.2.2.2.2.1, Y.2.2.2.2.2.2.2.2.2))) H := hP
                        have hD : va_D A (mr_W cA cZ ad ((Y.1.1, Y.1.2.1, Y.1.2.2.1, Y.1.2.2.2.1, Y.1.2.2.2.2), (Y.2.1.1, Y.2.1.2.1, Y.2.1.2.2.1, (upd Y.2.1.2.2.2.1 o ((3 * (nI k)) + (nI d))), Y.2.1.2.2.2.2), (Y.2.2.1.1, Y.2.2.1.2.1, Y.2.2.1.2.2.1, Y.2.2.1.2.2.2.1, Y.2.2.1.2.2.2.2), (Y.2.2.2.1.1, Y.2.2.2.1.2.1, Y.2.2.2.1.2.2.1, Y.2.2.2.1.2.2.2.1, Y.2.2.2.1.2.2.2.2), (Y.2.2.2.2.1.1, Y.2.2.2.2.1.2.1, Y.2.2.2.2.1.2.2.1, Y.2.2.2.2.1.2.2.2.1, Y.2.2.2.2.1.2.2.2.2), (Y.2.2.2.2.2.1, Y.2.2.2.2.2.2.1, Y.2.2.2.2.2.2.2.1, Y.2.2.2.2.2.2.2.2.1, Y.2.2.2.2.2.2.2.2.2))) := hD
                        refine lv_aload_n hx hb d_Model_load_216 rfl (lv_at hl 5 rfl) ?_
                        refine va_get (D := (dC, dI)) (ci := 4) (v := .ref (ad 7)) (C := R_Model) (T := F_Model) (N := 30) hx hb hts (fun q hq => List.mem_cons_of_mem _ (i_Model q hq)) hown hK hP 0 rfl rfl 9 (by decide) (hts _ (List.mem_cons_of_mem _ m_14_2)) (fun _ h9 => h9) rfl d_Model_load_217 ?_
                        refine lv_iload_n hx hb d_Model_load_220 rfl (lv_at hl 2 rfl) ?_
                        refine lv_iload hx hb d_Model_load_221 (lv_at hl 3 rfl) ?_
                        refine lv_iload hx hb d_Model_load_223 (lv_at hl 0 rfl) ?_
                        refine lv_if_eq hx hb d_Model_load_225 rfl (fun h225 => ?_) (fun h225 => by exact absurd h225 (by decide))
                        refine lv_iconst (v := 0) hx hb d_Model_load_232 (by decide) ?_
                        refine lv_iadd hx hb d_Model_load_233 ?_
                        have hin : vp_in (nI o) 700 := by first | assumption | exact vp_in_nI (by omega) (by decide)
                        refine va_iast (f := Y.2.1.2.2.2.2) (n := 700) hx hb hK hP hD hS 7 0 rfl rfl hin d_Model_load_234 (fun H locs hP hD hS => ?_)
                        rw [nI_clamp (show o < 2 ^ 31 by omega)] at hP hD
                        have hP : va_P (dC, dI) classes (mr_W cA cZ ad ((Y.1.1, Y.1.2.1, Y.1.2.2.1, Y.1.2.2.2.1, Y.1.2.2.2.2), (Y.2.1.1, Y.2.1.2.1, Y.2.1.2.2.1, (upd Y.2.1.2.2.2.1 o ((3 * (nI k)) + (nI d))), (upd Y.2.1.2.2.2.2 o ((Z.2.1.2.2.2.2 q) + 0))), (Y.2.2.1.1, Y.2.2.1.2.1, Y.2.2.1.2.2.1, Y.2.2.1.2.2.2.1, Y.2.2.1.2.2.2.2), (Y.2.2.2.1.1, Y.2.2.2.1.2.1, Y.2.2.2.1.2.2.1, Y.2.2.2.1.2.2.2.1, Y.2.2.2.1.2.2.2.2), (Y.2.2.2.2.1.1, Y.2.2.2.2.1.2.1, Y.2.2.2.2.1.2.2.1, Y.2.2.2.2.1.2.2.2.1, Y.2.2.2.2.1.2.2.2.2), (Y.2.2.2.2.2.1, Y.2.2.2.2.2.2.1, Y.2.2.2.2.2.2.2.1, Y.2.2.2.2.2.2.2.2.1, Y.2.2.2.2.2.2.2.2.2))) H := hP
                        have hD : va_D A (mr_W cA cZ ad ((Y.1.1, Y.1.2.1, Y.1.2.2.1, Y.1.2.2.2.1, Y.1.2.2.2.2), (Y.2.1.1, Y.2.1.2.1, Y.2.1.2.2.1, (upd Y.2.1.2.2.2.1 o ((3 * (nI k)) + (nI d))), (upd Y.2.1.2.2.2.2 o ((Z.2.1.2.2.2.2 q) + 0))), (Y.2.2.1.1, Y.2.2.1.2.1, Y.2.2.1.2.2.1, Y.2.2.1.2.2.2.1, Y.2.2.1.2.2.2.2), (Y.2.2.2.1.1, Y.2.2.2.1.2.1, Y.2.2.2.1.2.2.1, Y.2.2.2.1.2.2.2.1, Y.2.2.2.1.2.2.2.2), (Y.2.2.2.2.1.1, Y.2.2.2.2.1.2.1, Y.2.2.2.2.1.2.2.1, Y.2.2.2.2.1.2.2.2.1, Y.2.2.2.2.1.2.2.2.2), (Y.2.2.2.2.2.1, Y.2.2.2.2.2.2.1, Y.2.2.2.2.2.2.2.1, Y.2.2.2.2.2.2.2.2.1, Y.2.2.2.2.2.2.2.2.2))) := hD
                        refine lv_iinc (k := 2) (v := (nI (o + 1))) (lv' := [(2, .int (nI (o + 1))), (7, .int 0), (6, .int (nI d)), (4, .int (Z.2.1.2.2.2.2 q)), (3, .int (nI k)), (0, .ref (ad 0)), (1, .int (nI n))]) hx hb d_Model_load_235 hl rfl ((nI_succ o).symm) (by decide) rfl (fun ls hl => ?_)
                        refine lv_iinc (k := 2) (v := (nI d - 1)) (lv' := [(6, .int (nI d - 1)), (2, .int (nI (o + 1))), (7, .int 0), (4, .int (Z.2.1.2.2.2.2 q)), (3, .int (nI k)), (0, .ref (ad 0)), (1, .int (nI n))]) hx hb d_Model_load_238 hl rfl ((Int32.sub_eq_add_neg (nI d) 1).symm) (by decide) rfl (fun ls hl => ?_)
                        refine lv_goto hx hb d_Model_load_241 rfl ?_
                        have hst : ((Y.1.1, Y.1.2.1, Y.1.2.2.1, Y.1.2.2.2.1, Y.1.2.2.2.2), (Y.2.1.1, Y.2.1.2.1, Y.2.1.2.2.1, (upd Y.2.1.2.2.2.1 o ((3 * (nI k)) + (nI d))), (upd Y.2.1.2.2.2.2 o ((Z.2.1.2.2.2.2 q) + 0))), (Y.2.2.1.1, Y.2.2.1.2.1, Y.2.2.1.2.2.1, Y.2.2.1.2.2.2.1, Y.2.2.1.2.2.2.2), (Y.2.2.2.1.1, Y.2.2.2.1.2.1, Y.2.2.2.1.2.2.1, Y.2.2.2.1.2.2.2.1, Y.2.2.2.1.2.2.2.2), (Y.2.2.2.2.1.1, Y.2.2.2.2.1.2.1, Y.2.2.2.2.1.2.2.1, Y.2.2.2.2.1.2.2.2.1, Y.2.2.2.2.1.2.2.2.2), (Y.2.2.2.2.2.1, Y.2.2.2.2.2.2.1, Y.2.2.2.2.2.2.2.1, Y.2.2.2.2.2.2.2.2.1, Y.2.2.2.2.2.2.2.2.2)) = s_ar (s_ow Y (upd (r_ow Y) o (3 * nI k + nI d))) (upd (r_ar Y) o ((Z.2.1.2.2.2.2 q) + tm_binds (r_so Y k) (nI d))) := by
                          unfold tm_binds; (first | rw [if_pos h166] | rw [if_neg h166]); (first | rw [if_pos h177] | rw [if_neg h177]); (first | rw [if_pos h188] | rw [if_neg h188]); (first | rw [if_pos h194] | rw [if_neg h194]); rfl
                        rw [hst] at hP hD
                        exact ih2 d (o + 1) (s_ar (s_ow Y (upd (r_ow Y) o (3 * nI k + nI d))) (upd (r_ar Y) o ((Z.2.1.2.2.2.2 q) + tm_binds (r_so Y k) (nI d)))) _ _ _ (by omega) (by omega) (by omega) (by exact md_ows_in how (by omega) (by omega)) (by rw [hqi, md_inN]) (lv_sub hl [0, 1, 3, 4, 5, 6] rfl) hP hD hS
                      · refine lv_iconst (v := 1) hx hb d_Model_load_197 (by decide) ?_
                        refine lv_goto hx hb d_Model_load_198 rfl ?_
                        refine lv_istore (lv' := [(7, .int 1), (6, .int (nI d)), (2, .int (nI o)), (4, .int (Z.2.1.2.2.2.2 q)), (3, .int (nI k)), (0, .ref (ad 0)), (1, .int (nI n))]) hx hb d_Model_load_202 hl (by decide) rfl (fun ls hl => ?_)
                        refine lv_aload_n hx hb d_Model_load_204 rfl (lv_at hl 5 rfl) ?_
                        refine va_get (D := (dC, dI)) (ci := 4) (v := .ref (ad 6)) (C := R_Model) (T := F_Model) (N := 30) hx hb hts (fun q hq => List.mem_cons_of_mem _ (i_Model q hq)) hown hK hP 0 rfl rfl 8 (by decide) (hts _ (List.mem_cons_of_mem _ m_14_1)) (fun _ h9 => h9) rfl d_Model_load_205 ?_
                        refine lv_iload_n hx hb d_Model_load_208 rfl (lv_at hl 2 rfl) ?_
                        refine lv_iconst (v := 3) hx hb d_Model_load_209 (by decide) ?_
                        refine lv_iload_n hx hb d_Model_load_210 rfl (lv_at hl 4 rfl) ?_
                        refine lv_imul hx hb d_Model_load_211 ?_
                        refine lv_iload hx hb d_Model_load_212 (lv_at hl 1 rfl) ?_
                        refine lv_iadd hx hb d_Model_load_214 ?_
                        have hin : vp_in (nI o) 700 := by first | assumption | exact vp_in_nI (by omega) (by decide)
                        refine va_iast (f := Y.2.1.2.2.2.1) (n := 700) hx hb hK hP hD hS 6 0 rfl rfl hin d_Model_load_215 (fun H locs hP hD hS => ?_)
                        rw [nI_clamp (show o < 2 ^ 31 by omega)] at hP hD
                        have hP : va_P (dC, dI) classes (mr_W cA cZ ad ((Y.1.1, Y.1.2.1, Y.1.2.2.1, Y.1.2.2.2.1, Y.1.2.2.2.2), (Y.2.1.1, Y.2.1.2.1, Y.2.1.2.2.1, (upd Y.2.1.2.2.2.1 o ((3 * (nI k)) + (nI d))), Y.2.1.2.2.2.2), (Y.2.2.1.1, Y.2.2.1.2.1, Y.2.2.1.2.2.1, Y.2.2.1.2.2.2.1, Y.2.2.1.2.2.2.2), (Y.2.2.2.1.1, Y.2.2.2.1.2.1, Y.2.2.2.1.2.2.1, Y.2.2.2.1.2.2.2.1, Y.2.2.2.1.2.2.2.2), (Y.2.2.2.2.1.1, Y.2.2.2.2.1.2.1, Y.2.2.2.2.1.2.2.1, Y.2.2.2.2.1.2.2.2.1, Y.2.2.2.2.1.2.2.2.2), (Y.2.2.2.2.2.1, Y.2.2.2.2.2.2.1, Y.2.2.2.2.2.2.2.1, Y.2.2.2.2.2.2.2.2.1, Y.2.2.2.2.2.2.2.2.2))) H := hP
                        have hD : va_D A (mr_W cA cZ ad ((Y.1.1, Y.1.2.1, Y.1.2.2.1, Y.1.2.2.2.1, Y.1.2.2.2.2), (Y.2.1.1, Y.2.1.2.1, Y.2.1.2.2.1, (upd Y.2.1.2.2.2.1 o ((3 * (nI k)) + (nI d))), Y.2.1.2.2.2.2), (Y.2.2.1.1, Y.2.2.1.2.1, Y.2.2.1.2.2.1, Y.2.2.1.2.2.2.1, Y.2.2.1.2.2.2.2), (Y.2.2.2.1.1, Y.2.2.2.1.2.1, Y.2.2.2.1.2.2.1, Y.2.2.2.1.2.2.2.1, Y.2.2.2.1.2.2.2.2), (Y.2.2.2.2.1.1, Y.2.2.2.2.1.2.1, Y.2.2.2.2.1.2.2.1, Y.2.2.2.2.1.2.2.2.1, Y.2.2.2.2.1.2.2.2.2), (Y.2.2.2.2.2.1, Y.2.2.2.2.2.2.1, Y.2.2.2.2.2.2.2.1, Y.2.2.2.2.2.2.2.2.1, Y.2.2.2.2.2.2.2.2.2))) := hD
                        refine lv_aload_n hx hb d_Model_load_216 rfl (lv_at hl 5 rfl) ?_
                        refine va_get (D := (dC, dI)) (ci := 4) (v := .ref (ad 7)) (C := R_Model) (T := F_Model) (N := 30) hx hb hts (fun q hq => List.mem_cons_of_mem _ (i_Model q hq)) hown hK hP 0 rfl rfl 9 (by decide) (hts _ (List.mem_cons_of_mem _ m_14_2)) (fun _ h9 => h9) rfl d_Model_load_217 ?_
                        refine lv_iload_n hx hb d_Model_load_220 rfl (lv_at hl 2 rfl) ?_
                        refine lv_iload hx hb d_Model_load_221 (lv_at hl 3 rfl) ?_
                        refine lv_iload hx hb d_Model_load_223 (lv_at hl 0 rfl) ?_
                        refine lv_if_eq hx hb d_Model_load_225 rfl (fun h225 => by exact absurd h225 (by decide)) (fun h225 => ?_)
                        refine lv_iconst (v := 1) hx hb d_Model_load_228 (by decide) ?_
                        refine lv_goto hx hb d_Model_load_229 rfl ?_
                        refine lv_iadd hx hb d_Model_load_233 ?_
                        have hin : vp_in (nI o) 700 := by first | assumption | exact vp_in_nI (by omega) (by decide)
                        refine va_iast (f := Y.2.1.2.2.2.2) (n := 700) hx hb hK hP hD hS 7 0 rfl rfl hin d_Model_load_234 (fun H locs hP hD hS => ?_)
                        rw [nI_clamp (show o < 2 ^ 31 by omega)] at hP hD
                        have hP : va_P (dC, dI) classes (mr_W cA cZ ad ((Y.1.1, Y.1.2.1, Y.1.2.2.1, Y.1.2.2.2.1, Y.1.2.2.2.2), (Y.2.1.1, Y.2.1.2.1, Y.2.1.2.2.1, (upd Y.2.1.2.2.2.1 o ((3 * (nI k)) + (nI d))), (upd Y.2.1.2.2.2.2 o ((Z.2.1.2.2.2.2 q) + 1))), (Y.2.2.1.1, Y.2.2.1.2.1, Y.2.2.1.2.2.1, Y.2.2.1.2.2.2.1, Y.2.2.1.2.2.2.2), (Y.2.2.2.1.1, Y.2.2.2.1.2.1, Y.2.2.2.1.2.2.1, Y.2.2.2.1.2.2.2.1, Y.2.2.2.1.2.2.2.2), (Y.2.2.2.2.1.1, Y.2.2.2.2.1.2.1, Y.2.2.2.2.1.2.2.1, Y.2.2.2.2.1.2.2.2.1, Y.2.2.2.2.1.2.2.2.2), (Y.2.2.2.2.2.1, Y.2.2.2.2.2.2.1, Y.2.2.2.2.2.2.2.1, Y.2.2.2.2.2.2.2.2.1, Y.2.2.2.2.2.2.2.2.2))) H := hP
                        have hD : va_D A (mr_W cA cZ ad ((Y.1.1, Y.1.2.1, Y.1.2.2.1, Y.1.2.2.2.1, Y.1.2.2.2.2), (Y.2.1.1, Y.2.1.2.1, Y.2.1.2.2.1, (upd Y.2.1.2.2.2.1 o ((3 * (nI k)) + (nI d))), (upd Y.2.1.2.2.2.2 o ((Z.2.1.2.2.2.2 q) + 1))), (Y.2.2.1.1, Y.2.2.1.2.1, Y.2.2.1.2.2.1, Y.2.2.1.2.2.2.1, Y.2.2.1.2.2.2.2), (Y.2.2.2.1.1, Y.2.2.2.1.2.1, Y.2.2.2.1.2.2.1, Y.2.2.2.1.2.2.2.1, Y.2.2.2.1.2.2.2.2), (Y.2.2.2.2.1.1, Y.2.2.2.2.1.2.1, Y.2.2.2.2.1.2.2.1, Y.2.2.2.2.1.2.2.2.1, Y.2.2.2.2.1.2.2.2.2), (Y.2.2.2.2.2.1, Y.2.2.2.2.2.2.1, Y.2.2.2.2.2.2.2.1, Y.2.2.2.2.2.2.2.2.1, Y.2.2.2.2.2.2.2.2.2))) := hD
                        refine lv_iinc (k := 2) (v := (nI (o + 1))) (lv' := [(2, .int (nI (o + 1))), (7, .int 1), (6, .int (nI d)), (4, .int (Z.2.1.2.2.2.2 q)), (3, .int (nI k)), (0, .ref (ad 0)), (1, .int (nI n))]) hx hb d_Model_load_235 hl rfl ((nI_succ o).symm) (by decide) rfl (fun ls hl => ?_)
                        refine lv_iinc (k := 2) (v := (nI d - 1)) (lv' := [(6, .int (nI d - 1)), (2, .int (nI (o + 1))), (7, .int 1), (4, .int (Z.2.1.2.2.2.2 q)), (3, .int (nI k)), (0, .ref (ad 0)), (1, .int (nI n))]) hx hb d_Model_load_238 hl rfl ((Int32.sub_eq_add_neg (nI d) 1).symm) (by decide) rfl (fun ls hl => ?_)
                        refine lv_goto hx hb d_Model_load_241 rfl ?_
                        have hst : ((Y.1.1, Y.1.2.1, Y.1.2.2.1, Y.1.2.2.2.1, Y.1.2.2.2.2), (Y.2.1.1, Y.2.1.2.1, Y.2.1.2.2.1, (upd Y.2.1.2.2.2.1 o ((3 * (nI k)) + (nI d))), (upd Y.2.1.2.2.2.2 o ((Z.2.1.2.2.2.2 q) + 1))), (Y.2.2.1.1, Y.2.2.1.2.1, Y.2.2.1.2.2.1, Y.2.2.1.2.2.2.1, Y.2.2.1.2.2.2.2), (Y.2.2.2.1.1, Y.2.2.2.1.2.1, Y.2.2.2.1.2.2.1, Y.2.2.2.1.2.2.2.1, Y.2.2.2.1.2.2.2.2), (Y.2.2.2.2.1.1, Y.2.2.2.2.1.2.1, Y.2.2.2.2.1.2.2.1, Y.2.2.2.2.1.2.2.2.1, Y.2.2.2.2.1.2.2.2.2), (Y.2.2.2.2.2.1, Y.2.2.2.2.2.2.1, Y.2.2.2.2.2.2.2.1, Y.2.2.2.2.2.2.2.2.1, Y.2.2.2.2.2.2.2.2.2)) = s_ar (s_ow Y (upd (r_ow Y) o (3 * nI k + nI d))) (upd (r_ar Y) o ((Z.2.1.2.2.2.2 q) + tm_binds (r_so Y k) (nI d))) := by
                          unfold tm_binds; (first | rw [if_pos h166] | rw [if_neg h166]); (first | rw [if_pos h177] | rw [if_neg h177]); (first | rw [if_pos h188] | rw [if_neg h188]); (first | rw [if_pos h194] | rw [if_neg h194]); rfl
                        rw [hst] at hP hD
                        exact ih2 d (o + 1) (s_ar (s_ow Y (upd (r_ow Y) o (3 * nI k + nI d))) (upd (r_ar Y) o ((Z.2.1.2.2.2.2 q) + tm_binds (r_so Y k) (nI d)))) _ _ _ (by omega) (by omega) (by omega) (by exact md_ows_in how (by omega) (by omega)) (by rw [hqi, md_inN]) (lv_sub hl [0, 1, 3, 4, 5, 6] rfl) hP hD hS
            exact loop mm mm q ((Z.1.1, Z.1.2.1, Z.1.2.2.1, Z.1.2.2.2.1, Z.1.2.2.2.2), ((upd Z.2.1.1 k (Z.1.1 k)), (upd Z.2.1.2.1 k (Z.1.2.1 k)), Z.2.1.2.2.1, Z.2.1.2.2.2.1, Z.2.1.2.2.2.2), (Z.2.2.1.1, Z.2.2.1.2.1, Z.2.2.1.2.2.1, Z.2.2.1.2.2.2.1, Z.2.2.1.2.2.2.2), (Z.2.2.2.1.1, Z.2.2.2.1.2.1, Z.2.2.2.1.2.2.1, Z.2.2.2.1.2.2.2.1, Z.2.2.2.1.2.2.2.2), (Z.2.2.2.2.1.1, Z.2.2.2.2.1.2.1, Z.2.2.2.2.1.2.2.1, Z.2.2.2.2.1.2.2.2.1, Z.2.2.2.2.1.2.2.2.2), (Z.2.2.2.2.2.1, Z.2.2.2.2.2.2.1, Z.2.2.2.2.2.2.2.1, Z.2.2.2.2.2.2.2.2.1, Z.2.2.2.2.2.2.2.2.2)) _ _ _ (by rfl) (by omega) (by exact hmm) (by intro j hj; have q9 := hl1 j (by omega); rw [hl1s] at q9; exact q9) (by rw [hq9, hmm2, nI_clamp (by omega), hl2s]) (lv_sub hl [0, 3, 2, 4, 5, 6] rfl) hP hD hS
          · refine lv_aload_n hx hb d_Model_load_98 rfl (lv_at hl 3 rfl) ?_
            refine va_get (D := (dC, dI)) (ci := 4) (v := .ref (ad 2)) (C := R_Model) (T := F_Model) (N := 30) hx hb hts (fun q hq => List.mem_cons_of_mem _ (i_Model q hq)) hown hK hP 0 rfl rfl 2 (by decide) (hts _ (List.mem_cons_of_mem _ m_13_19)) (fun _ h9 => h9) rfl d_Model_load_99 ?_
            refine lv_iload_n hx hb d_Model_load_102 rfl (lv_at hl 2 rfl) ?_
            have hin : vp_in (nI k) 200 := by first | assumption | exact vp_in_nI (by omega) (by decide)
            refine va_iald (f := Z.1.2.1) (n := 200) hx hb hK hP 2 0 rfl rfl hin d_Model_load_103 ?_
            rw [nI_clamp (show k < 2 ^ 31 by omega)]
            refine lv_iload hx hb d_Model_load_104 (lv_at hl 0 rfl) ?_
            refine lv_icmp_lt hx hb d_Model_load_106 rfl (fun h106 => ?_) (fun h106 => ?_)
            · have hq9 : md_load ((aso, axs, (nI n), ath, asi), (asr, anu, ach, aow, aar), (ais, aon, atw, awh, afi), (ase, afr, amo, ass, asp), (afo, aba, ano, aen, avs), (avo, avt, are, atd, ale)) = md_loadN n fu (k + 1) (md_inN (md_many (r_so (md_l2 (md_l1 Z k q) k) k)).toNatClampNeg k (Z.2.1.2.2.2.2 q) q (md_l2 (md_l1 Z k q) k)).1 (md_inN (md_many (r_so (md_l2 (md_l1 Z k q) k) k)).toNatClampNeg k (Z.2.1.2.2.2.2 q) q (md_l2 (md_l1 Z k q) k)).2 := by rw [hq, md_loadN, if_neg (by omega), show q + 1 - 1 = q from rfl, if_neg (fun p => by rw [hl1s] at p; exact (Int32.not_le.mpr h106) p.2)]
              refine lv_aload_n hx hb d_Model_load_113 rfl (lv_at hl 3 rfl) ?_
              refine va_get (D := (dC, dI)) (ci := 4) (v := .ref (ad 3)) (C := R_Model) (T := F_Model) (N := 30) hx hb hts (fun q hq => List.mem_cons_of_mem _ (i_Model q hq)) hown hK hP 0 rfl rfl 4 (by decide) (hts _ (List.mem_cons_of_mem _ m_13_21)) (fun _ h9 => h9) rfl d_Model_load_114 ?_
              refine lv_iload_n hx hb d_Model_load_117 rfl (lv_at hl 2 rfl) ?_
              refine lv_aload_n hx hb d_Model_load_118 rfl (lv_at hl 3 rfl) ?_
              refine va_get (D := (dC, dI)) (ci := 4) (v := .ref (ad 1)) (C := R_Model) (T := F_Model) (N := 30) hx hb hts (fun q hq => List.mem_cons_of_mem _ (i_Model q hq)) hown hK hP 0 rfl rfl 1 (by decide) (hts _ (List.mem_cons_of_mem _ m_13_18)) (fun _ h9 => h9) rfl d_Model_load_119 ?_
              refine lv_iload_n hx hb d_Model_load_122 rfl (lv_at hl 2 rfl) ?_
              have hin : vp_in (nI k) 200 := by first | assumption | exact vp_in_nI (by omega) (by decide)
              refine va_iald (f := Z.1.1) (n := 200) hx hb hK hP 1 0 rfl rfl hin d_Model_load_123 ?_
              rw [nI_clamp (show k < 2 ^ 31 by omega)]
              have hin : vp_in (nI k) 200 := by first | assumption | exact vp_in_nI (by omega) (by decide)
              refine va_iast (f := Z.2.1.1) (n := 200) hx hb hK hP hD hS 3 0 rfl rfl hin d_Model_load_124 (fun H locs hP hD hS => ?_)
              rw [nI_clamp (show k < 2 ^ 31 by omega)] at hP hD
              have hP : va_P (dC, dI) classes (mr_W cA cZ ad ((Z.1.1, Z.1.2.1, Z.1.2.2.1, Z.1.2.2.2.1, Z.1.2.2.2.2), ((upd Z.2.1.1 k (Z.1.1 k)), Z.2.1.2.1, Z.2.1.2.2.1, Z.2.1.2.2.2.1, Z.2.1.2.2.2.2), (Z.2.2.1.1, Z.2.2.1.2.1, Z.2.2.1.2.2.1, Z.2.2.1.2.2.2.1, Z.2.2.1.2.2.2.2), (Z.2.2.2.1.1, Z.2.2.2.1.2.1, Z.2.2.2.1.2.2.1, Z.2.2.2.1.2.2.2.1, Z.2.2.2.1.2.2.2.2), (Z.2.2.2.2.1.1, Z.2.2.2.2.1.2.1, Z.2.2.2.2.1.2.2.1, Z.2.2.2.2.1.2.2.2.1, Z.2.2.2.2.1.2.2.2.2), (Z.2.2.2.2.2.1, Z.2.2.2.2.2.2.1, Z.2.2.2.2.2.2.2.1, Z.2.2.2.2.2.2.2.2.1, Z.2.2.2.2.2.2.2.2.2))) H := hP
              have hD : va_D A (mr_W cA cZ ad ((Z.1.1, Z.1.2.1, Z.1.2.2.1, Z.1.2.2.2.1, Z.1.2.2.2.2), ((upd Z.2.1.1 k (Z.1.1 k)), Z.2.1.2.1, Z.2.1.2.2.1, Z.2.1.2.2.2.1, Z.2.1.2.2.2.2), (Z.2.2.1.1, Z.2.2.1.2.1, Z.2.2.1.2.2.1, Z.2.2.1.2.2.2.1, Z.2.2.1.2.2.2.2), (Z.2.2.2.1.1, Z.2.2.2.1.2.1, Z.2.2.2.1.2.2.1, Z.2.2.2.1.2.2.2.1, Z.2.2.2.1.2.2.2.2), (Z.2.2.2.2.1.1, Z.2.2.2.2.1.2.1, Z.2.2.2.2.1.2.2.1, Z.2.2.2.2.1.2.2.2.1, Z.2.2.2.2.1.2.2.2.2), (Z.2.2.2.2.2.1, Z.2.2.2.2.2.2.1, Z.2.2.2.2.2.2.2.1, Z.2.2.2.2.2.2.2.2.1, Z.2.2.2.2.2.2.2.2.2))) := hD
              refine lv_aload_n hx hb d_Model_load_125 rfl (lv_at hl 3 rfl) ?_
              refine va_get (D := (dC, dI)) (ci := 4) (v := .ref (ad 4)) (C := R_Model) (T := F_Model) (N := 30) hx hb hts (fun q hq => List.mem_cons_of_mem _ (i_Model q hq)) hown hK hP 0 rfl rfl 5 (by decide) (hts _ (List.mem_cons_of_mem _ m_13_22)) (fun _ h9 => h9) rfl d_Model_load_126 ?_
              refine lv_iload_n hx hb d_Model_load_129 rfl (lv_at hl 2 rfl) ?_
              refine lv_aload_n hx hb d_Model_load_130 rfl (lv_at hl 3 rfl) ?_
              refine va_get (D := (dC, dI)) (ci := 4) (v := .ref (ad 2)) (C := R_Model) (T := F_Model) (N := 30) hx hb hts (fun q hq => List.mem_cons_of_mem _ (i_Model q hq)) hown hK hP 0 rfl rfl 2 (by decide) (hts _ (List.mem_cons_of_mem _ m_13_19)) (fun _ h9 => h9) rfl d_Model_load_131 ?_
              refine lv_iload_n hx hb d_Model_load_134 rfl (lv_at hl 2 rfl) ?_
              have hin : vp_in (nI k) 200 := by first | assumption | exact vp_in_nI (by omega) (by decide)
              refine va_iald (f := Z.1.2.1) (n := 200) hx hb hK hP 2 0 rfl rfl hin d_Model_load_135 ?_
              rw [nI_clamp (show k < 2 ^ 31 by omega)]
              have hin : vp_in (nI k) 200 := by first | assumption | exact vp_in_nI (by omega) (by decide)
              refine va_iast (f := Z.2.1.2.1) (n := 200) hx hb hK hP hD hS 4 0 rfl rfl hin d_Model_load_136 (fun H locs hP hD hS => ?_)
              rw [nI_clamp (show k < 2 ^ 31 by omega)] at hP hD
              have hP : va_P (dC, dI) classes (mr_W cA cZ ad ((Z.1.1, Z.1.2.1, Z.1.2.2.1, Z.1.2.2.2.1, Z.1.2.2.2.2), ((upd Z.2.1.1 k (Z.1.1 k)), (upd Z.2.1.2.1 k (Z.1.2.1 k)), Z.2.1.2.2.1, Z.2.1.2.2.2.1, Z.2.1.2.2.2.2), (Z.2.2.1.1, Z.2.2.1.2.1, Z.2.2.1.2.2.1, Z.2.2.1.2.2.2.1, Z.2.2.1.2.2.2.2), (Z.2.2.2.1.1, Z.2.2.2.1.2.1, Z.2.2.2.1.2.2.1, Z.2.2.2.1.2.2.2.1, Z.2.2.2.1.2.2.2.2), (Z.2.2.2.2.1.1, Z.2.2.2.2.1.2.1, Z.2.2.2.2.1.2.2.1, Z.2.2.2.2.1.2.2.2.1, Z.2.2.2.2.1.2.2.2.2), (Z.2.2.2.2.2.1, Z.2.2.2.2.2.2.1, Z.2.2.2.2.2.2.2.1, Z.2.2.2.2.2.2.2.2.1, Z.2.2.2.2.2.2.2.2.2))) H := hP
              have hD : va_D A (mr_W cA cZ ad ((Z.1.1, Z.1.2.1, Z.1.2.2.1, Z.1.2.2.2.1, Z.1.2.2.2.2), ((upd Z.2.1.1 k (Z.1.1 k)), (upd Z.2.1.2.1 k (Z.1.2.1 k)), Z.2.1.2.2.1, Z.2.1.2.2.2.1, Z.2.1.2.2.2.2), (Z.2.2.1.1, Z.2.2.1.2.1, Z.2.2.1.2.2.1, Z.2.2.1.2.2.2.1, Z.2.2.1.2.2.2.2), (Z.2.2.2.1.1, Z.2.2.2.1.2.1, Z.2.2.2.1.2.2.1, Z.2.2.2.1.2.2.2.1, Z.2.2.2.1.2.2.2.2), (Z.2.2.2.2.1.1, Z.2.2.2.2.1.2.1, Z.2.2.2.2.1.2.2.1, Z.2.2.2.2.1.2.2.2.1, Z.2.2.2.2.1.2.2.2.2), (Z.2.2.2.2.2.1, Z.2.2.2.2.2.2.1, Z.2.2.2.2.2.2.2.1, Z.2.2.2.2.2.2.2.2.1, Z.2.2.2.2.2.2.2.2.2))) := hD
              refine lv_aload_n hx hb d_Model_load_137 rfl (lv_at hl 3 rfl) ?_
              refine va_get (D := (dC, dI)) (ci := 4) (v := .ref (ad 1)) (C := R_Model) (T := F_Model) (N := 30) hx hb hts (fun q hq => List.mem_cons_of_mem _ (i_Model q hq)) hown hK hP 0 rfl rfl 1 (by decide) (hts _ (List.mem_cons_of_mem _ m_13_18)) (fun _ h9 => h9) rfl d_Model_load_138 ?_
              refine lv_iload_n hx hb d_Model_load_141 rfl (lv_at hl 2 rfl) ?_
              have hin : vp_in (nI k) 200 := by first | assumption | exact vp_in_nI (by omega) (by decide)
              refine va_iald (f := Z.1.1) (n := 200) hx hb hK hP 1 0 rfl rfl hin d_Model_load_142 ?_
              rw [nI_clamp (show k < 2 ^ 31 by omega)]
              refine lm_si (As := [.int (Z.1.1 k)]) (rest := []) (wr := (mr_W cA cZ ad ((Z.1.1, Z.1.2.1, Z.1.2.2.1, Z.1.2.2.2.1, Z.1.2.2.2.2), ((upd Z.2.1.1 k (Z.1.1 k)), (upd Z.2.1.2.1 k (Z.1.2.1 k)), Z.2.1.2.2.1, Z.2.1.2.2.2.1, Z.2.1.2.2.2.2), (Z.2.2.1.1, Z.2.2.1.2.1, Z.2.2.1.2.2.1, Z.2.2.1.2.2.2.1, Z.2.2.1.2.2.2.2), (Z.2.2.2.1.1, Z.2.2.2.1.2.1, Z.2.2.2.1.2.2.1, Z.2.2.2.1.2.2.2.1, Z.2.2.2.1.2.2.2.2), (Z.2.2.2.2.1.1, Z.2.2.2.2.1.2.1, Z.2.2.2.2.1.2.2.1, Z.2.2.2.2.1.2.2.2.1, Z.2.2.2.2.1.2.2.2.2), (Z.2.2.2.2.2.1, Z.2.2.2.2.2.2.1, Z.2.2.2.2.2.2.2.1, Z.2.2.2.2.2.2.2.2.1, Z.2.2.2.2.2.2.2.2.2)))) ⟨hx, hb, hml, hown, hts⟩ hK hP hD hS hA [] [0, 1, 2, 3, 4, 5, 6, 7, 8, 9, 10, 11, 12, 13, 14, 15] rfl rfl (by decide) (by decide) (by decide) (c_Model_many l dC dI cA cZ  _  (Z.1.1 k) ) (cwS 1 hts (lm_gS m_15_15 m_15_16 m_0_5 m_15_17) rfl rfl rfl (by decide +kernel) ⟨Nat.le_of_ble_eq_true rfl, Nat.le_of_ble_eq_true rfl⟩) lm_bl_no (fun _ _ _ => trivial) hl.1 rfl rfl (Nat.le_of_ble_eq_true rfl) d_Model_load_143 ⟨Nat.le_of_ble_eq_true rfl, Nat.le_of_ble_eq_true rfl⟩ (fun r143 u143 H locs w143 hP hD hS => ?_)
              obtain ⟨e_r143, w143⟩ := w143
              have hP : va_P (dC, dI) classes (mr_W cA cZ ad ((Z.1.1, Z.1.2.1, Z.1.2.2.1, Z.1.2.2.2.1, Z.1.2.2.2.2), ((upd Z.2.1.1 k (Z.1.1 k)), (upd Z.2.1.2.1 k (Z.1.2.1 k)), Z.2.1.2.2.1, Z.2.1.2.2.2.1, Z.2.1.2.2.2.2), (Z.2.2.1.1, Z.2.2.1.2.1, Z.2.2.1.2.2.1, Z.2.2.1.2.2.2.1, Z.2.2.1.2.2.2.2), (Z.2.2.2.1.1, Z.2.2.2.1.2.1, Z.2.2.2.1.2.2.1, Z.2.2.2.1.2.2.2.1, Z.2.2.2.1.2.2.2.2), (Z.2.2.2.2.1.1, Z.2.2.2.2.1.2.1, Z.2.2.2.2.1.2.2.1, Z.2.2.2.2.1.2.2.2.1, Z.2.2.2.2.1.2.2.2.2), (Z.2.2.2.2.2.1, Z.2.2.2.2.2.2.1, Z.2.2.2.2.2.2.2.1, Z.2.2.2.2.2.2.2.2.1, Z.2.2.2.2.2.2.2.2.2))) H := hP
              have hD : va_D A (mr_W cA cZ ad ((Z.1.1, Z.1.2.1, Z.1.2.2.1, Z.1.2.2.2.1, Z.1.2.2.2.2), ((upd Z.2.1.1 k (Z.1.1 k)), (upd Z.2.1.2.1 k (Z.1.2.1 k)), Z.2.1.2.2.1, Z.2.1.2.2.2.1, Z.2.1.2.2.2.2), (Z.2.2.1.1, Z.2.2.1.2.1, Z.2.2.1.2.2.1, Z.2.2.1.2.2.2.1, Z.2.2.1.2.2.2.2), (Z.2.2.2.1.1, Z.2.2.2.1.2.1, Z.2.2.2.1.2.2.1, Z.2.2.2.1.2.2.2.1, Z.2.2.2.1.2.2.2.2), (Z.2.2.2.2.1.1, Z.2.2.2.2.1.2.1, Z.2.2.2.2.1.2.2.1, Z.2.2.2.2.1.2.2.2.1, Z.2.2.2.2.1.2.2.2.2), (Z.2.2.2.2.2.1, Z.2.2.2.2.2.2.1, Z.2.2.2.2.2.2.2.1, Z.2.2.2.2.2.2.2.2.1, Z.2.2.2.2.2.2.2.2.2))) := hD
              refine lv_istore (lv' := [(5, .int r143), (4, .int (Z.2.1.2.2.2.2 q)), (2, .int (nI q)), (3, .int (nI k)), (0, .ref (ad 0)), (1, .int (nI n))]) hx hb d_Model_load_146 hl (by decide) rfl (fun ls hl => ?_)
              obtain ⟨mm, hmm, hmm2⟩ := md_many_n (r_so (md_l2 (md_l1 Z k q) k) k)
              have hmr : r143 = nI mm := by
                rw [e_r143, ← hmm2, hl1s]; rfl
              have hl2s : md_l2 (md_l1 Z k q) k = ((Z.1.1, Z.1.2.1, Z.1.2.2.1, Z.1.2.2.2.1, Z.1.2.2.2.2), ((upd Z.2.1.1 k (Z.1.1 k)), (upd Z.2.1.2.1 k (Z.1.2.1 k)), Z.2.1.2.2.1, Z.2.1.2.2.2.1, Z.2.1.2.2.2.2), (Z.2.2.1.1, Z.2.2.1.2.1, Z.2.2.1.2.2.1, Z.2.2.1.2.2.2.1, Z.2.2.1.2.2.2.2), (Z.2.2.2.1.1, Z.2.2.2.1.2.1, Z.2.2.2.1.2.2.1, Z.2.2.2.1.2.2.2.1, Z.2.2.2.1.2.2.2.2), (Z.2.2.2.2.1.1, Z.2.2.2.2.1.2.1, Z.2.2.2.2.1.2.2.1, Z.2.2.2.2.1.2.2.2.1, Z.2.2.2.2.1.2.2.2.2), (Z.2.2.2.2.2.1, Z.2.2.2.2.2.2.1, Z.2.2.2.2.2.2.2.1, Z.2.2.2.2.2.2.2.2.1, Z.2.2.2.2.2.2.2.2.2)) := by rw [hl1s]; rfl
              refine lv_iload hx hb d_Model_load_148 (lv_at hl 0 rfl) ?_
              refine lv_iconst (v := 1) hx hb d_Model_load_150 (by decide) ?_
              refine lv_isub hx hb d_Model_load_151 ?_
              refine lv_topi (fun z_ e_ => ?_)
              have e_ : z_ = (nI mm - 1) := e_.trans (by rw [hmr])
              subst e_
              refine lv_istore (lv' := [(6, .int (nI mm - 1)), (5, .int r143), (4, .int (Z.2.1.2.2.2.2 q)), (2, .int (nI q)), (3, .int (nI k)), (0, .ref (ad 0)), (1, .int (nI n))]) hx hb d_Model_load_152 hl (by decide) rfl (fun ls hl => ?_)
              have loop : ∀ (fv : Nat) (cn o : Nat) (Y : ZNS) (ls : Array Slot) (H : Heap) (locs : List Loc), (cn = fv) → (o + cn ≤ 2 * k + 3) → (cn ≤ 3) → (md_ows Y o) → (md_load ((aso, axs, (nI n), ath, asi), (asr, anu, ach, aow, aar), (ais, aon, atw, awh, afi), (ase, afr, amo, ass, asp), (afo, aba, ano, aen, avs), (avo, avt, are, atd, ale)) = md_loadN n fu (k + 1) (md_inN cn k (Z.2.1.2.2.2.2 q) o Y).1 (md_inN cn k (Z.2.1.2.2.2.2 q) o Y).2) → lv_has ls 8 [(6, .int (nI cn - 1)), (2, .int (nI o)), (4, .int (Z.2.1.2.2.2.2 q)), (3, .int (nI k)), (0, .ref (ad 0)), (1, .int (nI n))] → va_P (dC, dI) classes (mr_W cA cZ ad Y) H → va_D A (mr_W cA cZ ad Y) → va_S A s.heap H locs → W p l e (headSpec w_Model_load ({ frames := 1, cells := 0, slots := 0, locals := 20 } : Room)).room s m (List.toArray [.ref (ad 0)]) below meth c H locs 0 0 (MQ below (va_Qi (fun (r : Int32) (u : ZNS) => r = (md_load ((aso, axs, (nI n), ath, asi), (asr, anu, ach, aow, aar), (ais, aon, atw, awh, afi), (ase, afr, amo, ass, asp), (afo, aba, ano, aen, avs), (avo, avt, are, atd, ale))).1 ∧ u = (md_load ((aso, axs, (nI n), ath, asi), (asr, anu, ach, aow, aar), (ais, aon, atw, awh, afi), (ase, afr, amo, ass, asp), (afo, aba, ano, aen, avs), (avo, avt, are, atd, ale))).2) (fun u => lm_at (dC, dI) classes [(cA, .int), (cZ, .boolean)] A (mr_W cA cZ ad u)) A) (List.toArray [.ref (ad 0)]) s 0 0 A) (F0 m 154 ls []) := by
                intro fv
                induction fv with
                | zero => 
                  intro cn o Y ls H locs hc ho hc3 how hqi hl hP hD hS
                  refine lv_iload hx hb d_Model_load_154 (lv_at hl 0 rfl) ?_
                  refine lv_if_lt hx hb d_Model_load_156 rfl (fun h156 => ?_) (fun h156 => by exact absurd (by rw [hc]; decide) h156)
                  refine lv_iinc (k := 3) (v := (nI (k + 1))) (lv' := [(3, .int (nI (k + 1))), (6, .int (nI cn - 1)), (2, .int (nI o)), (4, .int (Z.2.1.2.2.2.2 q)), (0, .ref (ad 0)), (1, .int (nI n))]) hx hb d_Model_load_244 hl rfl ((nI_succ k).symm) (by decide) rfl (fun ls hl => ?_)
                  refine lv_goto hx hb d_Model_load_247 rfl ?_
                  exact ih (k + 1) o Y _ _ _ (by omega) (by omega) (by exact how) (by rw [hqi, hc, md_inN]) (lv_sub hl [0, 2, 4, 5] rfl) hP hD hS
                | succ fv ih2 => 
                  intro cn o Y ls H locs hc ho hc3 how hqi hl hP hD hS
                  obtain ⟨d, rfl⟩ : ∃ d, cn = d + 1 := ⟨fv, hc⟩
                  have hd : d = fv := by omega
                  rw [nI_pred] at hl
                  refine lv_iload hx hb d_Model_load_154 (lv_at hl 0 rfl) ?_
                  refine lv_if_lt hx hb d_Model_load_156 rfl (fun h156 => by exact absurd h156 (nI_pos (by omega))) (fun h156 => ?_)
                  refine lv_aload_n hx hb d_Model_load_159 rfl (lv_at hl 4 rfl) ?_
                  refine va_get (D := (dC, dI)) (ci := 4) (v := .ref (ad 1)) (C := R_Model) (T := F_Model) (N := 30) hx hb hts (fun q hq => List.mem_cons_of_mem _ (i_Model q hq)) hown hK hP 0 rfl rfl 1 (by decide) (hts _ (List.mem_cons_of_mem _ m_13_18)) (fun _ h9 => h9) rfl d_Model_load_160 ?_
                  refine lv_iload_n hx hb d_Model_load_163 rfl (lv_at hl 3 rfl) ?_
                  have hin : vp_in (nI k) 200 := by first | assumption | exact vp_in_nI (by omega) (by decide)
                  refine va_iald (f := Y.1.1) (n := 200) hx hb hK hP 1 0 rfl rfl hin d_Model_load_164 ?_
                  rw [nI_clamp (show k < 2 ^ 31 by omega)]
                  refine lv_iconst (v := 1) hx hb d_Model_load_165 (by decide) ?_
                  refine lv_icmp_eq hx hb d_Model_load_166 rfl (fun h166 => ?_) (fun h166 => ?_)
                  · refine lv_iconst (v := 1) hx hb d_Model_load_197 (by decide) ?_
                    refine lv_goto hx hb d_Model_load_198 rfl ?_
                    refine lv_istore (lv' := [(7, .int 1), (6, .int (nI d)), (2, .int (nI o)), (4, .int (Z.2.1.2.2.2.2 q)), (3, .int (nI k)), (0, .ref (ad 0)), (1, .int (nI n))]) hx hb d_Model_load_202 hl (by decide) rfl (fun ls hl => ?_)
                    refine lv_aload_n hx hb d_Model_load_204 rfl (lv_at hl 5 rfl) ?_
                    refine va_get (D := (dC, dI)) (ci := 4) (v := .ref (ad 6)) (C := R_Model) (T := F_Model) (N := 30) hx hb hts (fun q hq => List.mem_cons_of_mem _ (i_Model q hq)) hown hK hP 0 rfl rfl 8 (by decide) (hts _ (List.mem_cons_of_mem _ m_14_1)) (fun _ h9 => h9) rfl d_Model_load_205 ?_
                    refine lv_iload_n hx hb d_Model_load_208 rfl (lv_at hl 2 rfl) ?_
                    refine lv_iconst (v := 3) hx hb d_Model_load_209 (by decide) ?_
                    refine lv_iload_n hx hb d_Model_load_210 rfl (lv_at hl 4 rfl) ?_
                    refine lv_imul hx hb d_Model_load_211 ?_
                    refine lv_iload hx hb d_Model_load_212 (lv_at hl 1 rfl) ?_
                    refine lv_iadd hx hb d_Model_load_214 ?_
                    have hin : vp_in (nI o) 700 := by first | assumption | exact vp_in_nI (by omega) (by decide)
                    refine va_iast (f := Y.2.1.2.2.2.1) (n := 700) hx hb hK hP hD hS 6 0 rfl rfl hin d_Model_load_215 (fun H locs hP hD hS => ?_)
                    rw [nI_clamp (show o < 2 ^ 31 by omega)] at hP hD
                    have hP : va_P (dC, dI) classes (mr_W cA cZ ad ((Y.1.1, Y.1.2.1, Y.1.2.2.1, Y.1.2.2.2.1, Y.1.2.2.2.2), (Y.2.1.1, Y.2.1.2.1, Y.2.1.2.2.1, (upd Y.2.1.2.2.2.1 o ((3 * (nI k)) + (nI d))), Y.2.1.2.2.2.2), (Y.2.2.1.1, Y.2.2.1.2.1, Y.2.2.1.2.2.1, Y.2.2.1.2.2.2.1, Y.2.2.1.2.2.2.2), (Y.2.2.2.1.1, Y.2.2.2.1.2.1, Y.2.2.2.1.2.2.1, Y.2.2.2.1.2.2.2.1, Y.2.2.2.1.2.2.2.2), (Y.2.2.2.2.1.1, Y.2.2.2.2.1.2.1, Y.2.2.2.2.1.2.2.1, Y.2.2.2.2.1.2.2.2.1, Y.2.2.2.2.1.2.2.2.2), (Y.2.2.2.2.2.1, Y.2.2.2.2.2.2.1, Y.2.2.2.2.2.2.2.1, Y.2.2.2.2.2.2.2.2.1, Y.2.2.2.2.2.2.2.2.2))) H := hP
                    have hD : va_D A (mr_W cA cZ ad ((Y.1.1, Y.1.2.1, Y.1.2.2.1, Y.1.2.2.2.1, Y.1.2.2.2.2), (Y.2.1.1, Y.2.1.2.1, Y.2.1.2.2.1, (upd Y.2.1.2.2.2.1 o ((3 * (nI k)) + (nI d))), Y.2.1.2.2.2.2), (Y.2.2.1.1, Y.2.2.1.2.1, Y.2.2.1.2.2.1, Y.2.2.1.2.2.2.1, Y.2.2.1.2.2.2.2), (Y.2.2.2.1.1, Y.2.2.2.1.2.1, Y.2.2.2.1.2.2.1, Y.2.2.2.1.2.2.2.1, Y.2.2.2.1.2.2.2.2), (Y.2.2.2.2.1.1, Y.2.2.2.2.1.2.1, Y.2.2.2.2.1.2.2.1, Y.2.2.2.2.1.2.2.2.1, Y.2.2.2.2.1.2.2.2.2), (Y.2.2.2.2.2.1, Y.2.2.2.2.2.2.1, Y.2.2.2.2.2.2.2.1, Y.2.2.2.2.2.2.2.2.1, Y.2.2.2.2.2.2.2.2.2))) := hD
                    refine lv_aload_n hx hb d_Model_load_216 rfl (lv_at hl 5 rfl) ?_
                    refine va_get (D := (dC, dI)) (ci := 4) (v := .ref (ad 7)) (C := R_Model) (T := F_Model) (N := 30) hx hb hts (fun q hq => List.mem_cons_of_mem _ (i_Model q hq)) hown hK hP 0 rfl rfl 9 (by decide) (hts _ (List.mem_cons_of_mem _ m_14_2)) (fun _ h9 => h9) rfl d_Model_load_217 ?_
                    refine lv_iload_n hx hb d_Model_load_220 rfl (lv_at hl 2 rfl) ?_
                    refine lv_iload hx hb d_Model_load_221 (lv_at hl 3 rfl) ?_
                    refine lv_iload hx hb d_Model_load_223 (lv_at hl 0 rfl) ?_
                    refine lv_if_eq hx hb d_Model_load_225 rfl (fun h225 => by exact absurd h225 (by decide)) (fun h225 => ?_)
                    refine lv_iconst (v := 1) hx hb d_Model_load_228 (by decide) ?_
                    refine lv_goto hx hb d_Model_load_229 rfl ?_
                    refine lv_iadd hx hb d_Model_load_233 ?_
                    have hin : vp_in (nI o) 700 := by first | assumption | exact vp_in_nI (by omega) (by decide)
                    refine va_iast (f := Y.2.1.2.2.2.2) (n := 700) hx hb hK hP hD hS 7 0 rfl rfl hin d_Model_load_234 (fun H locs hP hD hS => ?_)
                    rw [nI_clamp (show o < 2 ^ 31 by omega)] at hP hD
                    have hP : va_P (dC, dI) classes (mr_W cA cZ ad ((Y.1.1, Y.1.2.1, Y.1.2.2.1, Y.1.2.2.2.1, Y.1.2.2.2.2), (Y.2.1.1, Y.2.1.2.1, Y.2.1.2.2.1, (upd Y.2.1.2.2.2.1 o ((3 * (nI k)) + (nI d))), (upd Y.2.1.2.2.2.2 o ((Z.2.1.2.2.2.2 q) + 1))), (Y.2.2.1.1, Y.2.2.1.2.1, Y.2.2.1.2.2.1, Y.2.2.1.2.2.2.1, Y.2.2.1.2.2.2.2), (Y.2.2.2.1.1, Y.2.2.2.1.2.1, Y.2.2.2.1.2.2.1, Y.2.2.2.1.2.2.2.1, Y.2.2.2.1.2.2.2.2), (Y.2.2.2.2.1.1, Y.2.2.2.2.1.2.1, Y.2.2.2.2.1.2.2.1, Y.2.2.2.2.1.2.2.2.1, Y.2.2.2.2.1.2.2.2.2), (Y.2.2.2.2.2.1, Y.2.2.2.2.2.2.1, Y.2.2.2.2.2.2.2.1, Y.2.2.2.2.2.2.2.2.1, Y.2.2.2.2.2.2.2.2.2))) H := hP
                    have hD : va_D A (mr_W cA cZ ad ((Y.1.1, Y.1.2.1, Y.1.2.2.1, Y.1.2.2.2.1, Y.1.2.2.2.2), (Y.2.1.1, Y.2.1.2.1, Y.2.1.2.2.1, (upd Y.2.1.2.2.2.1 o ((3 * (nI k)) + (nI d))), (upd Y.2.1.2.2.2.2 o ((Z.2.1.2.2.2.2 q) + 1))), (Y.2.2.1.1, Y.2.2.1.2.1, Y.2.2.1.2.2.1, Y.2.2.1.2.2.2.1, Y.2.2.1.2.2.2.2), (Y.2.2.2.1.1, Y.2.2.2.1.2.1, Y.2.2.2.1.2.2.1, Y.2.2.2.1.2.2.2.1, Y.2.2.2.1.2.2.2.2), (Y.2.2.2.2.1.1, Y.2.2.2.2.1.2.1, Y.2.2.2.2.1.2.2.1, Y.2.2.2.2.1.2.2.2.1, Y.2.2.2.2.1.2.2.2.2), (Y.2.2.2.2.2.1, Y.2.2.2.2.2.2.1, Y.2.2.2.2.2.2.2.1, Y.2.2.2.2.2.2.2.2.1, Y.2.2.2.2.2.2.2.2.2))) := hD
                    refine lv_iinc (k := 2) (v := (nI (o + 1))) (lv' := [(2, .int (nI (o + 1))), (7, .int 1), (6, .int (nI d)), (4, .int (Z.2.1.2.2.2.2 q)), (3, .int (nI k)), (0, .ref (ad 0)), (1, .int (nI n))]) hx hb d_Model_load_235 hl rfl ((nI_succ o).symm) (by decide) rfl (fun ls hl => ?_)
                    refine lv_iinc (k := 2) (v := (nI d - 1)) (lv' := [(6, .int (nI d - 1)), (2, .int (nI (o + 1))), (7, .int 1), (4, .int (Z.2.1.2.2.2.2 q)), (3, .int (nI k)), (0, .ref (ad 0)), (1, .int (nI n))]) hx hb d_Model_load_238 hl rfl ((Int32.sub_eq_add_neg (nI d) 1).symm) (by decide) rfl (fun ls hl => ?_)
                    refine lv_goto hx hb d_Model_load_241 rfl ?_
                    have hst : ((Y.1.1, Y.1.2.1, Y.1.2.2.1, Y.1.2.2.2.1, Y.1.2.2.2.2), (Y.2.1.1, Y.2.1.2.1, Y.2.1.2.2.1, (upd Y.2.1.2.2.2.1 o ((3 * (nI k)) + (nI d))), (upd Y.2.1.2.2.2.2 o ((Z.2.1.2.2.2.2 q) + 1))), (Y.2.2.1.1, Y.2.2.1.2.1, Y.2.2.1.2.2.1, Y.2.2.1.2.2.2.1, Y.2.2.1.2.2.2.2), (Y.2.2.2.1.1, Y.2.2.2.1.2.1, Y.2.2.2.1.2.2.1, Y.2.2.2.1.2.2.2.1, Y.2.2.2.1.2.2.2.2), (Y.2.2.2.2.1.1, Y.2.2.2.2.1.2.1, Y.2.2.2.2.1.2.2.1, Y.2.2.2.2.1.2.2.2.1, Y.2.2.2.2.1.2.2.2.2), (Y.2.2.2.2.2.1, Y.2.2.2.2.2.2.1, Y.2.2.2.2.2.2.2.1, Y.2.2.2.2.2.2.2.2.1, Y.2.2.2.2.2.2.2.2.2)) = s_ar (s_ow Y (upd (r_ow Y) o (3 * nI k + nI d))) (upd (r_ar Y) o ((Z.2.1.2.2.2.2 q) + tm_binds (r_so Y k) (nI d))) := by
                      unfold tm_binds; (first | rw [if_pos h166] | rw [if_neg h166]); rfl
                    rw [hst] at hP hD
                    exact ih2 d (o + 1) (s_ar (s_ow Y (upd (r_ow Y) o (3 * nI k + nI d))) (upd (r_ar Y) o ((Z.2.1.2.2.2.2 q) + tm_binds (r_so Y k) (nI d)))) _ _ _ (by omega) (by omega) (by omega) (by exact md_ows_in how (by omega) (by omega)) (by rw [hqi, md_inN]) (lv_sub hl [0, 1, 3, 4, 5, 6] rfl) hP hD hS
                  · refine lv_aload_n hx hb d_Model_load_169 rfl (lv_at hl 4 rfl) ?_
                    refine va_get (D := (dC, dI)) (ci := 4) (v := .ref (ad 1)) (C := R_Model) (T := F_Model) (N := 30) hx hb hts (fun q hq => List.mem_cons_of_mem _ (i_Model q hq)) hown hK hP 0 rfl rfl 1 (by decide) (hts _ (List.mem_cons_of_mem _ m_13_18)) (fun _ h9 => h9) rfl d_Model_load_170 ?_
                    refine lv_iload_n hx hb d_Model_load_173 rfl (lv_at hl 3 rfl) ?_
                    have hin : vp_in (nI k) 200 := by first | assumption | exact vp_in_nI (by omega) (by decide)
                    refine va_iald (f := Y.1.1) (n := 200) hx hb hK hP 1 0 rfl rfl hin d_Model_load_174 ?_
                    rw [nI_clamp (show k < 2 ^ 31 by omega)]
                    refine lv_bipush (v := 9) hx hb d_Model_load_175 (by decide) ?_
                    refine lv_icmp_eq hx hb d_Model_load_177 rfl (fun h177 => ?_) (fun h177 => ?_)
                    · refine lv_iconst (v := 1) hx hb d_Model_load_197 (by decide) ?_
                      refine lv_goto hx hb d_Model_load_198 rfl ?_
                      refine lv_istore (lv' := [(7, .int 1), (6, .int (nI d)), (2, .int (nI o)), (4, .int (Z.2.1.2.2.2.2 q)), (3, .int (nI k)), (0, .ref (ad 0)), (1, .int (nI n))]) hx hb d_Model_load_202 hl (by decide) rfl (fun ls hl => ?_)
                      refine lv_aload_n hx hb d_Model_load_204 rfl (lv_at hl 5 rfl) ?_
                      refine va_get (D := (dC, dI)) (ci := 4) (v := .ref (ad 6)) (C := R_Model) (T := F_Model) (N := 30) hx hb hts (fun q hq => List.mem_cons_of_mem _ (i_Model q hq)) hown hK hP 0 rfl rfl 8 (by decide) (hts _ (List.mem_cons_of_mem _ m_14_1)) (fun _ h9 => h9) rfl d_Model_load_205 ?_
                      refine lv_iload_n hx hb d_Model_load_208 rfl (lv_at hl 2 rfl) ?_
                      refine lv_iconst (v := 3) hx hb d_Model_load_209 (by decide) ?_
                      refine lv_iload_n hx hb d_Model_load_210 rfl (lv_at hl 4 rfl) ?_
                      refine lv_imul hx hb d_Model_load_211 ?_
                      refine lv_iload hx hb d_Model_load_212 (lv_at hl 1 rfl) ?_
                      refine lv_iadd hx hb d_Model_load_214 ?_
                      have hin : vp_in (nI o) 700 := by first | assumption | exact vp_in_nI (by omega) (by decide)
                      refine va_iast (f := Y.2.1.2.2.2.1) (n := 700) hx hb hK hP hD hS 6 0 rfl rfl hin d_Model_load_215 (fun H locs hP hD hS => ?_)
                      rw [nI_clamp (show o < 2 ^ 31 by omega)] at hP hD
                      have hP : va_P (dC, dI) classes (mr_W cA cZ ad ((Y.1.1, Y.1.2.1, Y.1.2.2.1, Y.1.2.2.2.1, Y.1.2.2.2.2), (Y.2.1.1, Y.2.1.2.1, Y.2.1.2.2.1, (upd Y.2.1.2.2.2.1 o ((3 * (nI k)) + (nI d))), Y.2.1.2.2.2.2), (Y.2.2.1.1, Y.2.2.1.2.1, Y.2.2.1.2.2.1, Y.2.2.1.2.2.2.1, Y.2.2.1.2.2.2.2), (Y.2.2.2.1.1, Y.2.2.2.1.2.1, Y.2.2.2.1.2.2.1, Y.2.2.2.1.2.2.2.1, Y.2.2.2.1.2.2.2.2), (Y.2.2.2.2.1.1, Y.2.2.2.2.1.2.1, Y.2.2.2.2.1.2.2.1, Y.2.2.2.2.1.2.2.2.1, Y.2.2.2.2.1.2.2.2.2), (Y.2.2.2.2.2.1, Y.2.2.2.2.2.2.1, Y.2.2.2.2.2.2.2.1, Y.2.2.2.2.2.2.2.2.1, Y.2.2.2.2.2.2.2.2.2))) H := hP
                      have hD : va_D A (mr_W cA cZ ad ((Y.1.1, Y.1.2.1, Y.1.2.2.1, Y.1.2.2.2.1, Y.1.2.2.2.2), (Y.2.1.1, Y.2.1.2.1, Y.2.1.2.2.1, (upd Y.2.1.2.2.2.1 o ((3 * (nI k)) + (nI d))), Y.2.1.2.2.2.2), (Y.2.2.1.1, Y.2.2.1.2.1, Y.2.2.1.2.2.1, Y.2.2.1.2.2.2.1, Y.2.2.1.2.2.2.2), (Y.2.2.2.1.1, Y.2.2.2.1.2.1, Y.2.2.2.1.2.2.1, Y.2.2.2.1.2.2.2.1, Y.2.2.2.1.2.2.2.2), (Y.2.2.2.2.1.1, Y.2.2.2.2.1.2.1, Y.2.2.2.2.1.2.2.1, Y.2.2.2.2.1.2.2.2.1, Y.2.2.2.2.1.2.2.2.2), (Y.2.2.2.2.2.1, Y.2.2.2.2.2.2.1, Y.2.2.2.2.2.2.2.1, Y.2.2.2.2.2.2.2.2.1, Y.2.2.2.2.2.2.2.2.2))) := hD
                      refine lv_aload_n hx hb d_Model_load_216 rfl (lv_at hl 5 rfl) ?_
                      refine va_get (D := (dC, dI)) (ci := 4) (v := .ref (ad 7)) (C := R_Model) (T := F_Model) (N := 30) hx hb hts (fun q hq => List.mem_cons_of_mem _ (i_Model q hq)) hown hK hP 0 rfl rfl 9 (by decide) (hts _ (List.mem_cons_of_mem _ m_14_2)) (fun _ h9 => h9) rfl d_Model_load_217 ?_
                      refine lv_iload_n hx hb d_Model_load_220 rfl (lv_at hl 2 rfl) ?_
                      refine lv_iload hx hb d_Model_load_221 (lv_at hl 3 rfl) ?_
                      refine lv_iload hx hb d_Model_load_223 (lv_at hl 0 rfl) ?_
                      refine lv_if_eq hx hb d_Model_load_225 rfl (fun h225 => by exact absurd h225 (by decide)) (fun h225 => ?_)
                      refine lv_iconst (v := 1) hx hb d_Model_load_228 (by decide) ?_
                      refine lv_goto hx hb d_Model_load_229 rfl ?_
                      refine lv_iadd hx hb d_Model_load_233 ?_
                      have hin : vp_in (nI o) 700 := by first | assumption | exact vp_in_nI (by omega) (by decide)
                      refine va_iast (f := Y.2.1.2.2.2.2) (n := 700) hx hb hK hP hD hS 7 0 rfl rfl hin d_Model_load_234 (fun H locs hP hD hS => ?_)
                      rw [nI_clamp (show o < 2 ^ 31 by omega)] at hP hD
                      have hP : va_P (dC, dI) classes (mr_W cA cZ ad ((Y.1.1, Y.1.2.1, Y.1.2.2.1, Y.1.2.2.2.1, Y.1.2.2.2.2), (Y.2.1.1, Y.2.1.2.1, Y.2.1.2.2.1, (upd Y.2.1.2.2.2.1 o ((3 * (nI k)) + (nI d))), (upd Y.2.1.2.2.2.2 o ((Z.2.1.2.2.2.2 q) + 1))), (Y.2.2.1.1, Y.2.2.1.2.1, Y.2.2.1.2.2.1, Y.2.2.1.2.2.2.1, Y.2.2.1.2.2.2.2), (Y.2.2.2.1.1, Y.2.2.2.1.2.1, Y.2.2.2.1.2.2.1, Y.2.2.2.1.2.2.2.1, Y.2.2.2.1.2.2.2.2), (Y.2.2.2.2.1.1, Y.2.2.2.2.1.2.1, Y.2.2.2.2.1.2.2.1, Y.2.2.2.2.1.2.2.2.1, Y.2.2.2.2.1.2.2.2.2), (Y.2.2.2.2.2.1, Y.2.2.2.2.2.2.1, Y.2.2.2.2.2.2.2.1, Y.2.2.2.2.2.2.2.2.1, Y.2.2.2.2.2.2.2.2.2))) H := hP
                      have hD : va_D A (mr_W cA cZ ad ((Y.1.1, Y.1.2.1, Y.1.2.2.1, Y.1.2.2.2.1, Y.1.2.2.2.2), (Y.2.1.1, Y.2.1.2.1, Y.2.1.2.2.1, (upd Y.2.1.2.2.2.1 o ((3 * (nI k)) + (nI d))), (upd Y.2.1.2.2.2.2 o ((Z.2.1.2.2.2.2 q) + 1))), (Y.2.2.1.1, Y.2.2.1.2.1, Y.2.2.1.2.2.1, Y.2.2.1.2.2.2.1, Y.2.2.1.2.2.2.2), (Y.2.2.2.1.1, Y.2.2.2.1.2.1, Y.2.2.2.1.2.2.1, Y.2.2.2.1.2.2.2.1, Y.2.2.2.1.2.2.2.2), (Y.2.2.2.2.1.1, Y.2.2.2.2.1.2.1, Y.2.2.2.2.1.2.2.1, Y.2.2.2.2.1.2.2.2.1, Y.2.2.2.2.1.2.2.2.2), (Y.2.2.2.2.2.1, Y.2.2.2.2.2.2.1, Y.2.2.2.2.2.2.2.1, Y.2.2.2.2.2.2.2.2.1, Y.2.2.2.2.2.2.2.2.2))) := hD
                      refine lv_iinc (k := 2) (v := (nI (o + 1))) (lv' := [(2, .int (nI (o + 1))), (7, .int 1), (6, .int (nI d)), (4, .int (Z.2.1.2.2.2.2 q)), (3, .int (nI k)), (0, .ref (ad 0)), (1, .int (nI n))]) hx hb d_Model_load_235 hl rfl ((nI_succ o).symm) (by decide) rfl (fun ls hl => ?_)
                      refine lv_iinc (k := 2) (v := (nI d - 1)) (lv' := [(6, .int (nI d - 1)), (2, .int (nI (o + 1))), (7, .int 1), (4, .int (Z.2.1.2.2.2.2 q)), (3, .int (nI k)), (0, .ref (ad 0)), (1, .int (nI n))]) hx hb d_Model_load_238 hl rfl ((Int32.sub_eq_add_neg (nI d) 1).symm) (by decide) rfl (fun ls hl => ?_)
                      refine lv_goto hx hb d_Model_load_241 rfl ?_
                      have hst : ((Y.1.1, Y.1.2.1, Y.1.2.2.1, Y.1.2.2.2.1, Y.1.2.2.2.2), (Y.2.1.1, Y.2.1.2.1, Y.2.1.2.2.1, (upd Y.2.1.2.2.2.1 o ((3 * (nI k)) + (nI d))), (upd Y.2.1.2.2.2.2 o ((Z.2.1.2.2.2.2 q) + 1))), (Y.2.2.1.1, Y.2.2.1.2.1, Y.2.2.1.2.2.1, Y.2.2.1.2.2.2.1, Y.2.2.1.2.2.2.2), (Y.2.2.2.1.1, Y.2.2.2.1.2.1, Y.2.2.2.1.2.2.1, Y.2.2.2.1.2.2.2.1, Y.2.2.2.1.2.2.2.2), (Y.2.2.2.2.1.1, Y.2.2.2.2.1.2.1, Y.2.2.2.2.1.2.2.1, Y.2.2.2.2.1.2.2.2.1, Y.2.2.2.2.1.2.2.2.2), (Y.2.2.2.2.2.1, Y.2.2.2.2.2.2.1, Y.2.2.2.2.2.2.2.1, Y.2.2.2.2.2.2.2.2.1, Y.2.2.2.2.2.2.2.2.2)) = s_ar (s_ow Y (upd (r_ow Y) o (3 * nI k + nI d))) (upd (r_ar Y) o ((Z.2.1.2.2.2.2 q) + tm_binds (r_so Y k) (nI d))) := by
                        unfold tm_binds; (first | rw [if_pos h166] | rw [if_neg h166]); (first | rw [if_pos h177] | rw [if_neg h177]); rfl
                      rw [hst] at hP hD
                      exact ih2 d (o + 1) (s_ar (s_ow Y (upd (r_ow Y) o (3 * nI k + nI d))) (upd (r_ar Y) o ((Z.2.1.2.2.2.2 q) + tm_binds (r_so Y k) (nI d)))) _ _ _ (by omega) (by omega) (by omega) (by exact md_ows_in how (by omega) (by omega)) (by rw [hqi, md_inN]) (lv_sub hl [0, 1, 3, 4, 5, 6] rfl) hP hD hS
                    · refine lv_aload_n hx hb d_Model_load_180 rfl (lv_at hl 4 rfl) ?_
                      refine va_get (D := (dC, dI)) (ci := 4) (v := .ref (ad 1)) (C := R_Model) (T := F_Model) (N := 30) hx hb hts (fun q hq => List.mem_cons_of_mem _ (i_Model q hq)) hown hK hP 0 rfl rfl 1 (by decide) (hts _ (List.mem_cons_of_mem _ m_13_18)) (fun _ h9 => h9) rfl d_Model_load_181 ?_
                      refine lv_iload_n hx hb d_Model_load_184 rfl (lv_at hl 3 rfl) ?_
                      have hin : vp_in (nI k) 200 := by first | assumption | exact vp_in_nI (by omega) (by decide)
                      refine va_iald (f := Y.1.1) (n := 200) hx hb hK hP 1 0 rfl rfl hin d_Model_load_185 ?_
                      rw [nI_clamp (show k < 2 ^ 31 by omega)]
                      refine lv_bipush (v := 10) hx hb d_Model_load_186 (by decide) ?_
                      refine lv_icmp_ne hx hb d_Model_load_188 rfl (fun h188 => ?_) (fun h188 => ?_)
                      · refine lv_iconst (v := 0) hx hb d_Model_load_201 (by decide) ?_
                        refine lv_istore (lv' := [(7, .int 0), (6, .int (nI d)), (2, .int (nI o)), (4, .int (Z.2.1.2.2.2.2 q)), (3, .int (nI k)), (0, .ref (ad 0)), (1, .int (nI n))]) hx hb d_Model_load_202 hl (by decide) rfl (fun ls hl => ?_)
                        refine lv_aload_n hx hb d_Model_load_204 rfl (lv_at hl 5 rfl) ?_
                        refine va_get (D := (dC, dI)) (ci := 4) (v := .ref (ad 6)) (C := R_Model) (T := F_Model) (N := 30) hx hb hts (fun q hq => List.mem_cons_of_mem _ (i_Model q hq)) hown hK hP 0 rfl rfl 8 (by decide) (hts _ (List.mem_cons_of_mem _ m_14_1)) (fun _ h9 => h9) rfl d_Model_load_205 ?_
                        refine lv_iload_n hx hb d_Model_load_208 rfl (lv_at hl 2 rfl) ?_
                        refine lv_iconst (v := 3) hx hb d_Model_load_209 (by decide) ?_
                        refine lv_iload_n hx hb d_Model_load_210 rfl (lv_at hl 4 rfl) ?_
                        refine lv_imul hx hb d_Model_load_211 ?_
                        refine lv_iload hx hb d_Model_load_212 (lv_at hl 1 rfl) ?_
                        refine lv_iadd hx hb d_Model_load_214 ?_
                        have hin : vp_in (nI o) 700 := by first | assumption | exact vp_in_nI (by omega) (by decide)
                        refine va_iast (f := Y.2.1.2.2.2.1) (n := 700) hx hb hK hP hD hS 6 0 rfl rfl hin d_Model_load_215 (fun H locs hP hD hS => ?_)
                        rw [nI_clamp (show o < 2 ^ 31 by omega)] at hP hD
                        have hP : va_P (dC, dI) classes (mr_W cA cZ ad ((Y.1.1, Y.1.2.1, Y.1.2.2.1, Y.1.2.2.2.1, Y.1.2.2.2.2), (Y.2.1.1, Y.2.1.2.1, Y.2.1.2.2.1, (upd Y.2.1.2.2.2.1 o ((3 * (nI k)) + (nI d))), Y.2.1.2.2.2.2), (Y.2.2.1.1, Y.2.2.1.2.1, Y.2.2.1.2.2.1, Y.2.2.1.2.2.2.1, Y.2.2.1.2.2.2.2), (Y.2.2.2.1.1, Y.2.2.2.1.2.1, Y.2.2.2.1.2.2.1, Y.2.2.2.1.2.2.2.1, Y.2.2.2.1.2.2.2.2), (Y.2.2.2.2.1.1, Y.2.2.2.2.1.2.1, Y.2.2.2.2.1.2.2.1, Y.2.2.2.2.1.2.2.2.1, Y.2.2.2.2.1.2.2.2.2), (Y.2.2.2.2.2.1, Y.2.2.2.2.2.2.1, Y.2.2.2.2.2.2.2.1, Y.2.2.2.2.2.2.2.2.1, Y.2.2.2.2.2.2.2.2.2))) H := hP
                        have hD : va_D A (mr_W cA cZ ad ((Y.1.1, Y.1.2.1, Y.1.2.2.1, Y.1.2.2.2.1, Y.1.2.2.2.2), (Y.2.1.1, Y.2.1.2.1, Y.2.1.2.2.1, (upd Y.2.1.2.2.2.1 o ((3 * (nI k)) + (nI d))), Y.2.1.2.2.2.2), (Y.2.2.1.1, Y.2.2.1.2.1, Y.2.2.1.2.2.1, Y.2.2.1.2.2.2.1, Y.2.2.1.2.2.2.2), (Y.2.2.2.1.1, Y.2.2.2.1.2.1, Y.2.2.2.1.2.2.1, Y.2.2.2.1.2.2.2.1, Y.2.2.2.1.2.2.2.2), (Y.2.2.2.2.1.1, Y.2.2.2.2.1.2.1, Y.2.2.2.2.1.2.2.1, Y.2.2.2.2.1.2.2.2.1, Y.2.2.2.2.1.2.2.2.2), (Y.2.2.2.2.2.1, Y.2.2.2.2.2.2.1, Y.2.2.2.2.2.2.2.1, Y.2.2.2.2.2.2.2.2.1, Y.2.2.2.2.2.2.2.2.2))) := hD
                        refine lv_aload_n hx hb d_Model_load_216 rfl (lv_at hl 5 rfl) ?_
                        refine va_get (D := (dC, dI)) (ci := 4) (v := .ref (ad 7)) (C := R_Model) (T := F_Model) (N := 30) hx hb hts (fun q hq => List.mem_cons_of_mem _ (i_Model q hq)) hown hK hP 0 rfl rfl 9 (by decide) (hts _ (List.mem_cons_of_mem _ m_14_2)) (fun _ h9 => h9) rfl d_Model_load_217 ?_
                        refine lv_iload_n hx hb d_Model_load_220 rfl (lv_at hl 2 rfl) ?_
                        refine lv_iload hx hb d_Model_load_221 (lv_at hl 3 rfl) ?_
                        refine lv_iload hx hb d_Model_load_223 (lv_at hl 0 rfl) ?_
                        refine lv_if_eq hx hb d_Model_load_225 rfl (fun h225 => ?_) (fun h225 => by exact absurd h225 (by decide))
                        refine lv_iconst (v := 0) hx hb d_Model_load_232 (by decide) ?_
                        refine lv_iadd hx hb d_Model_load_233 ?_
                        have hin : vp_in (nI o) 700 := by first | assumption | exact vp_in_nI (by omega) (by decide)
                        refine va_iast (f := Y.2.1.2.2.2.2) (n := 700) hx hb hK hP hD hS 7 0 rfl rfl hin d_Model_load_234 (fun H locs hP hD hS => ?_)
                        rw [nI_clamp (show o < 2 ^ 31 by omega)] at hP hD
                        have hP : va_P (dC, dI) classes (mr_W cA cZ ad ((Y.1.1, Y.1.2.1, Y.1.2.2.1, Y.1.2.2.2.1, Y.1.2.2.2.2), (Y.2.1.1, Y.2.1.2.1, Y.2.1.2.2.1, (upd Y.2.1.2.2.2.1 o ((3 * (nI k)) + (nI d))), (upd Y.2.1.2.2.2.2 o ((Z.2.1.2.2.2.2 q) + 0))), (Y.2.2.1.1, Y.2.2.1.2.1, Y.2.2.1.2.2.1, Y.2.2.1.2.2.2.1, Y.2.2.1.2.2.2.2), (Y.2.2.2.1.1, Y.2.2.2.1.2.1, Y.2.2.2.1.2.2.1, Y.2.2.2.1.2.2.2.1, Y.2.2.2.1.2.2.2.2), (Y.2.2.2.2.1.1, Y.2.2.2.2.1.2.1, Y.2.2.2.2.1.2.2.1, Y.2.2.2.2.1.2.2.2.1, Y.2.2.2.2.1.2.2.2.2), (Y.2.2.2.2.2.1, Y.2.2.2.2.2.2.1, Y.2.2.2.2.2.2.2.1, Y.2.2.2.2.2.2.2.2.1, Y.2.2.2.2.2.2.2.2.2))) H := hP
                        have hD : va_D A (mr_W cA cZ ad ((Y.1.1, Y.1.2.1, Y.1.2.2.1, Y.1.2.2.2.1, Y.1.2.2.2.2), (Y.2.1.1, Y.2.1.2.1, Y.2.1.2.2.1, (upd Y.2.1.2.2.2.1 o ((3 * (nI k)) + (nI d))), (upd Y.2.1.2.2.2.2 o ((Z.2.1.2.2.2.2 q) + 0))), (Y.2.2.1.1, Y.2.2.1.2.1, Y.2.2.1.2.2.1, Y.2.2.1.2.2.2.1, Y.2.2.1.2.2.2.2), (Y.2.2.2.1.1, Y.2.2.2.1.2.1, Y.2.2.2.1.2.2.1, Y.2.2.2.1.2.2.2.1, Y.2.2.2.1.2.2.2.2), (Y.2.2.2.2.1.1, Y.2.2.2.2.1.2.1, Y.2.2.2.2.1.2.2.1, Y.2.2.2.2.1.2.2.2.1, Y.2.2.2.2.1.2.2.2.2), (Y.2.2.2.2.2.1, Y.2.2.2.2.2.2.1, Y.2.2.2.2.2.2.2.1, Y.2.2.2.2.2.2.2.2.1, Y.2.2.2.2.2.2.2.2.2))) := hD
                        refine lv_iinc (k := 2) (v := (nI (o + 1))) (lv' := [(2, .int (nI (o + 1))), (7, .int 0), (6, .int (nI d)), (4, .int (Z.2.1.2.2.2.2 q)), (3, .int (nI k)), (0, .ref (ad 0)), (1, .int (nI n))]) hx hb d_Model_load_235 hl rfl ((nI_succ o).symm) (by decide) rfl (fun ls hl => ?_)
                        refine lv_iinc (k := 2) (v := (nI d - 1)) (lv' := [(6, .int (nI d - 1)), (2, .int (nI (o + 1))), (7, .int 0), (4, .int (Z.2.1.2.2.2.2 q)), (3, .int (nI k)), (0, .ref (ad 0)), (1, .int (nI n))]) hx hb d_Model_load_238 hl rfl ((Int32.sub_eq_add_neg (nI d) 1).symm) (by decide) rfl (fun ls hl => ?_)
                        refine lv_goto hx hb d_Model_load_241 rfl ?_
                        have hst : ((Y.1.1, Y.1.2.1, Y.1.2.2.1, Y.1.2.2.2.1, Y.1.2.2.2.2), (Y.2.1.1, Y.2.1.2.1, Y.2.1.2.2.1, (upd Y.2.1.2.2.2.1 o ((3 * (nI k)) + (nI d))), (upd Y.2.1.2.2.2.2 o ((Z.2.1.2.2.2.2 q) + 0))), (Y.2.2.1.1, Y.2.2.1.2.1, Y.2.2.1.2.2.1, Y.2.2.1.2.2.2.1, Y.2.2.1.2.2.2.2), (Y.2.2.2.1.1, Y.2.2.2.1.2.1, Y.2.2.2.1.2.2.1, Y.2.2.2.1.2.2.2.1, Y.2.2.2.1.2.2.2.2), (Y.2.2.2.2.1.1, Y.2.2.2.2.1.2.1, Y.2.2.2.2.1.2.2.1, Y.2.2.2.2.1.2.2.2.1, Y.2.2.2.2.1.2.2.2.2), (Y.2.2.2.2.2.1, Y.2.2.2.2.2.2.1, Y.2.2.2.2.2.2.2.1, Y.2.2.2.2.2.2.2.2.1, Y.2.2.2.2.2.2.2.2.2)) = s_ar (s_ow Y (upd (r_ow Y) o (3 * nI k + nI d))) (upd (r_ar Y) o ((Z.2.1.2.2.2.2 q) + tm_binds (r_so Y k) (nI d))) := by
                          unfold tm_binds; (first | rw [if_pos h166] | rw [if_neg h166]); (first | rw [if_pos h177] | rw [if_neg h177]); (first | rw [if_pos h188] | rw [if_neg h188]); rfl
                        rw [hst] at hP hD
                        exact ih2 d (o + 1) (s_ar (s_ow Y (upd (r_ow Y) o (3 * nI k + nI d))) (upd (r_ar Y) o ((Z.2.1.2.2.2.2 q) + tm_binds (r_so Y k) (nI d)))) _ _ _ (by omega) (by omega) (by omega) (by exact md_ows_in how (by omega) (by omega)) (by rw [hqi, md_inN]) (lv_sub hl [0, 1, 3, 4, 5, 6] rfl) hP hD hS
                      · refine lv_iload hx hb d_Model_load_191 (lv_at hl 0 rfl) ?_
                        refine lv_iconst (v := 1) hx hb d_Model_load_193 (by decide) ?_
                        refine lv_icmp_ne hx hb d_Model_load_194 rfl (fun h194 => ?_) (fun h194 => ?_)
                        · refine lv_iconst (v := 0) hx hb d_Model_load_201 (by decide) ?_
                          refine lv_istore (lv' := [(7, .int 0), (6, .int (nI d)), (2, .int (nI o)), (4, .int (Z.2.1.2.2.2.2 q)), (3, .int (nI k)), (0, .ref (ad 0)), (1, .int (nI n))]) hx hb d_Model_load_202 hl (by decide) rfl (fun ls hl => ?_)
                          refine lv_aload_n hx hb d_Model_load_204 rfl (lv_at hl 5 rfl) ?_
                          refine va_get (D := (dC, dI)) (ci := 4) (v := .ref (ad 6)) (C := R_Model) (T := F_Model) (N := 30) hx hb hts (fun q hq => List.mem_cons_of_mem _ (i_Model q hq)) hown hK hP 0 rfl rfl 8 (by decide) (hts _ (List.mem_cons_of_mem _ m_14_1)) (fun _ h9 => h9) rfl d_Model_load_205 ?_
                          refine lv_iload_n hx hb d_Model_load_208 rfl (lv_at hl 2 rfl) ?_
                          refine lv_iconst (v := 3) hx hb d_Model_load_209 (by decide) ?_
                          refine lv_iload_n hx hb d_Model_load_210 rfl (lv_at hl 4 rfl) ?_
                          refine lv_imul hx hb d_Model_load_211 ?_
                          refine lv_iload hx hb d_Model_load_212 (lv_at hl 1 rfl) ?_
                          refine lv_iadd hx hb d_Model_load_214 ?_
                          have hin : vp_in (nI o) 700 := by first | assumption | exact vp_in_nI (by omega) (by decide)
                          refine va_iast (f := Y.2.1.2.2.2.1) (n := 700) hx hb hK hP hD hS 6 0 rfl rfl hin d_Model_load_215 (fun H locs hP hD hS => ?_)
                          rw [nI_clamp (show o < 2 ^ 31 by omega)] at hP hD
                          have hP : va_P (dC, dI) classes (mr_W cA cZ ad ((Y.1.1, Y.1.2.1, Y.1.2.2.1, Y.1.2.2.2.1, Y.1.2.2.2.2), (Y.2.1.1, Y.2.1.2.1, Y.2.1.2.2.1, (upd Y.2.1.2.2.2.1 o ((3 * (nI k)) + (nI d))), Y.2.1.2.2.2.2), (Y.2.2.1.1, Y.2.2.1.2.1, Y.2.2.1.2.2.1, Y.2.2.1.2.2.2.1, Y.2.2.1.2.2.2.2), (Y.2.2.2.1.1, Y.2.2.2.1.2.1, Y.2.2.2.1.2.2.1, Y.2.2.2.1.2.2.2.1, Y.2.2.2.1.2.2.2.2), (Y.2.2.2.2.1.1, Y.2.2.2.2.1.2.1, Y.2.2.2.2.1.2.2.1, Y.2.2.2.2.1.2.2.2.1, Y.2.2.2.2.1.2.2.2.2), (Y.2.2.2.2.2.1, Y.2.2.2.2.2.2.1, Y.2.2.2.2.2.2.2.1, Y.2.2.2.2.2.2.2.2.1, Y.2.2.2.2.2.2.2.2.2))) H := hP
                          have hD : va_D A (mr_W cA cZ ad ((Y.1.1, Y.1.2.1, Y.1.2.2.1, Y.1.2.2.2.1, Y.1.2.2.2.2), (Y.2.1.1, Y.2.1.2.1, Y.2.1.2.2.1, (upd Y.2.1.2.2.2.1 o ((3 * (nI k)) + (nI d))), Y.2.1.2.2.2.2), (Y.2.2.1.1, Y.2.2.1.2.1, Y.2.2.1.2.2.1, Y.2.2.1.2.2.2.1, Y.2.2.1.2.2.2.2), (Y.2.2.2.1.1, Y.2.2.2.1.2.1, Y.2.2.2.1.2.2.1, Y.2.2.2.1.2.2.2.1, Y.2.2.2.1.2.2.2.2), (Y.2.2.2.2.1.1, Y.2.2.2.2.1.2.1, Y.2.2.2.2.1.2.2.1, Y.2.2.2.2.1.2.2.2.1, Y.2.2.2.2.1.2.2.2.2), (Y.2.2.2.2.2.1, Y.2.2.2.2.2.2.1, Y.2.2.2.2.2.2.2.1, Y.2.2.2.2.2.2.2.2.1, Y.2.2.2.2.2.2.2.2.2))) := hD
                          refine lv_aload_n hx hb d_Model_load_216 rfl (lv_at hl 5 rfl) ?_
                          refine va_get (D := (dC, dI)) (ci := 4) (v := .ref (ad 7)) (C := R_Model) (T := F_Model) (N := 30) hx hb hts (fun q hq => List.mem_cons_of_mem _ (i_Model q hq)) hown hK hP 0 rfl rfl 9 (by decide) (hts _ (List.mem_cons_of_mem _ m_14_2)) (fun _ h9 => h9) rfl d_Model_load_217 ?_
                          refine lv_iload_n hx hb d_Model_load_220 rfl (lv_at hl 2 rfl) ?_
                          refine lv_iload hx hb d_Model_load_221 (lv_at hl 3 rfl) ?_
                          refine lv_iload hx hb d_Model_load_223 (lv_at hl 0 rfl) ?_
                          refine lv_if_eq hx hb d_Model_load_225 rfl (fun h225 => ?_) (fun h225 => by exact absurd h225 (by decide))
                          refine lv_iconst (v := 0) hx hb d_Model_load_232 (by decide) ?_
                          refine lv_iadd hx hb d_Model_load_233 ?_
                          have hin : vp_in (nI o) 700 := by first | assumption | exact vp_in_nI (by omega) (by decide)
                          refine va_iast (f := Y.2.1.2.2.2.2) (n := 700) hx hb hK hP hD hS 7 0 rfl rfl hin d_Model_load_234 (fun H locs hP hD hS => ?_)
                          rw [nI_clamp (show o < 2 ^ 31 by omega)] at hP hD
                          have hP : va_P (dC, dI) classes (mr_W cA cZ ad ((Y.1.1, Y.1.2.1, Y.1.2.2.1, Y.1.2.2.2.1, Y.1.2.2.2.2), (Y.2.1.1, Y.2.1.2.1, Y.2.1.2.2.1, (upd Y.2.1.2.2.2.1 o ((3 * (nI k)) + (nI d))), (upd Y.2.1.2.2.2.2 o ((Z.2.1.2.2.2.2 q) + 0))), (Y.2.2.1.1, Y.2.2.1.2.1, Y.2.2.1.2.2.1, Y.2.2.1.2.2.2.1, Y.2.2.1.2.2.2.2), (Y.2.2.2.1.1, Y.2.2.2.1.2.1, Y.2.2.2.1.2.2.1, Y.2.2.2.1.2.2.2.1, Y.2.2.2.1.2.2.2.2), (Y.2.2.2.2.1.1, Y.2.2.2.2.1.2.1, Y.2.2.2.2.1.2.2.1, Y.2.2.2.2.1.2.2.2.1, Y.2.2.2.2.1.2.2.2.2), (Y.2.2.2.2.2.1, Y.2.2.2.2.2.2.1, Y.2.2.2.2.2.2.2.1, Y.2.2.2.2.2.2.2.2.1, Y.2.2.2.2.2.2.2.2.2))) H := hP
                          have hD : va_D A (mr_W cA cZ ad ((Y.1.1, Y.1.2.1, Y.1.2.2.1, Y.1.2.2.2.1, Y.1.2.2.2.2), (Y.2.1.1, Y.2.1.2.1, Y.2.1.2.2.1, (upd Y.2.1.2.2.2.1 o ((3 * (nI k)) + (nI d))), (upd Y.2.1.2.2.2.2 o ((Z.2.1.2.2.2.2 q) + 0))), (Y.2.2.1.1, Y.2.2.1.2.1, Y.2.2.1.2.2.1, Y.2.2.1.2.2.2.1, Y.2.2.1.2.2.2.2), (Y.2.2.2.1.1, Y.2.2.2.1.2.1, Y.2.2.2.1.2.2.1, Y.2.2.2.1.2.2.2.1, Y.2.2.2.1.2.2.2.2), (Y.2.2.2.2.1.1, Y.2.2.2.2.1.2.1, Y.2.2.2.2.1.2.2.1, Y.2.2.2.2.1.2.2.2.1, Y.2.2.2.2.1.2.2.2.2), (Y.2.2.2.2.2.1, Y.2.2.2.2.2.2.1, Y.2.2.2.2.2.2.2.1, Y.2.2.2.2.2.2.2.2.1, Y.2.2.2.2.2.2.2.2.2))) := hD
                          refine lv_iinc (k := 2) (v := (nI (o + 1))) (lv' := [(2, .int (nI (o + 1))), (7, .int 0), (6, .int (nI d)), (4, .int (Z.2.1.2.2.2.2 q)), (3, .int (nI k)), (0, .ref (ad 0)), (1, .int (nI n))]) hx hb d_Model_load_235 hl rfl ((nI_succ o).symm) (by decide) rfl (fun ls hl => ?_)
                          refine lv_iinc (k := 2) (v := (nI d - 1)) (lv' := [(6, .int (nI d - 1)), (2, .int (nI (o + 1))), (7, .int 0), (4, .int (Z.2.1.2.2.2.2 q)), (3, .int (nI k)), (0, .ref (ad 0)), (1, .int (nI n))]) hx hb d_Model_load_238 hl rfl ((Int32.sub_eq_add_neg (nI d) 1).symm) (by decide) rfl (fun ls hl => ?_)
                          refine lv_goto hx hb d_Model_load_241 rfl ?_
                          have hst : ((Y.1.1, Y.1.2.1, Y.1.2.2.1, Y.1.2.2.2.1, Y.1.2.2.2.2), (Y.2.1.1, Y.2.1.2.1, Y.2.1.2.2.1, (upd Y.2.1.2.2.2.1 o ((3 * (nI k)) + (nI d))), (upd Y.2.1.2.2.2.2 o ((Z.2.1.2.2.2.2 q) + 0))), (Y.2.2.1.1, Y.2.2.1.2.1, Y.2.2.1.2.2.1, Y.2.2.1.2.2.2.1, Y.2.2.1.2.2.2.2), (Y.2.2.2.1.1, Y.2.2.2.1.2.1, Y.2.2.2.1.2.2.1, Y.2.2.2.1.2.2.2.1, Y.2.2.2.1.2.2.2.2), (Y.2.2.2.2.1.1, Y.2.2.2.2.1.2.1, Y.2.2.2.2.1.2.2.1, Y.2.2.2.2.1.2.2.2.1, Y.2.2.2.2.1.2.2.2.2), (Y.2.2.2.2.2.1, Y.2.2.2.2.2.2.1, Y.2.2.2.2.2.2.2.1, Y.2.2.2.2.2.2.2.2.1, Y.2.2.2.2.2.2.2.2.2)) = s_ar (s_ow Y (upd (r_ow Y) o (3 * nI k + nI d))) (upd (r_ar Y) o ((Z.2.1.2.2.2.2 q) + tm_binds (r_so Y k) (nI d))) := by
                            unfold tm_binds; (first | rw [if_pos h166] | rw [if_neg h166]); (first | rw [if_pos h177] | rw [if_neg h177]); (first | rw [if_pos h188] | rw [if_neg h188]); (first | rw [if_pos h194] | rw [if_neg h194]); rfl
                          rw [hst] at hP hD
                          exact ih2 d (o + 1) (s_ar (s_ow Y (upd (r_ow Y) o (3 * nI k + nI d))) (upd (r_ar Y) o ((Z.2.1.2.2.2.2 q) + tm_binds (r_so Y k) (nI d)))) _ _ _ (by omega) (by omega) (by omega) (by exact md_ows_in how (by omega) (by omega)) (by rw [hqi, md_inN]) (lv_sub hl [0, 1, 3, 4, 5, 6] rfl) hP hD hS
                        · refine lv_iconst (v := 1) hx hb d_Model_load_197 (by decide) ?_
                          refine lv_goto hx hb d_Model_load_198 rfl ?_
                          refine lv_istore (lv' := [(7, .int 1), (6, .int (nI d)), (2, .int (nI o)), (4, .int (Z.2.1.2.2.2.2 q)), (3, .int (nI k)), (0, .ref (ad 0)), (1, .int (nI n))]) hx hb d_Model_load_202 hl (by decide) rfl (fun ls hl => ?_)
                          refine lv_aload_n hx hb d_Model_load_204 rfl (lv_at hl 5 rfl) ?_
                          refine va_get (D := (dC, dI)) (ci := 4) (v := .ref (ad 6)) (C := R_Model) (T := F_Model) (N := 30) hx hb hts (fun q hq => List.mem_cons_of_mem _ (i_Model q hq)) hown hK hP 0 rfl rfl 8 (by decide) (hts _ (List.mem_cons_of_mem _ m_14_1)) (fun _ h9 => h9) rfl d_Model_load_205 ?_
                          refine lv_iload_n hx hb d_Model_load_208 rfl (lv_at hl 2 rfl) ?_
                          refine lv_iconst (v := 3) hx hb d_Model_load_209 (by decide) ?_
                          refine lv_iload_n hx hb d_Model_load_210 rfl (lv_at hl 4 rfl) ?_
                          refine lv_imul hx hb d_Model_load_211 ?_
                          refine lv_iload hx hb d_Model_load_212 (lv_at hl 1 rfl) ?_
                          refine lv_iadd hx hb d_Model_load_214 ?_
                          have hin : vp_in (nI o) 700 := by first | assumption | exact vp_in_nI (by omega) (by decide)
                          refine va_iast (f := Y.2.1.2.2.2.1) (n := 700) hx hb hK hP hD hS 6 0 rfl rfl hin d_Model_load_215 (fun H locs hP hD hS => ?_)
                          rw [nI_clamp (show o < 2 ^ 31 by omega)] at hP hD
                          have hP : va_P (dC, dI) classes (mr_W cA cZ ad ((Y.1.1, Y.1.2.1, Y.1.2.2.1, Y.1.2.2.2.1, Y.1.2.2.2.2), (Y.2.1.1, Y.2.1.2.1, Y.2.1.2.2.1, (upd Y.2.1.2.2.2.1 o ((3 * (nI k)) + (nI d))), Y.2.1.2.2.2.2), (Y.2.2.1.1, Y.2.2.1.2.1, Y.2.2.1.2.2.1, Y.2.2.1.2.2.2.1, Y.2.2.1.2.2.2.2), (Y.2.2.2.1.1, Y.2.2.2.1.2.1, Y.2.2.2.1.2.2.1, Y.2.2.2.1.2.2.2.1, Y.2.2.2.1.2.2.2.2), (Y.2.2.2.2.1.1, Y.2.2.2.2.1.2.1, Y.2.2.2.2.1.2.2.1, Y.2.2.2.2.1.2.2.2.1, Y.2.2.2.2.1.2.2.2.2), (Y.2.2.2.2.2.1, Y.2.2.2.2.2.2.1, Y.2.2.2.2.2.2.2.1, Y.2.2.2.2.2.2.2.2.1, Y.2.2.2.2.2.2.2.2.2))) H := hP
                          have hD : va_D A (mr_W cA cZ ad ((Y.1.1, Y.1.2.1, Y.1.2.2.1, Y.1.2.2.2.1, Y.1.2.2.2.2), (Y.2.1.1, Y.2.1.2.1, Y.2.1.2.2.1, (upd Y.2.1.2.2.2.1 o ((3 * (nI k)) + (nI d))), Y.2.1.2.2.2.2), (Y.2.2.1.1, Y.2.2.1.2.1, Y.2.2.1.2.2.1, Y.2.2.1.2.2.2.1, Y.2.2.1.2.2.2.2), (Y.2.2.2.1.1, Y.2.2.2.1.2.1, Y.2.2.2.1.2.2.1, Y.2.2.2.1.2.2.2.1, Y.2.2.2.1.2.2.2.2), (Y.2.2.2.2.1.1, Y.2.2.2.2.1.2.1, Y.2.2.2.2.1.2.2.1, Y.2.2.2.2.1.2.2.2.1, Y.2.2.2.2.1.2.2.2.2), (Y.2.2.2.2.2.1, Y.2.2.2.2.2.2.1, Y.2.2.2.2.2.2.2.1, Y.2.2.2.2.2.2.2.2.1, Y.2.2.2.2.2.2.2.2.2))) := hD
                          refine lv_aload_n hx hb d_Model_load_216 rfl (lv_at hl 5 rfl) ?_
                          refine va_get (D := (dC, dI)) (ci := 4) (v := .ref (ad 7)) (C := R_Model) (T := F_Model) (N := 30) hx hb hts (fun q hq => List.mem_cons_of_mem _ (i_Model q hq)) hown hK hP 0 rfl rfl 9 (by decide) (hts _ (List.mem_cons_of_mem _ m_14_2)) (fun _ h9 => h9) rfl d_Model_load_217 ?_
                          refine lv_iload_n hx hb d_Model_load_220 rfl (lv_at hl 2 rfl) ?_
                          refine lv_iload hx hb d_Model_load_221 (lv_at hl 3 rfl) ?_
                          refine lv_iload hx hb d_Model_load_223 (lv_at hl 0 rfl) ?_
                          refine lv_if_eq hx hb d_Model_load_225 rfl (fun h225 => by exact absurd h225 (by decide)) (fun h225 => ?_)
                          refine lv_iconst (v := 1) hx hb d_Model_load_228 (by decide) ?_
                          refine lv_goto hx hb d_Model_load_229 rfl ?_
                          refine lv_iadd hx hb d_Model_load_233 ?_
                          have hin : vp_in (nI o) 700 := by first | assumption | exact vp_in_nI (by omega) (by decide)
                          refine va_iast (f := Y.2.1.2.2.2.2) (n := 700) hx hb hK hP hD hS 7 0 rfl rfl hin d_Model_load_234 (fun H locs hP hD hS => ?_)
                          rw [nI_clamp (show o < 2 ^ 31 by omega)] at hP hD
                          have hP : va_P (dC, dI) classes (mr_W cA cZ ad ((Y.1.1, Y.1.2.1, Y.1.2.2.1, Y.1.2.2.2.1, Y.1.2.2.2.2), (Y.2.1.1, Y.2.1.2.1, Y.2.1.2.2.1, (upd Y.2.1.2.2.2.1 o ((3 * (nI k)) + (nI d))), (upd Y.2.1.2.2.2.2 o ((Z.2.1.2.2.2.2 q) + 1))), (Y.2.2.1.1, Y.2.2.1.2.1, Y.2.2.1.2.2.1, Y.2.2.1.2.2.2.1, Y.2.2.1.2.2.2.2), (Y.2.2.2.1.1, Y.2.2.2.1.2.1, Y.2.2.2.1.2.2.1, Y.2.2.2.1.2.2.2.1, Y.2.2.2.1.2.2.2.2), (Y.2.2.2.2.1.1, Y.2.2.2.2.1.2.1, Y.2.2.2.2.1.2.2.1, Y.2.2.2.2.1.2.2.2.1, Y.2.2.2.2.1.2.2.2.2), (Y.2.2.2.2.2.1, Y.2.2.2.2.2.2.1, Y.2.2.2.2.2.2.2.1, Y.2.2.2.2.2.2.2.2.1, Y.2.2.2.2.2.2.2.2.2))) H := hP
                          have hD : va_D A (mr_W cA cZ ad ((Y.1.1, Y.1.2.1, Y.1.2.2.1, Y.1.2.2.2.1, Y.1.2.2.2.2), (Y.2.1.1, Y.2.1.2.1, Y.2.1.2.2.1, (upd Y.2.1.2.2.2.1 o ((3 * (nI k)) + (nI d))), (upd Y.2.1.2.2.2.2 o ((Z.2.1.2.2.2.2 q) + 1))), (Y.2.2.1.1, Y.2.2.1.2.1, Y.2.2.1.2.2.1, Y.2.2.1.2.2.2.1, Y.2.2.1.2.2.2.2), (Y.2.2.2.1.1, Y.2.2.2.1.2.1, Y.2.2.2.1.2.2.1, Y.2.2.2.1.2.2.2.1, Y.2.2.2.1.2.2.2.2), (Y.2.2.2.2.1.1, Y.2.2.2.2.1.2.1, Y.2.2.2.2.1.2.2.1, Y.2.2.2.2.1.2.2.2.1, Y.2.2.2.2.1.2.2.2.2), (Y.2.2.2.2.2.1, Y.2.2.2.2.2.2.1, Y.2.2.2.2.2.2.2.1, Y.2.2.2.2.2.2.2.2.1, Y.2.2.2.2.2.2.2.2.2))) := hD
                          refine lv_iinc (k := 2) (v := (nI (o + 1))) (lv' := [(2, .int (nI (o + 1))), (7, .int 1), (6, .int (nI d)), (4, .int (Z.2.1.2.2.2.2 q)), (3, .int (nI k)), (0, .ref (ad 0)), (1, .int (nI n))]) hx hb d_Model_load_235 hl rfl ((nI_succ o).symm) (by decide) rfl (fun ls hl => ?_)
                          refine lv_iinc (k := 2) (v := (nI d - 1)) (lv' := [(6, .int (nI d - 1)), (2, .int (nI (o + 1))), (7, .int 1), (4, .int (Z.2.1.2.2.2.2 q)), (3, .int (nI k)), (0, .ref (ad 0)), (1, .int (nI n))]) hx hb d_Model_load_238 hl rfl ((Int32.sub_eq_add_neg (nI d) 1).symm) (by decide) rfl (fun ls hl => ?_)
                          refine lv_goto hx hb d_Model_load_241 rfl ?_
                          have hst : ((Y.1.1, Y.1.2.1, Y.1.2.2.1, Y.1.2.2.2.1, Y.1.2.2.2.2), (Y.2.1.1, Y.2.1.2.1, Y.2.1.2.2.1, (upd Y.2.1.2.2.2.1 o ((3 * (nI k)) + (nI d))), (upd Y.2.1.2.2.2.2 o ((Z.2.1.2.2.2.2 q) + 1))), (Y.2.2.1.1, Y.2.2.1.2.1, Y.2.2.1.2.2.1, Y.2.2.1.2.2.2.1, Y.2.2.1.2.2.2.2), (Y.2.2.2.1.1, Y.2.2.2.1.2.1, Y.2.2.2.1.2.2.1, Y.2.2.2.1.2.2.2.1, Y.2.2.2.1.2.2.2.2), (Y.2.2.2.2.1.1, Y.2.2.2.2.1.2.1, Y.2.2.2.2.1.2.2.1, Y.2.2.2.2.1.2.2.2.1, Y.2.2.2.2.1.2.2.2.2), (Y.2.2.2.2.2.1, Y.2.2.2.2.2.2.1, Y.2.2.2.2.2.2.2.1, Y.2.2.2.2.2.2.2.2.1, Y.2.2.2.2.2.2.2.2.2)) = s_ar (s_ow Y (upd (r_ow Y) o (3 * nI k + nI d))) (upd (r_ar Y) o ((Z.2.1.2.2.2.2 q) + tm_binds (r_so Y k) (nI d))) := by
                            unfold tm_binds; (first | rw [if_pos h166] | rw [if_neg h166]); (first | rw [if_pos h177] | rw [if_neg h177]); (first | rw [if_pos h188] | rw [if_neg h188]); (first | rw [if_pos h194] | rw [if_neg h194]); rfl
                          rw [hst] at hP hD
                          exact ih2 d (o + 1) (s_ar (s_ow Y (upd (r_ow Y) o (3 * nI k + nI d))) (upd (r_ar Y) o ((Z.2.1.2.2.2.2 q) + tm_binds (r_so Y k) (nI d)))) _ _ _ (by omega) (by omega) (by omega) (by exact md_ows_in how (by omega) (by omega)) (by rw [hqi, md_inN]) (lv_sub hl [0, 1, 3, 4, 5, 6] rfl) hP hD hS
              exact loop mm mm q ((Z.1.1, Z.1.2.1, Z.1.2.2.1, Z.1.2.2.2.1, Z.1.2.2.2.2), ((upd Z.2.1.1 k (Z.1.1 k)), (upd Z.2.1.2.1 k (Z.1.2.1 k)), Z.2.1.2.2.1, Z.2.1.2.2.2.1, Z.2.1.2.2.2.2), (Z.2.2.1.1, Z.2.2.1.2.1, Z.2.2.1.2.2.1, Z.2.2.1.2.2.2.1, Z.2.2.1.2.2.2.2), (Z.2.2.2.1.1, Z.2.2.2.1.2.1, Z.2.2.2.1.2.2.1, Z.2.2.2.1.2.2.2.1, Z.2.2.2.1.2.2.2.2), (Z.2.2.2.2.1.1, Z.2.2.2.2.1.2.1, Z.2.2.2.2.1.2.2.1, Z.2.2.2.2.1.2.2.2.1, Z.2.2.2.2.1.2.2.2.2), (Z.2.2.2.2.2.1, Z.2.2.2.2.2.2.1, Z.2.2.2.2.2.2.2.1, Z.2.2.2.2.2.2.2.2.1, Z.2.2.2.2.2.2.2.2.2)) _ _ _ (by rfl) (by omega) (by exact hmm) (by intro j hj; have q9 := hl1 j (by omega); rw [hl1s] at q9; exact q9) (by rw [hq9, hmm2, nI_clamp (by omega), hl2s]) (lv_sub hl [0, 3, 2, 4, 5, 6] rfl) hP hD hS
            · refine lv_iconst (v := 1) hx hb d_Model_load_109 (by decide) ?_
              refine lv_iload_n hx hb d_Model_load_110 rfl (lv_at hl 2 rfl) ?_
              refine lv_iadd hx hb d_Model_load_111 ?_
              refine lm_ri (v := (1 + (nI k))) hx hb hr hlocks Z ?_ hP hK hD hS d_Model_load_112
              rw [hq, md_loadN, if_neg (by omega), show q + 1 - 1 = q from rfl, if_pos ⟨by rw [hl1s]; exact h95, by rw [hl1s]; exact Int32.not_lt.mp h106⟩, hl1s]; exact ⟨rfl, rfl⟩
        · refine lv_aload_n hx hb d_Model_load_77 rfl (lv_at hl 3 rfl) ?_
          refine va_get (D := (dC, dI)) (ci := 4) (v := .ref (ad 5)) (C := R_Model) (T := F_Model) (N := 30) hx hb hts (fun q hq => List.mem_cons_of_mem _ (i_Model q hq)) hown hK hP 0 rfl rfl 6 (by decide) (hts _ (List.mem_cons_of_mem _ m_13_23)) (fun _ h9 => h9) rfl d_Model_load_78 ?_
          refine lv_aload_n hx hb d_Model_load_81 rfl (lv_at hl 3 rfl) ?_
          refine va_get (D := (dC, dI)) (ci := 4) (v := .ref (ad 6)) (C := R_Model) (T := F_Model) (N := 30) hx hb hts (fun q hq => List.mem_cons_of_mem _ (i_Model q hq)) hown hK hP 0 rfl rfl 8 (by decide) (hts _ (List.mem_cons_of_mem _ m_14_1)) (fun _ h9 => h9) rfl d_Model_load_82 ?_
          refine lv_iload_n hx hb d_Model_load_85 rfl (lv_at hl 1 rfl) ?_
          have hin : vp_in (nI q) 700 := by first | assumption | exact vp_in_nI (by omega) (by decide)
          refine va_iald (f := Z.2.1.2.2.2.1) (n := 700) hx hb hK hP 6 0 rfl rfl hin d_Model_load_86 ?_
          rw [nI_clamp (show q < 2 ^ 31 by omega)]
          refine lv_iload_n hx hb d_Model_load_87 rfl (lv_at hl 2 rfl) ?_
          have hin : vp_in (Z.2.1.2.2.2.1 q) 600 := by exact (how q (by omega)).resolve_left h74
          refine va_iast (f := Z.2.1.2.2.1) (n := 600) hx hb hK hP hD hS 5 0 rfl rfl hin d_Model_load_88 (fun H locs hP hD hS => ?_)
          have hP : va_P (dC, dI) classes (mr_W cA cZ ad ((Z.1.1, Z.1.2.1, Z.1.2.2.1, Z.1.2.2.2.1, Z.1.2.2.2.2), (Z.2.1.1, Z.2.1.2.1, (upd Z.2.1.2.2.1 (Z.2.1.2.2.2.1 q).toNatClampNeg (nI k)), Z.2.1.2.2.2.1, Z.2.1.2.2.2.2), (Z.2.2.1.1, Z.2.2.1.2.1, Z.2.2.1.2.2.1, Z.2.2.1.2.2.2.1, Z.2.2.1.2.2.2.2), (Z.2.2.2.1.1, Z.2.2.2.1.2.1, Z.2.2.2.1.2.2.1, Z.2.2.2.1.2.2.2.1, Z.2.2.2.1.2.2.2.2), (Z.2.2.2.2.1.1, Z.2.2.2.2.1.2.1, Z.2.2.2.2.1.2.2.1, Z.2.2.2.2.1.2.2.2.1, Z.2.2.2.2.1.2.2.2.2), (Z.2.2.2.2.2.1, Z.2.2.2.2.2.2.1, Z.2.2.2.2.2.2.2.1, Z.2.2.2.2.2.2.2.2.1, Z.2.2.2.2.2.2.2.2.2))) H := hP
          have hD : va_D A (mr_W cA cZ ad ((Z.1.1, Z.1.2.1, Z.1.2.2.1, Z.1.2.2.2.1, Z.1.2.2.2.2), (Z.2.1.1, Z.2.1.2.1, (upd Z.2.1.2.2.1 (Z.2.1.2.2.2.1 q).toNatClampNeg (nI k)), Z.2.1.2.2.2.1, Z.2.1.2.2.2.2), (Z.2.2.1.1, Z.2.2.1.2.1, Z.2.2.1.2.2.1, Z.2.2.1.2.2.2.1, Z.2.2.1.2.2.2.2), (Z.2.2.2.1.1, Z.2.2.2.1.2.1, Z.2.2.2.1.2.2.1, Z.2.2.2.1.2.2.2.1, Z.2.2.2.1.2.2.2.2), (Z.2.2.2.2.1.1, Z.2.2.2.2.1.2.1, Z.2.2.2.2.1.2.2.1, Z.2.2.2.2.1.2.2.2.1, Z.2.2.2.2.1.2.2.2.2), (Z.2.2.2.2.2.1, Z.2.2.2.2.2.2.1, Z.2.2.2.2.2.2.2.1, Z.2.2.2.2.2.2.2.2.1, Z.2.2.2.2.2.2.2.2.2))) := hD
          have hl1s : md_l1 Z k q = ((Z.1.1, Z.1.2.1, Z.1.2.2.1, Z.1.2.2.2.1, Z.1.2.2.2.2), (Z.2.1.1, Z.2.1.2.1, (upd Z.2.1.2.2.1 (Z.2.1.2.2.2.1 q).toNatClampNeg (nI k)), Z.2.1.2.2.2.1, Z.2.1.2.2.2.2), (Z.2.2.1.1, Z.2.2.1.2.1, Z.2.2.1.2.2.1, Z.2.2.1.2.2.2.1, Z.2.2.1.2.2.2.2), (Z.2.2.2.1.1, Z.2.2.2.1.2.1, Z.2.2.2.1.2.2.1, Z.2.2.2.1.2.2.2.1, Z.2.2.2.1.2.2.2.2), (Z.2.2.2.2.1.1, Z.2.2.2.2.1.2.1, Z.2.2.2.2.1.2.2.1, Z.2.2.2.2.1.2.2.2.1, Z.2.2.2.2.1.2.2.2.2), (Z.2.2.2.2.2.1, Z.2.2.2.2.2.2.1, Z.2.2.2.2.2.2.2.1, Z.2.2.2.2.2.2.2.2.1, Z.2.2.2.2.2.2.2.2.2)) := by unfold md_l1; rw [if_neg h74]; rfl
          have hl1 : md_ows (md_l1 Z k q) (q + 1) := by rw [hl1s]; exact how
          refine lv_aload_n hx hb d_Model_load_89 rfl (lv_at hl 3 rfl) ?_
          refine va_get (D := (dC, dI)) (ci := 4) (v := .ref (ad 1)) (C := R_Model) (T := F_Model) (N := 30) hx hb hts (fun q hq => List.mem_cons_of_mem _ (i_Model q hq)) hown hK hP 0 rfl rfl 1 (by decide) (hts _ (List.mem_cons_of_mem _ m_13_18)) (fun _ h9 => h9) rfl d_Model_load_90 ?_
          refine lv_iload_n hx hb d_Model_load_93 rfl (lv_at hl 2 rfl) ?_
          have hin : vp_in (nI k) 200 := by first | assumption | exact vp_in_nI (by omega) (by decide)
          refine va_iald (f := Z.1.1) (n := 200) hx hb hK hP 1 0 rfl rfl hin d_Model_load_94 ?_
          rw [nI_clamp (show k < 2 ^ 31 by omega)]
          refine lv_if_ne hx hb d_Model_load_95 rfl (fun h95 => ?_) (fun h95 => ?_)
          · have hq9 : md_load ((aso, axs, (nI n), ath, asi), (asr, anu, ach, aow, aar), (ais, aon, atw, awh, afi), (ase, afr, amo, ass, asp), (afo, aba, ano, aen, avs), (avo, avt, are, atd, ale)) = md_loadN n fu (k + 1) (md_inN (md_many (r_so (md_l2 (md_l1 Z k q) k) k)).toNatClampNeg k (Z.2.1.2.2.2.2 q) q (md_l2 (md_l1 Z k q) k)).1 (md_inN (md_many (r_so (md_l2 (md_l1 Z k q) k) k)).toNatClampNeg k (Z.2.1.2.2.2.2 q) q (md_l2 (md_l1 Z k q) k)).2 := by rw [hq, md_loadN, if_neg (by omega), show q + 1 - 1 = q from rfl, if_neg (fun p => by rw [hl1s] at p; exact h95 p.1)]
            refine lv_aload_n hx hb d_Model_load_113 rfl (lv_at hl 3 rfl) ?_
            refine va_get (D := (dC, dI)) (ci := 4) (v := .ref (ad 3)) (C := R_Model) (T := F_Model) (N := 30) hx hb hts (fun q hq => List.mem_cons_of_mem _ (i_Model q hq)) hown hK hP 0 rfl rfl 4 (by decide) (hts _ (List.mem_cons_of_mem _ m_13_21)) (fun _ h9 => h9) rfl d_Model_load_114 ?_
            refine lv_iload_n hx hb d_Model_load_117 rfl (lv_at hl 2 rfl) ?_
            refine lv_aload_n hx hb d_Model_load_118 rfl (lv_at hl 3 rfl) ?_
            refine va_get (D := (dC, dI)) (ci := 4) (v := .ref (ad 1)) (C := R_Model) (T := F_Model) (N := 30) hx hb hts (fun q hq => List.mem_cons_of_mem _ (i_Model q hq)) hown hK hP 0 rfl rfl 1 (by decide) (hts _ (List.mem_cons_of_mem _ m_13_18)) (fun _ h9 => h9) rfl d_Model_load_119 ?_
            refine lv_iload_n hx hb d_Model_load_122 rfl (lv_at hl 2 rfl) ?_
            have hin : vp_in (nI k) 200 := by first | assumption | exact vp_in_nI (by omega) (by decide)
            refine va_iald (f := Z.1.1) (n := 200) hx hb hK hP 1 0 rfl rfl hin d_Model_load_123 ?_
            rw [nI_clamp (show k < 2 ^ 31 by omega)]
            have hin : vp_in (nI k) 200 := by first | assumption | exact vp_in_nI (by omega) (by decide)
            refine va_iast (f := Z.2.1.1) (n := 200) hx hb hK hP hD hS 3 0 rfl rfl hin d_Model_load_124 (fun H locs hP hD hS => ?_)
            rw [nI_clamp (show k < 2 ^ 31 by omega)] at hP hD
            have hP : va_P (dC, dI) classes (mr_W cA cZ ad ((Z.1.1, Z.1.2.1, Z.1.2.2.1, Z.1.2.2.2.1, Z.1.2.2.2.2), ((upd Z.2.1.1 k (Z.1.1 k)), Z.2.1.2.1, (upd Z.2.1.2.2.1 (Z.2.1.2.2.2.1 q).toNatClampNeg (nI k)), Z.2.1.2.2.2.1, Z.2.1.2.2.2.2), (Z.2.2.1.1, Z.2.2.1.2.1, Z.2.2.1.2.2.1, Z.2.2.1.2.2.2.1, Z.2.2.1.2.2.2.2), (Z.2.2.2.1.1, Z.2.2.2.1.2.1, Z.2.2.2.1.2.2.1, Z.2.2.2.1.2.2.2.1, Z.2.2.2.1.2.2.2.2), (Z.2.2.2.2.1.1, Z.2.2.2.2.1.2.1, Z.2.2.2.2.1.2.2.1, Z.2.2.2.2.1.2.2.2.1, Z.2.2.2.2.1.2.2.2.2), (Z.2.2.2.2.2.1, Z.2.2.2.2.2.2.1, Z.2.2.2.2.2.2.2.1, Z.2.2.2.2.2.2.2.2.1, Z.2.2.2.2.2.2.2.2.2))) H := hP
            have hD : va_D A (mr_W cA cZ ad ((Z.1.1, Z.1.2.1, Z.1.2.2.1, Z.1.2.2.2.1, Z.1.2.2.2.2), ((upd Z.2.1.1 k (Z.1.1 k)), Z.2.1.2.1, (upd Z.2.1.2.2.1 (Z.2.1.2.2.2.1 q).toNatClampNeg (nI k)), Z.2.1.2.2.2.1, Z.2.1.2.2.2.2), (Z.2.2.1.1, Z.2.2.1.2.1, Z.2.2.1.2.2.1, Z.2.2.1.2.2.2.1, Z.2.2.1.2.2.2.2), (Z.2.2.2.1.1, Z.2.2.2.1.2.1, Z.2.2.2.1.2.2.1, Z.2.2.2.1.2.2.2.1, Z.2.2.2.1.2.2.2.2), (Z.2.2.2.2.1.1, Z.2.2.2.2.1.2.1, Z.2.2.2.2.1.2.2.1, Z.2.2.2.2.1.2.2.2.1, Z.2.2.2.2.1.2.2.2.2), (Z.2.2.2.2.2.1, Z.2.2.2.2.2.2.1, Z.2.2.2.2.2.2.2.1, Z.2.2.2.2.2.2.2.2.1, Z.2.2.2.2.2.2.2.2.2))) := hD
            refine lv_aload_n hx hb d_Model_load_125 rfl (lv_at hl 3 rfl) ?_
            refine va_get (D := (dC, dI)) (ci := 4) (v := .ref (ad 4)) (C := R_Model) (T := F_Model) (N := 30) hx hb hts (fun q hq => List.mem_cons_of_mem _ (i_Model q hq)) hown hK hP 0 rfl rfl 5 (by decide) (hts _ (List.mem_cons_of_mem _ m_13_22)) (fun _ h9 => h9) rfl d_Model_load_126 ?_
            refine lv_iload_n hx hb d_Model_load_129 rfl (lv_at hl 2 rfl) ?_
            refine lv_aload_n hx hb d_Model_load_130 rfl (lv_at hl 3 rfl) ?_
            refine va_get (D := (dC, dI)) (ci := 4) (v := .ref (ad 2)) (C := R_Model) (T := F_Model) (N := 30) hx hb hts (fun q hq => List.mem_cons_of_mem _ (i_Model q hq)) hown hK hP 0 rfl rfl 2 (by decide) (hts _ (List.mem_cons_of_mem _ m_13_19)) (fun _ h9 => h9) rfl d_Model_load_131 ?_
            refine lv_iload_n hx hb d_Model_load_134 rfl (lv_at hl 2 rfl) ?_
            have hin : vp_in (nI k) 200 := by first | assumption | exact vp_in_nI (by omega) (by decide)
            refine va_iald (f := Z.1.2.1) (n := 200) hx hb hK hP 2 0 rfl rfl hin d_Model_load_135 ?_
            rw [nI_clamp (show k < 2 ^ 31 by omega)]
            have hin : vp_in (nI k) 200 := by first | assumption | exact vp_in_nI (by omega) (by decide)
            refine va_iast (f := Z.2.1.2.1) (n := 200) hx hb hK hP hD hS 4 0 rfl rfl hin d_Model_load_136 (fun H locs hP hD hS => ?_)
            rw [nI_clamp (show k < 2 ^ 31 by omega)] at hP hD
            have hP : va_P (dC, dI) classes (mr_W cA cZ ad ((Z.1.1, Z.1.2.1, Z.1.2.2.1, Z.1.2.2.2.1, Z.1.2.2.2.2), ((upd Z.2.1.1 k (Z.1.1 k)), (upd Z.2.1.2.1 k (Z.1.2.1 k)), (upd Z.2.1.2.2.1 (Z.2.1.2.2.2.1 q).toNatClampNeg (nI k)), Z.2.1.2.2.2.1, Z.2.1.2.2.2.2), (Z.2.2.1.1, Z.2.2.1.2.1, Z.2.2.1.2.2.1, Z.2.2.1.2.2.2.1, Z.2.2.1.2.2.2.2), (Z.2.2.2.1.1, Z.2.2.2.1.2.1, Z.2.2.2.1.2.2.1, Z.2.2.2.1.2.2.2.1, Z.2.2.2.1.2.2.2.2), (Z.2.2.2.2.1.1, Z.2.2.2.2.1.2.1, Z.2.2.2.2.1.2.2.1, Z.2.2.2.2.1.2.2.2.1, Z.2.2.2.2.1.2.2.2.2), (Z.2.2.2.2.2.1, Z.2.2.2.2.2.2.1, Z.2.2.2.2.2.2.2.1, Z.2.2.2.2.2.2.2.2.1, Z.2.2.2.2.2.2.2.2.2))) H := hP
            have hD : va_D A (mr_W cA cZ ad ((Z.1.1, Z.1.2.1, Z.1.2.2.1, Z.1.2.2.2.1, Z.1.2.2.2.2), ((upd Z.2.1.1 k (Z.1.1 k)), (upd Z.2.1.2.1 k (Z.1.2.1 k)), (upd Z.2.1.2.2.1 (Z.2.1.2.2.2.1 q).toNatClampNeg (nI k)), Z.2.1.2.2.2.1, Z.2.1.2.2.2.2), (Z.2.2.1.1, Z.2.2.1.2.1, Z.2.2.1.2.2.1, Z.2.2.1.2.2.2.1, Z.2.2.1.2.2.2.2), (Z.2.2.2.1.1, Z.2.2.2.1.2.1, Z.2.2.2.1.2.2.1, Z.2.2.2.1.2.2.2.1, Z.2.2.2.1.2.2.2.2), (Z.2.2.2.2.1.1, Z.2.2.2.2.1.2.1, Z.2.2.2.2.1.2.2.1, Z.2.2.2.2.1.2.2.2.1, Z.2.2.2.2.1.2.2.2.2), (Z.2.2.2.2.2.1, Z.2.2.2.2.2.2.1, Z.2.2.2.2.2.2.2.1, Z.2.2.2.2.2.2.2.2.1, Z.2.2.2.2.2.2.2.2.2))) := hD
            refine lv_aload_n hx hb d_Model_load_137 rfl (lv_at hl 3 rfl) ?_
            refine va_get (D := (dC, dI)) (ci := 4) (v := .ref (ad 1)) (C := R_Model) (T := F_Model) (N := 30) hx hb hts (fun q hq => List.mem_cons_of_mem _ (i_Model q hq)) hown hK hP 0 rfl rfl 1 (by decide) (hts _ (List.mem_cons_of_mem _ m_13_18)) (fun _ h9 => h9) rfl d_Model_load_138 ?_
            refine lv_iload_n hx hb d_Model_load_141 rfl (lv_at hl 2 rfl) ?_
            have hin : vp_in (nI k) 200 := by first | assumption | exact vp_in_nI (by omega) (by decide)
            refine va_iald (f := Z.1.1) (n := 200) hx hb hK hP 1 0 rfl rfl hin d_Model_load_142 ?_
            rw [nI_clamp (show k < 2 ^ 31 by omega)]
            refine lm_si (As := [.int (Z.1.1 k)]) (rest := []) (wr := (mr_W cA cZ ad ((Z.1.1, Z.1.2.1, Z.1.2.2.1, Z.1.2.2.2.1, Z.1.2.2.2.2), ((upd Z.2.1.1 k (Z.1.1 k)), (upd Z.2.1.2.1 k (Z.1.2.1 k)), (upd Z.2.1.2.2.1 (Z.2.1.2.2.2.1 q).toNatClampNeg (nI k)), Z.2.1.2.2.2.1, Z.2.1.2.2.2.2), (Z.2.2.1.1, Z.2.2.1.2.1, Z.2.2.1.2.2.1, Z.2.2.1.2.2.2.1, Z.2.2.1.2.2.2.2), (Z.2.2.2.1.1, Z.2.2.2.1.2.1, Z.2.2.2.1.2.2.1, Z.2.2.2.1.2.2.2.1, Z.2.2.2.1.2.2.2.2), (Z.2.2.2.2.1.1, Z.2.2.2.2.1.2.1, Z.2.2.2.2.1.2.2.1, Z.2.2.2.2.1.2.2.2.1, Z.2.2.2.2.1.2.2.2.2), (Z.2.2.2.2.2.1, Z.2.2.2.2.2.2.1, Z.2.2.2.2.2.2.2.1, Z.2.2.2.2.2.2.2.2.1, Z.2.2.2.2.2.2.2.2.2)))) ⟨hx, hb, hml, hown, hts⟩ hK hP hD hS hA [] [0, 1, 2, 3, 4, 5, 6, 7, 8, 9, 10, 11, 12, 13, 14, 15] rfl rfl (by decide) (by decide) (by decide) (c_Model_many l dC dI cA cZ  _  (Z.1.1 k) ) (cwS 1 hts (lm_gS m_15_15 m_15_16 m_0_5 m_15_17) rfl rfl rfl (by decide +kernel) ⟨Nat.le_of_ble_eq_true rfl, Nat.le_of_ble_eq_true rfl⟩) lm_bl_no (fun _ _ _ => trivial) hl.1 rfl rfl (Nat.le_of_ble_eq_true rfl) d_Model_load_143 ⟨Nat.le_of_ble_eq_true rfl, Nat.le_of_ble_eq_true rfl⟩ (fun r143 u143 H locs w143 hP hD hS => ?_)
            obtain ⟨e_r143, w143⟩ := w143
            have hP : va_P (dC, dI) classes (mr_W cA cZ ad ((Z.1.1, Z.1.2.1, Z.1.2.2.1, Z.1.2.2.2.1, Z.1.2.2.2.2), ((upd Z.2.1.1 k (Z.1.1 k)), (upd Z.2.1.2.1 k (Z.1.2.1 k)), (upd Z.2.1.2.2.1 (Z.2.1.2.2.2.1 q).toNatClampNeg (nI k)), Z.2.1.2.2.2.1, Z.2.1.2.2.2.2), (Z.2.2.1.1, Z.2.2.1.2.1, Z.2.2.1.2.2.1, Z.2.2.1.2.2.2.1, Z.2.2.1.2.2.2.2), (Z.2.2.2.1.1, Z.2.2.2.1.2.1, Z.2.2.2.1.2.2.1, Z.2.2.2.1.2.2.2.1, Z.2.2.2.1.2.2.2.2), (Z.2.2.2.2.1.1, Z.2.2.2.2.1.2.1, Z.2.2.2.2.1.2.2.1, Z.2.2.2.2.1.2.2.2.1, Z.2.2.2.2.1.2.2.2.2), (Z.2.2.2.2.2.1, Z.2.2.2.2.2.2.1, Z.2.2.2.2.2.2.2.1, Z.2.2.2.2.2.2.2.2.1, Z.2.2.2.2.2.2.2.2.2))) H := hP
            have hD : va_D A (mr_W cA cZ ad ((Z.1.1, Z.1.2.1, Z.1.2.2.1, Z.1.2.2.2.1, Z.1.2.2.2.2), ((upd Z.2.1.1 k (Z.1.1 k)), (upd Z.2.1.2.1 k (Z.1.2.1 k)), (upd Z.2.1.2.2.1 (Z.2.1.2.2.2.1 q).toNatClampNeg (nI k)), Z.2.1.2.2.2.1, Z.2.1.2.2.2.2), (Z.2.2.1.1, Z.2.2.1.2.1, Z.2.2.1.2.2.1, Z.2.2.1.2.2.2.1, Z.2.2.1.2.2.2.2), (Z.2.2.2.1.1, Z.2.2.2.1.2.1, Z.2.2.2.1.2.2.1, Z.2.2.2.1.2.2.2.1, Z.2.2.2.1.2.2.2.2), (Z.2.2.2.2.1.1, Z.2.2.2.2.1.2.1, Z.2.2.2.2.1.2.2.1, Z.2.2.2.2.1.2.2.2.1, Z.2.2.2.2.1.2.2.2.2), (Z.2.2.2.2.2.1, Z.2.2.2.2.2.2.1, Z.2.2.2.2.2.2.2.1, Z.2.2.2.2.2.2.2.2.1, Z.2.2.2.2.2.2.2.2.2))) := hD
            refine lv_istore (lv' := [(5, .int r143), (4, .int (Z.2.1.2.2.2.2 q)), (2, .int (nI q)), (3, .int (nI k)), (0, .ref (ad 0)), (1, .int (nI n))]) hx hb d_Model_load_146 hl (by decide) rfl (fun ls hl => ?_)
            obtain ⟨mm, hmm, hmm2⟩ := md_many_n (r_so (md_l2 (md_l1 Z k q) k) k)
            have hmr : r143 = nI mm := by
              rw [e_r143, ← hmm2, hl1s]; rfl
            have hl2s : md_l2 (md_l1 Z k q) k = ((Z.1.1, Z.1.2.1, Z.1.2.2.1, Z.1.2.2.2.1, Z.1.2.2.2.2), ((upd Z.2.1.1 k (Z.1.1 k)), (upd Z.2.1.2.1 k (Z.1.2.1 k)), (upd Z.2.1.2.2.1 (Z.2.1.2.2.2.1 q).toNatClampNeg (nI k)), Z.2.1.2.2.2.1, Z.2.1.2.2.2.2), (Z.2.2.1.1, Z.2.2.1.2.1, Z.2.2.1.2.2.1, Z.2.2.1.2.2.2.1, Z.2.2.1.2.2.2.2), (Z.2.2.2.1.1, Z.2.2.2.1.2.1, Z.2.2.2.1.2.2.1, Z.2.2.2.1.2.2.2.1, Z.2.2.2.1.2.2.2.2), (Z.2.2.2.2.1.1, Z.2.2.2.2.1.2.1, Z.2.2.2.2.1.2.2.1, Z.2.2.2.2.1.2.2.2.1, Z.2.2.2.2.1.2.2.2.2), (Z.2.2.2.2.2.1, Z.2.2.2.2.2.2.1, Z.2.2.2.2.2.2.2.1, Z.2.2.2.2.2.2.2.2.1, Z.2.2.2.2.2.2.2.2.2)) := by rw [hl1s]; rfl
            refine lv_iload hx hb d_Model_load_148 (lv_at hl 0 rfl) ?_
            refine lv_iconst (v := 1) hx hb d_Model_load_150 (by decide) ?_
            refine lv_isub hx hb d_Model_load_151 ?_
            refine lv_topi (fun z_ e_ => ?_)
            have e_ : z_ = (nI mm - 1) := e_.trans (by rw [hmr])
            subst e_
            refine lv_istore (lv' := [(6, .int (nI mm - 1)), (5, .int r143), (4, .int (Z.2.1.2.2.2.2 q)), (2, .int (nI q)), (3, .int (nI k)), (0, .ref (ad 0)), (1, .int (nI n))]) hx hb d_Model_load_152 hl (by decide) rfl (fun ls hl => ?_)
            have loop : ∀ (fv : Nat) (cn o : Nat) (Y : ZNS) (ls : Array Slot) (H : Heap) (locs : List Loc), (cn = fv) → (o + cn ≤ 2 * k + 3) → (cn ≤ 3) → (md_ows Y o) → (md_load ((aso, axs, (nI n), ath, asi), (asr, anu, ach, aow, aar), (ais, aon, atw, awh, afi), (ase, afr, amo, ass, asp), (afo, aba, ano, aen, avs), (avo, avt, are, atd, ale)) = md_loadN n fu (k + 1) (md_inN cn k (Z.2.1.2.2.2.2 q) o Y).1 (md_inN cn k (Z.2.1.2.2.2.2 q) o Y).2) → lv_has ls 8 [(6, .int (nI cn - 1)), (2, .int (nI o)), (4, .int (Z.2.1.2.2.2.2 q)), (3, .int (nI k)), (0, .ref (ad 0)), (1, .int (nI n))] → va_P (dC, dI) classes (mr_W cA cZ ad Y) H → va_D A (mr_W cA cZ ad Y) → va_S A s.heap H locs → W p l e (headSpec w_Model_load ({ frames := 1, cells := 0, slots := 0, locals := 20 } : Room)).room s m (List.toArray [.ref (ad 0)]) below meth c H locs 0 0 (MQ below (va_Qi (fun (r : Int32) (u : ZNS) => r = (md_load ((aso, axs, (nI n), ath, asi), (asr, anu, ach, aow, aar), (ais, aon, atw, awh, afi), (ase, afr, amo, ass, asp), (afo, aba, ano, aen, avs), (avo, avt, are, atd, ale))).1 ∧ u = (md_load ((aso, axs, (nI n), ath, asi), (asr, anu, ach, aow, aar), (ais, aon, atw, awh, afi), (ase, afr, amo, ass, asp), (afo, aba, ano, aen, avs), (avo, avt, are, atd, ale))).2) (fun u => lm_at (dC, dI) classes [(cA, .int), (cZ, .boolean)] A (mr_W cA cZ ad u)) A) (List.toArray [.ref (ad 0)]) s 0 0 A) (F0 m 154 ls []) := by
              intro fv
              induction fv with
              | zero => 
                intro cn o Y ls H locs hc ho hc3 how hqi hl hP hD hS
                refine lv_iload hx hb d_Model_load_154 (lv_at hl 0 rfl) ?_
                refine lv_if_lt hx hb d_Model_load_156 rfl (fun h156 => ?_) (fun h156 => by exact absurd (by rw [hc]; decide) h156)
                refine lv_iinc (k := 3) (v := (nI (k + 1))) (lv' := [(3, .int (nI (k + 1))), (6, .int (nI cn - 1)), (2, .int (nI o)), (4, .int (Z.2.1.2.2.2.2 q)), (0, .ref (ad 0)), (1, .int (nI n))]) hx hb d_Model_load_244 hl rfl ((nI_succ k).symm) (by decide) rfl (fun ls hl => ?_)
                refine lv_goto hx hb d_Model_load_247 rfl ?_
                exact ih (k + 1) o Y _ _ _ (by omega) (by omega) (by exact how) (by rw [hqi, hc, md_inN]) (lv_sub hl [0, 2, 4, 5] rfl) hP hD hS
              | succ fv ih2 => 
                intro cn o Y ls H locs hc ho hc3 how hqi hl hP hD hS
                obtain ⟨d, rfl⟩ : ∃ d, cn = d + 1 := ⟨fv, hc⟩
                have hd : d = fv := by omega
                rw [nI_pred] at hl
                refine lv_iload hx hb d_Model_load_154 (lv_at hl 0 rfl) ?_
                refine lv_if_lt hx hb d_Model_load_156 rfl (fun h156 => by exact absurd h156 (nI_pos (by omega))) (fun h156 => ?_)
                refine lv_aload_n hx hb d_Model_load_159 rfl (lv_at hl 4 rfl) ?_
                refine va_get (D := (dC, dI)) (ci := 4) (v := .ref (ad 1)) (C := R_Model) (T := F_Model) (N := 30) hx hb hts (fun q hq => List.mem_cons_of_mem _ (i_Model q hq)) hown hK hP 0 rfl rfl 1 (by decide) (hts _ (List.mem_cons_of_mem _ m_13_18)) (fun _ h9 => h9) rfl d_Model_load_160 ?_
                refine lv_iload_n hx hb d_Model_load_163 rfl (lv_at hl 3 rfl) ?_
                have hin : vp_in (nI k) 200 := by first | assumption | exact vp_in_nI (by omega) (by decide)
                refine va_iald (f := Y.1.1) (n := 200) hx hb hK hP 1 0 rfl rfl hin d_Model_load_164 ?_
                rw [nI_clamp (show k < 2 ^ 31 by omega)]
                refine lv_iconst (v := 1) hx hb d_Model_load_165 (by decide) ?_
                refine lv_icmp_eq hx hb d_Model_load_166 rfl (fun h166 => ?_) (fun h166 => ?_)
                · refine lv_iconst (v := 1) hx hb d_Model_load_197 (by decide) ?_
                  refine lv_goto hx hb d_Model_load_198 rfl ?_
                  refine lv_istore (lv' := [(7, .int 1), (6, .int (nI d)), (2, .int (nI o)), (4, .int (Z.2.1.2.2.2.2 q)), (3, .int (nI k)), (0, .ref (ad 0)), (1, .int (nI n))]) hx hb d_Model_load_202 hl (by decide) rfl (fun ls hl => ?_)
                  refine lv_aload_n hx hb d_Model_load_204 rfl (lv_at hl 5 rfl) ?_
                  refine va_get (D := (dC, dI)) (ci := 4) (v := .ref (ad 6)) (C := R_Model) (T := F_Model) (N := 30) hx hb hts (fun q hq => List.mem_cons_of_mem _ (i_Model q hq)) hown hK hP 0 rfl rfl 8 (by decide) (hts _ (List.mem_cons_of_mem _ m_14_1)) (fun _ h9 => h9) rfl d_Model_load_205 ?_
                  refine lv_iload_n hx hb d_Model_load_208 rfl (lv_at hl 2 rfl) ?_
                  refine lv_iconst (v := 3) hx hb d_Model_load_209 (by decide) ?_
                  refine lv_iload_n hx hb d_Model_load_210 rfl (lv_at hl 4 rfl) ?_
                  refine lv_imul hx hb d_Model_load_211 ?_
                  refine lv_iload hx hb d_Model_load_212 (lv_at hl 1 rfl) ?_
                  refine lv_iadd hx hb d_Model_load_214 ?_
                  have hin : vp_in (nI o) 700 := by first | assumption | exact vp_in_nI (by omega) (by decide)
                  refine va_iast (f := Y.2.1.2.2.2.1) (n := 700) hx hb hK hP hD hS 6 0 rfl rfl hin d_Model_load_215 (fun H locs hP hD hS => ?_)
                  rw [nI_clamp (show o < 2 ^ 31 by omega)] at hP hD
                  have hP : va_P (dC, dI) classes (mr_W cA cZ ad ((Y.1.1, Y.1.2.1, Y.1.2.2.1, Y.1.2.2.2.1, Y.1.2.2.2.2), (Y.2.1.1, Y.2.1.2.1, Y.2.1.2.2.1, (upd Y.2.1.2.2.2.1 o ((3 * (nI k)) + (nI d))), Y.2.1.2.2.2.2), (Y.2.2.1.1, Y.2.2.1.2.1, Y.2.2.1.2.2.1, Y.2.2.1.2.2.2.1, Y.2.2.1.2.2.2.2), (Y.2.2.2.1.1, Y.2.2.2.1.2.1, Y.2.2.2.1.2.2.1, Y.2.2.2.1.2.2.2.1, Y.2.2.2.1.2.2.2.2), (Y.2.2.2.2.1.1, Y.2.2.2.2.1.2.1, Y.2.2.2.2.1.2.2.1, Y.2.2.2.2.1.2.2.2.1, Y.2.2.2.2.1.2.2.2.2), (Y.2.2.2.2.2.1, Y.2.2.2.2.2.2.1, Y.2.2.2.2.2.2.2.1, Y.2.2.2.2.2.2.2.2.1, Y.2.2.2.2.2.2.2.2.2))) H := hP
                  have hD : va_D A (mr_W cA cZ ad ((Y.1.1, Y.1.2.1, Y.1.2.2.1, Y.1.2.2.2.1, Y.1.2.2.2.2), (Y.2.1.1, Y.2.1.2.1, Y.2.1.2.2.1, (upd Y.2.1.2.2.2.1 o ((3 * (nI k)) + (nI d))), Y.2.1.2.2.2.2), (Y.2.2.1.1, Y.2.2.1.2.1, Y.2.2.1.2.2.1, Y.2.2.1.2.2.2.1, Y.2.2.1.2.2.2.2), (Y.2.2.2.1.1, Y.2.2.2.1.2.1, Y.2.2.2.1.2.2.1, Y.2.2.2.1.2.2.2.1, Y.2.2.2.1.2.2.2.2), (Y.2.2.2.2.1.1, Y.2.2.2.2.1.2.1, Y.2.2.2.2.1.2.2.1, Y.2.2.2.2.1.2.2.2.1, Y.2.2.2.2.1.2.2.2.2), (Y.2.2.2.2.2.1, Y.2.2.2.2.2.2.1, Y.2.2.2.2.2.2.2.1, Y.2.2.2.2.2.2.2.2.1, Y.2.2.2.2.2.2.2.2.2))) := hD
                  refine lv_aload_n hx hb d_Model_load_216 rfl (lv_at hl 5 rfl) ?_
                  refine va_get (D := (dC, dI)) (ci := 4) (v := .ref (ad 7)) (C := R_Model) (T := F_Model) (N := 30) hx hb hts (fun q hq => List.mem_cons_of_mem _ (i_Model q hq)) hown hK hP 0 rfl rfl 9 (by decide) (hts _ (List.mem_cons_of_mem _ m_14_2)) (fun _ h9 => h9) rfl d_Model_load_217 ?_
                  refine lv_iload_n hx hb d_Model_load_220 rfl (lv_at hl 2 rfl) ?_
                  refine lv_iload hx hb d_Model_load_221 (lv_at hl 3 rfl) ?_
                  refine lv_iload hx hb d_Model_load_223 (lv_at hl 0 rfl) ?_
                  refine lv_if_eq hx hb d_Model_load_225 rfl (fun h225 => by exact absurd h225 (by decide)) (fun h225 => ?_)
                  refine lv_iconst (v := 1) hx hb d_Model_load_228 (by decide) ?_
                  refine lv_goto hx hb d_Model_load_229 rfl ?_
                  refine lv_iadd hx hb d_Model_load_233 ?_
                  have hin : vp_in (nI o) 700 := by first | assumption | exact vp_in_nI (by omega) (by decide)
                  refine va_iast (f := Y.2.1.2.2.2.2) (n := 700) hx hb hK hP hD hS 7 0 rfl rfl hin d_Model_load_234 (fun H locs hP hD hS => ?_)
                  rw [nI_clamp (show o < 2 ^ 31 by omega)] at hP hD
                  have hP : va_P (dC, dI) classes (mr_W cA cZ ad ((Y.1.1, Y.1.2.1, Y.1.2.2.1, Y.1.2.2.2.1, Y.1.2.2.2.2), (Y.2.1.1, Y.2.1.2.1, Y.2.1.2.2.1, (upd Y.2.1.2.2.2.1 o ((3 * (nI k)) + (nI d))), (upd Y.2.1.2.2.2.2 o ((Z.2.1.2.2.2.2 q) + 1))), (Y.2.2.1.1, Y.2.2.1.2.1, Y.2.2.1.2.2.1, Y.2.2.1.2.2.2.1, Y.2.2.1.2.2.2.2), (Y.2.2.2.1.1, Y.2.2.2.1.2.1, Y.2.2.2.1.2.2.1, Y.2.2.2.1.2.2.2.1, Y.2.2.2.1.2.2.2.2), (Y.2.2.2.2.1.1, Y.2.2.2.2.1.2.1, Y.2.2.2.2.1.2.2.1, Y.2.2.2.2.1.2.2.2.1, Y.2.2.2.2.1.2.2.2.2), (Y.2.2.2.2.2.1, Y.2.2.2.2.2.2.1, Y.2.2.2.2.2.2.2.1, Y.2.2.2.2.2.2.2.2.1, Y.2.2.2.2.2.2.2.2.2))) H := hP
                  have hD : va_D A (mr_W cA cZ ad ((Y.1.1, Y.1.2.1, Y.1.2.2.1, Y.1.2.2.2.1, Y.1.2.2.2.2), (Y.2.1.1, Y.2.1.2.1, Y.2.1.2.2.1, (upd Y.2.1.2.2.2.1 o ((3 * (nI k)) + (nI d))), (upd Y.2.1.2.2.2.2 o ((Z.2.1.2.2.2.2 q) + 1))), (Y.2.2.1.1, Y.2.2.1.2.1, Y.2.2.1.2.2.1, Y.2.2.1.2.2.2.1, Y.2.2.1.2.2.2.2), (Y.2.2.2.1.1, Y.2.2.2.1.2.1, Y.2.2.2.1.2.2.1, Y.2.2.2.1.2.2.2.1, Y.2.2.2.1.2.2.2.2), (Y.2.2.2.2.1.1, Y.2.2.2.2.1.2.1, Y.2.2.2.2.1.2.2.1, Y.2.2.2.2.1.2.2.2.1, Y.2.2.2.2.1.2.2.2.2), (Y.2.2.2.2.2.1, Y.2.2.2.2.2.2.1, Y.2.2.2.2.2.2.2.1, Y.2.2.2.2.2.2.2.2.1, Y.2.2.2.2.2.2.2.2.2))) := hD
                  refine lv_iinc (k := 2) (v := (nI (o + 1))) (lv' := [(2, .int (nI (o + 1))), (7, .int 1), (6, .int (nI d)), (4, .int (Z.2.1.2.2.2.2 q)), (3, .int (nI k)), (0, .ref (ad 0)), (1, .int (nI n))]) hx hb d_Model_load_235 hl rfl ((nI_succ o).symm) (by decide) rfl (fun ls hl => ?_)
                  refine lv_iinc (k := 2) (v := (nI d - 1)) (lv' := [(6, .int (nI d - 1)), (2, .int (nI (o + 1))), (7, .int 1), (4, .int (Z.2.1.2.2.2.2 q)), (3, .int (nI k)), (0, .ref (ad 0)), (1, .int (nI n))]) hx hb d_Model_load_238 hl rfl ((Int32.sub_eq_add_neg (nI d) 1).symm) (by decide) rfl (fun ls hl => ?_)
                  refine lv_goto hx hb d_Model_load_241 rfl ?_
                  have hst : ((Y.1.1, Y.1.2.1, Y.1.2.2.1, Y.1.2.2.2.1, Y.1.2.2.2.2), (Y.2.1.1, Y.2.1.2.1, Y.2.1.2.2.1, (upd Y.2.1.2.2.2.1 o ((3 * (nI k)) + (nI d))), (upd Y.2.1.2.2.2.2 o ((Z.2.1.2.2.2.2 q) + 1))), (Y.2.2.1.1, Y.2.2.1.2.1, Y.2.2.1.2.2.1, Y.2.2.1.2.2.2.1, Y.2.2.1.2.2.2.2), (Y.2.2.2.1.1, Y.2.2.2.1.2.1, Y.2.2.2.1.2.2.1, Y.2.2.2.1.2.2.2.1, Y.2.2.2.1.2.2.2.2), (Y.2.2.2.2.1.1, Y.2.2.2.2.1.2.1, Y.2.2.2.2.1.2.2.1, Y.2.2.2.2.1.2.2.2.1, Y.2.2.2.2.1.2.2.2.2), (Y.2.2.2.2.2.1, Y.2.2.2.2.2.2.1, Y.2.2.2.2.2.2.2.1, Y.2.2.2.2.2.2.2.2.1, Y.2.2.2.2.2.2.2.2.2)) = s_ar (s_ow Y (upd (r_ow Y) o (3 * nI k + nI d))) (upd (r_ar Y) o ((Z.2.1.2.2.2.2 q) + tm_binds (r_so Y k) (nI d))) := by
                    unfold tm_binds; (first | rw [if_pos h166] | rw [if_neg h166]); rfl
                  rw [hst] at hP hD
                  exact ih2 d (o + 1) (s_ar (s_ow Y (upd (r_ow Y) o (3 * nI k + nI d))) (upd (r_ar Y) o ((Z.2.1.2.2.2.2 q) + tm_binds (r_so Y k) (nI d)))) _ _ _ (by omega) (by omega) (by omega) (by exact md_ows_in how (by omega) (by omega)) (by rw [hqi, md_inN]) (lv_sub hl [0, 1, 3, 4, 5, 6] rfl) hP hD hS
                · refine lv_aload_n hx hb d_Model_load_169 rfl (lv_at hl 4 rfl) ?_
                  refine va_get (D := (dC, dI)) (ci := 4) (v := .ref (ad 1)) (C := R_Model) (T := F_Model) (N := 30) hx hb hts (fun q hq => List.mem_cons_of_mem _ (i_Model q hq)) hown hK hP 0 rfl rfl 1 (by decide) (hts _ (List.mem_cons_of_mem _ m_13_18)) (fun _ h9 => h9) rfl d_Model_load_170 ?_
                  refine lv_iload_n hx hb d_Model_load_173 rfl (lv_at hl 3 rfl) ?_
                  have hin : vp_in (nI k) 200 := by first | assumption | exact vp_in_nI (by omega) (by decide)
                  refine va_iald (f := Y.1.1) (n := 200) hx hb hK hP 1 0 rfl rfl hin d_Model_load_174 ?_
                  rw [nI_clamp (show k < 2 ^ 31 by omega)]
                  refine lv_bipush (v := 9) hx hb d_Model_load_175 (by decide) ?_
                  refine lv_icmp_eq hx hb d_Model_load_177 rfl (fun h177 => ?_) (fun h177 => ?_)
                  · refine lv_iconst (v := 1) hx hb d_Model_load_197 (by decide) ?_
                    refine lv_goto hx hb d_Model_load_198 rfl ?_
                    refine lv_istore (lv' := [(7, .int 1), (6, .int (nI d)), (2, .int (nI o)), (4, .int (Z.2.1.2.2.2.2 q)), (3, .int (nI k)), (0, .ref (ad 0)), (1, .int (nI n))]) hx hb d_Model_load_202 hl (by decide) rfl (fun ls hl => ?_)
                    refine lv_aload_n hx hb d_Model_load_204 rfl (lv_at hl 5 rfl) ?_
                    refine va_get (D := (dC, dI)) (ci := 4) (v := .ref (ad 6)) (C := R_Model) (T := F_Model) (N := 30) hx hb hts (fun q hq => List.mem_cons_of_mem _ (i_Model q hq)) hown hK hP 0 rfl rfl 8 (by decide) (hts _ (List.mem_cons_of_mem _ m_14_1)) (fun _ h9 => h9) rfl d_Model_load_205 ?_
                    refine lv_iload_n hx hb d_Model_load_208 rfl (lv_at hl 2 rfl) ?_
                    refine lv_iconst (v := 3) hx hb d_Model_load_209 (by decide) ?_
                    refine lv_iload_n hx hb d_Model_load_210 rfl (lv_at hl 4 rfl) ?_
                    refine lv_imul hx hb d_Model_load_211 ?_
                    refine lv_iload hx hb d_Model_load_212 (lv_at hl 1 rfl) ?_
                    refine lv_iadd hx hb d_Model_load_214 ?_
                    have hin : vp_in (nI o) 700 := by first | assumption | exact vp_in_nI (by omega) (by decide)
                    refine va_iast (f := Y.2.1.2.2.2.1) (n := 700) hx hb hK hP hD hS 6 0 rfl rfl hin d_Model_load_215 (fun H locs hP hD hS => ?_)
                    rw [nI_clamp (show o < 2 ^ 31 by omega)] at hP hD
                    have hP : va_P (dC, dI) classes (mr_W cA cZ ad ((Y.1.1, Y.1.2.1, Y.1.2.2.1, Y.1.2.2.2.1, Y.1.2.2.2.2), (Y.2.1.1, Y.2.1.2.1, Y.2.1.2.2.1, (upd Y.2.1.2.2.2.1 o ((3 * (nI k)) + (nI d))), Y.2.1.2.2.2.2), (Y.2.2.1.1, Y.2.2.1.2.1, Y.2.2.1.2.2.1, Y.2.2.1.2.2.2.1, Y.2.2.1.2.2.2.2), (Y.2.2.2.1.1, Y.2.2.2.1.2.1, Y.2.2.2.1.2.2.1, Y.2.2.2.1.2.2.2.1, Y.2.2.2.1.2.2.2.2), (Y.2.2.2.2.1.1, Y.2.2.2.2.1.2.1, Y.2.2.2.2.1.2.2.1, Y.2.2.2.2.1.2.2.2.1, Y.2.2.2.2.1.2.2.2.2), (Y.2.2.2.2.2.1, Y.2.2.2.2.2.2.1, Y.2.2.2.2.2.2.2.1, Y.2.2.2.2.2.2.2.2.1, Y.2.2.2.2.2.2.2.2.2))) H := hP
                    have hD : va_D A (mr_W cA cZ ad ((Y.1.1, Y.1.2.1, Y.1.2.2.1, Y.1.2.2.2.1, Y.1.2.2.2.2), (Y.2.1.1, Y.2.1.2.1, Y.2.1.2.2.1, (upd Y.2.1.2.2.2.1 o ((3 * (nI k)) + (nI d))), Y.2.1.2.2.2.2), (Y.2.2.1.1, Y.2.2.1.2.1, Y.2.2.1.2.2.1, Y.2.2.1.2.2.2.1, Y.2.2.1.2.2.2.2), (Y.2.2.2.1.1, Y.2.2.2.1.2.1, Y.2.2.2.1.2.2.1, Y.2.2.2.1.2.2.2.1, Y.2.2.2.1.2.2.2.2), (Y.2.2.2.2.1.1, Y.2.2.2.2.1.2.1, Y.2.2.2.2.1.2.2.1, Y.2.2.2.2.1.2.2.2.1, Y.2.2.2.2.1.2.2.2.2), (Y.2.2.2.2.2.1, Y.2.2.2.2.2.2.1, Y.2.2.2.2.2.2.2.1, Y.2.2.2.2.2.2.2.2.1, Y.2.2.2.2.2.2.2.2.2))) := hD
                    refine lv_aload_n hx hb d_Model_load_216 rfl (lv_at hl 5 rfl) ?_
                    refine va_get (D := (dC, dI)) (ci := 4) (v := .ref (ad 7)) (C := R_Model) (T := F_Model) (N := 30) hx hb hts (fun q hq => List.mem_cons_of_mem _ (i_Model q hq)) hown hK hP 0 rfl rfl 9 (by decide) (hts _ (List.mem_cons_of_mem _ m_14_2)) (fun _ h9 => h9) rfl d_Model_load_217 ?_
                    refine lv_iload_n hx hb d_Model_load_220 rfl (lv_at hl 2 rfl) ?_
                    refine lv_iload hx hb d_Model_load_221 (lv_at hl 3 rfl) ?_
                    refine lv_iload hx hb d_Model_load_223 (lv_at hl 0 rfl) ?_
                    refine lv_if_eq hx hb d_Model_load_225 rfl (fun h225 => by exact absurd h225 (by decide)) (fun h225 => ?_)
                    refine lv_iconst (v := 1) hx hb d_Model_load_228 (by decide) ?_
                    refine lv_goto hx hb d_Model_load_229 rfl ?_
                    refine lv_iadd hx hb d_Model_load_233 ?_
                    have hin : vp_in (nI o) 700 := by first | assumption | exact vp_in_nI (by omega) (by decide)
                    refine va_iast (f := Y.2.1.2.2.2.2) (n := 700) hx hb hK hP hD hS 7 0 rfl rfl hin d_Model_load_234 (fun H locs hP hD hS => ?_)
                    rw [nI_clamp (show o < 2 ^ 31 by omega)] at hP hD
                    have hP : va_P (dC, dI) classes (mr_W cA cZ ad ((Y.1.1, Y.1.2.1, Y.1.2.2.1, Y.1.2.2.2.1, Y.1.2.2.2.2), (Y.2.1.1, Y.2.1.2.1, Y.2.1.2.2.1, (upd Y.2.1.2.2.2.1 o ((3 * (nI k)) + (nI d))), (upd Y.2.1.2.2.2.2 o ((Z.2.1.2.2.2.2 q) + 1))), (Y.2.2.1.1, Y.2.2.1.2.1, Y.2.2.1.2.2.1, Y.2.2.1.2.2.2.1, Y.2.2.1.2.2.2.2), (Y.2.2.2.1.1, Y.2.2.2.1.2.1, Y.2.2.2.1.2.2.1, Y.2.2.2.1.2.2.2.1, Y.2.2.2.1.2.2.2.2), (Y.2.2.2.2.1.1, Y.2.2.2.2.1.2.1, Y.2.2.2.2.1.2.2.1, Y.2.2.2.2.1.2.2.2.1, Y.2.2.2.2.1.2.2.2.2), (Y.2.2.2.2.2.1, Y.2.2.2.2.2.2.1, Y.2.2.2.2.2.2.2.1, Y.2.2.2.2.2.2.2.2.1, Y.2.2.2.2.2.2.2.2.2))) H := hP
                    have hD : va_D A (mr_W cA cZ ad ((Y.1.1, Y.1.2.1, Y.1.2.2.1, Y.1.2.2.2.1, Y.1.2.2.2.2), (Y.2.1.1, Y.2.1.2.1, Y.2.1.2.2.1, (upd Y.2.1.2.2.2.1 o ((3 * (nI k)) + (nI d))), (upd Y.2.1.2.2.2.2 o ((Z.2.1.2.2.2.2 q) + 1))), (Y.2.2.1.1, Y.2.2.1.2.1, Y.2.2.1.2.2.1, Y.2.2.1.2.2.2.1, Y.2.2.1.2.2.2.2), (Y.2.2.2.1.1, Y.2.2.2.1.2.1, Y.2.2.2.1.2.2.1, Y.2.2.2.1.2.2.2.1, Y.2.2.2.1.2.2.2.2), (Y.2.2.2.2.1.1, Y.2.2.2.2.1.2.1, Y.2.2.2.2.1.2.2.1, Y.2.2.2.2.1.2.2.2.1, Y.2.2.2.2.1.2.2.2.2), (Y.2.2.2.2.2.1, Y.2.2.2.2.2.2.1, Y.2.2.2.2.2.2.2.1, Y.2.2.2.2.2.2.2.2.1, Y.2.2.2.2.2.2.2.2.2))) := hD
                    refine lv_iinc (k := 2) (v := (nI (o + 1))) (lv' := [(2, .int (nI (o + 1))), (7, .int 1), (6, .int (nI d)), (4, .int (Z.2.1.2.2.2.2 q)), (3, .int (nI k)), (0, .ref (ad 0)), (1, .int (nI n))]) hx hb d_Model_load_235 hl rfl ((nI_succ o).symm) (by decide) rfl (fun ls hl => ?_)
                    refine lv_iinc (k := 2) (v := (nI d - 1)) (lv' := [(6, .int (nI d - 1)), (2, .int (nI (o + 1))), (7, .int 1), (4, .int (Z.2.1.2.2.2.2 q)), (3, .int (nI k)), (0, .ref (ad 0)), (1, .int (nI n))]) hx hb d_Model_load_238 hl rfl ((Int32.sub_eq_add_neg (nI d) 1).symm) (by decide) rfl (fun ls hl => ?_)
                    refine lv_goto hx hb d_Model_load_241 rfl ?_
                    have hst : ((Y.1.1, Y.1.2.1, Y.1.2.2.1, Y.1.2.2.2.1, Y.1.2.2.2.2), (Y.2.1.1, Y.2.1.2.1, Y.2.1.2.2.1, (upd Y.2.1.2.2.2.1 o ((3 * (nI k)) + (nI d))), (upd Y.2.1.2.2.2.2 o ((Z.2.1.2.2.2.2 q) + 1))), (Y.2.2.1.1, Y.2.2.1.2.1, Y.2.2.1.2.2.1, Y.2.2.1.2.2.2.1, Y.2.2.1.2.2.2.2), (Y.2.2.2.1.1, Y.2.2.2.1.2.1, Y.2.2.2.1.2.2.1, Y.2.2.2.1.2.2.2.1, Y.2.2.2.1.2.2.2.2), (Y.2.2.2.2.1.1, Y.2.2.2.2.1.2.1, Y.2.2.2.2.1.2.2.1, Y.2.2.2.2.1.2.2.2.1, Y.2.2.2.2.1.2.2.2.2), (Y.2.2.2.2.2.1, Y.2.2.2.2.2.2.1, Y.2.2.2.2.2.2.2.1, Y.2.2.2.2.2.2.2.2.1, Y.2.2.2.2.2.2.2.2.2)) = s_ar (s_ow Y (upd (r_ow Y) o (3 * nI k + nI d))) (upd (r_ar Y) o ((Z.2.1.2.2.2.2 q) + tm_binds (r_so Y k) (nI d))) := by
                      unfold tm_binds; (first | rw [if_pos h166] | rw [if_neg h166]); (first | rw [if_pos h177] | rw [if_neg h177]); rfl
                    rw [hst] at hP hD
                    exact ih2 d (o + 1) (s_ar (s_ow Y (upd (r_ow Y) o (3 * nI k + nI d))) (upd (r_ar Y) o ((Z.2.1.2.2.2.2 q) + tm_binds (r_so Y k) (nI d)))) _ _ _ (by omega) (by omega) (by omega) (by exact md_ows_in how (by omega) (by omega)) (by rw [hqi, md_inN]) (lv_sub hl [0, 1, 3, 4, 5, 6] rfl) hP hD hS
                  · refine lv_aload_n hx hb d_Model_load_180 rfl (lv_at hl 4 rfl) ?_
                    refine va_get (D := (dC, dI)) (ci := 4) (v := .ref (ad 1)) (C := R_Model) (T := F_Model) (N := 30) hx hb hts (fun q hq => List.mem_cons_of_mem _ (i_Model q hq)) hown hK hP 0 rfl rfl 1 (by decide) (hts _ (List.mem_cons_of_mem _ m_13_18)) (fun _ h9 => h9) rfl d_Model_load_181 ?_
                    refine lv_iload_n hx hb d_Model_load_184 rfl (lv_at hl 3 rfl) ?_
                    have hin : vp_in (nI k) 200 := by first | assumption | exact vp_in_nI (by omega) (by decide)
                    refine va_iald (f := Y.1.1) (n := 200) hx hb hK hP 1 0 rfl rfl hin d_Model_load_185 ?_
                    rw [nI_clamp (show k < 2 ^ 31 by omega)]
                    refine lv_bipush (v := 10) hx hb d_Model_load_186 (by decide) ?_
                    refine lv_icmp_ne hx hb d_Model_load_188 rfl (fun h188 => ?_) (fun h188 => ?_)
                    · refine lv_iconst (v := 0) hx hb d_Model_load_201 (by decide) ?_
                      refine lv_istore (lv' := [(7, .int 0), (6, .int (nI d)), (2, .int (nI o)), (4, .int (Z.2.1.2.2.2.2 q)), (3, .int (nI k)), (0, .ref (ad 0)), (1, .int (nI n))]) hx hb d_Model_load_202 hl (by decide) rfl (fun ls hl => ?_)
                      refine lv_aload_n hx hb d_Model_load_204 rfl (lv_at hl 5 rfl) ?_
                      refine va_get (D := (dC, dI)) (ci := 4) (v := .ref (ad 6)) (C := R_Model) (T := F_Model) (N := 30) hx hb hts (fun q hq => List.mem_cons_of_mem _ (i_Model q hq)) hown hK hP 0 rfl rfl 8 (by decide) (hts _ (List.mem_cons_of_mem _ m_14_1)) (fun _ h9 => h9) rfl d_Model_load_205 ?_
                      refine lv_iload_n hx hb d_Model_load_208 rfl (lv_at hl 2 rfl) ?_
                      refine lv_iconst (v := 3) hx hb d_Model_load_209 (by decide) ?_
                      refine lv_iload_n hx hb d_Model_load_210 rfl (lv_at hl 4 rfl) ?_
                      refine lv_imul hx hb d_Model_load_211 ?_
                      refine lv_iload hx hb d_Model_load_212 (lv_at hl 1 rfl) ?_
                      refine lv_iadd hx hb d_Model_load_214 ?_
                      have hin : vp_in (nI o) 700 := by first | assumption | exact vp_in_nI (by omega) (by decide)
                      refine va_iast (f := Y.2.1.2.2.2.1) (n := 700) hx hb hK hP hD hS 6 0 rfl rfl hin d_Model_load_215 (fun H locs hP hD hS => ?_)
                      rw [nI_clamp (show o < 2 ^ 31 by omega)] at hP hD
                      have hP : va_P (dC, dI) classes (mr_W cA cZ ad ((Y.1.1, Y.1.2.1, Y.1.2.2.1, Y.1.2.2.2.1, Y.1.2.2.2.2), (Y.2.1.1, Y.2.1.2.1, Y.2.1.2.2.1, (upd Y.2.1.2.2.2.1 o ((3 * (nI k)) + (nI d))), Y.2.1.2.2.2.2), (Y.2.2.1.1, Y.2.2.1.2.1, Y.2.2.1.2.2.1, Y.2.2.1.2.2.2.1, Y.2.2.1.2.2.2.2), (Y.2.2.2.1.1, Y.2.2.2.1.2.1, Y.2.2.2.1.2.2.1, Y.2.2.2.1.2.2.2.1, Y.2.2.2.1.2.2.2.2), (Y.2.2.2.2.1.1, Y.2.2.2.2.1.2.1, Y.2.2.2.2.1.2.2.1, Y.2.2.2.2.1.2.2.2.1, Y.2.2.2.2.1.2.2.2.2), (Y.2.2.2.2.2.1, Y.2.2.2.2.2.2.1, Y.2.2.2.2.2.2.2.1, Y.2.2.2.2.2.2.2.2.1, Y.2.2.2.2.2.2.2.2.2))) H := hP
                      have hD : va_D A (mr_W cA cZ ad ((Y.1.1, Y.1.2.1, Y.1.2.2.1, Y.1.2.2.2.1, Y.1.2.2.2.2), (Y.2.1.1, Y.2.1.2.1, Y.2.1.2.2.1, (upd Y.2.1.2.2.2.1 o ((3 * (nI k)) + (nI d))), Y.2.1.2.2.2.2), (Y.2.2.1.1, Y.2.2.1.2.1, Y.2.2.1.2.2.1, Y.2.2.1.2.2.2.1, Y.2.2.1.2.2.2.2), (Y.2.2.2.1.1, Y.2.2.2.1.2.1, Y.2.2.2.1.2.2.1, Y.2.2.2.1.2.2.2.1, Y.2.2.2.1.2.2.2.2), (Y.2.2.2.2.1.1, Y.2.2.2.2.1.2.1, Y.2.2.2.2.1.2.2.1, Y.2.2.2.2.1.2.2.2.1, Y.2.2.2.2.1.2.2.2.2), (Y.2.2.2.2.2.1, Y.2.2.2.2.2.2.1, Y.2.2.2.2.2.2.2.1, Y.2.2.2.2.2.2.2.2.1, Y.2.2.2.2.2.2.2.2.2))) := hD
                      refine lv_aload_n hx hb d_Model_load_216 rfl (lv_at hl 5 rfl) ?_
                      refine va_get (D := (dC, dI)) (ci := 4) (v := .ref (ad 7)) (C := R_Model) (T := F_Model) (N := 30) hx hb hts (fun q hq => List.mem_cons_of_mem _ (i_Model q hq)) hown hK hP 0 rfl rfl 9 (by decide) (hts _ (List.mem_cons_of_mem _ m_14_2)) (fun _ h9 => h9) rfl d_Model_load_217 ?_
                      refine lv_iload_n hx hb d_Model_load_220 rfl (lv_at hl 2 rfl) ?_
                      refine lv_iload hx hb d_Model_load_221 (lv_at hl 3 rfl) ?_
                      refine lv_iload hx hb d_Model_load_223 (lv_at hl 0 rfl) ?_
                      refine lv_if_eq hx hb d_Model_load_225 rfl (fun h225 => ?_) (fun h225 => by exact absurd h225 (by decide))
                      refine lv_iconst (v := 0) hx hb d_Model_load_232 (by decide) ?_
                      refine lv_iadd hx hb d_Model_load_233 ?_
                      have hin : vp_in (nI o) 700 := by first | assumption | exact vp_in_nI (by omega) (by decide)
                      refine va_iast (f := Y.2.1.2.2.2.2) (n := 700) hx hb hK hP hD hS 7 0 rfl rfl hin d_Model_load_234 (fun H locs hP hD hS => ?_)
                      rw [nI_clamp (show o < 2 ^ 31 by omega)] at hP hD
                      have hP : va_P (dC, dI) classes (mr_W cA cZ ad ((Y.1.1, Y.1.2.1, Y.1.2.2.1, Y.1.2.2.2.1, Y.1.2.2.2.2), (Y.2.1.1, Y.2.1.2.1, Y.2.1.2.2.1, (upd Y.2.1.2.2.2.1 o ((3 * (nI k)) + (nI d))), (upd Y.2.1.2.2.2.2 o ((Z.2.1.2.2.2.2 q) + 0))), (Y.2.2.1.1, Y.2.2.1.2.1, Y.2.2.1.2.2.1, Y.2.2.1.2.2.2.1, Y.2.2.1.2.2.2.2), (Y.2.2.2.1.1, Y.2.2.2.1.2.1, Y.2.2.2.1.2.2.1, Y.2.2.2.1.2.2.2.1, Y.2.2.2.1.2.2.2.2), (Y.2.2.2.2.1.1, Y.2.2.2.2.1.2.1, Y.2.2.2.2.1.2.2.1, Y.2.2.2.2.1.2.2.2.1, Y.2.2.2.2.1.2.2.2.2), (Y.2.2.2.2.2.1, Y.2.2.2.2.2.2.1, Y.2.2.2.2.2.2.2.1, Y.2.2.2.2.2.2.2.2.1, Y.2.2.2.2.2.2.2.2.2))) H := hP
                      have hD : va_D A (mr_W cA cZ ad ((Y.1.1, Y.1.2.1, Y.1.2.2.1, Y.1.2.2.2.1, Y.1.2.2.2.2), (Y.2.1.1, Y.2.1.2.1, Y.2.1.2.2.1, (upd Y.2.1.2.2.2.1 o ((3 * (nI k)) + (nI d))), (upd Y.2.1.2.2.2.2 o ((Z.2.1.2.2.2.2 q) + 0))), (Y.2.2.1.1, Y.2.2.1.2.1, Y.2.2.1.2.2.1, Y.2.2.1.2.2.2.1, Y.2.2.1.2.2.2.2), (Y.2.2.2.1.1, Y.2.2.2.1.2.1, Y.2.2.2.1.2.2.1, Y.2.2.2.1.2.2.2.1, Y.2.2.2.1.2.2.2.2), (Y.2.2.2.2.1.1, Y.2.2.2.2.1.2.1, Y.2.2.2.2.1.2.2.1, Y.2.2.2.2.1.2.2.2.1, Y.2.2.2.2.1.2.2.2.2), (Y.2.2.2.2.2.1, Y.2.2.2.2.2.2.1, Y.2.2.2.2.2.2.2.1, Y.2.2.2.2.2.2.2.2.1, Y.2.2.2.2.2.2.2.2.2))) := hD
                      refine lv_iinc (k := 2) (v := (nI (o + 1))) (lv' := [(2, .int (nI (o + 1))), (7, .int 0), (6, .int (nI d)), (4, .int (Z.2.1.2.2.2.2 q)), (3, .int (nI k)), (0, .ref (ad 0)), (1, .int (nI n))]) hx hb d_Model_load_235 hl rfl ((nI_succ o).symm) (by decide) rfl (fun ls hl => ?_)
                      refine lv_iinc (k := 2) (v := (nI d - 1)) (lv' := [(6, .int (nI d - 1)), (2, .int (nI (o + 1))), (7, .int 0), (4, .int (Z.2.1.2.2.2.2 q)), (3, .int (nI k)), (0, .ref (ad 0)), (1, .int (nI n))]) hx hb d_Model_load_238 hl rfl ((Int32.sub_eq_add_neg (nI d) 1).symm) (by decide) rfl (fun ls hl => ?_)
                      refine lv_goto hx hb d_Model_load_241 rfl ?_
                      have hst : ((Y.1.1, Y.1.2.1, Y.1.2.2.1, Y.1.2.2.2.1, Y.1.2.2.2.2), (Y.2.1.1, Y.2.1.2.1, Y.2.1.2.2.1, (upd Y.2.1.2.2.2.1 o ((3 * (nI k)) + (nI d))), (upd Y.2.1.2.2.2.2 o ((Z.2.1.2.2.2.2 q) + 0))), (Y.2.2.1.1, Y.2.2.1.2.1, Y.2.2.1.2.2.1, Y.2.2.1.2.2.2.1, Y.2.2.1.2.2.2.2), (Y.2.2.2.1.1, Y.2.2.2.1.2.1, Y.2.2.2.1.2.2.1, Y.2.2.2.1.2.2.2.1, Y.2.2.2.1.2.2.2.2), (Y.2.2.2.2.1.1, Y.2.2.2.2.1.2.1, Y.2.2.2.2.1.2.2.1, Y.2.2.2.2.1.2.2.2.1, Y.2.2.2.2.1.2.2.2.2), (Y.2.2.2.2.2.1, Y.2.2.2.2.2.2.1, Y.2.2.2.2.2.2.2.1, Y.2.2.2.2.2.2.2.2.1, Y.2.2.2.2.2.2.2.2.2)) = s_ar (s_ow Y (upd (r_ow Y) o (3 * nI k + nI d))) (upd (r_ar Y) o ((Z.2.1.2.2.2.2 q) + tm_binds (r_so Y k) (nI d))) := by
                        unfold tm_binds; (first | rw [if_pos h166] | rw [if_neg h166]); (first | rw [if_pos h177] | rw [if_neg h177]); (first | rw [if_pos h188] | rw [if_neg h188]); rfl
                      rw [hst] at hP hD
                      exact ih2 d (o + 1) (s_ar (s_ow Y (upd (r_ow Y) o (3 * nI k + nI d))) (upd (r_ar Y) o ((Z.2.1.2.2.2.2 q) + tm_binds (r_so Y k) (nI d)))) _ _ _ (by omega) (by omega) (by omega) (by exact md_ows_in how (by omega) (by omega)) (by rw [hqi, md_inN]) (lv_sub hl [0, 1, 3, 4, 5, 6] rfl) hP hD hS
                    · refine lv_iload hx hb d_Model_load_191 (lv_at hl 0 rfl) ?_
                      refine lv_iconst (v := 1) hx hb d_Model_load_193 (by decide) ?_
                      refine lv_icmp_ne hx hb d_Model_load_194 rfl (fun h194 => ?_) (fun h194 => ?_)
                      · refine lv_iconst (v := 0) hx hb d_Model_load_201 (by decide) ?_
                        refine lv_istore (lv' := [(7, .int 0), (6, .int (nI d)), (2, .int (nI o)), (4, .int (Z.2.1.2.2.2.2 q)), (3, .int (nI k)), (0, .ref (ad 0)), (1, .int (nI n))]) hx hb d_Model_load_202 hl (by decide) rfl (fun ls hl => ?_)
                        refine lv_aload_n hx hb d_Model_load_204 rfl (lv_at hl 5 rfl) ?_
                        refine va_get (D := (dC, dI)) (ci := 4) (v := .ref (ad 6)) (C := R_Model) (T := F_Model) (N := 30) hx hb hts (fun q hq => List.mem_cons_of_mem _ (i_Model q hq)) hown hK hP 0 rfl rfl 8 (by decide) (hts _ (List.mem_cons_of_mem _ m_14_1)) (fun _ h9 => h9) rfl d_Model_load_205 ?_
                        refine lv_iload_n hx hb d_Model_load_208 rfl (lv_at hl 2 rfl) ?_
                        refine lv_iconst (v := 3) hx hb d_Model_load_209 (by decide) ?_
                        refine lv_iload_n hx hb d_Model_load_210 rfl (lv_at hl 4 rfl) ?_
                        refine lv_imul hx hb d_Model_load_211 ?_
                        refine lv_iload hx hb d_Model_load_212 (lv_at hl 1 rfl) ?_
                        refine lv_iadd hx hb d_Model_load_214 ?_
                        have hin : vp_in (nI o) 700 := by first | assumption | exact vp_in_nI (by omega) (by decide)
                        refine va_iast (f := Y.2.1.2.2.2.1) (n := 700) hx hb hK hP hD hS 6 0 rfl rfl hin d_Model_load_215 (fun H locs hP hD hS => ?_)
                        rw [nI_clamp (show o < 2 ^ 31 by omega)] at hP hD
                        have hP : va_P (dC, dI) classes (mr_W cA cZ ad ((Y.1.1, Y.1.2.1, Y.1.2.2.1, Y.1.2.2.2.1, Y.1.2.2.2.2), (Y.2.1.1, Y.2.1.2.1, Y.2.1.2.2.1, (upd Y.2.1.2.2.2.1 o ((3 * (nI k)) + (nI d))), Y.2.1.2.2.2.2), (Y.2.2.1.1, Y.2.2.1.2.1, Y.2.2.1.2.2.1, Y.2.2.1.2.2.2.1, Y.2.2.1.2.2.2.2), (Y.2.2.2.1.1, Y.2.2.2.1.2.1, Y.2.2.2.1.2.2.1, Y.2.2.2.1.2.2.2.1, Y.2.2.2.1.2.2.2.2), (Y.2.2.2.2.1.1, Y.2.2.2.2.1.2.1, Y.2.2.2.2.1.2.2.1, Y.2.2.2.2.1.2.2.2.1, Y.2.2.2.2.1.2.2.2.2), (Y.2.2.2.2.2.1, Y.2.2.2.2.2.2.1, Y.2.2.2.2.2.2.2.1, Y.2.2.2.2.2.2.2.2.1, Y.2.2.2.2.2.2.2.2.2))) H := hP
                        have hD : va_D A (mr_W cA cZ ad ((Y.1.1, Y.1.2.1, Y.1.2.2.1, Y.1.2.2.2.1, Y.1.2.2.2.2), (Y.2.1.1, Y.2.1.2.1, Y.2.1.2.2.1, (upd Y.2.1.2.2.2.1 o ((3 * (nI k)) + (nI d))), Y.2.1.2.2.2.2), (Y.2.2.1.1, Y.2.2.1.2.1, Y.2.2.1.2.2.1, Y.2.2.1.2.2.2.1, Y.2.2.1.2.2.2.2), (Y.2.2.2.1.1, Y.2.2.2.1.2.1, Y.2.2.2.1.2.2.1, Y.2.2.2.1.2.2.2.1, Y.2.2.2.1.2.2.2.2), (Y.2.2.2.2.1.1, Y.2.2.2.2.1.2.1, Y.2.2.2.2.1.2.2.1, Y.2.2.2.2.1.2.2.2.1, Y.2.2.2.2.1.2.2.2.2), (Y.2.2.2.2.2.1, Y.2.2.2.2.2.2.1, Y.2.2.2.2.2.2.2.1, Y.2.2.2.2.2.2.2.2.1, Y.2.2.2.2.2.2.2.2.2))) := hD
                        refine lv_aload_n hx hb d_Model_load_216 rfl (lv_at hl 5 rfl) ?_
                        refine va_get (D := (dC, dI)) (ci := 4) (v := .ref (ad 7)) (C := R_Model) (T := F_Model) (N := 30) hx hb hts (fun q hq => List.mem_cons_of_mem _ (i_Model q hq)) hown hK hP 0 rfl rfl 9 (by decide) (hts _ (List.mem_cons_of_mem _ m_14_2)) (fun _ h9 => h9) rfl d_Model_load_217 ?_
                        refine lv_iload_n hx hb d_Model_load_220 rfl (lv_at hl 2 rfl) ?_
                        refine lv_iload hx hb d_Model_load_221 (lv_at hl 3 rfl) ?_
                        refine lv_iload hx hb d_Model_load_223 (lv_at hl 0 rfl) ?_
                        refine lv_if_eq hx hb d_Model_load_225 rfl (fun h225 => ?_) (fun h225 => by exact absurd h225 (by decide))
                        refine lv_iconst (v := 0) hx hb d_Model_load_232 (by decide) ?_
                        refine lv_iadd hx hb d_Model_load_233 ?_
                        have hin : vp_in (nI o) 700 := by first | assumption | exact vp_in_nI (by omega) (by decide)
                        refine va_iast (f := Y.2.1.2.2.2.2) (n := 700) hx hb hK hP hD hS 7 0 rfl rfl hin d_Model_load_234 (fun H locs hP hD hS => ?_)
                        rw [nI_clamp (show o < 2 ^ 31 by omega)] at hP hD
                        have hP : va_P (dC, dI) classes (mr_W cA cZ ad ((Y.1.1, Y.1.2.1, Y.1.2.2.1, Y.1.2.2.2.1, Y.1.2.2.2.2), (Y.2.1.1, Y.2.1.2.1, Y.2.1.2.2.1, (upd Y.2.1.2.2.2.1 o ((3 * (nI k)) + (nI d))), (upd Y.2.1.2.2.2.2 o ((Z.2.1.2.2.2.2 q) + 0))), (Y.2.2.1.1, Y.2.2.1.2.1, Y.2.2.1.2.2.1, Y.2.2.1.2.2.2.1, Y.2.2.1.2.2.2.2), (Y.2.2.2.1.1, Y.2.2.2.1.2.1, Y.2.2.2.1.2.2.1, Y.2.2.2.1.2.2.2.1, Y.2.2.2.1.2.2.2.2), (Y.2.2.2.2.1.1, Y.2.2.2.2.1.2.1, Y.2.2.2.2.1.2.2.1, Y.2.2.2.2.1.2.2.2.1, Y.2.2.2.2.1.2.2.2.2), (Y.2.2.2.2.2.1, Y.2.2.2.2.2.2.1, Y.2.2.2.2.2.2.2.1, Y.2.2.2.2.2.2.2.2.1, Y.2.2.2.2.2.2.2.2.2))) H := hP
                        have hD : va_D A (mr_W cA cZ ad ((Y.1.1, Y.1.2.1, Y.1.2.2.1, Y.1.2.2.2.1, Y.1.2.2.2.2), (Y.2.1.1, Y.2.1.2.1, Y.2.1.2.2.1, (upd Y.2.1.2.2.2.1 o ((3 * (nI k)) + (nI d))), (upd Y.2.1.2.2.2.2 o ((Z.2.1.2.2.2.2 q) + 0))), (Y.2.2.1.1, Y.2.2.1.2.1, Y.2.2.1.2.2.1, Y.2.2.1.2.2.2.1, Y.2.2.1.2.2.2.2), (Y.2.2.2.1.1, Y.2.2.2.1.2.1, Y.2.2.2.1.2.2.1, Y.2.2.2.1.2.2.2.1, Y.2.2.2.1.2.2.2.2), (Y.2.2.2.2.1.1, Y.2.2.2.2.1.2.1, Y.2.2.2.2.1.2.2.1, Y.2.2.2.2.1.2.2.2.1, Y.2.2.2.2.1.2.2.2.2), (Y.2.2.2.2.2.1, Y.2.2.2.2.2.2.1, Y.2.2.2.2.2.2.2.1, Y.2.2.2.2.2.2.2.2.1, Y.2.2.2.2.2.2.2.2.2))) := hD
                        refine lv_iinc (k := 2) (v := (nI (o + 1))) (lv' := [(2, .int (nI (o + 1))), (7, .int 0), (6, .int (nI d)), (4, .int (Z.2.1.2.2.2.2 q)), (3, .int (nI k)), (0, .ref (ad 0)), (1, .int (nI n))]) hx hb d_Model_load_235 hl rfl ((nI_succ o).symm) (by decide) rfl (fun ls hl => ?_)
                        refine lv_iinc (k := 2) (v := (nI d - 1)) (lv' := [(6, .int (nI d - 1)), (2, .int (nI (o + 1))), (7, .int 0), (4, .int (Z.2.1.2.2.2.2 q)), (3, .int (nI k)), (0, .ref (ad 0)), (1, .int (nI n))]) hx hb d_Model_load_238 hl rfl ((Int32.sub_eq_add_neg (nI d) 1).symm) (by decide) rfl (fun ls hl => ?_)
                        refine lv_goto hx hb d_Model_load_241 rfl ?_
                        have hst : ((Y.1.1, Y.1.2.1, Y.1.2.2.1, Y.1.2.2.2.1, Y.1.2.2.2.2), (Y.2.1.1, Y.2.1.2.1, Y.2.1.2.2.1, (upd Y.2.1.2.2.2.1 o ((3 * (nI k)) + (nI d))), (upd Y.2.1.2.2.2.2 o ((Z.2.1.2.2.2.2 q) + 0))), (Y.2.2.1.1, Y.2.2.1.2.1, Y.2.2.1.2.2.1, Y.2.2.1.2.2.2.1, Y.2.2.1.2.2.2.2), (Y.2.2.2.1.1, Y.2.2.2.1.2.1, Y.2.2.2.1.2.2.1, Y.2.2.2.1.2.2.2.1, Y.2.2.2.1.2.2.2.2), (Y.2.2.2.2.1.1, Y.2.2.2.2.1.2.1, Y.2.2.2.2.1.2.2.1, Y.2.2.2.2.1.2.2.2.1, Y.2.2.2.2.1.2.2.2.2), (Y.2.2.2.2.2.1, Y.2.2.2.2.2.2.1, Y.2.2.2.2.2.2.2.1, Y.2.2.2.2.2.2.2.2.1, Y.2.2.2.2.2.2.2.2.2)) = s_ar (s_ow Y (upd (r_ow Y) o (3 * nI k + nI d))) (upd (r_ar Y) o ((Z.2.1.2.2.2.2 q) + tm_binds (r_so Y k) (nI d))) := by
                          unfold tm_binds; (first | rw [if_pos h166] | rw [if_neg h166]); (first | rw [if_pos h177] | rw [if_neg h177]); (first | rw [if_pos h188] | rw [if_neg h188]); (first | rw [if_pos h194] | rw [if_neg h194]); rfl
                        rw [hst] at hP hD
                        exact ih2 d (o + 1) (s_ar (s_ow Y (upd (r_ow Y) o (3 * nI k + nI d))) (upd (r_ar Y) o ((Z.2.1.2.2.2.2 q) + tm_binds (r_so Y k) (nI d)))) _ _ _ (by omega) (by omega) (by omega) (by exact md_ows_in how (by omega) (by omega)) (by rw [hqi, md_inN]) (lv_sub hl [0, 1, 3, 4, 5, 6] rfl) hP hD hS
                      · refine lv_iconst (v := 1) hx hb d_Model_load_197 (by decide) ?_
                        refine lv_goto hx hb d_Model_load_198 rfl ?_
                        refine lv_istore (lv' := [(7, .int 1), (6, .int (nI d)), (2, .int (nI o)), (4, .int (Z.2.1.2.2.2.2 q)), (3, .int (nI k)), (0, .ref (ad 0)), (1, .int (nI n))]) hx hb d_Model_load_202 hl (by decide) rfl (fun ls hl => ?_)
                        refine lv_aload_n hx hb d_Model_load_204 rfl (lv_at hl 5 rfl) ?_
                        refine va_get (D := (dC, dI)) (ci := 4) (v := .ref (ad 6)) (C := R_Model) (T := F_Model) (N := 30) hx hb hts (fun q hq => List.mem_cons_of_mem _ (i_Model q hq)) hown hK hP 0 rfl rfl 8 (by decide) (hts _ (List.mem_cons_of_mem _ m_14_1)) (fun _ h9 => h9) rfl d_Model_load_205 ?_
                        refine lv_iload_n hx hb d_Model_load_208 rfl (lv_at hl 2 rfl) ?_
                        refine lv_iconst (v := 3) hx hb d_Model_load_209 (by decide) ?_
                        refine lv_iload_n hx hb d_Model_load_210 rfl (lv_at hl 4 rfl) ?_
                        refine lv_imul hx hb d_Model_load_211 ?_
                        refine lv_iload hx hb d_Model_load_212 (lv_at hl 1 rfl) ?_
                        refine lv_iadd hx hb d_Model_load_214 ?_
                        have hin : vp_in (nI o) 700 := by first | assumption | exact vp_in_nI (by omega) (by decide)
                        refine va_iast (f := Y.2.1.2.2.2.1) (n := 700) hx hb hK hP hD hS 6 0 rfl rfl hin d_Model_load_215 (fun H locs hP hD hS => ?_)
                        rw [nI_clamp (show o < 2 ^ 31 by omega)] at hP hD
                        have hP : va_P (dC, dI) classes (mr_W cA cZ ad ((Y.1.1, Y.1.2.1, Y.1.2.2.1, Y.1.2.2.2.1, Y.1.2.2.2.2), (Y.2.1.1, Y.2.1.2.1, Y.2.1.2.2.1, (upd Y.2.1.2.2.2.1 o ((3 * (nI k)) + (nI d))), Y.2.1.2.2.2.2), (Y.2.2.1.1, Y.2.2.1.2.1, Y.2.2.1.2.2.1, Y.2.2.1.2.2.2.1, Y.2.2.1.2.2.2.2), (Y.2.2.2.1.1, Y.2.2.2.1.2.1, Y.2.2.2.1.2.2.1, Y.2.2.2.1.2.2.2.1, Y.2.2.2.1.2.2.2.2), (Y.2.2.2.2.1.1, Y.2.2.2.2.1.2.1, Y.2.2.2.2.1.2.2.1, Y.2.2.2.2.1.2.2.2.1, Y.2.2.2.2.1.2.2.2.2), (Y.2.2.2.2.2.1, Y.2.2.2.2.2.2.1, Y.2.2.2.2.2.2.2.1, Y.2.2.2.2.2.2.2.2.1, Y.2.2.2.2.2.2.2.2.2))) H := hP
                        have hD : va_D A (mr_W cA cZ ad ((Y.1.1, Y.1.2.1, Y.1.2.2.1, Y.1.2.2.2.1, Y.1.2.2.2.2), (Y.2.1.1, Y.2.1.2.1, Y.2.1.2.2.1, (upd Y.2.1.2.2.2.1 o ((3 * (nI k)) + (nI d))), Y.2.1.2.2.2.2), (Y.2.2.1.1, Y.2.2.1.2.1, Y.2.2.1.2.2.1, Y.2.2.1.2.2.2.1, Y.2.2.1.2.2.2.2), (Y.2.2.2.1.1, Y.2.2.2.1.2.1, Y.2.2.2.1.2.2.1, Y.2.2.2.1.2.2.2.1, Y.2.2.2.1.2.2.2.2), (Y.2.2.2.2.1.1, Y.2.2.2.2.1.2.1, Y.2.2.2.2.1.2.2.1, Y.2.2.2.2.1.2.2.2.1, Y.2.2.2.2.1.2.2.2.2), (Y.2.2.2.2.2.1, Y.2.2.2.2.2.2.1, Y.2.2.2.2.2.2.2.1, Y.2.2.2.2.2.2.2.2.1, Y.2.2.2.2.2.2.2.2.2))) := hD
                        refine lv_aload_n hx hb d_Model_load_216 rfl (lv_at hl 5 rfl) ?_
                        refine va_get (D := (dC, dI)) (ci := 4) (v := .ref (ad 7)) (C := R_Model) (T := F_Model) (N := 30) hx hb hts (fun q hq => List.mem_cons_of_mem _ (i_Model q hq)) hown hK hP 0 rfl rfl 9 (by decide) (hts _ (List.mem_cons_of_mem _ m_14_2)) (fun _ h9 => h9) rfl d_Model_load_217 ?_
                        refine lv_iload_n hx hb d_Model_load_220 rfl (lv_at hl 2 rfl) ?_
                        refine lv_iload hx hb d_Model_load_221 (lv_at hl 3 rfl) ?_
                        refine lv_iload hx hb d_Model_load_223 (lv_at hl 0 rfl) ?_
                        refine lv_if_eq hx hb d_Model_load_225 rfl (fun h225 => by exact absurd h225 (by decide)) (fun h225 => ?_)
                        refine lv_iconst (v := 1) hx hb d_Model_load_228 (by decide) ?_
                        refine lv_goto hx hb d_Model_load_229 rfl ?_
                        refine lv_iadd hx hb d_Model_load_233 ?_
                        have hin : vp_in (nI o) 700 := by first | assumption | exact vp_in_nI (by omega) (by decide)
                        refine va_iast (f := Y.2.1.2.2.2.2) (n := 700) hx hb hK hP hD hS 7 0 rfl rfl hin d_Model_load_234 (fun H locs hP hD hS => ?_)
                        rw [nI_clamp (show o < 2 ^ 31 by omega)] at hP hD
                        have hP : va_P (dC, dI) classes (mr_W cA cZ ad ((Y.1.1, Y.1.2.1, Y.1.2.2.1, Y.1.2.2.2.1, Y.1.2.2.2.2), (Y.2.1.1, Y.2.1.2.1, Y.2.1.2.2.1, (upd Y.2.1.2.2.2.1 o ((3 * (nI k)) + (nI d))), (upd Y.2.1.2.2.2.2 o ((Z.2.1.2.2.2.2 q) + 1))), (Y.2.2.1.1, Y.2.2.1.2.1, Y.2.2.1.2.2.1, Y.2.2.1.2.2.2.1, Y.2.2.1.2.2.2.2), (Y.2.2.2.1.1, Y.2.2.2.1.2.1, Y.2.2.2.1.2.2.1, Y.2.2.2.1.2.2.2.1, Y.2.2.2.1.2.2.2.2), (Y.2.2.2.2.1.1, Y.2.2.2.2.1.2.1, Y.2.2.2.2.1.2.2.1, Y.2.2.2.2.1.2.2.2.1, Y.2.2.2.2.1.2.2.2.2), (Y.2.2.2.2.2.1, Y.2.2.2.2.2.2.1, Y.2.2.2.2.2.2.2.1, Y.2.2.2.2.2.2.2.2.1, Y.2.2.2.2.2.2.2.2.2))) H := hP
                        have hD : va_D A (mr_W cA cZ ad ((Y.1.1, Y.1.2.1, Y.1.2.2.1, Y.1.2.2.2.1, Y.1.2.2.2.2), (Y.2.1.1, Y.2.1.2.1, Y.2.1.2.2.1, (upd Y.2.1.2.2.2.1 o ((3 * (nI k)) + (nI d))), (upd Y.2.1.2.2.2.2 o ((Z.2.1.2.2.2.2 q) + 1))), (Y.2.2.1.1, Y.2.2.1.2.1, Y.2.2.1.2.2.1, Y.2.2.1.2.2.2.1, Y.2.2.1.2.2.2.2), (Y.2.2.2.1.1, Y.2.2.2.1.2.1, Y.2.2.2.1.2.2.1, Y.2.2.2.1.2.2.2.1, Y.2.2.2.1.2.2.2.2), (Y.2.2.2.2.1.1, Y.2.2.2.2.1.2.1, Y.2.2.2.2.1.2.2.1, Y.2.2.2.2.1.2.2.2.1, Y.2.2.2.2.1.2.2.2.2), (Y.2.2.2.2.2.1, Y.2.2.2.2.2.2.1, Y.2.2.2.2.2.2.2.1, Y.2.2.2.2.2.2.2.2.1, Y.2.2.2.2.2.2.2.2.2))) := hD
                        refine lv_iinc (k := 2) (v := (nI (o + 1))) (lv' := [(2, .int (nI (o + 1))), (7, .int 1), (6, .int (nI d)), (4, .int (Z.2.1.2.2.2.2 q)), (3, .int (nI k)), (0, .ref (ad 0)), (1, .int (nI n))]) hx hb d_Model_load_235 hl rfl ((nI_succ o).symm) (by decide) rfl (fun ls hl => ?_)
                        refine lv_iinc (k := 2) (v := (nI d - 1)) (lv' := [(6, .int (nI d - 1)), (2, .int (nI (o + 1))), (7, .int 1), (4, .int (Z.2.1.2.2.2.2 q)), (3, .int (nI k)), (0, .ref (ad 0)), (1, .int (nI n))]) hx hb d_Model_load_238 hl rfl ((Int32.sub_eq_add_neg (nI d) 1).symm) (by decide) rfl (fun ls hl => ?_)
                        refine lv_goto hx hb d_Model_load_241 rfl ?_
                        have hst : ((Y.1.1, Y.1.2.1, Y.1.2.2.1, Y.1.2.2.2.1, Y.1.2.2.2.2), (Y.2.1.1, Y.2.1.2.1, Y.2.1.2.2.1, (upd Y.2.1.2.2.2.1 o ((3 * (nI k)) + (nI d))), (upd Y.2.1.2.2.2.2 o ((Z.2.1.2.2.2.2 q) + 1))), (Y.2.2.1.1, Y.2.2.1.2.1, Y.2.2.1.2.2.1, Y.2.2.1.2.2.2.1, Y.2.2.1.2.2.2.2), (Y.2.2.2.1.1, Y.2.2.2.1.2.1, Y.2.2.2.1.2.2.1, Y.2.2.2.1.2.2.2.1, Y.2.2.2.1.2.2.2.2), (Y.2.2.2.2.1.1, Y.2.2.2.2.1.2.1, Y.2.2.2.2.1.2.2.1, Y.2.2.2.2.1.2.2.2.1, Y.2.2.2.2.1.2.2.2.2), (Y.2.2.2.2.2.1, Y.2.2.2.2.2.2.1, Y.2.2.2.2.2.2.2.1, Y.2.2.2.2.2.2.2.2.1, Y.2.2.2.2.2.2.2.2.2)) = s_ar (s_ow Y (upd (r_ow Y) o (3 * nI k + nI d))) (upd (r_ar Y) o ((Z.2.1.2.2.2.2 q) + tm_binds (r_so Y k) (nI d))) := by
                          unfold tm_binds; (first | rw [if_pos h166] | rw [if_neg h166]); (first | rw [if_pos h177] | rw [if_neg h177]); (first | rw [if_pos h188] | rw [if_neg h188]); (first | rw [if_pos h194] | rw [if_neg h194]); rfl
                        rw [hst] at hP hD
                        exact ih2 d (o + 1) (s_ar (s_ow Y (upd (r_ow Y) o (3 * nI k + nI d))) (upd (r_ar Y) o ((Z.2.1.2.2.2.2 q) + tm_binds (r_so Y k) (nI d)))) _ _ _ (by omega) (by omega) (by omega) (by exact md_ows_in how (by omega) (by omega)) (by rw [hqi, md_inN]) (lv_sub hl [0, 1, 3, 4, 5, 6] rfl) hP hD hS
            exact loop mm mm q ((Z.1.1, Z.1.2.1, Z.1.2.2.1, Z.1.2.2.2.1, Z.1.2.2.2.2), ((upd Z.2.1.1 k (Z.1.1 k)), (upd Z.2.1.2.1 k (Z.1.2.1 k)), (upd Z.2.1.2.2.1 (Z.2.1.2.2.2.1 q).toNatClampNeg (nI k)), Z.2.1.2.2.2.1, Z.2.1.2.2.2.2), (Z.2.2.1.1, Z.2.2.1.2.1, Z.2.2.1.2.2.1, Z.2.2.1.2.2.2.1, Z.2.2.1.2.2.2.2), (Z.2.2.2.1.1, Z.2.2.2.1.2.1, Z.2.2.2.1.2.2.1, Z.2.2.2.1.2.2.2.1, Z.2.2.2.1.2.2.2.2), (Z.2.2.2.2.1.1, Z.2.2.2.2.1.2.1, Z.2.2.2.2.1.2.2.1, Z.2.2.2.2.1.2.2.2.1, Z.2.2.2.2.1.2.2.2.2), (Z.2.2.2.2.2.1, Z.2.2.2.2.2.2.1, Z.2.2.2.2.2.2.2.1, Z.2.2.2.2.2.2.2.2.1, Z.2.2.2.2.2.2.2.2.2)) _ _ _ (by rfl) (by omega) (by exact hmm) (by intro j hj; have q9 := hl1 j (by omega); rw [hl1s] at q9; exact q9) (by rw [hq9, hmm2, nI_clamp (by omega), hl2s]) (lv_sub hl [0, 3, 2, 4, 5, 6] rfl) hP hD hS
          · refine lv_aload_n hx hb d_Model_load_98 rfl (lv_at hl 3 rfl) ?_
            refine va_get (D := (dC, dI)) (ci := 4) (v := .ref (ad 2)) (C := R_Model) (T := F_Model) (N := 30) hx hb hts (fun q hq => List.mem_cons_of_mem _ (i_Model q hq)) hown hK hP 0 rfl rfl 2 (by decide) (hts _ (List.mem_cons_of_mem _ m_13_19)) (fun _ h9 => h9) rfl d_Model_load_99 ?_
            refine lv_iload_n hx hb d_Model_load_102 rfl (lv_at hl 2 rfl) ?_
            have hin : vp_in (nI k) 200 := by first | assumption | exact vp_in_nI (by omega) (by decide)
            refine va_iald (f := Z.1.2.1) (n := 200) hx hb hK hP 2 0 rfl rfl hin d_Model_load_103 ?_
            rw [nI_clamp (show k < 2 ^ 31 by omega)]
            refine lv_iload hx hb d_Model_load_104 (lv_at hl 0 rfl) ?_
            refine lv_icmp_lt hx hb d_Model_load_106 rfl (fun h106 => ?_) (fun h106 => ?_)
            · have hq9 : md_load ((aso, axs, (nI n), ath, asi), (asr, anu, ach, aow, aar), (ais, aon, atw, awh, afi), (ase, afr, amo, ass, asp), (afo, aba, ano, aen, avs), (avo, avt, are, atd, ale)) = md_loadN n fu (k + 1) (md_inN (md_many (r_so (md_l2 (md_l1 Z k q) k) k)).toNatClampNeg k (Z.2.1.2.2.2.2 q) q (md_l2 (md_l1 Z k q) k)).1 (md_inN (md_many (r_so (md_l2 (md_l1 Z k q) k) k)).toNatClampNeg k (Z.2.1.2.2.2.2 q) q (md_l2 (md_l1 Z k q) k)).2 := by rw [hq, md_loadN, if_neg (by omega), show q + 1 - 1 = q from rfl, if_neg (fun p => by rw [hl1s] at p; exact (Int32.not_le.mpr h106) p.2)]
              refine lv_aload_n hx hb d_Model_load_113 rfl (lv_at hl 3 rfl) ?_
              refine va_get (D := (dC, dI)) (ci := 4) (v := .ref (ad 3)) (C := R_Model) (T := F_Model) (N := 30) hx hb hts (fun q hq => List.mem_cons_of_mem _ (i_Model q hq)) hown hK hP 0 rfl rfl 4 (by decide) (hts _ (List.mem_cons_of_mem _ m_13_21)) (fun _ h9 => h9) rfl d_Model_load_114 ?_
              refine lv_iload_n hx hb d_Model_load_117 rfl (lv_at hl 2 rfl) ?_
              refine lv_aload_n hx hb d_Model_load_118 rfl (lv_at hl 3 rfl) ?_
              refine va_get (D := (dC, dI)) (ci := 4) (v := .ref (ad 1)) (C := R_Model) (T := F_Model) (N := 30) hx hb hts (fun q hq => List.mem_cons_of_mem _ (i_Model q hq)) hown hK hP 0 rfl rfl 1 (by decide) (hts _ (List.mem_cons_of_mem _ m_13_18)) (fun _ h9 => h9) rfl d_Model_load_119 ?_
              refine lv_iload_n hx hb d_Model_load_122 rfl (lv_at hl 2 rfl) ?_
              have hin : vp_in (nI k) 200 := by first | assumption | exact vp_in_nI (by omega) (by decide)
              refine va_iald (f := Z.1.1) (n := 200) hx hb hK hP 1 0 rfl rfl hin d_Model_load_123 ?_
              rw [nI_clamp (show k < 2 ^ 31 by omega)]
              have hin : vp_in (nI k) 200 := by first | assumption | exact vp_in_nI (by omega) (by decide)
              refine va_iast (f := Z.2.1.1) (n := 200) hx hb hK hP hD hS 3 0 rfl rfl hin d_Model_load_124 (fun H locs hP hD hS => ?_)
              rw [nI_clamp (show k < 2 ^ 31 by omega)] at hP hD
              have hP : va_P (dC, dI) classes (mr_W cA cZ ad ((Z.1.1, Z.1.2.1, Z.1.2.2.1, Z.1.2.2.2.1, Z.1.2.2.2.2), ((upd Z.2.1.1 k (Z.1.1 k)), Z.2.1.2.1, (upd Z.2.1.2.2.1 (Z.2.1.2.2.2.1 q).toNatClampNeg (nI k)), Z.2.1.2.2.2.1, Z.2.1.2.2.2.2), (Z.2.2.1.1, Z.2.2.1.2.1, Z.2.2.1.2.2.1, Z.2.2.1.2.2.2.1, Z.2.2.1.2.2.2.2), (Z.2.2.2.1.1, Z.2.2.2.1.2.1, Z.2.2.2.1.2.2.1, Z.2.2.2.1.2.2.2.1, Z.2.2.2.1.2.2.2.2), (Z.2.2.2.2.1.1, Z.2.2.2.2.1.2.1, Z.2.2.2.2.1.2.2.1, Z.2.2.2.2.1.2.2.2.1, Z.2.2.2.2.1.2.2.2.2), (Z.2.2.2.2.2.1, Z.2.2.2.2.2.2.1, Z.2.2.2.2.2.2.2.1, Z.2.2.2.2.2.2.2.2.1, Z.2.2.2.2.2.2.2.2.2))) H := hP
              have hD : va_D A (mr_W cA cZ ad ((Z.1.1, Z.1.2.1, Z.1.2.2.1, Z.1.2.2.2.1, Z.1.2.2.2.2), ((upd Z.2.1.1 k (Z.1.1 k)), Z.2.1.2.1, (upd Z.2.1.2.2.1 (Z.2.1.2.2.2.1 q).toNatClampNeg (nI k)), Z.2.1.2.2.2.1, Z.2.1.2.2.2.2), (Z.2.2.1.1, Z.2.2.1.2.1, Z.2.2.1.2.2.1, Z.2.2.1.2.2.2.1, Z.2.2.1.2.2.2.2), (Z.2.2.2.1.1, Z.2.2.2.1.2.1, Z.2.2.2.1.2.2.1, Z.2.2.2.1.2.2.2.1, Z.2.2.2.1.2.2.2.2), (Z.2.2.2.2.1.1, Z.2.2.2.2.1.2.1, Z.2.2.2.2.1.2.2.1, Z.2.2.2.2.1.2.2.2.1, Z.2.2.2.2.1.2.2.2.2), (Z.2.2.2.2.2.1, Z.2.2.2.2.2.2.1, Z.2.2.2.2.2.2.2.1, Z.2.2.2.2.2.2.2.2.1, Z.2.2.2.2.2.2.2.2.2))) := hD
              refine lv_aload_n hx hb d_Model_load_125 rfl (lv_at hl 3 rfl) ?_
              refine va_get (D := (dC, dI)) (ci := 4) (v := .ref (ad 4)) (C := R_Model) (T := F_Model) (N := 30) hx hb hts (fun q hq => List.mem_cons_of_mem _ (i_Model q hq)) hown hK hP 0 rfl rfl 5 (by decide) (hts _ (List.mem_cons_of_mem _ m_13_22)) (fun _ h9 => h9) rfl d_Model_load_126 ?_
              refine lv_iload_n hx hb d_Model_load_129 rfl (lv_at hl 2 rfl) ?_
              refine lv_aload_n hx hb d_Model_load_130 rfl (lv_at hl 3 rfl) ?_
              refine va_get (D := (dC, dI)) (ci := 4) (v := .ref (ad 2)) (C := R_Model) (T := F_Model) (N := 30) hx hb hts (fun q hq => List.mem_cons_of_mem _ (i_Model q hq)) hown hK hP 0 rfl rfl 2 (by decide) (hts _ (List.mem_cons_of_mem _ m_13_19)) (fun _ h9 => h9) rfl d_Model_load_131 ?_
              refine lv_iload_n hx hb d_Model_load_134 rfl (lv_at hl 2 rfl) ?_
              have hin : vp_in (nI k) 200 := by first | assumption | exact vp_in_nI (by omega) (by decide)
              refine va_iald (f := Z.1.2.1) (n := 200) hx hb hK hP 2 0 rfl rfl hin d_Model_load_135 ?_
              rw [nI_clamp (show k < 2 ^ 31 by omega)]
              have hin : vp_in (nI k) 200 := by first | assumption | exact vp_in_nI (by omega) (by decide)
              refine va_iast (f := Z.2.1.2.1) (n := 200) hx hb hK hP hD hS 4 0 rfl rfl hin d_Model_load_136 (fun H locs hP hD hS => ?_)
              rw [nI_clamp (show k < 2 ^ 31 by omega)] at hP hD
              have hP : va_P (dC, dI) classes (mr_W cA cZ ad ((Z.1.1, Z.1.2.1, Z.1.2.2.1, Z.1.2.2.2.1, Z.1.2.2.2.2), ((upd Z.2.1.1 k (Z.1.1 k)), (upd Z.2.1.2.1 k (Z.1.2.1 k)), (upd Z.2.1.2.2.1 (Z.2.1.2.2.2.1 q).toNatClampNeg (nI k)), Z.2.1.2.2.2.1, Z.2.1.2.2.2.2), (Z.2.2.1.1, Z.2.2.1.2.1, Z.2.2.1.2.2.1, Z.2.2.1.2.2.2.1, Z.2.2.1.2.2.2.2), (Z.2.2.2.1.1, Z.2.2.2.1.2.1, Z.2.2.2.1.2.2.1, Z.2.2.2.1.2.2.2.1, Z.2.2.2.1.2.2.2.2), (Z.2.2.2.2.1.1, Z.2.2.2.2.1.2.1, Z.2.2.2.2.1.2.2.1, Z.2.2.2.2.1.2.2.2.1, Z.2.2.2.2.1.2.2.2.2), (Z.2.2.2.2.2.1, Z.2.2.2.2.2.2.1, Z.2.2.2.2.2.2.2.1, Z.2.2.2.2.2.2.2.2.1, Z.2.2.2.2.2.2.2.2.2))) H := hP
              have hD : va_D A (mr_W cA cZ ad ((Z.1.1, Z.1.2.1, Z.1.2.2.1, Z.1.2.2.2.1, Z.1.2.2.2.2), ((upd Z.2.1.1 k (Z.1.1 k)), (upd Z.2.1.2.1 k (Z.1.2.1 k)), (upd Z.2.1.2.2.1 (Z.2.1.2.2.2.1 q).toNatClampNeg (nI k)), Z.2.1.2.2.2.1, Z.2.1.2.2.2.2), (Z.2.2.1.1, Z.2.2.1.2.1, Z.2.2.1.2.2.1, Z.2.2.1.2.2.2.1, Z.2.2.1.2.2.2.2), (Z.2.2.2.1.1, Z.2.2.2.1.2.1, Z.2.2.2.1.2.2.1, Z.2.2.2.1.2.2.2.1, Z.2.2.2.1.2.2.2.2), (Z.2.2.2.2.1.1, Z.2.2.2.2.1.2.1, Z.2.2.2.2.1.2.2.1, Z.2.2.2.2.1.2.2.2.1, Z.2.2.2.2.1.2.2.2.2), (Z.2.2.2.2.2.1, Z.2.2.2.2.2.2.1, Z.2.2.2.2.2.2.2.1, Z.2.2.2.2.2.2.2.2.1, Z.2.2.2.2.2.2.2.2.2))) := hD
              refine lv_aload_n hx hb d_Model_load_137 rfl (lv_at hl 3 rfl) ?_
              refine va_get (D := (dC, dI)) (ci := 4) (v := .ref (ad 1)) (C := R_Model) (T := F_Model) (N := 30) hx hb hts (fun q hq => List.mem_cons_of_mem _ (i_Model q hq)) hown hK hP 0 rfl rfl 1 (by decide) (hts _ (List.mem_cons_of_mem _ m_13_18)) (fun _ h9 => h9) rfl d_Model_load_138 ?_
              refine lv_iload_n hx hb d_Model_load_141 rfl (lv_at hl 2 rfl) ?_
              have hin : vp_in (nI k) 200 := by first | assumption | exact vp_in_nI (by omega) (by decide)
              refine va_iald (f := Z.1.1) (n := 200) hx hb hK hP 1 0 rfl rfl hin d_Model_load_142 ?_
              rw [nI_clamp (show k < 2 ^ 31 by omega)]
              refine lm_si (As := [.int (Z.1.1 k)]) (rest := []) (wr := (mr_W cA cZ ad ((Z.1.1, Z.1.2.1, Z.1.2.2.1, Z.1.2.2.2.1, Z.1.2.2.2.2), ((upd Z.2.1.1 k (Z.1.1 k)), (upd Z.2.1.2.1 k (Z.1.2.1 k)), (upd Z.2.1.2.2.1 (Z.2.1.2.2.2.1 q).toNatClampNeg (nI k)), Z.2.1.2.2.2.1, Z.2.1.2.2.2.2), (Z.2.2.1.1, Z.2.2.1.2.1, Z.2.2.1.2.2.1, Z.2.2.1.2.2.2.1, Z.2.2.1.2.2.2.2), (Z.2.2.2.1.1, Z.2.2.2.1.2.1, Z.2.2.2.1.2.2.1, Z.2.2.2.1.2.2.2.1, Z.2.2.2.1.2.2.2.2), (Z.2.2.2.2.1.1, Z.2.2.2.2.1.2.1, Z.2.2.2.2.1.2.2.1, Z.2.2.2.2.1.2.2.2.1, Z.2.2.2.2.1.2.2.2.2), (Z.2.2.2.2.2.1, Z.2.2.2.2.2.2.1, Z.2.2.2.2.2.2.2.1, Z.2.2.2.2.2.2.2.2.1, Z.2.2.2.2.2.2.2.2.2)))) ⟨hx, hb, hml, hown, hts⟩ hK hP hD hS hA [] [0, 1, 2, 3, 4, 5, 6, 7, 8, 9, 10, 11, 12, 13, 14, 15] rfl rfl (by decide) (by decide) (by decide) (c_Model_many l dC dI cA cZ  _  (Z.1.1 k) ) (cwS 1 hts (lm_gS m_15_15 m_15_16 m_0_5 m_15_17) rfl rfl rfl (by decide +kernel) ⟨Nat.le_of_ble_eq_true rfl, Nat.le_of_ble_eq_true rfl⟩) lm_bl_no (fun _ _ _ => trivial) hl.1 rfl rfl (Nat.le_of_ble_eq_true rfl) d_Model_load_143 ⟨Nat.le_of_ble_eq_true rfl, Nat.le_of_ble_eq_true rfl⟩ (fun r143 u143 H locs w143 hP hD hS => ?_)
              obtain ⟨e_r143, w143⟩ := w143
              have hP : va_P (dC, dI) classes (mr_W cA cZ ad ((Z.1.1, Z.1.2.1, Z.1.2.2.1, Z.1.2.2.2.1, Z.1.2.2.2.2), ((upd Z.2.1.1 k (Z.1.1 k)), (upd Z.2.1.2.1 k (Z.1.2.1 k)), (upd Z.2.1.2.2.1 (Z.2.1.2.2.2.1 q).toNatClampNeg (nI k)), Z.2.1.2.2.2.1, Z.2.1.2.2.2.2), (Z.2.2.1.1, Z.2.2.1.2.1, Z.2.2.1.2.2.1, Z.2.2.1.2.2.2.1, Z.2.2.1.2.2.2.2), (Z.2.2.2.1.1, Z.2.2.2.1.2.1, Z.2.2.2.1.2.2.1, Z.2.2.2.1.2.2.2.1, Z.2.2.2.1.2.2.2.2), (Z.2.2.2.2.1.1, Z.2.2.2.2.1.2.1, Z.2.2.2.2.1.2.2.1, Z.2.2.2.2.1.2.2.2.1, Z.2.2.2.2.1.2.2.2.2), (Z.2.2.2.2.2.1, Z.2.2.2.2.2.2.1, Z.2.2.2.2.2.2.2.1, Z.2.2.2.2.2.2.2.2.1, Z.2.2.2.2.2.2.2.2.2))) H := hP
              have hD : va_D A (mr_W cA cZ ad ((Z.1.1, Z.1.2.1, Z.1.2.2.1, Z.1.2.2.2.1, Z.1.2.2.2.2), ((upd Z.2.1.1 k (Z.1.1 k)), (upd Z.2.1.2.1 k (Z.1.2.1 k)), (upd Z.2.1.2.2.1 (Z.2.1.2.2.2.1 q).toNatClampNeg (nI k)), Z.2.1.2.2.2.1, Z.2.1.2.2.2.2), (Z.2.2.1.1, Z.2.2.1.2.1, Z.2.2.1.2.2.1, Z.2.2.1.2.2.2.1, Z.2.2.1.2.2.2.2), (Z.2.2.2.1.1, Z.2.2.2.1.2.1, Z.2.2.2.1.2.2.1, Z.2.2.2.1.2.2.2.1, Z.2.2.2.1.2.2.2.2), (Z.2.2.2.2.1.1, Z.2.2.2.2.1.2.1, Z.2.2.2.2.1.2.2.1, Z.2.2.2.2.1.2.2.2.1, Z.2.2.2.2.1.2.2.2.2), (Z.2.2.2.2.2.1, Z.2.2.2.2.2.2.1, Z.2.2.2.2.2.2.2.1, Z.2.2.2.2.2.2.2.2.1, Z.2.2.2.2.2.2.2.2.2))) := hD
              refine lv_istore (lv' := [(5, .int r143), (4, .int (Z.2.1.2.2.2.2 q)), (2, .int (nI q)), (3, .int (nI k)), (0, .ref (ad 0)), (1, .int (nI n))]) hx hb d_Model_load_146 hl (by decide) rfl (fun ls hl => ?_)
              obtain ⟨mm, hmm, hmm2⟩ := md_many_n (r_so (md_l2 (md_l1 Z k q) k) k)
              have hmr : r143 = nI mm := by
                rw [e_r143, ← hmm2, hl1s]; rfl
              have hl2s : md_l2 (md_l1 Z k q) k = ((Z.1.1, Z.1.2.1, Z.1.2.2.1, Z.1.2.2.2.1, Z.1.2.2.2.2), ((upd Z.2.1.1 k (Z.1.1 k)), (upd Z.2.1.2.1 k (Z.1.2.1 k)), (upd Z.2.1.2.2.1 (Z.2.1.2.2.2.1 q).toNatClampNeg (nI k)), Z.2.1.2.2.2.1, Z.2.1.2.2.2.2), (Z.2.2.1.1, Z.2.2.1.2.1, Z.2.2.1.2.2.1, Z.2.2.1.2.2.2.1, Z.2.2.1.2.2.2.2), (Z.2.2.2.1.1, Z.2.2.2.1.2.1, Z.2.2.2.1.2.2.1, Z.2.2.2.1.2.2.2.1, Z.2.2.2.1.2.2.2.2), (Z.2.2.2.2.1.1, Z.2.2.2.2.1.2.1, Z.2.2.2.2.1.2.2.1, Z.2.2.2.2.1.2.2.2.1, Z.2.2.2.2.1.2.2.2.2), (Z.2.2.2.2.2.1, Z.2.2.2.2.2.2.1, Z.2.2.2.2.2.2.2.1, Z.2.2.2.2.2.2.2.2.1, Z.2.2.2.2.2.2.2.2.2)) := by rw [hl1s]; rfl
              refine lv_iload hx hb d_Model_load_148 (lv_at hl 0 rfl) ?_
              refine lv_iconst (v := 1) hx hb d_Model_load_150 (by decide) ?_
              refine lv_isub hx hb d_Model_load_151 ?_
              refine lv_topi (fun z_ e_ => ?_)
              have e_ : z_ = (nI mm - 1) := e_.trans (by rw [hmr])
              subst e_
              refine lv_istore (lv' := [(6, .int (nI mm - 1)), (5, .int r143), (4, .int (Z.2.1.2.2.2.2 q)), (2, .int (nI q)), (3, .int (nI k)), (0, .ref (ad 0)), (1, .int (nI n))]) hx hb d_Model_load_152 hl (by decide) rfl (fun ls hl => ?_)
              have loop : ∀ (fv : Nat) (cn o : Nat) (Y : ZNS) (ls : Array Slot) (H : Heap) (locs : List Loc), (cn = fv) → (o + cn ≤ 2 * k + 3) → (cn ≤ 3) → (md_ows Y o) → (md_load ((aso, axs, (nI n), ath, asi), (asr, anu, ach, aow, aar), (ais, aon, atw, awh, afi), (ase, afr, amo, ass, asp), (afo, aba, ano, aen, avs), (avo, avt, are, atd, ale)) = md_loadN n fu (k + 1) (md_inN cn k (Z.2.1.2.2.2.2 q) o Y).1 (md_inN cn k (Z.2.1.2.2.2.2 q) o Y).2) → lv_has ls 8 [(6, .int (nI cn - 1)), (2, .int (nI o)), (4, .int (Z.2.1.2.2.2.2 q)), (3, .int (nI k)), (0, .ref (ad 0)), (1, .int (nI n))] → va_P (dC, dI) classes (mr_W cA cZ ad Y) H → va_D A (mr_W cA cZ ad Y) → va_S A s.heap H locs → W p l e (headSpec w_Model_load ({ frames := 1, cells := 0, slots := 0, locals := 20 } : Room)).room s m (List.toArray [.ref (ad 0)]) below meth c H locs 0 0 (MQ below (va_Qi (fun (r : Int32) (u : ZNS) => r = (md_load ((aso, axs, (nI n), ath, asi), (asr, anu, ach, aow, aar), (ais, aon, atw, awh, afi), (ase, afr, amo, ass, asp), (afo, aba, ano, aen, avs), (avo, avt, are, atd, ale))).1 ∧ u = (md_load ((aso, axs, (nI n), ath, asi), (asr, anu, ach, aow, aar), (ais, aon, atw, awh, afi), (ase, afr, amo, ass, asp), (afo, aba, ano, aen, avs), (avo, avt, are, atd, ale))).2) (fun u => lm_at (dC, dI) classes [(cA, .int), (cZ, .boolean)] A (mr_W cA cZ ad u)) A) (List.toArray [.ref (ad 0)]) s 0 0 A) (F0 m 154 ls []) := by
                intro fv
                induction fv with
                | zero => 
                  intro cn o Y ls H locs hc ho hc3 how hqi hl hP hD hS
                  refine lv_iload hx hb d_Model_load_154 (lv_at hl 0 rfl) ?_
                  refine lv_if_lt hx hb d_Model_load_156 rfl (fun h156 => ?_) (fun h156 => by exact absurd (by rw [hc]; decide) h156)
                  refine lv_iinc (k := 3) (v := (nI (k + 1))) (lv' := [(3, .int (nI (k + 1))), (6, .int (nI cn - 1)), (2, .int (nI o)), (4, .int (Z.2.1.2.2.2.2 q)), (0, .ref (ad 0)), (1, .int (nI n))]) hx hb d_Model_load_244 hl rfl ((nI_succ k).symm) (by decide) rfl (fun ls hl => ?_)
                  refine lv_goto hx hb d_Model_load_247 rfl ?_
                  exact ih (k + 1) o Y _ _ _ (by omega) (by omega) (by exact how) (by rw [hqi, hc, md_inN]) (lv_sub hl [0, 2, 4, 5] rfl) hP hD hS
                | succ fv ih2 => 
                  intro cn o Y ls H locs hc ho hc3 how hqi hl hP hD hS
                  obtain ⟨d, rfl⟩ : ∃ d, cn = d + 1 := ⟨fv, hc⟩
                  have hd : d = fv := by omega
                  rw [nI_pred] at hl
                  refine lv_iload hx hb d_Model_load_154 (lv_at hl 0 rfl) ?_
                  refine lv_if_lt hx hb d_Model_load_156 rfl (fun h156 => by exact absurd h156 (nI_pos (by omega))) (fun h156 => ?_)
                  refine lv_aload_n hx hb d_Model_load_159 rfl (lv_at hl 4 rfl) ?_
                  refine va_get (D := (dC, dI)) (ci := 4) (v := .ref (ad 1)) (C := R_Model) (T := F_Model) (N := 30) hx hb hts (fun q hq => List.mem_cons_of_mem _ (i_Model q hq)) hown hK hP 0 rfl rfl 1 (by decide) (hts _ (List.mem_cons_of_mem _ m_13_18)) (fun _ h9 => h9) rfl d_Model_load_160 ?_
                  refine lv_iload_n hx hb d_Model_load_163 rfl (lv_at hl 3 rfl) ?_
                  have hin : vp_in (nI k) 200 := by first | assumption | exact vp_in_nI (by omega) (by decide)
                  refine va_iald (f := Y.1.1) (n := 200) hx hb hK hP 1 0 rfl rfl hin d_Model_load_164 ?_
                  rw [nI_clamp (show k < 2 ^ 31 by omega)]
                  refine lv_iconst (v := 1) hx hb d_Model_load_165 (by decide) ?_
                  refine lv_icmp_eq hx hb d_Model_load_166 rfl (fun h166 => ?_) (fun h166 => ?_)
                  · refine lv_iconst (v := 1) hx hb d_Model_load_197 (by decide) ?_
                    refine lv_goto hx hb d_Model_load_198 rfl ?_
                    refine lv_istore (lv' := [(7, .int 1), (6, .int (nI d)), (2, .int (nI o)), (4, .int (Z.2.1.2.2.2.2 q)), (3, .int (nI k)), (0, .ref (ad 0)), (1, .int (nI n))]) hx hb d_Model_load_202 hl (by decide) rfl (fun ls hl => ?_)
                    refine lv_aload_n hx hb d_Model_load_204 rfl (lv_at hl 5 rfl) ?_
                    refine va_get (D := (dC, dI)) (ci := 4) (v := .ref (ad 6)) (C := R_Model) (T := F_Model) (N := 30) hx hb hts (fun q hq => List.mem_cons_of_mem _ (i_Model q hq)) hown hK hP 0 rfl rfl 8 (by decide) (hts _ (List.mem_cons_of_mem _ m_14_1)) (fun _ h9 => h9) rfl d_Model_load_205 ?_
                    refine lv_iload_n hx hb d_Model_load_208 rfl (lv_at hl 2 rfl) ?_
                    refine lv_iconst (v := 3) hx hb d_Model_load_209 (by decide) ?_
                    refine lv_iload_n hx hb d_Model_load_210 rfl (lv_at hl 4 rfl) ?_
                    refine lv_imul hx hb d_Model_load_211 ?_
                    refine lv_iload hx hb d_Model_load_212 (lv_at hl 1 rfl) ?_
                    refine lv_iadd hx hb d_Model_load_214 ?_
                    have hin : vp_in (nI o) 700 := by first | assumption | exact vp_in_nI (by omega) (by decide)
                    refine va_iast (f := Y.2.1.2.2.2.1) (n := 700) hx hb hK hP hD hS 6 0 rfl rfl hin d_Model_load_215 (fun H locs hP hD hS => ?_)
                    rw [nI_clamp (show o < 2 ^ 31 by omega)] at hP hD
                    have hP : va_P (dC, dI) classes (mr_W cA cZ ad ((Y.1.1, Y.1.2.1, Y.1.2.2.1, Y.1.2.2.2.1, Y.1.2.2.2.2), (Y.2.1.1, Y.2.1.2.1, Y.2.1.2.2.1, (upd Y.2.1.2.2.2.1 o ((3 * (nI k)) + (nI d))), Y.2.1.2.2.2.2), (Y.2.2.1.1, Y.2.2.1.2.1, Y.2.2.1.2.2.1, Y.2.2.1.2.2.2.1, Y.2.2.1.2.2.2.2), (Y.2.2.2.1.1, Y.2.2.2.1.2.1, Y.2.2.2.1.2.2.1, Y.2.2.2.1.2.2.2.1, Y.2.2.2.1.2.2.2.2), (Y.2.2.2.2.1.1, Y.2.2.2.2.1.2.1, Y.2.2.2.2.1.2.2.1, Y.2.2.2.2.1.2.2.2.1, Y.2.2.2.2.1.2.2.2.2), (Y.2.2.2.2.2.1, Y.2.2.2.2.2.2.1, Y.2.2.2.2.2.2.2.1, Y.2.2.2.2.2.2.2.2.1, Y.2.2.2.2.2.2.2.2.2))) H := hP
                    have hD : va_D A (mr_W cA cZ ad ((Y.1.1, Y.1.2.1, Y.1.2.2.1, Y.1.2.2.2.1, Y.1.2.2.2.2), (Y.2.1.1, Y.2.1.2.1, Y.2.1.2.2.1, (upd Y.2.1.2.2.2.1 o ((3 * (nI k)) + (nI d))), Y.2.1.2.2.2.2), (Y.2.2.1.1, Y.2.2.1.2.1, Y.2.2.1.2.2.1, Y.2.2.1.2.2.2.1, Y.2.2.1.2.2.2.2), (Y.2.2.2.1.1, Y.2.2.2.1.2.1, Y.2.2.2.1.2.2.1, Y.2.2.2.1.2.2.2.1, Y.2.2.2.1.2.2.2.2), (Y.2.2.2.2.1.1, Y.2.2.2.2.1.2.1, Y.2.2.2.2.1.2.2.1, Y.2.2.2.2.1.2.2.2.1, Y.2.2.2.2.1.2.2.2.2), (Y.2.2.2.2.2.1, Y.2.2.2.2.2.2.1, Y.2.2.2.2.2.2.2.1, Y.2.2.2.2.2.2.2.2.1, Y.2.2.2.2.2.2.2.2.2))) := hD
                    refine lv_aload_n hx hb d_Model_load_216 rfl (lv_at hl 5 rfl) ?_
                    refine va_get (D := (dC, dI)) (ci := 4) (v := .ref (ad 7)) (C := R_Model) (T := F_Model) (N := 30) hx hb hts (fun q hq => List.mem_cons_of_mem _ (i_Model q hq)) hown hK hP 0 rfl rfl 9 (by decide) (hts _ (List.mem_cons_of_mem _ m_14_2)) (fun _ h9 => h9) rfl d_Model_load_217 ?_
                    refine lv_iload_n hx hb d_Model_load_220 rfl (lv_at hl 2 rfl) ?_
                    refine lv_iload hx hb d_Model_load_221 (lv_at hl 3 rfl) ?_
                    refine lv_iload hx hb d_Model_load_223 (lv_at hl 0 rfl) ?_
                    refine lv_if_eq hx hb d_Model_load_225 rfl (fun h225 => by exact absurd h225 (by decide)) (fun h225 => ?_)
                    refine lv_iconst (v := 1) hx hb d_Model_load_228 (by decide) ?_
                    refine lv_goto hx hb d_Model_load_229 rfl ?_
                    refine lv_iadd hx hb d_Model_load_233 ?_
                    have hin : vp_in (nI o) 700 := by first | assumption | exact vp_in_nI (by omega) (by decide)
                    refine va_iast (f := Y.2.1.2.2.2.2) (n := 700) hx hb hK hP hD hS 7 0 rfl rfl hin d_Model_load_234 (fun H locs hP hD hS => ?_)
                    rw [nI_clamp (show o < 2 ^ 31 by omega)] at hP hD
                    have hP : va_P (dC, dI) classes (mr_W cA cZ ad ((Y.1.1, Y.1.2.1, Y.1.2.2.1, Y.1.2.2.2.1, Y.1.2.2.2.2), (Y.2.1.1, Y.2.1.2.1, Y.2.1.2.2.1, (upd Y.2.1.2.2.2.1 o ((3 * (nI k)) + (nI d))), (upd Y.2.1.2.2.2.2 o ((Z.2.1.2.2.2.2 q) + 1))), (Y.2.2.1.1, Y.2.2.1.2.1, Y.2.2.1.2.2.1, Y.2.2.1.2.2.2.1, Y.2.2.1.2.2.2.2), (Y.2.2.2.1.1, Y.2.2.2.1.2.1, Y.2.2.2.1.2.2.1, Y.2.2.2.1.2.2.2.1, Y.2.2.2.1.2.2.2.2), (Y.2.2.2.2.1.1, Y.2.2.2.2.1.2.1, Y.2.2.2.2.1.2.2.1, Y.2.2.2.2.1.2.2.2.1, Y.2.2.2.2.1.2.2.2.2), (Y.2.2.2.2.2.1, Y.2.2.2.2.2.2.1, Y.2.2.2.2.2.2.2.1, Y.2.2.2.2.2.2.2.2.1, Y.2.2.2.2.2.2.2.2.2))) H := hP
                    have hD : va_D A (mr_W cA cZ ad ((Y.1.1, Y.1.2.1, Y.1.2.2.1, Y.1.2.2.2.1, Y.1.2.2.2.2), (Y.2.1.1, Y.2.1.2.1, Y.2.1.2.2.1, (upd Y.2.1.2.2.2.1 o ((3 * (nI k)) + (nI d))), (upd Y.2.1.2.2.2.2 o ((Z.2.1.2.2.2.2 q) + 1))), (Y.2.2.1.1, Y.2.2.1.2.1, Y.2.2.1.2.2.1, Y.2.2.1.2.2.2.1, Y.2.2.1.2.2.2.2), (Y.2.2.2.1.1, Y.2.2.2.1.2.1, Y.2.2.2.1.2.2.1, Y.2.2.2.1.2.2.2.1, Y.2.2.2.1.2.2.2.2), (Y.2.2.2.2.1.1, Y.2.2.2.2.1.2.1, Y.2.2.2.2.1.2.2.1, Y.2.2.2.2.1.2.2.2.1, Y.2.2.2.2.1.2.2.2.2), (Y.2.2.2.2.2.1, Y.2.2.2.2.2.2.1, Y.2.2.2.2.2.2.2.1, Y.2.2.2.2.2.2.2.2.1, Y.2.2.2.2.2.2.2.2.2))) := hD
                    refine lv_iinc (k := 2) (v := (nI (o + 1))) (lv' := [(2, .int (nI (o + 1))), (7, .int 1), (6, .int (nI d)), (4, .int (Z.2.1.2.2.2.2 q)), (3, .int (nI k)), (0, .ref (ad 0)), (1, .int (nI n))]) hx hb d_Model_load_235 hl rfl ((nI_succ o).symm) (by decide) rfl (fun ls hl => ?_)
                    refine lv_iinc (k := 2) (v := (nI d - 1)) (lv' := [(6, .int (nI d - 1)), (2, .int (nI (o + 1))), (7, .int 1), (4, .int (Z.2.1.2.2.2.2 q)), (3, .int (nI k)), (0, .ref (ad 0)), (1, .int (nI n))]) hx hb d_Model_load_238 hl rfl ((Int32.sub_eq_add_neg (nI d) 1).symm) (by decide) rfl (fun ls hl => ?_)
                    refine lv_goto hx hb d_Model_load_241 rfl ?_
                    have hst : ((Y.1.1, Y.1.2.1, Y.1.2.2.1, Y.1.2.2.2.1, Y.1.2.2.2.2), (Y.2.1.1, Y.2.1.2.1, Y.2.1.2.2.1, (upd Y.2.1.2.2.2.1 o ((3 * (nI k)) + (nI d))), (upd Y.2.1.2.2.2.2 o ((Z.2.1.2.2.2.2 q) + 1))), (Y.2.2.1.1, Y.2.2.1.2.1, Y.2.2.1.2.2.1, Y.2.2.1.2.2.2.1, Y.2.2.1.2.2.2.2), (Y.2.2.2.1.1, Y.2.2.2.1.2.1, Y.2.2.2.1.2.2.1, Y.2.2.2.1.2.2.2.1, Y.2.2.2.1.2.2.2.2), (Y.2.2.2.2.1.1, Y.2.2.2.2.1.2.1, Y.2.2.2.2.1.2.2.1, Y.2.2.2.2.1.2.2.2.1, Y.2.2.2.2.1.2.2.2.2), (Y.2.2.2.2.2.1, Y.2.2.2.2.2.2.1, Y.2.2.2.2.2.2.2.1, Y.2.2.2.2.2.2.2.2.1, Y.2.2.2.2.2.2.2.2.2)) = s_ar (s_ow Y (upd (r_ow Y) o (3 * nI k + nI d))) (upd (r_ar Y) o ((Z.2.1.2.2.2.2 q) + tm_binds (r_so Y k) (nI d))) := by
                      unfold tm_binds; (first | rw [if_pos h166] | rw [if_neg h166]); rfl
                    rw [hst] at hP hD
                    exact ih2 d (o + 1) (s_ar (s_ow Y (upd (r_ow Y) o (3 * nI k + nI d))) (upd (r_ar Y) o ((Z.2.1.2.2.2.2 q) + tm_binds (r_so Y k) (nI d)))) _ _ _ (by omega) (by omega) (by omega) (by exact md_ows_in how (by omega) (by omega)) (by rw [hqi, md_inN]) (lv_sub hl [0, 1, 3, 4, 5, 6] rfl) hP hD hS
                  · refine lv_aload_n hx hb d_Model_load_169 rfl (lv_at hl 4 rfl) ?_
                    refine va_get (D := (dC, dI)) (ci := 4) (v := .ref (ad 1)) (C := R_Model) (T := F_Model) (N := 30) hx hb hts (fun q hq => List.mem_cons_of_mem _ (i_Model q hq)) hown hK hP 0 rfl rfl 1 (by decide) (hts _ (List.mem_cons_of_mem _ m_13_18)) (fun _ h9 => h9) rfl d_Model_load_170 ?_
                    refine lv_iload_n hx hb d_Model_load_173 rfl (lv_at hl 3 rfl) ?_
                    have hin : vp_in (nI k) 200 := by first | assumption | exact vp_in_nI (by omega) (by decide)
                    refine va_iald (f := Y.1.1) (n := 200) hx hb hK hP 1 0 rfl rfl hin d_Model_load_174 ?_
                    rw [nI_clamp (show k < 2 ^ 31 by omega)]
                    refine lv_bipush (v := 9) hx hb d_Model_load_175 (by decide) ?_
                    refine lv_icmp_eq hx hb d_Model_load_177 rfl (fun h177 => ?_) (fun h177 => ?_)
                    · refine lv_iconst (v := 1) hx hb d_Model_load_197 (by decide) ?_
                      refine lv_goto hx hb d_Model_load_198 rfl ?_
                      refine lv_istore (lv' := [(7, .int 1), (6, .int (nI d)), (2, .int (nI o)), (4, .int (Z.2.1.2.2.2.2 q)), (3, .int (nI k)), (0, .ref (ad 0)), (1, .int (nI n))]) hx hb d_Model_load_202 hl (by decide) rfl (fun ls hl => ?_)
                      refine lv_aload_n hx hb d_Model_load_204 rfl (lv_at hl 5 rfl) ?_
                      refine va_get (D := (dC, dI)) (ci := 4) (v := .ref (ad 6)) (C := R_Model) (T := F_Model) (N := 30) hx hb hts (fun q hq => List.mem_cons_of_mem _ (i_Model q hq)) hown hK hP 0 rfl rfl 8 (by decide) (hts _ (List.mem_cons_of_mem _ m_14_1)) (fun _ h9 => h9) rfl d_Model_load_205 ?_
                      refine lv_iload_n hx hb d_Model_load_208 rfl (lv_at hl 2 rfl) ?_
                      refine lv_iconst (v := 3) hx hb d_Model_load_209 (by decide) ?_
                      refine lv_iload_n hx hb d_Model_load_210 rfl (lv_at hl 4 rfl) ?_
                      refine lv_imul hx hb d_Model_load_211 ?_
                      refine lv_iload hx hb d_Model_load_212 (lv_at hl 1 rfl) ?_
                      refine lv_iadd hx hb d_Model_load_214 ?_
                      have hin : vp_in (nI o) 700 := by first | assumption | exact vp_in_nI (by omega) (by decide)
                      refine va_iast (f := Y.2.1.2.2.2.1) (n := 700) hx hb hK hP hD hS 6 0 rfl rfl hin d_Model_load_215 (fun H locs hP hD hS => ?_)
                      rw [nI_clamp (show o < 2 ^ 31 by omega)] at hP hD
                      have hP : va_P (dC, dI) classes (mr_W cA cZ ad ((Y.1.1, Y.1.2.1, Y.1.2.2.1, Y.1.2.2.2.1, Y.1.2.2.2.2), (Y.2.1.1, Y.2.1.2.1, Y.2.1.2.2.1, (upd Y.2.1.2.2.2.1 o ((3 * (nI k)) + (nI d))), Y.2.1.2.2.2.2), (Y.2.2.1.1, Y.2.2.1.2.1, Y.2.2.1.2.2.1, Y.2.2.1.2.2.2.1, Y.2.2.1.2.2.2.2), (Y.2.2.2.1.1, Y.2.2.2.1.2.1, Y.2.2.2.1.2.2.1, Y.2.2.2.1.2.2.2.1, Y.2.2.2.1.2.2.2.2), (Y.2.2.2.2.1.1, Y.2.2.2.2.1.2.1, Y.2.2.2.2.1.2.2.1, Y.2.2.2.2.1.2.2.2.1, Y.2.2.2.2.1.2.2.2.2), (Y.2.2.2.2.2.1, Y.2.2.2.2.2.2.1, Y.2.2.2.2.2.2.2.1, Y.2.2.2.2.2.2.2.2.1, Y.2.2.2.2.2.2.2.2.2))) H := hP
                      have hD : va_D A (mr_W cA cZ ad ((Y.1.1, Y.1.2.1, Y.1.2.2.1, Y.1.2.2.2.1, Y.1.2.2.2.2), (Y.2.1.1, Y.2.1.2.1, Y.2.1.2.2.1, (upd Y.2.1.2.2.2.1 o ((3 * (nI k)) + (nI d))), Y.2.1.2.2.2.2), (Y.2.2.1.1, Y.2.2.1.2.1, Y.2.2.1.2.2.1, Y.2.2.1.2.2.2.1, Y.2.2.1.2.2.2.2), (Y.2.2.2.1.1, Y.2.2.2.1.2.1, Y.2.2.2.1.2.2.1, Y.2.2.2.1.2.2.2.1, Y.2.2.2.1.2.2.2.2), (Y.2.2.2.2.1.1, Y.2.2.2.2.1.2.1, Y.2.2.2.2.1.2.2.1, Y.2.2.2.2.1.2.2.2.1, Y.2.2.2.2.1.2.2.2.2), (Y.2.2.2.2.2.1, Y.2.2.2.2.2.2.1, Y.2.2.2.2.2.2.2.1, Y.2.2.2.2.2.2.2.2.1, Y.2.2.2.2.2.2.2.2.2))) := hD
                      refine lv_aload_n hx hb d_Model_load_216 rfl (lv_at hl 5 rfl) ?_
                      refine va_get (D := (dC, dI)) (ci := 4) (v := .ref (ad 7)) (C := R_Model) (T := F_Model) (N := 30) hx hb hts (fun q hq => List.mem_cons_of_mem _ (i_Model q hq)) hown hK hP 0 rfl rfl 9 (by decide) (hts _ (List.mem_cons_of_mem _ m_14_2)) (fun _ h9 => h9) rfl d_Model_load_217 ?_
                      refine lv_iload_n hx hb d_Model_load_220 rfl (lv_at hl 2 rfl) ?_
                      refine lv_iload hx hb d_Model_load_221 (lv_at hl 3 rfl) ?_
                      refine lv_iload hx hb d_Model_load_223 (lv_at hl 0 rfl) ?_
                      refine lv_if_eq hx hb d_Model_load_225 rfl (fun h225 => by exact absurd h225 (by decide)) (fun h225 => ?_)
                      refine lv_iconst (v := 1) hx hb d_Model_load_228 (by decide) ?_
                      refine lv_goto hx hb d_Model_load_229 rfl ?_
                      refine lv_iadd hx hb d_Model_load_233 ?_
                      have hin : vp_in (nI o) 700 := by first | assumption | exact vp_in_nI (by omega) (by decide)
                      refine va_iast (f := Y.2.1.2.2.2.2) (n := 700) hx hb hK hP hD hS 7 0 rfl rfl hin d_Model_load_234 (fun H locs hP hD hS => ?_)
                      rw [nI_clamp (show o < 2 ^ 31 by omega)] at hP hD
                      have hP : va_P (dC, dI) classes (mr_W cA cZ ad ((Y.1.1, Y.1.2.1, Y.1.2.2.1, Y.1.2.2.2.1, Y.1.2.2.2.2), (Y.2.1.1, Y.2.1.2.1, Y.2.1.2.2.1, (upd Y.2.1.2.2.2.1 o ((3 * (nI k)) + (nI d))), (upd Y.2.1.2.2.2.2 o ((Z.2.1.2.2.2.2 q) + 1))), (Y.2.2.1.1, Y.2.2.1.2.1, Y.2.2.1.2.2.1, Y.2.2.1.2.2.2.1, Y.2.2.1.2.2.2.2), (Y.2.2.2.1.1, Y.2.2.2.1.2.1, Y.2.2.2.1.2.2.1, Y.2.2.2.1.2.2.2.1, Y.2.2.2.1.2.2.2.2), (Y.2.2.2.2.1.1, Y.2.2.2.2.1.2.1, Y.2.2.2.2.1.2.2.1, Y.2.2.2.2.1.2.2.2.1, Y.2.2.2.2.1.2.2.2.2), (Y.2.2.2.2.2.1, Y.2.2.2.2.2.2.1, Y.2.2.2.2.2.2.2.1, Y.2.2.2.2.2.2.2.2.1, Y.2.2.2.2.2.2.2.2.2))) H := hP
                      have hD : va_D A (mr_W cA cZ ad ((Y.1.1, Y.1.2.1, Y.1.2.2.1, Y.1.2.2.2.1, Y.1.2.2.2.2), (Y.2.1.1, Y.2.1.2.1, Y.2.1.2.2.1, (upd Y.2.1.2.2.2.1 o ((3 * (nI k)) + (nI d))), (upd Y.2.1.2.2.2.2 o ((Z.2.1.2.2.2.2 q) + 1))), (Y.2.2.1.1, Y.2.2.1.2.1, Y.2.2.1.2.2.1, Y.2.2.1.2.2.2.1, Y.2.2.1.2.2.2.2), (Y.2.2.2.1.1, Y.2.2.2.1.2.1, Y.2.2.2.1.2.2.1, Y.2.2.2.1.2.2.2.1, Y.2.2.2.1.2.2.2.2), (Y.2.2.2.2.1.1, Y.2.2.2.2.1.2.1, Y.2.2.2.2.1.2.2.1, Y.2.2.2.2.1.2.2.2.1, Y.2.2.2.2.1.2.2.2.2), (Y.2.2.2.2.2.1, Y.2.2.2.2.2.2.1, Y.2.2.2.2.2.2.2.1, Y.2.2.2.2.2.2.2.2.1, Y.2.2.2.2.2.2.2.2.2))) := hD
                      refine lv_iinc (k := 2) (v := (nI (o + 1))) (lv' := [(2, .int (nI (o + 1))), (7, .int 1), (6, .int (nI d)), (4, .int (Z.2.1.2.2.2.2 q)), (3, .int (nI k)), (0, .ref (ad 0)), (1, .int (nI n))]) hx hb d_Model_load_235 hl rfl ((nI_succ o).symm) (by decide) rfl (fun ls hl => ?_)
                      refine lv_iinc (k := 2) (v := (nI d - 1)) (lv' := [(6, .int (nI d - 1)), (2, .int (nI (o + 1))), (7, .int 1), (4, .int (Z.2.1.2.2.2.2 q)), (3, .int (nI k)), (0, .ref (ad 0)), (1, .int (nI n))]) hx hb d_Model_load_238 hl rfl ((Int32.sub_eq_add_neg (nI d) 1).symm) (by decide) rfl (fun ls hl => ?_)
                      refine lv_goto hx hb d_Model_load_241 rfl ?_
                      have hst : ((Y.1.1, Y.1.2.1, Y.1.2.2.1, Y.1.2.2.2.1, Y.1.2.2.2.2), (Y.2.1.1, Y.2.1.2.1, Y.2.1.2.2.1, (upd Y.2.1.2.2.2.1 o ((3 * (nI k)) + (nI d))), (upd Y.2.1.2.2.2.2 o ((Z.2.1.2.2.2.2 q) + 1))), (Y.2.2.1.1, Y.2.2.1.2.1, Y.2.2.1.2.2.1, Y.2.2.1.2.2.2.1, Y.2.2.1.2.2.2.2), (Y.2.2.2.1.1, Y.2.2.2.1.2.1, Y.2.2.2.1.2.2.1, Y.2.2.2.1.2.2.2.1, Y.2.2.2.1.2.2.2.2), (Y.2.2.2.2.1.1, Y.2.2.2.2.1.2.1, Y.2.2.2.2.1.2.2.1, Y.2.2.2.2.1.2.2.2.1, Y.2.2.2.2.1.2.2.2.2), (Y.2.2.2.2.2.1, Y.2.2.2.2.2.2.1, Y.2.2.2.2.2.2.2.1, Y.2.2.2.2.2.2.2.2.1, Y.2.2.2.2.2.2.2.2.2)) = s_ar (s_ow Y (upd (r_ow Y) o (3 * nI k + nI d))) (upd (r_ar Y) o ((Z.2.1.2.2.2.2 q) + tm_binds (r_so Y k) (nI d))) := by
                        unfold tm_binds; (first | rw [if_pos h166] | rw [if_neg h166]); (first | rw [if_pos h177] | rw [if_neg h177]); rfl
                      rw [hst] at hP hD
                      exact ih2 d (o + 1) (s_ar (s_ow Y (upd (r_ow Y) o (3 * nI k + nI d))) (upd (r_ar Y) o ((Z.2.1.2.2.2.2 q) + tm_binds (r_so Y k) (nI d)))) _ _ _ (by omega) (by omega) (by omega) (by exact md_ows_in how (by omega) (by omega)) (by rw [hqi, md_inN]) (lv_sub hl [0, 1, 3, 4, 5, 6] rfl) hP hD hS
                    · refine lv_aload_n hx hb d_Model_load_180 rfl (lv_at hl 4 rfl) ?_
                      refine va_get (D := (dC, dI)) (ci := 4) (v := .ref (ad 1)) (C := R_Model) (T := F_Model) (N := 30) hx hb hts (fun q hq => List.mem_cons_of_mem _ (i_Model q hq)) hown hK hP 0 rfl rfl 1 (by decide) (hts _ (List.mem_cons_of_mem _ m_13_18)) (fun _ h9 => h9) rfl d_Model_load_181 ?_
                      refine lv_iload_n hx hb d_Model_load_184 rfl (lv_at hl 3 rfl) ?_
                      have hin : vp_in (nI k) 200 := by first | assumption | exact vp_in_nI (by omega) (by decide)
                      refine va_iald (f := Y.1.1) (n := 200) hx hb hK hP 1 0 rfl rfl hin d_Model_load_185 ?_
                      rw [nI_clamp (show k < 2 ^ 31 by omega)]
                      refine lv_bipush (v := 10) hx hb d_Model_load_186 (by decide) ?_
                      refine lv_icmp_ne hx hb d_Model_load_188 rfl (fun h188 => ?_) (fun h188 => ?_)
                      · refine lv_iconst (v := 0) hx hb d_Model_load_201 (by decide) ?_
                        refine lv_istore (lv' := [(7, .int 0), (6, .int (nI d)), (2, .int (nI o)), (4, .int (Z.2.1.2.2.2.2 q)), (3, .int (nI k)), (0, .ref (ad 0)), (1, .int (nI n))]) hx hb d_Model_load_202 hl (by decide) rfl (fun ls hl => ?_)
                        refine lv_aload_n hx hb d_Model_load_204 rfl (lv_at hl 5 rfl) ?_
                        refine va_get (D := (dC, dI)) (ci := 4) (v := .ref (ad 6)) (C := R_Model) (T := F_Model) (N := 30) hx hb hts (fun q hq => List.mem_cons_of_mem _ (i_Model q hq)) hown hK hP 0 rfl rfl 8 (by decide) (hts _ (List.mem_cons_of_mem _ m_14_1)) (fun _ h9 => h9) rfl d_Model_load_205 ?_
                        refine lv_iload_n hx hb d_Model_load_208 rfl (lv_at hl 2 rfl) ?_
                        refine lv_iconst (v := 3) hx hb d_Model_load_209 (by decide) ?_
                        refine lv_iload_n hx hb d_Model_load_210 rfl (lv_at hl 4 rfl) ?_
                        refine lv_imul hx hb d_Model_load_211 ?_
                        refine lv_iload hx hb d_Model_load_212 (lv_at hl 1 rfl) ?_
                        refine lv_iadd hx hb d_Model_load_214 ?_
                        have hin : vp_in (nI o) 700 := by first | assumption | exact vp_in_nI (by omega) (by decide)
                        refine va_iast (f := Y.2.1.2.2.2.1) (n := 700) hx hb hK hP hD hS 6 0 rfl rfl hin d_Model_load_215 (fun H locs hP hD hS => ?_)
                        rw [nI_clamp (show o < 2 ^ 31 by omega)] at hP hD
                        have hP : va_P (dC, dI) classes (mr_W cA cZ ad ((Y.1.1, Y.1.2.1, Y.1.2.2.1, Y.1.2.2.2.1, Y.1.2.2.2.2), (Y.2.1.1, Y.2.1.2.1, Y.2.1.2.2.1, (upd Y.2.1.2.2.2.1 o ((3 * (nI k)) + (nI d))), Y.2.1.2.2.2.2), (Y.2.2.1.1, Y.2.2.1.2.1, Y.2.2.1.2.2.1, Y.2.2.1.2.2.2.1, Y.2.2.1.2.2.2.2), (Y.2.2.2.1.1, Y.2.2.2.1.2.1, Y.2.2.2.1.2.2.1, Y.2.2.2.1.2.2.2.1, Y.2.2.2.1.2.2.2.2), (Y.2.2.2.2.1.1, Y.2.2.2.2.1.2.1, Y.2.2.2.2.1.2.2.1, Y.2.2.2.2.1.2.2.2.1, Y.2.2.2.2.1.2.2.2.2), (Y.2.2.2.2.2.1, Y.2.2.2.2.2.2.1, Y.2.2.2.2.2.2.2.1, Y.2.2.2.2.2.2.2.2.1, Y.2.2.2.2.2.2.2.2.2))) H := hP
                        have hD : va_D A (mr_W cA cZ ad ((Y.1.1, Y.1.2.1, Y.1.2.2.1, Y.1.2.2.2.1, Y.1.2.2.2.2), (Y.2.1.1, Y.2.1.2.1, Y.2.1.2.2.1, (upd Y.2.1.2.2.2.1 o ((3 * (nI k)) + (nI d))), Y.2.1.2.2.2.2), (Y.2.2.1.1, Y.2.2.1.2.1, Y.2.2.1.2.2.1, Y.2.2.1.2.2.2.1, Y.2.2.1.2.2.2.2), (Y.2.2.2.1.1, Y.2.2.2.1.2.1, Y.2.2.2.1.2.2.1, Y.2.2.2.1.2.2.2.1, Y.2.2.2.1.2.2.2.2), (Y.2.2.2.2.1.1, Y.2.2.2.2.1.2.1, Y.2.2.2.2.1.2.2.1, Y.2.2.2.2.1.2.2.2.1, Y.2.2.2.2.1.2.2.2.2), (Y.2.2.2.2.2.1, Y.2.2.2.2.2.2.1, Y.2.2.2.2.2.2.2.1, Y.2.2.2.2.2.2.2.2.1, Y.2.2.2.2.2.2.2.2.2))) := hD
                        refine lv_aload_n hx hb d_Model_load_216 rfl (lv_at hl 5 rfl) ?_
                        refine va_get (D := (dC, dI)) (ci := 4) (v := .ref (ad 7)) (C := R_Model) (T := F_Model) (N := 30) hx hb hts (fun q hq => List.mem_cons_of_mem _ (i_Model q hq)) hown hK hP 0 rfl rfl 9 (by decide) (hts _ (List.mem_cons_of_mem _ m_14_2)) (fun _ h9 => h9) rfl d_Model_load_217 ?_
                        refine lv_iload_n hx hb d_Model_load_220 rfl (lv_at hl 2 rfl) ?_
                        refine lv_iload hx hb d_Model_load_221 (lv_at hl 3 rfl) ?_
                        refine lv_iload hx hb d_Model_load_223 (lv_at hl 0 rfl) ?_
                        refine lv_if_eq hx hb d_Model_load_225 rfl (fun h225 => ?_) (fun h225 => by exact absurd h225 (by decide))
                        refine lv_iconst (v := 0) hx hb d_Model_load_232 (by decide) ?_
                        refine lv_iadd hx hb d_Model_load_233 ?_
                        have hin : vp_in (nI o) 700 := by first | assumption | exact vp_in_nI (by omega) (by decide)
                        refine va_iast (f := Y.2.1.2.2.2.2) (n := 700) hx hb hK hP hD hS 7 0 rfl rfl hin d_Model_load_234 (fun H locs hP hD hS => ?_)
                        rw [nI_clamp (show o < 2 ^ 31 by omega)] at hP hD
                        have hP : va_P (dC, dI) classes (mr_W cA cZ ad ((Y.1.1, Y.1.2.1, Y.1.2.2.1, Y.1.2.2.2.1, Y.1.2.2.2.2), (Y.2.1.1, Y.2.1.2.1, Y.2.1.2.2.1, (upd Y.2.1.2.2.2.1 o ((3 * (nI k)) + (nI d))), (upd Y.2.1.2.2.2.2 o ((Z.2.1.2.2.2.2 q) + 0))), (Y.2.2.1.1, Y.2.2.1.2.1, Y.2.2.1.2.2.1, Y.2.2.1.2.2.2.1, Y.2.2.1.2.2.2.2), (Y.2.2.2.1.1, Y.2.2.2.1.2.1, Y.2.2.2.1.2.2.1, Y.2.2.2.1.2.2.2.1, Y.2.2.2.1.2.2.2.2), (Y.2.2.2.2.1.1, Y.2.2.2.2.1.2.1, Y.2.2.2.2.1.2.2.1, Y.2.2.2.2.1.2.2.2.1, Y.2.2.2.2.1.2.2.2.2), (Y.2.2.2.2.2.1, Y.2.2.2.2.2.2.1, Y.2.2.2.2.2.2.2.1, Y.2.2.2.2.2.2.2.2.1, Y.2.2.2.2.2.2.2.2.2))) H := hP
                        have hD : va_D A (mr_W cA cZ ad ((Y.1.1, Y.1.2.1, Y.1.2.2.1, Y.1.2.2.2.1, Y.1.2.2.2.2), (Y.2.1.1, Y.2.1.2.1, Y.2.1.2.2.1, (upd Y.2.1.2.2.2.1 o ((3 * (nI k)) + (nI d))), (upd Y.2.1.2.2.2.2 o ((Z.2.1.2.2.2.2 q) + 0))), (Y.2.2.1.1, Y.2.2.1.2.1, Y.2.2.1.2.2.1, Y.2.2.1.2.2.2.1, Y.2.2.1.2.2.2.2), (Y.2.2.2.1.1, Y.2.2.2.1.2.1, Y.2.2.2.1.2.2.1, Y.2.2.2.1.2.2.2.1, Y.2.2.2.1.2.2.2.2), (Y.2.2.2.2.1.1, Y.2.2.2.2.1.2.1, Y.2.2.2.2.1.2.2.1, Y.2.2.2.2.1.2.2.2.1, Y.2.2.2.2.1.2.2.2.2), (Y.2.2.2.2.2.1, Y.2.2.2.2.2.2.1, Y.2.2.2.2.2.2.2.1, Y.2.2.2.2.2.2.2.2.1, Y.2.2.2.2.2.2.2.2.2))) := hD
                        refine lv_iinc (k := 2) (v := (nI (o + 1))) (lv' := [(2, .int (nI (o + 1))), (7, .int 0), (6, .int (nI d)), (4, .int (Z.2.1.2.2.2.2 q)), (3, .int (nI k)), (0, .ref (ad 0)), (1, .int (nI n))]) hx hb d_Model_load_235 hl rfl ((nI_succ o).symm) (by decide) rfl (fun ls hl => ?_)
                        refine lv_iinc (k := 2) (v := (nI d - 1)) (lv' := [(6, .int (nI d - 1)), (2, .int (nI (o + 1))), (7, .int 0), (4, .int (Z.2.1.2.2.2.2 q)), (3, .int (nI k)), (0, .ref (ad 0)), (1, .int (nI n))]) hx hb d_Model_load_238 hl rfl ((Int32.sub_eq_add_neg (nI d) 1).symm) (by decide) rfl (fun ls hl => ?_)
                        refine lv_goto hx hb d_Model_load_241 rfl ?_
                        have hst : ((Y.1.1, Y.1.2.1, Y.1.2.2.1, Y.1.2.2.2.1, Y.1.2.2.2.2), (Y.2.1.1, Y.2.1.2.1, Y.2.1.2.2.1, (upd Y.2.1.2.2.2.1 o ((3 * (nI k)) + (nI d))), (upd Y.2.1.2.2.2.2 o ((Z.2.1.2.2.2.2 q) + 0))), (Y.2.2.1.1, Y.2.2.1.2.1, Y.2.2.1.2.2.1, Y.2.2.1.2.2.2.1, Y.2.2.1.2.2.2.2), (Y.2.2.2.1.1, Y.2.2.2.1.2.1, Y.2.2.2.1.2.2.1, Y.2.2.2.1.2.2.2.1, Y.2.2.2.1.2.2.2.2), (Y.2.2.2.2.1.1, Y.2.2.2.2.1.2.1, Y.2.2.2.2.1.2.2.1, Y.2.2.2.2.1.2.2.2.1, Y.2.2.2.2.1.2.2.2.2), (Y.2.2.2.2.2.1, Y.2.2.2.2.2.2.1, Y.2.2.2.2.2.2.2.1, Y.2.2.2.2.2.2.2.2.1, Y.2.2.2.2.2.2.2.2.2)) = s_ar (s_ow Y (upd (r_ow Y) o (3 * nI k + nI d))) (upd (r_ar Y) o ((Z.2.1.2.2.2.2 q) + tm_binds (r_so Y k) (nI d))) := by
                          unfold tm_binds; (first | rw [if_pos h166] | rw [if_neg h166]); (first | rw [if_pos h177] | rw [if_neg h177]); (first | rw [if_pos h188] | rw [if_neg h188]); rfl
                        rw [hst] at hP hD
                        exact ih2 d (o + 1) (s_ar (s_ow Y (upd (r_ow Y) o (3 * nI k + nI d))) (upd (r_ar Y) o ((Z.2.1.2.2.2.2 q) + tm_binds (r_so Y k) (nI d)))) _ _ _ (by omega) (by omega) (by omega) (by exact md_ows_in how (by omega) (by omega)) (by rw [hqi, md_inN]) (lv_sub hl [0, 1, 3, 4, 5, 6] rfl) hP hD hS
                      · refine lv_iload hx hb d_Model_load_191 (lv_at hl 0 rfl) ?_
                        refine lv_iconst (v := 1) hx hb d_Model_load_193 (by decide) ?_
                        refine lv_icmp_ne hx hb d_Model_load_194 rfl (fun h194 => ?_) (fun h194 => ?_)
                        · refine lv_iconst (v := 0) hx hb d_Model_load_201 (by decide) ?_
                          refine lv_istore (lv' := [(7, .int 0), (6, .int (nI d)), (2, .int (nI o)), (4, .int (Z.2.1.2.2.2.2 q)), (3, .int (nI k)), (0, .ref (ad 0)), (1, .int (nI n))]) hx hb d_Model_load_202 hl (by decide) rfl (fun ls hl => ?_)
                          refine lv_aload_n hx hb d_Model_load_204 rfl (lv_at hl 5 rfl) ?_
                          refine va_get (D := (dC, dI)) (ci := 4) (v := .ref (ad 6)) (C := R_Model) (T := F_Model) (N := 30) hx hb hts (fun q hq => List.mem_cons_of_mem _ (i_Model q hq)) hown hK hP 0 rfl rfl 8 (by decide) (hts _ (List.mem_cons_of_mem _ m_14_1)) (fun _ h9 => h9) rfl d_Model_load_205 ?_
                          refine lv_iload_n hx hb d_Model_load_208 rfl (lv_at hl 2 rfl) ?_
                          refine lv_iconst (v := 3) hx hb d_Model_load_209 (by decide) ?_
                          refine lv_iload_n hx hb d_Model_load_210 rfl (lv_at hl 4 rfl) ?_
                          refine lv_imul hx hb d_Model_load_211 ?_
                          refine lv_iload hx hb d_Model_load_212 (lv_at hl 1 rfl) ?_
                          refine lv_iadd hx hb d_Model_load_214 ?_
                          have hin : vp_in (nI o) 700 := by first | assumption | exact vp_in_nI (by omega) (by decide)
                          refine va_iast (f := Y.2.1.2.2.2.1) (n := 700) hx hb hK hP hD hS 6 0 rfl rfl hin d_Model_load_215 (fun H locs hP hD hS => ?_)
                          rw [nI_clamp (show o < 2 ^ 31 by omega)] at hP hD
                          have hP : va_P (dC, dI) classes (mr_W cA cZ ad ((Y.1.1, Y.1.2.1, Y.1.2.2.1, Y.1.2.2.2.1, Y.1.2.2.2.2), (Y.2.1.1, Y.2.1.2.1, Y.2.1.2.2.1, (upd Y.2.1.2.2.2.1 o ((3 * (nI k)) + (nI d))), Y.2.1.2.2.2.2), (Y.2.2.1.1, Y.2.2.1.2.1, Y.2.2.1.2.2.1, Y.2.2.1.2.2.2.1, Y.2.2.1.2.2.2.2), (Y.2.2.2.1.1, Y.2.2.2.1.2.1, Y.2.2.2.1.2.2.1, Y.2.2.2.1.2.2.2.1, Y.2.2.2.1.2.2.2.2), (Y.2.2.2.2.1.1, Y.2.2.2.2.1.2.1, Y.2.2.2.2.1.2.2.1, Y.2.2.2.2.1.2.2.2.1, Y.2.2.2.2.1.2.2.2.2), (Y.2.2.2.2.2.1, Y.2.2.2.2.2.2.1, Y.2.2.2.2.2.2.2.1, Y.2.2.2.2.2.2.2.2.1, Y.2.2.2.2.2.2.2.2.2))) H := hP
                          have hD : va_D A (mr_W cA cZ ad ((Y.1.1, Y.1.2.1, Y.1.2.2.1, Y.1.2.2.2.1, Y.1.2.2.2.2), (Y.2.1.1, Y.2.1.2.1, Y.2.1.2.2.1, (upd Y.2.1.2.2.2.1 o ((3 * (nI k)) + (nI d))), Y.2.1.2.2.2.2), (Y.2.2.1.1, Y.2.2.1.2.1, Y.2.2.1.2.2.1, Y.2.2.1.2.2.2.1, Y.2.2.1.2.2.2.2), (Y.2.2.2.1.1, Y.2.2.2.1.2.1, Y.2.2.2.1.2.2.1, Y.2.2.2.1.2.2.2.1, Y.2.2.2.1.2.2.2.2), (Y.2.2.2.2.1.1, Y.2.2.2.2.1.2.1, Y.2.2.2.2.1.2.2.1, Y.2.2.2.2.1.2.2.2.1, Y.2.2.2.2.1.2.2.2.2), (Y.2.2.2.2.2.1, Y.2.2.2.2.2.2.1, Y.2.2.2.2.2.2.2.1, Y.2.2.2.2.2.2.2.2.1, Y.2.2.2.2.2.2.2.2.2))) := hD
                          refine lv_aload_n hx hb d_Model_load_216 rfl (lv_at hl 5 rfl) ?_
                          refine va_get (D := (dC, dI)) (ci := 4) (v := .ref (ad 7)) (C := R_Model) (T := F_Model) (N := 30) hx hb hts (fun q hq => List.mem_cons_of_mem _ (i_Model q hq)) hown hK hP 0 rfl rfl 9 (by decide) (hts _ (List.mem_cons_of_mem _ m_14_2)) (fun _ h9 => h9) rfl d_Model_load_217 ?_
                          refine lv_iload_n hx hb d_Model_load_220 rfl (lv_at hl 2 rfl) ?_
                          refine lv_iload hx hb d_Model_load_221 (lv_at hl 3 rfl) ?_
                          refine lv_iload hx hb d_Model_load_223 (lv_at hl 0 rfl) ?_
                          refine lv_if_eq hx hb d_Model_load_225 rfl (fun h225 => ?_) (fun h225 => by exact absurd h225 (by decide))
                          refine lv_iconst (v := 0) hx hb d_Model_load_232 (by decide) ?_
                          refine lv_iadd hx hb d_Model_load_233 ?_
                          have hin : vp_in (nI o) 700 := by first | assumption | exact vp_in_nI (by omega) (by decide)
                          refine va_iast (f := Y.2.1.2.2.2.2) (n := 700) hx hb hK hP hD hS 7 0 rfl rfl hin d_Model_load_234 (fun H locs hP hD hS => ?_)
                          rw [nI_clamp (show o < 2 ^ 31 by omega)] at hP hD
                          have hP : va_P (dC, dI) classes (mr_W cA cZ ad ((Y.1.1, Y.1.2.1, Y.1.2.2.1, Y.1.2.2.2.1, Y.1.2.2.2.2), (Y.2.1.1, Y.2.1.2.1, Y.2.1.2.2.1, (upd Y.2.1.2.2.2.1 o ((3 * (nI k)) + (nI d))), (upd Y.2.1.2.2.2.2 o ((Z.2.1.2.2.2.2 q) + 0))), (Y.2.2.1.1, Y.2.2.1.2.1, Y.2.2.1.2.2.1, Y.2.2.1.2.2.2.1, Y.2.2.1.2.2.2.2), (Y.2.2.2.1.1, Y.2.2.2.1.2.1, Y.2.2.2.1.2.2.1, Y.2.2.2.1.2.2.2.1, Y.2.2.2.1.2.2.2.2), (Y.2.2.2.2.1.1, Y.2.2.2.2.1.2.1, Y.2.2.2.2.1.2.2.1, Y.2.2.2.2.1.2.2.2.1, Y.2.2.2.2.1.2.2.2.2), (Y.2.2.2.2.2.1, Y.2.2.2.2.2.2.1, Y.2.2.2.2.2.2.2.1, Y.2.2.2.2.2.2.2.2.1, Y.2.2.2.2.2.2.2.2.2))) H := hP
                          have hD : va_D A (mr_W cA cZ ad ((Y.1.1, Y.1.2.1, Y.1.2.2.1, Y.1.2.2.2.1, Y.1.2.2.2.2), (Y.2.1.1, Y.2.1.2.1, Y.2.1.2.2.1, (upd Y.2.1.2.2.2.1 o ((3 * (nI k)) + (nI d))), (upd Y.2.1.2.2.2.2 o ((Z.2.1.2.2.2.2 q) + 0))), (Y.2.2.1.1, Y.2.2.1.2.1, Y.2.2.1.2.2.1, Y.2.2.1.2.2.2.1, Y.2.2.1.2.2.2.2), (Y.2.2.2.1.1, Y.2.2.2.1.2.1, Y.2.2.2.1.2.2.1, Y.2.2.2.1.2.2.2.1, Y.2.2.2.1.2.2.2.2), (Y.2.2.2.2.1.1, Y.2.2.2.2.1.2.1, Y.2.2.2.2.1.2.2.1, Y.2.2.2.2.1.2.2.2.1, Y.2.2.2.2.1.2.2.2.2), (Y.2.2.2.2.2.1, Y.2.2.2.2.2.2.1, Y.2.2.2.2.2.2.2.1, Y.2.2.2.2.2.2.2.2.1, Y.2.2.2.2.2.2.2.2.2))) := hD
                          refine lv_iinc (k := 2) (v := (nI (o + 1))) (lv' := [(2, .int (nI (o + 1))), (7, .int 0), (6, .int (nI d)), (4, .int (Z.2.1.2.2.2.2 q)), (3, .int (nI k)), (0, .ref (ad 0)), (1, .int (nI n))]) hx hb d_Model_load_235 hl rfl ((nI_succ o).symm) (by decide) rfl (fun ls hl => ?_)
                          refine lv_iinc (k := 2) (v := (nI d - 1)) (lv' := [(6, .int (nI d - 1)), (2, .int (nI (o + 1))), (7, .int 0), (4, .int (Z.2.1.2.2.2.2 q)), (3, .int (nI k)), (0, .ref (ad 0)), (1, .int (nI n))]) hx hb d_Model_load_238 hl rfl ((Int32.sub_eq_add_neg (nI d) 1).symm) (by decide) rfl (fun ls hl => ?_)
                          refine lv_goto hx hb d_Model_load_241 rfl ?_
                          have hst : ((Y.1.1, Y.1.2.1, Y.1.2.2.1, Y.1.2.2.2.1, Y.1.2.2.2.2), (Y.2.1.1, Y.2.1.2.1, Y.2.1.2.2.1, (upd Y.2.1.2.2.2.1 o ((3 * (nI k)) + (nI d))), (upd Y.2.1.2.2.2.2 o ((Z.2.1.2.2.2.2 q) + 0))), (Y.2.2.1.1, Y.2.2.1.2.1, Y.2.2.1.2.2.1, Y.2.2.1.2.2.2.1, Y.2.2.1.2.2.2.2), (Y.2.2.2.1.1, Y.2.2.2.1.2.1, Y.2.2.2.1.2.2.1, Y.2.2.2.1.2.2.2.1, Y.2.2.2.1.2.2.2.2), (Y.2.2.2.2.1.1, Y.2.2.2.2.1.2.1, Y.2.2.2.2.1.2.2.1, Y.2.2.2.2.1.2.2.2.1, Y.2.2.2.2.1.2.2.2.2), (Y.2.2.2.2.2.1, Y.2.2.2.2.2.2.1, Y.2.2.2.2.2.2.2.1, Y.2.2.2.2.2.2.2.2.1, Y.2.2.2.2.2.2.2.2.2)) = s_ar (s_ow Y (upd (r_ow Y) o (3 * nI k + nI d))) (upd (r_ar Y) o ((Z.2.1.2.2.2.2 q) + tm_binds (r_so Y k) (nI d))) := by
                            unfold tm_binds; (first | rw [if_pos h166] | rw [if_neg h166]); (first | rw [if_pos h177] | rw [if_neg h177]); (first | rw [if_pos h188] | rw [if_neg h188]); (first | rw [if_pos h194] | rw [if_neg h194]); rfl
                          rw [hst] at hP hD
                          exact ih2 d (o + 1) (s_ar (s_ow Y (upd (r_ow Y) o (3 * nI k + nI d))) (upd (r_ar Y) o ((Z.2.1.2.2.2.2 q) + tm_binds (r_so Y k) (nI d)))) _ _ _ (by omega) (by omega) (by omega) (by exact md_ows_in how (by omega) (by omega)) (by rw [hqi, md_inN]) (lv_sub hl [0, 1, 3, 4, 5, 6] rfl) hP hD hS
                        · refine lv_iconst (v := 1) hx hb d_Model_load_197 (by decide) ?_
                          refine lv_goto hx hb d_Model_load_198 rfl ?_
                          refine lv_istore (lv' := [(7, .int 1), (6, .int (nI d)), (2, .int (nI o)), (4, .int (Z.2.1.2.2.2.2 q)), (3, .int (nI k)), (0, .ref (ad 0)), (1, .int (nI n))]) hx hb d_Model_load_202 hl (by decide) rfl (fun ls hl => ?_)
                          refine lv_aload_n hx hb d_Model_load_204 rfl (lv_at hl 5 rfl) ?_
                          refine va_get (D := (dC, dI)) (ci := 4) (v := .ref (ad 6)) (C := R_Model) (T := F_Model) (N := 30) hx hb hts (fun q hq => List.mem_cons_of_mem _ (i_Model q hq)) hown hK hP 0 rfl rfl 8 (by decide) (hts _ (List.mem_cons_of_mem _ m_14_1)) (fun _ h9 => h9) rfl d_Model_load_205 ?_
                          refine lv_iload_n hx hb d_Model_load_208 rfl (lv_at hl 2 rfl) ?_
                          refine lv_iconst (v := 3) hx hb d_Model_load_209 (by decide) ?_
                          refine lv_iload_n hx hb d_Model_load_210 rfl (lv_at hl 4 rfl) ?_
                          refine lv_imul hx hb d_Model_load_211 ?_
                          refine lv_iload hx hb d_Model_load_212 (lv_at hl 1 rfl) ?_
                          refine lv_iadd hx hb d_Model_load_214 ?_
                          have hin : vp_in (nI o) 700 := by first | assumption | exact vp_in_nI (by omega) (by decide)
                          refine va_iast (f := Y.2.1.2.2.2.1) (n := 700) hx hb hK hP hD hS 6 0 rfl rfl hin d_Model_load_215 (fun H locs hP hD hS => ?_)
                          rw [nI_clamp (show o < 2 ^ 31 by omega)] at hP hD
                          have hP : va_P (dC, dI) classes (mr_W cA cZ ad ((Y.1.1, Y.1.2.1, Y.1.2.2.1, Y.1.2.2.2.1, Y.1.2.2.2.2), (Y.2.1.1, Y.2.1.2.1, Y.2.1.2.2.1, (upd Y.2.1.2.2.2.1 o ((3 * (nI k)) + (nI d))), Y.2.1.2.2.2.2), (Y.2.2.1.1, Y.2.2.1.2.1, Y.2.2.1.2.2.1, Y.2.2.1.2.2.2.1, Y.2.2.1.2.2.2.2), (Y.2.2.2.1.1, Y.2.2.2.1.2.1, Y.2.2.2.1.2.2.1, Y.2.2.2.1.2.2.2.1, Y.2.2.2.1.2.2.2.2), (Y.2.2.2.2.1.1, Y.2.2.2.2.1.2.1, Y.2.2.2.2.1.2.2.1, Y.2.2.2.2.1.2.2.2.1, Y.2.2.2.2.1.2.2.2.2), (Y.2.2.2.2.2.1, Y.2.2.2.2.2.2.1, Y.2.2.2.2.2.2.2.1, Y.2.2.2.2.2.2.2.2.1, Y.2.2.2.2.2.2.2.2.2))) H := hP
                          have hD : va_D A (mr_W cA cZ ad ((Y.1.1, Y.1.2.1, Y.1.2.2.1, Y.1.2.2.2.1, Y.1.2.2.2.2), (Y.2.1.1, Y.2.1.2.1, Y.2.1.2.2.1, (upd Y.2.1.2.2.2.1 o ((3 * (nI k)) + (nI d))), Y.2.1.2.2.2.2), (Y.2.2.1.1, Y.2.2.1.2.1, Y.2.2.1.2.2.1, Y.2.2.1.2.2.2.1, Y.2.2.1.2.2.2.2), (Y.2.2.2.1.1, Y.2.2.2.1.2.1, Y.2.2.2.1.2.2.1, Y.2.2.2.1.2.2.2.1, Y.2.2.2.1.2.2.2.2), (Y.2.2.2.2.1.1, Y.2.2.2.2.1.2.1, Y.2.2.2.2.1.2.2.1, Y.2.2.2.2.1.2.2.2.1, Y.2.2.2.2.1.2.2.2.2), (Y.2.2.2.2.2.1, Y.2.2.2.2.2.2.1, Y.2.2.2.2.2.2.2.1, Y.2.2.2.2.2.2.2.2.1, Y.2.2.2.2.2.2.2.2.2))) := hD
                          refine lv_aload_n hx hb d_Model_load_216 rfl (lv_at hl 5 rfl) ?_
                          refine va_get (D := (dC, dI)) (ci := 4) (v := .ref (ad 7)) (C := R_Model) (T := F_Model) (N := 30) hx hb hts (fun q hq => List.mem_cons_of_mem _ (i_Model q hq)) hown hK hP 0 rfl rfl 9 (by decide) (hts _ (List.mem_cons_of_mem _ m_14_2)) (fun _ h9 => h9) rfl d_Model_load_217 ?_
                          refine lv_iload_n hx hb d_Model_load_220 rfl (lv_at hl 2 rfl) ?_
                          refine lv_iload hx hb d_Model_load_221 (lv_at hl 3 rfl) ?_
                          refine lv_iload hx hb d_Model_load_223 (lv_at hl 0 rfl) ?_
                          refine lv_if_eq hx hb d_Model_load_225 rfl (fun h225 => by exact absurd h225 (by decide)) (fun h225 => ?_)
                          refine lv_iconst (v := 1) hx hb d_Model_load_228 (by decide) ?_
                          refine lv_goto hx hb d_Model_load_229 rfl ?_
                          refine lv_iadd hx hb d_Model_load_233 ?_
                          have hin : vp_in (nI o) 700 := by first | assumption | exact vp_in_nI (by omega) (by decide)
                          refine va_iast (f := Y.2.1.2.2.2.2) (n := 700) hx hb hK hP hD hS 7 0 rfl rfl hin d_Model_load_234 (fun H locs hP hD hS => ?_)
                          rw [nI_clamp (show o < 2 ^ 31 by omega)] at hP hD
                          have hP : va_P (dC, dI) classes (mr_W cA cZ ad ((Y.1.1, Y.1.2.1, Y.1.2.2.1, Y.1.2.2.2.1, Y.1.2.2.2.2), (Y.2.1.1, Y.2.1.2.1, Y.2.1.2.2.1, (upd Y.2.1.2.2.2.1 o ((3 * (nI k)) + (nI d))), (upd Y.2.1.2.2.2.2 o ((Z.2.1.2.2.2.2 q) + 1))), (Y.2.2.1.1, Y.2.2.1.2.1, Y.2.2.1.2.2.1, Y.2.2.1.2.2.2.1, Y.2.2.1.2.2.2.2), (Y.2.2.2.1.1, Y.2.2.2.1.2.1, Y.2.2.2.1.2.2.1, Y.2.2.2.1.2.2.2.1, Y.2.2.2.1.2.2.2.2), (Y.2.2.2.2.1.1, Y.2.2.2.2.1.2.1, Y.2.2.2.2.1.2.2.1, Y.2.2.2.2.1.2.2.2.1, Y.2.2.2.2.1.2.2.2.2), (Y.2.2.2.2.2.1, Y.2.2.2.2.2.2.1, Y.2.2.2.2.2.2.2.1, Y.2.2.2.2.2.2.2.2.1, Y.2.2.2.2.2.2.2.2.2))) H := hP
                          have hD : va_D A (mr_W cA cZ ad ((Y.1.1, Y.1.2.1, Y.1.2.2.1, Y.1.2.2.2.1, Y.1.2.2.2.2), (Y.2.1.1, Y.2.1.2.1, Y.2.1.2.2.1, (upd Y.2.1.2.2.2.1 o ((3 * (nI k)) + (nI d))), (upd Y.2.1.2.2.2.2 o ((Z.2.1.2.2.2.2 q) + 1))), (Y.2.2.1.1, Y.2.2.1.2.1, Y.2.2.1.2.2.1, Y.2.2.1.2.2.2.1, Y.2.2.1.2.2.2.2), (Y.2.2.2.1.1, Y.2.2.2.1.2.1, Y.2.2.2.1.2.2.1, Y.2.2.2.1.2.2.2.1, Y.2.2.2.1.2.2.2.2), (Y.2.2.2.2.1.1, Y.2.2.2.2.1.2.1, Y.2.2.2.2.1.2.2.1, Y.2.2.2.2.1.2.2.2.1, Y.2.2.2.2.1.2.2.2.2), (Y.2.2.2.2.2.1, Y.2.2.2.2.2.2.1, Y.2.2.2.2.2.2.2.1, Y.2.2.2.2.2.2.2.2.1, Y.2.2.2.2.2.2.2.2.2))) := hD
                          refine lv_iinc (k := 2) (v := (nI (o + 1))) (lv' := [(2, .int (nI (o + 1))), (7, .int 1), (6, .int (nI d)), (4, .int (Z.2.1.2.2.2.2 q)), (3, .int (nI k)), (0, .ref (ad 0)), (1, .int (nI n))]) hx hb d_Model_load_235 hl rfl ((nI_succ o).symm) (by decide) rfl (fun ls hl => ?_)
                          refine lv_iinc (k := 2) (v := (nI d - 1)) (lv' := [(6, .int (nI d - 1)), (2, .int (nI (o + 1))), (7, .int 1), (4, .int (Z.2.1.2.2.2.2 q)), (3, .int (nI k)), (0, .ref (ad 0)), (1, .int (nI n))]) hx hb d_Model_load_238 hl rfl ((Int32.sub_eq_add_neg (nI d) 1).symm) (by decide) rfl (fun ls hl => ?_)
                          refine lv_goto hx hb d_Model_load_241 rfl ?_
                          have hst : ((Y.1.1, Y.1.2.1, Y.1.2.2.1, Y.1.2.2.2.1, Y.1.2.2.2.2), (Y.2.1.1, Y.2.1.2.1, Y.2.1.2.2.1, (upd Y.2.1.2.2.2.1 o ((3 * (nI k)) + (nI d))), (upd Y.2.1.2.2.2.2 o ((Z.2.1.2.2.2.2 q) + 1))), (Y.2.2.1.1, Y.2.2.1.2.1, Y.2.2.1.2.2.1, Y.2.2.1.2.2.2.1, Y.2.2.1.2.2.2.2), (Y.2.2.2.1.1, Y.2.2.2.1.2.1, Y.2.2.2.1.2.2.1, Y.2.2.2.1.2.2.2.1, Y.2.2.2.1.2.2.2.2), (Y.2.2.2.2.1.1, Y.2.2.2.2.1.2.1, Y.2.2.2.2.1.2.2.1, Y.2.2.2.2.1.2.2.2.1, Y.2.2.2.2.1.2.2.2.2), (Y.2.2.2.2.2.1, Y.2.2.2.2.2.2.1, Y.2.2.2.2.2.2.2.1, Y.2.2.2.2.2.2.2.2.1, Y.2.2.2.2.2.2.2.2.2)) = s_ar (s_ow Y (upd (r_ow Y) o (3 * nI k + nI d))) (upd (r_ar Y) o ((Z.2.1.2.2.2.2 q) + tm_binds (r_so Y k) (nI d))) := by
                            unfold tm_binds; (first | rw [if_pos h166] | rw [if_neg h166]); (first | rw [if_pos h177] | rw [if_neg h177]); (first | rw [if_pos h188] | rw [if_neg h188]); (first | rw [if_pos h194] | rw [if_neg h194]); rfl
                          rw [hst] at hP hD
                          exact ih2 d (o + 1) (s_ar (s_ow Y (upd (r_ow Y) o (3 * nI k + nI d))) (upd (r_ar Y) o ((Z.2.1.2.2.2.2 q) + tm_binds (r_so Y k) (nI d)))) _ _ _ (by omega) (by omega) (by omega) (by exact md_ows_in how (by omega) (by omega)) (by rw [hqi, md_inN]) (lv_sub hl [0, 1, 3, 4, 5, 6] rfl) hP hD hS
              exact loop mm mm q ((Z.1.1, Z.1.2.1, Z.1.2.2.1, Z.1.2.2.2.1, Z.1.2.2.2.2), ((upd Z.2.1.1 k (Z.1.1 k)), (upd Z.2.1.2.1 k (Z.1.2.1 k)), (upd Z.2.1.2.2.1 (Z.2.1.2.2.2.1 q).toNatClampNeg (nI k)), Z.2.1.2.2.2.1, Z.2.1.2.2.2.2), (Z.2.2.1.1, Z.2.2.1.2.1, Z.2.2.1.2.2.1, Z.2.2.1.2.2.2.1, Z.2.2.1.2.2.2.2), (Z.2.2.2.1.1, Z.2.2.2.1.2.1, Z.2.2.2.1.2.2.1, Z.2.2.2.1.2.2.2.1, Z.2.2.2.1.2.2.2.2), (Z.2.2.2.2.1.1, Z.2.2.2.2.1.2.1, Z.2.2.2.2.1.2.2.1, Z.2.2.2.2.1.2.2.2.1, Z.2.2.2.2.1.2.2.2.2), (Z.2.2.2.2.2.1, Z.2.2.2.2.2.2.1, Z.2.2.2.2.2.2.2.1, Z.2.2.2.2.2.2.2.2.1, Z.2.2.2.2.2.2.2.2.2)) _ _ _ (by rfl) (by omega) (by exact hmm) (by intro j hj; have q9 := hl1 j (by omega); rw [hl1s] at q9; exact q9) (by rw [hq9, hmm2, nI_clamp (by omega), hl2s]) (lv_sub hl [0, 3, 2, 4, 5, 6] rfl) hP hD hS
            · refine lv_iconst (v := 1) hx hb d_Model_load_109 (by decide) ?_
              refine lv_iload_n hx hb d_Model_load_110 rfl (lv_at hl 2 rfl) ?_
              refine lv_iadd hx hb d_Model_load_111 ?_
              refine lm_ri (v := (1 + (nI k))) hx hb hr hlocks ((Z.1.1, Z.1.2.1, Z.1.2.2.1, Z.1.2.2.2.1, Z.1.2.2.2.2), (Z.2.1.1, Z.2.1.2.1, (upd Z.2.1.2.2.1 (Z.2.1.2.2.2.1 q).toNatClampNeg (nI k)), Z.2.1.2.2.2.1, Z.2.1.2.2.2.2), (Z.2.2.1.1, Z.2.2.1.2.1, Z.2.2.1.2.2.1, Z.2.2.1.2.2.2.1, Z.2.2.1.2.2.2.2), (Z.2.2.2.1.1, Z.2.2.2.1.2.1, Z.2.2.2.1.2.2.1, Z.2.2.2.1.2.2.2.1, Z.2.2.2.1.2.2.2.2), (Z.2.2.2.2.1.1, Z.2.2.2.2.1.2.1, Z.2.2.2.2.1.2.2.1, Z.2.2.2.2.1.2.2.2.1, Z.2.2.2.2.1.2.2.2.2), (Z.2.2.2.2.2.1, Z.2.2.2.2.2.2.1, Z.2.2.2.2.2.2.2.1, Z.2.2.2.2.2.2.2.2.1, Z.2.2.2.2.2.2.2.2.2)) ?_ hP hK hD hS d_Model_load_112
              rw [hq, md_loadN, if_neg (by omega), show q + 1 - 1 = q from rfl, if_pos ⟨by rw [hl1s]; exact h95, by rw [hl1s]; exact Int32.not_lt.mp h106⟩, hl1s]; exact ⟨rfl, rfl⟩
      · refine lv_iconst (v := 1) hx hb d_Model_load_52 (by decide) ?_
        refine lv_iload_n hx hb d_Model_load_53 rfl (lv_at hl 0 rfl) ?_
        refine lv_iadd hx hb d_Model_load_54 ?_
        refine lm_ri (v := (1 + (nI k))) hx hb hr hlocks Z ?_ hP hK hD hS d_Model_load_55
        rw [hq, md_loadN, if_pos (tm_oz h49 (by omega))]; exact ⟨rfl, rfl⟩
  exact loop n 0 1 ((aso, axs, 0, 0, 0), (asr, anu, ach, (upd aow (0 : Int32).toNatClampNeg (-1)), (upd aar (0 : Int32).toNatClampNeg 0)), (ais, aon, atw, awh, afi), (ase, afr, amo, 0, asp), (afo, aba, ano, aen, avs), (avo, avt, are, atd, ale)) _ _ _ (by omega) (by omega) (by intro j hj; rw [show j = 0 by omega]; exact Or.inl rfl) (by unfold md_load; rw [show (r_to ((aso, axs, (nI n), ath, asi), (asr, anu, ach, aow, aar), (ais, aon, atw, awh, afi), (ase, afr, amo, ass, asp), (afo, aba, ano, aen, avs), (avo, avt, are, atd, ale))).toNatClampNeg = n from nI_clamp (by omega)]; rfl) (lv_sub hl [0, 1, 3, 2] rfl) hP hD hS
