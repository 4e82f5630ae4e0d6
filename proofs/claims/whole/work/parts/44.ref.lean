set_option maxHeartbeats 4000000 in
set_option maxRecDepth 100000 in
theorem c_Model_part (l : Launch) (dC : Nat → ClassId) (dI : Nat → Nat → Nat) (cA cZ : ClassId)  (ad : Nat → Nat) (sz : Nat) (S : ZNS) (x : Int32) (hx1 : vp_in x 200) (ht : vp_in (md_pt S x) 256) (hz : ∃ g : Nat, g < 200 ∧ r_fr S = nI (g + 1)) : Met l y_Model_part w_Model_part ({ frames := 3, cells := 0, slots := 0, locals := 65 } : Room) (va_Pc [.ref (ad 0), .int x] (lm_pre (dC, dI) classes [(cA, .int), (cZ, .boolean)] (mr_W cA cZ ad S) sz lm_no)) (va_Qi (fun (r : Int32) (u : ZNS) => r = (md_part S x).1 ∧ u = (md_part S x).2) (fun u => lm_at (dC, dI) classes [(cA, .int), (cZ, .boolean)] (va_A (mr_W cA cZ ad S) sz) (mr_W cA cZ ad u)) (va_A (mr_W cA cZ ad S) sz)) 0 0 (va_A (mr_W cA cZ ad S) sz) := by
  obtain ⟨⟨aso, axs, ato, ath, asi⟩, ⟨asr, anu, ach, aow, aar⟩, ⟨ais, aon, atw, awh, afi⟩, ⟨ase, afr, amo, ass, asp⟩, ⟨afo, aba, ano, aen, avs⟩, ⟨avo, avt, are, atd, ale⟩⟩ := S
  obtain ⟨g, hz, hzz⟩ := hz
  have hzz : afr = nI (g + 1) := hzz
  subst hzz
  refine lm_met (fun A => va_Qi (fun (r : Int32) (u : ZNS) => r = (md_part ((aso, axs, ato, ath, asi), (asr, anu, ach, aow, aar), (ais, aon, atw, awh, afi), (ase, (nI (g + 1)), amo, ass, asp), (afo, aba, ano, aen, avs), (avo, avt, are, atd, ale)) x).1 ∧ u = (md_part ((aso, axs, ato, ath, asi), (asr, anu, ach, aow, aar), (ais, aon, atw, awh, afi), (ase, (nI (g + 1)), amo, ass, asp), (afo, aba, ano, aen, avs), (avo, avt, are, atd, ale)) x).2) (fun u => lm_at (dC, dI) classes [(cA, .int), (cZ, .boolean)] A (mr_W cA cZ ad u)) A) (by decide) rfl (Nat.le_of_ble_eq_true rfl) ?_
  intro p e s m below meth c A hx hb hr hts hown hlocks hname hml hK hP hD hA hE hsz hAe hS ls hl
  replace hl : lv_has ls 3 [(0, .ref (ad 0)), (1, .int x)] := hl
  clear hAe hsz
  refine lv_aload_n hx hb d_Model_part_0 rfl (lv_at hl 0 rfl) ?_
  refine va_get (D := (dC, dI)) (ci := 4) (v := .ref (ad 3)) (C := R_Model) (T := F_Model) (N := 30) hx hb hts (fun q hq => List.mem_cons_of_mem _ (i_Model q hq)) hown hK hP 0 rfl rfl 4 (by decide) (hts _ (List.mem_cons_of_mem _ m_13_21)) (fun _ h9 => h9) rfl d_Model_part_1 ?_
  refine lv_iload_n hx hb d_Model_part_4 rfl (lv_at hl 1 rfl) ?_
  have hin : vp_in x 200 := by first | assumption | exact vp_in_nI (by omega) (by decide)
  refine va_iald (f := asr) (n := 200) hx hb hK hP 3 0 rfl rfl hin d_Model_part_5 ?_
  refine lv_bipush (v := 12) hx hb d_Model_part_6 (by decide) ?_
  refine lv_icmp_ne hx hb d_Model_part_8 rfl (fun h8 => ?_) (fun h8 => ?_)
  · refine lv_aload_n hx hb d_Model_part_18 rfl (lv_at hl 0 rfl) ?_
    refine va_get (D := (dC, dI)) (ci := 4) (v := .int avt) (C := R_Model) (T := F_Model) (N := 30) hx hb hts (fun q hq => List.mem_cons_of_mem _ (i_Model q hq)) hown hK hP 0 rfl rfl 29 (by decide) (hts _ (List.mem_cons_of_mem _ m_14_22)) (fun _ h9 => h9) rfl d_Model_part_19 ?_
    have htt : vp_in avt 256 := by
      have q := ht; unfold md_pt at q; rw [if_neg h8] at q; exact q
    refine lv_istore_n (lv' := [(2, .int avt), (0, .ref (ad 0)), (1, .int x)]) hx hb d_Model_part_22 rfl hl (by decide) rfl (fun ls hl => ?_)
    refine lv_aload_n hx hb d_Model_part_23 rfl (lv_at hl 1 rfl) ?_
    refine va_get (D := (dC, dI)) (ci := 4) (v := .ref (ad 8)) (C := R_Model) (T := F_Model) (N := 30) hx hb hts (fun q hq => List.mem_cons_of_mem _ (i_Model q hq)) hown hK hP 0 rfl rfl 10 (by decide) (hts _ (List.mem_cons_of_mem _ m_14_3)) (fun _ h9 => h9) rfl d_Model_part_24 ?_
    refine lv_iload_n hx hb d_Model_part_27 rfl (lv_at hl 0 rfl) ?_
    have hin : vp_in avt 256 := by exact htt
    refine va_iald (f := ais) (n := 256) hx hb hK hP 8 0 rfl rfl hin d_Model_part_28 ?_
    refine lv_iconst (v := 4) hx hb d_Model_part_29 (by decide) ?_
    refine lv_icmp_ne hx hb d_Model_part_30 rfl (fun h30 => ?_) (fun h30 => ?_)
    · refine lv_aload_n hx hb d_Model_part_39 rfl (lv_at hl 1 rfl) ?_
      refine lv_dup hx hb d_Model_part_40 rfl ?_
      refine va_get (D := (dC, dI)) (ci := 4) (v := .int (nI (g + 1))) (C := R_Model) (T := F_Model) (N := 30) hx hb hts (fun q hq => List.mem_cons_of_mem _ (i_Model q hq)) hown hK hP 0 rfl rfl 19 (by decide) (hts _ (List.mem_cons_of_mem _ m_14_12)) (fun _ h9 => h9) rfl d_Model_part_41 ?_
      refine lv_iconst (v := 1) hx hb d_Model_part_44 (by decide) ?_
      refine lv_isub hx hb d_Model_part_45 ?_
      refine lv_topi (fun z_ e_ => ?_)
      have e_ : z_ = nI g := e_.trans (nI_pred g)
      subst e_
      refine va_put (D := (dC, dI)) (ci := 4) (v := .int (nI g)) (ty := .int) (C := R_Model) (T := F_Model) (N := 30) hx hb hts (fun q hq => List.mem_cons_of_mem _ (i_Model q hq)) t_Model t_Model_ok n_Model hown hK hP hD hS 0 rfl rfl 19 (by decide) (hts _ (List.mem_cons_of_mem _ m_14_12)) (fun _ h9 => h9) rfl (by decide +kernel) rfl rfl (Nat.le_of_ble_eq_true rfl) d_Model_part_46 (fun H locs hP hD hS => ?_)
      have hP : va_P (dC, dI) classes (mr_W cA cZ ad ((aso, axs, ato, ath, asi), (asr, anu, ach, aow, aar), (ais, aon, atw, awh, afi), (ase, (nI g), amo, ass, asp), (afo, aba, ano, aen, avs), (avo, avt, are, atd, ale))) H := hP
      have hD : va_D A (mr_W cA cZ ad ((aso, axs, ato, ath, asi), (asr, anu, ach, aow, aar), (ais, aon, atw, awh, afi), (ase, (nI g), amo, ass, asp), (afo, aba, ano, aen, avs), (avo, avt, are, atd, ale))) := hD
      refine lv_aload_n hx hb d_Model_part_49 rfl (lv_at hl 1 rfl) ?_
      refine lv_iload_n hx hb d_Model_part_50 rfl (lv_at hl 0 rfl) ?_
      refine lv_iconst (v := 1) hx hb d_Model_part_51 (by decide) ?_
      refine lm_vi (b := ad 0) (As := [.int avt, .int 1]) (rest := []) (wr := ([] : va_W)) ⟨hx, hb, hml, hown, hts⟩ hK hP hD hS hA [0, 1, 2, 3, 4, 5, 6, 7, 8, 9, 10, 11, 12, 13, 14, 15] [] rfl rfl (by decide) (by decide) (by decide) (c_Model_asks l dC dI cA cZ ad _ ((aso, axs, ato, ath, asi), (asr, anu, ach, aow, aar), (ais, aon, atw, awh, afi), (ase, (nI g), amo, ass, asp), (afo, aba, ano, aen, avs), (avo, avt, are, atd, ale)) avt 1 (by exact htt) (by exact ⟨g, by omega, rfl, fun _ => hz⟩)) (cwV 2 hts (lm_gV m_17_17 m_17_18 m_20_15 m_0_5 m_17_19) rfl rfl rfl (by decide +kernel) ⟨Nat.le_of_ble_eq_true rfl, Nat.le_of_ble_eq_true rfl⟩) (va_recv (q0 := 0) hK hP rfl rfl) lm_bl_no (fun _ _ _ => trivial) hl.1 rfl rfl (Nat.le_of_ble_eq_true rfl) d_Model_part_52 ⟨Nat.le_of_ble_eq_true rfl, Nat.le_of_ble_eq_true rfl⟩ (fun r52 u52 H locs w52 hP hD hS => ?_)
      obtain ⟨e_r52, w52⟩ := w52
      have hP : va_P (dC, dI) classes (mr_W cA cZ ad u52) H := hP
      have hD : va_D A (mr_W cA cZ ad u52) := hD
      refine lm_rz (v := r52) hx hb hr hlocks (by rw [e_r52]; exact md_asks_b _ _ _) u52 ?_ hP hK hD hS d_Model_part_55
      have hfr1 : s_fr ((aso, axs, ato, ath, asi), (asr, anu, ach, aow, aar), (ais, aon, atw, awh, afi), (ase, (nI (g + 1)), amo, ass, asp), (afo, aba, ano, aen, avs), (avo, avt, are, atd, ale)) (r_fr ((aso, axs, ato, ath, asi), (asr, anu, ach, aow, aar), (ais, aon, atw, awh, afi), (ase, (nI (g + 1)), amo, ass, asp), (afo, aba, ano, aen, avs), (avo, avt, are, atd, ale)) - 1) = ((aso, axs, ato, ath, asi), (asr, anu, ach, aow, aar), (ais, aon, atw, awh, afi), (ase, (nI g), amo, ass, asp), (afo, aba, ano, aen, avs), (avo, avt, are, atd, ale)) := by
        show s_fr ((aso, axs, ato, ath, asi), (asr, anu, ach, aow, aar), (ais, aon, atw, awh, afi), (ase, (nI (g + 1)), amo, ass, asp), (afo, aba, ano, aen, avs), (avo, avt, are, atd, ale)) (nI (g + 1) - 1) = _
        rw [nI_pred]; rfl
      unfold md_part md_pt; rw [hfr1]; (first | rw [if_pos h8] | rw [if_neg h8]); rw [if_neg h30]; exact ⟨e_r52, w52⟩
    · refine lv_aload_n hx hb d_Model_part_33 rfl (lv_at hl 1 rfl) ?_
      refine lv_iconst (v := 4) hx hb d_Model_part_34 (by decide) ?_
      refine lm_vi (b := ad 0) (As := [.int 4]) (rest := []) (wr := ([] : va_W)) ⟨hx, hb, hml, hown, hts⟩ hK hP hD hS hA [0, 1, 2, 3, 4, 5, 6, 7, 8, 9, 10, 11, 12, 13, 14, 15] [] rfl rfl (by decide) (by decide) (by decide) (c_Model_stops l dC dI cA cZ ad _ ((aso, axs, ato, ath, asi), (asr, anu, ach, aow, aar), (ais, aon, atw, awh, afi), (ase, (nI (g + 1)), amo, ass, asp), (afo, aba, ano, aen, avs), (avo, avt, are, atd, ale)) 4 ) (cwV 1 hts (lm_gV m_16_8 m_16_9 m_20_5 m_0_5 m_16_10) rfl rfl rfl (by decide +kernel) ⟨Nat.le_of_ble_eq_true rfl, Nat.le_of_ble_eq_true rfl⟩) (va_recv (q0 := 0) hK hP rfl rfl) lm_bl_no (fun _ _ _ => trivial) hl.1 rfl rfl (Nat.le_of_ble_eq_true rfl) d_Model_part_35 ⟨Nat.le_of_ble_eq_true rfl, Nat.le_of_ble_eq_true rfl⟩ (fun r35 u35 H locs w35 hP hD hS => ?_)
      obtain ⟨e_r35, w35⟩ := w35
      replace e_r35 := e_r35.symm
      subst e_r35
      have w35 : u35 = ((aso, axs, ato, ath, asi), (asr, anu, ach, aow, aar), (ais, aon, atw, awh, afi), (ase, (nI (g + 1)), amo, 4, asp), (afo, aba, ano, aen, avs), (avo, avt, are, atd, ale)) := w35
      subst w35
      have hP : va_P (dC, dI) classes (mr_W cA cZ ad ((aso, axs, ato, ath, asi), (asr, anu, ach, aow, aar), (ais, aon, atw, awh, afi), (ase, (nI (g + 1)), amo, 4, asp), (afo, aba, ano, aen, avs), (avo, avt, are, atd, ale))) H := hP
      have hD : va_D A (mr_W cA cZ ad ((aso, axs, ato, ath, asi), (asr, anu, ach, aow, aar), (ais, aon, atw, awh, afi), (ase, (nI (g + 1)), amo, 4, asp), (afo, aba, ano, aen, avs), (avo, avt, are, atd, ale))) := hD
      refine lm_rz (v := 1) hx hb hr hlocks (by decide) ((aso, axs, ato, ath, asi), (asr, anu, ach, aow, aar), (ais, aon, atw, awh, afi), (ase, (nI (g + 1)), amo, 4, asp), (afo, aba, ano, aen, avs), (avo, avt, are, atd, ale)) ?_ hP hK hD hS d_Model_part_38
      unfold md_part md_pt; (first | rw [if_pos h8] | rw [if_neg h8]); rw [if_pos h30]; exact ⟨rfl, rfl⟩
  · refine lv_aload_n hx hb d_Model_part_11 rfl (lv_at hl 0 rfl) ?_
    refine va_get (D := (dC, dI)) (ci := 4) (v := .int avo) (C := R_Model) (T := F_Model) (N := 30) hx hb hts (fun q hq => List.mem_cons_of_mem _ (i_Model q hq)) hown hK hP 0 rfl rfl 28 (by decide) (hts _ (List.mem_cons_of_mem _ m_14_21)) (fun _ h9 => h9) rfl d_Model_part_12 ?_
    refine lv_goto hx hb d_Model_part_15 rfl ?_
    have htt : vp_in avo 256 := by
      have q := ht; unfold md_pt at q; rw [if_pos h8] at q; exact q
    refine lv_istore_n (lv' := [(2, .int avo), (0, .ref (ad 0)), (1, .int x)]) hx hb d_Model_part_22 rfl hl (by decide) rfl (fun ls hl => ?_)
    refine lv_aload_n hx hb d_Model_part_23 rfl (lv_at hl 1 rfl) ?_
    refine va_get (D := (dC, dI)) (ci := 4) (v := .ref (ad 8)) (C := R_Model) (T := F_Model) (N := 30) hx hb hts (fun q hq => List.mem_cons_of_mem _ (i_Model q hq)) hown hK hP 0 rfl rfl 10 (by decide) (hts _ (List.mem_cons_of_mem _ m_14_3)) (fun _ h9 => h9) rfl d_Model_part_24 ?_
    refine lv_iload_n hx hb d_Model_part_27 rfl (lv_at hl 0 rfl) ?_
    have hin : vp_in avo 256 := by exact htt
    refine va_iald (f := ais) (n := 256) hx hb hK hP 8 0 rfl rfl hin d_Model_part_28 ?_
    refine lv_iconst (v := 4) hx hb d_Model_part_29 (by decide) ?_
    refine lv_icmp_ne hx hb d_Model_part_30 rfl (fun h30 => ?_) (fun h30 => ?_)
    · refine lv_aload_n hx hb d_Model_part_39 rfl (lv_at hl 1 rfl) ?_
      refine lv_dup hx hb d_Model_part_40 rfl ?_
      refine va_get (D := (dC, dI)) (ci := 4) (v := .int (nI (g + 1))) (C := R_Model) (T := F_Model) (N := 30) hx hb hts (fun q hq => List.mem_cons_of_mem _ (i_Model q hq)) hown hK hP 0 rfl rfl 19 (by decide) (hts _ (List.mem_cons_of_mem _ m_14_12)) (fun _ h9 => h9) rfl d_Model_part_41 ?_
      refine lv_iconst (v := 1) hx hb d_Model_part_44 (by decide) ?_
      refine lv_isub hx hb d_Model_part_45 ?_
      refine lv_topi (fun z_ e_ => ?_)
      have e_ : z_ = nI g := e_.trans (nI_pred g)
      subst e_
      refine va_put (D := (dC, dI)) (ci := 4) (v := .int (nI g)) (ty := .int) (C := R_Model) (T := F_Model) (N := 30) hx hb hts (fun q hq => List.mem_cons_of_mem _ (i_Model q hq)) t_Model t_Model_ok n_Model hown hK hP hD hS 0 rfl rfl 19 (by decide) (hts _ (List.mem_cons_of_mem _ m_14_12)) (fun _ h9 => h9) rfl (by decide +kernel) rfl rfl (Nat.le_of_ble_eq_true rfl) d_Model_part_46 (fun H locs hP hD hS => ?_)
      have hP : va_P (dC, dI) classes (mr_W cA cZ ad ((aso, axs, ato, ath, asi), (asr, anu, ach, aow, aar), (ais, aon, atw, awh, afi), (ase, (nI g), amo, ass, asp), (afo, aba, ano, aen, avs), (avo, avt, are, atd, ale))) H := hP
      have hD : va_D A (mr_W cA cZ ad ((aso, axs, ato, ath, asi), (asr, anu, ach, aow, aar), (ais, aon, atw, awh, afi), (ase, (nI g), amo, ass, asp), (afo, aba, ano, aen, avs), (avo, avt, are, atd, ale))) := hD
      refine lv_aload_n hx hb d_Model_part_49 rfl (lv_at hl 1 rfl) ?_
      refine lv_iload_n hx hb d_Model_part_50 rfl (lv_at hl 0 rfl) ?_
      refine lv_iconst (v := 1) hx hb d_Model_part_51 (by decide) ?_
      refine lm_vi (b := ad 0) (As := [.int avo, .int 1]) (rest := []) (wr := ([] : va_W)) ⟨hx, hb, hml, hown, hts⟩ hK hP hD hS hA [0, 1, 2, 3, 4, 5, 6, 7, 8, 9, 10, 11, 12, 13, 14, 15] [] rfl rfl (by decide) (by decide) (by decide) (c_Model_asks l dC dI cA cZ ad _ ((aso, axs, ato, ath, asi), (asr, anu, ach, aow, aar), (ais, aon, atw, awh, afi), (ase, (nI g), amo, ass, asp), (afo, aba, ano, aen, avs), (avo, avt, are, atd, ale)) avo 1 (by exact htt) (by exact ⟨g, by omega, rfl, fun _ => hz⟩)) (cwV 2 hts (lm_gV m_17_17 m_17_18 m_20_15 m_0_5 m_17_19) rfl rfl rfl (by decide +kernel) ⟨Nat.le_of_ble_eq_true rfl, Nat.le_of_ble_eq_true rfl⟩) (va_recv (q0 := 0) hK hP rfl rfl) lm_bl_no (fun _ _ _ => trivial) hl.1 rfl rfl (Nat.le_of_ble_eq_true rfl) d_Model_part_52 ⟨Nat.le_of_ble_eq_true rfl, Nat.le_of_ble_eq_true rfl⟩ (fun r52 u52 H locs w52 hP hD hS => ?_)
      obtain ⟨e_r52, w52⟩ := w52
      have hP : va_P (dC, dI) classes (mr_W cA cZ ad u52) H := hP
      have hD : va_D A (mr_W cA cZ ad u52) := hD
      refine lm_rz (v := r52) hx hb hr hlocks (by rw [e_r52]; exact md_asks_b _ _ _) u52 ?_ hP hK hD hS d_Model_part_55
      have hfr1 : s_fr ((aso, axs, ato, ath, asi), (asr, anu, ach, aow, aar), (ais, aon, atw, awh, afi), (ase, (nI (g + 1)), amo, ass, asp), (afo, aba, ano, aen, avs), (avo, avt, are, atd, ale)) (r_fr ((aso, axs, ato, ath, asi), (asr, anu, ach, aow, aar), (ais, aon, atw, awh, afi), (ase, (nI (g + 1)), amo, ass, asp), (afo, aba, ano, aen, avs), (avo, avt, are, atd, ale)) - 1) = ((aso, axs, ato, ath, asi), (asr, anu, ach, aow, aar), (ais, aon, atw, awh, afi), (ase, (nI g), amo, ass, asp), (afo, aba, ano, aen, avs), (avo, avt, are, atd, ale)) := by
        show s_fr ((aso, axs, ato, ath, asi), (asr, anu, ach, aow, aar), (ais, aon, atw, awh, afi), (ase, (nI (g + 1)), amo, ass, asp), (afo, aba, ano, aen, avs), (avo, avt, are, atd, ale)) (nI (g + 1) - 1) = _
        rw [nI_pred]; rfl
      unfold md_part md_pt; rw [hfr1]; (first | rw [if_pos h8] | rw [if_neg h8]); rw [if_neg h30]; exact ⟨e_r52, w52⟩
    · refine lv_aload_n hx hb d_Model_part_33 rfl (lv_at hl 1 rfl) ?_
      refine lv_iconst (v := 4) hx hb d_Model_part_34 (by decide) ?_
      refine lm_vi (b := ad 0) (As := [.int 4]) (rest := []) (wr := ([] : va_W)) ⟨hx, hb, hml, hown, hts⟩ hK hP hD hS hA [0, 1, 2, 3, 4, 5, 6, 7, 8, 9, 10, 11, 12, 13, 14, 15] [] rfl rfl (by decide) (by decide) (by decide) (c_Model_stops l dC dI cA cZ ad _ ((aso, axs, ato, ath, asi), (asr, anu, ach, aow, aar), (ais, aon, atw, awh, afi), (ase, (nI (g + 1)), amo, ass, asp), (afo, aba, ano, aen, avs), (avo, avt, are, atd, ale)) 4 ) (cwV 1 hts (lm_gV m_16_8 m_16_9 m_20_5 m_0_5 m_16_10) rfl rfl rfl (by decide +kernel) ⟨Nat.le_of_ble_eq_true rfl, Nat.le_of_ble_eq_true rfl⟩) (va_recv (q0 := 0) hK hP rfl rfl) lm_bl_no (fun _ _ _ => trivial) hl.1 rfl rfl (Nat.le_of_ble_eq_true rfl) d_Model_part_35 ⟨Nat.le_of_ble_eq_true rfl, Nat.le_of_ble_eq_true rfl⟩ (fun r35 u35 H locs w35 hP hD hS => ?_)
      obtain ⟨e_r35, w35⟩ := w35
      replace e_r35 := e_r35.symm
      subst e_r35
      have w35 : u35 = ((aso, axs, ato, ath, asi), (asr, anu, ach, aow, aar), (ais, aon, atw, awh, afi), (ase, (nI (g + 1)), amo, 4, asp), (afo, aba, ano, aen, avs), (avo, avt, are, atd, ale)) := w35
      subst w35
      have hP : va_P (dC, dI) classes (mr_W cA cZ ad ((aso, axs, ato, ath, asi), (asr, anu, ach, aow, aar), (ais, aon, atw, awh, afi), (ase, (nI (g + 1)), amo, 4, asp), (afo, aba, ano, aen, avs), (avo, avt, are, atd, ale))) H := hP
      have hD : va_D A (mr_W cA cZ ad ((aso, axs, ato, ath, asi), (asr, anu, ach, aow, aar), (ais, aon, atw, awh, afi), (ase, (nI (g + 1)), amo, 4, asp), (afo, aba, ano, aen, avs), (avo, avt, are, atd, ale))) := hD
      refine lm_rz (v := 1) hx hb hr hlocks (by decide) ((aso, axs, ato, ath, asi), (asr, anu, ach, aow, aar), (ais, aon, atw, awh, afi), (ase, (nI (g + 1)), amo, 4, asp), (afo, aba, ano, aen, avs), (avo, avt, are, atd, ale)) ?_ hP hK hD hS d_Model_part_38
      unfold md_part md_pt; (first | rw [if_pos h8] | rw [if_neg h8]); rw [if_pos h30]; exact ⟨rfl, rfl⟩
set_option maxHeartbeats 4000000 in
set_option maxRecDepth 100000 in
theorem c_Model_returns (l : Launch) (dC : Nat → ClassId) (dI : Nat → Nat → Nat) (cA cZ : ClassId)  (ad : Nat → Nat) (sz : Nat) (S : ZNS)  (hsf : sr_bk S) : Met l y_Model_returns w_Model_returns ({ frames := 4, cells := 0, slots := 0, locals := 87 } : Room) (va_Pc [.ref (ad 0)] (lm_pre (dC, dI) classes [(cA, .int), (cZ, .boolean)] (mr_W cA cZ ad S) sz lm_no)) (va_Qi (fun (r : Int32) (u : ZNS) => r = (md_ret S).1 ∧ u = (md_ret S).2) (fun u => lm_at (dC, dI) classes [(cA, .int), (cZ, .boolean)] (va_A (mr_W cA cZ ad S) sz) (mr_W cA cZ ad u)) (va_A (mr_W cA cZ ad S) sz)) 0 0 (va_A (mr_W cA cZ ad S) sz) := by
  obtain ⟨⟨aso, axs, ato, ath, asi⟩, ⟨asr, anu, ach, aow, aar⟩, ⟨ais, aon, atw, awh, afi⟩, ⟨ase, afr, amo, ass, asp⟩, ⟨afo, aba, ano, aen, avs⟩, ⟨avo, avt, are, atd, ale⟩⟩ := S
  obtain ⟨hi, hch, hbk⟩ := hsf
  obtain ⟨z, hz, hfr, hfc⟩ := id hi.2.1
  have hfr : afr = nI z := hfr
  subst hfr
  refine lm_met (fun A => va_Qi (fun (r : Int32) (u : ZNS) => r = (md_ret ((aso, axs, ato, ath, asi), (asr, anu, ach, aow, aar), (ais, aon, atw, awh, afi), (ase, (nI z), amo, ass, asp), (afo, aba, ano, aen, avs), (avo, avt, are, atd, ale))).1 ∧ u = (md_ret ((aso, axs, ato, ath, asi), (asr, anu, ach, aow, aar), (ais, aon, atw, awh, afi), (ase, (nI z), amo, ass, asp), (afo, aba, ano, aen, avs), (avo, avt, are, atd, ale))).2) (fun u => lm_at (dC, dI) classes [(cA, .int), (cZ, .boolean)] A (mr_W cA cZ ad u)) A) (by decide) rfl (Nat.le_of_ble_eq_true rfl) ?_
  intro p e s m below meth c A hx hb hr hts hown hlocks hname hml hK hP hD hA hE hsz hAe hS ls hl
  replace hl : lv_has ls 6 [(0, .ref (ad 0))] := hl
  clear hAe hsz
  refine lv_aload_n hx hb d_Model_returns_0 rfl (lv_at hl 0 rfl) ?_
  refine va_get (D := (dC, dI)) (ci := 4) (v := .int (nI z)) (C := R_Model) (T := F_Model) (N := 30) hx hb hts (fun q hq => List.mem_cons_of_mem _ (i_Model q hq)) hown hK hP 0 rfl rfl 19 (by decide) (hts _ (List.mem_cons_of_mem _ m_14_12)) (fun _ h9 => h9) rfl d_Model_returns_1 ?_
  refine lv_if_ne hx hb d_Model_returns_4 rfl (fun h4 => ?_) (fun h4 => ?_)
  · obtain ⟨g, rfl⟩ : ∃ g, z = g + 1 := by
      rcases z with _ | g
      · exact absurd nI_0 h4
      · exact ⟨g, rfl⟩
    obtain ⟨hwh, hb0, hb1, hb2, hb5⟩ := hbk g rfl (by omega)
    have hfr1 : s_fr ((aso, axs, ato, ath, asi), (asr, anu, ach, aow, aar), (ais, aon, atw, awh, afi), (ase, (nI (g + 1)), amo, ass, asp), (afo, aba, ano, aen, avs), (avo, avt, are, atd, ale)) (r_fr ((aso, axs, ato, ath, asi), (asr, anu, ach, aow, aar), (ais, aon, atw, awh, afi), (ase, (nI (g + 1)), amo, ass, asp), (afo, aba, ano, aen, avs), (avo, avt, are, atd, ale)) - 1) = ((aso, axs, ato, ath, asi), (asr, anu, ach, aow, aar), (ais, aon, atw, awh, afi), (ase, (nI g), amo, ass, asp), (afo, aba, ano, aen, avs), (avo, avt, are, atd, ale)) := by
      show s_fr ((aso, axs, ato, ath, asi), (asr, anu, ach, aow, aar), (ais, aon, atw, awh, afi), (ase, (nI (g + 1)), amo, ass, asp), (afo, aba, ano, aen, avs), (avo, avt, are, atd, ale)) (nI (g + 1) - 1) = _
      rw [nI_pred]; rfl
    refine lv_aload_n hx hb d_Model_returns_14 rfl (lv_at hl 0 rfl) ?_
    refine va_get (D := (dC, dI)) (ci := 4) (v := .int (nI (g + 1))) (C := R_Model) (T := F_Model) (N := 30) hx hb hts (fun q hq => List.mem_cons_of_mem _ (i_Model q hq)) hown hK hP 0 rfl rfl 19 (by decide) (hts _ (List.mem_cons_of_mem _ m_14_12)) (fun _ h9 => h9) rfl d_Model_returns_15 ?_
    refine lv_iconst (v := 1) hx hb d_Model_returns_18 (by decide) ?_
    refine lv_isub hx hb d_Model_returns_19 ?_
    refine lv_topi (fun z_ e_ => ?_)
    have e_ : z_ = nI g := e_.trans (nI_pred g)
    subst e_
    refine lv_istore_n (lv' := [(1, .int (nI g)), (0, .ref (ad 0))]) hx hb d_Model_returns_20 rfl hl (by decide) rfl (fun ls hl => ?_)
    refine lv_aload_n hx hb d_Model_returns_21 rfl (lv_at hl 1 rfl) ?_
    refine va_get (D := (dC, dI)) (ci := 4) (v := .ref (ad 14)) (C := R_Model) (T := F_Model) (N := 30) hx hb hts (fun q hq => List.mem_cons_of_mem _ (i_Model q hq)) hown hK hP 0 rfl rfl 17 (by decide) (hts _ (List.mem_cons_of_mem _ m_14_10)) (fun _ h9 => h9) rfl d_Model_returns_22 ?_
    refine lv_iload_n hx hb d_Model_returns_25 rfl (lv_at hl 0 rfl) ?_
    have hin : vp_in (nI g) 200 := by first | assumption | exact vp_in_nI (by omega) (by decide)
    refine va_iald (f := afi) (n := 200) hx hb hK hP 14 0 rfl rfl hin d_Model_returns_26 ?_
    rw [nI_clamp (show g < 2 ^ 31 by omega)]
    refine lv_istore_n (lv' := [(2, .int (afi g)), (1, .int (nI g)), (0, .ref (ad 0))]) hx hb d_Model_returns_27 rfl hl (by decide) rfl (fun ls hl => ?_)
    refine lv_aload_n hx hb d_Model_returns_28 rfl (lv_at hl 2 rfl) ?_
    refine va_get (D := (dC, dI)) (ci := 4) (v := .ref (ad 15)) (C := R_Model) (T := F_Model) (N := 30) hx hb hts (fun q hq => List.mem_cons_of_mem _ (i_Model q hq)) hown hK hP 0 rfl rfl 18 (by decide) (hts _ (List.mem_cons_of_mem _ m_14_11)) (fun _ h9 => h9) rfl d_Model_returns_29 ?_
    refine lv_iload_n hx hb d_Model_returns_32 rfl (lv_at hl 1 rfl) ?_
    have hin : vp_in (nI g) 200 := by first | assumption | exact vp_in_nI (by omega) (by decide)
    refine va_iald (f := ase) (n := 200) hx hb hK hP 15 0 rfl rfl hin d_Model_returns_33 ?_
    rw [nI_clamp (show g < 2 ^ 31 by omega)]
    refine lv_istore_n (lv' := [(3, .int (ase g)), (2, .int (afi g)), (1, .int (nI g)), (0, .ref (ad 0))]) hx hb d_Model_returns_34 rfl hl (by decide) rfl (fun ls hl => ?_)
    refine lv_aload_n hx hb d_Model_returns_35 rfl (lv_at hl 3 rfl) ?_
    refine va_get (D := (dC, dI)) (ci := 4) (v := .int avo) (C := R_Model) (T := F_Model) (N := 30) hx hb hts (fun q hq => List.mem_cons_of_mem _ (i_Model q hq)) hown hK hP 0 rfl rfl 28 (by decide) (hts _ (List.mem_cons_of_mem _ m_14_21)) (fun _ h9 => h9) rfl d_Model_returns_36 ?_
    refine lv_istore (lv' := [(4, .int avo), (3, .int (ase g)), (2, .int (afi g)), (1, .int (nI g)), (0, .ref (ad 0))]) hx hb d_Model_returns_39 hl (by decide) rfl (fun ls hl => ?_)
    refine lv_aload_n hx hb d_Model_returns_41 rfl (lv_at hl 4 rfl) ?_
    refine va_get (D := (dC, dI)) (ci := 4) (v := .ref (ad 13)) (C := R_Model) (T := F_Model) (N := 30) hx hb hts (fun q hq => List.mem_cons_of_mem _ (i_Model q hq)) hown hK hP 0 rfl rfl 16 (by decide) (hts _ (List.mem_cons_of_mem _ m_14_9)) (fun _ h9 => h9) rfl d_Model_returns_42 ?_
    refine lv_iload_n hx hb d_Model_returns_45 rfl (lv_at hl 3 rfl) ?_
    have hin : vp_in (nI g) 200 := by first | assumption | exact vp_in_nI (by omega) (by decide)
    refine va_iald (f := awh) (n := 200) hx hb hK hP 13 0 rfl rfl hin d_Model_returns_46 ?_
    rw [nI_clamp (show g < 2 ^ 31 by omega)]
    refine lv_if_eq hx hb d_Model_returns_47 rfl (fun h47 => ?_) (fun h47 => ?_)
    · refine lv_iconst (v := 1) hx hb d_Model_returns_86 (by decide) ?_
      refine lv_goto hx hb d_Model_returns_87 rfl ?_
      refine lv_istore (lv' := [(5, .int 1), (4, .int avo), (3, .int (ase g)), (2, .int (afi g)), (1, .int (nI g)), (0, .ref (ad 0))]) hx hb d_Model_returns_91 hl (by decide) rfl (fun ls hl => ?_)
      refine lv_iload hx hb d_Model_returns_93 (lv_at hl 0 rfl) ?_
      refine lv_if_ne hx hb d_Model_returns_95 rfl (fun h95 => ?_) (fun h95 => by exact absurd h95 (by decide))
      refine lv_aload_n hx hb d_Model_returns_104 rfl (lv_at hl 5 rfl) ?_
      refine va_get (D := (dC, dI)) (ci := 4) (v := .ref (ad 13)) (C := R_Model) (T := F_Model) (N := 30) hx hb hts (fun q hq => List.mem_cons_of_mem _ (i_Model q hq)) hown hK hP 0 rfl rfl 16 (by decide) (hts _ (List.mem_cons_of_mem _ m_14_9)) (fun _ h9 => h9) rfl d_Model_returns_105 ?_
      refine lv_iload_n hx hb d_Model_returns_108 rfl (lv_at hl 4 rfl) ?_
      have hin : vp_in (nI g) 200 := by first | assumption | exact vp_in_nI (by omega) (by decide)
      refine va_iald (f := awh) (n := 200) hx hb hK hP 13 0 rfl rfl hin d_Model_returns_109 ?_
      rw [nI_clamp (show g < 2 ^ 31 by omega)]
      refine lv_tableIn (tgt := 144) hx hb d_Model_returns_110 (by rw [h47]; decide) (by rw [h47]; decide) (by rw [h47]; rfl) rfl ?_
      refine lv_aload_n hx hb d_Model_returns_144 rfl (lv_at hl 5 rfl) ?_
      refine lv_dup hx hb d_Model_returns_145 rfl ?_
      refine va_get (D := (dC, dI)) (ci := 4) (v := .int (nI (g + 1))) (C := R_Model) (T := F_Model) (N := 30) hx hb hts (fun q hq => List.mem_cons_of_mem _ (i_Model q hq)) hown hK hP 0 rfl rfl 19 (by decide) (hts _ (List.mem_cons_of_mem _ m_14_12)) (fun _ h9 => h9) rfl d_Model_returns_146 ?_
      refine lv_iconst (v := 1) hx hb d_Model_returns_149 (by decide) ?_
      refine lv_isub hx hb d_Model_returns_150 ?_
      refine lv_topi (fun z_ e_ => ?_)
      have e_ : z_ = nI g := e_.trans (nI_pred g)
      subst e_
      refine va_put (D := (dC, dI)) (ci := 4) (v := .int (nI g)) (ty := .int) (C := R_Model) (T := F_Model) (N := 30) hx hb hts (fun q hq => List.mem_cons_of_mem _ (i_Model q hq)) t_Model t_Model_ok n_Model hown hK hP hD hS 0 rfl rfl 19 (by decide) (hts _ (List.mem_cons_of_mem _ m_14_12)) (fun _ h9 => h9) rfl (by decide +kernel) rfl rfl (Nat.le_of_ble_eq_true rfl) d_Model_returns_151 (fun H locs hP hD hS => ?_)
      have hP : va_P (dC, dI) classes (mr_W cA cZ ad ((aso, axs, ato, ath, asi), (asr, anu, ach, aow, aar), (ais, aon, atw, awh, afi), (ase, (nI g), amo, ass, asp), (afo, aba, ano, aen, avs), (avo, avt, are, atd, ale))) H := hP
      have hD : va_D A (mr_W cA cZ ad ((aso, axs, ato, ath, asi), (asr, anu, ach, aow, aar), (ais, aon, atw, awh, afi), (ase, (nI g), amo, ass, asp), (afo, aba, ano, aen, avs), (avo, avt, are, atd, ale))) := hD
      refine lv_aload_n hx hb d_Model_returns_154 rfl (lv_at hl 5 rfl) ?_
      refine va_get (D := (dC, dI)) (ci := 4) (v := .ref (ad 8)) (C := R_Model) (T := F_Model) (N := 30) hx hb hts (fun q hq => List.mem_cons_of_mem _ (i_Model q hq)) hown hK hP 0 rfl rfl 10 (by decide) (hts _ (List.mem_cons_of_mem _ m_14_3)) (fun _ h9 => h9) rfl d_Model_returns_155 ?_
      refine lv_iload_n hx hb d_Model_returns_158 rfl (lv_at hl 3 rfl) ?_
      refine lv_aload_n hx hb d_Model_returns_159 rfl (lv_at hl 5 rfl) ?_
      refine va_get (D := (dC, dI)) (ci := 4) (v := .int avs) (C := R_Model) (T := F_Model) (N := 30) hx hb hts (fun q hq => List.mem_cons_of_mem _ (i_Model q hq)) hown hK hP 0 rfl rfl 27 (by decide) (hts _ (List.mem_cons_of_mem _ m_14_20)) (fun _ h9 => h9) rfl d_Model_returns_160 ?_
      have hin : vp_in (afi g) 256 := by exact hb0 h47
      refine va_iast (f := ais) (n := 256) hx hb hK hP hD hS 8 0 rfl rfl hin d_Model_returns_163 (fun H locs hP hD hS => ?_)
      have hP : va_P (dC, dI) classes (mr_W cA cZ ad ((aso, axs, ato, ath, asi), (asr, anu, ach, aow, aar), ((upd ais (afi g).toNatClampNeg avs), aon, atw, awh, afi), (ase, (nI g), amo, ass, asp), (afo, aba, ano, aen, avs), (avo, avt, are, atd, ale))) H := hP
      have hD : va_D A (mr_W cA cZ ad ((aso, axs, ato, ath, asi), (asr, anu, ach, aow, aar), ((upd ais (afi g).toNatClampNeg avs), aon, atw, awh, afi), (ase, (nI g), amo, ass, asp), (afo, aba, ano, aen, avs), (avo, avt, are, atd, ale))) := hD
      refine lv_aload_n hx hb d_Model_returns_164 rfl (lv_at hl 5 rfl) ?_
      refine va_get (D := (dC, dI)) (ci := 4) (v := .ref (ad 9)) (C := R_Model) (T := F_Model) (N := 30) hx hb hts (fun q hq => List.mem_cons_of_mem _ (i_Model q hq)) hown hK hP 0 rfl rfl 11 (by decide) (hts _ (List.mem_cons_of_mem _ m_14_4)) (fun _ h9 => h9) rfl d_Model_returns_165 ?_
      refine lv_iload_n hx hb d_Model_returns_168 rfl (lv_at hl 3 rfl) ?_
      refine lv_aload_n hx hb d_Model_returns_169 rfl (lv_at hl 5 rfl) ?_
      refine va_get (D := (dC, dI)) (ci := 4) (v := .int avo) (C := R_Model) (T := F_Model) (N := 30) hx hb hts (fun q hq => List.mem_cons_of_mem _ (i_Model q hq)) hown hK hP 0 rfl rfl 28 (by decide) (hts _ (List.mem_cons_of_mem _ m_14_21)) (fun _ h9 => h9) rfl d_Model_returns_170 ?_
      have hin : vp_in (afi g) 256 := by exact hb0 h47
      refine va_iast (f := aon) (n := 256) hx hb hK hP hD hS 9 0 rfl rfl hin d_Model_returns_173 (fun H locs hP hD hS => ?_)
      have hP : va_P (dC, dI) classes (mr_W cA cZ ad ((aso, axs, ato, ath, asi), (asr, anu, ach, aow, aar), ((upd ais (afi g).toNatClampNeg avs), (upd aon (afi g).toNatClampNeg avo), atw, awh, afi), (ase, (nI g), amo, ass, asp), (afo, aba, ano, aen, avs), (avo, avt, are, atd, ale))) H := hP
      have hD : va_D A (mr_W cA cZ ad ((aso, axs, ato, ath, asi), (asr, anu, ach, aow, aar), ((upd ais (afi g).toNatClampNeg avs), (upd aon (afi g).toNatClampNeg avo), atw, awh, afi), (ase, (nI g), amo, ass, asp), (afo, aba, ano, aen, avs), (avo, avt, are, atd, ale))) := hD
      refine lv_aload_n hx hb d_Model_returns_174 rfl (lv_at hl 5 rfl) ?_
      refine va_get (D := (dC, dI)) (ci := 4) (v := .ref (ad 10)) (C := R_Model) (T := F_Model) (N := 30) hx hb hts (fun q hq => List.mem_cons_of_mem _ (i_Model q hq)) hown hK hP 0 rfl rfl 12 (by decide) (hts _ (List.mem_cons_of_mem _ m_14_5)) (fun _ h9 => h9) rfl d_Model_returns_175 ?_
      refine lv_iload_n hx hb d_Model_returns_178 rfl (lv_at hl 3 rfl) ?_
      refine lv_aload_n hx hb d_Model_returns_179 rfl (lv_at hl 5 rfl) ?_
      refine va_get (D := (dC, dI)) (ci := 4) (v := .int avt) (C := R_Model) (T := F_Model) (N := 30) hx hb hts (fun q hq => List.mem_cons_of_mem _ (i_Model q hq)) hown hK hP 0 rfl rfl 29 (by decide) (hts _ (List.mem_cons_of_mem _ m_14_22)) (fun _ h9 => h9) rfl d_Model_returns_180 ?_
      have hin : vp_in (afi g) 256 := by exact hb0 h47
      refine va_iast (f := atw) (n := 256) hx hb hK hP hD hS 10 0 rfl rfl hin d_Model_returns_183 (fun H locs hP hD hS => ?_)
      have hP : va_P (dC, dI) classes (mr_W cA cZ ad ((aso, axs, ato, ath, asi), (asr, anu, ach, aow, aar), ((upd ais (afi g).toNatClampNeg avs), (upd aon (afi g).toNatClampNeg avo), (upd atw (afi g).toNatClampNeg avt), awh, afi), (ase, (nI g), amo, ass, asp), (afo, aba, ano, aen, avs), (avo, avt, are, atd, ale))) H := hP
      have hD : va_D A (mr_W cA cZ ad ((aso, axs, ato, ath, asi), (asr, anu, ach, aow, aar), ((upd ais (afi g).toNatClampNeg avs), (upd aon (afi g).toNatClampNeg avo), (upd atw (afi g).toNatClampNeg avt), awh, afi), (ase, (nI g), amo, ass, asp), (afo, aba, ano, aen, avs), (avo, avt, are, atd, ale))) := hD
      refine lv_iconst (v := 0) hx hb d_Model_returns_184 (by decide) ?_
      refine lm_rz (v := 0) hx hb hr hlocks (by decide) ((aso, axs, ato, ath, asi), (asr, anu, ach, aow, aar), ((upd ais (afi g).toNatClampNeg avs), (upd aon (afi g).toNatClampNeg avo), (upd atw (afi g).toNatClampNeg avt), awh, afi), (ase, (nI g), amo, ass, asp), (afo, aba, ano, aen, avs), (avo, avt, are, atd, ale)) ?_ hP hK hD hS d_Model_returns_185
      unfold md_ret; rw [if_neg h4, show (r_fr ((aso, axs, ato, ath, asi), (asr, anu, ach, aow, aar), (ais, aon, atw, awh, afi), (ase, (nI (g + 1)), amo, ass, asp), (afo, aba, ano, aen, avs), (avo, avt, are, atd, ale)) - 1).toNatClampNeg = g by show (nI (g + 1) - 1).toNatClampNeg = g; rw [nI_pred]; exact nI_clamp (by omega)]
      unfold md_ret1; (first | rw [if_pos h47] | rw [if_neg h47]); unfold md_upd; (try rw [hfr1]); (try rw [← e_r287]); exact ⟨rfl, rfl⟩
    · refine lv_aload_n hx hb d_Model_returns_50 rfl (lv_at hl 4 rfl) ?_
      refine va_get (D := (dC, dI)) (ci := 4) (v := .int avs) (C := R_Model) (T := F_Model) (N := 30) hx hb hts (fun q hq => List.mem_cons_of_mem _ (i_Model q hq)) hown hK hP 0 rfl rfl 27 (by decide) (hts _ (List.mem_cons_of_mem _ m_14_20)) (fun _ h9 => h9) rfl d_Model_returns_51 ?_
      refine lv_aload_n hx hb d_Model_returns_54 rfl (lv_at hl 4 rfl) ?_
      refine va_get (D := (dC, dI)) (ci := 4) (v := .ref (ad 13)) (C := R_Model) (T := F_Model) (N := 30) hx hb hts (fun q hq => List.mem_cons_of_mem _ (i_Model q hq)) hown hK hP 0 rfl rfl 16 (by decide) (hts _ (List.mem_cons_of_mem _ m_14_9)) (fun _ h9 => h9) rfl d_Model_returns_55 ?_
      refine lv_iload_n hx hb d_Model_returns_58 rfl (lv_at hl 3 rfl) ?_
      have hin : vp_in (nI g) 200 := by first | assumption | exact vp_in_nI (by omega) (by decide)
      refine va_iald (f := awh) (n := 200) hx hb hK hP 13 0 rfl rfl hin d_Model_returns_59 ?_
      rw [nI_clamp (show g < 2 ^ 31 by omega)]
      refine lv_iconst (v := 1) hx hb d_Model_returns_60 (by decide) ?_
      refine lv_icmp_ne hx hb d_Model_returns_61 rfl (fun h61 => ?_) (fun h61 => ?_)
      · refine lv_aload_n hx hb d_Model_returns_68 rfl (lv_at hl 4 rfl) ?_
        refine va_get (D := (dC, dI)) (ci := 4) (v := .ref (ad 13)) (C := R_Model) (T := F_Model) (N := 30) hx hb hts (fun q hq => List.mem_cons_of_mem _ (i_Model q hq)) hown hK hP 0 rfl rfl 16 (by decide) (hts _ (List.mem_cons_of_mem _ m_14_9)) (fun _ h9 => h9) rfl d_Model_returns_69 ?_
        refine lv_iload_n hx hb d_Model_returns_72 rfl (lv_at hl 3 rfl) ?_
        have hin : vp_in (nI g) 200 := by first | assumption | exact vp_in_nI (by omega) (by decide)
        refine va_iald (f := awh) (n := 200) hx hb hK hP 13 0 rfl rfl hin d_Model_returns_73 ?_
        rw [nI_clamp (show g < 2 ^ 31 by omega)]
        refine lv_iconst (v := 5) hx hb d_Model_returns_74 (by decide) ?_
        refine lv_icmp_ne hx hb d_Model_returns_75 rfl (fun h75 => ?_) (fun h75 => ?_)
        · refine lv_iconst (v := 0) hx hb d_Model_returns_82 (by decide) ?_
          refine lv_icmp_ne hx hb d_Model_returns_83 rfl (fun h83 => ?_) (fun h83 => ?_)
          · refine lv_iconst (v := 0) hx hb d_Model_returns_90 (by decide) ?_
            refine lv_istore (lv' := [(5, .int 0), (4, .int avo), (3, .int (ase g)), (2, .int (afi g)), (1, .int (nI g)), (0, .ref (ad 0))]) hx hb d_Model_returns_91 hl (by decide) rfl (fun ls hl => ?_)
            refine lv_iload hx hb d_Model_returns_93 (lv_at hl 0 rfl) ?_
            refine lv_if_ne hx hb d_Model_returns_95 rfl (fun h95 => by exact absurd h95 (by decide)) (fun h95 => ?_)
            refine lv_aload_n hx hb d_Model_returns_98 rfl (lv_at hl 5 rfl) ?_
            refine lv_iconst (v := 3) hx hb d_Model_returns_99 (by decide) ?_
            refine lm_vi (b := ad 0) (As := [.int 3]) (rest := []) (wr := ([] : va_W)) ⟨hx, hb, hml, hown, hts⟩ hK hP hD hS hA [0, 1, 2, 3, 4, 5, 6, 7, 8, 9, 10, 11, 12, 13, 14, 15] [] rfl rfl (by decide) (by decide) (by decide) (c_Model_stops l dC dI cA cZ ad _ ((aso, axs, ato, ath, asi), (asr, anu, ach, aow, aar), (ais, aon, atw, awh, afi), (ase, (nI (g + 1)), amo, ass, asp), (afo, aba, ano, aen, avs), (avo, avt, are, atd, ale)) 3 ) (cwV 1 hts (lm_gV m_16_8 m_16_9 m_20_5 m_0_5 m_16_10) rfl rfl rfl (by decide +kernel) ⟨Nat.le_of_ble_eq_true rfl, Nat.le_of_ble_eq_true rfl⟩) (va_recv (q0 := 0) hK hP rfl rfl) lm_bl_no (fun _ _ _ => trivial) hl.1 rfl rfl (Nat.le_of_ble_eq_true rfl) d_Model_returns_100 ⟨Nat.le_of_ble_eq_true rfl, Nat.le_of_ble_eq_true rfl⟩ (fun r100 u100 H locs w100 hP hD hS => ?_)
            obtain ⟨e_r100, w100⟩ := w100
            replace e_r100 := e_r100.symm
            subst e_r100
            have w100 : u100 = ((aso, axs, ato, ath, asi), (asr, anu, ach, aow, aar), (ais, aon, atw, awh, afi), (ase, (nI (g + 1)), amo, 3, asp), (afo, aba, ano, aen, avs), (avo, avt, are, atd, ale)) := w100
            subst w100
            have hP : va_P (dC, dI) classes (mr_W cA cZ ad ((aso, axs, ato, ath, asi), (asr, anu, ach, aow, aar), (ais, aon, atw, awh, afi), (ase, (nI (g + 1)), amo, 3, asp), (afo, aba, ano, aen, avs), (avo, avt, are, atd, ale))) H := hP
            have hD : va_D A (mr_W cA cZ ad ((aso, axs, ato, ath, asi), (asr, anu, ach, aow, aar), (ais, aon, atw, awh, afi), (ase, (nI (g + 1)), amo, 3, asp), (afo, aba, ano, aen, avs), (avo, avt, are, atd, ale))) := hD
            refine lm_rz (v := 1) hx hb hr hlocks (by decide) ((aso, axs, ato, ath, asi), (asr, anu, ach, aow, aar), (ais, aon, atw, awh, afi), (ase, (nI (g + 1)), amo, 3, asp), (afo, aba, ano, aen, avs), (avo, avt, are, atd, ale)) ?_ hP hK hD hS d_Model_returns_103
            unfold md_ret; rw [if_neg h4, show (r_fr ((aso, axs, ato, ath, asi), (asr, anu, ach, aow, aar), (ais, aon, atw, awh, afi), (ase, (nI (g + 1)), amo, ass, asp), (afo, aba, ano, aen, avs), (avo, avt, are, atd, ale)) - 1).toNatClampNeg = g by show (nI (g + 1) - 1).toNatClampNeg = g; rw [nI_pred]; exact nI_clamp (by omega)]
            unfold md_ret1; (first | rw [if_pos h47] | rw [if_neg h47]); (first | rw [if_pos h61] | rw [if_neg h61]); (first | rw [if_pos h75] | rw [if_neg h75]); (first | rw [if_pos h83] | rw [if_neg h83]); exact ⟨rfl, rfl⟩
          · refine lv_iconst (v := 1) hx hb d_Model_returns_86 (by decide) ?_
            refine lv_goto hx hb d_Model_returns_87 rfl ?_
            refine lv_istore (lv' := [(5, .int 1), (4, .int avo), (3, .int (ase g)), (2, .int (afi g)), (1, .int (nI g)), (0, .ref (ad 0))]) hx hb d_Model_returns_91 hl (by decide) rfl (fun ls hl => ?_)
            refine lv_iload hx hb d_Model_returns_93 (lv_at hl 0 rfl) ?_
            refine lv_if_ne hx hb d_Model_returns_95 rfl (fun h95 => ?_) (fun h95 => by exact absurd h95 (by decide))
            refine lv_aload_n hx hb d_Model_returns_104 rfl (lv_at hl 5 rfl) ?_
            refine va_get (D := (dC, dI)) (ci := 4) (v := .ref (ad 13)) (C := R_Model) (T := F_Model) (N := 30) hx hb hts (fun q hq => List.mem_cons_of_mem _ (i_Model q hq)) hown hK hP 0 rfl rfl 16 (by decide) (hts _ (List.mem_cons_of_mem _ m_14_9)) (fun _ h9 => h9) rfl d_Model_returns_105 ?_
            refine lv_iload_n hx hb d_Model_returns_108 rfl (lv_at hl 4 rfl) ?_
            have hin : vp_in (nI g) 200 := by first | assumption | exact vp_in_nI (by omega) (by decide)
            refine va_iald (f := awh) (n := 200) hx hb hK hP 13 0 rfl rfl hin d_Model_returns_109 ?_
            rw [nI_clamp (show g < 2 ^ 31 by omega)]
            by_cases h110_2 : (awh g) = 2
            · refine lv_tableIn (tgt := 231) hx hb d_Model_returns_110 (by rw [h110_2]; decide) (by rw [h110_2]; decide) (by rw [h110_2]; rfl) rfl ?_
              refine lv_aload_n hx hb d_Model_returns_231 rfl (lv_at hl 5 rfl) ?_
              refine lv_dup hx hb d_Model_returns_232 rfl ?_
              refine va_get (D := (dC, dI)) (ci := 4) (v := .int (nI (g + 1))) (C := R_Model) (T := F_Model) (N := 30) hx hb hts (fun q hq => List.mem_cons_of_mem _ (i_Model q hq)) hown hK hP 0 rfl rfl 19 (by decide) (hts _ (List.mem_cons_of_mem _ m_14_12)) (fun _ h9 => h9) rfl d_Model_returns_233 ?_
              refine lv_iconst (v := 1) hx hb d_Model_returns_236 (by decide) ?_
              refine lv_isub hx hb d_Model_returns_237 ?_
              refine lv_topi (fun z_ e_ => ?_)
              have e_ : z_ = nI g := e_.trans (nI_pred g)
              subst e_
              refine va_put (D := (dC, dI)) (ci := 4) (v := .int (nI g)) (ty := .int) (C := R_Model) (T := F_Model) (N := 30) hx hb hts (fun q hq => List.mem_cons_of_mem _ (i_Model q hq)) t_Model t_Model_ok n_Model hown hK hP hD hS 0 rfl rfl 19 (by decide) (hts _ (List.mem_cons_of_mem _ m_14_12)) (fun _ h9 => h9) rfl (by decide +kernel) rfl rfl (Nat.le_of_ble_eq_true rfl) d_Model_returns_238 (fun H locs hP hD hS => ?_)
              have hP : va_P (dC, dI) classes (mr_W cA cZ ad ((aso, axs, ato, ath, asi), (asr, anu, ach, aow, aar), (ais, aon, atw, awh, afi), (ase, (nI g), amo, ass, asp), (afo, aba, ano, aen, avs), (avo, avt, are, atd, ale))) H := hP
              have hD : va_D A (mr_W cA cZ ad ((aso, axs, ato, ath, asi), (asr, anu, ach, aow, aar), (ais, aon, atw, awh, afi), (ase, (nI g), amo, ass, asp), (afo, aba, ano, aen, avs), (avo, avt, are, atd, ale))) := hD
              refine lv_aload_n hx hb d_Model_returns_241 rfl (lv_at hl 5 rfl) ?_
              refine lv_iconst (v := 3) hx hb d_Model_returns_242 (by decide) ?_
              refine lv_aload_n hx hb d_Model_returns_243 rfl (lv_at hl 5 rfl) ?_
              refine va_get (D := (dC, dI)) (ci := 4) (v := .ref (ad 3)) (C := R_Model) (T := F_Model) (N := 30) hx hb hts (fun q hq => List.mem_cons_of_mem _ (i_Model q hq)) hown hK hP 0 rfl rfl 4 (by decide) (hts _ (List.mem_cons_of_mem _ m_13_21)) (fun _ h9 => h9) rfl d_Model_returns_244 ?_
              refine lv_iload_n hx hb d_Model_returns_247 rfl (lv_at hl 3 rfl) ?_
              have hin : vp_in (afi g) 200 := by exact hb2 (Or.inl h110_2)
              refine va_iald (f := asr) (n := 200) hx hb hK hP 3 0 rfl rfl hin d_Model_returns_248 ?_
              refine lv_iload hx hb d_Model_returns_249 (lv_at hl 1 rfl) ?_
              refine lm_vv (b := ad 0) (As := [.int 3, .int (asr (afi g).toNatClampNeg), .int avo]) (rest := []) (wr := ([] : va_W)) ⟨hx, hb, hml, hown, hts⟩ hK hP hD hS hA [0, 1, 2, 3, 4, 5, 6, 7, 8, 9, 10, 11, 12, 13, 14, 15] [] rfl rfl (by decide) (by decide) (by decide) (c_Model_push l dC dI cA cZ ad _ ((aso, axs, ato, ath, asi), (asr, anu, ach, aow, aar), (ais, aon, atw, awh, afi), (ase, (nI g), amo, ass, asp), (afo, aba, ano, aen, avs), (avo, avt, are, atd, ale)) 3 (asr (afi g).toNatClampNeg) avo (by exact ⟨g, by omega, rfl⟩)) (cwV 3 hts (lm_gV m_17_5 m_17_6 m_20_12 m_0_5 m_17_7) rfl rfl rfl (by decide +kernel) ⟨Nat.le_of_ble_eq_true rfl, Nat.le_of_ble_eq_true rfl⟩) (va_recv (q0 := 0) hK hP rfl rfl) lm_bl_no (fun _ _ _ => trivial) hl.1 rfl rfl (Nat.le_of_ble_eq_true rfl) d_Model_returns_251 ⟨Nat.le_of_ble_eq_true rfl, Nat.le_of_ble_eq_true rfl⟩ (fun u251 H locs w251 hP hD hS => ?_)
              have hP : va_P (dC, dI) classes (mr_W cA cZ ad u251) H := hP
              have hD : va_D A (mr_W cA cZ ad u251) := hD
              have w251 : u251 = md_push (s_fr ((aso, axs, ato, ath, asi), (asr, anu, ach, aow, aar), (ais, aon, atw, awh, afi), (ase, (nI (g + 1)), amo, ass, asp), (afo, aba, ano, aen, avs), (avo, avt, are, atd, ale)) (r_fr ((aso, axs, ato, ath, asi), (asr, anu, ach, aow, aar), (ais, aon, atw, awh, afi), (ase, (nI (g + 1)), amo, ass, asp), (afo, aba, ano, aen, avs), (avo, avt, are, atd, ale)) - 1)) 3 (r_sr ((aso, axs, ato, ath, asi), (asr, anu, ach, aow, aar), (ais, aon, atw, awh, afi), (ase, (nI (g + 1)), amo, ass, asp), (afo, aba, ano, aen, avs), (avo, avt, are, atd, ale)) (afi g).toNatClampNeg) avo := by rw [hfr1]; exact w251
              refine lv_aload_n hx hb d_Model_returns_254 rfl (lv_at hl 5 rfl) ?_
              refine lv_aload_n hx hb d_Model_returns_255 rfl (lv_at hl 5 rfl) ?_
              refine va_get (D := (dC, dI)) (ci := 4) (v := .ref (ad 5)) (C := R_Model) (T := F_Model) (N := 30) hx hb hts (fun q hq => List.mem_cons_of_mem _ (i_Model q hq)) hown hK hP 0 rfl rfl 6 (by decide) (hts _ (List.mem_cons_of_mem _ m_13_23)) (fun _ h9 => h9) rfl d_Model_returns_256 ?_
              refine lv_iconst (v := 3) hx hb d_Model_returns_259 (by decide) ?_
              refine lv_iload_n hx hb d_Model_returns_260 rfl (lv_at hl 3 rfl) ?_
              refine lv_imul hx hb d_Model_returns_261 ?_
              refine lv_iconst (v := 1) hx hb d_Model_returns_262 (by decide) ?_
              refine lv_iadd hx hb d_Model_returns_263 ?_
              have hin : vp_in ((3 * (afi g)) + 1) 600 := by exact (nx_ix (hb2 (Or.inl h110_2))).2.1
              refine va_iald (f := u251.2.1.2.2.1) (n := 600) hx hb hK hP 5 0 rfl rfl hin d_Model_returns_264 ?_
              refine lv_iload_n hx hb d_Model_returns_265 rfl (lv_at hl 2 rfl) ?_
              refine lm_vv (b := ad 0) (As := [.int (u251.2.1.2.2.1 ((3 * (afi g)) + 1).toNatClampNeg), .int (ase g)]) (rest := []) (wr := ([] : va_W)) ⟨hx, hb, hml, hown, hts⟩ hK hP hD hS hA [0, 1, 2, 3, 4, 5, 6, 7, 8, 9, 10, 11, 12, 13, 14, 15] [] rfl rfl (by decide) (by decide) (by decide) (c_Model_go l dC dI cA cZ ad _ u251 (u251.2.1.2.2.1 ((3 * (afi g)) + 1).toNatClampNeg) (ase g) ) (cwV 2 hts (lm_gV m_17_2 m_17_3 m_20_11 m_0_5 m_17_4) rfl rfl rfl (by decide +kernel) ⟨Nat.le_of_ble_eq_true rfl, Nat.le_of_ble_eq_true rfl⟩) (va_recv (q0 := 0) hK hP rfl rfl) lm_bl_no (fun _ _ _ => trivial) hl.1 rfl rfl (Nat.le_of_ble_eq_true rfl) d_Model_returns_266 ⟨Nat.le_of_ble_eq_true rfl, Nat.le_of_ble_eq_true rfl⟩ (fun u266 H locs w266 hP hD hS => ?_)
              have w266 : u266 = ((u251.1.1, u251.1.2.1, u251.1.2.2.1, u251.1.2.2.2.1, u251.1.2.2.2.2), (u251.2.1.1, u251.2.1.2.1, u251.2.1.2.2.1, u251.2.1.2.2.2.1, u251.2.1.2.2.2.2), (u251.2.2.1.1, u251.2.2.1.2.1, u251.2.2.1.2.2.1, u251.2.2.1.2.2.2.1, u251.2.2.1.2.2.2.2), (u251.2.2.2.1.1, u251.2.2.2.1.2.1, u251.2.2.2.1.2.2.1, u251.2.2.2.1.2.2.2.1, u251.2.2.2.1.2.2.2.2), (u251.2.2.2.2.1.1, 0, (u251.2.1.2.2.1 ((3 * (afi g)) + 1).toNatClampNeg), (ase g), u251.2.2.2.2.1.2.2.2.2), (u251.2.2.2.2.2.1, u251.2.2.2.2.2.2.1, u251.2.2.2.2.2.2.2.1, u251.2.2.2.2.2.2.2.2.1, u251.2.2.2.2.2.2.2.2.2)) := w266
              subst w266
              have hP : va_P (dC, dI) classes (mr_W cA cZ ad ((u251.1.1, u251.1.2.1, u251.1.2.2.1, u251.1.2.2.2.1, u251.1.2.2.2.2), (u251.2.1.1, u251.2.1.2.1, u251.2.1.2.2.1, u251.2.1.2.2.2.1, u251.2.1.2.2.2.2), (u251.2.2.1.1, u251.2.2.1.2.1, u251.2.2.1.2.2.1, u251.2.2.1.2.2.2.1, u251.2.2.1.2.2.2.2), (u251.2.2.2.1.1, u251.2.2.2.1.2.1, u251.2.2.2.1.2.2.1, u251.2.2.2.1.2.2.2.1, u251.2.2.2.1.2.2.2.2), (u251.2.2.2.2.1.1, 0, (u251.2.1.2.2.1 ((3 * (afi g)) + 1).toNatClampNeg), (ase g), u251.2.2.2.2.1.2.2.2.2), (u251.2.2.2.2.2.1, u251.2.2.2.2.2.2.1, u251.2.2.2.2.2.2.2.1, u251.2.2.2.2.2.2.2.2.1, u251.2.2.2.2.2.2.2.2.2))) H := hP
              have hD : va_D A (mr_W cA cZ ad ((u251.1.1, u251.1.2.1, u251.1.2.2.1, u251.1.2.2.2.1, u251.1.2.2.2.2), (u251.2.1.1, u251.2.1.2.1, u251.2.1.2.2.1, u251.2.1.2.2.2.1, u251.2.1.2.2.2.2), (u251.2.2.1.1, u251.2.2.1.2.1, u251.2.2.1.2.2.1, u251.2.2.1.2.2.2.1, u251.2.2.1.2.2.2.2), (u251.2.2.2.1.1, u251.2.2.2.1.2.1, u251.2.2.2.1.2.2.1, u251.2.2.2.1.2.2.2.1, u251.2.2.2.1.2.2.2.2), (u251.2.2.2.2.1.1, 0, (u251.2.1.2.2.1 ((3 * (afi g)) + 1).toNatClampNeg), (ase g), u251.2.2.2.2.1.2.2.2.2), (u251.2.2.2.2.2.1, u251.2.2.2.2.2.2.1, u251.2.2.2.2.2.2.2.1, u251.2.2.2.2.2.2.2.2.1, u251.2.2.2.2.2.2.2.2.2))) := hD
              refine lv_iconst (v := 0) hx hb d_Model_returns_269 (by decide) ?_
              refine lm_rz (v := 0) hx hb hr hlocks (by decide) ((u251.1.1, u251.1.2.1, u251.1.2.2.1, u251.1.2.2.2.1, u251.1.2.2.2.2), (u251.2.1.1, u251.2.1.2.1, u251.2.1.2.2.1, u251.2.1.2.2.2.1, u251.2.1.2.2.2.2), (u251.2.2.1.1, u251.2.2.1.2.1, u251.2.2.1.2.2.1, u251.2.2.1.2.2.2.1, u251.2.2.1.2.2.2.2), (u251.2.2.2.1.1, u251.2.2.2.1.2.1, u251.2.2.2.1.2.2.1, u251.2.2.2.1.2.2.2.1, u251.2.2.2.1.2.2.2.2), (u251.2.2.2.2.1.1, 0, (u251.2.1.2.2.1 ((3 * (afi g)) + 1).toNatClampNeg), (ase g), u251.2.2.2.2.1.2.2.2.2), (u251.2.2.2.2.2.1, u251.2.2.2.2.2.2.1, u251.2.2.2.2.2.2.2.1, u251.2.2.2.2.2.2.2.2.1, u251.2.2.2.2.2.2.2.2.2)) ?_ hP hK hD hS d_Model_returns_270
              unfold md_ret; rw [if_neg h4, show (r_fr ((aso, axs, ato, ath, asi), (asr, anu, ach, aow, aar), (ais, aon, atw, awh, afi), (ase, (nI (g + 1)), amo, ass, asp), (afo, aba, ano, aen, avs), (avo, avt, are, atd, ale)) - 1).toNatClampNeg = g by show (nI (g + 1) - 1).toNatClampNeg = g; rw [nI_pred]; exact nI_clamp (by omega)]
              unfold md_ret1; (first | rw [if_pos h47] | rw [if_neg h47]); (first | rw [if_pos h61] | rw [if_neg h61]); (first | rw [if_pos h75] | rw [if_neg h75]); (first | rw [if_pos h83] | rw [if_neg h83]); (first | rw [if_pos h110_2] | rw [if_neg h110_2]); unfold md_left; rw [← w251]; unfold md_left2; exact ⟨rfl, rfl⟩
            by_cases h110_3 : (awh g) = 3
            · refine lv_tableIn (tgt := 271) hx hb d_Model_returns_110 (by rw [h110_3]; decide) (by rw [h110_3]; decide) (by rw [h110_3]; rfl) rfl ?_
              refine lv_aload_n hx hb d_Model_returns_271 rfl (lv_at hl 5 rfl) ?_
              refine lv_dup hx hb d_Model_returns_272 rfl ?_
              refine va_get (D := (dC, dI)) (ci := 4) (v := .int (nI (g + 1))) (C := R_Model) (T := F_Model) (N := 30) hx hb hts (fun q hq => List.mem_cons_of_mem _ (i_Model q hq)) hown hK hP 0 rfl rfl 19 (by decide) (hts _ (List.mem_cons_of_mem _ m_14_12)) (fun _ h9 => h9) rfl d_Model_returns_273 ?_
              refine lv_iconst (v := 1) hx hb d_Model_returns_276 (by decide) ?_
              refine lv_isub hx hb d_Model_returns_277 ?_
              refine lv_topi (fun z_ e_ => ?_)
              have e_ : z_ = nI g := e_.trans (nI_pred g)
              subst e_
              refine va_put (D := (dC, dI)) (ci := 4) (v := .int (nI g)) (ty := .int) (C := R_Model) (T := F_Model) (N := 30) hx hb hts (fun q hq => List.mem_cons_of_mem _ (i_Model q hq)) t_Model t_Model_ok n_Model hown hK hP hD hS 0 rfl rfl 19 (by decide) (hts _ (List.mem_cons_of_mem _ m_14_12)) (fun _ h9 => h9) rfl (by decide +kernel) rfl rfl (Nat.le_of_ble_eq_true rfl) d_Model_returns_278 (fun H locs hP hD hS => ?_)
              have hP : va_P (dC, dI) classes (mr_W cA cZ ad ((aso, axs, ato, ath, asi), (asr, anu, ach, aow, aar), (ais, aon, atw, awh, afi), (ase, (nI g), amo, ass, asp), (afo, aba, ano, aen, avs), (avo, avt, are, atd, ale))) H := hP
              have hD : va_D A (mr_W cA cZ ad ((aso, axs, ato, ath, asi), (asr, anu, ach, aow, aar), (ais, aon, atw, awh, afi), (ase, (nI g), amo, ass, asp), (afo, aba, ano, aen, avs), (avo, avt, are, atd, ale))) := hD
              refine lv_aload_n hx hb d_Model_returns_281 rfl (lv_at hl 5 rfl) ?_
              refine lv_iconst (v := 0) hx hb d_Model_returns_282 (by decide) ?_
              refine lv_iload_n hx hb d_Model_returns_283 rfl (lv_at hl 3 rfl) ?_
              refine lv_iload_n hx hb d_Model_returns_284 rfl (lv_at hl 2 rfl) ?_
              refine lv_iload hx hb d_Model_returns_285 (lv_at hl 1 rfl) ?_
              refine lm_si (As := [.int (afi g), .int (ase g), .int avo]) (rest := [.int 0, .ref (ad 0)]) (wr := (mr_W cA cZ ad ((aso, axs, ato, ath, asi), (asr, anu, ach, aow, aar), (ais, aon, atw, awh, afi), (ase, (nI g), amo, ass, asp), (afo, aba, ano, aen, avs), (avo, avt, are, atd, ale)))) ⟨hx, hb, hml, hown, hts⟩ hK hP hD hS hA [] [0, 1, 2, 3, 4, 5, 6, 7, 8, 9, 10, 11, 12, 13, 14, 15] rfl rfl (by decide) (by decide) (by decide) (c_Model_reckoned l dC dI cA cZ  _  (afi g) (ase g) avo ) (cwS 3 hts (lm_gS m_17_8 m_17_9 m_0_5 m_17_10) rfl rfl rfl (by decide +kernel) ⟨Nat.le_of_ble_eq_true rfl, Nat.le_of_ble_eq_true rfl⟩) lm_bl_no (fun _ _ _ => trivial) hl.1 rfl rfl (Nat.le_of_ble_eq_true rfl) d_Model_returns_287 ⟨Nat.le_of_ble_eq_true rfl, Nat.le_of_ble_eq_true rfl⟩ (fun r287 u287 H locs w287 hP hD hS => ?_)
              obtain ⟨e_r287, w287⟩ := w287
              have hP : va_P (dC, dI) classes (mr_W cA cZ ad ((aso, axs, ato, ath, asi), (asr, anu, ach, aow, aar), (ais, aon, atw, awh, afi), (ase, (nI g), amo, ass, asp), (afo, aba, ano, aen, avs), (avo, avt, are, atd, ale))) H := hP
              have hD : va_D A (mr_W cA cZ ad ((aso, axs, ato, ath, asi), (asr, anu, ach, aow, aar), (ais, aon, atw, awh, afi), (ase, (nI g), amo, ass, asp), (afo, aba, ano, aen, avs), (avo, avt, are, atd, ale))) := hD
              refine lv_iconst (v := 0) hx hb d_Model_returns_290 (by decide) ?_
              refine lm_vv (b := ad 0) (As := [.int 0, .int r287, .int 0]) (rest := []) (wr := ([] : va_W)) ⟨hx, hb, hml, hown, hts⟩ hK hP hD hS hA [0, 1, 2, 3, 4, 5, 6, 7, 8, 9, 10, 11, 12, 13, 14, 15] [] rfl rfl (by decide) (by decide) (by decide) (c_Model_give l dC dI cA cZ ad _ ((aso, axs, ato, ath, asi), (asr, anu, ach, aow, aar), (ais, aon, atw, awh, afi), (ase, (nI g), amo, ass, asp), (afo, aba, ano, aen, avs), (avo, avt, are, atd, ale)) 0 r287 0 ) (cwV 3 hts (lm_gV m_17_11 m_17_12 m_20_13 m_0_5 m_17_13) rfl rfl rfl (by decide +kernel) ⟨Nat.le_of_ble_eq_true rfl, Nat.le_of_ble_eq_true rfl⟩) (va_recv (q0 := 0) hK hP rfl rfl) lm_bl_no (fun _ _ _ => trivial) hl.1 rfl rfl (Nat.le_of_ble_eq_true rfl) d_Model_returns_291 ⟨Nat.le_of_ble_eq_true rfl, Nat.le_of_ble_eq_true rfl⟩ (fun u291 H locs w291 hP hD hS => ?_)
              have w291 : u291 = ((aso, axs, ato, ath, asi), (asr, anu, ach, aow, aar), (ais, aon, atw, awh, afi), (ase, (nI g), amo, ass, asp), (afo, 1, ano, aen, 0), (r287, 0, are, atd, ale)) := w291
              subst w291
              have hP : va_P (dC, dI) classes (mr_W cA cZ ad ((aso, axs, ato, ath, asi), (asr, anu, ach, aow, aar), (ais, aon, atw, awh, afi), (ase, (nI g), amo, ass, asp), (afo, 1, ano, aen, 0), (r287, 0, are, atd, ale))) H := hP
              have hD : va_D A (mr_W cA cZ ad ((aso, axs, ato, ath, asi), (asr, anu, ach, aow, aar), (ais, aon, atw, awh, afi), (ase, (nI g), amo, ass, asp), (afo, 1, ano, aen, 0), (r287, 0, are, atd, ale))) := hD
              refine lv_iconst (v := 0) hx hb d_Model_returns_294 (by decide) ?_
              refine lm_rz (v := 0) hx hb hr hlocks (by decide) ((aso, axs, ato, ath, asi), (asr, anu, ach, aow, aar), (ais, aon, atw, awh, afi), (ase, (nI g), amo, ass, asp), (afo, 1, ano, aen, 0), (r287, 0, are, atd, ale)) ?_ hP hK hD hS d_Model_returns_295
              unfold md_ret; rw [if_neg h4, show (r_fr ((aso, axs, ato, ath, asi), (asr, anu, ach, aow, aar), (ais, aon, atw, awh, afi), (ase, (nI (g + 1)), amo, ass, asp), (afo, aba, ano, aen, avs), (avo, avt, are, atd, ale)) - 1).toNatClampNeg = g by show (nI (g + 1) - 1).toNatClampNeg = g; rw [nI_pred]; exact nI_clamp (by omega)]
              unfold md_ret1; (first | rw [if_pos h47] | rw [if_neg h47]); (first | rw [if_pos h61] | rw [if_neg h61]); (first | rw [if_pos h75] | rw [if_neg h75]); (first | rw [if_pos h83] | rw [if_neg h83]); (first | rw [if_pos h110_2] | rw [if_neg h110_2]); (first | rw [if_pos h110_3] | rw [if_neg h110_3]); unfold md_right; (try rw [hfr1]); (try rw [← e_r287]); exact ⟨rfl, rfl⟩
            by_cases h110_4 : (awh g) = 4
            · refine lv_tableIn (tgt := 296) hx hb d_Model_returns_110 (by rw [h110_4]; decide) (by rw [h110_4]; decide) (by rw [h110_4]; rfl) rfl ?_
              refine lv_aload_n hx hb d_Model_returns_296 rfl (lv_at hl 5 rfl) ?_
              refine lv_dup hx hb d_Model_returns_297 rfl ?_
              refine va_get (D := (dC, dI)) (ci := 4) (v := .int (nI (g + 1))) (C := R_Model) (T := F_Model) (N := 30) hx hb hts (fun q hq => List.mem_cons_of_mem _ (i_Model q hq)) hown hK hP 0 rfl rfl 19 (by decide) (hts _ (List.mem_cons_of_mem _ m_14_12)) (fun _ h9 => h9) rfl d_Model_returns_298 ?_
              refine lv_iconst (v := 1) hx hb d_Model_returns_301 (by decide) ?_
              refine lv_isub hx hb d_Model_returns_302 ?_
              refine lv_topi (fun z_ e_ => ?_)
              have e_ : z_ = nI g := e_.trans (nI_pred g)
              subst e_
              refine va_put (D := (dC, dI)) (ci := 4) (v := .int (nI g)) (ty := .int) (C := R_Model) (T := F_Model) (N := 30) hx hb hts (fun q hq => List.mem_cons_of_mem _ (i_Model q hq)) t_Model t_Model_ok n_Model hown hK hP hD hS 0 rfl rfl 19 (by decide) (hts _ (List.mem_cons_of_mem _ m_14_12)) (fun _ h9 => h9) rfl (by decide +kernel) rfl rfl (Nat.le_of_ble_eq_true rfl) d_Model_returns_303 (fun H locs hP hD hS => ?_)
              have hP : va_P (dC, dI) classes (mr_W cA cZ ad ((aso, axs, ato, ath, asi), (asr, anu, ach, aow, aar), (ais, aon, atw, awh, afi), (ase, (nI g), amo, ass, asp), (afo, aba, ano, aen, avs), (avo, avt, are, atd, ale))) H := hP
              have hD : va_D A (mr_W cA cZ ad ((aso, axs, ato, ath, asi), (asr, anu, ach, aow, aar), (ais, aon, atw, awh, afi), (ase, (nI g), amo, ass, asp), (afo, aba, ano, aen, avs), (avo, avt, are, atd, ale))) := hD
              refine lv_aload_n hx hb d_Model_returns_306 rfl (lv_at hl 5 rfl) ?_
              refine lv_aload_n hx hb d_Model_returns_307 rfl (lv_at hl 5 rfl) ?_
              refine va_get (D := (dC, dI)) (ci := 4) (v := .ref (ad 5)) (C := R_Model) (T := F_Model) (N := 30) hx hb hts (fun q hq => List.mem_cons_of_mem _ (i_Model q hq)) hown hK hP 0 rfl rfl 6 (by decide) (hts _ (List.mem_cons_of_mem _ m_13_23)) (fun _ h9 => h9) rfl d_Model_returns_308 ?_
              refine lv_iconst (v := 3) hx hb d_Model_returns_311 (by decide) ?_
              refine lv_iload_n hx hb d_Model_returns_312 rfl (lv_at hl 3 rfl) ?_
              refine lv_imul hx hb d_Model_returns_313 ?_
              refine lv_iload hx hb d_Model_returns_314 (lv_at hl 1 rfl) ?_
              refine lv_if_ne hx hb d_Model_returns_316 rfl (fun h316 => ?_) (fun h316 => ?_)
              · refine lv_iconst (v := 2) hx hb d_Model_returns_323 (by decide) ?_
                refine lv_iadd hx hb d_Model_returns_324 ?_
                have hin : vp_in ((3 * (afi g)) + 2) 600 := by have q := nx_ix (hb2 (Or.inr (Or.inl h110_4))); first | exact q.2.1 | exact q.2.2
                refine va_iald (f := ach) (n := 600) hx hb hK hP 5 0 rfl rfl hin d_Model_returns_325 ?_
                refine lv_iload_n hx hb d_Model_returns_326 rfl (lv_at hl 2 rfl) ?_
                refine lm_vv (b := ad 0) (As := [.int (ach ((3 * (afi g)) + 2).toNatClampNeg), .int (ase g)]) (rest := []) (wr := ([] : va_W)) ⟨hx, hb, hml, hown, hts⟩ hK hP hD hS hA [0, 1, 2, 3, 4, 5, 6, 7, 8, 9, 10, 11, 12, 13, 14, 15] [] rfl rfl (by decide) (by decide) (by decide) (c_Model_go l dC dI cA cZ ad _ ((aso, axs, ato, ath, asi), (asr, anu, ach, aow, aar), (ais, aon, atw, awh, afi), (ase, (nI g), amo, ass, asp), (afo, aba, ano, aen, avs), (avo, avt, are, atd, ale)) (ach ((3 * (afi g)) + 2).toNatClampNeg) (ase g) ) (cwV 2 hts (lm_gV m_17_2 m_17_3 m_20_11 m_0_5 m_17_4) rfl rfl rfl (by decide +kernel) ⟨Nat.le_of_ble_eq_true rfl, Nat.le_of_ble_eq_true rfl⟩) (va_recv (q0 := 0) hK hP rfl rfl) lm_bl_no (fun _ _ _ => trivial) hl.1 rfl rfl (Nat.le_of_ble_eq_true rfl) d_Model_returns_327 ⟨Nat.le_of_ble_eq_true rfl, Nat.le_of_ble_eq_true rfl⟩ (fun u327 H locs w327 hP hD hS => ?_)
                have w327 : u327 = ((aso, axs, ato, ath, asi), (asr, anu, ach, aow, aar), (ais, aon, atw, awh, afi), (ase, (nI g), amo, ass, asp), (afo, 0, (ach ((3 * (afi g)) + 2).toNatClampNeg), (ase g), avs), (avo, avt, are, atd, ale)) := w327
                subst w327
                have hP : va_P (dC, dI) classes (mr_W cA cZ ad ((aso, axs, ato, ath, asi), (asr, anu, ach, aow, aar), (ais, aon, atw, awh, afi), (ase, (nI g), amo, ass, asp), (afo, 0, (ach ((3 * (afi g)) + 2).toNatClampNeg), (ase g), avs), (avo, avt, are, atd, ale))) H := hP
                have hD : va_D A (mr_W cA cZ ad ((aso, axs, ato, ath, asi), (asr, anu, ach, aow, aar), (ais, aon, atw, awh, afi), (ase, (nI g), amo, ass, asp), (afo, 0, (ach ((3 * (afi g)) + 2).toNatClampNeg), (ase g), avs), (avo, avt, are, atd, ale))) := hD
                refine lv_iconst (v := 0) hx hb d_Model_returns_330 (by decide) ?_
                refine lm_rz (v := 0) hx hb hr hlocks (by decide) ((aso, axs, ato, ath, asi), (asr, anu, ach, aow, aar), (ais, aon, atw, awh, afi), (ase, (nI g), amo, ass, asp), (afo, 0, (ach ((3 * (afi g)) + 2).toNatClampNeg), (ase g), avs), (avo, avt, are, atd, ale)) ?_ hP hK hD hS d_Model_returns_331
                unfold md_ret; rw [if_neg h4, show (r_fr ((aso, axs, ato, ath, asi), (asr, anu, ach, aow, aar), (ais, aon, atw, awh, afi), (ase, (nI (g + 1)), amo, ass, asp), (afo, aba, ano, aen, avs), (avo, avt, are, atd, ale)) - 1).toNatClampNeg = g by show (nI (g + 1) - 1).toNatClampNeg = g; rw [nI_pred]; exact nI_clamp (by omega)]
                unfold md_ret1; (first | rw [if_pos h47] | rw [if_neg h47]); (first | rw [if_pos h61] | rw [if_neg h61]); (first | rw [if_pos h75] | rw [if_neg h75]); (first | rw [if_pos h83] | rw [if_neg h83]); (first | rw [if_pos h110_2] | rw [if_neg h110_2]); (first | rw [if_pos h110_3] | rw [if_neg h110_3]); unfold md_test; (first | rw [if_pos h316] | rw [if_neg h316]); (try rw [hfr1]); (try rw [← e_r287]); exact ⟨rfl, rfl⟩
              · refine lv_iconst (v := 1) hx hb d_Model_returns_319 (by decide) ?_
                refine lv_goto hx hb d_Model_returns_320 rfl ?_
                refine lv_iadd hx hb d_Model_returns_324 ?_
                have hin : vp_in ((3 * (afi g)) + 1) 600 := by have q := nx_ix (hb2 (Or.inr (Or.inl h110_4))); first | exact q.2.1 | exact q.2.2
                refine va_iald (f := ach) (n := 600) hx hb hK hP 5 0 rfl rfl hin d_Model_returns_325 ?_
                refine lv_iload_n hx hb d_Model_returns_326 rfl (lv_at hl 2 rfl) ?_
                refine lm_vv (b := ad 0) (As := [.int (ach ((3 * (afi g)) + 1).toNatClampNeg), .int (ase g)]) (rest := []) (wr := ([] : va_W)) ⟨hx, hb, hml, hown, hts⟩ hK hP hD hS hA [0, 1, 2, 3, 4, 5, 6, 7, 8, 9, 10, 11, 12, 13, 14, 15] [] rfl rfl (by decide) (by decide) (by decide) (c_Model_go l dC dI cA cZ ad _ ((aso, axs, ato, ath, asi), (asr, anu, ach, aow, aar), (ais, aon, atw, awh, afi), (ase, (nI g), amo, ass, asp), (afo, aba, ano, aen, avs), (avo, avt, are, atd, ale)) (ach ((3 * (afi g)) + 1).toNatClampNeg) (ase g) ) (cwV 2 hts (lm_gV m_17_2 m_17_3 m_20_11 m_0_5 m_17_4) rfl rfl rfl (by decide +kernel) ⟨Nat.le_of_ble_eq_true rfl, Nat.le_of_ble_eq_true rfl⟩) (va_recv (q0 := 0) hK hP rfl rfl) lm_bl_no (fun _ _ _ => trivial) hl.1 rfl rfl (Nat.le_of_ble_eq_true rfl) d_Model_returns_327 ⟨Nat.le_of_ble_eq_true rfl, Nat.le_of_ble_eq_true rfl⟩ (fun u327 H locs w327 hP hD hS => ?_)
                have w327 : u327 = ((aso, axs, ato, ath, asi), (asr, anu, ach, aow, aar), (ais, aon, atw, awh, afi), (ase, (nI g), amo, ass, asp), (afo, 0, (ach ((3 * (afi g)) + 1).toNatClampNeg), (ase g), avs), (avo, avt, are, atd, ale)) := w327
                subst w327
                have hP : va_P (dC, dI) classes (mr_W cA cZ ad ((aso, axs, ato, ath, asi), (asr, anu, ach, aow, aar), (ais, aon, atw, awh, afi), (ase, (nI g), amo, ass, asp), (afo, 0, (ach ((3 * (afi g)) + 1).toNatClampNeg), (ase g), avs), (avo, avt, are, atd, ale))) H := hP
                have hD : va_D A (mr_W cA cZ ad ((aso, axs, ato, ath, asi), (asr, anu, ach, aow, aar), (ais, aon, atw, awh, afi), (ase, (nI g), amo, ass, asp), (afo, 0, (ach ((3 * (afi g)) + 1).toNatClampNeg), (ase g), avs), (avo, avt, are, atd, ale))) := hD
                refine lv_iconst (v := 0) hx hb d_Model_returns_330 (by decide) ?_
                refine lm_rz (v := 0) hx hb hr hlocks (by decide) ((aso, axs, ato, ath, asi), (asr, anu, ach, aow, aar), (ais, aon, atw, awh, afi), (ase, (nI g), amo, ass, asp), (afo, 0, (ach ((3 * (afi g)) + 1).toNatClampNeg), (ase g), avs), (avo, avt, are, atd, ale)) ?_ hP hK hD hS d_Model_returns_331
                unfold md_ret; rw [if_neg h4, show (r_fr ((aso, axs, ato, ath, asi), (asr, anu, ach, aow, aar), (ais, aon, atw, awh, afi), (ase, (nI (g + 1)), amo, ass, asp), (afo, aba, ano, aen, avs), (avo, avt, are, atd, ale)) - 1).toNatClampNeg = g by show (nI (g + 1) - 1).toNatClampNeg = g; rw [nI_pred]; exact nI_clamp (by omega)]
                unfold md_ret1; (first | rw [if_pos h47] | rw [if_neg h47]); (first | rw [if_pos h61] | rw [if_neg h61]); (first | rw [if_pos h75] | rw [if_neg h75]); (first | rw [if_pos h83] | rw [if_neg h83]); (first | rw [if_pos h110_2] | rw [if_neg h110_2]); (first | rw [if_pos h110_3] | rw [if_neg h110_3]); unfold md_test; (first | rw [if_pos h316] | rw [if_neg h316]); (try rw [hfr1]); (try rw [← e_r287]); exact ⟨rfl, rfl⟩
            rcases hwh with q | q | q | q | q | q
            · exact absurd q h47
            · exact absurd q h61
            · exact absurd q h110_2
            · exact absurd q h110_3
            · exact absurd q h110_4
            · exact absurd q h75
        · refine lv_iconst (v := 2) hx hb d_Model_returns_78 (by decide) ?_
          refine lv_goto hx hb d_Model_returns_79 rfl ?_
          refine lv_icmp_ne hx hb d_Model_returns_83 rfl (fun h83 => ?_) (fun h83 => ?_)
          · refine lv_iconst (v := 0) hx hb d_Model_returns_90 (by decide) ?_
            refine lv_istore (lv' := [(5, .int 0), (4, .int avo), (3, .int (ase g)), (2, .int (afi g)), (1, .int (nI g)), (0, .ref (ad 0))]) hx hb d_Model_returns_91 hl (by decide) rfl (fun ls hl => ?_)
            refine lv_iload hx hb d_Model_returns_93 (lv_at hl 0 rfl) ?_
            refine lv_if_ne hx hb d_Model_returns_95 rfl (fun h95 => by exact absurd h95 (by decide)) (fun h95 => ?_)
            refine lv_aload_n hx hb d_Model_returns_98 rfl (lv_at hl 5 rfl) ?_
            refine lv_iconst (v := 3) hx hb d_Model_returns_99 (by decide) ?_
            refine lm_vi (b := ad 0) (As := [.int 3]) (rest := []) (wr := ([] : va_W)) ⟨hx, hb, hml, hown, hts⟩ hK hP hD hS hA [0, 1, 2, 3, 4, 5, 6, 7, 8, 9, 10, 11, 12, 13, 14, 15] [] rfl rfl (by decide) (by decide) (by decide) (c_Model_stops l dC dI cA cZ ad _ ((aso, axs, ato, ath, asi), (asr, anu, ach, aow, aar), (ais, aon, atw, awh, afi), (ase, (nI (g + 1)), amo, ass, asp), (afo, aba, ano, aen, avs), (avo, avt, are, atd, ale)) 3 ) (cwV 1 hts (lm_gV m_16_8 m_16_9 m_20_5 m_0_5 m_16_10) rfl rfl rfl (by decide +kernel) ⟨Nat.le_of_ble_eq_true rfl, Nat.le_of_ble_eq_true rfl⟩) (va_recv (q0 := 0) hK hP rfl rfl) lm_bl_no (fun _ _ _ => trivial) hl.1 rfl rfl (Nat.le_of_ble_eq_true rfl) d_Model_returns_100 ⟨Nat.le_of_ble_eq_true rfl, Nat.le_of_ble_eq_true rfl⟩ (fun r100 u100 H locs w100 hP hD hS => ?_)
            obtain ⟨e_r100, w100⟩ := w100
            replace e_r100 := e_r100.symm
            subst e_r100
            have w100 : u100 = ((aso, axs, ato, ath, asi), (asr, anu, ach, aow, aar), (ais, aon, atw, awh, afi), (ase, (nI (g + 1)), amo, 3, asp), (afo, aba, ano, aen, avs), (avo, avt, are, atd, ale)) := w100
            subst w100
            have hP : va_P (dC, dI) classes (mr_W cA cZ ad ((aso, axs, ato, ath, asi), (asr, anu, ach, aow, aar), (ais, aon, atw, awh, afi), (ase, (nI (g + 1)), amo, 3, asp), (afo, aba, ano, aen, avs), (avo, avt, are, atd, ale))) H := hP
            have hD : va_D A (mr_W cA cZ ad ((aso, axs, ato, ath, asi), (asr, anu, ach, aow, aar), (ais, aon, atw, awh, afi), (ase, (nI (g + 1)), amo, 3, asp), (afo, aba, ano, aen, avs), (avo, avt, are, atd, ale))) := hD
            refine lm_rz (v := 1) hx hb hr hlocks (by decide) ((aso, axs, ato, ath, asi), (asr, anu, ach, aow, aar), (ais, aon, atw, awh, afi), (ase, (nI (g + 1)), amo, 3, asp), (afo, aba, ano, aen, avs), (avo, avt, are, atd, ale)) ?_ hP hK hD hS d_Model_returns_103
            unfold md_ret; rw [if_neg h4, show (r_fr ((aso, axs, ato, ath, asi), (asr, anu, ach, aow, aar), (ais, aon, atw, awh, afi), (ase, (nI (g + 1)), amo, ass, asp), (afo, aba, ano, aen, avs), (avo, avt, are, atd, ale)) - 1).toNatClampNeg = g by show (nI (g + 1) - 1).toNatClampNeg = g; rw [nI_pred]; exact nI_clamp (by omega)]
            unfold md_ret1; (first | rw [if_pos h47] | rw [if_neg h47]); (first | rw [if_pos h61] | rw [if_neg h61]); (first | rw [if_pos h75] | rw [if_neg h75]); (first | rw [if_pos h83] | rw [if_neg h83]); exact ⟨rfl, rfl⟩
          · refine lv_iconst (v := 1) hx hb d_Model_returns_86 (by decide) ?_
            refine lv_goto hx hb d_Model_returns_87 rfl ?_
            refine lv_istore (lv' := [(5, .int 1), (4, .int avo), (3, .int (ase g)), (2, .int (afi g)), (1, .int (nI g)), (0, .ref (ad 0))]) hx hb d_Model_returns_91 hl (by decide) rfl (fun ls hl => ?_)
            refine lv_iload hx hb d_Model_returns_93 (lv_at hl 0 rfl) ?_
            refine lv_if_ne hx hb d_Model_returns_95 rfl (fun h95 => ?_) (fun h95 => by exact absurd h95 (by decide))
            refine lv_aload_n hx hb d_Model_returns_104 rfl (lv_at hl 5 rfl) ?_
            refine va_get (D := (dC, dI)) (ci := 4) (v := .ref (ad 13)) (C := R_Model) (T := F_Model) (N := 30) hx hb hts (fun q hq => List.mem_cons_of_mem _ (i_Model q hq)) hown hK hP 0 rfl rfl 16 (by decide) (hts _ (List.mem_cons_of_mem _ m_14_9)) (fun _ h9 => h9) rfl d_Model_returns_105 ?_
            refine lv_iload_n hx hb d_Model_returns_108 rfl (lv_at hl 4 rfl) ?_
            have hin : vp_in (nI g) 200 := by first | assumption | exact vp_in_nI (by omega) (by decide)
            refine va_iald (f := awh) (n := 200) hx hb hK hP 13 0 rfl rfl hin d_Model_returns_109 ?_
            rw [nI_clamp (show g < 2 ^ 31 by omega)]
            refine lv_tableOut (tgt := 332) hx hb d_Model_returns_110 (by rw [h75]; decide) rfl ?_
            refine lv_aload_n hx hb d_Model_returns_332 rfl (lv_at hl 5 rfl) ?_
            refine lv_iload_n hx hb d_Model_returns_333 rfl (lv_at hl 3 rfl) ?_
            refine lm_vi (b := ad 0) (As := [.int (afi g)]) (rest := []) (wr := ([] : va_W)) ⟨hx, hb, hml, hown, hts⟩ hK hP hD hS hA [0, 1, 2, 3, 4, 5, 6, 7, 8, 9, 10, 11, 12, 13, 14, 15] [] rfl rfl (by decide) (by decide) (by decide) (c_Model_part l dC dI cA cZ ad _ ((aso, axs, ato, ath, asi), (asr, anu, ach, aow, aar), (ais, aon, atw, awh, afi), (ase, (nI (g + 1)), amo, ass, asp), (afo, aba, ano, aen, avs), (avo, avt, are, atd, ale)) (afi g) (by exact hb2 (Or.inr (Or.inr h75))) (by exact hb5 h75 h83) (by exact ⟨g, by omega, rfl⟩)) (cwV 1 hts (lm_gV m_17_14 m_17_15 m_20_14 m_0_5 m_17_16) rfl rfl rfl (by decide +kernel) ⟨Nat.le_of_ble_eq_true rfl, Nat.le_of_ble_eq_true rfl⟩) (va_recv (q0 := 0) hK hP rfl rfl) lm_bl_no (fun _ _ _ => trivial) hl.1 rfl rfl (Nat.le_of_ble_eq_true rfl) d_Model_returns_334 ⟨Nat.le_of_ble_eq_true rfl, Nat.le_of_ble_eq_true rfl⟩ (fun r334 u334 H locs w334 hP hD hS => ?_)
            obtain ⟨e_r334, w334⟩ := w334
            have hP : va_P (dC, dI) classes (mr_W cA cZ ad u334) H := hP
            have hD : va_D A (mr_W cA cZ ad u334) := hD
            refine lm_rz (v := r334) hx hb hr hlocks (by rw [e_r334]; exact md_part_b _ _) u334 ?_ hP hK hD hS d_Model_returns_337
            unfold md_ret; rw [if_neg h4, show (r_fr ((aso, axs, ato, ath, asi), (asr, anu, ach, aow, aar), (ais, aon, atw, awh, afi), (ase, (nI (g + 1)), amo, ass, asp), (afo, aba, ano, aen, avs), (avo, avt, are, atd, ale)) - 1).toNatClampNeg = g by show (nI (g + 1) - 1).toNatClampNeg = g; rw [nI_pred]; exact nI_clamp (by omega)]
            unfold md_ret1; (first | rw [if_pos h47] | rw [if_neg h47]); (first | rw [if_pos h61] | rw [if_neg h61]); (first | rw [if_pos h75] | rw [if_neg h75]); (first | rw [if_pos h83] | rw [if_neg h83]); exact ⟨e_r334, w334⟩
      · refine lv_iconst (v := 1) hx hb d_Model_returns_64 (by decide) ?_
        refine lv_goto hx hb d_Model_returns_65 rfl ?_
        refine lv_icmp_ne hx hb d_Model_returns_83 rfl (fun h83 => ?_) (fun h83 => ?_)
        · refine lv_iconst (v := 0) hx hb d_Model_returns_90 (by decide) ?_
          refine lv_istore (lv' := [(5, .int 0), (4, .int avo), (3, .int (ase g)), (2, .int (afi g)), (1, .int (nI g)), (0, .ref (ad 0))]) hx hb d_Model_returns_91 hl (by decide) rfl (fun ls hl => ?_)
          refine lv_iload hx hb d_Model_returns_93 (lv_at hl 0 rfl) ?_
          refine lv_if_ne hx hb d_Model_returns_95 rfl (fun h95 => by exact absurd h95 (by decide)) (fun h95 => ?_)
          refine lv_aload_n hx hb d_Model_returns_98 rfl (lv_at hl 5 rfl) ?_
          refine lv_iconst (v := 3) hx hb d_Model_returns_99 (by decide) ?_
          refine lm_vi (b := ad 0) (As := [.int 3]) (rest := []) (wr := ([] : va_W)) ⟨hx, hb, hml, hown, hts⟩ hK hP hD hS hA [0, 1, 2, 3, 4, 5, 6, 7, 8, 9, 10, 11, 12, 13, 14, 15] [] rfl rfl (by decide) (by decide) (by decide) (c_Model_stops l dC dI cA cZ ad _ ((aso, axs, ato, ath, asi), (asr, anu, ach, aow, aar), (ais, aon, atw, awh, afi), (ase, (nI (g + 1)), amo, ass, asp), (afo, aba, ano, aen, avs), (avo, avt, are, atd, ale)) 3 ) (cwV 1 hts (lm_gV m_16_8 m_16_9 m_20_5 m_0_5 m_16_10) rfl rfl rfl (by decide +kernel) ⟨Nat.le_of_ble_eq_true rfl, Nat.le_of_ble_eq_true rfl⟩) (va_recv (q0 := 0) hK hP rfl rfl) lm_bl_no (fun _ _ _ => trivial) hl.1 rfl rfl (Nat.le_of_ble_eq_true rfl) d_Model_returns_100 ⟨Nat.le_of_ble_eq_true rfl, Nat.le_of_ble_eq_true rfl⟩ (fun r100 u100 H locs w100 hP hD hS => ?_)
          obtain ⟨e_r100, w100⟩ := w100
          replace e_r100 := e_r100.symm
          subst e_r100
          have w100 : u100 = ((aso, axs, ato, ath, asi), (asr, anu, ach, aow, aar), (ais, aon, atw, awh, afi), (ase, (nI (g + 1)), amo, 3, asp), (afo, aba, ano, aen, avs), (avo, avt, are, atd, ale)) := w100
          subst w100
          have hP : va_P (dC, dI) classes (mr_W cA cZ ad ((aso, axs, ato, ath, asi), (asr, anu, ach, aow, aar), (ais, aon, atw, awh, afi), (ase, (nI (g + 1)), amo, 3, asp), (afo, aba, ano, aen, avs), (avo, avt, are, atd, ale))) H := hP
          have hD : va_D A (mr_W cA cZ ad ((aso, axs, ato, ath, asi), (asr, anu, ach, aow, aar), (ais, aon, atw, awh, afi), (ase, (nI (g + 1)), amo, 3, asp), (afo, aba, ano, aen, avs), (avo, avt, are, atd, ale))) := hD
          refine lm_rz (v := 1) hx hb hr hlocks (by decide) ((aso, axs, ato, ath, asi), (asr, anu, ach, aow, aar), (ais, aon, atw, awh, afi), (ase, (nI (g + 1)), amo, 3, asp), (afo, aba, ano, aen, avs), (avo, avt, are, atd, ale)) ?_ hP hK hD hS d_Model_returns_103
          unfold md_ret; rw [if_neg h4, show (r_fr ((aso, axs, ato, ath, asi), (asr, anu, ach, aow, aar), (ais, aon, atw, awh, afi), (ase, (nI (g + 1)), amo, ass, asp), (afo, aba, ano, aen, avs), (avo, avt, are, atd, ale)) - 1).toNatClampNeg = g by show (nI (g + 1) - 1).toNatClampNeg = g; rw [nI_pred]; exact nI_clamp (by omega)]
          unfold md_ret1; (first | rw [if_pos h47] | rw [if_neg h47]); (first | rw [if_pos h61] | rw [if_neg h61]); (first | rw [if_pos h83] | rw [if_neg h83]); exact ⟨rfl, rfl⟩
        · refine lv_iconst (v := 1) hx hb d_Model_returns_86 (by decide) ?_
          refine lv_goto hx hb d_Model_returns_87 rfl ?_
          refine lv_istore (lv' := [(5, .int 1), (4, .int avo), (3, .int (ase g)), (2, .int (afi g)), (1, .int (nI g)), (0, .ref (ad 0))]) hx hb d_Model_returns_91 hl (by decide) rfl (fun ls hl => ?_)
          refine lv_iload hx hb d_Model_returns_93 (lv_at hl 0 rfl) ?_
          refine lv_if_ne hx hb d_Model_returns_95 rfl (fun h95 => ?_) (fun h95 => by exact absurd h95 (by decide))
          refine lv_aload_n hx hb d_Model_returns_104 rfl (lv_at hl 5 rfl) ?_
          refine va_get (D := (dC, dI)) (ci := 4) (v := .ref (ad 13)) (C := R_Model) (T := F_Model) (N := 30) hx hb hts (fun q hq => List.mem_cons_of_mem _ (i_Model q hq)) hown hK hP 0 rfl rfl 16 (by decide) (hts _ (List.mem_cons_of_mem _ m_14_9)) (fun _ h9 => h9) rfl d_Model_returns_105 ?_
          refine lv_iload_n hx hb d_Model_returns_108 rfl (lv_at hl 4 rfl) ?_
          have hin : vp_in (nI g) 200 := by first | assumption | exact vp_in_nI (by omega) (by decide)
          refine va_iald (f := awh) (n := 200) hx hb hK hP 13 0 rfl rfl hin d_Model_returns_109 ?_
          rw [nI_clamp (show g < 2 ^ 31 by omega)]
          refine lv_tableIn (tgt := 186) hx hb d_Model_returns_110 (by rw [h61]; decide) (by rw [h61]; decide) (by rw [h61]; rfl) rfl ?_
          refine lv_aload_n hx hb d_Model_returns_186 rfl (lv_at hl 5 rfl) ?_
          refine lv_iconst (v := 1) hx hb d_Model_returns_187 (by decide) ?_
          refine lm_vi (b := ad 0) (As := [.int 1]) (rest := []) (wr := ([] : va_W)) ⟨hx, hb, hml, hown, hts⟩ hK hP hD hS hA [0, 1, 2, 3, 4, 5, 6, 7, 8, 9, 10, 11, 12, 13, 14, 15] [] rfl rfl (by decide) (by decide) (by decide) (c_Model_isFull l dC dI cA cZ ad _ ((aso, axs, ato, ath, asi), (asr, anu, ach, aow, aar), (ais, aon, atw, awh, afi), (ase, (nI (g + 1)), amo, ass, asp), (afo, aba, ano, aen, avs), (avo, avt, are, atd, ale)) 1 (by exact hi)) (cwV 1 hts (lm_gV m_16_11 m_16_12 m_20_6 m_0_5 m_16_13) rfl rfl rfl (by decide +kernel) ⟨Nat.le_of_ble_eq_true rfl, Nat.le_of_ble_eq_true rfl⟩) (va_recv (q0 := 0) hK hP rfl rfl) lm_bl_no (fun _ _ _ => trivial) hl.1 rfl rfl (Nat.le_of_ble_eq_true rfl) d_Model_returns_188 ⟨Nat.le_of_ble_eq_true rfl, Nat.le_of_ble_eq_true rfl⟩ (fun r188 u188 H locs w188 hP hD hS => ?_)
          obtain ⟨e_r188, w188⟩ := w188
          have hP : va_P (dC, dI) classes (mr_W cA cZ ad u188) H := hP
          have hD : va_D A (mr_W cA cZ ad u188) := hD
          refine lv_if_eq hx hb d_Model_returns_191 rfl (fun h191 => ?_) (fun h191 => ?_)
          · refine lv_aload_n hx hb d_Model_returns_196 rfl (lv_at hl 5 rfl) ?_
            refine lv_dup hx hb d_Model_returns_197 rfl ?_
            refine va_get (D := (dC, dI)) (ci := 4) (v := .int u188.2.2.2.1.2.1) (C := R_Model) (T := F_Model) (N := 30) hx hb hts (fun q hq => List.mem_cons_of_mem _ (i_Model q hq)) hown hK hP 0 rfl rfl 19 (by decide) (hts _ (List.mem_cons_of_mem _ m_14_12)) (fun _ h9 => h9) rfl d_Model_returns_198 ?_
            refine lv_iconst (v := 1) hx hb d_Model_returns_201 (by decide) ?_
            refine lv_isub hx hb d_Model_returns_202 ?_
            refine va_put (D := (dC, dI)) (ci := 4) (v := .int (u188.2.2.2.1.2.1 - 1)) (ty := .int) (C := R_Model) (T := F_Model) (N := 30) hx hb hts (fun q hq => List.mem_cons_of_mem _ (i_Model q hq)) t_Model t_Model_ok n_Model hown hK hP hD hS 0 rfl rfl 19 (by decide) (hts _ (List.mem_cons_of_mem _ m_14_12)) (fun _ h9 => h9) rfl (by decide +kernel) rfl rfl (Nat.le_of_ble_eq_true rfl) d_Model_returns_203 (fun H locs hP hD hS => ?_)
            have hP : va_P (dC, dI) classes (mr_W cA cZ ad ((u188.1.1, u188.1.2.1, u188.1.2.2.1, u188.1.2.2.2.1, u188.1.2.2.2.2), (u188.2.1.1, u188.2.1.2.1, u188.2.1.2.2.1, u188.2.1.2.2.2.1, u188.2.1.2.2.2.2), (u188.2.2.1.1, u188.2.2.1.2.1, u188.2.2.1.2.2.1, u188.2.2.1.2.2.2.1, u188.2.2.1.2.2.2.2), (u188.2.2.2.1.1, (u188.2.2.2.1.2.1 - 1), u188.2.2.2.1.2.2.1, u188.2.2.2.1.2.2.2.1, u188.2.2.2.1.2.2.2.2), (u188.2.2.2.2.1.1, u188.2.2.2.2.1.2.1, u188.2.2.2.2.1.2.2.1, u188.2.2.2.2.1.2.2.2.1, u188.2.2.2.2.1.2.2.2.2), (u188.2.2.2.2.2.1, u188.2.2.2.2.2.2.1, u188.2.2.2.2.2.2.2.1, u188.2.2.2.2.2.2.2.2.1, u188.2.2.2.2.2.2.2.2.2))) H := hP
            have hD : va_D A (mr_W cA cZ ad ((u188.1.1, u188.1.2.1, u188.1.2.2.1, u188.1.2.2.2.1, u188.1.2.2.2.2), (u188.2.1.1, u188.2.1.2.1, u188.2.1.2.2.1, u188.2.1.2.2.2.1, u188.2.1.2.2.2.2), (u188.2.2.1.1, u188.2.2.1.2.1, u188.2.2.1.2.2.1, u188.2.2.1.2.2.2.1, u188.2.2.1.2.2.2.2), (u188.2.2.2.1.1, (u188.2.2.2.1.2.1 - 1), u188.2.2.2.1.2.2.1, u188.2.2.2.1.2.2.2.1, u188.2.2.2.1.2.2.2.2), (u188.2.2.2.2.1.1, u188.2.2.2.2.1.2.1, u188.2.2.2.2.1.2.2.1, u188.2.2.2.2.1.2.2.2.1, u188.2.2.2.2.1.2.2.2.2), (u188.2.2.2.2.2.1, u188.2.2.2.2.2.2.1, u188.2.2.2.2.2.2.2.1, u188.2.2.2.2.2.2.2.2.1, u188.2.2.2.2.2.2.2.2.2))) := hD
            refine lv_aload_n hx hb d_Model_returns_206 rfl (lv_at hl 5 rfl) ?_
            refine lv_aload_n hx hb d_Model_returns_207 rfl (lv_at hl 5 rfl) ?_
            refine va_get (D := (dC, dI)) (ci := 4) (v := .ref (ad 5)) (C := R_Model) (T := F_Model) (N := 30) hx hb hts (fun q hq => List.mem_cons_of_mem _ (i_Model q hq)) hown hK hP 0 rfl rfl 6 (by decide) (hts _ (List.mem_cons_of_mem _ m_13_23)) (fun _ h9 => h9) rfl d_Model_returns_208 ?_
            refine lv_iconst (v := 3) hx hb d_Model_returns_211 (by decide) ?_
            refine lv_iload hx hb d_Model_returns_212 (lv_at hl 1 rfl) ?_
            refine lv_imul hx hb d_Model_returns_214 ?_
            have hin : vp_in (3 * avo) 600 := by exact (nx_ix (hb1 h61 h83)).1
            refine va_iald (f := u188.2.1.2.2.1) (n := 600) hx hb hK hP 5 0 rfl rfl hin d_Model_returns_215 ?_
            refine lv_aload_n hx hb d_Model_returns_216 rfl (lv_at hl 5 rfl) ?_
            refine lv_iconst (v := 5) hx hb d_Model_returns_217 (by decide) ?_
            refine lv_iload_n hx hb d_Model_returns_218 rfl (lv_at hl 3 rfl) ?_
            refine lv_aload_n hx hb d_Model_returns_219 rfl (lv_at hl 5 rfl) ?_
            refine va_get (D := (dC, dI)) (ci := 4) (v := .int u188.2.2.2.2.2.2.1) (C := R_Model) (T := F_Model) (N := 30) hx hb hts (fun q hq => List.mem_cons_of_mem _ (i_Model q hq)) hown hK hP 0 rfl rfl 29 (by decide) (hts _ (List.mem_cons_of_mem _ m_14_22)) (fun _ h9 => h9) rfl d_Model_returns_220 ?_
            refine lm_vi (b := ad 0) (As := [.int 5, .int (afi g), .int u188.2.2.2.2.2.2.1]) (rest := [.int (u188.2.1.2.2.1 (3 * avo).toNatClampNeg), .ref (ad 0)]) (wr := ([] : va_W)) ⟨hx, hb, hml, hown, hts⟩ hK hP hD hS hA [0, 1, 2, 3, 4, 5, 6, 7, 8, 9, 10, 11, 12, 13, 14, 15] [] rfl rfl (by decide) (by decide) (by decide) (c_Model_cell l dC dI cA cZ ad _ ((u188.1.1, u188.1.2.1, u188.1.2.2.1, u188.1.2.2.2.1, u188.1.2.2.2.2), (u188.2.1.1, u188.2.1.2.1, u188.2.1.2.2.1, u188.2.1.2.2.2.1, u188.2.1.2.2.2.2), (u188.2.2.1.1, u188.2.2.1.2.1, u188.2.2.1.2.2.1, u188.2.2.1.2.2.2.1, u188.2.2.1.2.2.2.2), (u188.2.2.2.1.1, (u188.2.2.2.1.2.1 - 1), u188.2.2.2.1.2.2.1, u188.2.2.2.1.2.2.2.1, u188.2.2.2.1.2.2.2.2), (u188.2.2.2.2.1.1, u188.2.2.2.2.1.2.1, u188.2.2.2.2.1.2.2.1, u188.2.2.2.2.1.2.2.2.1, u188.2.2.2.2.1.2.2.2.2), (u188.2.2.2.2.2.1, u188.2.2.2.2.2.2.1, u188.2.2.2.2.2.2.2.1, u188.2.2.2.2.2.2.2.2.1, u188.2.2.2.2.2.2.2.2.2)) 5 (afi g) u188.2.2.2.2.2.2.1 (by show ∃ j : Nat, j < 256 ∧ r_re u188 j = 0; refine md_free_of ?_; have := md_full_n (S := ((aso, axs, ato, ath, asi), (asr, anu, ach, aow, aar), (ais, aon, atw, awh, afi), (ase, (nI (g + 1)), amo, ass, asp), (afo, aba, ano, aen, avs), (avo, avt, are, atd, ale))) (x := 1) (c := 1) hi (by omega) rfl (by rw [← e_r188]; exact h191); rw [w188]; omega)) (cwV 3 hts (lm_gV m_16_23 m_17_0 m_20_10 m_0_5 m_17_1) rfl rfl rfl (by decide +kernel) ⟨Nat.le_of_ble_eq_true rfl, Nat.le_of_ble_eq_true rfl⟩) (va_recv (q0 := 0) hK hP rfl rfl) lm_bl_no (fun _ _ _ => trivial) hl.1 rfl rfl (Nat.le_of_ble_eq_true rfl) d_Model_returns_223 ⟨Nat.le_of_ble_eq_true rfl, Nat.le_of_ble_eq_true rfl⟩ (fun r223 u223 H locs w223 hP hD hS => ?_)
            obtain ⟨e_r223, w223⟩ := w223
            have hP : va_P (dC, dI) classes (mr_W cA cZ ad u223) H := hP
            have hD : va_D A (mr_W cA cZ ad u223) := hD
            have e_r223 : r223 = (md_cell (s_fr u188 (r_fr u188 - 1)) 5 (afi g) (r_vt (s_fr u188 (r_fr u188 - 1)))).1 := e_r223
            have w223 : u223 = (md_cell (s_fr u188 (r_fr u188 - 1)) 5 (afi g) (r_vt (s_fr u188 (r_fr u188 - 1)))).2 := w223
            refine lm_vv (b := ad 0) (As := [.int (u188.2.1.2.2.1 (3 * avo).toNatClampNeg), .int r223]) (rest := []) (wr := ([] : va_W)) ⟨hx, hb, hml, hown, hts⟩ hK hP hD hS hA [0, 1, 2, 3, 4, 5, 6, 7, 8, 9, 10, 11, 12, 13, 14, 15] [] rfl rfl (by decide) (by decide) (by decide) (c_Model_go l dC dI cA cZ ad _ u223 (u188.2.1.2.2.1 (3 * avo).toNatClampNeg) r223 ) (cwV 2 hts (lm_gV m_17_2 m_17_3 m_20_11 m_0_5 m_17_4) rfl rfl rfl (by decide +kernel) ⟨Nat.le_of_ble_eq_true rfl, Nat.le_of_ble_eq_true rfl⟩) (va_recv (q0 := 0) hK hP rfl rfl) lm_bl_no (fun _ _ _ => trivial) hl.1 rfl rfl (Nat.le_of_ble_eq_true rfl) d_Model_returns_226 ⟨Nat.le_of_ble_eq_true rfl, Nat.le_of_ble_eq_true rfl⟩ (fun u226 H locs w226 hP hD hS => ?_)
            have w226 : u226 = ((u223.1.1, u223.1.2.1, u223.1.2.2.1, u223.1.2.2.2.1, u223.1.2.2.2.2), (u223.2.1.1, u223.2.1.2.1, u223.2.1.2.2.1, u223.2.1.2.2.2.1, u223.2.1.2.2.2.2), (u223.2.2.1.1, u223.2.2.1.2.1, u223.2.2.1.2.2.1, u223.2.2.1.2.2.2.1, u223.2.2.1.2.2.2.2), (u223.2.2.2.1.1, u223.2.2.2.1.2.1, u223.2.2.2.1.2.2.1, u223.2.2.2.1.2.2.2.1, u223.2.2.2.1.2.2.2.2), (u223.2.2.2.2.1.1, 0, (u188.2.1.2.2.1 (3 * avo).toNatClampNeg), r223, u223.2.2.2.2.1.2.2.2.2), (u223.2.2.2.2.2.1, u223.2.2.2.2.2.2.1, u223.2.2.2.2.2.2.2.1, u223.2.2.2.2.2.2.2.2.1, u223.2.2.2.2.2.2.2.2.2)) := w226
            subst w226
            have hP : va_P (dC, dI) classes (mr_W cA cZ ad ((u223.1.1, u223.1.2.1, u223.1.2.2.1, u223.1.2.2.2.1, u223.1.2.2.2.2), (u223.2.1.1, u223.2.1.2.1, u223.2.1.2.2.1, u223.2.1.2.2.2.1, u223.2.1.2.2.2.2), (u223.2.2.1.1, u223.2.2.1.2.1, u223.2.2.1.2.2.1, u223.2.2.1.2.2.2.1, u223.2.2.1.2.2.2.2), (u223.2.2.2.1.1, u223.2.2.2.1.2.1, u223.2.2.2.1.2.2.1, u223.2.2.2.1.2.2.2.1, u223.2.2.2.1.2.2.2.2), (u223.2.2.2.2.1.1, 0, (u188.2.1.2.2.1 (3 * avo).toNatClampNeg), r223, u223.2.2.2.2.1.2.2.2.2), (u223.2.2.2.2.2.1, u223.2.2.2.2.2.2.1, u223.2.2.2.2.2.2.2.1, u223.2.2.2.2.2.2.2.2.1, u223.2.2.2.2.2.2.2.2.2))) H := hP
            have hD : va_D A (mr_W cA cZ ad ((u223.1.1, u223.1.2.1, u223.1.2.2.1, u223.1.2.2.2.1, u223.1.2.2.2.2), (u223.2.1.1, u223.2.1.2.1, u223.2.1.2.2.1, u223.2.1.2.2.2.1, u223.2.1.2.2.2.2), (u223.2.2.1.1, u223.2.2.1.2.1, u223.2.2.1.2.2.1, u223.2.2.1.2.2.2.1, u223.2.2.1.2.2.2.2), (u223.2.2.2.1.1, u223.2.2.2.1.2.1, u223.2.2.2.1.2.2.1, u223.2.2.2.1.2.2.2.1, u223.2.2.2.1.2.2.2.2), (u223.2.2.2.2.1.1, 0, (u188.2.1.2.2.1 (3 * avo).toNatClampNeg), r223, u223.2.2.2.2.1.2.2.2.2), (u223.2.2.2.2.2.1, u223.2.2.2.2.2.2.1, u223.2.2.2.2.2.2.2.1, u223.2.2.2.2.2.2.2.2.1, u223.2.2.2.2.2.2.2.2.2))) := hD
            refine lv_iconst (v := 0) hx hb d_Model_returns_229 (by decide) ?_
            refine lm_rz (v := 0) hx hb hr hlocks (by decide) ((u223.1.1, u223.1.2.1, u223.1.2.2.1, u223.1.2.2.2.1, u223.1.2.2.2.2), (u223.2.1.1, u223.2.1.2.1, u223.2.1.2.2.1, u223.2.1.2.2.2.1, u223.2.1.2.2.2.2), (u223.2.2.1.1, u223.2.2.1.2.1, u223.2.2.1.2.2.1, u223.2.2.1.2.2.2.1, u223.2.2.1.2.2.2.2), (u223.2.2.2.1.1, u223.2.2.2.1.2.1, u223.2.2.2.1.2.2.1, u223.2.2.2.1.2.2.2.1, u223.2.2.2.1.2.2.2.2), (u223.2.2.2.2.1.1, 0, (u188.2.1.2.2.1 (3 * avo).toNatClampNeg), r223, u223.2.2.2.2.1.2.2.2.2), (u223.2.2.2.2.2.1, u223.2.2.2.2.2.2.1, u223.2.2.2.2.2.2.2.1, u223.2.2.2.2.2.2.2.2.1, u223.2.2.2.2.2.2.2.2.2)) ?_ hP hK hD hS d_Model_returns_230
            unfold md_ret; rw [if_neg h4, show (r_fr ((aso, axs, ato, ath, asi), (asr, anu, ach, aow, aar), (ais, aon, atw, awh, afi), (ase, (nI (g + 1)), amo, ass, asp), (afo, aba, ano, aen, avs), (avo, avt, are, atd, ale)) - 1).toNatClampNeg = g by show (nI (g + 1) - 1).toNatClampNeg = g; rw [nI_pred]; exact nI_clamp (by omega)]
            unfold md_ret1; (first | rw [if_pos h47] | rw [if_neg h47]); (first | rw [if_pos h61] | rw [if_neg h61]); (first | rw [if_pos h83] | rw [if_neg h83]); unfold md_arg; (try rw [← e_r188]); (try rw [← w188]); (first | rw [if_pos h191] | rw [if_neg h191]); unfold md_arg2; rw [← e_r223, ← w223]; exact ⟨rfl, rfl⟩
          · refine lv_iconst (v := 1) hx hb d_Model_returns_194 (by decide) ?_
            refine lm_rz (v := 1) hx hb hr hlocks (by decide) u188 ?_ hP hK hD hS d_Model_returns_195
            unfold md_ret; rw [if_neg h4, show (r_fr ((aso, axs, ato, ath, asi), (asr, anu, ach, aow, aar), (ais, aon, atw, awh, afi), (ase, (nI (g + 1)), amo, ass, asp), (afo, aba, ano, aen, avs), (avo, avt, are, atd, ale)) - 1).toNatClampNeg = g by show (nI (g + 1) - 1).toNatClampNeg = g; rw [nI_pred]; exact nI_clamp (by omega)]
            unfold md_ret1; (first | rw [if_pos h47] | rw [if_neg h47]); (first | rw [if_pos h61] | rw [if_neg h61]); (first | rw [if_pos h83] | rw [if_neg h83]); unfold md_arg; (try rw [← e_r188]); (try rw [← w188]); (first | rw [if_pos h191] | rw [if_neg h191]); exact ⟨rfl, rfl⟩
  · refine lv_aload_n hx hb d_Model_returns_7 rfl (lv_at hl 0 rfl) ?_
    refine lv_iconst (v := 2) hx hb d_Model_returns_8 (by decide) ?_
    refine va_put (D := (dC, dI)) (ci := 4) (v := .int 2) (ty := .int) (C := R_Model) (T := F_Model) (N := 30) hx hb hts (fun q hq => List.mem_cons_of_mem _ (i_Model q hq)) t_Model t_Model_ok n_Model hown hK hP hD hS 0 rfl rfl 21 (by decide) (hts _ (List.mem_cons_of_mem _ m_14_14)) (fun _ h9 => h9) rfl (by decide +kernel) rfl rfl (Nat.le_of_ble_eq_true rfl) d_Model_returns_9 (fun H locs hP hD hS => ?_)
    have hP : va_P (dC, dI) classes (mr_W cA cZ ad ((aso, axs, ato, ath, asi), (asr, anu, ach, aow, aar), (ais, aon, atw, awh, afi), (ase, (nI z), amo, 2, asp), (afo, aba, ano, aen, avs), (avo, avt, are, atd, ale))) H := hP
    have hD : va_D A (mr_W cA cZ ad ((aso, axs, ato, ath, asi), (asr, anu, ach, aow, aar), (ais, aon, atw, awh, afi), (ase, (nI z), amo, 2, asp), (afo, aba, ano, aen, avs), (avo, avt, are, atd, ale))) := hD
    refine lv_iconst (v := 0) hx hb d_Model_returns_12 (by decide) ?_
    refine lm_rz (v := 0) hx hb hr hlocks (by decide) ((aso, axs, ato, ath, asi), (asr, anu, ach, aow, aar), (ais, aon, atw, awh, afi), (ase, (nI z), amo, 2, asp), (afo, aba, ano, aen, avs), (avo, avt, are, atd, ale)) ?_ hP hK hD hS d_Model_returns_13
    unfold md_ret; rw [if_pos h4]; exact ⟨rfl, rfl⟩
