set_option maxHeartbeats 4000000 in
set_option maxRecDepth 100000 in
theorem c_Model_put (l : Launch) (dC : Nat → ClassId) (dI : Nat → Nat → Nat) (cA cZ : ClassId)  (ad : Nat → Nat) (sz : Nat) (S : ZNS) (y1 y2 : Int32) (hz : ∃ z : Nat, z ≤ 200 ∧ r_to S = nI z) : Met l y_Model_put w_Model_put ({ frames := 1, cells := 0, slots := 0, locals := 22 } : Room) (va_Pc [.ref (ad 0), .int y1, .int y2] (lm_pre (dC, dI) classes [(cA, .int), (cZ, .boolean)] (mr_W cA cZ ad S) sz lm_no)) (va_Qi (fun (r : Int32) (u : ZNS) => r = (md_put S y1 y2).1 ∧ u = (md_put S y1 y2).2) (fun u => lm_at (dC, dI) classes [(cA, .int), (cZ, .boolean)] (va_A (mr_W cA cZ ad S) sz) (mr_W cA cZ ad u)) (va_A (mr_W cA cZ ad S) sz)) 0 0 (va_A (mr_W cA cZ ad S) sz) := by
  obtain ⟨⟨aso, axs, ato, ath, asi⟩, ⟨asr, anu, ach, aow, aar⟩, ⟨ais, aon, atw, awh, afi⟩, ⟨ase, afr, amo, ass, asp⟩, ⟨afo, aba, ano, aen, avs⟩, ⟨avo, avt, are, atd, ale⟩⟩ := S
  obtain ⟨z, hz, hzz⟩ := hz
  have hzz : ato = nI z := hzz
  subst hzz
  refine lm_met (fun A => va_Qi (fun (r : Int32) (u : ZNS) => r = (md_put ((aso, axs, (nI z), ath, asi), (asr, anu, ach, aow, aar), (ais, aon, atw, awh, afi), (ase, afr, amo, ass, asp), (afo, aba, ano, aen, avs), (avo, avt, are, atd, ale)) y1 y2).1 ∧ u = (md_put ((aso, axs, (nI z), ath, asi), (asr, anu, ach, aow, aar), (ais, aon, atw, awh, afi), (ase, afr, amo, ass, asp), (afo, aba, ano, aen, avs), (avo, avt, are, atd, ale)) y1 y2).2) (fun u => lm_at (dC, dI) classes [(cA, .int), (cZ, .boolean)] A (mr_W cA cZ ad u)) A) (by decide) rfl (Nat.le_of_ble_eq_true rfl) ?_
  intro p e s m below meth c A hx hb hr hts hown hlocks hname hml hK hP hD hA hE hsz hAe hS ls hl
  replace hl : lv_has ls 4 [(0, .ref (ad 0)), (1, .int y1), (2, .int y2)] := hl
  clear hAe hsz
  refine lv_iload_n hx hb d_Model_put_0 rfl (lv_at hl 1 rfl) ?_
  refine lv_if_lt hx hb d_Model_put_1 rfl (fun h1 => ?_) (fun h1 => ?_)
  · refine lv_iconst (v := 0) hx hb d_Model_put_40 (by decide) ?_
    refine lv_istore_n (lv' := [(3, .int 0), (0, .ref (ad 0)), (1, .int y1), (2, .int y2)]) hx hb d_Model_put_41 rfl hl (by decide) rfl (fun ls hl => ?_)
    refine lv_aload_n hx hb d_Model_put_42 rfl (lv_at hl 1 rfl) ?_
    refine lv_iload_n hx hb d_Model_put_43 rfl (lv_at hl 0 rfl) ?_
    refine lv_if_ne hx hb d_Model_put_44 rfl (fun h44 => by exact absurd h44 (by decide)) (fun h44 => ?_)
    refine lv_iconst (v := 1) hx hb d_Model_put_47 (by decide) ?_
    refine lv_goto hx hb d_Model_put_48 rfl ?_
    refine lv_iconst (v := 0) hx hb d_Model_put_52 (by decide) ?_
    refine lm_vi (b := ad 0) (As := [.int 1, .int 0]) (rest := []) (wr := ([] : va_W)) ⟨hx, hb, hml, hown, hts⟩ hK hP hD hS hA [0, 1, 2, 3, 4, 5, 6, 7, 8, 9, 10, 11, 12, 13, 14, 15] [] rfl rfl (by decide) (by decide) (by decide) (c_Model_fails l dC dI cA cZ ad _ ((aso, axs, (nI z), ath, asi), (asr, anu, ach, aow, aar), (ais, aon, atw, awh, afi), (ase, afr, amo, ass, asp), (afo, aba, ano, aen, avs), (avo, avt, are, atd, ale)) 1 0 ) (cwV 2 hts (lm_gV m_15_8 m_15_9 m_20_2 m_0_5 m_15_10) rfl rfl rfl (by decide +kernel) ⟨Nat.le_of_ble_eq_true rfl, Nat.le_of_ble_eq_true rfl⟩) (va_recv (q0 := 0) hK hP rfl rfl) lm_bl_no (fun _ _ _ => trivial) hl.1 rfl rfl (Nat.le_of_ble_eq_true rfl) d_Model_put_53 ⟨Nat.le_of_ble_eq_true rfl, Nat.le_of_ble_eq_true rfl⟩ (fun r53 u53 H locs w53 hP hD hS => ?_)
    obtain ⟨e_r53, w53⟩ := w53
    have e_r53 : r53 = 1 := e_r53
    replace e_r53 := e_r53.symm
    subst e_r53
    have w53 : u53 = ((aso, axs, (nI z), 1, asi), (asr, anu, ach, aow, aar), (ais, aon, atw, awh, afi), (ase, afr, amo, ass, asp), (afo, aba, ano, aen, avs), (avo, avt, are, atd, ale)) := w53
    replace w53 := w53.symm
    subst w53
    have hP : va_P (dC, dI) classes (mr_W cA cZ ad ((aso, axs, (nI z), 1, asi), (asr, anu, ach, aow, aar), (ais, aon, atw, awh, afi), (ase, afr, amo, ass, asp), (afo, aba, ano, aen, avs), (avo, avt, are, atd, ale))) H := hP
    have hD : va_D A (mr_W cA cZ ad ((aso, axs, (nI z), 1, asi), (asr, anu, ach, aow, aar), (ais, aon, atw, awh, afi), (ase, afr, amo, ass, asp), (afo, aba, ano, aen, avs), (avo, avt, are, atd, ale))) := hD
    refine lv_if_eq hx hb d_Model_put_56 rfl (fun h56 => by exact absurd h56 (by decide)) (fun h56 => ?_)
    refine lv_iconst (v := 0) hx hb d_Model_put_59 (by decide) ?_
    refine lm_ri (v := 0) hx hb hr hlocks ((aso, axs, (nI z), 1, asi), (asr, anu, ach, aow, aar), (ais, aon, atw, awh, afi), (ase, afr, amo, ass, asp), (afo, aba, ano, aen, avs), (avo, avt, are, atd, ale)) ?_ hP hK hD hS d_Model_put_60
    have hg : md_good y1 y2 = 0 := by
      unfold md_good; (first | rw [if_pos h1] | rw [if_neg h1])
    unfold md_put; rw [hg]; rw [if_pos rfl]; exact ⟨rfl, rfl⟩
  · refine lv_iload_n hx hb d_Model_put_4 rfl (lv_at hl 1 rfl) ?_
    refine lv_bipush (v := 14) hx hb d_Model_put_5 (by decide) ?_
    refine lv_icmp_ge hx hb d_Model_put_7 rfl (fun h7 => ?_) (fun h7 => ?_)
    · refine lv_iconst (v := 0) hx hb d_Model_put_40 (by decide) ?_
      refine lv_istore_n (lv' := [(3, .int 0), (0, .ref (ad 0)), (1, .int y1), (2, .int y2)]) hx hb d_Model_put_41 rfl hl (by decide) rfl (fun ls hl => ?_)
      refine lv_aload_n hx hb d_Model_put_42 rfl (lv_at hl 1 rfl) ?_
      refine lv_iload_n hx hb d_Model_put_43 rfl (lv_at hl 0 rfl) ?_
      refine lv_if_ne hx hb d_Model_put_44 rfl (fun h44 => by exact absurd h44 (by decide)) (fun h44 => ?_)
      refine lv_iconst (v := 1) hx hb d_Model_put_47 (by decide) ?_
      refine lv_goto hx hb d_Model_put_48 rfl ?_
      refine lv_iconst (v := 0) hx hb d_Model_put_52 (by decide) ?_
      refine lm_vi (b := ad 0) (As := [.int 1, .int 0]) (rest := []) (wr := ([] : va_W)) ⟨hx, hb, hml, hown, hts⟩ hK hP hD hS hA [0, 1, 2, 3, 4, 5, 6, 7, 8, 9, 10, 11, 12, 13, 14, 15] [] rfl rfl (by decide) (by decide) (by decide) (c_Model_fails l dC dI cA cZ ad _ ((aso, axs, (nI z), ath, asi), (asr, anu, ach, aow, aar), (ais, aon, atw, awh, afi), (ase, afr, amo, ass, asp), (afo, aba, ano, aen, avs), (avo, avt, are, atd, ale)) 1 0 ) (cwV 2 hts (lm_gV m_15_8 m_15_9 m_20_2 m_0_5 m_15_10) rfl rfl rfl (by decide +kernel) ⟨Nat.le_of_ble_eq_true rfl, Nat.le_of_ble_eq_true rfl⟩) (va_recv (q0 := 0) hK hP rfl rfl) lm_bl_no (fun _ _ _ => trivial) hl.1 rfl rfl (Nat.le_of_ble_eq_true rfl) d_Model_put_53 ⟨Nat.le_of_ble_eq_true rfl, Nat.le_of_ble_eq_true rfl⟩ (fun r53 u53 H locs w53 hP hD hS => ?_)
      obtain ⟨e_r53, w53⟩ := w53
      have e_r53 : r53 = 1 := e_r53
      replace e_r53 := e_r53.symm
      subst e_r53
      have w53 : u53 = ((aso, axs, (nI z), 1, asi), (asr, anu, ach, aow, aar), (ais, aon, atw, awh, afi), (ase, afr, amo, ass, asp), (afo, aba, ano, aen, avs), (avo, avt, are, atd, ale)) := w53
      replace w53 := w53.symm
      subst w53
      have hP : va_P (dC, dI) classes (mr_W cA cZ ad ((aso, axs, (nI z), 1, asi), (asr, anu, ach, aow, aar), (ais, aon, atw, awh, afi), (ase, afr, amo, ass, asp), (afo, aba, ano, aen, avs), (avo, avt, are, atd, ale))) H := hP
      have hD : va_D A (mr_W cA cZ ad ((aso, axs, (nI z), 1, asi), (asr, anu, ach, aow, aar), (ais, aon, atw, awh, afi), (ase, afr, amo, ass, asp), (afo, aba, ano, aen, avs), (avo, avt, are, atd, ale))) := hD
      refine lv_if_eq hx hb d_Model_put_56 rfl (fun h56 => by exact absurd h56 (by decide)) (fun h56 => ?_)
      refine lv_iconst (v := 0) hx hb d_Model_put_59 (by decide) ?_
      refine lm_ri (v := 0) hx hb hr hlocks ((aso, axs, (nI z), 1, asi), (asr, anu, ach, aow, aar), (ais, aon, atw, awh, afi), (ase, afr, amo, ass, asp), (afo, aba, ano, aen, avs), (avo, avt, are, atd, ale)) ?_ hP hK hD hS d_Model_put_60
      have hg : md_good y1 y2 = 0 := by
        unfold md_good; (first | rw [if_pos h1] | rw [if_neg h1]); (first | rw [if_pos h7] | rw [if_neg h7])
      unfold md_put; rw [hg]; rw [if_pos rfl]; exact ⟨rfl, rfl⟩
    · refine lv_iload_n hx hb d_Model_put_10 rfl (lv_at hl 1 rfl) ?_
      refine lv_iconst (v := 3) hx hb d_Model_put_11 (by decide) ?_
      refine lv_icmp_eq hx hb d_Model_put_12 rfl (fun h12 => ?_) (fun h12 => ?_)
      · refine lv_iconst (v := 1) hx hb d_Model_put_36 (by decide) ?_
        refine lv_goto hx hb d_Model_put_37 rfl ?_
        refine lv_istore_n (lv' := [(3, .int 1), (0, .ref (ad 0)), (1, .int y1), (2, .int y2)]) hx hb d_Model_put_41 rfl hl (by decide) rfl (fun ls hl => ?_)
        refine lv_aload_n hx hb d_Model_put_42 rfl (lv_at hl 1 rfl) ?_
        refine lv_iload_n hx hb d_Model_put_43 rfl (lv_at hl 0 rfl) ?_
        refine lv_if_ne hx hb d_Model_put_44 rfl (fun h44 => ?_) (fun h44 => by exact absurd h44 (by decide))
        refine lv_iconst (v := 0) hx hb d_Model_put_51 (by decide) ?_
        refine lv_iconst (v := 0) hx hb d_Model_put_52 (by decide) ?_
        refine lm_vi (b := ad 0) (As := [.int 0, .int 0]) (rest := []) (wr := ([] : va_W)) ⟨hx, hb, hml, hown, hts⟩ hK hP hD hS hA [0, 1, 2, 3, 4, 5, 6, 7, 8, 9, 10, 11, 12, 13, 14, 15] [] rfl rfl (by decide) (by decide) (by decide) (c_Model_fails l dC dI cA cZ ad _ ((aso, axs, (nI z), ath, asi), (asr, anu, ach, aow, aar), (ais, aon, atw, awh, afi), (ase, afr, amo, ass, asp), (afo, aba, ano, aen, avs), (avo, avt, are, atd, ale)) 0 0 ) (cwV 2 hts (lm_gV m_15_8 m_15_9 m_20_2 m_0_5 m_15_10) rfl rfl rfl (by decide +kernel) ⟨Nat.le_of_ble_eq_true rfl, Nat.le_of_ble_eq_true rfl⟩) (va_recv (q0 := 0) hK hP rfl rfl) lm_bl_no (fun _ _ _ => trivial) hl.1 rfl rfl (Nat.le_of_ble_eq_true rfl) d_Model_put_53 ⟨Nat.le_of_ble_eq_true rfl, Nat.le_of_ble_eq_true rfl⟩ (fun r53 u53 H locs w53 hP hD hS => ?_)
        obtain ⟨e_r53, w53⟩ := w53
        have e_r53 : r53 = 0 := e_r53
        replace e_r53 := e_r53.symm
        subst e_r53
        have w53 : u53 = ((aso, axs, (nI z), 0, asi), (asr, anu, ach, aow, aar), (ais, aon, atw, awh, afi), (ase, afr, amo, ass, asp), (afo, aba, ano, aen, avs), (avo, avt, are, atd, ale)) := w53
        replace w53 := w53.symm
        subst w53
        have hP : va_P (dC, dI) classes (mr_W cA cZ ad ((aso, axs, (nI z), 0, asi), (asr, anu, ach, aow, aar), (ais, aon, atw, awh, afi), (ase, afr, amo, ass, asp), (afo, aba, ano, aen, avs), (avo, avt, are, atd, ale))) H := hP
        have hD : va_D A (mr_W cA cZ ad ((aso, axs, (nI z), 0, asi), (asr, anu, ach, aow, aar), (ais, aon, atw, awh, afi), (ase, afr, amo, ass, asp), (afo, aba, ano, aen, avs), (avo, avt, are, atd, ale))) := hD
        refine lv_if_eq hx hb d_Model_put_56 rfl (fun h56 => ?_) (fun h56 => by exact absurd h56 (by decide))
        refine lv_aload_n hx hb d_Model_put_61 rfl (lv_at hl 1 rfl) ?_
        refine va_get (D := (dC, dI)) (ci := 4) (v := .int (nI z)) (C := R_Model) (T := F_Model) (N := 30) hx hb hts (fun q hq => List.mem_cons_of_mem _ (i_Model q hq)) hown hK hP 0 rfl rfl 3 (by decide) (hts _ (List.mem_cons_of_mem _ m_13_20)) (fun _ h9 => h9) rfl d_Model_put_62 ?_
        refine lv_sipush (v := 200) hx hb d_Model_put_65 (by decide) ?_
        refine lv_icmp_ne hx hb d_Model_put_68 rfl (fun h68 => ?_) (fun h68 => ?_)
        · have hlt : z < 200 := by
            rcases Nat.lt_or_ge z 200 with h9 | h9
            · exact h9
            · exact absurd (by rw [show z = 200 by omega]; rfl) h68
          refine lv_aload_n hx hb d_Model_put_73 rfl (lv_at hl 1 rfl) ?_
          refine va_get (D := (dC, dI)) (ci := 4) (v := .ref (ad 1)) (C := R_Model) (T := F_Model) (N := 30) hx hb hts (fun q hq => List.mem_cons_of_mem _ (i_Model q hq)) hown hK hP 0 rfl rfl 1 (by decide) (hts _ (List.mem_cons_of_mem _ m_13_18)) (fun _ h9 => h9) rfl d_Model_put_74 ?_
          refine lv_aload_n hx hb d_Model_put_77 rfl (lv_at hl 1 rfl) ?_
          refine va_get (D := (dC, dI)) (ci := 4) (v := .int (nI z)) (C := R_Model) (T := F_Model) (N := 30) hx hb hts (fun q hq => List.mem_cons_of_mem _ (i_Model q hq)) hown hK hP 0 rfl rfl 3 (by decide) (hts _ (List.mem_cons_of_mem _ m_13_20)) (fun _ h9 => h9) rfl d_Model_put_78 ?_
          refine lv_iload_n hx hb d_Model_put_81 rfl (lv_at hl 2 rfl) ?_
          have hin : vp_in (nI z) 200 := by first | assumption | exact vp_in_nI (by omega) (by decide)
          refine va_iast (f := aso) (n := 200) hx hb hK hP hD hS 1 0 rfl rfl hin d_Model_put_82 (fun H locs hP hD hS => ?_)
          rw [nI_clamp (show z < 2 ^ 31 by omega)] at hP hD
          have hP : va_P (dC, dI) classes (mr_W cA cZ ad (((upd aso z y1), axs, (nI z), 0, asi), (asr, anu, ach, aow, aar), (ais, aon, atw, awh, afi), (ase, afr, amo, ass, asp), (afo, aba, ano, aen, avs), (avo, avt, are, atd, ale))) H := hP
          have hD : va_D A (mr_W cA cZ ad (((upd aso z y1), axs, (nI z), 0, asi), (asr, anu, ach, aow, aar), (ais, aon, atw, awh, afi), (ase, afr, amo, ass, asp), (afo, aba, ano, aen, avs), (avo, avt, are, atd, ale))) := hD
          refine lv_aload_n hx hb d_Model_put_83 rfl (lv_at hl 1 rfl) ?_
          refine va_get (D := (dC, dI)) (ci := 4) (v := .ref (ad 2)) (C := R_Model) (T := F_Model) (N := 30) hx hb hts (fun q hq => List.mem_cons_of_mem _ (i_Model q hq)) hown hK hP 0 rfl rfl 2 (by decide) (hts _ (List.mem_cons_of_mem _ m_13_19)) (fun _ h9 => h9) rfl d_Model_put_84 ?_
          refine lv_aload_n hx hb d_Model_put_87 rfl (lv_at hl 1 rfl) ?_
          refine va_get (D := (dC, dI)) (ci := 4) (v := .int (nI z)) (C := R_Model) (T := F_Model) (N := 30) hx hb hts (fun q hq => List.mem_cons_of_mem _ (i_Model q hq)) hown hK hP 0 rfl rfl 3 (by decide) (hts _ (List.mem_cons_of_mem _ m_13_20)) (fun _ h9 => h9) rfl d_Model_put_88 ?_
          refine lv_iload_n hx hb d_Model_put_91 rfl (lv_at hl 3 rfl) ?_
          have hin : vp_in (nI z) 200 := by first | assumption | exact vp_in_nI (by omega) (by decide)
          refine va_iast (f := axs) (n := 200) hx hb hK hP hD hS 2 0 rfl rfl hin d_Model_put_92 (fun H locs hP hD hS => ?_)
          rw [nI_clamp (show z < 2 ^ 31 by omega)] at hP hD
          have hP : va_P (dC, dI) classes (mr_W cA cZ ad (((upd aso z y1), (upd axs z y2), (nI z), 0, asi), (asr, anu, ach, aow, aar), (ais, aon, atw, awh, afi), (ase, afr, amo, ass, asp), (afo, aba, ano, aen, avs), (avo, avt, are, atd, ale))) H := hP
          have hD : va_D A (mr_W cA cZ ad (((upd aso z y1), (upd axs z y2), (nI z), 0, asi), (asr, anu, ach, aow, aar), (ais, aon, atw, awh, afi), (ase, afr, amo, ass, asp), (afo, aba, ano, aen, avs), (avo, avt, are, atd, ale))) := hD
          refine lv_aload_n hx hb d_Model_put_93 rfl (lv_at hl 1 rfl) ?_
          refine lv_dup hx hb d_Model_put_94 rfl ?_
          refine va_get (D := (dC, dI)) (ci := 4) (v := .int (nI z)) (C := R_Model) (T := F_Model) (N := 30) hx hb hts (fun q hq => List.mem_cons_of_mem _ (i_Model q hq)) hown hK hP 0 rfl rfl 3 (by decide) (hts _ (List.mem_cons_of_mem _ m_13_20)) (fun _ h9 => h9) rfl d_Model_put_95 ?_
          refine lv_iconst (v := 1) hx hb d_Model_put_98 (by decide) ?_
          refine lv_iadd hx hb d_Model_put_99 ?_
          refine lv_topi (fun z_ e_ => ?_)
          have e_ : z_ = nI (z + 1) := e_.trans ((nI_succ z).symm)
          subst e_
          refine va_put (D := (dC, dI)) (ci := 4) (v := .int (nI (z + 1))) (ty := .int) (C := R_Model) (T := F_Model) (N := 30) hx hb hts (fun q hq => List.mem_cons_of_mem _ (i_Model q hq)) t_Model t_Model_ok n_Model hown hK hP hD hS 0 rfl rfl 3 (by decide) (hts _ (List.mem_cons_of_mem _ m_13_20)) (fun _ h9 => h9) rfl (by decide +kernel) rfl rfl (Nat.le_of_ble_eq_true rfl) d_Model_put_100 (fun H locs hP hD hS => ?_)
          have hP : va_P (dC, dI) classes (mr_W cA cZ ad (((upd aso z y1), (upd axs z y2), (nI (z + 1)), 0, asi), (asr, anu, ach, aow, aar), (ais, aon, atw, awh, afi), (ase, afr, amo, ass, asp), (afo, aba, ano, aen, avs), (avo, avt, are, atd, ale))) H := hP
          have hD : va_D A (mr_W cA cZ ad (((upd aso z y1), (upd axs z y2), (nI (z + 1)), 0, asi), (asr, anu, ach, aow, aar), (ais, aon, atw, awh, afi), (ase, afr, amo, ass, asp), (afo, aba, ano, aen, avs), (avo, avt, are, atd, ale))) := hD
          refine lv_aload_n hx hb d_Model_put_103 rfl (lv_at hl 1 rfl) ?_
          refine va_get (D := (dC, dI)) (ci := 4) (v := .int (nI (z + 1))) (C := R_Model) (T := F_Model) (N := 30) hx hb hts (fun q hq => List.mem_cons_of_mem _ (i_Model q hq)) hown hK hP 0 rfl rfl 3 (by decide) (hts _ (List.mem_cons_of_mem _ m_13_20)) (fun _ h9 => h9) rfl d_Model_put_104 ?_
          refine lm_ri (v := (nI (z + 1))) hx hb hr hlocks (((upd aso z y1), (upd axs z y2), (nI (z + 1)), 0, asi), (asr, anu, ach, aow, aar), (ais, aon, atw, awh, afi), (ase, afr, amo, ass, asp), (afo, aba, ano, aen, avs), (avo, avt, are, atd, ale)) ?_ hP hK hD hS d_Model_put_107
          have hg : md_good y1 y2 = 1 := by
            unfold md_good; (first | rw [if_pos h1] | rw [if_neg h1]); (first | rw [if_pos h7] | rw [if_neg h7]); (first | rw [if_pos h12] | rw [if_neg h12])
          unfold md_put; rw [hg]; rw [if_neg (by decide), if_neg h68]; have e1 : (nI z).toNatClampNeg = z := nI_clamp (by omega); have e2 : nI z + 1 = nI (z + 1) := (nI_succ z).symm; refine ⟨?_, ?_⟩ <;> simp only [r_to, e1, e2] <;> rfl
        · refine lv_iconst (v := -1) hx hb d_Model_put_71 (by decide) ?_
          refine lm_ri (v := (-1)) hx hb hr hlocks ((aso, axs, (nI z), 0, asi), (asr, anu, ach, aow, aar), (ais, aon, atw, awh, afi), (ase, afr, amo, ass, asp), (afo, aba, ano, aen, avs), (avo, avt, are, atd, ale)) ?_ hP hK hD hS d_Model_put_72
          have hg : md_good y1 y2 = 1 := by
            unfold md_good; (first | rw [if_pos h1] | rw [if_neg h1]); (first | rw [if_pos h7] | rw [if_neg h7]); (first | rw [if_pos h12] | rw [if_neg h12])
          unfold md_put; rw [hg]; rw [if_neg (by decide), if_pos h68]; exact ⟨rfl, rfl⟩
      · refine lv_iload_n hx hb d_Model_put_15 rfl (lv_at hl 1 rfl) ?_
        refine lv_if_ne hx hb d_Model_put_16 rfl (fun h16 => ?_) (fun h16 => ?_)
        · refine lv_iload_n hx hb d_Model_put_32 rfl (lv_at hl 2 rfl) ?_
          refine lv_if_ne hx hb d_Model_put_33 rfl (fun h33 => ?_) (fun h33 => ?_)
          · refine lv_iconst (v := 0) hx hb d_Model_put_40 (by decide) ?_
            refine lv_istore_n (lv' := [(3, .int 0), (0, .ref (ad 0)), (1, .int y1), (2, .int y2)]) hx hb d_Model_put_41 rfl hl (by decide) rfl (fun ls hl => ?_)
            refine lv_aload_n hx hb d_Model_put_42 rfl (lv_at hl 1 rfl) ?_
            refine lv_iload_n hx hb d_Model_put_43 rfl (lv_at hl 0 rfl) ?_
            refine lv_if_ne hx hb d_Model_put_44 rfl (fun h44 => by exact absurd h44 (by decide)) (fun h44 => ?_)
            refine lv_iconst (v := 1) hx hb d_Model_put_47 (by decide) ?_
            refine lv_goto hx hb d_Model_put_48 rfl ?_
            refine lv_iconst (v := 0) hx hb d_Model_put_52 (by decide) ?_
            refine lm_vi (b := ad 0) (As := [.int 1, .int 0]) (rest := []) (wr := ([] : va_W)) ⟨hx, hb, hml, hown, hts⟩ hK hP hD hS hA [0, 1, 2, 3, 4, 5, 6, 7, 8, 9, 10, 11, 12, 13, 14, 15] [] rfl rfl (by decide) (by decide) (by decide) (c_Model_fails l dC dI cA cZ ad _ ((aso, axs, (nI z), ath, asi), (asr, anu, ach, aow, aar), (ais, aon, atw, awh, afi), (ase, afr, amo, ass, asp), (afo, aba, ano, aen, avs), (avo, avt, are, atd, ale)) 1 0 ) (cwV 2 hts (lm_gV m_15_8 m_15_9 m_20_2 m_0_5 m_15_10) rfl rfl rfl (by decide +kernel) ⟨Nat.le_of_ble_eq_true rfl, Nat.le_of_ble_eq_true rfl⟩) (va_recv (q0 := 0) hK hP rfl rfl) lm_bl_no (fun _ _ _ => trivial) hl.1 rfl rfl (Nat.le_of_ble_eq_true rfl) d_Model_put_53 ⟨Nat.le_of_ble_eq_true rfl, Nat.le_of_ble_eq_true rfl⟩ (fun r53 u53 H locs w53 hP hD hS => ?_)
            obtain ⟨e_r53, w53⟩ := w53
            have e_r53 : r53 = 1 := e_r53
            replace e_r53 := e_r53.symm
            subst e_r53
            have w53 : u53 = ((aso, axs, (nI z), 1, asi), (asr, anu, ach, aow, aar), (ais, aon, atw, awh, afi), (ase, afr, amo, ass, asp), (afo, aba, ano, aen, avs), (avo, avt, are, atd, ale)) := w53
            replace w53 := w53.symm
            subst w53
            have hP : va_P (dC, dI) classes (mr_W cA cZ ad ((aso, axs, (nI z), 1, asi), (asr, anu, ach, aow, aar), (ais, aon, atw, awh, afi), (ase, afr, amo, ass, asp), (afo, aba, ano, aen, avs), (avo, avt, are, atd, ale))) H := hP
            have hD : va_D A (mr_W cA cZ ad ((aso, axs, (nI z), 1, asi), (asr, anu, ach, aow, aar), (ais, aon, atw, awh, afi), (ase, afr, amo, ass, asp), (afo, aba, ano, aen, avs), (avo, avt, are, atd, ale))) := hD
            refine lv_if_eq hx hb d_Model_put_56 rfl (fun h56 => by exact absurd h56 (by decide)) (fun h56 => ?_)
            refine lv_iconst (v := 0) hx hb d_Model_put_59 (by decide) ?_
            refine lm_ri (v := 0) hx hb hr hlocks ((aso, axs, (nI z), 1, asi), (asr, anu, ach, aow, aar), (ais, aon, atw, awh, afi), (ase, afr, amo, ass, asp), (afo, aba, ano, aen, avs), (avo, avt, are, atd, ale)) ?_ hP hK hD hS d_Model_put_60
            have hg : md_good y1 y2 = 0 := by
              unfold md_good; (first | rw [if_pos h1] | rw [if_neg h1]); (first | rw [if_pos h7] | rw [if_neg h7]); (first | rw [if_pos h12] | rw [if_neg h12]); (first | rw [if_pos h16] | rw [if_neg h16]); (first | rw [if_pos h33] | rw [if_neg h33])
            unfold md_put; rw [hg]; rw [if_pos rfl]; exact ⟨rfl, rfl⟩
          · refine lv_iconst (v := 1) hx hb d_Model_put_36 (by decide) ?_
            refine lv_goto hx hb d_Model_put_37 rfl ?_
            refine lv_istore_n (lv' := [(3, .int 1), (0, .ref (ad 0)), (1, .int y1), (2, .int y2)]) hx hb d_Model_put_41 rfl hl (by decide) rfl (fun ls hl => ?_)
            refine lv_aload_n hx hb d_Model_put_42 rfl (lv_at hl 1 rfl) ?_
            refine lv_iload_n hx hb d_Model_put_43 rfl (lv_at hl 0 rfl) ?_
            refine lv_if_ne hx hb d_Model_put_44 rfl (fun h44 => ?_) (fun h44 => by exact absurd h44 (by decide))
            refine lv_iconst (v := 0) hx hb d_Model_put_51 (by decide) ?_
            refine lv_iconst (v := 0) hx hb d_Model_put_52 (by decide) ?_
            refine lm_vi (b := ad 0) (As := [.int 0, .int 0]) (rest := []) (wr := ([] : va_W)) ⟨hx, hb, hml, hown, hts⟩ hK hP hD hS hA [0, 1, 2, 3, 4, 5, 6, 7, 8, 9, 10, 11, 12, 13, 14, 15] [] rfl rfl (by decide) (by decide) (by decide) (c_Model_fails l dC dI cA cZ ad _ ((aso, axs, (nI z), ath, asi), (asr, anu, ach, aow, aar), (ais, aon, atw, awh, afi), (ase, afr, amo, ass, asp), (afo, aba, ano, aen, avs), (avo, avt, are, atd, ale)) 0 0 ) (cwV 2 hts (lm_gV m_15_8 m_15_9 m_20_2 m_0_5 m_15_10) rfl rfl rfl (by decide +kernel) ⟨Nat.le_of_ble_eq_true rfl, Nat.le_of_ble_eq_true rfl⟩) (va_recv (q0 := 0) hK hP rfl rfl) lm_bl_no (fun _ _ _ => trivial) hl.1 rfl rfl (Nat.le_of_ble_eq_true rfl) d_Model_put_53 ⟨Nat.le_of_ble_eq_true rfl, Nat.le_of_ble_eq_true rfl⟩ (fun r53 u53 H locs w53 hP hD hS => ?_)
            obtain ⟨e_r53, w53⟩ := w53
            have e_r53 : r53 = 0 := e_r53
            replace e_r53 := e_r53.symm
            subst e_r53
            have w53 : u53 = ((aso, axs, (nI z), 0, asi), (asr, anu, ach, aow, aar), (ais, aon, atw, awh, afi), (ase, afr, amo, ass, asp), (afo, aba, ano, aen, avs), (avo, avt, are, atd, ale)) := w53
            replace w53 := w53.symm
            subst w53
            have hP : va_P (dC, dI) classes (mr_W cA cZ ad ((aso, axs, (nI z), 0, asi), (asr, anu, ach, aow, aar), (ais, aon, atw, awh, afi), (ase, afr, amo, ass, asp), (afo, aba, ano, aen, avs), (avo, avt, are, atd, ale))) H := hP
            have hD : va_D A (mr_W cA cZ ad ((aso, axs, (nI z), 0, asi), (asr, anu, ach, aow, aar), (ais, aon, atw, awh, afi), (ase, afr, amo, ass, asp), (afo, aba, ano, aen, avs), (avo, avt, are, atd, ale))) := hD
            refine lv_if_eq hx hb d_Model_put_56 rfl (fun h56 => ?_) (fun h56 => by exact absurd h56 (by decide))
            refine lv_aload_n hx hb d_Model_put_61 rfl (lv_at hl 1 rfl) ?_
            refine va_get (D := (dC, dI)) (ci := 4) (v := .int (nI z)) (C := R_Model) (T := F_Model) (N := 30) hx hb hts (fun q hq => List.mem_cons_of_mem _ (i_Model q hq)) hown hK hP 0 rfl rfl 3 (by decide) (hts _ (List.mem_cons_of_mem _ m_13_20)) (fun _ h9 => h9) rfl d_Model_put_62 ?_
            refine lv_sipush (v := 200) hx hb d_Model_put_65 (by decide) ?_
            refine lv_icmp_ne hx hb d_Model_put_68 rfl (fun h68 => ?_) (fun h68 => ?_)
            · have hlt : z < 200 := by
                rcases Nat.lt_or_ge z 200 with h9 | h9
                · exact h9
                · exact absurd (by rw [show z = 200 by omega]; rfl) h68
              refine lv_aload_n hx hb d_Model_put_73 rfl (lv_at hl 1 rfl) ?_
              refine va_get (D := (dC, dI)) (ci := 4) (v := .ref (ad 1)) (C := R_Model) (T := F_Model) (N := 30) hx hb hts (fun q hq => List.mem_cons_of_mem _ (i_Model q hq)) hown hK hP 0 rfl rfl 1 (by decide) (hts _ (List.mem_cons_of_mem _ m_13_18)) (fun _ h9 => h9) rfl d_Model_put_74 ?_
              refine lv_aload_n hx hb d_Model_put_77 rfl (lv_at hl 1 rfl) ?_
              refine va_get (D := (dC, dI)) (ci := 4) (v := .int (nI z)) (C := R_Model) (T := F_Model) (N := 30) hx hb hts (fun q hq => List.mem_cons_of_mem _ (i_Model q hq)) hown hK hP 0 rfl rfl 3 (by decide) (hts _ (List.mem_cons_of_mem _ m_13_20)) (fun _ h9 => h9) rfl d_Model_put_78 ?_
              refine lv_iload_n hx hb d_Model_put_81 rfl (lv_at hl 2 rfl) ?_
              have hin : vp_in (nI z) 200 := by first | assumption | exact vp_in_nI (by omega) (by decide)
              refine va_iast (f := aso) (n := 200) hx hb hK hP hD hS 1 0 rfl rfl hin d_Model_put_82 (fun H locs hP hD hS => ?_)
              rw [nI_clamp (show z < 2 ^ 31 by omega)] at hP hD
              have hP : va_P (dC, dI) classes (mr_W cA cZ ad (((upd aso z y1), axs, (nI z), 0, asi), (asr, anu, ach, aow, aar), (ais, aon, atw, awh, afi), (ase, afr, amo, ass, asp), (afo, aba, ano, aen, avs), (avo, avt, are, atd, ale))) H := hP
              have hD : va_D A (mr_W cA cZ ad (((upd aso z y1), axs, (nI z), 0, asi), (asr, anu, ach, aow, aar), (ais, aon, atw, awh, afi), (ase, afr, amo, ass, asp), (afo, aba, ano, aen, avs), (avo, avt, are, atd, ale))) := hD
              refine lv_aload_n hx hb d_Model_put_83 rfl (lv_at hl 1 rfl) ?_
              refine va_get (D := (dC, dI)) (ci := 4) (v := .ref (ad 2)) (C := R_Model) (T := F_Model) (N := 30) hx hb hts (fun q hq => List.mem_cons_of_mem _ (i_Model q hq)) hown hK hP 0 rfl rfl 2 (by decide) (hts _ (List.mem_cons_of_mem _ m_13_19)) (fun _ h9 => h9) rfl d_Model_put_84 ?_
              refine lv_aload_n hx hb d_Model_put_87 rfl (lv_at hl 1 rfl) ?_
              refine va_get (D := (dC, dI)) (ci := 4) (v := .int (nI z)) (C := R_Model) (T := F_Model) (N := 30) hx hb hts (fun q hq => List.mem_cons_of_mem _ (i_Model q hq)) hown hK hP 0 rfl rfl 3 (by decide) (hts _ (List.mem_cons_of_mem _ m_13_20)) (fun _ h9 => h9) rfl d_Model_put_88 ?_
              refine lv_iload_n hx hb d_Model_put_91 rfl (lv_at hl 3 rfl) ?_
              have hin : vp_in (nI z) 200 := by first | assumption | exact vp_in_nI (by omega) (by decide)
              refine va_iast (f := axs) (n := 200) hx hb hK hP hD hS 2 0 rfl rfl hin d_Model_put_92 (fun H locs hP hD hS => ?_)
              rw [nI_clamp (show z < 2 ^ 31 by omega)] at hP hD
              have hP : va_P (dC, dI) classes (mr_W cA cZ ad (((upd aso z y1), (upd axs z y2), (nI z), 0, asi), (asr, anu, ach, aow, aar), (ais, aon, atw, awh, afi), (ase, afr, amo, ass, asp), (afo, aba, ano, aen, avs), (avo, avt, are, atd, ale))) H := hP
              have hD : va_D A (mr_W cA cZ ad (((upd aso z y1), (upd axs z y2), (nI z), 0, asi), (asr, anu, ach, aow, aar), (ais, aon, atw, awh, afi), (ase, afr, amo, ass, asp), (afo, aba, ano, aen, avs), (avo, avt, are, atd, ale))) := hD
              refine lv_aload_n hx hb d_Model_put_93 rfl (lv_at hl 1 rfl) ?_
              refine lv_dup hx hb d_Model_put_94 rfl ?_
              refine va_get (D := (dC, dI)) (ci := 4) (v := .int (nI z)) (C := R_Model) (T := F_Model) (N := 30) hx hb hts (fun q hq => List.mem_cons_of_mem _ (i_Model q hq)) hown hK hP 0 rfl rfl 3 (by decide) (hts _ (List.mem_cons_of_mem _ m_13_20)) (fun _ h9 => h9) rfl d_Model_put_95 ?_
              refine lv_iconst (v := 1) hx hb d_Model_put_98 (by decide) ?_
              refine lv_iadd hx hb d_Model_put_99 ?_
              refine lv_topi (fun z_ e_ => ?_)
              have e_ : z_ = nI (z + 1) := e_.trans ((nI_succ z).symm)
              subst e_
              refine va_put (D := (dC, dI)) (ci := 4) (v := .int (nI (z + 1))) (ty := .int) (C := R_Model) (T := F_Model) (N := 30) hx hb hts (fun q hq => List.mem_cons_of_mem _ (i_Model q hq)) t_Model t_Model_ok n_Model hown hK hP hD hS 0 rfl rfl 3 (by decide) (hts _ (List.mem_cons_of_mem _ m_13_20)) (fun _ h9 => h9) rfl (by decide +kernel) rfl rfl (Nat.le_of_ble_eq_true rfl) d_Model_put_100 (fun H locs hP hD hS => ?_)
              have hP : va_P (dC, dI) classes (mr_W cA cZ ad (((upd aso z y1), (upd axs z y2), (nI (z + 1)), 0, asi), (asr, anu, ach, aow, aar), (ais, aon, atw, awh, afi), (ase, afr, amo, ass, asp), (afo, aba, ano, aen, avs), (avo, avt, are, atd, ale))) H := hP
              have hD : va_D A (mr_W cA cZ ad (((upd aso z y1), (upd axs z y2), (nI (z + 1)), 0, asi), (asr, anu, ach, aow, aar), (ais, aon, atw, awh, afi), (ase, afr, amo, ass, asp), (afo, aba, ano, aen, avs), (avo, avt, are, atd, ale))) := hD
              refine lv_aload_n hx hb d_Model_put_103 rfl (lv_at hl 1 rfl) ?_
              refine va_get (D := (dC, dI)) (ci := 4) (v := .int (nI (z + 1))) (C := R_Model) (T := F_Model) (N := 30) hx hb hts (fun q hq => List.mem_cons_of_mem _ (i_Model q hq)) hown hK hP 0 rfl rfl 3 (by decide) (hts _ (List.mem_cons_of_mem _ m_13_20)) (fun _ h9 => h9) rfl d_Model_put_104 ?_
              refine lm_ri (v := (nI (z + 1))) hx hb hr hlocks (((upd aso z y1), (upd axs z y2), (nI (z + 1)), 0, asi), (asr, anu, ach, aow, aar), (ais, aon, atw, awh, afi), (ase, afr, amo, ass, asp), (afo, aba, ano, aen, avs), (avo, avt, are, atd, ale)) ?_ hP hK hD hS d_Model_put_107
              have hg : md_good y1 y2 = 1 := by
                unfold md_good; (first | rw [if_pos h1] | rw [if_neg h1]); (first | rw [if_pos h7] | rw [if_neg h7]); (first | rw [if_pos h12] | rw [if_neg h12]); (first | rw [if_pos h16] | rw [if_neg h16]); (first | rw [if_pos h33] | rw [if_neg h33])
              unfold md_put; rw [hg]; rw [if_neg (by decide), if_neg h68]; have e1 : (nI z).toNatClampNeg = z := nI_clamp (by omega); have e2 : nI z + 1 = nI (z + 1) := (nI_succ z).symm; refine ⟨?_, ?_⟩ <;> simp only [r_to, e1, e2] <;> rfl
            · refine lv_iconst (v := -1) hx hb d_Model_put_71 (by decide) ?_
              refine lm_ri (v := (-1)) hx hb hr hlocks ((aso, axs, (nI z), 0, asi), (asr, anu, ach, aow, aar), (ais, aon, atw, awh, afi), (ase, afr, amo, ass, asp), (afo, aba, ano, aen, avs), (avo, avt, are, atd, ale)) ?_ hP hK hD hS d_Model_put_72
              have hg : md_good y1 y2 = 1 := by
                unfold md_good; (first | rw [if_pos h1] | rw [if_neg h1]); (first | rw [if_pos h7] | rw [if_neg h7]); (first | rw [if_pos h12] | rw [if_neg h12]); (first | rw [if_pos h16] | rw [if_neg h16]); (first | rw [if_pos h33] | rw [if_neg h33])
              unfold md_put; rw [hg]; rw [if_neg (by decide), if_pos h68]; exact ⟨rfl, rfl⟩
        · refine lv_iload_n hx hb d_Model_put_19 rfl (lv_at hl 2 rfl) ?_
          refine lv_if_lt hx hb d_Model_put_20 rfl (fun h20 => ?_) (fun h20 => ?_)
          · refine lv_iconst (v := 0) hx hb d_Model_put_40 (by decide) ?_
            refine lv_istore_n (lv' := [(3, .int 0), (0, .ref (ad 0)), (1, .int y1), (2, .int y2)]) hx hb d_Model_put_41 rfl hl (by decide) rfl (fun ls hl => ?_)
            refine lv_aload_n hx hb d_Model_put_42 rfl (lv_at hl 1 rfl) ?_
            refine lv_iload_n hx hb d_Model_put_43 rfl (lv_at hl 0 rfl) ?_
            refine lv_if_ne hx hb d_Model_put_44 rfl (fun h44 => by exact absurd h44 (by decide)) (fun h44 => ?_)
            refine lv_iconst (v := 1) hx hb d_Model_put_47 (by decide) ?_
            refine lv_goto hx hb d_Model_put_48 rfl ?_
            refine lv_iconst (v := 0) hx hb d_Model_put_52 (by decide) ?_
            refine lm_vi (b := ad 0) (As := [.int 1, .int 0]) (rest := []) (wr := ([] : va_W)) ⟨hx, hb, hml, hown, hts⟩ hK hP hD hS hA [0, 1, 2, 3, 4, 5, 6, 7, 8, 9, 10, 11, 12, 13, 14, 15] [] rfl rfl (by decide) (by decide) (by decide) (c_Model_fails l dC dI cA cZ ad _ ((aso, axs, (nI z), ath, asi), (asr, anu, ach, aow, aar), (ais, aon, atw, awh, afi), (ase, afr, amo, ass, asp), (afo, aba, ano, aen, avs), (avo, avt, are, atd, ale)) 1 0 ) (cwV 2 hts (lm_gV m_15_8 m_15_9 m_20_2 m_0_5 m_15_10) rfl rfl rfl (by decide +kernel) ⟨Nat.le_of_ble_eq_true rfl, Nat.le_of_ble_eq_true rfl⟩) (va_recv (q0 := 0) hK hP rfl rfl) lm_bl_no (fun _ _ _ => trivial) hl.1 rfl rfl (Nat.le_of_ble_eq_true rfl) d_Model_put_53 ⟨Nat.le_of_ble_eq_true rfl, Nat.le_of_ble_eq_true rfl⟩ (fun r53 u53 H locs w53 hP hD hS => ?_)
            obtain ⟨e_r53, w53⟩ := w53
            have e_r53 : r53 = 1 := e_r53
            replace e_r53 := e_r53.symm
            subst e_r53
            have w53 : u53 = ((aso, axs, (nI z), 1, asi), (asr, anu, ach, aow, aar), (ais, aon, atw, awh, afi), (ase, afr, amo, ass, asp), (afo, aba, ano, aen, avs), (avo, avt, are, atd, ale)) := w53
            replace w53 := w53.symm
            subst w53
            have hP : va_P (dC, dI) classes (mr_W cA cZ ad ((aso, axs, (nI z), 1, asi), (asr, anu, ach, aow, aar), (ais, aon, atw, awh, afi), (ase, afr, amo, ass, asp), (afo, aba, ano, aen, avs), (avo, avt, are, atd, ale))) H := hP
            have hD : va_D A (mr_W cA cZ ad ((aso, axs, (nI z), 1, asi), (asr, anu, ach, aow, aar), (ais, aon, atw, awh, afi), (ase, afr, amo, ass, asp), (afo, aba, ano, aen, avs), (avo, avt, are, atd, ale))) := hD
            refine lv_if_eq hx hb d_Model_put_56 rfl (fun h56 => by exact absurd h56 (by decide)) (fun h56 => ?_)
            refine lv_iconst (v := 0) hx hb d_Model_put_59 (by decide) ?_
            refine lm_ri (v := 0) hx hb hr hlocks ((aso, axs, (nI z), 1, asi), (asr, anu, ach, aow, aar), (ais, aon, atw, awh, afi), (ase, afr, amo, ass, asp), (afo, aba, ano, aen, avs), (avo, avt, are, atd, ale)) ?_ hP hK hD hS d_Model_put_60
            have hg : md_good y1 y2 = 0 := by
              unfold md_good; (first | rw [if_pos h1] | rw [if_neg h1]); (first | rw [if_pos h7] | rw [if_neg h7]); (first | rw [if_pos h12] | rw [if_neg h12]); (first | rw [if_pos h16] | rw [if_neg h16]); (first | rw [if_pos h20] | rw [if_neg h20])
            unfold md_put; rw [hg]; rw [if_pos rfl]; exact ⟨rfl, rfl⟩
          · refine lv_iload_n hx hb d_Model_put_23 rfl (lv_at hl 2 rfl) ?_
            refine lv_bipush (v := 40) hx hb d_Model_put_24 (by decide) ?_
            refine lv_icmp_gt hx hb d_Model_put_26 rfl (fun h26 => ?_) (fun h26 => ?_)
            · refine lv_iconst (v := 0) hx hb d_Model_put_40 (by decide) ?_
              refine lv_istore_n (lv' := [(3, .int 0), (0, .ref (ad 0)), (1, .int y1), (2, .int y2)]) hx hb d_Model_put_41 rfl hl (by decide) rfl (fun ls hl => ?_)
              refine lv_aload_n hx hb d_Model_put_42 rfl (lv_at hl 1 rfl) ?_
              refine lv_iload_n hx hb d_Model_put_43 rfl (lv_at hl 0 rfl) ?_
              refine lv_if_ne hx hb d_Model_put_44 rfl (fun h44 => by exact absurd h44 (by decide)) (fun h44 => ?_)
              refine lv_iconst (v := 1) hx hb d_Model_put_47 (by decide) ?_
              refine lv_goto hx hb d_Model_put_48 rfl ?_
              refine lv_iconst (v := 0) hx hb d_Model_put_52 (by decide) ?_
              refine lm_vi (b := ad 0) (As := [.int 1, .int 0]) (rest := []) (wr := ([] : va_W)) ⟨hx, hb, hml, hown, hts⟩ hK hP hD hS hA [0, 1, 2, 3, 4, 5, 6, 7, 8, 9, 10, 11, 12, 13, 14, 15] [] rfl rfl (by decide) (by decide) (by decide) (c_Model_fails l dC dI cA cZ ad _ ((aso, axs, (nI z), ath, asi), (asr, anu, ach, aow, aar), (ais, aon, atw, awh, afi), (ase, afr, amo, ass, asp), (afo, aba, ano, aen, avs), (avo, avt, are, atd, ale)) 1 0 ) (cwV 2 hts (lm_gV m_15_8 m_15_9 m_20_2 m_0_5 m_15_10) rfl rfl rfl (by decide +kernel) ⟨Nat.le_of_ble_eq_true rfl, Nat.le_of_ble_eq_true rfl⟩) (va_recv (q0 := 0) hK hP rfl rfl) lm_bl_no (fun _ _ _ => trivial) hl.1 rfl rfl (Nat.le_of_ble_eq_true rfl) d_Model_put_53 ⟨Nat.le_of_ble_eq_true rfl, Nat.le_of_ble_eq_true rfl⟩ (fun r53 u53 H locs w53 hP hD hS => ?_)
              obtain ⟨e_r53, w53⟩ := w53
              have e_r53 : r53 = 1 := e_r53
              replace e_r53 := e_r53.symm
              subst e_r53
              have w53 : u53 = ((aso, axs, (nI z), 1, asi), (asr, anu, ach, aow, aar), (ais, aon, atw, awh, afi), (ase, afr, amo, ass, asp), (afo, aba, ano, aen, avs), (avo, avt, are, atd, ale)) := w53
              replace w53 := w53.symm
              subst w53
              have hP : va_P (dC, dI) classes (mr_W cA cZ ad ((aso, axs, (nI z), 1, asi), (asr, anu, ach, aow, aar), (ais, aon, atw, awh, afi), (ase, afr, amo, ass, asp), (afo, aba, ano, aen, avs), (avo, avt, are, atd, ale))) H := hP
              have hD : va_D A (mr_W cA cZ ad ((aso, axs, (nI z), 1, asi), (asr, anu, ach, aow, aar), (ais, aon, atw, awh, afi), (ase, afr, amo, ass, asp), (afo, aba, ano, aen, avs), (avo, avt, are, atd, ale))) := hD
              refine lv_if_eq hx hb d_Model_put_56 rfl (fun h56 => by exact absurd h56 (by decide)) (fun h56 => ?_)
              refine lv_iconst (v := 0) hx hb d_Model_put_59 (by decide) ?_
              refine lm_ri (v := 0) hx hb hr hlocks ((aso, axs, (nI z), 1, asi), (asr, anu, ach, aow, aar), (ais, aon, atw, awh, afi), (ase, afr, amo, ass, asp), (afo, aba, ano, aen, avs), (avo, avt, are, atd, ale)) ?_ hP hK hD hS d_Model_put_60
              have hg : md_good y1 y2 = 0 := by
                unfold md_good; (first | rw [if_pos h1] | rw [if_neg h1]); (first | rw [if_pos h7] | rw [if_neg h7]); (first | rw [if_pos h12] | rw [if_neg h12]); (first | rw [if_pos h16] | rw [if_neg h16]); (first | rw [if_pos h20] | rw [if_neg h20]); (first | rw [if_pos h26] | rw [if_neg h26])
              unfold md_put; rw [hg]; rw [if_pos rfl]; exact ⟨rfl, rfl⟩
            · refine lv_goto hx hb d_Model_put_29 rfl ?_
              refine lv_iconst (v := 1) hx hb d_Model_put_36 (by decide) ?_
              refine lv_goto hx hb d_Model_put_37 rfl ?_
              refine lv_istore_n (lv' := [(3, .int 1), (0, .ref (ad 0)), (1, .int y1), (2, .int y2)]) hx hb d_Model_put_41 rfl hl (by decide) rfl (fun ls hl => ?_)
              refine lv_aload_n hx hb d_Model_put_42 rfl (lv_at hl 1 rfl) ?_
              refine lv_iload_n hx hb d_Model_put_43 rfl (lv_at hl 0 rfl) ?_
              refine lv_if_ne hx hb d_Model_put_44 rfl (fun h44 => ?_) (fun h44 => by exact absurd h44 (by decide))
              refine lv_iconst (v := 0) hx hb d_Model_put_51 (by decide) ?_
              refine lv_iconst (v := 0) hx hb d_Model_put_52 (by decide) ?_
              refine lm_vi (b := ad 0) (As := [.int 0, .int 0]) (rest := []) (wr := ([] : va_W)) ⟨hx, hb, hml, hown, hts⟩ hK hP hD hS hA [0, 1, 2, 3, 4, 5, 6, 7, 8, 9, 10, 11, 12, 13, 14, 15] [] rfl rfl (by decide) (by decide) (by decide) (c_Model_fails l dC dI cA cZ ad _ ((aso, axs, (nI z), ath, asi), (asr, anu, ach, aow, aar), (ais, aon, atw, awh, afi), (ase, afr, amo, ass, asp), (afo, aba, ano, aen, avs), (avo, avt, are, atd, ale)) 0 0 ) (cwV 2 hts (lm_gV m_15_8 m_15_9 m_20_2 m_0_5 m_15_10) rfl rfl rfl (by decide +kernel) ⟨Nat.le_of_ble_eq_true rfl, Nat.le_of_ble_eq_true rfl⟩) (va_recv (q0 := 0) hK hP rfl rfl) lm_bl_no (fun _ _ _ => trivial) hl.1 rfl rfl (Nat.le_of_ble_eq_true rfl) d_Model_put_53 ⟨Nat.le_of_ble_eq_true rfl, Nat.le_of_ble_eq_true rfl⟩ (fun r53 u53 H locs w53 hP hD hS => ?_)
              obtain ⟨e_r53, w53⟩ := w53
              have e_r53 : r53 = 0 := e_r53
              replace e_r53 := e_r53.symm
              subst e_r53
              have w53 : u53 = ((aso, axs, (nI z), 0, asi), (asr, anu, ach, aow, aar), (ais, aon, atw, awh, afi), (ase, afr, amo, ass, asp), (afo, aba, ano, aen, avs), (avo, avt, are, atd, ale)) := w53
              replace w53 := w53.symm
              subst w53
              have hP : va_P (dC, dI) classes (mr_W cA cZ ad ((aso, axs, (nI z), 0, asi), (asr, anu, ach, aow, aar), (ais, aon, atw, awh, afi), (ase, afr, amo, ass, asp), (afo, aba, ano, aen, avs), (avo, avt, are, atd, ale))) H := hP
              have hD : va_D A (mr_W cA cZ ad ((aso, axs, (nI z), 0, asi), (asr, anu, ach, aow, aar), (ais, aon, atw, awh, afi), (ase, afr, amo, ass, asp), (afo, aba, ano, aen, avs), (avo, avt, are, atd, ale))) := hD
              refine lv_if_eq hx hb d_Model_put_56 rfl (fun h56 => ?_) (fun h56 => by exact absurd h56 (by decide))
              refine lv_aload_n hx hb d_Model_put_61 rfl (lv_at hl 1 rfl) ?_
              refine va_get (D := (dC, dI)) (ci := 4) (v := .int (nI z)) (C := R_Model) (T := F_Model) (N := 30) hx hb hts (fun q hq => List.mem_cons_of_mem _ (i_Model q hq)) hown hK hP 0 rfl rfl 3 (by decide) (hts _ (List.mem_cons_of_mem _ m_13_20)) (fun _ h9 => h9) rfl d_Model_put_62 ?_
              refine lv_sipush (v := 200) hx hb d_Model_put_65 (by decide) ?_
              refine lv_icmp_ne hx hb d_Model_put_68 rfl (fun h68 => ?_) (fun h68 => ?_)
              · have hlt : z < 200 := by
                  rcases Nat.lt_or_ge z 200 with h9 | h9
                  · exact h9
                  · exact absurd (by rw [show z = 200 by omega]; rfl) h68
                refine lv_aload_n hx hb d_Model_put_73 rfl (lv_at hl 1 rfl) ?_
                refine va_get (D := (dC, dI)) (ci := 4) (v := .ref (ad 1)) (C := R_Model) (T := F_Model) (N := 30) hx hb hts (fun q hq => List.mem_cons_of_mem _ (i_Model q hq)) hown hK hP 0 rfl rfl 1 (by decide) (hts _ (List.mem_cons_of_mem _ m_13_18)) (fun _ h9 => h9) rfl d_Model_put_74 ?_
                refine lv_aload_n hx hb d_Model_put_77 rfl (lv_at hl 1 rfl) ?_
                refine va_get (D := (dC, dI)) (ci := 4) (v := .int (nI z)) (C := R_Model) (T := F_Model) (N := 30) hx hb hts (fun q hq => List.mem_cons_of_mem _ (i_Model q hq)) hown hK hP 0 rfl rfl 3 (by decide) (hts _ (List.mem_cons_of_mem _ m_13_20)) (fun _ h9 => h9) rfl d_Model_put_78 ?_
                refine lv_iload_n hx hb d_Model_put_81 rfl (lv_at hl 2 rfl) ?_
                have hin : vp_in (nI z) 200 := by first | assumption | exact vp_in_nI (by omega) (by decide)
                refine va_iast (f := aso) (n := 200) hx hb hK hP hD hS 1 0 rfl rfl hin d_Model_put_82 (fun H locs hP hD hS => ?_)
                rw [nI_clamp (show z < 2 ^ 31 by omega)] at hP hD
                have hP : va_P (dC, dI) classes (mr_W cA cZ ad (((upd aso z y1), axs, (nI z), 0, asi), (asr, anu, ach, aow, aar), (ais, aon, atw, awh, afi), (ase, afr, amo, ass, asp), (afo, aba, ano, aen, avs), (avo, avt, are, atd, ale))) H := hP
                have hD : va_D A (mr_W cA cZ ad (((upd aso z y1), axs, (nI z), 0, asi), (asr, anu, ach, aow, aar), (ais, aon, atw, awh, afi), (ase, afr, amo, ass, asp), (afo, aba, ano, aen, avs), (avo, avt, are, atd, ale))) := hD
                refine lv_aload_n hx hb d_Model_put_83 rfl (lv_at hl 1 rfl) ?_
                refine va_get (D := (dC, dI)) (ci := 4) (v := .ref (ad 2)) (C := R_Model) (T := F_Model) (N := 30) hx hb hts (fun q hq => List.mem_cons_of_mem _ (i_Model q hq)) hown hK hP 0 rfl rfl 2 (by decide) (hts _ (List.mem_cons_of_mem _ m_13_19)) (fun _ h9 => h9) rfl d_Model_put_84 ?_
                refine lv_aload_n hx hb d_Model_put_87 rfl (lv_at hl 1 rfl) ?_
                refine va_get (D := (dC, dI)) (ci := 4) (v := .int (nI z)) (C := R_Model) (T := F_Model) (N := 30) hx hb hts (fun q hq => List.mem_cons_of_mem _ (i_Model q hq)) hown hK hP 0 rfl rfl 3 (by decide) (hts _ (List.mem_cons_of_mem _ m_13_20)) (fun _ h9 => h9) rfl d_Model_put_88 ?_
                refine lv_iload_n hx hb d_Model_put_91 rfl (lv_at hl 3 rfl) ?_
                have hin : vp_in (nI z) 200 := by first | assumption | exact vp_in_nI (by omega) (by decide)
                refine va_iast (f := axs) (n := 200) hx hb hK hP hD hS 2 0 rfl rfl hin d_Model_put_92 (fun H locs hP hD hS => ?_)
                rw [nI_clamp (show z < 2 ^ 31 by omega)] at hP hD
                have hP : va_P (dC, dI) classes (mr_W cA cZ ad (((upd aso z y1), (upd axs z y2), (nI z), 0, asi), (asr, anu, ach, aow, aar), (ais, aon, atw, awh, afi), (ase, afr, amo, ass, asp), (afo, aba, ano, aen, avs), (avo, avt, are, atd, ale))) H := hP
                have hD : va_D A (mr_W cA cZ ad (((upd aso z y1), (upd axs z y2), (nI z), 0, asi), (asr, anu, ach, aow, aar), (ais, aon, atw, awh, afi), (ase, afr, amo, ass, asp), (afo, aba, ano, aen, avs), (avo, avt, are, atd, ale))) := hD
                refine lv_aload_n hx hb d_Model_put_93 rfl (lv_at hl 1 rfl) ?_
                refine lv_dup hx hb d_Model_put_94 rfl ?_
                refine va_get (D := (dC, dI)) (ci := 4) (v := .int (nI z)) (C := R_Model) (T := F_Model) (N := 30) hx hb hts (fun q hq => List.mem_cons_of_mem _ (i_Model q hq)) hown hK hP 0 rfl rfl 3 (by decide) (hts _ (List.mem_cons_of_mem _ m_13_20)) (fun _ h9 => h9) rfl d_Model_put_95 ?_
                refine lv_iconst (v := 1) hx hb d_Model_put_98 (by decide) ?_
                refine lv_iadd hx hb d_Model_put_99 ?_
                refine lv_topi (fun z_ e_ => ?_)
                have e_ : z_ = nI (z + 1) := e_.trans ((nI_succ z).symm)
                subst e_
                refine va_put (D := (dC, dI)) (ci := 4) (v := .int (nI (z + 1))) (ty := .int) (C := R_Model) (T := F_Model) (N := 30) hx hb hts (fun q hq => List.mem_cons_of_mem _ (i_Model q hq)) t_Model t_Model_ok n_Model hown hK hP hD hS 0 rfl rfl 3 (by decide) (hts _ (List.mem_cons_of_mem _ m_13_20)) (fun _ h9 => h9) rfl (by decide +kernel) rfl rfl (Nat.le_of_ble_eq_true rfl) d_Model_put_100 (fun H locs hP hD hS => ?_)
                have hP : va_P (dC, dI) classes (mr_W cA cZ ad (((upd aso z y1), (upd axs z y2), (nI (z + 1)), 0, asi), (asr, anu, ach, aow, aar), (ais, aon, atw, awh, afi), (ase, afr, amo, ass, asp), (afo, aba, ano, aen, avs), (avo, avt, are, atd, ale))) H := hP
                have hD : va_D A (mr_W cA cZ ad (((upd aso z y1), (upd axs z y2), (nI (z + 1)), 0, asi), (asr, anu, ach, aow, aar), (ais, aon, atw, awh, afi), (ase, afr, amo, ass, asp), (afo, aba, ano, aen, avs), (avo, avt, are, atd, ale))) := hD
                refine lv_aload_n hx hb d_Model_put_103 rfl (lv_at hl 1 rfl) ?_
                refine va_get (D := (dC, dI)) (ci := 4) (v := .int (nI (z + 1))) (C := R_Model) (T := F_Model) (N := 30) hx hb hts (fun q hq => List.mem_cons_of_mem _ (i_Model q hq)) hown hK hP 0 rfl rfl 3 (by decide) (hts _ (List.mem_cons_of_mem _ m_13_20)) (fun _ h9 => h9) rfl d_Model_put_104 ?_
                refine lm_ri (v := (nI (z + 1))) hx hb hr hlocks (((upd aso z y1), (upd axs z y2), (nI (z + 1)), 0, asi), (asr, anu, ach, aow, aar), (ais, aon, atw, awh, afi), (ase, afr, amo, ass, asp), (afo, aba, ano, aen, avs), (avo, avt, are, atd, ale)) ?_ hP hK hD hS d_Model_put_107
                have hg : md_good y1 y2 = 1 := by
                  unfold md_good; (first | rw [if_pos h1] | rw [if_neg h1]); (first | rw [if_pos h7] | rw [if_neg h7]); (first | rw [if_pos h12] | rw [if_neg h12]); (first | rw [if_pos h16] | rw [if_neg h16]); (first | rw [if_pos h20] | rw [if_neg h20]); (first | rw [if_pos h26] | rw [if_neg h26])
                unfold md_put; rw [hg]; rw [if_neg (by decide), if_neg h68]; have e1 : (nI z).toNatClampNeg = z := nI_clamp (by omega); have e2 : nI z + 1 = nI (z + 1) := (nI_succ z).symm; refine ⟨?_, ?_⟩ <;> simp only [r_to, e1, e2] <;> rfl
              · refine lv_iconst (v := -1) hx hb d_Model_put_71 (by decide) ?_
                refine lm_ri (v := (-1)) hx hb hr hlocks ((aso, axs, (nI z), 0, asi), (asr, anu, ach, aow, aar), (ais, aon, atw, awh, afi), (ase, afr, amo, ass, asp), (afo, aba, ano, aen, avs), (avo, avt, are, atd, ale)) ?_ hP hK hD hS d_Model_put_72
                have hg : md_good y1 y2 = 1 := by
                  unfold md_good; (first | rw [if_pos h1] | rw [if_neg h1]); (first | rw [if_pos h7] | rw [if_neg h7]); (first | rw [if_pos h12] | rw [if_neg h12]); (first | rw [if_pos h16] | rw [if_neg h16]); (first | rw [if_pos h20] | rw [if_neg h20]); (first | rw [if_pos h26] | rw [if_neg h26])
                unfold md_put; rw [hg]; rw [if_neg (by decide), if_pos h68]; exact ⟨rfl, rfl⟩
set_option maxHeartbeats 4000000 in
set_option maxRecDepth 100000 in
theorem c_Model_count (l : Launch) (dC : Nat → ClassId) (dI : Nat → Nat → Nat) (cA cZ : ClassId)  (ad : Nat → Nat) (sz : Nat) (S : ZNS) (x : Int32) (hi : x = 6 → md_lo (s_th S 0)) : Met l y_Model_count w_Model_count ({ frames := 3, cells := 0, slots := 0, locals := 66 } : Room) (va_Pc [.ref (ad 0), .int x] (lm_pre (dC, dI) classes [(cA, .int), (cZ, .boolean)] (mr_W cA cZ ad S) sz lm_no)) (va_Qi (fun (r : Int32) (u : ZNS) => r = (md_count S x).1 ∧ u = (md_count S x).2) (fun u => lm_at (dC, dI) classes [(cA, .int), (cZ, .boolean)] (va_A (mr_W cA cZ ad S) sz) (mr_W cA cZ ad u)) (va_A (mr_W cA cZ ad S) sz)) 0 0 (va_A (mr_W cA cZ ad S) sz) := by
  obtain ⟨⟨aso, axs, ato, ath, asi⟩, ⟨asr, anu, ach, aow, aar⟩, ⟨ais, aon, atw, awh, afi⟩, ⟨ase, afr, amo, ass, asp⟩, ⟨afo, aba, ano, aen, avs⟩, ⟨avo, avt, are, atd, ale⟩⟩ := S
  refine lm_met (fun A => va_Qi (fun (r : Int32) (u : ZNS) => r = (md_count ((aso, axs, ato, ath, asi), (asr, anu, ach, aow, aar), (ais, aon, atw, awh, afi), (ase, afr, amo, ass, asp), (afo, aba, ano, aen, avs), (avo, avt, are, atd, ale)) x).1 ∧ u = (md_count ((aso, axs, ato, ath, asi), (asr, anu, ach, aow, aar), (ais, aon, atw, awh, afi), (ase, afr, amo, ass, asp), (afo, aba, ano, aen, avs), (avo, avt, are, atd, ale)) x).2) (fun u => lm_at (dC, dI) classes [(cA, .int), (cZ, .boolean)] A (mr_W cA cZ ad u)) A) (by decide) rfl (Nat.le_of_ble_eq_true rfl) ?_
  intro p e s m below meth c A hx hb hr hts hown hlocks hname hml hK hP hD hA hE hsz hAe hS ls hl
  replace hl : lv_has ls 3 [(0, .ref (ad 0)), (1, .int x)] := hl
  clear hAe hsz
  refine lv_aload_n hx hb d_Model_count_0 rfl (lv_at hl 0 rfl) ?_
  refine lv_iconst (v := 0) hx hb d_Model_count_1 (by decide) ?_
  refine va_put (D := (dC, dI)) (ci := 4) (v := .int 0) (ty := .int) (C := R_Model) (T := F_Model) (N := 30) hx hb hts (fun q hq => List.mem_cons_of_mem _ (i_Model q hq)) t_Model t_Model_ok n_Model hown hK hP hD hS 0 rfl rfl 0 (by decide) (hts _ (List.mem_cons_of_mem _ m_13_17)) (fun _ h9 => h9) rfl (by decide +kernel) rfl rfl (Nat.le_of_ble_eq_true rfl) d_Model_count_2 (fun H locs hP hD hS => ?_)
  have hP : va_P (dC, dI) classes (mr_W cA cZ ad ((aso, axs, ato, 0, asi), (asr, anu, ach, aow, aar), (ais, aon, atw, awh, afi), (ase, afr, amo, ass, asp), (afo, aba, ano, aen, avs), (avo, avt, are, atd, ale))) H := hP
  have hD : va_D A (mr_W cA cZ ad ((aso, axs, ato, 0, asi), (asr, anu, ach, aow, aar), (ais, aon, atw, awh, afi), (ase, afr, amo, ass, asp), (afo, aba, ano, aen, avs), (avo, avt, are, atd, ale))) := hD
  refine lv_aload_n hx hb d_Model_count_5 rfl (lv_at hl 0 rfl) ?_
  refine va_get (D := (dC, dI)) (ci := 4) (v := .int ass) (C := R_Model) (T := F_Model) (N := 30) hx hb hts (fun q hq => List.mem_cons_of_mem _ (i_Model q hq)) hown hK hP 0 rfl rfl 21 (by decide) (hts _ (List.mem_cons_of_mem _ m_14_14)) (fun _ h9 => h9) rfl d_Model_count_6 ?_
  refine lv_if_le hx hb d_Model_count_9 rfl (fun h9 => ?_) (fun h9 => ?_)
  · refine lv_iconst (v := 0) hx hb d_Model_count_16 (by decide) ?_
    refine lv_istore_n (lv' := [(2, .int 0), (0, .ref (ad 0)), (1, .int x)]) hx hb d_Model_count_17 rfl hl (by decide) rfl (fun ls hl => ?_)
    refine lv_iload_n hx hb d_Model_count_18 rfl (lv_at hl 2 rfl) ?_
    by_cases h19_0 : x = 0
    · refine lv_tableIn (tgt := 68) hx hb d_Model_count_19 (by rw [h19_0]; decide) (by rw [h19_0]; decide) (by rw [h19_0]; rfl) rfl ?_
      refine lv_aload_n hx hb d_Model_count_68 rfl (lv_at hl 1 rfl) ?_
      refine va_get (D := (dC, dI)) (ci := 4) (v := .int ato) (C := R_Model) (T := F_Model) (N := 30) hx hb hts (fun q hq => List.mem_cons_of_mem _ (i_Model q hq)) hown hK hP 0 rfl rfl 3 (by decide) (hts _ (List.mem_cons_of_mem _ m_13_20)) (fun _ h9 => h9) rfl d_Model_count_69 ?_
      refine lm_ri (v := ato) hx hb hr hlocks ((aso, axs, ato, 0, asi), (asr, anu, ach, aow, aar), (ais, aon, atw, awh, afi), (ase, afr, amo, ass, asp), (afo, aba, ano, aen, avs), (avo, avt, are, atd, ale)) ?_ hP hK hD hS d_Model_count_72
      unfold md_count; rw [if_pos h9]; unfold md_c0; rw [if_pos h19_0]; exact ⟨rfl, rfl⟩
    by_cases h19_1 : x = 1
    · refine lv_tableIn (tgt := 73) hx hb d_Model_count_19 (by rw [h19_1]; decide) (by rw [h19_1]; decide) (by rw [h19_1]; rfl) rfl ?_
      refine lv_iload_n hx hb d_Model_count_73 rfl (lv_at hl 0 rfl) ?_
      refine lv_if_eq hx hb d_Model_count_74 rfl (fun h74 => ?_) (fun h74 => by exact absurd h74 (by decide))
      refine lv_iconst (v := 0) hx hb d_Model_count_84 (by decide) ?_
      refine lm_ri (v := 0) hx hb hr hlocks ((aso, axs, ato, 0, asi), (asr, anu, ach, aow, aar), (ais, aon, atw, awh, afi), (ase, afr, amo, ass, asp), (afo, aba, ano, aen, avs), (avo, avt, are, atd, ale)) ?_ hP hK hD hS d_Model_count_85
      unfold md_count; rw [if_pos h9]; unfold md_c0; rw [if_neg h19_0]; rw [if_pos h19_1]; exact ⟨rfl, rfl⟩
    by_cases h19_2 : x = 2
    · refine lv_tableIn (tgt := 86) hx hb d_Model_count_19 (by rw [h19_2]; decide) (by rw [h19_2]; decide) (by rw [h19_2]; rfl) rfl ?_
      refine lv_aload_n hx hb d_Model_count_86 rfl (lv_at hl 1 rfl) ?_
      refine va_get (D := (dC, dI)) (ci := 4) (v := .int ass) (C := R_Model) (T := F_Model) (N := 30) hx hb hts (fun q hq => List.mem_cons_of_mem _ (i_Model q hq)) hown hK hP 0 rfl rfl 21 (by decide) (hts _ (List.mem_cons_of_mem _ m_14_14)) (fun _ h9 => h9) rfl d_Model_count_87 ?_
      refine lm_ri (v := ass) hx hb hr hlocks ((aso, axs, ato, 0, asi), (asr, anu, ach, aow, aar), (ais, aon, atw, awh, afi), (ase, afr, amo, ass, asp), (afo, aba, ano, aen, avs), (avo, avt, are, atd, ale)) ?_ hP hK hD hS d_Model_count_90
      unfold md_count; rw [if_pos h9]; unfold md_c0; rw [if_neg h19_0]; rw [if_neg h19_1]; rw [if_pos h19_2]; exact ⟨rfl, rfl⟩
    by_cases h19_3 : x = 3
    · refine lv_tableIn (tgt := 91) hx hb d_Model_count_19 (by rw [h19_3]; decide) (by rw [h19_3]; decide) (by rw [h19_3]; rfl) rfl ?_
      refine lv_iload_n hx hb d_Model_count_91 rfl (lv_at hl 0 rfl) ?_
      refine lv_if_eq hx hb d_Model_count_92 rfl (fun h92 => ?_) (fun h92 => by exact absurd h92 (by decide))
      refine lv_iconst (v := 0) hx hb d_Model_count_102 (by decide) ?_
      refine lm_ri (v := 0) hx hb hr hlocks ((aso, axs, ato, 0, asi), (asr, anu, ach, aow, aar), (ais, aon, atw, awh, afi), (ase, afr, amo, ass, asp), (afo, aba, ano, aen, avs), (avo, avt, are, atd, ale)) ?_ hP hK hD hS d_Model_count_103
      unfold md_count; rw [if_pos h9]; unfold md_c0; rw [if_neg h19_0]; rw [if_neg h19_1]; rw [if_neg h19_2]; rw [if_pos h19_3]; exact ⟨rfl, rfl⟩
    by_cases h19_4 : x = 4
    · refine lv_tableIn (tgt := 104) hx hb d_Model_count_19 (by rw [h19_4]; decide) (by rw [h19_4]; decide) (by rw [h19_4]; rfl) rfl ?_
      refine lv_iload_n hx hb d_Model_count_104 rfl (lv_at hl 0 rfl) ?_
      refine lv_if_eq hx hb d_Model_count_105 rfl (fun h105 => ?_) (fun h105 => by exact absurd h105 (by decide))
      refine lv_iconst (v := 0) hx hb d_Model_count_115 (by decide) ?_
      refine lm_ri (v := 0) hx hb hr hlocks ((aso, axs, ato, 0, asi), (asr, anu, ach, aow, aar), (ais, aon, atw, awh, afi), (ase, afr, amo, ass, asp), (afo, aba, ano, aen, avs), (avo, avt, are, atd, ale)) ?_ hP hK hD hS d_Model_count_116
      unfold md_count; rw [if_pos h9]; unfold md_c0; rw [if_neg h19_0]; rw [if_neg h19_1]; rw [if_neg h19_2]; rw [if_neg h19_3]; rw [if_pos h19_4]; exact ⟨rfl, rfl⟩
    by_cases h19_5 : x = 5
    · refine lv_tableIn (tgt := 117) hx hb d_Model_count_19 (by rw [h19_5]; decide) (by rw [h19_5]; decide) (by rw [h19_5]; rfl) rfl ?_
      refine lv_iload_n hx hb d_Model_count_117 rfl (lv_at hl 0 rfl) ?_
      refine lv_if_eq hx hb d_Model_count_118 rfl (fun h118 => ?_) (fun h118 => by exact absurd h118 (by decide))
      refine lv_iconst (v := 0) hx hb d_Model_count_128 (by decide) ?_
      refine lm_ri (v := 0) hx hb hr hlocks ((aso, axs, ato, 0, asi), (asr, anu, ach, aow, aar), (ais, aon, atw, awh, afi), (ase, afr, amo, ass, asp), (afo, aba, ano, aen, avs), (avo, avt, are, atd, ale)) ?_ hP hK hD hS d_Model_count_129
      unfold md_count; rw [if_pos h9]; unfold md_c0; rw [if_neg h19_0]; rw [if_neg h19_1]; rw [if_neg h19_2]; rw [if_neg h19_3]; rw [if_neg h19_4]; rw [if_pos h19_5]; exact ⟨rfl, rfl⟩
    by_cases h19_6 : x = 6
    · refine lv_tableIn (tgt := 130) hx hb d_Model_count_19 (by rw [h19_6]; decide) (by rw [h19_6]; decide) (by rw [h19_6]; rfl) rfl ?_
      refine lv_iload_n hx hb d_Model_count_130 rfl (lv_at hl 0 rfl) ?_
      refine lv_if_eq hx hb d_Model_count_131 rfl (fun h131 => ?_) (fun h131 => by exact absurd h131 (by decide))
      refine lv_iconst (v := 0) hx hb d_Model_count_141 (by decide) ?_
      refine lm_ri (v := 0) hx hb hr hlocks ((aso, axs, ato, 0, asi), (asr, anu, ach, aow, aar), (ais, aon, atw, awh, afi), (ase, afr, amo, ass, asp), (afo, aba, ano, aen, avs), (avo, avt, are, atd, ale)) ?_ hP hK hD hS d_Model_count_142
      unfold md_count; rw [if_pos h9]; unfold md_c0; rw [if_neg h19_0]; rw [if_neg h19_1]; rw [if_neg h19_2]; rw [if_neg h19_3]; rw [if_neg h19_4]; rw [if_neg h19_5]; rw [if_pos h19_6]; exact ⟨rfl, rfl⟩
    by_cases h19_7 : x = 7
    · refine lv_tableIn (tgt := 143) hx hb d_Model_count_19 (by rw [h19_7]; decide) (by rw [h19_7]; decide) (by rw [h19_7]; rfl) rfl ?_
      refine lv_iload_n hx hb d_Model_count_143 rfl (lv_at hl 0 rfl) ?_
      refine lv_if_eq hx hb d_Model_count_144 rfl (fun h144 => ?_) (fun h144 => by exact absurd h144 (by decide))
      refine lv_iconst (v := -1) hx hb d_Model_count_161 (by decide) ?_
      refine lm_ri (v := (-1)) hx hb hr hlocks ((aso, axs, ato, 0, asi), (asr, anu, ach, aow, aar), (ais, aon, atw, awh, afi), (ase, afr, amo, ass, asp), (afo, aba, ano, aen, avs), (avo, avt, are, atd, ale)) ?_ hP hK hD hS d_Model_count_162
      unfold md_count; rw [if_pos h9]; unfold md_c0; rw [if_neg h19_0]; rw [if_neg h19_1]; rw [if_neg h19_2]; rw [if_neg h19_3]; rw [if_neg h19_4]; rw [if_neg h19_5]; rw [if_neg h19_6]; rw [if_pos h19_7]; exact ⟨rfl, rfl⟩
    by_cases h19_8 : x = 8
    · refine lv_tableIn (tgt := 163) hx hb d_Model_count_19 (by rw [h19_8]; decide) (by rw [h19_8]; decide) (by rw [h19_8]; rfl) rfl ?_
      refine lv_iload_n hx hb d_Model_count_163 rfl (lv_at hl 0 rfl) ?_
      refine lv_if_eq hx hb d_Model_count_164 rfl (fun h164 => ?_) (fun h164 => by exact absurd h164 (by decide))
      refine lv_iconst (v := 0) hx hb d_Model_count_174 (by decide) ?_
      refine lm_ri (v := 0) hx hb hr hlocks ((aso, axs, ato, 0, asi), (asr, anu, ach, aow, aar), (ais, aon, atw, awh, afi), (ase, afr, amo, ass, asp), (afo, aba, ano, aen, avs), (avo, avt, are, atd, ale)) ?_ hP hK hD hS d_Model_count_175
      unfold md_count; rw [if_pos h9]; unfold md_c0; rw [if_neg h19_0]; rw [if_neg h19_1]; rw [if_neg h19_2]; rw [if_neg h19_3]; rw [if_neg h19_4]; rw [if_neg h19_5]; rw [if_neg h19_6]; rw [if_neg h19_7]; rw [if_pos h19_8]; exact ⟨rfl, rfl⟩
    have qh19_0 := lv_neT (a := 0) h19_0 (by decide)
    have qh19_1 := lv_neT (a := 1) h19_1 (by decide)
    have qh19_2 := lv_neT (a := 2) h19_2 (by decide)
    have qh19_3 := lv_neT (a := 3) h19_3 (by decide)
    have qh19_4 := lv_neT (a := 4) h19_4 (by decide)
    have qh19_5 := lv_neT (a := 5) h19_5 (by decide)
    have qh19_6 := lv_neT (a := 6) h19_6 (by decide)
    have qh19_7 := lv_neT (a := 7) h19_7 (by decide)
    have qh19_8 := lv_neT (a := 8) h19_8 (by decide)
    refine lv_tableOut (tgt := 176) hx hb d_Model_count_19 (by omega) rfl ?_
    refine lv_iconst (v := -1) hx hb d_Model_count_176 (by decide) ?_
    refine lm_ri (v := (-1)) hx hb hr hlocks ((aso, axs, ato, 0, asi), (asr, anu, ach, aow, aar), (ais, aon, atw, awh, afi), (ase, afr, amo, ass, asp), (afo, aba, ano, aen, avs), (avo, avt, are, atd, ale)) ?_ hP hK hD hS d_Model_count_177
    unfold md_count; rw [if_pos h9]; unfold md_c0; rw [if_neg h19_0]; rw [if_neg h19_1]; rw [if_neg h19_2]; rw [if_neg h19_3]; rw [if_neg h19_4]; rw [if_neg h19_5]; rw [if_neg h19_6]; rw [if_neg h19_7]; rw [if_neg h19_8]; exact ⟨rfl, rfl⟩
  · refine lv_iconst (v := 1) hx hb d_Model_count_12 (by decide) ?_
    refine lv_goto hx hb d_Model_count_13 rfl ?_
    refine lv_istore_n (lv' := [(2, .int 1), (0, .ref (ad 0)), (1, .int x)]) hx hb d_Model_count_17 rfl hl (by decide) rfl (fun ls hl => ?_)
    refine lv_iload_n hx hb d_Model_count_18 rfl (lv_at hl 2 rfl) ?_
    by_cases h19_0 : x = 0
    · refine lv_tableIn (tgt := 68) hx hb d_Model_count_19 (by rw [h19_0]; decide) (by rw [h19_0]; decide) (by rw [h19_0]; rfl) rfl ?_
      refine lv_aload_n hx hb d_Model_count_68 rfl (lv_at hl 1 rfl) ?_
      refine va_get (D := (dC, dI)) (ci := 4) (v := .int ato) (C := R_Model) (T := F_Model) (N := 30) hx hb hts (fun q hq => List.mem_cons_of_mem _ (i_Model q hq)) hown hK hP 0 rfl rfl 3 (by decide) (hts _ (List.mem_cons_of_mem _ m_13_20)) (fun _ h9 => h9) rfl d_Model_count_69 ?_
      refine lm_ri (v := ato) hx hb hr hlocks ((aso, axs, ato, 0, asi), (asr, anu, ach, aow, aar), (ais, aon, atw, awh, afi), (ase, afr, amo, ass, asp), (afo, aba, ano, aen, avs), (avo, avt, are, atd, ale)) ?_ hP hK hD hS d_Model_count_72
      unfold md_count; rw [if_neg h9]; unfold md_c1; rw [if_pos h19_0]; exact ⟨rfl, rfl⟩
    by_cases h19_1 : x = 1
    · refine lv_tableIn (tgt := 73) hx hb d_Model_count_19 (by rw [h19_1]; decide) (by rw [h19_1]; decide) (by rw [h19_1]; rfl) rfl ?_
      refine lv_iload_n hx hb d_Model_count_73 rfl (lv_at hl 0 rfl) ?_
      refine lv_if_eq hx hb d_Model_count_74 rfl (fun h74 => by exact absurd h74 (by decide)) (fun h74 => ?_)
      refine lv_aload_n hx hb d_Model_count_77 rfl (lv_at hl 1 rfl) ?_
      refine va_get (D := (dC, dI)) (ci := 4) (v := .int asi) (C := R_Model) (T := F_Model) (N := 30) hx hb hts (fun q hq => List.mem_cons_of_mem _ (i_Model q hq)) hown hK hP 0 rfl rfl 7 (by decide) (hts _ (List.mem_cons_of_mem _ m_14_0)) (fun _ h9 => h9) rfl d_Model_count_78 ?_
      refine lv_goto hx hb d_Model_count_81 rfl ?_
      refine lm_ri (v := asi) hx hb hr hlocks ((aso, axs, ato, 0, asi), (asr, anu, ach, aow, aar), (ais, aon, atw, awh, afi), (ase, afr, amo, ass, asp), (afo, aba, ano, aen, avs), (avo, avt, are, atd, ale)) ?_ hP hK hD hS d_Model_count_85
      unfold md_count; rw [if_neg h9]; unfold md_c1; rw [if_neg h19_0]; rw [if_pos h19_1]; exact ⟨rfl, rfl⟩
    by_cases h19_2 : x = 2
    · refine lv_tableIn (tgt := 86) hx hb d_Model_count_19 (by rw [h19_2]; decide) (by rw [h19_2]; decide) (by rw [h19_2]; rfl) rfl ?_
      refine lv_aload_n hx hb d_Model_count_86 rfl (lv_at hl 1 rfl) ?_
      refine va_get (D := (dC, dI)) (ci := 4) (v := .int ass) (C := R_Model) (T := F_Model) (N := 30) hx hb hts (fun q hq => List.mem_cons_of_mem _ (i_Model q hq)) hown hK hP 0 rfl rfl 21 (by decide) (hts _ (List.mem_cons_of_mem _ m_14_14)) (fun _ h9 => h9) rfl d_Model_count_87 ?_
      refine lm_ri (v := ass) hx hb hr hlocks ((aso, axs, ato, 0, asi), (asr, anu, ach, aow, aar), (ais, aon, atw, awh, afi), (ase, afr, amo, ass, asp), (afo, aba, ano, aen, avs), (avo, avt, are, atd, ale)) ?_ hP hK hD hS d_Model_count_90
      unfold md_count; rw [if_neg h9]; unfold md_c1; rw [if_neg h19_0]; rw [if_neg h19_1]; rw [if_pos h19_2]; exact ⟨rfl, rfl⟩
    by_cases h19_3 : x = 3
    · refine lv_tableIn (tgt := 91) hx hb d_Model_count_19 (by rw [h19_3]; decide) (by rw [h19_3]; decide) (by rw [h19_3]; rfl) rfl ?_
      refine lv_iload_n hx hb d_Model_count_91 rfl (lv_at hl 0 rfl) ?_
      refine lv_if_eq hx hb d_Model_count_92 rfl (fun h92 => by exact absurd h92 (by decide)) (fun h92 => ?_)
      refine lv_aload_n hx hb d_Model_count_95 rfl (lv_at hl 1 rfl) ?_
      refine va_get (D := (dC, dI)) (ci := 4) (v := .int asp) (C := R_Model) (T := F_Model) (N := 30) hx hb hts (fun q hq => List.mem_cons_of_mem _ (i_Model q hq)) hown hK hP 0 rfl rfl 22 (by decide) (hts _ (List.mem_cons_of_mem _ m_14_15)) (fun _ h9 => h9) rfl d_Model_count_96 ?_
      refine lv_goto hx hb d_Model_count_99 rfl ?_
      refine lm_ri (v := asp) hx hb hr hlocks ((aso, axs, ato, 0, asi), (asr, anu, ach, aow, aar), (ais, aon, atw, awh, afi), (ase, afr, amo, ass, asp), (afo, aba, ano, aen, avs), (avo, avt, are, atd, ale)) ?_ hP hK hD hS d_Model_count_103
      unfold md_count; rw [if_neg h9]; unfold md_c1; rw [if_neg h19_0]; rw [if_neg h19_1]; rw [if_neg h19_2]; rw [if_pos h19_3]; exact ⟨rfl, rfl⟩
    by_cases h19_4 : x = 4
    · refine lv_tableIn (tgt := 104) hx hb d_Model_count_19 (by rw [h19_4]; decide) (by rw [h19_4]; decide) (by rw [h19_4]; rfl) rfl ?_
      refine lv_iload_n hx hb d_Model_count_104 rfl (lv_at hl 0 rfl) ?_
      refine lv_if_eq hx hb d_Model_count_105 rfl (fun h105 => by exact absurd h105 (by decide)) (fun h105 => ?_)
      refine lv_aload_n hx hb d_Model_count_108 rfl (lv_at hl 1 rfl) ?_
      refine va_get (D := (dC, dI)) (ci := 4) (v := .int afo) (C := R_Model) (T := F_Model) (N := 30) hx hb hts (fun q hq => List.mem_cons_of_mem _ (i_Model q hq)) hown hK hP 0 rfl rfl 23 (by decide) (hts _ (List.mem_cons_of_mem _ m_14_16)) (fun _ h9 => h9) rfl d_Model_count_109 ?_
      refine lv_goto hx hb d_Model_count_112 rfl ?_
      refine lm_ri (v := afo) hx hb hr hlocks ((aso, axs, ato, 0, asi), (asr, anu, ach, aow, aar), (ais, aon, atw, awh, afi), (ase, afr, amo, ass, asp), (afo, aba, ano, aen, avs), (avo, avt, are, atd, ale)) ?_ hP hK hD hS d_Model_count_116
      unfold md_count; rw [if_neg h9]; unfold md_c1; rw [if_neg h19_0]; rw [if_neg h19_1]; rw [if_neg h19_2]; rw [if_neg h19_3]; rw [if_pos h19_4]; exact ⟨rfl, rfl⟩
    by_cases h19_5 : x = 5
    · refine lv_tableIn (tgt := 117) hx hb d_Model_count_19 (by rw [h19_5]; decide) (by rw [h19_5]; decide) (by rw [h19_5]; rfl) rfl ?_
      refine lv_iload_n hx hb d_Model_count_117 rfl (lv_at hl 0 rfl) ?_
      refine lv_if_eq hx hb d_Model_count_118 rfl (fun h118 => by exact absurd h118 (by decide)) (fun h118 => ?_)
      refine lv_aload_n hx hb d_Model_count_121 rfl (lv_at hl 1 rfl) ?_
      refine va_get (D := (dC, dI)) (ci := 4) (v := .int afr) (C := R_Model) (T := F_Model) (N := 30) hx hb hts (fun q hq => List.mem_cons_of_mem _ (i_Model q hq)) hown hK hP 0 rfl rfl 19 (by decide) (hts _ (List.mem_cons_of_mem _ m_14_12)) (fun _ h9 => h9) rfl d_Model_count_122 ?_
      refine lv_goto hx hb d_Model_count_125 rfl ?_
      refine lm_ri (v := afr) hx hb hr hlocks ((aso, axs, ato, 0, asi), (asr, anu, ach, aow, aar), (ais, aon, atw, awh, afi), (ase, afr, amo, ass, asp), (afo, aba, ano, aen, avs), (avo, avt, are, atd, ale)) ?_ hP hK hD hS d_Model_count_129
      unfold md_count; rw [if_neg h9]; unfold md_c1; rw [if_neg h19_0]; rw [if_neg h19_1]; rw [if_neg h19_2]; rw [if_neg h19_3]; rw [if_neg h19_4]; rw [if_pos h19_5]; exact ⟨rfl, rfl⟩
    by_cases h19_6 : x = 6
    · refine lv_tableIn (tgt := 130) hx hb d_Model_count_19 (by rw [h19_6]; decide) (by rw [h19_6]; decide) (by rw [h19_6]; rfl) rfl ?_
      refine lv_iload_n hx hb d_Model_count_130 rfl (lv_at hl 0 rfl) ?_
      refine lv_if_eq hx hb d_Model_count_131 rfl (fun h131 => by exact absurd h131 (by decide)) (fun h131 => ?_)
      refine lv_aload_n hx hb d_Model_count_134 rfl (lv_at hl 1 rfl) ?_
      refine lm_vi (b := ad 0) (As := []) (rest := []) (wr := ([] : va_W)) ⟨hx, hb, hml, hown, hts⟩ hK hP hD hS hA [0, 1, 2, 3, 4, 5, 6, 7, 8, 9, 10, 11, 12, 13, 14, 15] [] rfl rfl (by decide) (by decide) (by decide) (c_Model_mark l dC dI cA cZ ad _ ((aso, axs, ato, 0, asi), (asr, anu, ach, aow, aar), (ais, aon, atw, awh, afi), (ase, afr, amo, ass, asp), (afo, aba, ano, aen, avs), (avo, avt, are, atd, ale))  (by exact hi h19_6)) (cwV 0 hts (lm_gV m_16_14 m_16_15 m_20_7 m_0_5 m_16_16) rfl rfl rfl (by decide +kernel) ⟨Nat.le_of_ble_eq_true rfl, Nat.le_of_ble_eq_true rfl⟩) (va_recv (q0 := 0) hK hP rfl rfl) lm_bl_no (fun _ _ _ => trivial) hl.1 rfl rfl (Nat.le_of_ble_eq_true rfl) d_Model_count_135 ⟨Nat.le_of_ble_eq_true rfl, Nat.le_of_ble_eq_true rfl⟩ (fun r135 u135 H locs w135 hP hD hS => ?_)
      obtain ⟨e_r135, w135⟩ := w135
      have hP : va_P (dC, dI) classes (mr_W cA cZ ad u135) H := hP
      have hD : va_D A (mr_W cA cZ ad u135) := hD
      refine lv_goto hx hb d_Model_count_138 rfl ?_
      refine lm_ri (v := r135) hx hb hr hlocks u135 ?_ hP hK hD hS d_Model_count_142
      subst e_r135 w135; unfold md_count; rw [if_neg h9]; unfold md_c1; rw [if_neg h19_0]; rw [if_neg h19_1]; rw [if_neg h19_2]; rw [if_neg h19_3]; rw [if_neg h19_4]; rw [if_neg h19_5]; rw [if_pos h19_6]; exact ⟨rfl, rfl⟩
    by_cases h19_7 : x = 7
    · refine lv_tableIn (tgt := 143) hx hb d_Model_count_19 (by rw [h19_7]; decide) (by rw [h19_7]; decide) (by rw [h19_7]; rfl) rfl ?_
      refine lv_iload_n hx hb d_Model_count_143 rfl (lv_at hl 0 rfl) ?_
      refine lv_if_eq hx hb d_Model_count_144 rfl (fun h144 => by exact absurd h144 (by decide)) (fun h144 => ?_)
      refine lv_aload_n hx hb d_Model_count_147 rfl (lv_at hl 1 rfl) ?_
      refine va_get (D := (dC, dI)) (ci := 4) (v := .int aba) (C := R_Model) (T := F_Model) (N := 30) hx hb hts (fun q hq => List.mem_cons_of_mem _ (i_Model q hq)) hown hK hP 0 rfl rfl 24 (by decide) (hts _ (List.mem_cons_of_mem _ m_14_17)) (fun _ h9 => h9) rfl d_Model_count_148 ?_
      refine lv_if_ne hx hb d_Model_count_151 rfl (fun h151 => ?_) (fun h151 => ?_)
      · refine lv_iconst (v := -1) hx hb d_Model_count_161 (by decide) ?_
        refine lm_ri (v := (-1)) hx hb hr hlocks ((aso, axs, ato, 0, asi), (asr, anu, ach, aow, aar), (ais, aon, atw, awh, afi), (ase, afr, amo, ass, asp), (afo, aba, ano, aen, avs), (avo, avt, are, atd, ale)) ?_ hP hK hD hS d_Model_count_162
        unfold md_count; rw [if_neg h9]; unfold md_c1; rw [if_neg h19_0]; rw [if_neg h19_1]; rw [if_neg h19_2]; rw [if_neg h19_3]; rw [if_neg h19_4]; rw [if_neg h19_5]; rw [if_neg h19_6]; rw [if_pos h19_7]; rw [if_neg (show ¬ r_ba (s_th ((aso, axs, ato, ath, asi), (asr, anu, ach, aow, aar), (ais, aon, atw, awh, afi), (ase, afr, amo, ass, asp), (afo, aba, ano, aen, avs), (avo, avt, are, atd, ale)) 0) = 0 from h151)]; exact ⟨rfl, rfl⟩
      · refine lv_aload_n hx hb d_Model_count_154 rfl (lv_at hl 1 rfl) ?_
        refine va_get (D := (dC, dI)) (ci := 4) (v := .int ano) (C := R_Model) (T := F_Model) (N := 30) hx hb hts (fun q hq => List.mem_cons_of_mem _ (i_Model q hq)) hown hK hP 0 rfl rfl 25 (by decide) (hts _ (List.mem_cons_of_mem _ m_14_18)) (fun _ h9 => h9) rfl d_Model_count_155 ?_
        refine lv_goto hx hb d_Model_count_158 rfl ?_
        refine lm_ri (v := ano) hx hb hr hlocks ((aso, axs, ato, 0, asi), (asr, anu, ach, aow, aar), (ais, aon, atw, awh, afi), (ase, afr, amo, ass, asp), (afo, aba, ano, aen, avs), (avo, avt, are, atd, ale)) ?_ hP hK hD hS d_Model_count_162
        unfold md_count; rw [if_neg h9]; unfold md_c1; rw [if_neg h19_0]; rw [if_neg h19_1]; rw [if_neg h19_2]; rw [if_neg h19_3]; rw [if_neg h19_4]; rw [if_neg h19_5]; rw [if_neg h19_6]; rw [if_pos h19_7]; rw [if_pos (show r_ba (s_th ((aso, axs, ato, ath, asi), (asr, anu, ach, aow, aar), (ais, aon, atw, awh, afi), (ase, afr, amo, ass, asp), (afo, aba, ano, aen, avs), (avo, avt, are, atd, ale)) 0) = 0 from h151)]; exact ⟨rfl, rfl⟩
    by_cases h19_8 : x = 8
    · refine lv_tableIn (tgt := 163) hx hb d_Model_count_19 (by rw [h19_8]; decide) (by rw [h19_8]; decide) (by rw [h19_8]; rfl) rfl ?_
      refine lv_iload_n hx hb d_Model_count_163 rfl (lv_at hl 0 rfl) ?_
      refine lv_if_eq hx hb d_Model_count_164 rfl (fun h164 => by exact absurd h164 (by decide)) (fun h164 => ?_)
      refine lv_aload_n hx hb d_Model_count_167 rfl (lv_at hl 1 rfl) ?_
      refine va_get (D := (dC, dI)) (ci := 4) (v := .int amo) (C := R_Model) (T := F_Model) (N := 30) hx hb hts (fun q hq => List.mem_cons_of_mem _ (i_Model q hq)) hown hK hP 0 rfl rfl 20 (by decide) (hts _ (List.mem_cons_of_mem _ m_14_13)) (fun _ h9 => h9) rfl d_Model_count_168 ?_
      refine lv_goto hx hb d_Model_count_171 rfl ?_
      refine lm_ri (v := amo) hx hb hr hlocks ((aso, axs, ato, 0, asi), (asr, anu, ach, aow, aar), (ais, aon, atw, awh, afi), (ase, afr, amo, ass, asp), (afo, aba, ano, aen, avs), (avo, avt, are, atd, ale)) ?_ hP hK hD hS d_Model_count_175
      unfold md_count; rw [if_neg h9]; unfold md_c1; rw [if_neg h19_0]; rw [if_neg h19_1]; rw [if_neg h19_2]; rw [if_neg h19_3]; rw [if_neg h19_4]; rw [if_neg h19_5]; rw [if_neg h19_6]; rw [if_neg h19_7]; rw [if_pos h19_8]; exact ⟨rfl, rfl⟩
    have qh19_0 := lv_neT (a := 0) h19_0 (by decide)
    have qh19_1 := lv_neT (a := 1) h19_1 (by decide)
    have qh19_2 := lv_neT (a := 2) h19_2 (by decide)
    have qh19_3 := lv_neT (a := 3) h19_3 (by decide)
    have qh19_4 := lv_neT (a := 4) h19_4 (by decide)
    have qh19_5 := lv_neT (a := 5) h19_5 (by decide)
    have qh19_6 := lv_neT (a := 6) h19_6 (by decide)
    have qh19_7 := lv_neT (a := 7) h19_7 (by decide)
    have qh19_8 := lv_neT (a := 8) h19_8 (by decide)
    refine lv_tableOut (tgt := 176) hx hb d_Model_count_19 (by omega) rfl ?_
    refine lv_iconst (v := -1) hx hb d_Model_count_176 (by decide) ?_
    refine lm_ri (v := (-1)) hx hb hr hlocks ((aso, axs, ato, 0, asi), (asr, anu, ach, aow, aar), (ais, aon, atw, awh, afi), (ase, afr, amo, ass, asp), (afo, aba, ano, aen, avs), (avo, avt, are, atd, ale)) ?_ hP hK hD hS d_Model_count_177
    unfold md_count; rw [if_neg h9]; unfold md_c1; rw [if_neg h19_0]; rw [if_neg h19_1]; rw [if_neg h19_2]; rw [if_neg h19_3]; rw [if_neg h19_4]; rw [if_neg h19_5]; rw [if_neg h19_6]; rw [if_neg h19_7]; rw [if_neg h19_8]; exact ⟨rfl, rfl⟩
set_option maxHeartbeats 4000000 in
set_option maxRecDepth 100000 in
theorem c_Model_result (l : Launch) (dC : Nat → ClassId) (dI : Nat → Nat → Nat) (cA cZ : ClassId)  (ad : Nat → Nat) (sz : Nat) (S : ZNS) (x : Int32)  : Met l y_Model_result w_Model_result ({ frames := 1, cells := 0, slots := 0, locals := 22 } : Room) (va_Pc [.ref (ad 0), .int x] (lm_pre (dC, dI) classes [(cA, .int), (cZ, .boolean)] (mr_W cA cZ ad S) sz lm_no)) (va_Qi (fun (r : Int32) (u : ZNS) => r = (md_result S x).1 ∧ u = (md_result S x).2) (fun u => lm_at (dC, dI) classes [(cA, .int), (cZ, .boolean)] (va_A (mr_W cA cZ ad S) sz) (mr_W cA cZ ad u)) (va_A (mr_W cA cZ ad S) sz)) 0 0 (va_A (mr_W cA cZ ad S) sz) := by
  obtain ⟨⟨aso, axs, ato, ath, asi⟩, ⟨asr, anu, ach, aow, aar⟩, ⟨ais, aon, atw, awh, afi⟩, ⟨ase, afr, amo, ass, asp⟩, ⟨afo, aba, ano, aen, avs⟩, ⟨avo, avt, are, atd, ale⟩⟩ := S
  refine lm_met (fun A => va_Qi (fun (r : Int32) (u : ZNS) => r = (md_result ((aso, axs, ato, ath, asi), (asr, anu, ach, aow, aar), (ais, aon, atw, awh, afi), (ase, afr, amo, ass, asp), (afo, aba, ano, aen, avs), (avo, avt, are, atd, ale)) x).1 ∧ u = (md_result ((aso, axs, ato, ath, asi), (asr, anu, ach, aow, aar), (ais, aon, atw, awh, afi), (ase, afr, amo, ass, asp), (afo, aba, ano, aen, avs), (avo, avt, are, atd, ale)) x).2) (fun u => lm_at (dC, dI) classes [(cA, .int), (cZ, .boolean)] A (mr_W cA cZ ad u)) A) (by decide) rfl (Nat.le_of_ble_eq_true rfl) ?_
  intro p e s m below meth c A hx hb hr hts hown hlocks hname hml hK hP hD hA hE hsz hAe hS ls hl
  replace hl : lv_has ls 2 [(0, .ref (ad 0)), (1, .int x)] := hl
  clear hAe hsz
  refine lv_aload_n hx hb d_Model_result_0 rfl (lv_at hl 0 rfl) ?_
  refine lv_aload_n hx hb d_Model_result_1 rfl (lv_at hl 0 rfl) ?_
  refine va_get (D := (dC, dI)) (ci := 4) (v := .int ass) (C := R_Model) (T := F_Model) (N := 30) hx hb hts (fun q hq => List.mem_cons_of_mem _ (i_Model q hq)) hown hK hP 0 rfl rfl 21 (by decide) (hts _ (List.mem_cons_of_mem _ m_14_14)) (fun _ h9 => h9) rfl d_Model_result_2 ?_
  refine lv_iconst (v := 2) hx hb d_Model_result_5 (by decide) ?_
  refine lv_icmp_eq hx hb d_Model_result_6 rfl (fun h6 => ?_) (fun h6 => ?_)
  · refine lv_iconst (v := 0) hx hb d_Model_result_13 (by decide) ?_
    refine lv_iconst (v := 0) hx hb d_Model_result_14 (by decide) ?_
    refine lm_vi (b := ad 0) (As := [.int 0, .int 0]) (rest := []) (wr := ([] : va_W)) ⟨hx, hb, hml, hown, hts⟩ hK hP hD hS hA [0, 1, 2, 3, 4, 5, 6, 7, 8, 9, 10, 11, 12, 13, 14, 15] [] rfl rfl (by decide) (by decide) (by decide) (c_Model_fails l dC dI cA cZ ad _ ((aso, axs, ato, ath, asi), (asr, anu, ach, aow, aar), (ais, aon, atw, awh, afi), (ase, afr, amo, ass, asp), (afo, aba, ano, aen, avs), (avo, avt, are, atd, ale)) 0 0 ) (cwV 2 hts (lm_gV m_15_8 m_15_9 m_20_2 m_0_5 m_15_10) rfl rfl rfl (by decide +kernel) ⟨Nat.le_of_ble_eq_true rfl, Nat.le_of_ble_eq_true rfl⟩) (va_recv (q0 := 0) hK hP rfl rfl) lm_bl_no (fun _ _ _ => trivial) hl.1 rfl rfl (Nat.le_of_ble_eq_true rfl) d_Model_result_15 ⟨Nat.le_of_ble_eq_true rfl, Nat.le_of_ble_eq_true rfl⟩ (fun r15 u15 H locs w15 hP hD hS => ?_)
    obtain ⟨e_r15, w15⟩ := w15
    have e_r15 : r15 = 0 := e_r15
    replace e_r15 := e_r15.symm
    subst e_r15
    have w15 : u15 = ((aso, axs, ato, 0, asi), (asr, anu, ach, aow, aar), (ais, aon, atw, awh, afi), (ase, afr, amo, ass, asp), (afo, aba, ano, aen, avs), (avo, avt, are, atd, ale)) := w15
    replace w15 := w15.symm
    subst w15
    have hP : va_P (dC, dI) classes (mr_W cA cZ ad ((aso, axs, ato, 0, asi), (asr, anu, ach, aow, aar), (ais, aon, atw, awh, afi), (ase, afr, amo, ass, asp), (afo, aba, ano, aen, avs), (avo, avt, are, atd, ale))) H := hP
    have hD : va_D A (mr_W cA cZ ad ((aso, axs, ato, 0, asi), (asr, anu, ach, aow, aar), (ais, aon, atw, awh, afi), (ase, afr, amo, ass, asp), (afo, aba, ano, aen, avs), (avo, avt, are, atd, ale))) := hD
    refine lv_if_eq hx hb d_Model_result_18 rfl (fun h18 => ?_) (fun h18 => by exact absurd h18 (by decide))
    refine lv_iload_n hx hb d_Model_result_23 rfl (lv_at hl 1 rfl) ?_
    refine lv_if_ne hx hb d_Model_result_24 rfl (fun h24 => ?_) (fun h24 => ?_)
    · refine lv_iload_n hx hb d_Model_result_32 rfl (lv_at hl 1 rfl) ?_
      refine lv_iconst (v := 1) hx hb d_Model_result_33 (by decide) ?_
      refine lv_icmp_ne hx hb d_Model_result_34 rfl (fun h34 => ?_) (fun h34 => ?_)
      · refine lv_iload_n hx hb d_Model_result_44 rfl (lv_at hl 1 rfl) ?_
        refine lv_iconst (v := 2) hx hb d_Model_result_45 (by decide) ?_
        refine lv_icmp_ne hx hb d_Model_result_46 rfl (fun h46 => ?_) (fun h46 => ?_)
        · refine lv_iconst (v := -1) hx hb d_Model_result_64 (by decide) ?_
          refine lm_ri (v := (-1)) hx hb hr hlocks ((aso, axs, ato, 0, asi), (asr, anu, ach, aow, aar), (ais, aon, atw, awh, afi), (ase, afr, amo, ass, asp), (afo, aba, ano, aen, avs), (avo, avt, are, atd, ale)) ?_ hP hK hD hS d_Model_result_65
          unfold md_result; (first | rw [if_pos h6] | rw [if_neg h6]); first | exact ⟨rfl, rfl⟩ | exact absurd (h34.symm.trans h46) (by decide) | (refine ⟨?_, rfl⟩; unfold md_res; simp [r_vs, r_vo, h24, h34, h46])
        · refine lv_aload_n hx hb d_Model_result_49 rfl (lv_at hl 0 rfl) ?_
          refine va_get (D := (dC, dI)) (ci := 4) (v := .int avs) (C := R_Model) (T := F_Model) (N := 30) hx hb hts (fun q hq => List.mem_cons_of_mem _ (i_Model q hq)) hown hK hP 0 rfl rfl 27 (by decide) (hts _ (List.mem_cons_of_mem _ m_14_20)) (fun _ h9 => h9) rfl d_Model_result_50 ?_
          refine lv_iconst (v := 1) hx hb d_Model_result_53 (by decide) ?_
          refine lv_icmp_ne hx hb d_Model_result_54 rfl (fun h54 => ?_) (fun h54 => ?_)
          · refine lv_iconst (v := -1) hx hb d_Model_result_64 (by decide) ?_
            refine lm_ri (v := (-1)) hx hb hr hlocks ((aso, axs, ato, 0, asi), (asr, anu, ach, aow, aar), (ais, aon, atw, awh, afi), (ase, afr, amo, ass, asp), (afo, aba, ano, aen, avs), (avo, avt, are, atd, ale)) ?_ hP hK hD hS d_Model_result_65
            unfold md_result; (first | rw [if_pos h6] | rw [if_neg h6]); first | exact ⟨rfl, rfl⟩ | exact absurd (h34.symm.trans h46) (by decide) | (refine ⟨?_, rfl⟩; unfold md_res; simp [r_vs, r_vo, h24, h34, h46, h54])
          · refine lv_aload_n hx hb d_Model_result_57 rfl (lv_at hl 0 rfl) ?_
            refine va_get (D := (dC, dI)) (ci := 4) (v := .int avo) (C := R_Model) (T := F_Model) (N := 30) hx hb hts (fun q hq => List.mem_cons_of_mem _ (i_Model q hq)) hown hK hP 0 rfl rfl 28 (by decide) (hts _ (List.mem_cons_of_mem _ m_14_21)) (fun _ h9 => h9) rfl d_Model_result_58 ?_
            refine lv_goto hx hb d_Model_result_61 rfl ?_
            refine lm_ri (v := avo) hx hb hr hlocks ((aso, axs, ato, 0, asi), (asr, anu, ach, aow, aar), (ais, aon, atw, awh, afi), (ase, afr, amo, ass, asp), (afo, aba, ano, aen, avs), (avo, avt, are, atd, ale)) ?_ hP hK hD hS d_Model_result_65
            unfold md_result; (first | rw [if_pos h6] | rw [if_neg h6]); first | exact ⟨rfl, rfl⟩ | exact absurd (h34.symm.trans h46) (by decide) | (refine ⟨?_, rfl⟩; unfold md_res; simp [r_vs, r_vo, h24, h34, h46, h54])
      · refine lv_aload_n hx hb d_Model_result_37 rfl (lv_at hl 0 rfl) ?_
        refine va_get (D := (dC, dI)) (ci := 4) (v := .int avs) (C := R_Model) (T := F_Model) (N := 30) hx hb hts (fun q hq => List.mem_cons_of_mem _ (i_Model q hq)) hown hK hP 0 rfl rfl 27 (by decide) (hts _ (List.mem_cons_of_mem _ m_14_20)) (fun _ h9 => h9) rfl d_Model_result_38 ?_
        refine lv_if_eq hx hb d_Model_result_41 rfl (fun h41 => ?_) (fun h41 => ?_)
        · refine lv_aload_n hx hb d_Model_result_57 rfl (lv_at hl 0 rfl) ?_
          refine va_get (D := (dC, dI)) (ci := 4) (v := .int avo) (C := R_Model) (T := F_Model) (N := 30) hx hb hts (fun q hq => List.mem_cons_of_mem _ (i_Model q hq)) hown hK hP 0 rfl rfl 28 (by decide) (hts _ (List.mem_cons_of_mem _ m_14_21)) (fun _ h9 => h9) rfl d_Model_result_58 ?_
          refine lv_goto hx hb d_Model_result_61 rfl ?_
          refine lm_ri (v := avo) hx hb hr hlocks ((aso, axs, ato, 0, asi), (asr, anu, ach, aow, aar), (ais, aon, atw, awh, afi), (ase, afr, amo, ass, asp), (afo, aba, ano, aen, avs), (avo, avt, are, atd, ale)) ?_ hP hK hD hS d_Model_result_65
          unfold md_result; (first | rw [if_pos h6] | rw [if_neg h6]); first | exact ⟨rfl, rfl⟩ | exact absurd (h34.symm.trans h46) (by decide) | (refine ⟨?_, rfl⟩; unfold md_res; simp [r_vs, r_vo, h24, h34, h41])
        · refine lv_iload_n hx hb d_Model_result_44 rfl (lv_at hl 1 rfl) ?_
          refine lv_iconst (v := 2) hx hb d_Model_result_45 (by decide) ?_
          refine lv_icmp_ne hx hb d_Model_result_46 rfl (fun h46 => ?_) (fun h46 => ?_)
          · refine lv_iconst (v := -1) hx hb d_Model_result_64 (by decide) ?_
            refine lm_ri (v := (-1)) hx hb hr hlocks ((aso, axs, ato, 0, asi), (asr, anu, ach, aow, aar), (ais, aon, atw, awh, afi), (ase, afr, amo, ass, asp), (afo, aba, ano, aen, avs), (avo, avt, are, atd, ale)) ?_ hP hK hD hS d_Model_result_65
            unfold md_result; (first | rw [if_pos h6] | rw [if_neg h6]); first | exact ⟨rfl, rfl⟩ | exact absurd (h34.symm.trans h46) (by decide) | (refine ⟨?_, rfl⟩; unfold md_res; simp [r_vs, r_vo, h24, h34, h41, h46])
          · refine lv_aload_n hx hb d_Model_result_49 rfl (lv_at hl 0 rfl) ?_
            refine va_get (D := (dC, dI)) (ci := 4) (v := .int avs) (C := R_Model) (T := F_Model) (N := 30) hx hb hts (fun q hq => List.mem_cons_of_mem _ (i_Model q hq)) hown hK hP 0 rfl rfl 27 (by decide) (hts _ (List.mem_cons_of_mem _ m_14_20)) (fun _ h9 => h9) rfl d_Model_result_50 ?_
            refine lv_iconst (v := 1) hx hb d_Model_result_53 (by decide) ?_
            refine lv_icmp_ne hx hb d_Model_result_54 rfl (fun h54 => ?_) (fun h54 => ?_)
            · refine lv_iconst (v := -1) hx hb d_Model_result_64 (by decide) ?_
              refine lm_ri (v := (-1)) hx hb hr hlocks ((aso, axs, ato, 0, asi), (asr, anu, ach, aow, aar), (ais, aon, atw, awh, afi), (ase, afr, amo, ass, asp), (afo, aba, ano, aen, avs), (avo, avt, are, atd, ale)) ?_ hP hK hD hS d_Model_result_65
              unfold md_result; (first | rw [if_pos h6] | rw [if_neg h6]); first | exact ⟨rfl, rfl⟩ | exact absurd (h34.symm.trans h46) (by decide) | (refine ⟨?_, rfl⟩; unfold md_res; simp [r_vs, r_vo, h24, h34, h41, h46, h54])
            · refine lv_aload_n hx hb d_Model_result_57 rfl (lv_at hl 0 rfl) ?_
              refine va_get (D := (dC, dI)) (ci := 4) (v := .int avo) (C := R_Model) (T := F_Model) (N := 30) hx hb hts (fun q hq => List.mem_cons_of_mem _ (i_Model q hq)) hown hK hP 0 rfl rfl 28 (by decide) (hts _ (List.mem_cons_of_mem _ m_14_21)) (fun _ h9 => h9) rfl d_Model_result_58 ?_
              refine lv_goto hx hb d_Model_result_61 rfl ?_
              refine lm_ri (v := avo) hx hb hr hlocks ((aso, axs, ato, 0, asi), (asr, anu, ach, aow, aar), (ais, aon, atw, awh, afi), (ase, afr, amo, ass, asp), (afo, aba, ano, aen, avs), (avo, avt, are, atd, ale)) ?_ hP hK hD hS d_Model_result_65
              unfold md_result; (first | rw [if_pos h6] | rw [if_neg h6]); first | exact ⟨rfl, rfl⟩ | exact absurd (h34.symm.trans h46) (by decide) | (refine ⟨?_, rfl⟩; unfold md_res; simp [r_vs, r_vo, h24, h34, h41, h46, h54])
    · refine lv_aload_n hx hb d_Model_result_27 rfl (lv_at hl 0 rfl) ?_
      refine va_get (D := (dC, dI)) (ci := 4) (v := .int avs) (C := R_Model) (T := F_Model) (N := 30) hx hb hts (fun q hq => List.mem_cons_of_mem _ (i_Model q hq)) hown hK hP 0 rfl rfl 27 (by decide) (hts _ (List.mem_cons_of_mem _ m_14_20)) (fun _ h9 => h9) rfl d_Model_result_28 ?_
      refine lm_ri (v := avs) hx hb hr hlocks ((aso, axs, ato, 0, asi), (asr, anu, ach, aow, aar), (ais, aon, atw, awh, afi), (ase, afr, amo, ass, asp), (afo, aba, ano, aen, avs), (avo, avt, are, atd, ale)) ?_ hP hK hD hS d_Model_result_31
      unfold md_result; (first | rw [if_pos h6] | rw [if_neg h6]); first | exact ⟨rfl, rfl⟩ | exact absurd (h34.symm.trans h46) (by decide) | (refine ⟨?_, rfl⟩; unfold md_res; simp [r_vs, r_vo, h24])
  · refine lv_iconst (v := 1) hx hb d_Model_result_9 (by decide) ?_
    refine lv_goto hx hb d_Model_result_10 rfl ?_
    refine lv_iconst (v := 0) hx hb d_Model_result_14 (by decide) ?_
    refine lm_vi (b := ad 0) (As := [.int 1, .int 0]) (rest := []) (wr := ([] : va_W)) ⟨hx, hb, hml, hown, hts⟩ hK hP hD hS hA [0, 1, 2, 3, 4, 5, 6, 7, 8, 9, 10, 11, 12, 13, 14, 15] [] rfl rfl (by decide) (by decide) (by decide) (c_Model_fails l dC dI cA cZ ad _ ((aso, axs, ato, ath, asi), (asr, anu, ach, aow, aar), (ais, aon, atw, awh, afi), (ase, afr, amo, ass, asp), (afo, aba, ano, aen, avs), (avo, avt, are, atd, ale)) 1 0 ) (cwV 2 hts (lm_gV m_15_8 m_15_9 m_20_2 m_0_5 m_15_10) rfl rfl rfl (by decide +kernel) ⟨Nat.le_of_ble_eq_true rfl, Nat.le_of_ble_eq_true rfl⟩) (va_recv (q0 := 0) hK hP rfl rfl) lm_bl_no (fun _ _ _ => trivial) hl.1 rfl rfl (Nat.le_of_ble_eq_true rfl) d_Model_result_15 ⟨Nat.le_of_ble_eq_true rfl, Nat.le_of_ble_eq_true rfl⟩ (fun r15 u15 H locs w15 hP hD hS => ?_)
    obtain ⟨e_r15, w15⟩ := w15
    have e_r15 : r15 = 1 := e_r15
    replace e_r15 := e_r15.symm
    subst e_r15
    have w15 : u15 = ((aso, axs, ato, 1, asi), (asr, anu, ach, aow, aar), (ais, aon, atw, awh, afi), (ase, afr, amo, ass, asp), (afo, aba, ano, aen, avs), (avo, avt, are, atd, ale)) := w15
    replace w15 := w15.symm
    subst w15
    have hP : va_P (dC, dI) classes (mr_W cA cZ ad ((aso, axs, ato, 1, asi), (asr, anu, ach, aow, aar), (ais, aon, atw, awh, afi), (ase, afr, amo, ass, asp), (afo, aba, ano, aen, avs), (avo, avt, are, atd, ale))) H := hP
    have hD : va_D A (mr_W cA cZ ad ((aso, axs, ato, 1, asi), (asr, anu, ach, aow, aar), (ais, aon, atw, awh, afi), (ase, afr, amo, ass, asp), (afo, aba, ano, aen, avs), (avo, avt, are, atd, ale))) := hD
    refine lv_if_eq hx hb d_Model_result_18 rfl (fun h18 => by exact absurd h18 (by decide)) (fun h18 => ?_)
    refine lv_iconst (v := 0) hx hb d_Model_result_21 (by decide) ?_
    refine lm_ri (v := 0) hx hb hr hlocks ((aso, axs, ato, 1, asi), (asr, anu, ach, aow, aar), (ais, aon, atw, awh, afi), (ase, afr, amo, ass, asp), (afo, aba, ano, aen, avs), (avo, avt, are, atd, ale)) ?_ hP hK hD hS d_Model_result_22
    unfold md_result; (first | rw [if_pos h6] | rw [if_neg h6]); first | exact ⟨rfl, rfl⟩ | exact absurd (h34.symm.trans h46) (by decide) | (refine ⟨?_, rfl⟩; unfold md_res; simp [r_vs, r_vo])
