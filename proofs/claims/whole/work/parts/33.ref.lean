set_option maxHeartbeats 4000000 in
set_option maxRecDepth 100000 in
theorem c_Model_thrown (l : Launch) (dC : Nat → ClassId) (dI : Nat → Nat → Nat) (cA cZ : ClassId)  (ad : Nat → Nat) (sz : Nat) (S : ZNS)   : Met l y_Model_thrown w_Model_thrown ({ frames := 0, cells := 0, slots := 0, locals := 0 } : Room) (va_Pc [.ref (ad 0)] (lm_pre (dC, dI) classes [(cA, .int), (cZ, .boolean)] (mr_W cA cZ ad S) sz lm_no)) (va_Qi (fun (r : Int32) (u : ZNS) => r = r_th S ∧ u = S) (fun u => lm_at (dC, dI) classes [(cA, .int), (cZ, .boolean)] (va_A (mr_W cA cZ ad S) sz) (mr_W cA cZ ad u)) (va_A (mr_W cA cZ ad S) sz)) 0 0 (va_A (mr_W cA cZ ad S) sz) := by
  obtain ⟨⟨aso, axs, ato, ath, asi⟩, ⟨asr, anu, ach, aow, aar⟩, ⟨ais, aon, atw, awh, afi⟩, ⟨ase, afr, amo, ass, asp⟩, ⟨afo, aba, ano, aen, avs⟩, ⟨avo, avt, are, atd, ale⟩⟩ := S
  refine lm_met (fun A => va_Qi (fun (r : Int32) (u : ZNS) => r = r_th ((aso, axs, ato, ath, asi), (asr, anu, ach, aow, aar), (ais, aon, atw, awh, afi), (ase, afr, amo, ass, asp), (afo, aba, ano, aen, avs), (avo, avt, are, atd, ale)) ∧ u = ((aso, axs, ato, ath, asi), (asr, anu, ach, aow, aar), (ais, aon, atw, awh, afi), (ase, afr, amo, ass, asp), (afo, aba, ano, aen, avs), (avo, avt, are, atd, ale))) (fun u => lm_at (dC, dI) classes [(cA, .int), (cZ, .boolean)] A (mr_W cA cZ ad u)) A) (by decide) rfl (Nat.le_of_ble_eq_true rfl) ?_
  intro p e s m below meth c A hx hb hr hts hown hlocks hname hml hK hP hD hA hE hsz hAe hS ls hl
  replace hl : lv_has ls 1 [(0, .ref (ad 0))] := hl
  clear hAe hsz
  refine lv_aload_n hx hb d_Model_thrown_0 rfl (lv_at hl 0 rfl) ?_
  refine va_get (D := (dC, dI)) (ci := 4) (v := .int ath) (C := R_Model) (T := F_Model) (N := 30) hx hb hts (fun q hq => List.mem_cons_of_mem _ (i_Model q hq)) hown hK hP 0 rfl rfl 0 (by decide) (hts _ (List.mem_cons_of_mem _ m_13_17)) (fun _ h9 => h9) rfl d_Model_thrown_1 ?_
  refine lm_ri (v := ath) hx hb hr hlocks ((aso, axs, ato, ath, asi), (asr, anu, ach, aow, aar), (ais, aon, atw, awh, afi), (ase, afr, amo, ass, asp), (afo, aba, ano, aen, avs), (avo, avt, are, atd, ale)) ?_ hP hK hD hS d_Model_thrown_4
  exact ⟨rfl, rfl⟩
set_option maxHeartbeats 4000000 in
set_option maxRecDepth 100000 in
theorem c_Model_fails (l : Launch) (dC : Nat → ClassId) (dI : Nat → Nat → Nat) (cA cZ : ClassId)  (ad : Nat → Nat) (sz : Nat) (S : ZNS) (y1 y2 : Int32)  : Met l y_Model_fails w_Model_fails ({ frames := 0, cells := 0, slots := 0, locals := 0 } : Room) (va_Pc [.ref (ad 0), .int y1, .int y2] (lm_pre (dC, dI) classes [(cA, .int), (cZ, .boolean)] (mr_W cA cZ ad S) sz lm_no)) (va_Qi (fun (r : Int32) (u : ZNS) => r = (md_fails S y1 y2).1 ∧ u = (md_fails S y1 y2).2) (fun u => lm_at (dC, dI) classes [(cA, .int), (cZ, .boolean)] (va_A (mr_W cA cZ ad S) sz) (mr_W cA cZ ad u)) (va_A (mr_W cA cZ ad S) sz)) 0 0 (va_A (mr_W cA cZ ad S) sz) := by
  obtain ⟨⟨aso, axs, ato, ath, asi⟩, ⟨asr, anu, ach, aow, aar⟩, ⟨ais, aon, atw, awh, afi⟩, ⟨ase, afr, amo, ass, asp⟩, ⟨afo, aba, ano, aen, avs⟩, ⟨avo, avt, are, atd, ale⟩⟩ := S
  refine lm_met (fun A => va_Qi (fun (r : Int32) (u : ZNS) => r = (md_fails ((aso, axs, ato, ath, asi), (asr, anu, ach, aow, aar), (ais, aon, atw, awh, afi), (ase, afr, amo, ass, asp), (afo, aba, ano, aen, avs), (avo, avt, are, atd, ale)) y1 y2).1 ∧ u = (md_fails ((aso, axs, ato, ath, asi), (asr, anu, ach, aow, aar), (ais, aon, atw, awh, afi), (ase, afr, amo, ass, asp), (afo, aba, ano, aen, avs), (avo, avt, are, atd, ale)) y1 y2).2) (fun u => lm_at (dC, dI) classes [(cA, .int), (cZ, .boolean)] A (mr_W cA cZ ad u)) A) (by decide) rfl (Nat.le_of_ble_eq_true rfl) ?_
  intro p e s m below meth c A hx hb hr hts hown hlocks hname hml hK hP hD hA hE hsz hAe hS ls hl
  replace hl : lv_has ls 3 [(0, .ref (ad 0)), (1, .int y1), (2, .int y2)] := hl
  clear hAe hsz
  refine lv_aload_n hx hb d_Model_fails_0 rfl (lv_at hl 0 rfl) ?_
  refine lv_iload_n hx hb d_Model_fails_1 rfl (lv_at hl 1 rfl) ?_
  refine lv_if_eq hx hb d_Model_fails_2 rfl (fun h2 => ?_) (fun h2 => ?_)
  · refine lv_iload_n hx hb d_Model_fails_9 rfl (lv_at hl 2 rfl) ?_
    refine lv_if_eq hx hb d_Model_fails_10 rfl (fun h10 => ?_) (fun h10 => ?_)
    · refine lv_iconst (v := 0) hx hb d_Model_fails_17 (by decide) ?_
      refine va_put (D := (dC, dI)) (ci := 4) (v := .int 0) (ty := .int) (C := R_Model) (T := F_Model) (N := 30) hx hb hts (fun q hq => List.mem_cons_of_mem _ (i_Model q hq)) t_Model t_Model_ok n_Model hown hK hP hD hS 0 rfl rfl 0 (by decide) (hts _ (List.mem_cons_of_mem _ m_13_17)) (fun _ h9 => h9) rfl (by decide +kernel) rfl rfl (Nat.le_of_ble_eq_true rfl) d_Model_fails_18 (fun H locs hP hD hS => ?_)
      have hP : va_P (dC, dI) classes (mr_W cA cZ ad ((aso, axs, ato, 0, asi), (asr, anu, ach, aow, aar), (ais, aon, atw, awh, afi), (ase, afr, amo, ass, asp), (afo, aba, ano, aen, avs), (avo, avt, are, atd, ale))) H := hP
      have hD : va_D A (mr_W cA cZ ad ((aso, axs, ato, 0, asi), (asr, anu, ach, aow, aar), (ais, aon, atw, awh, afi), (ase, afr, amo, ass, asp), (afo, aba, ano, aen, avs), (avo, avt, are, atd, ale))) := hD
      refine lv_aload_n hx hb d_Model_fails_21 rfl (lv_at hl 0 rfl) ?_
      refine va_get (D := (dC, dI)) (ci := 4) (v := .int 0) (C := R_Model) (T := F_Model) (N := 30) hx hb hts (fun q hq => List.mem_cons_of_mem _ (i_Model q hq)) hown hK hP 0 rfl rfl 0 (by decide) (hts _ (List.mem_cons_of_mem _ m_13_17)) (fun _ h9 => h9) rfl d_Model_fails_22 ?_
      refine lv_if_le hx hb d_Model_fails_25 rfl (fun h25 => ?_) (fun h25 => by exact absurd h25 (by decide))
      refine lv_iconst (v := 0) hx hb d_Model_fails_32 (by decide) ?_
      refine lm_rz (v := 0) hx hb hr hlocks (by decide) ((aso, axs, ato, 0, asi), (asr, anu, ach, aow, aar), (ais, aon, atw, awh, afi), (ase, afr, amo, ass, asp), (afo, aba, ano, aen, avs), (avo, avt, are, atd, ale)) ?_ hP hK hD hS d_Model_fails_33
      unfold md_fails; (first | rw [if_pos h2] | rw [if_neg h2]); (first | rw [if_pos h10] | rw [if_neg h10]); exact ⟨rfl, rfl⟩
    · refine lv_iconst (v := 2) hx hb d_Model_fails_13 (by decide) ?_
      refine lv_goto hx hb d_Model_fails_14 rfl ?_
      refine va_put (D := (dC, dI)) (ci := 4) (v := .int 2) (ty := .int) (C := R_Model) (T := F_Model) (N := 30) hx hb hts (fun q hq => List.mem_cons_of_mem _ (i_Model q hq)) t_Model t_Model_ok n_Model hown hK hP hD hS 0 rfl rfl 0 (by decide) (hts _ (List.mem_cons_of_mem _ m_13_17)) (fun _ h9 => h9) rfl (by decide +kernel) rfl rfl (Nat.le_of_ble_eq_true rfl) d_Model_fails_18 (fun H locs hP hD hS => ?_)
      have hP : va_P (dC, dI) classes (mr_W cA cZ ad ((aso, axs, ato, 2, asi), (asr, anu, ach, aow, aar), (ais, aon, atw, awh, afi), (ase, afr, amo, ass, asp), (afo, aba, ano, aen, avs), (avo, avt, are, atd, ale))) H := hP
      have hD : va_D A (mr_W cA cZ ad ((aso, axs, ato, 2, asi), (asr, anu, ach, aow, aar), (ais, aon, atw, awh, afi), (ase, afr, amo, ass, asp), (afo, aba, ano, aen, avs), (avo, avt, are, atd, ale))) := hD
      refine lv_aload_n hx hb d_Model_fails_21 rfl (lv_at hl 0 rfl) ?_
      refine va_get (D := (dC, dI)) (ci := 4) (v := .int 2) (C := R_Model) (T := F_Model) (N := 30) hx hb hts (fun q hq => List.mem_cons_of_mem _ (i_Model q hq)) hown hK hP 0 rfl rfl 0 (by decide) (hts _ (List.mem_cons_of_mem _ m_13_17)) (fun _ h9 => h9) rfl d_Model_fails_22 ?_
      refine lv_if_le hx hb d_Model_fails_25 rfl (fun h25 => by exact absurd h25 (by decide)) (fun h25 => ?_)
      refine lv_iconst (v := 1) hx hb d_Model_fails_28 (by decide) ?_
      refine lv_goto hx hb d_Model_fails_29 rfl ?_
      refine lm_rz (v := 1) hx hb hr hlocks (by decide) ((aso, axs, ato, 2, asi), (asr, anu, ach, aow, aar), (ais, aon, atw, awh, afi), (ase, afr, amo, ass, asp), (afo, aba, ano, aen, avs), (avo, avt, are, atd, ale)) ?_ hP hK hD hS d_Model_fails_33
      unfold md_fails; (first | rw [if_pos h2] | rw [if_neg h2]); (first | rw [if_pos h10] | rw [if_neg h10]); exact ⟨rfl, rfl⟩
  · refine lv_iconst (v := 1) hx hb d_Model_fails_5 (by decide) ?_
    refine lv_goto hx hb d_Model_fails_6 rfl ?_
    refine va_put (D := (dC, dI)) (ci := 4) (v := .int 1) (ty := .int) (C := R_Model) (T := F_Model) (N := 30) hx hb hts (fun q hq => List.mem_cons_of_mem _ (i_Model q hq)) t_Model t_Model_ok n_Model hown hK hP hD hS 0 rfl rfl 0 (by decide) (hts _ (List.mem_cons_of_mem _ m_13_17)) (fun _ h9 => h9) rfl (by decide +kernel) rfl rfl (Nat.le_of_ble_eq_true rfl) d_Model_fails_18 (fun H locs hP hD hS => ?_)
    have hP : va_P (dC, dI) classes (mr_W cA cZ ad ((aso, axs, ato, 1, asi), (asr, anu, ach, aow, aar), (ais, aon, atw, awh, afi), (ase, afr, amo, ass, asp), (afo, aba, ano, aen, avs), (avo, avt, are, atd, ale))) H := hP
    have hD : va_D A (mr_W cA cZ ad ((aso, axs, ato, 1, asi), (asr, anu, ach, aow, aar), (ais, aon, atw, awh, afi), (ase, afr, amo, ass, asp), (afo, aba, ano, aen, avs), (avo, avt, are, atd, ale))) := hD
    refine lv_aload_n hx hb d_Model_fails_21 rfl (lv_at hl 0 rfl) ?_
    refine va_get (D := (dC, dI)) (ci := 4) (v := .int 1) (C := R_Model) (T := F_Model) (N := 30) hx hb hts (fun q hq => List.mem_cons_of_mem _ (i_Model q hq)) hown hK hP 0 rfl rfl 0 (by decide) (hts _ (List.mem_cons_of_mem _ m_13_17)) (fun _ h9 => h9) rfl d_Model_fails_22 ?_
    refine lv_if_le hx hb d_Model_fails_25 rfl (fun h25 => by exact absurd h25 (by decide)) (fun h25 => ?_)
    refine lv_iconst (v := 1) hx hb d_Model_fails_28 (by decide) ?_
    refine lv_goto hx hb d_Model_fails_29 rfl ?_
    refine lm_rz (v := 1) hx hb hr hlocks (by decide) ((aso, axs, ato, 1, asi), (asr, anu, ach, aow, aar), (ais, aon, atw, awh, afi), (ase, afr, amo, ass, asp), (afo, aba, ano, aen, avs), (avo, avt, are, atd, ale)) ?_ hP hK hD hS d_Model_fails_33
    unfold md_fails; (first | rw [if_pos h2] | rw [if_neg h2]); exact ⟨rfl, rfl⟩
set_option maxHeartbeats 4000000 in
set_option maxRecDepth 100000 in
theorem c_Model_many (l : Launch) (dC : Nat → ClassId) (dI : Nat → Nat → Nat) (cA cZ : ClassId)   (sz : Nat)  (y1 : Int32)  : Met l y_Model_many w_Model_many ({ frames := 0, cells := 0, slots := 0, locals := 0 } : Room) (va_Pc [.int y1] (lm_pre (dC, dI) classes [(cA, .int), (cZ, .boolean)] (([] : va_W)) sz lm_no)) (va_Qi (fun (r : Int32) (u : Unit) => r = md_many y1 ∧ u = ()) (fun u => lm_at (dC, dI) classes [(cA, .int), (cZ, .boolean)] (va_A (([] : va_W)) sz) (([] : va_W))) (va_A (([] : va_W)) sz)) 0 0 (va_A (([] : va_W)) sz) := by
  refine lm_met (fun A => va_Qi (fun (r : Int32) (u : Unit) => r = md_many y1 ∧ u = ()) (fun u => lm_at (dC, dI) classes [(cA, .int), (cZ, .boolean)] A (([] : va_W))) A) (by decide) rfl (Nat.le_of_ble_eq_true rfl) ?_
  intro p e s m below meth c A hx hb hr hts hown hlocks hname hml hK hP hD hA hE hsz hAe hS ls hl
  replace hl : lv_has ls 1 [(0, .int y1)] := hl
  clear hAe hsz
  refine lv_iload_n hx hb d_Model_many_0 rfl (lv_at hl 0 rfl) ?_
  refine lv_if_eq hx hb d_Model_many_1 rfl (fun h1 => ?_) (fun h1 => ?_)
  · refine lv_iconst (v := 0) hx hb d_Model_many_9 (by decide) ?_
    refine lm_ri (v := 0) hx hb hr hlocks () ?_ hP hK hD hS d_Model_many_10
    unfold md_many; (first | rw [if_pos h1] | rw [if_neg h1]); exact ⟨rfl, rfl⟩
  · refine lv_iload_n hx hb d_Model_many_4 rfl (lv_at hl 0 rfl) ?_
    refine lv_iconst (v := 3) hx hb d_Model_many_5 (by decide) ?_
    refine lv_icmp_ne hx hb d_Model_many_6 rfl (fun h6 => ?_) (fun h6 => ?_)
    · refine lv_iload_n hx hb d_Model_many_11 rfl (lv_at hl 0 rfl) ?_
      refine lv_iconst (v := 1) hx hb d_Model_many_12 (by decide) ?_
      refine lv_icmp_eq hx hb d_Model_many_13 rfl (fun h13 => ?_) (fun h13 => ?_)
      · refine lv_iconst (v := 1) hx hb d_Model_many_28 (by decide) ?_
        refine lm_ri (v := 1) hx hb hr hlocks () ?_ hP hK hD hS d_Model_many_29
        unfold md_many; (first | rw [if_pos h1] | rw [if_neg h1]); (first | rw [if_pos h6] | rw [if_neg h6]); (first | rw [if_pos h13] | rw [if_neg h13]); exact ⟨rfl, rfl⟩
      · refine lv_iload_n hx hb d_Model_many_16 rfl (lv_at hl 0 rfl) ?_
        refine lv_bipush (v := 9) hx hb d_Model_many_17 (by decide) ?_
        refine lv_icmp_eq hx hb d_Model_many_19 rfl (fun h19 => ?_) (fun h19 => ?_)
        · refine lv_iconst (v := 1) hx hb d_Model_many_28 (by decide) ?_
          refine lm_ri (v := 1) hx hb hr hlocks () ?_ hP hK hD hS d_Model_many_29
          unfold md_many; (first | rw [if_pos h1] | rw [if_neg h1]); (first | rw [if_pos h6] | rw [if_neg h6]); (first | rw [if_pos h13] | rw [if_neg h13]); (first | rw [if_pos h19] | rw [if_neg h19]); exact ⟨rfl, rfl⟩
        · refine lv_iload_n hx hb d_Model_many_22 rfl (lv_at hl 0 rfl) ?_
          refine lv_bipush (v := 11) hx hb d_Model_many_23 (by decide) ?_
          refine lv_icmp_le hx hb d_Model_many_25 rfl (fun h25 => ?_) (fun h25 => ?_)
          · refine lv_iload_n hx hb d_Model_many_30 rfl (lv_at hl 0 rfl) ?_
            refine lv_bipush (v := 8) hx hb d_Model_many_31 (by decide) ?_
            refine lv_icmp_ne hx hb d_Model_many_33 rfl (fun h33 => ?_) (fun h33 => ?_)
            · refine lv_iconst (v := 2) hx hb d_Model_many_40 (by decide) ?_
              refine lm_ri (v := 2) hx hb hr hlocks () ?_ hP hK hD hS d_Model_many_41
              unfold md_many; (first | rw [if_pos h1] | rw [if_neg h1]); (first | rw [if_pos h6] | rw [if_neg h6]); (first | rw [if_pos h13] | rw [if_neg h13]); (first | rw [if_pos h19] | rw [if_neg h19]); (first | rw [if_pos h25] | rw [if_neg h25]); (first | rw [if_pos h33] | rw [if_neg h33]); exact ⟨rfl, rfl⟩
            · refine lv_iconst (v := 3) hx hb d_Model_many_36 (by decide) ?_
              refine lv_goto hx hb d_Model_many_37 rfl ?_
              refine lm_ri (v := 3) hx hb hr hlocks () ?_ hP hK hD hS d_Model_many_41
              unfold md_many; (first | rw [if_pos h1] | rw [if_neg h1]); (first | rw [if_pos h6] | rw [if_neg h6]); (first | rw [if_pos h13] | rw [if_neg h13]); (first | rw [if_pos h19] | rw [if_neg h19]); (first | rw [if_pos h25] | rw [if_neg h25]); (first | rw [if_pos h33] | rw [if_neg h33]); exact ⟨rfl, rfl⟩
          · refine lv_iconst (v := 1) hx hb d_Model_many_28 (by decide) ?_
            refine lm_ri (v := 1) hx hb hr hlocks () ?_ hP hK hD hS d_Model_many_29
            unfold md_many; (first | rw [if_pos h1] | rw [if_neg h1]); (first | rw [if_pos h6] | rw [if_neg h6]); (first | rw [if_pos h13] | rw [if_neg h13]); (first | rw [if_pos h19] | rw [if_neg h19]); (first | rw [if_pos h25] | rw [if_neg h25]); exact ⟨rfl, rfl⟩
    · refine lv_iconst (v := 0) hx hb d_Model_many_9 (by decide) ?_
      refine lm_ri (v := 0) hx hb hr hlocks () ?_ hP hK hD hS d_Model_many_10
      unfold md_many; (first | rw [if_pos h1] | rw [if_neg h1]); (first | rw [if_pos h6] | rw [if_neg h6]); exact ⟨rfl, rfl⟩
set_option maxHeartbeats 4000000 in
set_option maxRecDepth 100000 in
theorem c_Model_meet (l : Launch) (dC : Nat → ClassId) (dI : Nat → Nat → Nat) (cA cZ : ClassId)  (ad : Nat → Nat) (sz : Nat) (S : ZNS) (x : Int32) (hx1 : md_c x) (hm : md_mk S) : Met l y_Model_meet w_Model_meet ({ frames := 0, cells := 0, slots := 0, locals := 0 } : Room) (va_Pc [.ref (ad 0), .int x] (lm_pre (dC, dI) classes [(cA, .int), (cZ, .boolean)] (mr_W cA cZ ad S) sz lm_no)) (va_Qv (fun (u : ZNS) => u = md_meet S x) (fun u => lm_at (dC, dI) classes [(cA, .int), (cZ, .boolean)] (va_A (mr_W cA cZ ad S) sz) (mr_W cA cZ ad u)) (va_A (mr_W cA cZ ad S) sz)) 0 0 (va_A (mr_W cA cZ ad S) sz) := by
  obtain ⟨⟨aso, axs, ato, ath, asi⟩, ⟨asr, anu, ach, aow, aar⟩, ⟨ais, aon, atw, awh, afi⟩, ⟨ase, afr, amo, ass, asp⟩, ⟨afo, aba, ano, aen, avs⟩, ⟨avo, avt, are, atd, ale⟩⟩ := S
  refine lm_met (fun A => va_Qv (fun (u : ZNS) => u = md_meet ((aso, axs, ato, ath, asi), (asr, anu, ach, aow, aar), (ais, aon, atw, awh, afi), (ase, afr, amo, ass, asp), (afo, aba, ano, aen, avs), (avo, avt, are, atd, ale)) x) (fun u => lm_at (dC, dI) classes [(cA, .int), (cZ, .boolean)] A (mr_W cA cZ ad u)) A) (by decide) rfl (Nat.le_of_ble_eq_true rfl) ?_
  intro p e s m below meth c A hx hb hr hts hown hlocks hname hml hK hP hD hA hE hsz hAe hS ls hl
  replace hl : lv_has ls 2 [(0, .ref (ad 0)), (1, .int x)] := hl
  clear hAe hsz
  refine lv_iload_n hx hb d_Model_meet_0 rfl (lv_at hl 1 rfl) ?_
  refine lv_if_lt hx hb d_Model_meet_1 rfl (fun h1 => ?_) (fun h1 => ?_)
  · refine lm_rv hx hb hr hlocks ((aso, axs, ato, ath, asi), (asr, anu, ach, aow, aar), (ais, aon, atw, awh, afi), (ase, afr, amo, ass, asp), (afo, aba, ano, aen, avs), (avo, avt, are, atd, ale)) ?_ hP hK hD hS d_Model_meet_13
    unfold md_meet; (first | rw [if_pos h1] | rw [if_neg h1])
  · refine lv_aload_n hx hb d_Model_meet_4 rfl (lv_at hl 0 rfl) ?_
    refine va_get (D := (dC, dI)) (ci := 4) (v := .ref (ad 11)) (C := R_Model) (T := F_Model) (N := 30) hx hb hts (fun q hq => List.mem_cons_of_mem _ (i_Model q hq)) hown hK hP 0 rfl rfl 13 (by decide) (hts _ (List.mem_cons_of_mem _ m_14_6)) (fun _ h9 => h9) rfl d_Model_meet_5 ?_
    refine lv_iload_n hx hb d_Model_meet_8 rfl (lv_at hl 1 rfl) ?_
    have hin : vp_in x 256 := by exact hx1.resolve_left h1
    refine va_zald (f := are) (n := 256) hx hb hK hP 11 1 rfl rfl hin d_Model_meet_9 ?_
    refine lv_if_eq hx hb d_Model_meet_10 rfl (fun h10 => ?_) (fun h10 => ?_)
    · refine lv_aload_n hx hb d_Model_meet_14 rfl (lv_at hl 0 rfl) ?_
      refine va_get (D := (dC, dI)) (ci := 4) (v := .ref (ad 11)) (C := R_Model) (T := F_Model) (N := 30) hx hb hts (fun q hq => List.mem_cons_of_mem _ (i_Model q hq)) hown hK hP 0 rfl rfl 13 (by decide) (hts _ (List.mem_cons_of_mem _ m_14_6)) (fun _ h9 => h9) rfl d_Model_meet_15 ?_
      refine lv_iload_n hx hb d_Model_meet_18 rfl (lv_at hl 1 rfl) ?_
      refine lv_iconst (v := 1) hx hb d_Model_meet_19 (by decide) ?_
      have hin : vp_in x 256 := by exact hx1.resolve_left h1
      refine va_zast (f := are) (n := 256) hx hb hK hP hD hS 11 1 rfl rfl hin d_Model_meet_20 (fun H locs hP hD hS => ?_)
      have hP : va_P (dC, dI) classes (mr_W cA cZ ad ((aso, axs, ato, ath, asi), (asr, anu, ach, aow, aar), (ais, aon, atw, awh, afi), (ase, afr, amo, ass, asp), (afo, aba, ano, aen, avs), (avo, avt, (upd are x.toNatClampNeg 1), atd, ale))) H := hP
      have hD : va_D A (mr_W cA cZ ad ((aso, axs, ato, ath, asi), (asr, anu, ach, aow, aar), (ais, aon, atw, awh, afi), (ase, afr, amo, ass, asp), (afo, aba, ano, aen, avs), (avo, avt, (upd are x.toNatClampNeg 1), atd, ale))) := hD
      refine lv_aload_n hx hb d_Model_meet_21 rfl (lv_at hl 0 rfl) ?_
      refine va_get (D := (dC, dI)) (ci := 4) (v := .ref (ad 12)) (C := R_Model) (T := F_Model) (N := 30) hx hb hts (fun q hq => List.mem_cons_of_mem _ (i_Model q hq)) hown hK hP 0 rfl rfl 14 (by decide) (hts _ (List.mem_cons_of_mem _ m_14_7)) (fun _ h9 => h9) rfl d_Model_meet_22 ?_
      refine lv_aload_n hx hb d_Model_meet_25 rfl (lv_at hl 0 rfl) ?_
      refine va_get (D := (dC, dI)) (ci := 4) (v := .int ale) (C := R_Model) (T := F_Model) (N := 30) hx hb hts (fun q hq => List.mem_cons_of_mem _ (i_Model q hq)) hown hK hP 0 rfl rfl 15 (by decide) (hts _ (List.mem_cons_of_mem _ m_14_8)) (fun _ h9 => h9) rfl d_Model_meet_26 ?_
      refine lv_iload_n hx hb d_Model_meet_29 rfl (lv_at hl 1 rfl) ?_
      have hin : vp_in ale 256 := by obtain ⟨k, hk, hrc⟩ := md_roomy hm (hx1.resolve_left h1) h10; rw [show ale = nI k from hrc]; exact vp_in_nI hk (by decide)
      refine va_iast (f := atd) (n := 256) hx hb hK hP hD hS 12 0 rfl rfl hin d_Model_meet_30 (fun H locs hP hD hS => ?_)
      have hP : va_P (dC, dI) classes (mr_W cA cZ ad ((aso, axs, ato, ath, asi), (asr, anu, ach, aow, aar), (ais, aon, atw, awh, afi), (ase, afr, amo, ass, asp), (afo, aba, ano, aen, avs), (avo, avt, (upd are x.toNatClampNeg 1), (upd atd ale.toNatClampNeg x), ale))) H := hP
      have hD : va_D A (mr_W cA cZ ad ((aso, axs, ato, ath, asi), (asr, anu, ach, aow, aar), (ais, aon, atw, awh, afi), (ase, afr, amo, ass, asp), (afo, aba, ano, aen, avs), (avo, avt, (upd are x.toNatClampNeg 1), (upd atd ale.toNatClampNeg x), ale))) := hD
      refine lv_aload_n hx hb d_Model_meet_31 rfl (lv_at hl 0 rfl) ?_
      refine lv_dup hx hb d_Model_meet_32 rfl ?_
      refine va_get (D := (dC, dI)) (ci := 4) (v := .int ale) (C := R_Model) (T := F_Model) (N := 30) hx hb hts (fun q hq => List.mem_cons_of_mem _ (i_Model q hq)) hown hK hP 0 rfl rfl 15 (by decide) (hts _ (List.mem_cons_of_mem _ m_14_8)) (fun _ h9 => h9) rfl d_Model_meet_33 ?_
      refine lv_iconst (v := 1) hx hb d_Model_meet_36 (by decide) ?_
      refine lv_iadd hx hb d_Model_meet_37 ?_
      refine va_put (D := (dC, dI)) (ci := 4) (v := .int (ale + 1)) (ty := .int) (C := R_Model) (T := F_Model) (N := 30) hx hb hts (fun q hq => List.mem_cons_of_mem _ (i_Model q hq)) t_Model t_Model_ok n_Model hown hK hP hD hS 0 rfl rfl 15 (by decide) (hts _ (List.mem_cons_of_mem _ m_14_8)) (fun _ h9 => h9) rfl (by decide +kernel) rfl rfl (Nat.le_of_ble_eq_true rfl) d_Model_meet_38 (fun H locs hP hD hS => ?_)
      have hP : va_P (dC, dI) classes (mr_W cA cZ ad ((aso, axs, ato, ath, asi), (asr, anu, ach, aow, aar), (ais, aon, atw, awh, afi), (ase, afr, amo, ass, asp), (afo, aba, ano, aen, avs), (avo, avt, (upd are x.toNatClampNeg 1), (upd atd ale.toNatClampNeg x), (ale + 1)))) H := hP
      have hD : va_D A (mr_W cA cZ ad ((aso, axs, ato, ath, asi), (asr, anu, ach, aow, aar), (ais, aon, atw, awh, afi), (ase, afr, amo, ass, asp), (afo, aba, ano, aen, avs), (avo, avt, (upd are x.toNatClampNeg 1), (upd atd ale.toNatClampNeg x), (ale + 1)))) := hD
      refine lm_rv hx hb hr hlocks ((aso, axs, ato, ath, asi), (asr, anu, ach, aow, aar), (ais, aon, atw, awh, afi), (ase, afr, amo, ass, asp), (afo, aba, ano, aen, avs), (avo, avt, (upd are x.toNatClampNeg 1), (upd atd ale.toNatClampNeg x), (ale + 1))) ?_ hP hK hD hS d_Model_meet_41
      unfold md_meet; (first | rw [if_pos h1] | rw [if_neg h1]); (first | rw [if_pos h10] | rw [if_neg h10]); rfl
    · refine lm_rv hx hb hr hlocks ((aso, axs, ato, ath, asi), (asr, anu, ach, aow, aar), (ais, aon, atw, awh, afi), (ase, afr, amo, ass, asp), (afo, aba, ano, aen, avs), (avo, avt, are, atd, ale)) ?_ hP hK hD hS d_Model_meet_13
      unfold md_meet; (first | rw [if_pos h1] | rw [if_neg h1]); (first | rw [if_pos h10] | rw [if_neg h10])
set_option maxHeartbeats 4000000 in
set_option maxRecDepth 100000 in
theorem c_Model_meetValue (l : Launch) (dC : Nat → ClassId) (dI : Nat → Nat → Nat) (cA cZ : ClassId)  (ad : Nat → Nat) (sz : Nat) (S : ZNS) (y1 y2 y3 : Int32) (hb1 : y1 = 2 → md_c y2) (hc1 : y1 = 1 ∨ y1 = 2 → md_c y3) (hm : md_mk S) : Met l y_Model_meetValue w_Model_meetValue ({ frames := 1, cells := 0, slots := 0, locals := 21 } : Room) (va_Pc [.ref (ad 0), .int y1, .int y2, .int y3] (lm_pre (dC, dI) classes [(cA, .int), (cZ, .boolean)] (mr_W cA cZ ad S) sz lm_no)) (va_Qv (fun (u : ZNS) => u = md_meetV S y1 y2 y3) (fun u => lm_at (dC, dI) classes [(cA, .int), (cZ, .boolean)] (va_A (mr_W cA cZ ad S) sz) (mr_W cA cZ ad u)) (va_A (mr_W cA cZ ad S) sz)) 0 0 (va_A (mr_W cA cZ ad S) sz) := by
  obtain ⟨⟨aso, axs, ato, ath, asi⟩, ⟨asr, anu, ach, aow, aar⟩, ⟨ais, aon, atw, awh, afi⟩, ⟨ase, afr, amo, ass, asp⟩, ⟨afo, aba, ano, aen, avs⟩, ⟨avo, avt, are, atd, ale⟩⟩ := S
  refine lm_met (fun A => va_Qv (fun (u : ZNS) => u = md_meetV ((aso, axs, ato, ath, asi), (asr, anu, ach, aow, aar), (ais, aon, atw, awh, afi), (ase, afr, amo, ass, asp), (afo, aba, ano, aen, avs), (avo, avt, are, atd, ale)) y1 y2 y3) (fun u => lm_at (dC, dI) classes [(cA, .int), (cZ, .boolean)] A (mr_W cA cZ ad u)) A) (by decide) rfl (Nat.le_of_ble_eq_true rfl) ?_
  intro p e s m below meth c A hx hb hr hts hown hlocks hname hml hK hP hD hA hE hsz hAe hS ls hl
  replace hl : lv_has ls 4 [(0, .ref (ad 0)), (1, .int y1), (2, .int y2), (3, .int y3)] := hl
  clear hAe hsz
  refine lv_iload_n hx hb d_Model_meetValue_0 rfl (lv_at hl 1 rfl) ?_
  refine lv_iconst (v := 1) hx hb d_Model_meetValue_1 (by decide) ?_
  refine lv_icmp_ne hx hb d_Model_meetValue_2 rfl (fun h2 => ?_) (fun h2 => ?_)
  · refine lv_iload_n hx hb d_Model_meetValue_10 rfl (lv_at hl 1 rfl) ?_
    refine lv_iconst (v := 2) hx hb d_Model_meetValue_11 (by decide) ?_
    refine lv_icmp_ne hx hb d_Model_meetValue_12 rfl (fun h12 => ?_) (fun h12 => ?_)
    · refine lm_rv hx hb hr hlocks ((aso, axs, ato, ath, asi), (asr, anu, ach, aow, aar), (ais, aon, atw, awh, afi), (ase, afr, amo, ass, asp), (afo, aba, ano, aen, avs), (avo, avt, are, atd, ale)) ?_ hP hK hD hS d_Model_meetValue_25
      unfold md_meetV md_mv1; (first | rw [if_pos h2] | rw [if_neg h2]); (first | rw [if_pos h12] | rw [if_neg h12])
    · refine lv_aload_n hx hb d_Model_meetValue_15 rfl (lv_at hl 0 rfl) ?_
      refine lv_iload_n hx hb d_Model_meetValue_16 rfl (lv_at hl 2 rfl) ?_
      refine lm_vv (b := ad 0) (As := [.int y2]) (rest := []) (wr := ([] : va_W)) ⟨hx, hb, hml, hown, hts⟩ hK hP hD hS hA [0, 1, 2, 3, 4, 5, 6, 7, 8, 9, 10, 11, 12, 13, 14, 15] [] rfl rfl (by decide) (by decide) (by decide) (c_Model_meet l dC dI cA cZ ad _ ((aso, axs, ato, ath, asi), (asr, anu, ach, aow, aar), (ais, aon, atw, awh, afi), (ase, afr, amo, ass, asp), (afo, aba, ano, aen, avs), (avo, avt, are, atd, ale)) y2 (by exact hb1 h12) (by first | exact hm | (rw [w7]; exact md_mk_meet hm (hc1 (Or.inl h2))))) (cwV 1 hts (lm_gV m_16_20 m_16_21 m_20_9 m_0_5 m_16_22) rfl rfl rfl (by decide +kernel) ⟨Nat.le_of_ble_eq_true rfl, Nat.le_of_ble_eq_true rfl⟩) (va_recv (q0 := 0) hK hP rfl rfl) lm_bl_no (fun _ _ _ => trivial) hl.1 rfl rfl (Nat.le_of_ble_eq_true rfl) d_Model_meetValue_17 ⟨Nat.le_of_ble_eq_true rfl, Nat.le_of_ble_eq_true rfl⟩ (fun u17 H locs w17 hP hD hS => ?_)
      have hP : va_P (dC, dI) classes (mr_W cA cZ ad u17) H := hP
      have hD : va_D A (mr_W cA cZ ad u17) := hD
      refine lv_aload_n hx hb d_Model_meetValue_20 rfl (lv_at hl 0 rfl) ?_
      refine lv_iload_n hx hb d_Model_meetValue_21 rfl (lv_at hl 3 rfl) ?_
      refine lm_vv (b := ad 0) (As := [.int y3]) (rest := []) (wr := ([] : va_W)) ⟨hx, hb, hml, hown, hts⟩ hK hP hD hS hA [0, 1, 2, 3, 4, 5, 6, 7, 8, 9, 10, 11, 12, 13, 14, 15] [] rfl rfl (by decide) (by decide) (by decide) (c_Model_meet l dC dI cA cZ ad _ u17 y3 (by exact hc1 (Or.inr h12)) (by rw [w17]; exact md_mk_meet (by first | exact hm | (rw [w7]; exact md_mk_meet hm (hc1 (Or.inl h2)))) (hb1 h12))) (cwV 1 hts (lm_gV m_16_20 m_16_21 m_20_9 m_0_5 m_16_22) rfl rfl rfl (by decide +kernel) ⟨Nat.le_of_ble_eq_true rfl, Nat.le_of_ble_eq_true rfl⟩) (va_recv (q0 := 0) hK hP rfl rfl) lm_bl_no (fun _ _ _ => trivial) hl.1 rfl rfl (Nat.le_of_ble_eq_true rfl) d_Model_meetValue_22 ⟨Nat.le_of_ble_eq_true rfl, Nat.le_of_ble_eq_true rfl⟩ (fun u22 H locs w22 hP hD hS => ?_)
      have hP : va_P (dC, dI) classes (mr_W cA cZ ad u22) H := hP
      have hD : va_D A (mr_W cA cZ ad u22) := hD
      refine lm_rv hx hb hr hlocks u22 ?_ hP hK hD hS d_Model_meetValue_25
      subst w17 w22; unfold md_meetV md_mv1; (first | rw [if_pos h2] | rw [if_neg h2]); (first | rw [if_pos h12] | rw [if_neg h12])
  · refine lv_aload_n hx hb d_Model_meetValue_5 rfl (lv_at hl 0 rfl) ?_
    refine lv_iload_n hx hb d_Model_meetValue_6 rfl (lv_at hl 3 rfl) ?_
    refine lm_vv (b := ad 0) (As := [.int y3]) (rest := []) (wr := ([] : va_W)) ⟨hx, hb, hml, hown, hts⟩ hK hP hD hS hA [0, 1, 2, 3, 4, 5, 6, 7, 8, 9, 10, 11, 12, 13, 14, 15] [] rfl rfl (by decide) (by decide) (by decide) (c_Model_meet l dC dI cA cZ ad _ ((aso, axs, ato, ath, asi), (asr, anu, ach, aow, aar), (ais, aon, atw, awh, afi), (ase, afr, amo, ass, asp), (afo, aba, ano, aen, avs), (avo, avt, are, atd, ale)) y3 (by exact hc1 (Or.inl h2)) (by exact hm)) (cwV 1 hts (lm_gV m_16_20 m_16_21 m_20_9 m_0_5 m_16_22) rfl rfl rfl (by decide +kernel) ⟨Nat.le_of_ble_eq_true rfl, Nat.le_of_ble_eq_true rfl⟩) (va_recv (q0 := 0) hK hP rfl rfl) lm_bl_no (fun _ _ _ => trivial) hl.1 rfl rfl (Nat.le_of_ble_eq_true rfl) d_Model_meetValue_7 ⟨Nat.le_of_ble_eq_true rfl, Nat.le_of_ble_eq_true rfl⟩ (fun u7 H locs w7 hP hD hS => ?_)
    have hP : va_P (dC, dI) classes (mr_W cA cZ ad u7) H := hP
    have hD : va_D A (mr_W cA cZ ad u7) := hD
    refine lv_iload_n hx hb d_Model_meetValue_10 rfl (lv_at hl 1 rfl) ?_
    refine lv_iconst (v := 2) hx hb d_Model_meetValue_11 (by decide) ?_
    refine lv_icmp_ne hx hb d_Model_meetValue_12 rfl (fun h12 => ?_) (fun h12 => ?_)
    · refine lm_rv hx hb hr hlocks u7 ?_ hP hK hD hS d_Model_meetValue_25
      subst w7; unfold md_meetV md_mv1; (first | rw [if_pos h2] | rw [if_neg h2]); (first | rw [if_pos h12] | rw [if_neg h12])
    · refine lv_aload_n hx hb d_Model_meetValue_15 rfl (lv_at hl 0 rfl) ?_
      refine lv_iload_n hx hb d_Model_meetValue_16 rfl (lv_at hl 2 rfl) ?_
      refine lm_vv (b := ad 0) (As := [.int y2]) (rest := []) (wr := ([] : va_W)) ⟨hx, hb, hml, hown, hts⟩ hK hP hD hS hA [0, 1, 2, 3, 4, 5, 6, 7, 8, 9, 10, 11, 12, 13, 14, 15] [] rfl rfl (by decide) (by decide) (by decide) (c_Model_meet l dC dI cA cZ ad _ u7 y2 (by exact hb1 h12) (by first | exact hm | (rw [w7]; exact md_mk_meet hm (hc1 (Or.inl h2))))) (cwV 1 hts (lm_gV m_16_20 m_16_21 m_20_9 m_0_5 m_16_22) rfl rfl rfl (by decide +kernel) ⟨Nat.le_of_ble_eq_true rfl, Nat.le_of_ble_eq_true rfl⟩) (va_recv (q0 := 0) hK hP rfl rfl) lm_bl_no (fun _ _ _ => trivial) hl.1 rfl rfl (Nat.le_of_ble_eq_true rfl) d_Model_meetValue_17 ⟨Nat.le_of_ble_eq_true rfl, Nat.le_of_ble_eq_true rfl⟩ (fun u17 H locs w17 hP hD hS => ?_)
      have hP : va_P (dC, dI) classes (mr_W cA cZ ad u17) H := hP
      have hD : va_D A (mr_W cA cZ ad u17) := hD
      refine lv_aload_n hx hb d_Model_meetValue_20 rfl (lv_at hl 0 rfl) ?_
      refine lv_iload_n hx hb d_Model_meetValue_21 rfl (lv_at hl 3 rfl) ?_
      refine lm_vv (b := ad 0) (As := [.int y3]) (rest := []) (wr := ([] : va_W)) ⟨hx, hb, hml, hown, hts⟩ hK hP hD hS hA [0, 1, 2, 3, 4, 5, 6, 7, 8, 9, 10, 11, 12, 13, 14, 15] [] rfl rfl (by decide) (by decide) (by decide) (c_Model_meet l dC dI cA cZ ad _ u17 y3 (by exact hc1 (Or.inr h12)) (by rw [w17]; exact md_mk_meet (by first | exact hm | (rw [w7]; exact md_mk_meet hm (hc1 (Or.inl h2)))) (hb1 h12))) (cwV 1 hts (lm_gV m_16_20 m_16_21 m_20_9 m_0_5 m_16_22) rfl rfl rfl (by decide +kernel) ⟨Nat.le_of_ble_eq_true rfl, Nat.le_of_ble_eq_true rfl⟩) (va_recv (q0 := 0) hK hP rfl rfl) lm_bl_no (fun _ _ _ => trivial) hl.1 rfl rfl (Nat.le_of_ble_eq_true rfl) d_Model_meetValue_22 ⟨Nat.le_of_ble_eq_true rfl, Nat.le_of_ble_eq_true rfl⟩ (fun u22 H locs w22 hP hD hS => ?_)
      have hP : va_P (dC, dI) classes (mr_W cA cZ ad u22) H := hP
      have hD : va_D A (mr_W cA cZ ad u22) := hD
      refine lm_rv hx hb hr hlocks u22 ?_ hP hK hD hS d_Model_meetValue_25
      subst w7 w17 w22; unfold md_meetV md_mv1; (first | rw [if_pos h2] | rw [if_neg h2]); (first | rw [if_pos h12] | rw [if_neg h12])
set_option maxHeartbeats 4000000 in
set_option maxRecDepth 100000 in
theorem c_Model_mark (l : Launch) (dC : Nat → ClassId) (dI : Nat → Nat → Nat) (cA cZ : ClassId)  (ad : Nat → Nat) (sz : Nat) (S : ZNS)  (hi : md_lo S) : Met l y_Model_mark w_Model_mark ({ frames := 2, cells := 0, slots := 0, locals := 44 } : Room) (va_Pc [.ref (ad 0)] (lm_pre (dC, dI) classes [(cA, .int), (cZ, .boolean)] (mr_W cA cZ ad S) sz lm_no)) (va_Qi (fun (r : Int32) (u : ZNS) => r = r_le (md_mark S) ∧ u = md_mark S) (fun u => lm_at (dC, dI) classes [(cA, .int), (cZ, .boolean)] (va_A (mr_W cA cZ ad S) sz) (mr_W cA cZ ad u)) (va_A (mr_W cA cZ ad S) sz)) 0 0 (va_A (mr_W cA cZ ad S) sz) := by
  obtain ⟨⟨aso, axs, ato, ath, asi⟩, ⟨asr, anu, ach, aow, aar⟩, ⟨ais, aon, atw, awh, afi⟩, ⟨ase, afr, amo, ass, asp⟩, ⟨afo, aba, ano, aen, avs⟩, ⟨avo, avt, are, atd, ale⟩⟩ := S
  obtain ⟨ho, hf, hro⟩ := hi
  obtain ⟨z, hz, hfr, hfc⟩ := id hf
  refine lm_met (fun A => va_Qi (fun (r : Int32) (u : ZNS) => r = r_le (md_mark ((aso, axs, ato, ath, asi), (asr, anu, ach, aow, aar), (ais, aon, atw, awh, afi), (ase, afr, amo, ass, asp), (afo, aba, ano, aen, avs), (avo, avt, are, atd, ale))) ∧ u = md_mark ((aso, axs, ato, ath, asi), (asr, anu, ach, aow, aar), (ais, aon, atw, awh, afi), (ase, afr, amo, ass, asp), (afo, aba, ano, aen, avs), (avo, avt, are, atd, ale))) (fun u => lm_at (dC, dI) classes [(cA, .int), (cZ, .boolean)] A (mr_W cA cZ ad u)) A) (by decide) rfl (Nat.le_of_ble_eq_true rfl) ?_
  intro p e s m below meth c A hx hb hr hts hown hlocks hname hml hK hP hD hA hE hsz hAe hS ls hl
  replace hl : lv_has ls 3 [(0, .ref (ad 0))] := hl
  clear hAe hsz
  refine lv_aload_n hx hb d_Model_mark_0 rfl (lv_at hl 0 rfl) ?_
  refine lv_iconst (v := 0) hx hb d_Model_mark_1 (by decide) ?_
  refine va_put (D := (dC, dI)) (ci := 4) (v := .int 0) (ty := .int) (C := R_Model) (T := F_Model) (N := 30) hx hb hts (fun q hq => List.mem_cons_of_mem _ (i_Model q hq)) t_Model t_Model_ok n_Model hown hK hP hD hS 0 rfl rfl 15 (by decide) (hts _ (List.mem_cons_of_mem _ m_14_8)) (fun _ h9 => h9) rfl (by decide +kernel) rfl rfl (Nat.le_of_ble_eq_true rfl) d_Model_mark_2 (fun H locs hP hD hS => ?_)
  have hP : va_P (dC, dI) classes (mr_W cA cZ ad ((aso, axs, ato, ath, asi), (asr, anu, ach, aow, aar), (ais, aon, atw, awh, afi), (ase, afr, amo, ass, asp), (afo, aba, ano, aen, avs), (avo, avt, are, atd, 0))) H := hP
  have hD : va_D A (mr_W cA cZ ad ((aso, axs, ato, ath, asi), (asr, anu, ach, aow, aar), (ais, aon, atw, awh, afi), (ase, afr, amo, ass, asp), (afo, aba, ano, aen, avs), (avo, avt, are, atd, 0))) := hD
  refine lv_iconst (v := 0) hx hb d_Model_mark_5 (by decide) ?_
  refine lv_istore_n (lv' := [(1, .int 0), (0, .ref (ad 0))]) hx hb d_Model_mark_6 rfl hl (by decide) rfl (fun ls hl => ?_)
  have loop : ∀ (fu : Nat) (k : Nat) (Z : ZNS) (ls : Array Slot) (H : Heap) (locs : List Loc), (k + fu = 256) → (md_clrN 256 0 (s_le ((aso, axs, ato, ath, asi), (asr, anu, ach, aow, aar), (ais, aon, atw, awh, afi), (ase, afr, amo, ass, asp), (afo, aba, ano, aen, avs), (avo, avt, are, atd, ale)) 0) = md_clrN fu k Z) → lv_has ls 3 [(1, .int (nI k)), (0, .ref (ad 0))] → va_P (dC, dI) classes (mr_W cA cZ ad Z) H → va_D A (mr_W cA cZ ad Z) → va_S A s.heap H locs → W p l e (headSpec w_Model_mark ({ frames := 2, cells := 0, slots := 0, locals := 44 } : Room)).room s m (List.toArray [.ref (ad 0)]) below meth c H locs 0 0 (MQ below (va_Qi (fun (r : Int32) (u : ZNS) => r = r_le (md_mark ((aso, axs, ato, ath, asi), (asr, anu, ach, aow, aar), (ais, aon, atw, awh, afi), (ase, afr, amo, ass, asp), (afo, aba, ano, aen, avs), (avo, avt, are, atd, ale))) ∧ u = md_mark ((aso, axs, ato, ath, asi), (asr, anu, ach, aow, aar), (ais, aon, atw, awh, afi), (ase, afr, amo, ass, asp), (afo, aba, ano, aen, avs), (avo, avt, are, atd, ale))) (fun u => lm_at (dC, dI) classes [(cA, .int), (cZ, .boolean)] A (mr_W cA cZ ad u)) A) (List.toArray [.ref (ad 0)]) s 0 0 A) (F0 m 7 ls []) := by
    intro fu
    induction fu with
    | zero => 
      intro k Z ls H locs hk hq hl hP hD hS
      refine lv_iload_n hx hb d_Model_mark_7 rfl (lv_at hl 0 rfl) ?_
      refine lv_sipush (v := 256) hx hb d_Model_mark_8 (by decide) ?_
      refine lv_icmp_ge hx hb d_Model_mark_11 rfl (fun h11 => ?_) (fun h11 => by exact absurd (show (256 : Int32) ≤ nI k from nI_le (a := 256) (by omega) (by omega)) h11)
      have hZ : md_clrN 256 0 (s_le ((aso, axs, ato, ath, asi), (asr, anu, ach, aow, aar), (ais, aon, atw, awh, afi), (ase, afr, amo, ass, asp), (afo, aba, ano, aen, avs), (avo, avt, are, atd, ale)) 0) = Z := by rw [hq, md_clrN]
      have heZ : md_eq Z ((aso, axs, ato, ath, asi), (asr, anu, ach, aow, aar), (ais, aon, atw, awh, afi), (ase, afr, amo, ass, asp), (afo, aba, ano, aen, avs), (avo, avt, are, atd, ale)) := by rw [← hZ]; exact md_eq_tr (md_eq_clrN 256 0 (s_le ((aso, axs, ato, ath, asi), (asr, anu, ach, aow, aar), (ais, aon, atw, awh, afi), (ase, afr, amo, ass, asp), (afo, aba, ano, aen, avs), (avo, avt, are, atd, ale)) 0)).1 (md_eq_le _ _)
      have hmZ : md_mk Z := md_mk_clr (by rw [← hZ]; exact (md_eq_clrN 256 0 (s_le ((aso, axs, ato, ath, asi), (asr, anu, ach, aow, aar), (ais, aon, atw, awh, afi), (ase, afr, amo, ass, asp), (afo, aba, ano, aen, avs), (avo, avt, are, atd, ale)) 0)).2)
      have hrZ : md_rok Z := md_rok_eq heZ hro
      refine lv_aload_n hx hb d_Model_mark_27 rfl (lv_at hl 1 rfl) ?_
      refine va_get (D := (dC, dI)) (ci := 4) (v := .int Z.2.2.2.2.1.2.1) (C := R_Model) (T := F_Model) (N := 30) hx hb hts (fun q hq => List.mem_cons_of_mem _ (i_Model q hq)) hown hK hP 0 rfl rfl 24 (by decide) (hts _ (List.mem_cons_of_mem _ m_14_17)) (fun _ h9 => h9) rfl d_Model_mark_28 ?_
      refine lv_if_ne hx hb d_Model_mark_31 rfl (fun h31 => ?_) (fun h31 => ?_)
      · refine lv_aload_n hx hb d_Model_mark_42 rfl (lv_at hl 1 rfl) ?_
        refine lv_aload_n hx hb d_Model_mark_43 rfl (lv_at hl 1 rfl) ?_
        refine va_get (D := (dC, dI)) (ci := 4) (v := .int Z.2.2.2.2.1.2.2.2.2) (C := R_Model) (T := F_Model) (N := 30) hx hb hts (fun q hq => List.mem_cons_of_mem _ (i_Model q hq)) hown hK hP 0 rfl rfl 27 (by decide) (hts _ (List.mem_cons_of_mem _ m_14_20)) (fun _ h9 => h9) rfl d_Model_mark_44 ?_
        refine lv_aload_n hx hb d_Model_mark_47 rfl (lv_at hl 1 rfl) ?_
        refine va_get (D := (dC, dI)) (ci := 4) (v := .int Z.2.2.2.2.2.1) (C := R_Model) (T := F_Model) (N := 30) hx hb hts (fun q hq => List.mem_cons_of_mem _ (i_Model q hq)) hown hK hP 0 rfl rfl 28 (by decide) (hts _ (List.mem_cons_of_mem _ m_14_21)) (fun _ h9 => h9) rfl d_Model_mark_48 ?_
        refine lv_aload_n hx hb d_Model_mark_51 rfl (lv_at hl 1 rfl) ?_
        refine va_get (D := (dC, dI)) (ci := 4) (v := .int Z.2.2.2.2.2.2.1) (C := R_Model) (T := F_Model) (N := 30) hx hb hts (fun q hq => List.mem_cons_of_mem _ (i_Model q hq)) hown hK hP 0 rfl rfl 29 (by decide) (hts _ (List.mem_cons_of_mem _ m_14_22)) (fun _ h9 => h9) rfl d_Model_mark_52 ?_
        refine lm_vv (b := ad 0) (As := [.int Z.2.2.2.2.1.2.2.2.2, .int Z.2.2.2.2.2.1, .int Z.2.2.2.2.2.2.1]) (rest := []) (wr := ([] : va_W)) ⟨hx, hb, hml, hown, hts⟩ hK hP hD hS hA [0, 1, 2, 3, 4, 5, 6, 7, 8, 9, 10, 11, 12, 13, 14, 15] [] rfl rfl (by decide) (by decide) (by decide) (c_Model_meetValue l dC dI cA cZ ad _ Z Z.2.2.2.2.1.2.2.2.2 Z.2.2.2.2.2.1 Z.2.2.2.2.2.2.1 (by exact (hrZ.1 (by first | exact Or.inl h31 | exact Or.inr h39)).1) (by exact (hrZ.1 (by first | exact Or.inl h31 | exact Or.inr h39)).2) (by exact hmZ)) (cwV 3 hts (lm_gV m_16_17 m_16_18 m_20_8 m_0_5 m_16_19) rfl rfl rfl (by decide +kernel) ⟨Nat.le_of_ble_eq_true rfl, Nat.le_of_ble_eq_true rfl⟩) (va_recv (q0 := 0) hK hP rfl rfl) lm_bl_no (fun _ _ _ => trivial) hl.1 rfl rfl (Nat.le_of_ble_eq_true rfl) d_Model_mark_55 ⟨Nat.le_of_ble_eq_true rfl, Nat.le_of_ble_eq_true rfl⟩ (fun u55 H locs w55 hP hD hS => ?_)
        have hP : va_P (dC, dI) classes (mr_W cA cZ ad u55) H := hP
        have hD : va_D A (mr_W cA cZ ad u55) := hD
        refine lv_goto hx hb d_Model_mark_58 rfl ?_
        have hroot : md_root Z = u55 := by
          unfold md_root; (first | rw [if_pos h31] | rw [if_neg h31]); exact w55.symm
        refine lv_iconst (v := 0) hx hb d_Model_mark_69 (by decide) ?_
        refine lv_istore_n (lv' := [(1, .int 0), (0, .ref (ad 0))]) hx hb d_Model_mark_70 rfl hl (by decide) rfl (fun ls hl => ?_)
        have loop : ∀ (fu : Nat) (k : Nat) (Y : ZNS) (ls : Array Slot) (H : Heap) (locs : List Loc), (k + fu = z) → (md_mk Y) → (md_eq Y ((aso, axs, ato, ath, asi), (asr, anu, ach, aow, aar), (ais, aon, atw, awh, afi), (ase, afr, amo, ass, asp), (afo, aba, ano, aen, avs), (avo, avt, are, atd, ale))) → (md_mark ((aso, axs, ato, ath, asi), (asr, anu, ach, aow, aar), (ais, aon, atw, awh, afi), (ase, afr, amo, ass, asp), (afo, aba, ano, aen, avs), (avo, avt, are, atd, ale)) = md_tdN 256 0 (md_frN fu k Y)) → lv_has ls 3 [(1, .int (nI k)), (0, .ref (ad 0))] → va_P (dC, dI) classes (mr_W cA cZ ad Y) H → va_D A (mr_W cA cZ ad Y) → va_S A s.heap H locs → W p l e (headSpec w_Model_mark ({ frames := 2, cells := 0, slots := 0, locals := 44 } : Room)).room s m (List.toArray [.ref (ad 0)]) below meth c H locs 0 0 (MQ below (va_Qi (fun (r : Int32) (u : ZNS) => r = r_le (md_mark ((aso, axs, ato, ath, asi), (asr, anu, ach, aow, aar), (ais, aon, atw, awh, afi), (ase, afr, amo, ass, asp), (afo, aba, ano, aen, avs), (avo, avt, are, atd, ale))) ∧ u = md_mark ((aso, axs, ato, ath, asi), (asr, anu, ach, aow, aar), (ais, aon, atw, awh, afi), (ase, afr, amo, ass, asp), (afo, aba, ano, aen, avs), (avo, avt, are, atd, ale))) (fun u => lm_at (dC, dI) classes [(cA, .int), (cZ, .boolean)] A (mr_W cA cZ ad u)) A) (List.toArray [.ref (ad 0)]) s 0 0 A) (F0 m 71 ls []) := by
          intro fu
          induction fu with
          | zero => 
            intro k Y ls H locs hk hmY heY hqY hl hP hD hS
            have hfy : Y.2.2.2.1.2.1 = nI z := ((md_wh_eq heY).2.2.2).trans hfr
            have hfY : ∀ j, j < z → (r_wh Y j = 0 ∨ r_wh Y j = 1 → md_c (r_fi Y j)) ∧ (r_wh Y j = 2 ∨ r_wh Y j = 4 → md_c (r_se Y j)) := by
              rw [(md_wh_eq heY).1, (md_wh_eq heY).2.1, (md_wh_eq heY).2.2.1]; exact hfc
            refine lv_iload_n hx hb d_Model_mark_71 rfl (lv_at hl 0 rfl) ?_
            refine lv_aload_n hx hb d_Model_mark_72 rfl (lv_at hl 1 rfl) ?_
            refine va_get (D := (dC, dI)) (ci := 4) (v := .int Y.2.2.2.1.2.1) (C := R_Model) (T := F_Model) (N := 30) hx hb hts (fun q hq => List.mem_cons_of_mem _ (i_Model q hq)) hown hK hP 0 rfl rfl 19 (by decide) (hts _ (List.mem_cons_of_mem _ m_14_12)) (fun _ h9 => h9) rfl d_Model_mark_73 ?_
            refine lv_icmp_ge hx hb d_Model_mark_76 rfl (fun h76 => ?_) (fun h76 => by exact absurd (by rw [hfy]; exact nI_le (by omega) (by omega)) h76)
            refine lv_iconst (v := 0) hx hb d_Model_mark_144 (by decide) ?_
            refine lv_istore_n (lv' := [(1, .int 0), (0, .ref (ad 0))]) hx hb d_Model_mark_145 rfl hl (by decide) rfl (fun ls hl => ?_)
            have loop : ∀ (fu : Nat) (k : Nat) (X : ZNS) (ls : Array Slot) (H : Heap) (locs : List Loc), (k + fu = 256) → (md_mk X) → (md_ok X) → (md_mark ((aso, axs, ato, ath, asi), (asr, anu, ach, aow, aar), (ais, aon, atw, awh, afi), (ase, afr, amo, ass, asp), (afo, aba, ano, aen, avs), (avo, avt, are, atd, ale)) = md_tdN fu k X) → lv_has ls 3 [(1, .int (nI k)), (0, .ref (ad 0))] → va_P (dC, dI) classes (mr_W cA cZ ad X) H → va_D A (mr_W cA cZ ad X) → va_S A s.heap H locs → W p l e (headSpec w_Model_mark ({ frames := 2, cells := 0, slots := 0, locals := 44 } : Room)).room s m (List.toArray [.ref (ad 0)]) below meth c H locs 0 0 (MQ below (va_Qi (fun (r : Int32) (u : ZNS) => r = r_le (md_mark ((aso, axs, ato, ath, asi), (asr, anu, ach, aow, aar), (ais, aon, atw, awh, afi), (ase, afr, amo, ass, asp), (afo, aba, ano, aen, avs), (avo, avt, are, atd, ale))) ∧ u = md_mark ((aso, axs, ato, ath, asi), (asr, anu, ach, aow, aar), (ais, aon, atw, awh, afi), (ase, afr, amo, ass, asp), (afo, aba, ano, aen, avs), (avo, avt, are, atd, ale))) (fun u => lm_at (dC, dI) classes [(cA, .int), (cZ, .boolean)] A (mr_W cA cZ ad u)) A) (List.toArray [.ref (ad 0)]) s 0 0 A) (F0 m 146 ls []) := by
              intro fu
              induction fu with
              | zero => 
                intro k X ls H locs hk hmX hoX hqX hl hP hD hS
                refine lv_iload_n hx hb d_Model_mark_146 rfl (lv_at hl 0 rfl) ?_
                refine lv_aload_n hx hb d_Model_mark_147 rfl (lv_at hl 1 rfl) ?_
                refine va_get (D := (dC, dI)) (ci := 4) (v := .int X.2.2.2.2.2.2.2.2.2) (C := R_Model) (T := F_Model) (N := 30) hx hb hts (fun q hq => List.mem_cons_of_mem _ (i_Model q hq)) hown hK hP 0 rfl rfl 15 (by decide) (hts _ (List.mem_cons_of_mem _ m_14_8)) (fun _ h9 => h9) rfl d_Model_mark_148 ?_
                refine lv_icmp_ge hx hb d_Model_mark_151 rfl (fun h151 => ?_) (fun h151 => by obtain ⟨n, hn, hle, _⟩ := hmX; exact absurd (by rw [show X.2.2.2.2.2.2.2.2.2 = nI n from hle]; exact nI_le (by omega) (by omega)) h151)
                refine lv_aload_n hx hb d_Model_mark_245 rfl (lv_at hl 1 rfl) ?_
                refine va_get (D := (dC, dI)) (ci := 4) (v := .int X.2.2.2.2.2.2.2.2.2) (C := R_Model) (T := F_Model) (N := 30) hx hb hts (fun q hq => List.mem_cons_of_mem _ (i_Model q hq)) hown hK hP 0 rfl rfl 15 (by decide) (hts _ (List.mem_cons_of_mem _ m_14_8)) (fun _ h9 => h9) rfl d_Model_mark_246 ?_
                refine lm_ri (v := X.2.2.2.2.2.2.2.2.2) hx hb hr hlocks X ?_ hP hK hD hS d_Model_mark_249
                rw [hqX, md_tdN]; first | exact ⟨rfl, rfl⟩ | (rw [if_pos h151]; exact ⟨rfl, rfl⟩)
              | succ fu ih => 
                intro k X ls H locs hk hmX hoX hqX hl hP hD hS
                refine lv_iload_n hx hb d_Model_mark_146 rfl (lv_at hl 0 rfl) ?_
                refine lv_aload_n hx hb d_Model_mark_147 rfl (lv_at hl 1 rfl) ?_
                refine va_get (D := (dC, dI)) (ci := 4) (v := .int X.2.2.2.2.2.2.2.2.2) (C := R_Model) (T := F_Model) (N := 30) hx hb hts (fun q hq => List.mem_cons_of_mem _ (i_Model q hq)) hown hK hP 0 rfl rfl 15 (by decide) (hts _ (List.mem_cons_of_mem _ m_14_8)) (fun _ h9 => h9) rfl d_Model_mark_148 ?_
                refine lv_icmp_ge hx hb d_Model_mark_151 rfl (fun h151 => ?_) (fun h151 => ?_)
                · refine lv_aload_n hx hb d_Model_mark_245 rfl (lv_at hl 1 rfl) ?_
                  refine va_get (D := (dC, dI)) (ci := 4) (v := .int X.2.2.2.2.2.2.2.2.2) (C := R_Model) (T := F_Model) (N := 30) hx hb hts (fun q hq => List.mem_cons_of_mem _ (i_Model q hq)) hown hK hP 0 rfl rfl 15 (by decide) (hts _ (List.mem_cons_of_mem _ m_14_8)) (fun _ h9 => h9) rfl d_Model_mark_246 ?_
                  refine lm_ri (v := X.2.2.2.2.2.2.2.2.2) hx hb hr hlocks X ?_ hP hK hD hS d_Model_mark_249
                  rw [hqX, md_tdN]; first | exact ⟨rfl, rfl⟩ | (rw [if_pos h151]; exact ⟨rfl, rfl⟩)
                · refine lv_aload_n hx hb d_Model_mark_154 rfl (lv_at hl 1 rfl) ?_
                  refine va_get (D := (dC, dI)) (ci := 4) (v := .ref (ad 12)) (C := R_Model) (T := F_Model) (N := 30) hx hb hts (fun q hq => List.mem_cons_of_mem _ (i_Model q hq)) hown hK hP 0 rfl rfl 14 (by decide) (hts _ (List.mem_cons_of_mem _ m_14_7)) (fun _ h9 => h9) rfl d_Model_mark_155 ?_
                  refine lv_iload_n hx hb d_Model_mark_158 rfl (lv_at hl 0 rfl) ?_
                  have hin : vp_in (nI k) 256 := by first | assumption | exact vp_in_nI (by omega) (by decide)
                  refine va_iald (f := X.2.2.2.2.2.2.2.2.1) (n := 256) hx hb hK hP 12 0 rfl rfl hin d_Model_mark_159 ?_
                  rw [nI_clamp (show k < 2 ^ 31 by omega)]
                  refine lv_istore_n (lv' := [(2, .int (X.2.2.2.2.2.2.2.2.1 k)), (1, .int (nI k)), (0, .ref (ad 0))]) hx hb d_Model_mark_160 rfl hl (by decide) rfl (fun ls hl => ?_)
                  have hin0 : vp_in (r_td X k) 256 := by
                    obtain ⟨n, hn, hrc, hre, _⟩ := hmX
                    exact (hre k (by
                      rcases Nat.lt_or_ge k n with h9 | h9
                      · exact h9
                      · exact absurd (by show r_le X ≤ nI k; rw [hrc]; exact nI_le h9 (by omega)) h151)).1
                  have hj0 := hp_in_lt hin0 (by decide)
                  refine lv_aload_n hx hb d_Model_mark_161 rfl (lv_at hl 2 rfl) ?_
                  refine va_get (D := (dC, dI)) (ci := 4) (v := .ref (ad 8)) (C := R_Model) (T := F_Model) (N := 30) hx hb hts (fun q hq => List.mem_cons_of_mem _ (i_Model q hq)) hown hK hP 0 rfl rfl 10 (by decide) (hts _ (List.mem_cons_of_mem _ m_14_3)) (fun _ h9 => h9) rfl d_Model_mark_162 ?_
                  refine lv_iload_n hx hb d_Model_mark_165 rfl (lv_at hl 0 rfl) ?_
                  have hin : vp_in (X.2.2.2.2.2.2.2.2.1 k) 256 := by exact hin0
                  refine va_iald (f := X.2.2.1.1) (n := 256) hx hb hK hP 8 0 rfl rfl hin d_Model_mark_166 ?_
                  refine lv_iconst (v := 5) hx hb d_Model_mark_167 (by decide) ?_
                  refine lv_icmp_ne hx hb d_Model_mark_168 rfl (fun h168 => ?_) (fun h168 => ?_)
                  · refine lv_aload_n hx hb d_Model_mark_194 rfl (lv_at hl 2 rfl) ?_
                    refine va_get (D := (dC, dI)) (ci := 4) (v := .ref (ad 8)) (C := R_Model) (T := F_Model) (N := 30) hx hb hts (fun q hq => List.mem_cons_of_mem _ (i_Model q hq)) hown hK hP 0 rfl rfl 10 (by decide) (hts _ (List.mem_cons_of_mem _ m_14_3)) (fun _ h9 => h9) rfl d_Model_mark_195 ?_
                    refine lv_iload_n hx hb d_Model_mark_198 rfl (lv_at hl 0 rfl) ?_
                    have hin : vp_in (X.2.2.2.2.2.2.2.2.1 k) 256 := by exact hin0
                    refine va_iald (f := X.2.2.1.1) (n := 256) hx hb hK hP 8 0 rfl rfl hin d_Model_mark_199 ?_
                    refine lv_iconst (v := 3) hx hb d_Model_mark_200 (by decide) ?_
                    refine lv_icmp_ne hx hb d_Model_mark_201 rfl (fun h201 => ?_) (fun h201 => ?_)
                    · refine lv_aload_n hx hb d_Model_mark_217 rfl (lv_at hl 2 rfl) ?_
                      refine lv_aload_n hx hb d_Model_mark_218 rfl (lv_at hl 2 rfl) ?_
                      refine va_get (D := (dC, dI)) (ci := 4) (v := .ref (ad 8)) (C := R_Model) (T := F_Model) (N := 30) hx hb hts (fun q hq => List.mem_cons_of_mem _ (i_Model q hq)) hown hK hP 0 rfl rfl 10 (by decide) (hts _ (List.mem_cons_of_mem _ m_14_3)) (fun _ h9 => h9) rfl d_Model_mark_219 ?_
                      refine lv_iload_n hx hb d_Model_mark_222 rfl (lv_at hl 0 rfl) ?_
                      have hin : vp_in (X.2.2.2.2.2.2.2.2.1 k) 256 := by exact hin0
                      refine va_iald (f := X.2.2.1.1) (n := 256) hx hb hK hP 8 0 rfl rfl hin d_Model_mark_223 ?_
                      refine lv_aload_n hx hb d_Model_mark_224 rfl (lv_at hl 2 rfl) ?_
                      refine va_get (D := (dC, dI)) (ci := 4) (v := .ref (ad 9)) (C := R_Model) (T := F_Model) (N := 30) hx hb hts (fun q hq => List.mem_cons_of_mem _ (i_Model q hq)) hown hK hP 0 rfl rfl 11 (by decide) (hts _ (List.mem_cons_of_mem _ m_14_4)) (fun _ h9 => h9) rfl d_Model_mark_225 ?_
                      refine lv_iload_n hx hb d_Model_mark_228 rfl (lv_at hl 0 rfl) ?_
                      have hin : vp_in (X.2.2.2.2.2.2.2.2.1 k) 256 := by exact hin0
                      refine va_iald (f := X.2.2.1.2.1) (n := 256) hx hb hK hP 9 0 rfl rfl hin d_Model_mark_229 ?_
                      refine lv_aload_n hx hb d_Model_mark_230 rfl (lv_at hl 2 rfl) ?_
                      refine va_get (D := (dC, dI)) (ci := 4) (v := .ref (ad 10)) (C := R_Model) (T := F_Model) (N := 30) hx hb hts (fun q hq => List.mem_cons_of_mem _ (i_Model q hq)) hown hK hP 0 rfl rfl 12 (by decide) (hts _ (List.mem_cons_of_mem _ m_14_5)) (fun _ h9 => h9) rfl d_Model_mark_231 ?_
                      refine lv_iload_n hx hb d_Model_mark_234 rfl (lv_at hl 0 rfl) ?_
                      have hin : vp_in (X.2.2.2.2.2.2.2.2.1 k) 256 := by exact hin0
                      refine va_iald (f := X.2.2.1.2.2.1) (n := 256) hx hb hK hP 10 0 rfl rfl hin d_Model_mark_235 ?_
                      refine lm_vv (b := ad 0) (As := [.int (X.2.2.1.1 (X.2.2.2.2.2.2.2.2.1 k).toNatClampNeg), .int (X.2.2.1.2.1 (X.2.2.2.2.2.2.2.2.1 k).toNatClampNeg), .int (X.2.2.1.2.2.1 (X.2.2.2.2.2.2.2.2.1 k).toNatClampNeg)]) (rest := []) (wr := ([] : va_W)) ⟨hx, hb, hml, hown, hts⟩ hK hP hD hS hA [0, 1, 2, 3, 4, 5, 6, 7, 8, 9, 10, 11, 12, 13, 14, 15] [] rfl rfl (by decide) (by decide) (by decide) (c_Model_meetValue l dC dI cA cZ ad _ X (X.2.2.1.1 (X.2.2.2.2.2.2.2.2.1 k).toNatClampNeg) (X.2.2.1.2.1 (X.2.2.2.2.2.2.2.2.1 k).toNatClampNeg) (X.2.2.1.2.2.1 (X.2.2.2.2.2.2.2.2.1 k).toNatClampNeg) (by exact fun q => (hoX _ hj0).1 (Or.inr q)) (by exact fun _ => (hoX _ hj0).2) (by exact hmX)) (cwV 3 hts (lm_gV m_16_17 m_16_18 m_20_8 m_0_5 m_16_19) rfl rfl rfl (by decide +kernel) ⟨Nat.le_of_ble_eq_true rfl, Nat.le_of_ble_eq_true rfl⟩) (va_recv (q0 := 0) hK hP rfl rfl) lm_bl_no (fun _ _ _ => trivial) hl.1 rfl rfl (Nat.le_of_ble_eq_true rfl) d_Model_mark_236 ⟨Nat.le_of_ble_eq_true rfl, Nat.le_of_ble_eq_true rfl⟩ (fun u236 H locs w236 hP hD hS => ?_)
                      have hP : va_P (dC, dI) classes (mr_W cA cZ ad u236) H := hP
                      have hD : va_D A (mr_W cA cZ ad u236) := hD
                      refine lv_iinc (k := 1) (v := (nI (k + 1))) (lv' := [(1, .int (nI (k + 1))), (2, .int (X.2.2.2.2.2.2.2.2.1 k)), (0, .ref (ad 0))]) hx hb d_Model_mark_239 hl rfl ((nI_succ k).symm) (by decide) rfl (fun ls hl => ?_)
                      refine lv_goto hx hb d_Model_mark_242 rfl ?_
                      have hr1 : md_td1 X (r_td X k) = u236 := by
                        subst w236; unfold md_td1; (first | rw [if_pos h168] | rw [if_neg h168]); (first | rw [if_pos h201] | rw [if_neg h201]); try rfl
                      exact ih (k + 1) u236 _ _ _ (by omega) (by rw [← hr1]; exact md_mk_td1 hmX hoX hin0) (by rw [← hr1]; exact md_ok_eq (md_eq_td1 X _) hoX) (by rw [hqX, md_tdN, if_neg h151, hr1]) (lv_sub hl [0, 2] rfl) hP hD hS
                    · refine lv_aload_n hx hb d_Model_mark_204 rfl (lv_at hl 2 rfl) ?_
                      refine lv_aload_n hx hb d_Model_mark_205 rfl (lv_at hl 2 rfl) ?_
                      refine va_get (D := (dC, dI)) (ci := 4) (v := .ref (ad 10)) (C := R_Model) (T := F_Model) (N := 30) hx hb hts (fun q hq => List.mem_cons_of_mem _ (i_Model q hq)) hown hK hP 0 rfl rfl 12 (by decide) (hts _ (List.mem_cons_of_mem _ m_14_5)) (fun _ h9 => h9) rfl d_Model_mark_206 ?_
                      refine lv_iload_n hx hb d_Model_mark_209 rfl (lv_at hl 0 rfl) ?_
                      have hin : vp_in (X.2.2.2.2.2.2.2.2.1 k) 256 := by exact hin0
                      refine va_iald (f := X.2.2.1.2.2.1) (n := 256) hx hb hK hP 10 0 rfl rfl hin d_Model_mark_210 ?_
                      refine lm_vv (b := ad 0) (As := [.int (X.2.2.1.2.2.1 (X.2.2.2.2.2.2.2.2.1 k).toNatClampNeg)]) (rest := []) (wr := ([] : va_W)) ⟨hx, hb, hml, hown, hts⟩ hK hP hD hS hA [0, 1, 2, 3, 4, 5, 6, 7, 8, 9, 10, 11, 12, 13, 14, 15] [] rfl rfl (by decide) (by decide) (by decide) (c_Model_meet l dC dI cA cZ ad _ X (X.2.2.1.2.2.1 (X.2.2.2.2.2.2.2.2.1 k).toNatClampNeg) (by exact (hoX _ hj0).2) (by exact hmX)) (cwV 1 hts (lm_gV m_16_20 m_16_21 m_20_9 m_0_5 m_16_22) rfl rfl rfl (by decide +kernel) ⟨Nat.le_of_ble_eq_true rfl, Nat.le_of_ble_eq_true rfl⟩) (va_recv (q0 := 0) hK hP rfl rfl) lm_bl_no (fun _ _ _ => trivial) hl.1 rfl rfl (Nat.le_of_ble_eq_true rfl) d_Model_mark_211 ⟨Nat.le_of_ble_eq_true rfl, Nat.le_of_ble_eq_true rfl⟩ (fun u211 H locs w211 hP hD hS => ?_)
                      have hP : va_P (dC, dI) classes (mr_W cA cZ ad u211) H := hP
                      have hD : va_D A (mr_W cA cZ ad u211) := hD
                      refine lv_goto hx hb d_Model_mark_214 rfl ?_
                      refine lv_iinc (k := 1) (v := (nI (k + 1))) (lv' := [(1, .int (nI (k + 1))), (2, .int (X.2.2.2.2.2.2.2.2.1 k)), (0, .ref (ad 0))]) hx hb d_Model_mark_239 hl rfl ((nI_succ k).symm) (by decide) rfl (fun ls hl => ?_)
                      refine lv_goto hx hb d_Model_mark_242 rfl ?_
                      have hr1 : md_td1 X (r_td X k) = u211 := by
                        subst w211; unfold md_td1; (first | rw [if_pos h168] | rw [if_neg h168]); (first | rw [if_pos h201] | rw [if_neg h201]); try rfl
                      exact ih (k + 1) u211 _ _ _ (by omega) (by rw [← hr1]; exact md_mk_td1 hmX hoX hin0) (by rw [← hr1]; exact md_ok_eq (md_eq_td1 X _) hoX) (by rw [hqX, md_tdN, if_neg h151, hr1]) (lv_sub hl [0, 2] rfl) hP hD hS
                  · refine lv_aload_n hx hb d_Model_mark_171 rfl (lv_at hl 2 rfl) ?_
                    refine lv_aload_n hx hb d_Model_mark_172 rfl (lv_at hl 2 rfl) ?_
                    refine va_get (D := (dC, dI)) (ci := 4) (v := .ref (ad 9)) (C := R_Model) (T := F_Model) (N := 30) hx hb hts (fun q hq => List.mem_cons_of_mem _ (i_Model q hq)) hown hK hP 0 rfl rfl 11 (by decide) (hts _ (List.mem_cons_of_mem _ m_14_4)) (fun _ h9 => h9) rfl d_Model_mark_173 ?_
                    refine lv_iload_n hx hb d_Model_mark_176 rfl (lv_at hl 0 rfl) ?_
                    have hin : vp_in (X.2.2.2.2.2.2.2.2.1 k) 256 := by exact hin0
                    refine va_iald (f := X.2.2.1.2.1) (n := 256) hx hb hK hP 9 0 rfl rfl hin d_Model_mark_177 ?_
                    refine lm_vv (b := ad 0) (As := [.int (X.2.2.1.2.1 (X.2.2.2.2.2.2.2.2.1 k).toNatClampNeg)]) (rest := []) (wr := ([] : va_W)) ⟨hx, hb, hml, hown, hts⟩ hK hP hD hS hA [0, 1, 2, 3, 4, 5, 6, 7, 8, 9, 10, 11, 12, 13, 14, 15] [] rfl rfl (by decide) (by decide) (by decide) (c_Model_meet l dC dI cA cZ ad _ X (X.2.2.1.2.1 (X.2.2.2.2.2.2.2.2.1 k).toNatClampNeg) (by exact (hoX _ hj0).1 (Or.inl h168)) (by exact hmX)) (cwV 1 hts (lm_gV m_16_20 m_16_21 m_20_9 m_0_5 m_16_22) rfl rfl rfl (by decide +kernel) ⟨Nat.le_of_ble_eq_true rfl, Nat.le_of_ble_eq_true rfl⟩) (va_recv (q0 := 0) hK hP rfl rfl) lm_bl_no (fun _ _ _ => trivial) hl.1 rfl rfl (Nat.le_of_ble_eq_true rfl) d_Model_mark_178 ⟨Nat.le_of_ble_eq_true rfl, Nat.le_of_ble_eq_true rfl⟩ (fun u178 H locs w178 hP hD hS => ?_)
                    have hP : va_P (dC, dI) classes (mr_W cA cZ ad u178) H := hP
                    have hD : va_D A (mr_W cA cZ ad u178) := hD
                    refine lv_aload_n hx hb d_Model_mark_181 rfl (lv_at hl 2 rfl) ?_
                    refine lv_aload_n hx hb d_Model_mark_182 rfl (lv_at hl 2 rfl) ?_
                    refine va_get (D := (dC, dI)) (ci := 4) (v := .ref (ad 10)) (C := R_Model) (T := F_Model) (N := 30) hx hb hts (fun q hq => List.mem_cons_of_mem _ (i_Model q hq)) hown hK hP 0 rfl rfl 12 (by decide) (hts _ (List.mem_cons_of_mem _ m_14_5)) (fun _ h9 => h9) rfl d_Model_mark_183 ?_
                    refine lv_iload_n hx hb d_Model_mark_186 rfl (lv_at hl 0 rfl) ?_
                    have hin : vp_in (X.2.2.2.2.2.2.2.2.1 k) 256 := by exact hin0
                    refine va_iald (f := u178.2.2.1.2.2.1) (n := 256) hx hb hK hP 10 0 rfl rfl hin d_Model_mark_187 ?_
                    refine lm_vv (b := ad 0) (As := [.int (u178.2.2.1.2.2.1 (X.2.2.2.2.2.2.2.2.1 k).toNatClampNeg)]) (rest := []) (wr := ([] : va_W)) ⟨hx, hb, hml, hown, hts⟩ hK hP hD hS hA [0, 1, 2, 3, 4, 5, 6, 7, 8, 9, 10, 11, 12, 13, 14, 15] [] rfl rfl (by decide) (by decide) (by decide) (c_Model_meet l dC dI cA cZ ad _ u178 (u178.2.2.1.2.2.1 (X.2.2.2.2.2.2.2.2.1 k).toNatClampNeg) (by rw [w178]; exact (md_ok_eq (md_eq_meet X _) hoX _ hj0).2) (by rw [w178]; exact md_mk_meet hmX ((hoX _ hj0).1 (Or.inl h168)))) (cwV 1 hts (lm_gV m_16_20 m_16_21 m_20_9 m_0_5 m_16_22) rfl rfl rfl (by decide +kernel) ⟨Nat.le_of_ble_eq_true rfl, Nat.le_of_ble_eq_true rfl⟩) (va_recv (q0 := 0) hK hP rfl rfl) lm_bl_no (fun _ _ _ => trivial) hl.1 rfl rfl (Nat.le_of_ble_eq_true rfl) d_Model_mark_188 ⟨Nat.le_of_ble_eq_true rfl, Nat.le_of_ble_eq_true rfl⟩ (fun u188 H locs w188 hP hD hS => ?_)
                    have hP : va_P (dC, dI) classes (mr_W cA cZ ad u188) H := hP
                    have hD : va_D A (mr_W cA cZ ad u188) := hD
                    refine lv_goto hx hb d_Model_mark_191 rfl ?_
                    refine lv_iinc (k := 1) (v := (nI (k + 1))) (lv' := [(1, .int (nI (k + 1))), (2, .int (X.2.2.2.2.2.2.2.2.1 k)), (0, .ref (ad 0))]) hx hb d_Model_mark_239 hl rfl ((nI_succ k).symm) (by decide) rfl (fun ls hl => ?_)
                    refine lv_goto hx hb d_Model_mark_242 rfl ?_
                    have hr1 : md_td1 X (r_td X k) = u188 := by
                      subst w178 w188; unfold md_td1; (first | rw [if_pos h168] | rw [if_neg h168]); try rfl
                    exact ih (k + 1) u188 _ _ _ (by omega) (by rw [← hr1]; exact md_mk_td1 hmX hoX hin0) (by rw [← hr1]; exact md_ok_eq (md_eq_td1 X _) hoX) (by rw [hqX, md_tdN, if_neg h151, hr1]) (lv_sub hl [0, 2] rfl) hP hD hS
            exact loop 256 0 Y _ _ _ (by omega) (by exact hmY) (by exact md_ok_eq heY ho) (by rw [hqY, md_frN]) hl hP hD hS
          | succ fu ih => 
            intro k Y ls H locs hk hmY heY hqY hl hP hD hS
            have hfy : Y.2.2.2.1.2.1 = nI z := ((md_wh_eq heY).2.2.2).trans hfr
            have hfY : ∀ j, j < z → (r_wh Y j = 0 ∨ r_wh Y j = 1 → md_c (r_fi Y j)) ∧ (r_wh Y j = 2 ∨ r_wh Y j = 4 → md_c (r_se Y j)) := by
              rw [(md_wh_eq heY).1, (md_wh_eq heY).2.1, (md_wh_eq heY).2.2.1]; exact hfc
            refine lv_iload_n hx hb d_Model_mark_71 rfl (lv_at hl 0 rfl) ?_
            refine lv_aload_n hx hb d_Model_mark_72 rfl (lv_at hl 1 rfl) ?_
            refine va_get (D := (dC, dI)) (ci := 4) (v := .int Y.2.2.2.1.2.1) (C := R_Model) (T := F_Model) (N := 30) hx hb hts (fun q hq => List.mem_cons_of_mem _ (i_Model q hq)) hown hK hP 0 rfl rfl 19 (by decide) (hts _ (List.mem_cons_of_mem _ m_14_12)) (fun _ h9 => h9) rfl d_Model_mark_73 ?_
            refine lv_icmp_ge hx hb d_Model_mark_76 rfl (fun h76 => by exact absurd h76 (by rw [hfy]; exact nI_ge (by omega) (by omega))) (fun h76 => ?_)
            refine lv_aload_n hx hb d_Model_mark_79 rfl (lv_at hl 1 rfl) ?_
            refine va_get (D := (dC, dI)) (ci := 4) (v := .ref (ad 13)) (C := R_Model) (T := F_Model) (N := 30) hx hb hts (fun q hq => List.mem_cons_of_mem _ (i_Model q hq)) hown hK hP 0 rfl rfl 16 (by decide) (hts _ (List.mem_cons_of_mem _ m_14_9)) (fun _ h9 => h9) rfl d_Model_mark_80 ?_
            refine lv_iload_n hx hb d_Model_mark_83 rfl (lv_at hl 0 rfl) ?_
            have hin : vp_in (nI k) 200 := by first | assumption | exact vp_in_nI (by omega) (by decide)
            refine va_iald (f := Y.2.2.1.2.2.2.1) (n := 200) hx hb hK hP 13 0 rfl rfl hin d_Model_mark_84 ?_
            rw [nI_clamp (show k < 2 ^ 31 by omega)]
            refine lv_if_eq hx hb d_Model_mark_85 rfl (fun h85 => ?_) (fun h85 => ?_)
            · refine lv_aload_n hx hb d_Model_mark_98 rfl (lv_at hl 1 rfl) ?_
              refine lv_aload_n hx hb d_Model_mark_99 rfl (lv_at hl 1 rfl) ?_
              refine va_get (D := (dC, dI)) (ci := 4) (v := .ref (ad 14)) (C := R_Model) (T := F_Model) (N := 30) hx hb hts (fun q hq => List.mem_cons_of_mem _ (i_Model q hq)) hown hK hP 0 rfl rfl 17 (by decide) (hts _ (List.mem_cons_of_mem _ m_14_10)) (fun _ h9 => h9) rfl d_Model_mark_100 ?_
              refine lv_iload_n hx hb d_Model_mark_103 rfl (lv_at hl 0 rfl) ?_
              have hin : vp_in (nI k) 200 := by first | assumption | exact vp_in_nI (by omega) (by decide)
              refine va_iald (f := Y.2.2.1.2.2.2.2) (n := 200) hx hb hK hP 14 0 rfl rfl hin d_Model_mark_104 ?_
              rw [nI_clamp (show k < 2 ^ 31 by omega)]
              refine lm_vv (b := ad 0) (As := [.int (Y.2.2.1.2.2.2.2 k)]) (rest := []) (wr := ([] : va_W)) ⟨hx, hb, hml, hown, hts⟩ hK hP hD hS hA [0, 1, 2, 3, 4, 5, 6, 7, 8, 9, 10, 11, 12, 13, 14, 15] [] rfl rfl (by decide) (by decide) (by decide) (c_Model_meet l dC dI cA cZ ad _ Y (Y.2.2.1.2.2.2.2 k) (by exact (hfY k (by omega)).1 (by first | exact Or.inl h85 | exact Or.inr h95)) (by exact hmY)) (cwV 1 hts (lm_gV m_16_20 m_16_21 m_20_9 m_0_5 m_16_22) rfl rfl rfl (by decide +kernel) ⟨Nat.le_of_ble_eq_true rfl, Nat.le_of_ble_eq_true rfl⟩) (va_recv (q0 := 0) hK hP rfl rfl) lm_bl_no (fun _ _ _ => trivial) hl.1 rfl rfl (Nat.le_of_ble_eq_true rfl) d_Model_mark_105 ⟨Nat.le_of_ble_eq_true rfl, Nat.le_of_ble_eq_true rfl⟩ (fun u105 H locs w105 hP hD hS => ?_)
              have hP : va_P (dC, dI) classes (mr_W cA cZ ad u105) H := hP
              have hD : va_D A (mr_W cA cZ ad u105) := hD
              refine lv_aload_n hx hb d_Model_mark_108 rfl (lv_at hl 1 rfl) ?_
              refine va_get (D := (dC, dI)) (ci := 4) (v := .ref (ad 13)) (C := R_Model) (T := F_Model) (N := 30) hx hb hts (fun q hq => List.mem_cons_of_mem _ (i_Model q hq)) hown hK hP 0 rfl rfl 16 (by decide) (hts _ (List.mem_cons_of_mem _ m_14_9)) (fun _ h9 => h9) rfl d_Model_mark_109 ?_
              refine lv_iload_n hx hb d_Model_mark_112 rfl (lv_at hl 0 rfl) ?_
              have hin : vp_in (nI k) 200 := by first | assumption | exact vp_in_nI (by omega) (by decide)
              refine va_iald (f := u105.2.2.1.2.2.2.1) (n := 200) hx hb hK hP 13 0 rfl rfl hin d_Model_mark_113 ?_
              rw [nI_clamp (show k < 2 ^ 31 by omega)]
              refine lv_iconst (v := 2) hx hb d_Model_mark_114 (by decide) ?_
              refine lv_icmp_eq hx hb d_Model_mark_115 rfl (fun h115 => ?_) (fun h115 => ?_)
              · refine lv_aload_n hx hb d_Model_mark_128 rfl (lv_at hl 1 rfl) ?_
                refine lv_aload_n hx hb d_Model_mark_129 rfl (lv_at hl 1 rfl) ?_
                refine va_get (D := (dC, dI)) (ci := 4) (v := .ref (ad 15)) (C := R_Model) (T := F_Model) (N := 30) hx hb hts (fun q hq => List.mem_cons_of_mem _ (i_Model q hq)) hown hK hP 0 rfl rfl 18 (by decide) (hts _ (List.mem_cons_of_mem _ m_14_11)) (fun _ h9 => h9) rfl d_Model_mark_130 ?_
                refine lv_iload_n hx hb d_Model_mark_133 rfl (lv_at hl 0 rfl) ?_
                have hin : vp_in (nI k) 200 := by first | assumption | exact vp_in_nI (by omega) (by decide)
                refine va_iald (f := u105.2.2.2.1.1) (n := 200) hx hb hK hP 15 0 rfl rfl hin d_Model_mark_134 ?_
                rw [nI_clamp (show k < 2 ^ 31 by omega)]
                refine lm_vv (b := ad 0) (As := [.int (u105.2.2.2.1.1 k)]) (rest := []) (wr := ([] : va_W)) ⟨hx, hb, hml, hown, hts⟩ hK hP hD hS hA [0, 1, 2, 3, 4, 5, 6, 7, 8, 9, 10, 11, 12, 13, 14, 15] [] rfl rfl (by decide) (by decide) (by decide) (c_Model_meet l dC dI cA cZ ad _ u105 (u105.2.2.2.1.1 k) (by first | exact (hfY k (by omega)).2 (by first | exact Or.inl h115 | exact Or.inr h125) | (have q9 := md_wh_eq (md_eq_meet Y (r_fi Y k)); rw [← w105] at q9; rw [show u105.2.2.2.1.1 = r_se Y from q9.2.2.1]; refine (hfY k (by omega)).2 ?_; rw [← q9.1]; first | exact Or.inl h115 | exact Or.inr h125)) (by first | exact hmY | (rw [w105]; exact md_mk_meet hmY ((hfY k (by omega)).1 (by first | exact Or.inl h85 | exact Or.inr h95))))) (cwV 1 hts (lm_gV m_16_20 m_16_21 m_20_9 m_0_5 m_16_22) rfl rfl rfl (by decide +kernel) ⟨Nat.le_of_ble_eq_true rfl, Nat.le_of_ble_eq_true rfl⟩) (va_recv (q0 := 0) hK hP rfl rfl) lm_bl_no (fun _ _ _ => trivial) hl.1 rfl rfl (Nat.le_of_ble_eq_true rfl) d_Model_mark_135 ⟨Nat.le_of_ble_eq_true rfl, Nat.le_of_ble_eq_true rfl⟩ (fun u135 H locs w135 hP hD hS => ?_)
                have hP : va_P (dC, dI) classes (mr_W cA cZ ad u135) H := hP
                have hD : va_D A (mr_W cA cZ ad u135) := hD
                refine lv_iinc (k := 0) (v := (nI (k + 1))) (lv' := [(1, .int (nI (k + 1))), (0, .ref (ad 0))]) hx hb d_Model_mark_138 hl rfl ((nI_succ k).symm) (by decide) rfl (fun ls hl => ?_)
                refine lv_goto hx hb d_Model_mark_141 rfl ?_
                have hfa : md_fa Y k = u105 := by
                  unfold md_fa; (first | rw [if_pos h85] | rw [if_neg h85]); exact w105.symm
                have hfb : md_fb u105 k = u135 := by
                  unfold md_fb; (first | rw [if_pos h115] | rw [if_neg h115]); exact w135.symm
                have hr1 : md_fr1 Y k = u135 := by unfold md_fr1; rw [hfa, hfb]
                exact ih (k + 1) u135 _ _ _ (by omega) (by rw [← hr1]; exact md_mk_fb (md_mk_fa hmY (hfY k (by omega)).1) (by rw [(md_wh_eq (md_eq_fa Y k)).1, (md_wh_eq (md_eq_fa Y k)).2.2.1]; exact (hfY k (by omega)).2)) (by rw [← hr1]; exact md_eq_tr (md_eq_fr1 Y k) heY) (by rw [hqY, md_frN, hr1]) (lv_sub hl [0, 1] rfl) hP hD hS
              · refine lv_aload_n hx hb d_Model_mark_118 rfl (lv_at hl 1 rfl) ?_
                refine va_get (D := (dC, dI)) (ci := 4) (v := .ref (ad 13)) (C := R_Model) (T := F_Model) (N := 30) hx hb hts (fun q hq => List.mem_cons_of_mem _ (i_Model q hq)) hown hK hP 0 rfl rfl 16 (by decide) (hts _ (List.mem_cons_of_mem _ m_14_9)) (fun _ h9 => h9) rfl d_Model_mark_119 ?_
                refine lv_iload_n hx hb d_Model_mark_122 rfl (lv_at hl 0 rfl) ?_
                have hin : vp_in (nI k) 200 := by first | assumption | exact vp_in_nI (by omega) (by decide)
                refine va_iald (f := u105.2.2.1.2.2.2.1) (n := 200) hx hb hK hP 13 0 rfl rfl hin d_Model_mark_123 ?_
                rw [nI_clamp (show k < 2 ^ 31 by omega)]
                refine lv_iconst (v := 4) hx hb d_Model_mark_124 (by decide) ?_
                refine lv_icmp_ne hx hb d_Model_mark_125 rfl (fun h125 => ?_) (fun h125 => ?_)
                · refine lv_iinc (k := 0) (v := (nI (k + 1))) (lv' := [(1, .int (nI (k + 1))), (0, .ref (ad 0))]) hx hb d_Model_mark_138 hl rfl ((nI_succ k).symm) (by decide) rfl (fun ls hl => ?_)
                  refine lv_goto hx hb d_Model_mark_141 rfl ?_
                  have hfa : md_fa Y k = u105 := by
                    unfold md_fa; (first | rw [if_pos h85] | rw [if_neg h85]); exact w105.symm
                  have hfb : md_fb u105 k = u105 := by
                    unfold md_fb; (first | rw [if_pos h115] | rw [if_neg h115]); (first | rw [if_pos h125] | rw [if_neg h125])
                  have hr1 : md_fr1 Y k = u105 := by unfold md_fr1; rw [hfa, hfb]
                  exact ih (k + 1) u105 _ _ _ (by omega) (by rw [← hr1]; exact md_mk_fb (md_mk_fa hmY (hfY k (by omega)).1) (by rw [(md_wh_eq (md_eq_fa Y k)).1, (md_wh_eq (md_eq_fa Y k)).2.2.1]; exact (hfY k (by omega)).2)) (by rw [← hr1]; exact md_eq_tr (md_eq_fr1 Y k) heY) (by rw [hqY, md_frN, hr1]) (lv_sub hl [0, 1] rfl) hP hD hS
                · refine lv_aload_n hx hb d_Model_mark_128 rfl (lv_at hl 1 rfl) ?_
                  refine lv_aload_n hx hb d_Model_mark_129 rfl (lv_at hl 1 rfl) ?_
                  refine va_get (D := (dC, dI)) (ci := 4) (v := .ref (ad 15)) (C := R_Model) (T := F_Model) (N := 30) hx hb hts (fun q hq => List.mem_cons_of_mem _ (i_Model q hq)) hown hK hP 0 rfl rfl 18 (by decide) (hts _ (List.mem_cons_of_mem _ m_14_11)) (fun _ h9 => h9) rfl d_Model_mark_130 ?_
                  refine lv_iload_n hx hb d_Model_mark_133 rfl (lv_at hl 0 rfl) ?_
                  have hin : vp_in (nI k) 200 := by first | assumption | exact vp_in_nI (by omega) (by decide)
                  refine va_iald (f := u105.2.2.2.1.1) (n := 200) hx hb hK hP 15 0 rfl rfl hin d_Model_mark_134 ?_
                  rw [nI_clamp (show k < 2 ^ 31 by omega)]
                  refine lm_vv (b := ad 0) (As := [.int (u105.2.2.2.1.1 k)]) (rest := []) (wr := ([] : va_W)) ⟨hx, hb, hml, hown, hts⟩ hK hP hD hS hA [0, 1, 2, 3, 4, 5, 6, 7, 8, 9, 10, 11, 12, 13, 14, 15] [] rfl rfl (by decide) (by decide) (by decide) (c_Model_meet l dC dI cA cZ ad _ u105 (u105.2.2.2.1.1 k) (by first | exact (hfY k (by omega)).2 (by first | exact Or.inl h115 | exact Or.inr h125) | (have q9 := md_wh_eq (md_eq_meet Y (r_fi Y k)); rw [← w105] at q9; rw [show u105.2.2.2.1.1 = r_se Y from q9.2.2.1]; refine (hfY k (by omega)).2 ?_; rw [← q9.1]; first | exact Or.inl h115 | exact Or.inr h125)) (by first | exact hmY | (rw [w105]; exact md_mk_meet hmY ((hfY k (by omega)).1 (by first | exact Or.inl h85 | exact Or.inr h95))))) (cwV 1 hts (lm_gV m_16_20 m_16_21 m_20_9 m_0_5 m_16_22) rfl rfl rfl (by decide +kernel) ⟨Nat.le_of_ble_eq_true rfl, Nat.le_of_ble_eq_true rfl⟩) (va_recv (q0 := 0) hK hP rfl rfl) lm_bl_no (fun _ _ _ => trivial) hl.1 rfl rfl (Nat.le_of_ble_eq_true rfl) d_Model_mark_135 ⟨Nat.le_of_ble_eq_true rfl, Nat.le_of_ble_eq_true rfl⟩ (fun u135 H locs w135 hP hD hS => ?_)
                  have hP : va_P (dC, dI) classes (mr_W cA cZ ad u135) H := hP
                  have hD : va_D A (mr_W cA cZ ad u135) := hD
                  refine lv_iinc (k := 0) (v := (nI (k + 1))) (lv' := [(1, .int (nI (k + 1))), (0, .ref (ad 0))]) hx hb d_Model_mark_138 hl rfl ((nI_succ k).symm) (by decide) rfl (fun ls hl => ?_)
                  refine lv_goto hx hb d_Model_mark_141 rfl ?_
                  have hfa : md_fa Y k = u105 := by
                    unfold md_fa; (first | rw [if_pos h85] | rw [if_neg h85]); exact w105.symm
                  have hfb : md_fb u105 k = u135 := by
                    unfold md_fb; (first | rw [if_pos h115] | rw [if_neg h115]); (first | rw [if_pos h125] | rw [if_neg h125]); exact w135.symm
                  have hr1 : md_fr1 Y k = u135 := by unfold md_fr1; rw [hfa, hfb]
                  exact ih (k + 1) u135 _ _ _ (by omega) (by rw [← hr1]; exact md_mk_fb (md_mk_fa hmY (hfY k (by omega)).1) (by rw [(md_wh_eq (md_eq_fa Y k)).1, (md_wh_eq (md_eq_fa Y k)).2.2.1]; exact (hfY k (by omega)).2)) (by rw [← hr1]; exact md_eq_tr (md_eq_fr1 Y k) heY) (by rw [hqY, md_frN, hr1]) (lv_sub hl [0, 1] rfl) hP hD hS
            · refine lv_aload_n hx hb d_Model_mark_88 rfl (lv_at hl 1 rfl) ?_
              refine va_get (D := (dC, dI)) (ci := 4) (v := .ref (ad 13)) (C := R_Model) (T := F_Model) (N := 30) hx hb hts (fun q hq => List.mem_cons_of_mem _ (i_Model q hq)) hown hK hP 0 rfl rfl 16 (by decide) (hts _ (List.mem_cons_of_mem _ m_14_9)) (fun _ h9 => h9) rfl d_Model_mark_89 ?_
              refine lv_iload_n hx hb d_Model_mark_92 rfl (lv_at hl 0 rfl) ?_
              have hin : vp_in (nI k) 200 := by first | assumption | exact vp_in_nI (by omega) (by decide)
              refine va_iald (f := Y.2.2.1.2.2.2.1) (n := 200) hx hb hK hP 13 0 rfl rfl hin d_Model_mark_93 ?_
              rw [nI_clamp (show k < 2 ^ 31 by omega)]
              refine lv_iconst (v := 1) hx hb d_Model_mark_94 (by decide) ?_
              refine lv_icmp_ne hx hb d_Model_mark_95 rfl (fun h95 => ?_) (fun h95 => ?_)
              · refine lv_aload_n hx hb d_Model_mark_108 rfl (lv_at hl 1 rfl) ?_
                refine va_get (D := (dC, dI)) (ci := 4) (v := .ref (ad 13)) (C := R_Model) (T := F_Model) (N := 30) hx hb hts (fun q hq => List.mem_cons_of_mem _ (i_Model q hq)) hown hK hP 0 rfl rfl 16 (by decide) (hts _ (List.mem_cons_of_mem _ m_14_9)) (fun _ h9 => h9) rfl d_Model_mark_109 ?_
                refine lv_iload_n hx hb d_Model_mark_112 rfl (lv_at hl 0 rfl) ?_
                have hin : vp_in (nI k) 200 := by first | assumption | exact vp_in_nI (by omega) (by decide)
                refine va_iald (f := Y.2.2.1.2.2.2.1) (n := 200) hx hb hK hP 13 0 rfl rfl hin d_Model_mark_113 ?_
                rw [nI_clamp (show k < 2 ^ 31 by omega)]
                refine lv_iconst (v := 2) hx hb d_Model_mark_114 (by decide) ?_
                refine lv_icmp_eq hx hb d_Model_mark_115 rfl (fun h115 => ?_) (fun h115 => ?_)
                · refine lv_aload_n hx hb d_Model_mark_128 rfl (lv_at hl 1 rfl) ?_
                  refine lv_aload_n hx hb d_Model_mark_129 rfl (lv_at hl 1 rfl) ?_
                  refine va_get (D := (dC, dI)) (ci := 4) (v := .ref (ad 15)) (C := R_Model) (T := F_Model) (N := 30) hx hb hts (fun q hq => List.mem_cons_of_mem _ (i_Model q hq)) hown hK hP 0 rfl rfl 18 (by decide) (hts _ (List.mem_cons_of_mem _ m_14_11)) (fun _ h9 => h9) rfl d_Model_mark_130 ?_
                  refine lv_iload_n hx hb d_Model_mark_133 rfl (lv_at hl 0 rfl) ?_
                  have hin : vp_in (nI k) 200 := by first | assumption | exact vp_in_nI (by omega) (by decide)
                  refine va_iald (f := Y.2.2.2.1.1) (n := 200) hx hb hK hP 15 0 rfl rfl hin d_Model_mark_134 ?_
                  rw [nI_clamp (show k < 2 ^ 31 by omega)]
                  refine lm_vv (b := ad 0) (As := [.int (Y.2.2.2.1.1 k)]) (rest := []) (wr := ([] : va_W)) ⟨hx, hb, hml, hown, hts⟩ hK hP hD hS hA [0, 1, 2, 3, 4, 5, 6, 7, 8, 9, 10, 11, 12, 13, 14, 15] [] rfl rfl (by decide) (by decide) (by decide) (c_Model_meet l dC dI cA cZ ad _ Y (Y.2.2.2.1.1 k) (by first | exact (hfY k (by omega)).2 (by first | exact Or.inl h115 | exact Or.inr h125) | (have q9 := md_wh_eq (md_eq_meet Y (r_fi Y k)); rw [← w105] at q9; rw [show u105.2.2.2.1.1 = r_se Y from q9.2.2.1]; refine (hfY k (by omega)).2 ?_; rw [← q9.1]; first | exact Or.inl h115 | exact Or.inr h125)) (by first | exact hmY | (rw [w105]; exact md_mk_meet hmY ((hfY k (by omega)).1 (by first | exact Or.inl h85 | exact Or.inr h95))))) (cwV 1 hts (lm_gV m_16_20 m_16_21 m_20_9 m_0_5 m_16_22) rfl rfl rfl (by decide +kernel) ⟨Nat.le_of_ble_eq_true rfl, Nat.le_of_ble_eq_true rfl⟩) (va_recv (q0 := 0) hK hP rfl rfl) lm_bl_no (fun _ _ _ => trivial) hl.1 rfl rfl (Nat.le_of_ble_eq_true rfl) d_Model_mark_135 ⟨Nat.le_of_ble_eq_true rfl, Nat.le_of_ble_eq_true rfl⟩ (fun u135 H locs w135 hP hD hS => ?_)
                  have hP : va_P (dC, dI) classes (mr_W cA cZ ad u135) H := hP
                  have hD : va_D A (mr_W cA cZ ad u135) := hD
                  refine lv_iinc (k := 0) (v := (nI (k + 1))) (lv' := [(1, .int (nI (k + 1))), (0, .ref (ad 0))]) hx hb d_Model_mark_138 hl rfl ((nI_succ k).symm) (by decide) rfl (fun ls hl => ?_)
                  refine lv_goto hx hb d_Model_mark_141 rfl ?_
                  have hfa : md_fa Y k = Y := by
                    unfold md_fa; (first | rw [if_pos h85] | rw [if_neg h85]); (first | rw [if_pos h95] | rw [if_neg h95])
                  have hfb : md_fb Y k = u135 := by
                    unfold md_fb; (first | rw [if_pos h115] | rw [if_neg h115]); exact w135.symm
                  have hr1 : md_fr1 Y k = u135 := by unfold md_fr1; rw [hfa, hfb]
                  exact ih (k + 1) u135 _ _ _ (by omega) (by rw [← hr1]; exact md_mk_fb (md_mk_fa hmY (hfY k (by omega)).1) (by rw [(md_wh_eq (md_eq_fa Y k)).1, (md_wh_eq (md_eq_fa Y k)).2.2.1]; exact (hfY k (by omega)).2)) (by rw [← hr1]; exact md_eq_tr (md_eq_fr1 Y k) heY) (by rw [hqY, md_frN, hr1]) (lv_sub hl [0, 1] rfl) hP hD hS
                · refine lv_aload_n hx hb d_Model_mark_118 rfl (lv_at hl 1 rfl) ?_
                  refine va_get (D := (dC, dI)) (ci := 4) (v := .ref (ad 13)) (C := R_Model) (T := F_Model) (N := 30) hx hb hts (fun q hq => List.mem_cons_of_mem _ (i_Model q hq)) hown hK hP 0 rfl rfl 16 (by decide) (hts _ (List.mem_cons_of_mem _ m_14_9)) (fun _ h9 => h9) rfl d_Model_mark_119 ?_
                  refine lv_iload_n hx hb d_Model_mark_122 rfl (lv_at hl 0 rfl) ?_
                  have hin : vp_in (nI k) 200 := by first | assumption | exact vp_in_nI (by omega) (by decide)
                  refine va_iald (f := Y.2.2.1.2.2.2.1) (n := 200) hx hb hK hP 13 0 rfl rfl hin d_Model_mark_123 ?_
                  rw [nI_clamp (show k < 2 ^ 31 by omega)]
                  refine lv_iconst (v := 4) hx hb d_Model_mark_124 (by decide) ?_
                  refine lv_icmp_ne hx hb d_Model_mark_125 rfl (fun h125 => ?_) (fun h125 => ?_)
                  · refine lv_iinc (k := 0) (v := (nI (k + 1))) (lv' := [(1, .int (nI (k + 1))), (0, .ref (ad 0))]) hx hb d_Model_mark_138 hl rfl ((nI_succ k).symm) (by decide) rfl (fun ls hl => ?_)
                    refine lv_goto hx hb d_Model_mark_141 rfl ?_
                    have hfa : md_fa Y k = Y := by
                      unfold md_fa; (first | rw [if_pos h85] | rw [if_neg h85]); (first | rw [if_pos h95] | rw [if_neg h95])
                    have hfb : md_fb Y k = Y := by
                      unfold md_fb; (first | rw [if_pos h115] | rw [if_neg h115]); (first | rw [if_pos h125] | rw [if_neg h125])
                    have hr1 : md_fr1 Y k = Y := by unfold md_fr1; rw [hfa, hfb]
                    exact ih (k + 1) Y _ _ _ (by omega) (by rw [← hr1]; exact md_mk_fb (md_mk_fa hmY (hfY k (by omega)).1) (by rw [(md_wh_eq (md_eq_fa Y k)).1, (md_wh_eq (md_eq_fa Y k)).2.2.1]; exact (hfY k (by omega)).2)) (by rw [← hr1]; exact md_eq_tr (md_eq_fr1 Y k) heY) (by rw [hqY, md_frN, hr1]) (lv_sub hl [0, 1] rfl) hP hD hS
                  · refine lv_aload_n hx hb d_Model_mark_128 rfl (lv_at hl 1 rfl) ?_
                    refine lv_aload_n hx hb d_Model_mark_129 rfl (lv_at hl 1 rfl) ?_
                    refine va_get (D := (dC, dI)) (ci := 4) (v := .ref (ad 15)) (C := R_Model) (T := F_Model) (N := 30) hx hb hts (fun q hq => List.mem_cons_of_mem _ (i_Model q hq)) hown hK hP 0 rfl rfl 18 (by decide) (hts _ (List.mem_cons_of_mem _ m_14_11)) (fun _ h9 => h9) rfl d_Model_mark_130 ?_
                    refine lv_iload_n hx hb d_Model_mark_133 rfl (lv_at hl 0 rfl) ?_
                    have hin : vp_in (nI k) 200 := by first | assumption | exact vp_in_nI (by omega) (by decide)
                    refine va_iald (f := Y.2.2.2.1.1) (n := 200) hx hb hK hP 15 0 rfl rfl hin d_Model_mark_134 ?_
                    rw [nI_clamp (show k < 2 ^ 31 by omega)]
                    refine lm_vv (b := ad 0) (As := [.int (Y.2.2.2.1.1 k)]) (rest := []) (wr := ([] : va_W)) ⟨hx, hb, hml, hown, hts⟩ hK hP hD hS hA [0, 1, 2, 3, 4, 5, 6, 7, 8, 9, 10, 11, 12, 13, 14, 15] [] rfl rfl (by decide) (by decide) (by decide) (c_Model_meet l dC dI cA cZ ad _ Y (Y.2.2.2.1.1 k) (by first | exact (hfY k (by omega)).2 (by first | exact Or.inl h115 | exact Or.inr h125) | (have q9 := md_wh_eq (md_eq_meet Y (r_fi Y k)); rw [← w105] at q9; rw [show u105.2.2.2.1.1 = r_se Y from q9.2.2.1]; refine (hfY k (by omega)).2 ?_; rw [← q9.1]; first | exact Or.inl h115 | exact Or.inr h125)) (by first | exact hmY | (rw [w105]; exact md_mk_meet hmY ((hfY k (by omega)).1 (by first | exact Or.inl h85 | exact Or.inr h95))))) (cwV 1 hts (lm_gV m_16_20 m_16_21 m_20_9 m_0_5 m_16_22) rfl rfl rfl (by decide +kernel) ⟨Nat.le_of_ble_eq_true rfl, Nat.le_of_ble_eq_true rfl⟩) (va_recv (q0 := 0) hK hP rfl rfl) lm_bl_no (fun _ _ _ => trivial) hl.1 rfl rfl (Nat.le_of_ble_eq_true rfl) d_Model_mark_135 ⟨Nat.le_of_ble_eq_true rfl, Nat.le_of_ble_eq_true rfl⟩ (fun u135 H locs w135 hP hD hS => ?_)
                    have hP : va_P (dC, dI) classes (mr_W cA cZ ad u135) H := hP
                    have hD : va_D A (mr_W cA cZ ad u135) := hD
                    refine lv_iinc (k := 0) (v := (nI (k + 1))) (lv' := [(1, .int (nI (k + 1))), (0, .ref (ad 0))]) hx hb d_Model_mark_138 hl rfl ((nI_succ k).symm) (by decide) rfl (fun ls hl => ?_)
                    refine lv_goto hx hb d_Model_mark_141 rfl ?_
                    have hfa : md_fa Y k = Y := by
                      unfold md_fa; (first | rw [if_pos h85] | rw [if_neg h85]); (first | rw [if_pos h95] | rw [if_neg h95])
                    have hfb : md_fb Y k = u135 := by
                      unfold md_fb; (first | rw [if_pos h115] | rw [if_neg h115]); (first | rw [if_pos h125] | rw [if_neg h125]); exact w135.symm
                    have hr1 : md_fr1 Y k = u135 := by unfold md_fr1; rw [hfa, hfb]
                    exact ih (k + 1) u135 _ _ _ (by omega) (by rw [← hr1]; exact md_mk_fb (md_mk_fa hmY (hfY k (by omega)).1) (by rw [(md_wh_eq (md_eq_fa Y k)).1, (md_wh_eq (md_eq_fa Y k)).2.2.1]; exact (hfY k (by omega)).2)) (by rw [← hr1]; exact md_eq_tr (md_eq_fr1 Y k) heY) (by rw [hqY, md_frN, hr1]) (lv_sub hl [0, 1] rfl) hP hD hS
              · refine lv_aload_n hx hb d_Model_mark_98 rfl (lv_at hl 1 rfl) ?_
                refine lv_aload_n hx hb d_Model_mark_99 rfl (lv_at hl 1 rfl) ?_
                refine va_get (D := (dC, dI)) (ci := 4) (v := .ref (ad 14)) (C := R_Model) (T := F_Model) (N := 30) hx hb hts (fun q hq => List.mem_cons_of_mem _ (i_Model q hq)) hown hK hP 0 rfl rfl 17 (by decide) (hts _ (List.mem_cons_of_mem _ m_14_10)) (fun _ h9 => h9) rfl d_Model_mark_100 ?_
                refine lv_iload_n hx hb d_Model_mark_103 rfl (lv_at hl 0 rfl) ?_
                have hin : vp_in (nI k) 200 := by first | assumption | exact vp_in_nI (by omega) (by decide)
                refine va_iald (f := Y.2.2.1.2.2.2.2) (n := 200) hx hb hK hP 14 0 rfl rfl hin d_Model_mark_104 ?_
                rw [nI_clamp (show k < 2 ^ 31 by omega)]
                refine lm_vv (b := ad 0) (As := [.int (Y.2.2.1.2.2.2.2 k)]) (rest := []) (wr := ([] : va_W)) ⟨hx, hb, hml, hown, hts⟩ hK hP hD hS hA [0, 1, 2, 3, 4, 5, 6, 7, 8, 9, 10, 11, 12, 13, 14, 15] [] rfl rfl (by decide) (by decide) (by decide) (c_Model_meet l dC dI cA cZ ad _ Y (Y.2.2.1.2.2.2.2 k) (by exact (hfY k (by omega)).1 (by first | exact Or.inl h85 | exact Or.inr h95)) (by exact hmY)) (cwV 1 hts (lm_gV m_16_20 m_16_21 m_20_9 m_0_5 m_16_22) rfl rfl rfl (by decide +kernel) ⟨Nat.le_of_ble_eq_true rfl, Nat.le_of_ble_eq_true rfl⟩) (va_recv (q0 := 0) hK hP rfl rfl) lm_bl_no (fun _ _ _ => trivial) hl.1 rfl rfl (Nat.le_of_ble_eq_true rfl) d_Model_mark_105 ⟨Nat.le_of_ble_eq_true rfl, Nat.le_of_ble_eq_true rfl⟩ (fun u105 H locs w105 hP hD hS => ?_)
                have hP : va_P (dC, dI) classes (mr_W cA cZ ad u105) H := hP
                have hD : va_D A (mr_W cA cZ ad u105) := hD
                refine lv_aload_n hx hb d_Model_mark_108 rfl (lv_at hl 1 rfl) ?_
                refine va_get (D := (dC, dI)) (ci := 4) (v := .ref (ad 13)) (C := R_Model) (T := F_Model) (N := 30) hx hb hts (fun q hq => List.mem_cons_of_mem _ (i_Model q hq)) hown hK hP 0 rfl rfl 16 (by decide) (hts _ (List.mem_cons_of_mem _ m_14_9)) (fun _ h9 => h9) rfl d_Model_mark_109 ?_
                refine lv_iload_n hx hb d_Model_mark_112 rfl (lv_at hl 0 rfl) ?_
                have hin : vp_in (nI k) 200 := by first | assumption | exact vp_in_nI (by omega) (by decide)
                refine va_iald (f := u105.2.2.1.2.2.2.1) (n := 200) hx hb hK hP 13 0 rfl rfl hin d_Model_mark_113 ?_
                rw [nI_clamp (show k < 2 ^ 31 by omega)]
                refine lv_iconst (v := 2) hx hb d_Model_mark_114 (by decide) ?_
                refine lv_icmp_eq hx hb d_Model_mark_115 rfl (fun h115 => ?_) (fun h115 => ?_)
                · refine lv_aload_n hx hb d_Model_mark_128 rfl (lv_at hl 1 rfl) ?_
                  refine lv_aload_n hx hb d_Model_mark_129 rfl (lv_at hl 1 rfl) ?_
                  refine va_get (D := (dC, dI)) (ci := 4) (v := .ref (ad 15)) (C := R_Model) (T := F_Model) (N := 30) hx hb hts (fun q hq => List.mem_cons_of_mem _ (i_Model q hq)) hown hK hP 0 rfl rfl 18 (by decide) (hts _ (List.mem_cons_of_mem _ m_14_11)) (fun _ h9 => h9) rfl d_Model_mark_130 ?_
                  refine lv_iload_n hx hb d_Model_mark_133 rfl (lv_at hl 0 rfl) ?_
                  have hin : vp_in (nI k) 200 := by first | assumption | exact vp_in_nI (by omega) (by decide)
                  refine va_iald (f := u105.2.2.2.1.1) (n := 200) hx hb hK hP 15 0 rfl rfl hin d_Model_mark_134 ?_
                  rw [nI_clamp (show k < 2 ^ 31 by omega)]
                  refine lm_vv (b := ad 0) (As := [.int (u105.2.2.2.1.1 k)]) (rest := []) (wr := ([] : va_W)) ⟨hx, hb, hml, hown, hts⟩ hK hP hD hS hA [0, 1, 2, 3, 4, 5, 6, 7, 8, 9, 10, 11, 12, 13, 14, 15] [] rfl rfl (by decide) (by decide) (by decide) (c_Model_meet l dC dI cA cZ ad _ u105 (u105.2.2.2.1.1 k) (by first | exact (hfY k (by omega)).2 (by first | exact Or.inl h115 | exact Or.inr h125) | (have q9 := md_wh_eq (md_eq_meet Y (r_fi Y k)); rw [← w105] at q9; rw [show u105.2.2.2.1.1 = r_se Y from q9.2.2.1]; refine (hfY k (by omega)).2 ?_; rw [← q9.1]; first | exact Or.inl h115 | exact Or.inr h125)) (by first | exact hmY | (rw [w105]; exact md_mk_meet hmY ((hfY k (by omega)).1 (by first | exact Or.inl h85 | exact Or.inr h95))))) (cwV 1 hts (lm_gV m_16_20 m_16_21 m_20_9 m_0_5 m_16_22) rfl rfl rfl (by decide +kernel) ⟨Nat.le_of_ble_eq_true rfl, Nat.le_of_ble_eq_true rfl⟩) (va_recv (q0 := 0) hK hP rfl rfl) lm_bl_no (fun _ _ _ => trivial) hl.1 rfl rfl (Nat.le_of_ble_eq_true rfl) d_Model_mark_135 ⟨Nat.le_of_ble_eq_true rfl, Nat.le_of_ble_eq_true rfl⟩ (fun u135 H locs w135 hP hD hS => ?_)
                  have hP : va_P (dC, dI) classes (mr_W cA cZ ad u135) H := hP
                  have hD : va_D A (mr_W cA cZ ad u135) := hD
                  refine lv_iinc (k := 0) (v := (nI (k + 1))) (lv' := [(1, .int (nI (k + 1))), (0, .ref (ad 0))]) hx hb d_Model_mark_138 hl rfl ((nI_succ k).symm) (by decide) rfl (fun ls hl => ?_)
                  refine lv_goto hx hb d_Model_mark_141 rfl ?_
                  have hfa : md_fa Y k = u105 := by
                    unfold md_fa; (first | rw [if_pos h85] | rw [if_neg h85]); (first | rw [if_pos h95] | rw [if_neg h95]); exact w105.symm
                  have hfb : md_fb u105 k = u135 := by
                    unfold md_fb; (first | rw [if_pos h115] | rw [if_neg h115]); exact w135.symm
                  have hr1 : md_fr1 Y k = u135 := by unfold md_fr1; rw [hfa, hfb]
                  exact ih (k + 1) u135 _ _ _ (by omega) (by rw [← hr1]; exact md_mk_fb (md_mk_fa hmY (hfY k (by omega)).1) (by rw [(md_wh_eq (md_eq_fa Y k)).1, (md_wh_eq (md_eq_fa Y k)).2.2.1]; exact (hfY k (by omega)).2)) (by rw [← hr1]; exact md_eq_tr (md_eq_fr1 Y k) heY) (by rw [hqY, md_frN, hr1]) (lv_sub hl [0, 1] rfl) hP hD hS
                · refine lv_aload_n hx hb d_Model_mark_118 rfl (lv_at hl 1 rfl) ?_
                  refine va_get (D := (dC, dI)) (ci := 4) (v := .ref (ad 13)) (C := R_Model) (T := F_Model) (N := 30) hx hb hts (fun q hq => List.mem_cons_of_mem _ (i_Model q hq)) hown hK hP 0 rfl rfl 16 (by decide) (hts _ (List.mem_cons_of_mem _ m_14_9)) (fun _ h9 => h9) rfl d_Model_mark_119 ?_
                  refine lv_iload_n hx hb d_Model_mark_122 rfl (lv_at hl 0 rfl) ?_
                  have hin : vp_in (nI k) 200 := by first | assumption | exact vp_in_nI (by omega) (by decide)
                  refine va_iald (f := u105.2.2.1.2.2.2.1) (n := 200) hx hb hK hP 13 0 rfl rfl hin d_Model_mark_123 ?_
                  rw [nI_clamp (show k < 2 ^ 31 by omega)]
                  refine lv_iconst (v := 4) hx hb d_Model_mark_124 (by decide) ?_
                  refine lv_icmp_ne hx hb d_Model_mark_125 rfl (fun h125 => ?_) (fun h125 => ?_)
                  · refine lv_iinc (k := 0) (v := (nI (k + 1))) (lv' := [(1, .int (nI (k + 1))), (0, .ref (ad 0))]) hx hb d_Model_mark_138 hl rfl ((nI_succ k).symm) (by decide) rfl (fun ls hl => ?_)
                    refine lv_goto hx hb d_Model_mark_141 rfl ?_
                    have hfa : md_fa Y k = u105 := by
                      unfold md_fa; (first | rw [if_pos h85] | rw [if_neg h85]); (first | rw [if_pos h95] | rw [if_neg h95]); exact w105.symm
                    have hfb : md_fb u105 k = u105 := by
                      unfold md_fb; (first | rw [if_pos h115] | rw [if_neg h115]); (first | rw [if_pos h125] | rw [if_neg h125])
                    have hr1 : md_fr1 Y k = u105 := by unfold md_fr1; rw [hfa, hfb]
                    exact ih (k + 1) u105 _ _ _ (by omega) (by rw [← hr1]; exact md_mk_fb (md_mk_fa hmY (hfY k (by omega)).1) (by rw [(md_wh_eq (md_eq_fa Y k)).1, (md_wh_eq (md_eq_fa Y k)).2.2.1]; exact (hfY k (by omega)).2)) (by rw [← hr1]; exact md_eq_tr (md_eq_fr1 Y k) heY) (by rw [hqY, md_frN, hr1]) (lv_sub hl [0, 1] rfl) hP hD hS
                  · refine lv_aload_n hx hb d_Model_mark_128 rfl (lv_at hl 1 rfl) ?_
                    refine lv_aload_n hx hb d_Model_mark_129 rfl (lv_at hl 1 rfl) ?_
                    refine va_get (D := (dC, dI)) (ci := 4) (v := .ref (ad 15)) (C := R_Model) (T := F_Model) (N := 30) hx hb hts (fun q hq => List.mem_cons_of_mem _ (i_Model q hq)) hown hK hP 0 rfl rfl 18 (by decide) (hts _ (List.mem_cons_of_mem _ m_14_11)) (fun _ h9 => h9) rfl d_Model_mark_130 ?_
                    refine lv_iload_n hx hb d_Model_mark_133 rfl (lv_at hl 0 rfl) ?_
                    have hin : vp_in (nI k) 200 := by first | assumption | exact vp_in_nI (by omega) (by decide)
                    refine va_iald (f := u105.2.2.2.1.1) (n := 200) hx hb hK hP 15 0 rfl rfl hin d_Model_mark_134 ?_
                    rw [nI_clamp (show k < 2 ^ 31 by omega)]
                    refine lm_vv (b := ad 0) (As := [.int (u105.2.2.2.1.1 k)]) (rest := []) (wr := ([] : va_W)) ⟨hx, hb, hml, hown, hts⟩ hK hP hD hS hA [0, 1, 2, 3, 4, 5, 6, 7, 8, 9, 10, 11, 12, 13, 14, 15] [] rfl rfl (by decide) (by decide) (by decide) (c_Model_meet l dC dI cA cZ ad _ u105 (u105.2.2.2.1.1 k) (by first | exact (hfY k (by omega)).2 (by first | exact Or.inl h115 | exact Or.inr h125) | (have q9 := md_wh_eq (md_eq_meet Y (r_fi Y k)); rw [← w105] at q9; rw [show u105.2.2.2.1.1 = r_se Y from q9.2.2.1]; refine (hfY k (by omega)).2 ?_; rw [← q9.1]; first | exact Or.inl h115 | exact Or.inr h125)) (by first | exact hmY | (rw [w105]; exact md_mk_meet hmY ((hfY k (by omega)).1 (by first | exact Or.inl h85 | exact Or.inr h95))))) (cwV 1 hts (lm_gV m_16_20 m_16_21 m_20_9 m_0_5 m_16_22) rfl rfl rfl (by decide +kernel) ⟨Nat.le_of_ble_eq_true rfl, Nat.le_of_ble_eq_true rfl⟩) (va_recv (q0 := 0) hK hP rfl rfl) lm_bl_no (fun _ _ _ => trivial) hl.1 rfl rfl (Nat.le_of_ble_eq_true rfl) d_Model_mark_135 ⟨Nat.le_of_ble_eq_true rfl, Nat.le_of_ble_eq_true rfl⟩ (fun u135 H locs w135 hP hD hS => ?_)
                    have hP : va_P (dC, dI) classes (mr_W cA cZ ad u135) H := hP
                    have hD : va_D A (mr_W cA cZ ad u135) := hD
                    refine lv_iinc (k := 0) (v := (nI (k + 1))) (lv' := [(1, .int (nI (k + 1))), (0, .ref (ad 0))]) hx hb d_Model_mark_138 hl rfl ((nI_succ k).symm) (by decide) rfl (fun ls hl => ?_)
                    refine lv_goto hx hb d_Model_mark_141 rfl ?_
                    have hfa : md_fa Y k = u105 := by
                      unfold md_fa; (first | rw [if_pos h85] | rw [if_neg h85]); (first | rw [if_pos h95] | rw [if_neg h95]); exact w105.symm
                    have hfb : md_fb u105 k = u135 := by
                      unfold md_fb; (first | rw [if_pos h115] | rw [if_neg h115]); (first | rw [if_pos h125] | rw [if_neg h125]); exact w135.symm
                    have hr1 : md_fr1 Y k = u135 := by unfold md_fr1; rw [hfa, hfb]
                    exact ih (k + 1) u135 _ _ _ (by omega) (by rw [← hr1]; exact md_mk_fb (md_mk_fa hmY (hfY k (by omega)).1) (by rw [(md_wh_eq (md_eq_fa Y k)).1, (md_wh_eq (md_eq_fa Y k)).2.2.1]; exact (hfY k (by omega)).2)) (by rw [← hr1]; exact md_eq_tr (md_eq_fr1 Y k) heY) (by rw [hqY, md_frN, hr1]) (lv_sub hl [0, 1] rfl) hP hD hS
        exact loop z 0 u55 _ _ _ (by omega) (by rw [← hroot]; exact md_mk_root hmZ hrZ) (by rw [← hroot]; exact md_eq_tr (md_eq_root Z) heZ) (by unfold md_mark; rw [show (r_fr ((aso, axs, ato, ath, asi), (asr, anu, ach, aow, aar), (ais, aon, atw, awh, afi), (ase, afr, amo, ass, asp), (afo, aba, ano, aen, avs), (avo, avt, are, atd, ale))).toNatClampNeg = z by rw [hfr]; exact nI_clamp (by omega), hZ, hroot]) hl hP hD hS
      · refine lv_aload_n hx hb d_Model_mark_34 rfl (lv_at hl 1 rfl) ?_
        refine va_get (D := (dC, dI)) (ci := 4) (v := .int Z.2.2.2.1.2.2.2.1) (C := R_Model) (T := F_Model) (N := 30) hx hb hts (fun q hq => List.mem_cons_of_mem _ (i_Model q hq)) hown hK hP 0 rfl rfl 21 (by decide) (hts _ (List.mem_cons_of_mem _ m_14_14)) (fun _ h9 => h9) rfl d_Model_mark_35 ?_
        refine lv_iconst (v := 2) hx hb d_Model_mark_38 (by decide) ?_
        refine lv_icmp_ne hx hb d_Model_mark_39 rfl (fun h39 => ?_) (fun h39 => ?_)
        · refine lv_aload_n hx hb d_Model_mark_61 rfl (lv_at hl 1 rfl) ?_
          refine lv_aload_n hx hb d_Model_mark_62 rfl (lv_at hl 1 rfl) ?_
          refine va_get (D := (dC, dI)) (ci := 4) (v := .int Z.2.2.2.2.1.2.2.2.1) (C := R_Model) (T := F_Model) (N := 30) hx hb hts (fun q hq => List.mem_cons_of_mem _ (i_Model q hq)) hown hK hP 0 rfl rfl 26 (by decide) (hts _ (List.mem_cons_of_mem _ m_14_19)) (fun _ h9 => h9) rfl d_Model_mark_63 ?_
          refine lm_vv (b := ad 0) (As := [.int Z.2.2.2.2.1.2.2.2.1]) (rest := []) (wr := ([] : va_W)) ⟨hx, hb, hml, hown, hts⟩ hK hP hD hS hA [0, 1, 2, 3, 4, 5, 6, 7, 8, 9, 10, 11, 12, 13, 14, 15] [] rfl rfl (by decide) (by decide) (by decide) (c_Model_meet l dC dI cA cZ ad _ Z Z.2.2.2.2.1.2.2.2.1 (by exact hrZ.2 h31 h39) (by exact hmZ)) (cwV 1 hts (lm_gV m_16_20 m_16_21 m_20_9 m_0_5 m_16_22) rfl rfl rfl (by decide +kernel) ⟨Nat.le_of_ble_eq_true rfl, Nat.le_of_ble_eq_true rfl⟩) (va_recv (q0 := 0) hK hP rfl rfl) lm_bl_no (fun _ _ _ => trivial) hl.1 rfl rfl (Nat.le_of_ble_eq_true rfl) d_Model_mark_66 ⟨Nat.le_of_ble_eq_true rfl, Nat.le_of_ble_eq_true rfl⟩ (fun u66 H locs w66 hP hD hS => ?_)
          have hP : va_P (dC, dI) classes (mr_W cA cZ ad u66) H := hP
          have hD : va_D A (mr_W cA cZ ad u66) := hD
          have hroot : md_root Z = u66 := by
            unfold md_root; (first | rw [if_pos h31] | rw [if_neg h31]); (first | rw [if_pos h39] | rw [if_neg h39]); exact w66.symm
          refine lv_iconst (v := 0) hx hb d_Model_mark_69 (by decide) ?_
          refine lv_istore_n (lv' := [(1, .int 0), (0, .ref (ad 0))]) hx hb d_Model_mark_70 rfl hl (by decide) rfl (fun ls hl => ?_)
          have loop : ∀ (fu : Nat) (k : Nat) (Y : ZNS) (ls : Array Slot) (H : Heap) (locs : List Loc), (k + fu = z) → (md_mk Y) → (md_eq Y ((aso, axs, ato, ath, asi), (asr, anu, ach, aow, aar), (ais, aon, atw, awh, afi), (ase, afr, amo, ass, asp), (afo, aba, ano, aen, avs), (avo, avt, are, atd, ale))) → (md_mark ((aso, axs, ato, ath, asi), (asr, anu, ach, aow, aar), (ais, aon, atw, awh, afi), (ase, afr, amo, ass, asp), (afo, aba, ano, aen, avs), (avo, avt, are, atd, ale)) = md_tdN 256 0 (md_frN fu k Y)) → lv_has ls 3 [(1, .int (nI k)), (0, .ref (ad 0))] → va_P (dC, dI) classes (mr_W cA cZ ad Y) H → va_D A (mr_W cA cZ ad Y) → va_S A s.heap H locs → W p l e (headSpec w_Model_mark ({ frames := 2, cells := 0, slots := 0, locals := 44 } : Room)).room s m (List.toArray [.ref (ad 0)]) below meth c H locs 0 0 (MQ below (va_Qi (fun (r : Int32) (u : ZNS) => r = r_le (md_mark ((aso, axs, ato, ath, asi), (asr, anu, ach, aow, aar), (ais, aon, atw, awh, afi), (ase, afr, amo, ass, asp), (afo, aba, ano, aen, avs), (avo, avt, are, atd, ale))) ∧ u = md_mark ((aso, axs, ato, ath, asi), (asr, anu, ach, aow, aar), (ais, aon, atw, awh, afi), (ase, afr, amo, ass, asp), (afo, aba, ano, aen, avs), (avo, avt, are, atd, ale))) (fun u => lm_at (dC, dI) classes [(cA, .int), (cZ, .boolean)] A (mr_W cA cZ ad u)) A) (List.toArray [.ref (ad 0)]) s 0 0 A) (F0 m 71 ls []) := by
            intro fu
            induction fu with
            | zero => 
              intro k Y ls H locs hk hmY heY hqY hl hP hD hS
              have hfy : Y.2.2.2.1.2.1 = nI z := ((md_wh_eq heY).2.2.2).trans hfr
              have hfY : ∀ j, j < z → (r_wh Y j = 0 ∨ r_wh Y j = 1 → md_c (r_fi Y j)) ∧ (r_wh Y j = 2 ∨ r_wh Y j = 4 → md_c (r_se Y j)) := by
                rw [(md_wh_eq heY).1, (md_wh_eq heY).2.1, (md_wh_eq heY).2.2.1]; exact hfc
              refine lv_iload_n hx hb d_Model_mark_71 rfl (lv_at hl 0 rfl) ?_
              refine lv_aload_n hx hb d_Model_mark_72 rfl (lv_at hl 1 rfl) ?_
              refine va_get (D := (dC, dI)) (ci := 4) (v := .int Y.2.2.2.1.2.1) (C := R_Model) (T := F_Model) (N := 30) hx hb hts (fun q hq => List.mem_cons_of_mem _ (i_Model q hq)) hown hK hP 0 rfl rfl 19 (by decide) (hts _ (List.mem_cons_of_mem _ m_14_12)) (fun _ h9 => h9) rfl d_Model_mark_73 ?_
              refine lv_icmp_ge hx hb d_Model_mark_76 rfl (fun h76 => ?_) (fun h76 => by exact absurd (by rw [hfy]; exact nI_le (by omega) (by omega)) h76)
              refine lv_iconst (v := 0) hx hb d_Model_mark_144 (by decide) ?_
              refine lv_istore_n (lv' := [(1, .int 0), (0, .ref (ad 0))]) hx hb d_Model_mark_145 rfl hl (by decide) rfl (fun ls hl => ?_)
              have loop : ∀ (fu : Nat) (k : Nat) (X : ZNS) (ls : Array Slot) (H : Heap) (locs : List Loc), (k + fu = 256) → (md_mk X) → (md_ok X) → (md_mark ((aso, axs, ato, ath, asi), (asr, anu, ach, aow, aar), (ais, aon, atw, awh, afi), (ase, afr, amo, ass, asp), (afo, aba, ano, aen, avs), (avo, avt, are, atd, ale)) = md_tdN fu k X) → lv_has ls 3 [(1, .int (nI k)), (0, .ref (ad 0))] → va_P (dC, dI) classes (mr_W cA cZ ad X) H → va_D A (mr_W cA cZ ad X) → va_S A s.heap H locs → W p l e (headSpec w_Model_mark ({ frames := 2, cells := 0, slots := 0, locals := 44 } : Room)).room s m (List.toArray [.ref (ad 0)]) below meth c H locs 0 0 (MQ below (va_Qi (fun (r : Int32) (u : ZNS) => r = r_le (md_mark ((aso, axs, ato, ath, asi), (asr, anu, ach, aow, aar), (ais, aon, atw, awh, afi), (ase, afr, amo, ass, asp), (afo, aba, ano, aen, avs), (avo, avt, are, atd, ale))) ∧ u = md_mark ((aso, axs, ato, ath, asi), (asr, anu, ach, aow, aar), (ais, aon, atw, awh, afi), (ase, afr, amo, ass, asp), (afo, aba, ano, aen, avs), (avo, avt, are, atd, ale))) (fun u => lm_at (dC, dI) classes [(cA, .int), (cZ, .boolean)] A (mr_W cA cZ ad u)) A) (List.toArray [.ref (ad 0)]) s 0 0 A) (F0 m 146 ls []) := by
                intro fu
                induction fu with
                | zero => 
                  intro k X ls H locs hk hmX hoX hqX hl hP hD hS
                  refine lv_iload_n hx hb d_Model_mark_146 rfl (lv_at hl 0 rfl) ?_
                  refine lv_aload_n hx hb d_Model_mark_147 rfl (lv_at hl 1 rfl) ?_
                  refine va_get (D := (dC, dI)) (ci := 4) (v := .int X.2.2.2.2.2.2.2.2.2) (C := R_Model) (T := F_Model) (N := 30) hx hb hts (fun q hq => List.mem_cons_of_mem _ (i_Model q hq)) hown hK hP 0 rfl rfl 15 (by decide) (hts _ (List.mem_cons_of_mem _ m_14_8)) (fun _ h9 => h9) rfl d_Model_mark_148 ?_
                  refine lv_icmp_ge hx hb d_Model_mark_151 rfl (fun h151 => ?_) (fun h151 => by obtain ⟨n, hn, hle, _⟩ := hmX; exact absurd (by rw [show X.2.2.2.2.2.2.2.2.2 = nI n from hle]; exact nI_le (by omega) (by omega)) h151)
                  refine lv_aload_n hx hb d_Model_mark_245 rfl (lv_at hl 1 rfl) ?_
                  refine va_get (D := (dC, dI)) (ci := 4) (v := .int X.2.2.2.2.2.2.2.2.2) (C := R_Model) (T := F_Model) (N := 30) hx hb hts (fun q hq => List.mem_cons_of_mem _ (i_Model q hq)) hown hK hP 0 rfl rfl 15 (by decide) (hts _ (List.mem_cons_of_mem _ m_14_8)) (fun _ h9 => h9) rfl d_Model_mark_246 ?_
                  refine lm_ri (v := X.2.2.2.2.2.2.2.2.2) hx hb hr hlocks X ?_ hP hK hD hS d_Model_mark_249
                  rw [hqX, md_tdN]; first | exact ⟨rfl, rfl⟩ | (rw [if_pos h151]; exact ⟨rfl, rfl⟩)
                | succ fu ih => 
                  intro k X ls H locs hk hmX hoX hqX hl hP hD hS
                  refine lv_iload_n hx hb d_Model_mark_146 rfl (lv_at hl 0 rfl) ?_
                  refine lv_aload_n hx hb d_Model_mark_147 rfl (lv_at hl 1 rfl) ?_
                  refine va_get (D := (dC, dI)) (ci := 4) (v := .int X.2.2.2.2.2.2.2.2.2) (C := R_Model) (T := F_Model) (N := 30) hx hb hts (fun q hq => List.mem_cons_of_mem _ (i_Model q hq)) hown hK hP 0 rfl rfl 15 (by decide) (hts _ (List.mem_cons_of_mem _ m_14_8)) (fun _ h9 => h9) rfl d_Model_mark_148 ?_
                  refine lv_icmp_ge hx hb d_Model_mark_151 rfl (fun h151 => ?_) (fun h151 => ?_)
                  · refine lv_aload_n hx hb d_Model_mark_245 rfl (lv_at hl 1 rfl) ?_
                    refine va_get (D := (dC, dI)) (ci := 4) (v := .int X.2.2.2.2.2.2.2.2.2) (C := R_Model) (T := F_Model) (N := 30) hx hb hts (fun q hq => List.mem_cons_of_mem _ (i_Model q hq)) hown hK hP 0 rfl rfl 15 (by decide) (hts _ (List.mem_cons_of_mem _ m_14_8)) (fun _ h9 => h9) rfl d_Model_mark_246 ?_
                    refine lm_ri (v := X.2.2.2.2.2.2.2.2.2) hx hb hr hlocks X ?_ hP hK hD hS d_Model_mark_249
                    rw [hqX, md_tdN]; first | exact ⟨rfl, rfl⟩ | (rw [if_pos h151]; exact ⟨rfl, rfl⟩)
                  · refine lv_aload_n hx hb d_Model_mark_154 rfl (lv_at hl 1 rfl) ?_
                    refine va_get (D := (dC, dI)) (ci := 4) (v := .ref (ad 12)) (C := R_Model) (T := F_Model) (N := 30) hx hb hts (fun q hq => List.mem_cons_of_mem _ (i_Model q hq)) hown hK hP 0 rfl rfl 14 (by decide) (hts _ (List.mem_cons_of_mem _ m_14_7)) (fun _ h9 => h9) rfl d_Model_mark_155 ?_
                    refine lv_iload_n hx hb d_Model_mark_158 rfl (lv_at hl 0 rfl) ?_
                    have hin : vp_in (nI k) 256 := by first | assumption | exact vp_in_nI (by omega) (by decide)
                    refine va_iald (f := X.2.2.2.2.2.2.2.2.1) (n := 256) hx hb hK hP 12 0 rfl rfl hin d_Model_mark_159 ?_
                    rw [nI_clamp (show k < 2 ^ 31 by omega)]
                    refine lv_istore_n (lv' := [(2, .int (X.2.2.2.2.2.2.2.2.1 k)), (1, .int (nI k)), (0, .ref (ad 0))]) hx hb d_Model_mark_160 rfl hl (by decide) rfl (fun ls hl => ?_)
                    have hin0 : vp_in (r_td X k) 256 := by
                      obtain ⟨n, hn, hrc, hre, _⟩ := hmX
                      exact (hre k (by
                        rcases Nat.lt_or_ge k n with h9 | h9
                        · exact h9
                        · exact absurd (by show r_le X ≤ nI k; rw [hrc]; exact nI_le h9 (by omega)) h151)).1
                    have hj0 := hp_in_lt hin0 (by decide)
                    refine lv_aload_n hx hb d_Model_mark_161 rfl (lv_at hl 2 rfl) ?_
                    refine va_get (D := (dC, dI)) (ci := 4) (v := .ref (ad 8)) (C := R_Model) (T := F_Model) (N := 30) hx hb hts (fun q hq => List.mem_cons_of_mem _ (i_Model q hq)) hown hK hP 0 rfl rfl 10 (by decide) (hts _ (List.mem_cons_of_mem _ m_14_3)) (fun _ h9 => h9) rfl d_Model_mark_162 ?_
                    refine lv_iload_n hx hb d_Model_mark_165 rfl (lv_at hl 0 rfl) ?_
                    have hin : vp_in (X.2.2.2.2.2.2.2.2.1 k) 256 := by exact hin0
                    refine va_iald (f := X.2.2.1.1) (n := 256) hx hb hK hP 8 0 rfl rfl hin d_Model_mark_166 ?_
                    refine lv_iconst (v := 5) hx hb d_Model_mark_167 (by decide) ?_
                    refine lv_icmp_ne hx hb d_Model_mark_168 rfl (fun h168 => ?_) (fun h168 => ?_)
                    · refine lv_aload_n hx hb d_Model_mark_194 rfl (lv_at hl 2 rfl) ?_
                      refine va_get (D := (dC, dI)) (ci := 4) (v := .ref (ad 8)) (C := R_Model) (T := F_Model) (N := 30) hx hb hts (fun q hq => List.mem_cons_of_mem _ (i_Model q hq)) hown hK hP 0 rfl rfl 10 (by decide) (hts _ (List.mem_cons_of_mem _ m_14_3)) (fun _ h9 => h9) rfl d_Model_mark_195 ?_
                      refine lv_iload_n hx hb d_Model_mark_198 rfl (lv_at hl 0 rfl) ?_
                      have hin : vp_in (X.2.2.2.2.2.2.2.2.1 k) 256 := by exact hin0
                      refine va_iald (f := X.2.2.1.1) (n := 256) hx hb hK hP 8 0 rfl rfl hin d_Model_mark_199 ?_
                      refine lv_iconst (v := 3) hx hb d_Model_mark_200 (by decide) ?_
                      refine lv_icmp_ne hx hb d_Model_mark_201 rfl (fun h201 => ?_) (fun h201 => ?_)
                      · refine lv_aload_n hx hb d_Model_mark_217 rfl (lv_at hl 2 rfl) ?_
                        refine lv_aload_n hx hb d_Model_mark_218 rfl (lv_at hl 2 rfl) ?_
                        refine va_get (D := (dC, dI)) (ci := 4) (v := .ref (ad 8)) (C := R_Model) (T := F_Model) (N := 30) hx hb hts (fun q hq => List.mem_cons_of_mem _ (i_Model q hq)) hown hK hP 0 rfl rfl 10 (by decide) (hts _ (List.mem_cons_of_mem _ m_14_3)) (fun _ h9 => h9) rfl d_Model_mark_219 ?_
                        refine lv_iload_n hx hb d_Model_mark_222 rfl (lv_at hl 0 rfl) ?_
                        have hin : vp_in (X.2.2.2.2.2.2.2.2.1 k) 256 := by exact hin0
                        refine va_iald (f := X.2.2.1.1) (n := 256) hx hb hK hP 8 0 rfl rfl hin d_Model_mark_223 ?_
                        refine lv_aload_n hx hb d_Model_mark_224 rfl (lv_at hl 2 rfl) ?_
                        refine va_get (D := (dC, dI)) (ci := 4) (v := .ref (ad 9)) (C := R_Model) (T := F_Model) (N := 30) hx hb hts (fun q hq => List.mem_cons_of_mem _ (i_Model q hq)) hown hK hP 0 rfl rfl 11 (by decide) (hts _ (List.mem_cons_of_mem _ m_14_4)) (fun _ h9 => h9) rfl d_Model_mark_225 ?_
                        refine lv_iload_n hx hb d_Model_mark_228 rfl (lv_at hl 0 rfl) ?_
                        have hin : vp_in (X.2.2.2.2.2.2.2.2.1 k) 256 := by exact hin0
                        refine va_iald (f := X.2.2.1.2.1) (n := 256) hx hb hK hP 9 0 rfl rfl hin d_Model_mark_229 ?_
                        refine lv_aload_n hx hb d_Model_mark_230 rfl (lv_at hl 2 rfl) ?_
                        refine va_get (D := (dC, dI)) (ci := 4) (v := .ref (ad 10)) (C := R_Model) (T := F_Model) (N := 30) hx hb hts (fun q hq => List.mem_cons_of_mem _ (i_Model q hq)) hown hK hP 0 rfl rfl 12 (by decide) (hts _ (List.mem_cons_of_mem _ m_14_5)) (fun _ h9 => h9) rfl d_Model_mark_231 ?_
                        refine lv_iload_n hx hb d_Model_mark_234 rfl (lv_at hl 0 rfl) ?_
                        have hin : vp_in (X.2.2.2.2.2.2.2.2.1 k) 256 := by exact hin0
                        refine va_iald (f := X.2.2.1.2.2.1) (n := 256) hx hb hK hP 10 0 rfl rfl hin d_Model_mark_235 ?_
                        refine lm_vv (b := ad 0) (As := [.int (X.2.2.1.1 (X.2.2.2.2.2.2.2.2.1 k).toNatClampNeg), .int (X.2.2.1.2.1 (X.2.2.2.2.2.2.2.2.1 k).toNatClampNeg), .int (X.2.2.1.2.2.1 (X.2.2.2.2.2.2.2.2.1 k).toNatClampNeg)]) (rest := []) (wr := ([] : va_W)) ⟨hx, hb, hml, hown, hts⟩ hK hP hD hS hA [0, 1, 2, 3, 4, 5, 6, 7, 8, 9, 10, 11, 12, 13, 14, 15] [] rfl rfl (by decide) (by decide) (by decide) (c_Model_meetValue l dC dI cA cZ ad _ X (X.2.2.1.1 (X.2.2.2.2.2.2.2.2.1 k).toNatClampNeg) (X.2.2.1.2.1 (X.2.2.2.2.2.2.2.2.1 k).toNatClampNeg) (X.2.2.1.2.2.1 (X.2.2.2.2.2.2.2.2.1 k).toNatClampNeg) (by exact fun q => (hoX _ hj0).1 (Or.inr q)) (by exact fun _ => (hoX _ hj0).2) (by exact hmX)) (cwV 3 hts (lm_gV m_16_17 m_16_18 m_20_8 m_0_5 m_16_19) rfl rfl rfl (by decide +kernel) ⟨Nat.le_of_ble_eq_true rfl, Nat.le_of_ble_eq_true rfl⟩) (va_recv (q0 := 0) hK hP rfl rfl) lm_bl_no (fun _ _ _ => trivial) hl.1 rfl rfl (Nat.le_of_ble_eq_true rfl) d_Model_mark_236 ⟨Nat.le_of_ble_eq_true rfl, Nat.le_of_ble_eq_true rfl⟩ (fun u236 H locs w236 hP hD hS => ?_)
                        have hP : va_P (dC, dI) classes (mr_W cA cZ ad u236) H := hP
                        have hD : va_D A (mr_W cA cZ ad u236) := hD
                        refine lv_iinc (k := 1) (v := (nI (k + 1))) (lv' := [(1, .int (nI (k + 1))), (2, .int (X.2.2.2.2.2.2.2.2.1 k)), (0, .ref (ad 0))]) hx hb d_Model_mark_239 hl rfl ((nI_succ k).symm) (by decide) rfl (fun ls hl => ?_)
                        refine lv_goto hx hb d_Model_mark_242 rfl ?_
                        have hr1 : md_td1 X (r_td X k) = u236 := by
                          subst w236; unfold md_td1; (first | rw [if_pos h168] | rw [if_neg h168]); (first | rw [if_pos h201] | rw [if_neg h201]); try rfl
                        exact ih (k + 1) u236 _ _ _ (by omega) (by rw [← hr1]; exact md_mk_td1 hmX hoX hin0) (by rw [← hr1]; exact md_ok_eq (md_eq_td1 X _) hoX) (by rw [hqX, md_tdN, if_neg h151, hr1]) (lv_sub hl [0, 2] rfl) hP hD hS
                      · refine lv_aload_n hx hb d_Model_mark_204 rfl (lv_at hl 2 rfl) ?_
                        refine lv_aload_n hx hb d_Model_mark_205 rfl (lv_at hl 2 rfl) ?_
                        refine va_get (D := (dC, dI)) (ci := 4) (v := .ref (ad 10)) (C := R_Model) (T := F_Model) (N := 30) hx hb hts (fun q hq => List.mem_cons_of_mem _ (i_Model q hq)) hown hK hP 0 rfl rfl 12 (by decide) (hts _ (List.mem_cons_of_mem _ m_14_5)) (fun _ h9 => h9) rfl d_Model_mark_206 ?_
                        refine lv_iload_n hx hb d_Model_mark_209 rfl (lv_at hl 0 rfl) ?_
                        have hin : vp_in (X.2.2.2.2.2.2.2.2.1 k) 256 := by exact hin0
                        refine va_iald (f := X.2.2.1.2.2.1) (n := 256) hx hb hK hP 10 0 rfl rfl hin d_Model_mark_210 ?_
                        refine lm_vv (b := ad 0) (As := [.int (X.2.2.1.2.2.1 (X.2.2.2.2.2.2.2.2.1 k).toNatClampNeg)]) (rest := []) (wr := ([] : va_W)) ⟨hx, hb, hml, hown, hts⟩ hK hP hD hS hA [0, 1, 2, 3, 4, 5, 6, 7, 8, 9, 10, 11, 12, 13, 14, 15] [] rfl rfl (by decide) (by decide) (by decide) (c_Model_meet l dC dI cA cZ ad _ X (X.2.2.1.2.2.1 (X.2.2.2.2.2.2.2.2.1 k).toNatClampNeg) (by exact (hoX _ hj0).2) (by exact hmX)) (cwV 1 hts (lm_gV m_16_20 m_16_21 m_20_9 m_0_5 m_16_22) rfl rfl rfl (by decide +kernel) ⟨Nat.le_of_ble_eq_true rfl, Nat.le_of_ble_eq_true rfl⟩) (va_recv (q0 := 0) hK hP rfl rfl) lm_bl_no (fun _ _ _ => trivial) hl.1 rfl rfl (Nat.le_of_ble_eq_true rfl) d_Model_mark_211 ⟨Nat.le_of_ble_eq_true rfl, Nat.le_of_ble_eq_true rfl⟩ (fun u211 H locs w211 hP hD hS => ?_)
                        have hP : va_P (dC, dI) classes (mr_W cA cZ ad u211) H := hP
                        have hD : va_D A (mr_W cA cZ ad u211) := hD
                        refine lv_goto hx hb d_Model_mark_214 rfl ?_
                        refine lv_iinc (k := 1) (v := (nI (k + 1))) (lv' := [(1, .int (nI (k + 1))), (2, .int (X.2.2.2.2.2.2.2.2.1 k)), (0, .ref (ad 0))]) hx hb d_Model_mark_239 hl rfl ((nI_succ k).symm) (by decide) rfl (fun ls hl => ?_)
                        refine lv_goto hx hb d_Model_mark_242 rfl ?_
                        have hr1 : md_td1 X (r_td X k) = u211 := by
                          subst w211; unfold md_td1; (first | rw [if_pos h168] | rw [if_neg h168]); (first | rw [if_pos h201] | rw [if_neg h201]); try rfl
                        exact ih (k + 1) u211 _ _ _ (by omega) (by rw [← hr1]; exact md_mk_td1 hmX hoX hin0) (by rw [← hr1]; exact md_ok_eq (md_eq_td1 X _) hoX) (by rw [hqX, md_tdN, if_neg h151, hr1]) (lv_sub hl [0, 2] rfl) hP hD hS
                    · refine lv_aload_n hx hb d_Model_mark_171 rfl (lv_at hl 2 rfl) ?_
                      refine lv_aload_n hx hb d_Model_mark_172 rfl (lv_at hl 2 rfl) ?_
                      refine va_get (D := (dC, dI)) (ci := 4) (v := .ref (ad 9)) (C := R_Model) (T := F_Model) (N := 30) hx hb hts (fun q hq => List.mem_cons_of_mem _ (i_Model q hq)) hown hK hP 0 rfl rfl 11 (by decide) (hts _ (List.mem_cons_of_mem _ m_14_4)) (fun _ h9 => h9) rfl d_Model_mark_173 ?_
                      refine lv_iload_n hx hb d_Model_mark_176 rfl (lv_at hl 0 rfl) ?_
                      have hin : vp_in (X.2.2.2.2.2.2.2.2.1 k) 256 := by exact hin0
                      refine va_iald (f := X.2.2.1.2.1) (n := 256) hx hb hK hP 9 0 rfl rfl hin d_Model_mark_177 ?_
                      refine lm_vv (b := ad 0) (As := [.int (X.2.2.1.2.1 (X.2.2.2.2.2.2.2.2.1 k).toNatClampNeg)]) (rest := []) (wr := ([] : va_W)) ⟨hx, hb, hml, hown, hts⟩ hK hP hD hS hA [0, 1, 2, 3, 4, 5, 6, 7, 8, 9, 10, 11, 12, 13, 14, 15] [] rfl rfl (by decide) (by decide) (by decide) (c_Model_meet l dC dI cA cZ ad _ X (X.2.2.1.2.1 (X.2.2.2.2.2.2.2.2.1 k).toNatClampNeg) (by exact (hoX _ hj0).1 (Or.inl h168)) (by exact hmX)) (cwV 1 hts (lm_gV m_16_20 m_16_21 m_20_9 m_0_5 m_16_22) rfl rfl rfl (by decide +kernel) ⟨Nat.le_of_ble_eq_true rfl, Nat.le_of_ble_eq_true rfl⟩) (va_recv (q0 := 0) hK hP rfl rfl) lm_bl_no (fun _ _ _ => trivial) hl.1 rfl rfl (Nat.le_of_ble_eq_true rfl) d_Model_mark_178 ⟨Nat.le_of_ble_eq_true rfl, Nat.le_of_ble_eq_true rfl⟩ (fun u178 H locs w178 hP hD hS => ?_)
                      have hP : va_P (dC, dI) classes (mr_W cA cZ ad u178) H := hP
                      have hD : va_D A (mr_W cA cZ ad u178) := hD
                      refine lv_aload_n hx hb d_Model_mark_181 rfl (lv_at hl 2 rfl) ?_
                      refine lv_aload_n hx hb d_Model_mark_182 rfl (lv_at hl 2 rfl) ?_
                      refine va_get (D := (dC, dI)) (ci := 4) (v := .ref (ad 10)) (C := R_Model) (T := F_Model) (N := 30) hx hb hts (fun q hq => List.mem_cons_of_mem _ (i_Model q hq)) hown hK hP 0 rfl rfl 12 (by decide) (hts _ (List.mem_cons_of_mem _ m_14_5)) (fun _ h9 => h9) rfl d_Model_mark_183 ?_
                      refine lv_iload_n hx hb d_Model_mark_186 rfl (lv_at hl 0 rfl) ?_
                      have hin : vp_in (X.2.2.2.2.2.2.2.2.1 k) 256 := by exact hin0
                      refine va_iald (f := u178.2.2.1.2.2.1) (n := 256) hx hb hK hP 10 0 rfl rfl hin d_Model_mark_187 ?_
                      refine lm_vv (b := ad 0) (As := [.int (u178.2.2.1.2.2.1 (X.2.2.2.2.2.2.2.2.1 k).toNatClampNeg)]) (rest := []) (wr := ([] : va_W)) ⟨hx, hb, hml, hown, hts⟩ hK hP hD hS hA [0, 1, 2, 3, 4, 5, 6, 7, 8, 9, 10, 11, 12, 13, 14, 15] [] rfl rfl (by decide) (by decide) (by decide) (c_Model_meet l dC dI cA cZ ad _ u178 (u178.2.2.1.2.2.1 (X.2.2.2.2.2.2.2.2.1 k).toNatClampNeg) (by rw [w178]; exact (md_ok_eq (md_eq_meet X _) hoX _ hj0).2) (by rw [w178]; exact md_mk_meet hmX ((hoX _ hj0).1 (Or.inl h168)))) (cwV 1 hts (lm_gV m_16_20 m_16_21 m_20_9 m_0_5 m_16_22) rfl rfl rfl (by decide +kernel) ⟨Nat.le_of_ble_eq_true rfl, Nat.le_of_ble_eq_true rfl⟩) (va_recv (q0 := 0) hK hP rfl rfl) lm_bl_no (fun _ _ _ => trivial) hl.1 rfl rfl (Nat.le_of_ble_eq_true rfl) d_Model_mark_188 ⟨Nat.le_of_ble_eq_true rfl, Nat.le_of_ble_eq_true rfl⟩ (fun u188 H locs w188 hP hD hS => ?_)
                      have hP : va_P (dC, dI) classes (mr_W cA cZ ad u188) H := hP
                      have hD : va_D A (mr_W cA cZ ad u188) := hD
                      refine lv_goto hx hb d_Model_mark_191 rfl ?_
                      refine lv_iinc (k := 1) (v := (nI (k + 1))) (lv' := [(1, .int (nI (k + 1))), (2, .int (X.2.2.2.2.2.2.2.2.1 k)), (0, .ref (ad 0))]) hx hb d_Model_mark_239 hl rfl ((nI_succ k).symm) (by decide) rfl (fun ls hl => ?_)
                      refine lv_goto hx hb d_Model_mark_242 rfl ?_
                      have hr1 : md_td1 X (r_td X k) = u188 := by
                        subst w178 w188; unfold md_td1; (first | rw [if_pos h168] | rw [if_neg h168]); try rfl
                      exact ih (k + 1) u188 _ _ _ (by omega) (by rw [← hr1]; exact md_mk_td1 hmX hoX hin0) (by rw [← hr1]; exact md_ok_eq (md_eq_td1 X _) hoX) (by rw [hqX, md_tdN, if_neg h151, hr1]) (lv_sub hl [0, 2] rfl) hP hD hS
              exact loop 256 0 Y _ _ _ (by omega) (by exact hmY) (by exact md_ok_eq heY ho) (by rw [hqY, md_frN]) hl hP hD hS
            | succ fu ih => 
              intro k Y ls H locs hk hmY heY hqY hl hP hD hS
              have hfy : Y.2.2.2.1.2.1 = nI z := ((md_wh_eq heY).2.2.2).trans hfr
              have hfY : ∀ j, j < z → (r_wh Y j = 0 ∨ r_wh Y j = 1 → md_c (r_fi Y j)) ∧ (r_wh Y j = 2 ∨ r_wh Y j = 4 → md_c (r_se Y j)) := by
                rw [(md_wh_eq heY).1, (md_wh_eq heY).2.1, (md_wh_eq heY).2.2.1]; exact hfc
              refine lv_iload_n hx hb d_Model_mark_71 rfl (lv_at hl 0 rfl) ?_
              refine lv_aload_n hx hb d_Model_mark_72 rfl (lv_at hl 1 rfl) ?_
              refine va_get (D := (dC, dI)) (ci := 4) (v := .int Y.2.2.2.1.2.1) (C := R_Model) (T := F_Model) (N := 30) hx hb hts (fun q hq => List.mem_cons_of_mem _ (i_Model q hq)) hown hK hP 0 rfl rfl 19 (by decide) (hts _ (List.mem_cons_of_mem _ m_14_12)) (fun _ h9 => h9) rfl d_Model_mark_73 ?_
              refine lv_icmp_ge hx hb d_Model_mark_76 rfl (fun h76 => by exact absurd h76 (by rw [hfy]; exact nI_ge (by omega) (by omega))) (fun h76 => ?_)
              refine lv_aload_n hx hb d_Model_mark_79 rfl (lv_at hl 1 rfl) ?_
              refine va_get (D := (dC, dI)) (ci := 4) (v := .ref (ad 13)) (C := R_Model) (T := F_Model) (N := 30) hx hb hts (fun q hq => List.mem_cons_of_mem _ (i_Model q hq)) hown hK hP 0 rfl rfl 16 (by decide) (hts _ (List.mem_cons_of_mem _ m_14_9)) (fun _ h9 => h9) rfl d_Model_mark_80 ?_
              refine lv_iload_n hx hb d_Model_mark_83 rfl (lv_at hl 0 rfl) ?_
              have hin : vp_in (nI k) 200 := by first | assumption | exact vp_in_nI (by omega) (by decide)
              refine va_iald (f := Y.2.2.1.2.2.2.1) (n := 200) hx hb hK hP 13 0 rfl rfl hin d_Model_mark_84 ?_
              rw [nI_clamp (show k < 2 ^ 31 by omega)]
              refine lv_if_eq hx hb d_Model_mark_85 rfl (fun h85 => ?_) (fun h85 => ?_)
              · refine lv_aload_n hx hb d_Model_mark_98 rfl (lv_at hl 1 rfl) ?_
                refine lv_aload_n hx hb d_Model_mark_99 rfl (lv_at hl 1 rfl) ?_
                refine va_get (D := (dC, dI)) (ci := 4) (v := .ref (ad 14)) (C := R_Model) (T := F_Model) (N := 30) hx hb hts (fun q hq => List.mem_cons_of_mem _ (i_Model q hq)) hown hK hP 0 rfl rfl 17 (by decide) (hts _ (List.mem_cons_of_mem _ m_14_10)) (fun _ h9 => h9) rfl d_Model_mark_100 ?_
                refine lv_iload_n hx hb d_Model_mark_103 rfl (lv_at hl 0 rfl) ?_
                have hin : vp_in (nI k) 200 := by first | assumption | exact vp_in_nI (by omega) (by decide)
                refine va_iald (f := Y.2.2.1.2.2.2.2) (n := 200) hx hb hK hP 14 0 rfl rfl hin d_Model_mark_104 ?_
                rw [nI_clamp (show k < 2 ^ 31 by omega)]
                refine lm_vv (b := ad 0) (As := [.int (Y.2.2.1.2.2.2.2 k)]) (rest := []) (wr := ([] : va_W)) ⟨hx, hb, hml, hown, hts⟩ hK hP hD hS hA [0, 1, 2, 3, 4, 5, 6, 7, 8, 9, 10, 11, 12, 13, 14, 15] [] rfl rfl (by decide) (by decide) (by decide) (c_Model_meet l dC dI cA cZ ad _ Y (Y.2.2.1.2.2.2.2 k) (by exact (hfY k (by omega)).1 (by first | exact Or.inl h85 | exact Or.inr h95)) (by exact hmY)) (cwV 1 hts (lm_gV m_16_20 m_16_21 m_20_9 m_0_5 m_16_22) rfl rfl rfl (by decide +kernel) ⟨Nat.le_of_ble_eq_true rfl, Nat.le_of_ble_eq_true rfl⟩) (va_recv (q0 := 0) hK hP rfl rfl) lm_bl_no (fun _ _ _ => trivial) hl.1 rfl rfl (Nat.le_of_ble_eq_true rfl) d_Model_mark_105 ⟨Nat.le_of_ble_eq_true rfl, Nat.le_of_ble_eq_true rfl⟩ (fun u105 H locs w105 hP hD hS => ?_)
                have hP : va_P (dC, dI) classes (mr_W cA cZ ad u105) H := hP
                have hD : va_D A (mr_W cA cZ ad u105) := hD
                refine lv_aload_n hx hb d_Model_mark_108 rfl (lv_at hl 1 rfl) ?_
                refine va_get (D := (dC, dI)) (ci := 4) (v := .ref (ad 13)) (C := R_Model) (T := F_Model) (N := 30) hx hb hts (fun q hq => List.mem_cons_of_mem _ (i_Model q hq)) hown hK hP 0 rfl rfl 16 (by decide) (hts _ (List.mem_cons_of_mem _ m_14_9)) (fun _ h9 => h9) rfl d_Model_mark_109 ?_
                refine lv_iload_n hx hb d_Model_mark_112 rfl (lv_at hl 0 rfl) ?_
                have hin : vp_in (nI k) 200 := by first | assumption | exact vp_in_nI (by omega) (by decide)
                refine va_iald (f := u105.2.2.1.2.2.2.1) (n := 200) hx hb hK hP 13 0 rfl rfl hin d_Model_mark_113 ?_
                rw [nI_clamp (show k < 2 ^ 31 by omega)]
                refine lv_iconst (v := 2) hx hb d_Model_mark_114 (by decide) ?_
                refine lv_icmp_eq hx hb d_Model_mark_115 rfl (fun h115 => ?_) (fun h115 => ?_)
                · refine lv_aload_n hx hb d_Model_mark_128 rfl (lv_at hl 1 rfl) ?_
                  refine lv_aload_n hx hb d_Model_mark_129 rfl (lv_at hl 1 rfl) ?_
                  refine va_get (D := (dC, dI)) (ci := 4) (v := .ref (ad 15)) (C := R_Model) (T := F_Model) (N := 30) hx hb hts (fun q hq => List.mem_cons_of_mem _ (i_Model q hq)) hown hK hP 0 rfl rfl 18 (by decide) (hts _ (List.mem_cons_of_mem _ m_14_11)) (fun _ h9 => h9) rfl d_Model_mark_130 ?_
                  refine lv_iload_n hx hb d_Model_mark_133 rfl (lv_at hl 0 rfl) ?_
                  have hin : vp_in (nI k) 200 := by first | assumption | exact vp_in_nI (by omega) (by decide)
                  refine va_iald (f := u105.2.2.2.1.1) (n := 200) hx hb hK hP 15 0 rfl rfl hin d_Model_mark_134 ?_
                  rw [nI_clamp (show k < 2 ^ 31 by omega)]
                  refine lm_vv (b := ad 0) (As := [.int (u105.2.2.2.1.1 k)]) (rest := []) (wr := ([] : va_W)) ⟨hx, hb, hml, hown, hts⟩ hK hP hD hS hA [0, 1, 2, 3, 4, 5, 6, 7, 8, 9, 10, 11, 12, 13, 14, 15] [] rfl rfl (by decide) (by decide) (by decide) (c_Model_meet l dC dI cA cZ ad _ u105 (u105.2.2.2.1.1 k) (by first | exact (hfY k (by omega)).2 (by first | exact Or.inl h115 | exact Or.inr h125) | (have q9 := md_wh_eq (md_eq_meet Y (r_fi Y k)); rw [← w105] at q9; rw [show u105.2.2.2.1.1 = r_se Y from q9.2.2.1]; refine (hfY k (by omega)).2 ?_; rw [← q9.1]; first | exact Or.inl h115 | exact Or.inr h125)) (by first | exact hmY | (rw [w105]; exact md_mk_meet hmY ((hfY k (by omega)).1 (by first | exact Or.inl h85 | exact Or.inr h95))))) (cwV 1 hts (lm_gV m_16_20 m_16_21 m_20_9 m_0_5 m_16_22) rfl rfl rfl (by decide +kernel) ⟨Nat.le_of_ble_eq_true rfl, Nat.le_of_ble_eq_true rfl⟩) (va_recv (q0 := 0) hK hP rfl rfl) lm_bl_no (fun _ _ _ => trivial) hl.1 rfl rfl (Nat.le_of_ble_eq_true rfl) d_Model_mark_135 ⟨Nat.le_of_ble_eq_true rfl, Nat.le_of_ble_eq_true rfl⟩ (fun u135 H locs w135 hP hD hS => ?_)
                  have hP : va_P (dC, dI) classes (mr_W cA cZ ad u135) H := hP
                  have hD : va_D A (mr_W cA cZ ad u135) := hD
                  refine lv_iinc (k := 0) (v := (nI (k + 1))) (lv' := [(1, .int (nI (k + 1))), (0, .ref (ad 0))]) hx hb d_Model_mark_138 hl rfl ((nI_succ k).symm) (by decide) rfl (fun ls hl => ?_)
                  refine lv_goto hx hb d_Model_mark_141 rfl ?_
                  have hfa : md_fa Y k = u105 := by
                    unfold md_fa; (first | rw [if_pos h85] | rw [if_neg h85]); exact w105.symm
                  have hfb : md_fb u105 k = u135 := by
                    unfold md_fb; (first | rw [if_pos h115] | rw [if_neg h115]); exact w135.symm
                  have hr1 : md_fr1 Y k = u135 := by unfold md_fr1; rw [hfa, hfb]
                  exact ih (k + 1) u135 _ _ _ (by omega) (by rw [← hr1]; exact md_mk_fb (md_mk_fa hmY (hfY k (by omega)).1) (by rw [(md_wh_eq (md_eq_fa Y k)).1, (md_wh_eq (md_eq_fa Y k)).2.2.1]; exact (hfY k (by omega)).2)) (by rw [← hr1]; exact md_eq_tr (md_eq_fr1 Y k) heY) (by rw [hqY, md_frN, hr1]) (lv_sub hl [0, 1] rfl) hP hD hS
                · refine lv_aload_n hx hb d_Model_mark_118 rfl (lv_at hl 1 rfl) ?_
                  refine va_get (D := (dC, dI)) (ci := 4) (v := .ref (ad 13)) (C := R_Model) (T := F_Model) (N := 30) hx hb hts (fun q hq => List.mem_cons_of_mem _ (i_Model q hq)) hown hK hP 0 rfl rfl 16 (by decide) (hts _ (List.mem_cons_of_mem _ m_14_9)) (fun _ h9 => h9) rfl d_Model_mark_119 ?_
                  refine lv_iload_n hx hb d_Model_mark_122 rfl (lv_at hl 0 rfl) ?_
                  have hin : vp_in (nI k) 200 := by first | assumption | exact vp_in_nI (by omega) (by decide)
                  refine va_iald (f := u105.2.2.1.2.2.2.1) (n := 200) hx hb hK hP 13 0 rfl rfl hin d_Model_mark_123 ?_
                  rw [nI_clamp (show k < 2 ^ 31 by omega)]
                  refine lv_iconst (v := 4) hx hb d_Model_mark_124 (by decide) ?_
                  refine lv_icmp_ne hx hb d_Model_mark_125 rfl (fun h125 => ?_) (fun h125 => ?_)
                  · refine lv_iinc (k := 0) (v := (nI (k + 1))) (lv' := [(1, .int (nI (k + 1))), (0, .ref (ad 0))]) hx hb d_Model_mark_138 hl rfl ((nI_succ k).symm) (by decide) rfl (fun ls hl => ?_)
                    refine lv_goto hx hb d_Model_mark_141 rfl ?_
                    have hfa : md_fa Y k = u105 := by
                      unfold md_fa; (first | rw [if_pos h85] | rw [if_neg h85]); exact w105.symm
                    have hfb : md_fb u105 k = u105 := by
                      unfold md_fb; (first | rw [if_pos h115] | rw [if_neg h115]); (first | rw [if_pos h125] | rw [if_neg h125])
                    have hr1 : md_fr1 Y k = u105 := by unfold md_fr1; rw [hfa, hfb]
                    exact ih (k + 1) u105 _ _ _ (by omega) (by rw [← hr1]; exact md_mk_fb (md_mk_fa hmY (hfY k (by omega)).1) (by rw [(md_wh_eq (md_eq_fa Y k)).1, (md_wh_eq (md_eq_fa Y k)).2.2.1]; exact (hfY k (by omega)).2)) (by rw [← hr1]; exact md_eq_tr (md_eq_fr1 Y k) heY) (by rw [hqY, md_frN, hr1]) (lv_sub hl [0, 1] rfl) hP hD hS
                  · refine lv_aload_n hx hb d_Model_mark_128 rfl (lv_at hl 1 rfl) ?_
                    refine lv_aload_n hx hb d_Model_mark_129 rfl (lv_at hl 1 rfl) ?_
                    refine va_get (D := (dC, dI)) (ci := 4) (v := .ref (ad 15)) (C := R_Model) (T := F_Model) (N := 30) hx hb hts (fun q hq => List.mem_cons_of_mem _ (i_Model q hq)) hown hK hP 0 rfl rfl 18 (by decide) (hts _ (List.mem_cons_of_mem _ m_14_11)) (fun _ h9 => h9) rfl d_Model_mark_130 ?_
                    refine lv_iload_n hx hb d_Model_mark_133 rfl (lv_at hl 0 rfl) ?_
                    have hin : vp_in (nI k) 200 := by first | assumption | exact vp_in_nI (by omega) (by decide)
                    refine va_iald (f := u105.2.2.2.1.1) (n := 200) hx hb hK hP 15 0 rfl rfl hin d_Model_mark_134 ?_
                    rw [nI_clamp (show k < 2 ^ 31 by omega)]
                    refine lm_vv (b := ad 0) (As := [.int (u105.2.2.2.1.1 k)]) (rest := []) (wr := ([] : va_W)) ⟨hx, hb, hml, hown, hts⟩ hK hP hD hS hA [0, 1, 2, 3, 4, 5, 6, 7, 8, 9, 10, 11, 12, 13, 14, 15] [] rfl rfl (by decide) (by decide) (by decide) (c_Model_meet l dC dI cA cZ ad _ u105 (u105.2.2.2.1.1 k) (by first | exact (hfY k (by omega)).2 (by first | exact Or.inl h115 | exact Or.inr h125) | (have q9 := md_wh_eq (md_eq_meet Y (r_fi Y k)); rw [← w105] at q9; rw [show u105.2.2.2.1.1 = r_se Y from q9.2.2.1]; refine (hfY k (by omega)).2 ?_; rw [← q9.1]; first | exact Or.inl h115 | exact Or.inr h125)) (by first | exact hmY | (rw [w105]; exact md_mk_meet hmY ((hfY k (by omega)).1 (by first | exact Or.inl h85 | exact Or.inr h95))))) (cwV 1 hts (lm_gV m_16_20 m_16_21 m_20_9 m_0_5 m_16_22) rfl rfl rfl (by decide +kernel) ⟨Nat.le_of_ble_eq_true rfl, Nat.le_of_ble_eq_true rfl⟩) (va_recv (q0 := 0) hK hP rfl rfl) lm_bl_no (fun _ _ _ => trivial) hl.1 rfl rfl (Nat.le_of_ble_eq_true rfl) d_Model_mark_135 ⟨Nat.le_of_ble_eq_true rfl, Nat.le_of_ble_eq_true rfl⟩ (fun u135 H locs w135 hP hD hS => ?_)
                    have hP : va_P (dC, dI) classes (mr_W cA cZ ad u135) H := hP
                    have hD : va_D A (mr_W cA cZ ad u135) := hD
                    refine lv_iinc (k := 0) (v := (nI (k + 1))) (lv' := [(1, .int (nI (k + 1))), (0, .ref (ad 0))]) hx hb d_Model_mark_138 hl rfl ((nI_succ k).symm) (by decide) rfl (fun ls hl => ?_)
                    refine lv_goto hx hb d_Model_mark_141 rfl ?_
                    have hfa : md_fa Y k = u105 := by
                      unfold md_fa; (first | rw [if_pos h85] | rw [if_neg h85]); exact w105.symm
                    have hfb : md_fb u105 k = u135 := by
                      unfold md_fb; (first | rw [if_pos h115] | rw [if_neg h115]); (first | rw [if_pos h125] | rw [if_neg h125]); exact w135.symm
                    have hr1 : md_fr1 Y k = u135 := by unfold md_fr1; rw [hfa, hfb]
                    exact ih (k + 1) u135 _ _ _ (by omega) (by rw [← hr1]; exact md_mk_fb (md_mk_fa hmY (hfY k (by omega)).1) (by rw [(md_wh_eq (md_eq_fa Y k)).1, (md_wh_eq (md_eq_fa Y k)).2.2.1]; exact (hfY k (by omega)).2)) (by rw [← hr1]; exact md_eq_tr (md_eq_fr1 Y k) heY) (by rw [hqY, md_frN, hr1]) (lv_sub hl [0, 1] rfl) hP hD hS
              · refine lv_aload_n hx hb d_Model_mark_88 rfl (lv_at hl 1 rfl) ?_
                refine va_get (D := (dC, dI)) (ci := 4) (v := .ref (ad 13)) (C := R_Model) (T := F_Model) (N := 30) hx hb hts (fun q hq => List.mem_cons_of_mem _ (i_Model q hq)) hown hK hP 0 rfl rfl 16 (by decide) (hts _ (List.mem_cons_of_mem _ m_14_9)) (fun _ h9 => h9) rfl d_Model_mark_89 ?_
                refine lv_iload_n hx hb d_Model_mark_92 rfl (lv_at hl 0 rfl) ?_
                have hin : vp_in (nI k) 200 := by first | assumption | exact vp_in_nI (by omega) (by decide)
                refine va_iald (f := Y.2.2.1.2.2.2.1) (n := 200) hx hb hK hP 13 0 rfl rfl hin d_Model_mark_93 ?_
                rw [nI_clamp (show k < 2 ^ 31 by omega)]
                refine lv_iconst (v := 1) hx hb d_Model_mark_94 (by decide) ?_
                refine lv_icmp_ne hx hb d_Model_mark_95 rfl (fun h95 => ?_) (fun h95 => ?_)
                · refine lv_aload_n hx hb d_Model_mark_108 rfl (lv_at hl 1 rfl) ?_
                  refine va_get (D := (dC, dI)) (ci := 4) (v := .ref (ad 13)) (C := R_Model) (T := F_Model) (N := 30) hx hb hts (fun q hq => List.mem_cons_of_mem _ (i_Model q hq)) hown hK hP 0 rfl rfl 16 (by decide) (hts _ (List.mem_cons_of_mem _ m_14_9)) (fun _ h9 => h9) rfl d_Model_mark_109 ?_
                  refine lv_iload_n hx hb d_Model_mark_112 rfl (lv_at hl 0 rfl) ?_
                  have hin : vp_in (nI k) 200 := by first | assumption | exact vp_in_nI (by omega) (by decide)
                  refine va_iald (f := Y.2.2.1.2.2.2.1) (n := 200) hx hb hK hP 13 0 rfl rfl hin d_Model_mark_113 ?_
                  rw [nI_clamp (show k < 2 ^ 31 by omega)]
                  refine lv_iconst (v := 2) hx hb d_Model_mark_114 (by decide) ?_
                  refine lv_icmp_eq hx hb d_Model_mark_115 rfl (fun h115 => ?_) (fun h115 => ?_)
                  · refine lv_aload_n hx hb d_Model_mark_128 rfl (lv_at hl 1 rfl) ?_
                    refine lv_aload_n hx hb d_Model_mark_129 rfl (lv_at hl 1 rfl) ?_
                    refine va_get (D := (dC, dI)) (ci := 4) (v := .ref (ad 15)) (C := R_Model) (T := F_Model) (N := 30) hx hb hts (fun q hq => List.mem_cons_of_mem _ (i_Model q hq)) hown hK hP 0 rfl rfl 18 (by decide) (hts _ (List.mem_cons_of_mem _ m_14_11)) (fun _ h9 => h9) rfl d_Model_mark_130 ?_
                    refine lv_iload_n hx hb d_Model_mark_133 rfl (lv_at hl 0 rfl) ?_
                    have hin : vp_in (nI k) 200 := by first | assumption | exact vp_in_nI (by omega) (by decide)
                    refine va_iald (f := Y.2.2.2.1.1) (n := 200) hx hb hK hP 15 0 rfl rfl hin d_Model_mark_134 ?_
                    rw [nI_clamp (show k < 2 ^ 31 by omega)]
                    refine lm_vv (b := ad 0) (As := [.int (Y.2.2.2.1.1 k)]) (rest := []) (wr := ([] : va_W)) ⟨hx, hb, hml, hown, hts⟩ hK hP hD hS hA [0, 1, 2, 3, 4, 5, 6, 7, 8, 9, 10, 11, 12, 13, 14, 15] [] rfl rfl (by decide) (by decide) (by decide) (c_Model_meet l dC dI cA cZ ad _ Y (Y.2.2.2.1.1 k) (by first | exact (hfY k (by omega)).2 (by first | exact Or.inl h115 | exact Or.inr h125) | (have q9 := md_wh_eq (md_eq_meet Y (r_fi Y k)); rw [← w105] at q9; rw [show u105.2.2.2.1.1 = r_se Y from q9.2.2.1]; refine (hfY k (by omega)).2 ?_; rw [← q9.1]; first | exact Or.inl h115 | exact Or.inr h125)) (by first | exact hmY | (rw [w105]; exact md_mk_meet hmY ((hfY k (by omega)).1 (by first | exact Or.inl h85 | exact Or.inr h95))))) (cwV 1 hts (lm_gV m_16_20 m_16_21 m_20_9 m_0_5 m_16_22) rfl rfl rfl (by decide +kernel) ⟨Nat.le_of_ble_eq_true rfl, Nat.le_of_ble_eq_true rfl⟩) (va_recv (q0 := 0) hK hP rfl rfl) lm_bl_no (fun _ _ _ => trivial) hl.1 rfl rfl (Nat.le_of_ble_eq_true rfl) d_Model_mark_135 ⟨Nat.le_of_ble_eq_true rfl, Nat.le_of_ble_eq_true rfl⟩ (fun u135 H locs w135 hP hD hS => ?_)
                    have hP : va_P (dC, dI) classes (mr_W cA cZ ad u135) H := hP
                    have hD : va_D A (mr_W cA cZ ad u135) := hD
                    refine lv_iinc (k := 0) (v := (nI (k + 1))) (lv' := [(1, .int (nI (k + 1))), (0, .ref (ad 0))]) hx hb d_Model_mark_138 hl rfl ((nI_succ k).symm) (by decide) rfl (fun ls hl => ?_)
                    refine lv_goto hx hb d_Model_mark_141 rfl ?_
                    have hfa : md_fa Y k = Y := by
                      unfold md_fa; (first | rw [if_pos h85] | rw [if_neg h85]); (first | rw [if_pos h95] | rw [if_neg h95])
                    have hfb : md_fb Y k = u135 := by
                      unfold md_fb; (first | rw [if_pos h115] | rw [if_neg h115]); exact w135.symm
                    have hr1 : md_fr1 Y k = u135 := by unfold md_fr1; rw [hfa, hfb]
                    exact ih (k + 1) u135 _ _ _ (by omega) (by rw [← hr1]; exact md_mk_fb (md_mk_fa hmY (hfY k (by omega)).1) (by rw [(md_wh_eq (md_eq_fa Y k)).1, (md_wh_eq (md_eq_fa Y k)).2.2.1]; exact (hfY k (by omega)).2)) (by rw [← hr1]; exact md_eq_tr (md_eq_fr1 Y k) heY) (by rw [hqY, md_frN, hr1]) (lv_sub hl [0, 1] rfl) hP hD hS
                  · refine lv_aload_n hx hb d_Model_mark_118 rfl (lv_at hl 1 rfl) ?_
                    refine va_get (D := (dC, dI)) (ci := 4) (v := .ref (ad 13)) (C := R_Model) (T := F_Model) (N := 30) hx hb hts (fun q hq => List.mem_cons_of_mem _ (i_Model q hq)) hown hK hP 0 rfl rfl 16 (by decide) (hts _ (List.mem_cons_of_mem _ m_14_9)) (fun _ h9 => h9) rfl d_Model_mark_119 ?_
                    refine lv_iload_n hx hb d_Model_mark_122 rfl (lv_at hl 0 rfl) ?_
                    have hin : vp_in (nI k) 200 := by first | assumption | exact vp_in_nI (by omega) (by decide)
                    refine va_iald (f := Y.2.2.1.2.2.2.1) (n := 200) hx hb hK hP 13 0 rfl rfl hin d_Model_mark_123 ?_
                    rw [nI_clamp (show k < 2 ^ 31 by omega)]
                    refine lv_iconst (v := 4) hx hb d_Model_mark_124 (by decide) ?_
                    refine lv_icmp_ne hx hb d_Model_mark_125 rfl (fun h125 => ?_) (fun h125 => ?_)
                    · refine lv_iinc (k := 0) (v := (nI (k + 1))) (lv' := [(1, .int (nI (k + 1))), (0, .ref (ad 0))]) hx hb d_Model_mark_138 hl rfl ((nI_succ k).symm) (by decide) rfl (fun ls hl => ?_)
                      refine lv_goto hx hb d_Model_mark_141 rfl ?_
                      have hfa : md_fa Y k = Y := by
                        unfold md_fa; (first | rw [if_pos h85] | rw [if_neg h85]); (first | rw [if_pos h95] | rw [if_neg h95])
                      have hfb : md_fb Y k = Y := by
                        unfold md_fb; (first | rw [if_pos h115] | rw [if_neg h115]); (first | rw [if_pos h125] | rw [if_neg h125])
                      have hr1 : md_fr1 Y k = Y := by unfold md_fr1; rw [hfa, hfb]
                      exact ih (k + 1) Y _ _ _ (by omega) (by rw [← hr1]; exact md_mk_fb (md_mk_fa hmY (hfY k (by omega)).1) (by rw [(md_wh_eq (md_eq_fa Y k)).1, (md_wh_eq (md_eq_fa Y k)).2.2.1]; exact (hfY k (by omega)).2)) (by rw [← hr1]; exact md_eq_tr (md_eq_fr1 Y k) heY) (by rw [hqY, md_frN, hr1]) (lv_sub hl [0, 1] rfl) hP hD hS
                    · refine lv_aload_n hx hb d_Model_mark_128 rfl (lv_at hl 1 rfl) ?_
                      refine lv_aload_n hx hb d_Model_mark_129 rfl (lv_at hl 1 rfl) ?_
                      refine va_get (D := (dC, dI)) (ci := 4) (v := .ref (ad 15)) (C := R_Model) (T := F_Model) (N := 30) hx hb hts (fun q hq => List.mem_cons_of_mem _ (i_Model q hq)) hown hK hP 0 rfl rfl 18 (by decide) (hts _ (List.mem_cons_of_mem _ m_14_11)) (fun _ h9 => h9) rfl d_Model_mark_130 ?_
                      refine lv_iload_n hx hb d_Model_mark_133 rfl (lv_at hl 0 rfl) ?_
                      have hin : vp_in (nI k) 200 := by first | assumption | exact vp_in_nI (by omega) (by decide)
                      refine va_iald (f := Y.2.2.2.1.1) (n := 200) hx hb hK hP 15 0 rfl rfl hin d_Model_mark_134 ?_
                      rw [nI_clamp (show k < 2 ^ 31 by omega)]
                      refine lm_vv (b := ad 0) (As := [.int (Y.2.2.2.1.1 k)]) (rest := []) (wr := ([] : va_W)) ⟨hx, hb, hml, hown, hts⟩ hK hP hD hS hA [0, 1, 2, 3, 4, 5, 6, 7, 8, 9, 10, 11, 12, 13, 14, 15] [] rfl rfl (by decide) (by decide) (by decide) (c_Model_meet l dC dI cA cZ ad _ Y (Y.2.2.2.1.1 k) (by first | exact (hfY k (by omega)).2 (by first | exact Or.inl h115 | exact Or.inr h125) | (have q9 := md_wh_eq (md_eq_meet Y (r_fi Y k)); rw [← w105] at q9; rw [show u105.2.2.2.1.1 = r_se Y from q9.2.2.1]; refine (hfY k (by omega)).2 ?_; rw [← q9.1]; first | exact Or.inl h115 | exact Or.inr h125)) (by first | exact hmY | (rw [w105]; exact md_mk_meet hmY ((hfY k (by omega)).1 (by first | exact Or.inl h85 | exact Or.inr h95))))) (cwV 1 hts (lm_gV m_16_20 m_16_21 m_20_9 m_0_5 m_16_22) rfl rfl rfl (by decide +kernel) ⟨Nat.le_of_ble_eq_true rfl, Nat.le_of_ble_eq_true rfl⟩) (va_recv (q0 := 0) hK hP rfl rfl) lm_bl_no (fun _ _ _ => trivial) hl.1 rfl rfl (Nat.le_of_ble_eq_true rfl) d_Model_mark_135 ⟨Nat.le_of_ble_eq_true rfl, Nat.le_of_ble_eq_true rfl⟩ (fun u135 H locs w135 hP hD hS => ?_)
                      have hP : va_P (dC, dI) classes (mr_W cA cZ ad u135) H := hP
                      have hD : va_D A (mr_W cA cZ ad u135) := hD
                      refine lv_iinc (k := 0) (v := (nI (k + 1))) (lv' := [(1, .int (nI (k + 1))), (0, .ref (ad 0))]) hx hb d_Model_mark_138 hl rfl ((nI_succ k).symm) (by decide) rfl (fun ls hl => ?_)
                      refine lv_goto hx hb d_Model_mark_141 rfl ?_
                      have hfa : md_fa Y k = Y := by
                        unfold md_fa; (first | rw [if_pos h85] | rw [if_neg h85]); (first | rw [if_pos h95] | rw [if_neg h95])
                      have hfb : md_fb Y k = u135 := by
                        unfold md_fb; (first | rw [if_pos h115] | rw [if_neg h115]); (first | rw [if_pos h125] | rw [if_neg h125]); exact w135.symm
                      have hr1 : md_fr1 Y k = u135 := by unfold md_fr1; rw [hfa, hfb]
                      exact ih (k + 1) u135 _ _ _ (by omega) (by rw [← hr1]; exact md_mk_fb (md_mk_fa hmY (hfY k (by omega)).1) (by rw [(md_wh_eq (md_eq_fa Y k)).1, (md_wh_eq (md_eq_fa Y k)).2.2.1]; exact (hfY k (by omega)).2)) (by rw [← hr1]; exact md_eq_tr (md_eq_fr1 Y k) heY) (by rw [hqY, md_frN, hr1]) (lv_sub hl [0, 1] rfl) hP hD hS
                · refine lv_aload_n hx hb d_Model_mark_98 rfl (lv_at hl 1 rfl) ?_
                  refine lv_aload_n hx hb d_Model_mark_99 rfl (lv_at hl 1 rfl) ?_
                  refine va_get (D := (dC, dI)) (ci := 4) (v := .ref (ad 14)) (C := R_Model) (T := F_Model) (N := 30) hx hb hts (fun q hq => List.mem_cons_of_mem _ (i_Model q hq)) hown hK hP 0 rfl rfl 17 (by decide) (hts _ (List.mem_cons_of_mem _ m_14_10)) (fun _ h9 => h9) rfl d_Model_mark_100 ?_
                  refine lv_iload_n hx hb d_Model_mark_103 rfl (lv_at hl 0 rfl) ?_
                  have hin : vp_in (nI k) 200 := by first | assumption | exact vp_in_nI (by omega) (by decide)
                  refine va_iald (f := Y.2.2.1.2.2.2.2) (n := 200) hx hb hK hP 14 0 rfl rfl hin d_Model_mark_104 ?_
                  rw [nI_clamp (show k < 2 ^ 31 by omega)]
                  refine lm_vv (b := ad 0) (As := [.int (Y.2.2.1.2.2.2.2 k)]) (rest := []) (wr := ([] : va_W)) ⟨hx, hb, hml, hown, hts⟩ hK hP hD hS hA [0, 1, 2, 3, 4, 5, 6, 7, 8, 9, 10, 11, 12, 13, 14, 15] [] rfl rfl (by decide) (by decide) (by decide) (c_Model_meet l dC dI cA cZ ad _ Y (Y.2.2.1.2.2.2.2 k) (by exact (hfY k (by omega)).1 (by first | exact Or.inl h85 | exact Or.inr h95)) (by exact hmY)) (cwV 1 hts (lm_gV m_16_20 m_16_21 m_20_9 m_0_5 m_16_22) rfl rfl rfl (by decide +kernel) ⟨Nat.le_of_ble_eq_true rfl, Nat.le_of_ble_eq_true rfl⟩) (va_recv (q0 := 0) hK hP rfl rfl) lm_bl_no (fun _ _ _ => trivial) hl.1 rfl rfl (Nat.le_of_ble_eq_true rfl) d_Model_mark_105 ⟨Nat.le_of_ble_eq_true rfl, Nat.le_of_ble_eq_true rfl⟩ (fun u105 H locs w105 hP hD hS => ?_)
                  have hP : va_P (dC, dI) classes (mr_W cA cZ ad u105) H := hP
                  have hD : va_D A (mr_W cA cZ ad u105) := hD
                  refine lv_aload_n hx hb d_Model_mark_108 rfl (lv_at hl 1 rfl) ?_
                  refine va_get (D := (dC, dI)) (ci := 4) (v := .ref (ad 13)) (C := R_Model) (T := F_Model) (N := 30) hx hb hts (fun q hq => List.mem_cons_of_mem _ (i_Model q hq)) hown hK hP 0 rfl rfl 16 (by decide) (hts _ (List.mem_cons_of_mem _ m_14_9)) (fun _ h9 => h9) rfl d_Model_mark_109 ?_
                  refine lv_iload_n hx hb d_Model_mark_112 rfl (lv_at hl 0 rfl) ?_
                  have hin : vp_in (nI k) 200 := by first | assumption | exact vp_in_nI (by omega) (by decide)
                  refine va_iald (f := u105.2.2.1.2.2.2.1) (n := 200) hx hb hK hP 13 0 rfl rfl hin d_Model_mark_113 ?_
                  rw [nI_clamp (show k < 2 ^ 31 by omega)]
                  refine lv_iconst (v := 2) hx hb d_Model_mark_114 (by decide) ?_
                  refine lv_icmp_eq hx hb d_Model_mark_115 rfl (fun h115 => ?_) (fun h115 => ?_)
                  · refine lv_aload_n hx hb d_Model_mark_128 rfl (lv_at hl 1 rfl) ?_
                    refine lv_aload_n hx hb d_Model_mark_129 rfl (lv_at hl 1 rfl) ?_
                    refine va_get (D := (dC, dI)) (ci := 4) (v := .ref (ad 15)) (C := R_Model) (T := F_Model) (N := 30) hx hb hts (fun q hq => List.mem_cons_of_mem _ (i_Model q hq)) hown hK hP 0 rfl rfl 18 (by decide) (hts _ (List.mem_cons_of_mem _ m_14_11)) (fun _ h9 => h9) rfl d_Model_mark_130 ?_
                    refine lv_iload_n hx hb d_Model_mark_133 rfl (lv_at hl 0 rfl) ?_
                    have hin : vp_in (nI k) 200 := by first | assumption | exact vp_in_nI (by omega) (by decide)
                    refine va_iald (f := u105.2.2.2.1.1) (n := 200) hx hb hK hP 15 0 rfl rfl hin d_Model_mark_134 ?_
                    rw [nI_clamp (show k < 2 ^ 31 by omega)]
                    refine lm_vv (b := ad 0) (As := [.int (u105.2.2.2.1.1 k)]) (rest := []) (wr := ([] : va_W)) ⟨hx, hb, hml, hown, hts⟩ hK hP hD hS hA [0, 1, 2, 3, 4, 5, 6, 7, 8, 9, 10, 11, 12, 13, 14, 15] [] rfl rfl (by decide) (by decide) (by decide) (c_Model_meet l dC dI cA cZ ad _ u105 (u105.2.2.2.1.1 k) (by first | exact (hfY k (by omega)).2 (by first | exact Or.inl h115 | exact Or.inr h125) | (have q9 := md_wh_eq (md_eq_meet Y (r_fi Y k)); rw [← w105] at q9; rw [show u105.2.2.2.1.1 = r_se Y from q9.2.2.1]; refine (hfY k (by omega)).2 ?_; rw [← q9.1]; first | exact Or.inl h115 | exact Or.inr h125)) (by first | exact hmY | (rw [w105]; exact md_mk_meet hmY ((hfY k (by omega)).1 (by first | exact Or.inl h85 | exact Or.inr h95))))) (cwV 1 hts (lm_gV m_16_20 m_16_21 m_20_9 m_0_5 m_16_22) rfl rfl rfl (by decide +kernel) ⟨Nat.le_of_ble_eq_true rfl, Nat.le_of_ble_eq_true rfl⟩) (va_recv (q0 := 0) hK hP rfl rfl) lm_bl_no (fun _ _ _ => trivial) hl.1 rfl rfl (Nat.le_of_ble_eq_true rfl) d_Model_mark_135 ⟨Nat.le_of_ble_eq_true rfl, Nat.le_of_ble_eq_true rfl⟩ (fun u135 H locs w135 hP hD hS => ?_)
                    have hP : va_P (dC, dI) classes (mr_W cA cZ ad u135) H := hP
                    have hD : va_D A (mr_W cA cZ ad u135) := hD
                    refine lv_iinc (k := 0) (v := (nI (k + 1))) (lv' := [(1, .int (nI (k + 1))), (0, .ref (ad 0))]) hx hb d_Model_mark_138 hl rfl ((nI_succ k).symm) (by decide) rfl (fun ls hl => ?_)
                    refine lv_goto hx hb d_Model_mark_141 rfl ?_
                    have hfa : md_fa Y k = u105 := by
                      unfold md_fa; (first | rw [if_pos h85] | rw [if_neg h85]); (first | rw [if_pos h95] | rw [if_neg h95]); exact w105.symm
                    have hfb : md_fb u105 k = u135 := by
                      unfold md_fb; (first | rw [if_pos h115] | rw [if_neg h115]); exact w135.symm
                    have hr1 : md_fr1 Y k = u135 := by unfold md_fr1; rw [hfa, hfb]
                    exact ih (k + 1) u135 _ _ _ (by omega) (by rw [← hr1]; exact md_mk_fb (md_mk_fa hmY (hfY k (by omega)).1) (by rw [(md_wh_eq (md_eq_fa Y k)).1, (md_wh_eq (md_eq_fa Y k)).2.2.1]; exact (hfY k (by omega)).2)) (by rw [← hr1]; exact md_eq_tr (md_eq_fr1 Y k) heY) (by rw [hqY, md_frN, hr1]) (lv_sub hl [0, 1] rfl) hP hD hS
                  · refine lv_aload_n hx hb d_Model_mark_118 rfl (lv_at hl 1 rfl) ?_
                    refine va_get (D := (dC, dI)) (ci := 4) (v := .ref (ad 13)) (C := R_Model) (T := F_Model) (N := 30) hx hb hts (fun q hq => List.mem_cons_of_mem _ (i_Model q hq)) hown hK hP 0 rfl rfl 16 (by decide) (hts _ (List.mem_cons_of_mem _ m_14_9)) (fun _ h9 => h9) rfl d_Model_mark_119 ?_
                    refine lv_iload_n hx hb d_Model_mark_122 rfl (lv_at hl 0 rfl) ?_
                    have hin : vp_in (nI k) 200 := by first | assumption | exact vp_in_nI (by omega) (by decide)
                    refine va_iald (f := u105.2.2.1.2.2.2.1) (n := 200) hx hb hK hP 13 0 rfl rfl hin d_Model_mark_123 ?_
                    rw [nI_clamp (show k < 2 ^ 31 by omega)]
                    refine lv_iconst (v := 4) hx hb d_Model_mark_124 (by decide) ?_
                    refine lv_icmp_ne hx hb d_Model_mark_125 rfl (fun h125 => ?_) (fun h125 => ?_)
                    · refine lv_iinc (k := 0) (v := (nI (k + 1))) (lv' := [(1, .int (nI (k + 1))), (0, .ref (ad 0))]) hx hb d_Model_mark_138 hl rfl ((nI_succ k).symm) (by decide) rfl (fun ls hl => ?_)
                      refine lv_goto hx hb d_Model_mark_141 rfl ?_
                      have hfa : md_fa Y k = u105 := by
                        unfold md_fa; (first | rw [if_pos h85] | rw [if_neg h85]); (first | rw [if_pos h95] | rw [if_neg h95]); exact w105.symm
                      have hfb : md_fb u105 k = u105 := by
                        unfold md_fb; (first | rw [if_pos h115] | rw [if_neg h115]); (first | rw [if_pos h125] | rw [if_neg h125])
                      have hr1 : md_fr1 Y k = u105 := by unfold md_fr1; rw [hfa, hfb]
                      exact ih (k + 1) u105 _ _ _ (by omega) (by rw [← hr1]; exact md_mk_fb (md_mk_fa hmY (hfY k (by omega)).1) (by rw [(md_wh_eq (md_eq_fa Y k)).1, (md_wh_eq (md_eq_fa Y k)).2.2.1]; exact (hfY k (by omega)).2)) (by rw [← hr1]; exact md_eq_tr (md_eq_fr1 Y k) heY) (by rw [hqY, md_frN, hr1]) (lv_sub hl [0, 1] rfl) hP hD hS
                    · refine lv_aload_n hx hb d_Model_mark_128 rfl (lv_at hl 1 rfl) ?_
                      refine lv_aload_n hx hb d_Model_mark_129 rfl (lv_at hl 1 rfl) ?_
                      refine va_get (D := (dC, dI)) (ci := 4) (v := .ref (ad 15)) (C := R_Model) (T := F_Model) (N := 30) hx hb hts (fun q hq => List.mem_cons_of_mem _ (i_Model q hq)) hown hK hP 0 rfl rfl 18 (by decide) (hts _ (List.mem_cons_of_mem _ m_14_11)) (fun _ h9 => h9) rfl d_Model_mark_130 ?_
                      refine lv_iload_n hx hb d_Model_mark_133 rfl (lv_at hl 0 rfl) ?_
                      have hin : vp_in (nI k) 200 := by first | assumption | exact vp_in_nI (by omega) (by decide)
                      refine va_iald (f := u105.2.2.2.1.1) (n := 200) hx hb hK hP 15 0 rfl rfl hin d_Model_mark_134 ?_
                      rw [nI_clamp (show k < 2 ^ 31 by omega)]
                      refine lm_vv (b := ad 0) (As := [.int (u105.2.2.2.1.1 k)]) (rest := []) (wr := ([] : va_W)) ⟨hx, hb, hml, hown, hts⟩ hK hP hD hS hA [0, 1, 2, 3, 4, 5, 6, 7, 8, 9, 10, 11, 12, 13, 14, 15] [] rfl rfl (by decide) (by decide) (by decide) (c_Model_meet l dC dI cA cZ ad _ u105 (u105.2.2.2.1.1 k) (by first | exact (hfY k (by omega)).2 (by first | exact Or.inl h115 | exact Or.inr h125) | (have q9 := md_wh_eq (md_eq_meet Y (r_fi Y k)); rw [← w105] at q9; rw [show u105.2.2.2.1.1 = r_se Y from q9.2.2.1]; refine (hfY k (by omega)).2 ?_; rw [← q9.1]; first | exact Or.inl h115 | exact Or.inr h125)) (by first | exact hmY | (rw [w105]; exact md_mk_meet hmY ((hfY k (by omega)).1 (by first | exact Or.inl h85 | exact Or.inr h95))))) (cwV 1 hts (lm_gV m_16_20 m_16_21 m_20_9 m_0_5 m_16_22) rfl rfl rfl (by decide +kernel) ⟨Nat.le_of_ble_eq_true rfl, Nat.le_of_ble_eq_true rfl⟩) (va_recv (q0 := 0) hK hP rfl rfl) lm_bl_no (fun _ _ _ => trivial) hl.1 rfl rfl (Nat.le_of_ble_eq_true rfl) d_Model_mark_135 ⟨Nat.le_of_ble_eq_true rfl, Nat.le_of_ble_eq_true rfl⟩ (fun u135 H locs w135 hP hD hS => ?_)
                      have hP : va_P (dC, dI) classes (mr_W cA cZ ad u135) H := hP
                      have hD : va_D A (mr_W cA cZ ad u135) := hD
                      refine lv_iinc (k := 0) (v := (nI (k + 1))) (lv' := [(1, .int (nI (k + 1))), (0, .ref (ad 0))]) hx hb d_Model_mark_138 hl rfl ((nI_succ k).symm) (by decide) rfl (fun ls hl => ?_)
                      refine lv_goto hx hb d_Model_mark_141 rfl ?_
                      have hfa : md_fa Y k = u105 := by
                        unfold md_fa; (first | rw [if_pos h85] | rw [if_neg h85]); (first | rw [if_pos h95] | rw [if_neg h95]); exact w105.symm
                      have hfb : md_fb u105 k = u135 := by
                        unfold md_fb; (first | rw [if_pos h115] | rw [if_neg h115]); (first | rw [if_pos h125] | rw [if_neg h125]); exact w135.symm
                      have hr1 : md_fr1 Y k = u135 := by unfold md_fr1; rw [hfa, hfb]
                      exact ih (k + 1) u135 _ _ _ (by omega) (by rw [← hr1]; exact md_mk_fb (md_mk_fa hmY (hfY k (by omega)).1) (by rw [(md_wh_eq (md_eq_fa Y k)).1, (md_wh_eq (md_eq_fa Y k)).2.2.1]; exact (hfY k (by omega)).2)) (by rw [← hr1]; exact md_eq_tr (md_eq_fr1 Y k) heY) (by rw [hqY, md_frN, hr1]) (lv_sub hl [0, 1] rfl) hP hD hS
          exact loop z 0 u66 _ _ _ (by omega) (by rw [← hroot]; exact md_mk_root hmZ hrZ) (by rw [← hroot]; exact md_eq_tr (md_eq_root Z) heZ) (by unfold md_mark; rw [show (r_fr ((aso, axs, ato, ath, asi), (asr, anu, ach, aow, aar), (ais, aon, atw, awh, afi), (ase, afr, amo, ass, asp), (afo, aba, ano, aen, avs), (avo, avt, are, atd, ale))).toNatClampNeg = z by rw [hfr]; exact nI_clamp (by omega), hZ, hroot]) hl hP hD hS
        · refine lv_aload_n hx hb d_Model_mark_42 rfl (lv_at hl 1 rfl) ?_
          refine lv_aload_n hx hb d_Model_mark_43 rfl (lv_at hl 1 rfl) ?_
          refine va_get (D := (dC, dI)) (ci := 4) (v := .int Z.2.2.2.2.1.2.2.2.2) (C := R_Model) (T := F_Model) (N := 30) hx hb hts (fun q hq => List.mem_cons_of_mem _ (i_Model q hq)) hown hK hP 0 rfl rfl 27 (by decide) (hts _ (List.mem_cons_of_mem _ m_14_20)) (fun _ h9 => h9) rfl d_Model_mark_44 ?_
          refine lv_aload_n hx hb d_Model_mark_47 rfl (lv_at hl 1 rfl) ?_
          refine va_get (D := (dC, dI)) (ci := 4) (v := .int Z.2.2.2.2.2.1) (C := R_Model) (T := F_Model) (N := 30) hx hb hts (fun q hq => List.mem_cons_of_mem _ (i_Model q hq)) hown hK hP 0 rfl rfl 28 (by decide) (hts _ (List.mem_cons_of_mem _ m_14_21)) (fun _ h9 => h9) rfl d_Model_mark_48 ?_
          refine lv_aload_n hx hb d_Model_mark_51 rfl (lv_at hl 1 rfl) ?_
          refine va_get (D := (dC, dI)) (ci := 4) (v := .int Z.2.2.2.2.2.2.1) (C := R_Model) (T := F_Model) (N := 30) hx hb hts (fun q hq => List.mem_cons_of_mem _ (i_Model q hq)) hown hK hP 0 rfl rfl 29 (by decide) (hts _ (List.mem_cons_of_mem _ m_14_22)) (fun _ h9 => h9) rfl d_Model_mark_52 ?_
          refine lm_vv (b := ad 0) (As := [.int Z.2.2.2.2.1.2.2.2.2, .int Z.2.2.2.2.2.1, .int Z.2.2.2.2.2.2.1]) (rest := []) (wr := ([] : va_W)) ⟨hx, hb, hml, hown, hts⟩ hK hP hD hS hA [0, 1, 2, 3, 4, 5, 6, 7, 8, 9, 10, 11, 12, 13, 14, 15] [] rfl rfl (by decide) (by decide) (by decide) (c_Model_meetValue l dC dI cA cZ ad _ Z Z.2.2.2.2.1.2.2.2.2 Z.2.2.2.2.2.1 Z.2.2.2.2.2.2.1 (by exact (hrZ.1 (by first | exact Or.inl h31 | exact Or.inr h39)).1) (by exact (hrZ.1 (by first | exact Or.inl h31 | exact Or.inr h39)).2) (by exact hmZ)) (cwV 3 hts (lm_gV m_16_17 m_16_18 m_20_8 m_0_5 m_16_19) rfl rfl rfl (by decide +kernel) ⟨Nat.le_of_ble_eq_true rfl, Nat.le_of_ble_eq_true rfl⟩) (va_recv (q0 := 0) hK hP rfl rfl) lm_bl_no (fun _ _ _ => trivial) hl.1 rfl rfl (Nat.le_of_ble_eq_true rfl) d_Model_mark_55 ⟨Nat.le_of_ble_eq_true rfl, Nat.le_of_ble_eq_true rfl⟩ (fun u55 H locs w55 hP hD hS => ?_)
          have hP : va_P (dC, dI) classes (mr_W cA cZ ad u55) H := hP
          have hD : va_D A (mr_W cA cZ ad u55) := hD
          refine lv_goto hx hb d_Model_mark_58 rfl ?_
          have hroot : md_root Z = u55 := by
            unfold md_root; (first | rw [if_pos h31] | rw [if_neg h31]); (first | rw [if_pos h39] | rw [if_neg h39]); exact w55.symm
          refine lv_iconst (v := 0) hx hb d_Model_mark_69 (by decide) ?_
          refine lv_istore_n (lv' := [(1, .int 0), (0, .ref (ad 0))]) hx hb d_Model_mark_70 rfl hl (by decide) rfl (fun ls hl => ?_)
          have loop : ∀ (fu : Nat) (k : Nat) (Y : ZNS) (ls : Array Slot) (H : Heap) (locs : List Loc), (k + fu = z) → (md_mk Y) → (md_eq Y ((aso, axs, ato, ath, asi), (asr, anu, ach, aow, aar), (ais, aon, atw, awh, afi), (ase, afr, amo, ass, asp), (afo, aba, ano, aen, avs), (avo, avt, are, atd, ale))) → (md_mark ((aso, axs, ato, ath, asi), (asr, anu, ach, aow, aar), (ais, aon, atw, awh, afi), (ase, afr, amo, ass, asp), (afo, aba, ano, aen, avs), (avo, avt, are, atd, ale)) = md_tdN 256 0 (md_frN fu k Y)) → lv_has ls 3 [(1, .int (nI k)), (0, .ref (ad 0))] → va_P (dC, dI) classes (mr_W cA cZ ad Y) H → va_D A (mr_W cA cZ ad Y) → va_S A s.heap H locs → W p l e (headSpec w_Model_mark ({ frames := 2, cells := 0, slots := 0, locals := 44 } : Room)).room s m (List.toArray [.ref (ad 0)]) below meth c H locs 0 0 (MQ below (va_Qi (fun (r : Int32) (u : ZNS) => r = r_le (md_mark ((aso, axs, ato, ath, asi), (asr, anu, ach, aow, aar), (ais, aon, atw, awh, afi), (ase, afr, amo, ass, asp), (afo, aba, ano, aen, avs), (avo, avt, are, atd, ale))) ∧ u = md_mark ((aso, axs, ato, ath, asi), (asr, anu, ach, aow, aar), (ais, aon, atw, awh, afi), (ase, afr, amo, ass, asp), (afo, aba, ano, aen, avs), (avo, avt, are, atd, ale))) (fun u => lm_at (dC, dI) classes [(cA, .int), (cZ, .boolean)] A (mr_W cA cZ ad u)) A) (List.toArray [.ref (ad 0)]) s 0 0 A) (F0 m 71 ls []) := by
            intro fu
            induction fu with
            | zero => 
              intro k Y ls H locs hk hmY heY hqY hl hP hD hS
              have hfy : Y.2.2.2.1.2.1 = nI z := ((md_wh_eq heY).2.2.2).trans hfr
              have hfY : ∀ j, j < z → (r_wh Y j = 0 ∨ r_wh Y j = 1 → md_c (r_fi Y j)) ∧ (r_wh Y j = 2 ∨ r_wh Y j = 4 → md_c (r_se Y j)) := by
                rw [(md_wh_eq heY).1, (md_wh_eq heY).2.1, (md_wh_eq heY).2.2.1]; exact hfc
              refine lv_iload_n hx hb d_Model_mark_71 rfl (lv_at hl 0 rfl) ?_
              refine lv_aload_n hx hb d_Model_mark_72 rfl (lv_at hl 1 rfl) ?_
              refine va_get (D := (dC, dI)) (ci := 4) (v := .int Y.2.2.2.1.2.1) (C := R_Model) (T := F_Model) (N := 30) hx hb hts (fun q hq => List.mem_cons_of_mem _ (i_Model q hq)) hown hK hP 0 rfl rfl 19 (by decide) (hts _ (List.mem_cons_of_mem _ m_14_12)) (fun _ h9 => h9) rfl d_Model_mark_73 ?_
              refine lv_icmp_ge hx hb d_Model_mark_76 rfl (fun h76 => ?_) (fun h76 => by exact absurd (by rw [hfy]; exact nI_le (by omega) (by omega)) h76)
              refine lv_iconst (v := 0) hx hb d_Model_mark_144 (by decide) ?_
              refine lv_istore_n (lv' := [(1, .int 0), (0, .ref (ad 0))]) hx hb d_Model_mark_145 rfl hl (by decide) rfl (fun ls hl => ?_)
              have loop : ∀ (fu : Nat) (k : Nat) (X : ZNS) (ls : Array Slot) (H : Heap) (locs : List Loc), (k + fu = 256) → (md_mk X) → (md_ok X) → (md_mark ((aso, axs, ato, ath, asi), (asr, anu, ach, aow, aar), (ais, aon, atw, awh, afi), (ase, afr, amo, ass, asp), (afo, aba, ano, aen, avs), (avo, avt, are, atd, ale)) = md_tdN fu k X) → lv_has ls 3 [(1, .int (nI k)), (0, .ref (ad 0))] → va_P (dC, dI) classes (mr_W cA cZ ad X) H → va_D A (mr_W cA cZ ad X) → va_S A s.heap H locs → W p l e (headSpec w_Model_mark ({ frames := 2, cells := 0, slots := 0, locals := 44 } : Room)).room s m (List.toArray [.ref (ad 0)]) below meth c H locs 0 0 (MQ below (va_Qi (fun (r : Int32) (u : ZNS) => r = r_le (md_mark ((aso, axs, ato, ath, asi), (asr, anu, ach, aow, aar), (ais, aon, atw, awh, afi), (ase, afr, amo, ass, asp), (afo, aba, ano, aen, avs), (avo, avt, are, atd, ale))) ∧ u = md_mark ((aso, axs, ato, ath, asi), (asr, anu, ach, aow, aar), (ais, aon, atw, awh, afi), (ase, afr, amo, ass, asp), (afo, aba, ano, aen, avs), (avo, avt, are, atd, ale))) (fun u => lm_at (dC, dI) classes [(cA, .int), (cZ, .boolean)] A (mr_W cA cZ ad u)) A) (List.toArray [.ref (ad 0)]) s 0 0 A) (F0 m 146 ls []) := by
                intro fu
                induction fu with
                | zero => 
                  intro k X ls H locs hk hmX hoX hqX hl hP hD hS
                  refine lv_iload_n hx hb d_Model_mark_146 rfl (lv_at hl 0 rfl) ?_
                  refine lv_aload_n hx hb d_Model_mark_147 rfl (lv_at hl 1 rfl) ?_
                  refine va_get (D := (dC, dI)) (ci := 4) (v := .int X.2.2.2.2.2.2.2.2.2) (C := R_Model) (T := F_Model) (N := 30) hx hb hts (fun q hq => List.mem_cons_of_mem _ (i_Model q hq)) hown hK hP 0 rfl rfl 15 (by decide) (hts _ (List.mem_cons_of_mem _ m_14_8)) (fun _ h9 => h9) rfl d_Model_mark_148 ?_
                  refine lv_icmp_ge hx hb d_Model_mark_151 rfl (fun h151 => ?_) (fun h151 => by obtain ⟨n, hn, hle, _⟩ := hmX; exact absurd (by rw [show X.2.2.2.2.2.2.2.2.2 = nI n from hle]; exact nI_le (by omega) (by omega)) h151)
                  refine lv_aload_n hx hb d_Model_mark_245 rfl (lv_at hl 1 rfl) ?_
                  refine va_get (D := (dC, dI)) (ci := 4) (v := .int X.2.2.2.2.2.2.2.2.2) (C := R_Model) (T := F_Model) (N := 30) hx hb hts (fun q hq => List.mem_cons_of_mem _ (i_Model q hq)) hown hK hP 0 rfl rfl 15 (by decide) (hts _ (List.mem_cons_of_mem _ m_14_8)) (fun _ h9 => h9) rfl d_Model_mark_246 ?_
                  refine lm_ri (v := X.2.2.2.2.2.2.2.2.2) hx hb hr hlocks X ?_ hP hK hD hS d_Model_mark_249
                  rw [hqX, md_tdN]; first | exact ⟨rfl, rfl⟩ | (rw [if_pos h151]; exact ⟨rfl, rfl⟩)
                | succ fu ih => 
                  intro k X ls H locs hk hmX hoX hqX hl hP hD hS
                  refine lv_iload_n hx hb d_Model_mark_146 rfl (lv_at hl 0 rfl) ?_
                  refine lv_aload_n hx hb d_Model_mark_147 rfl (lv_at hl 1 rfl) ?_
                  refine va_get (D := (dC, dI)) (ci := 4) (v := .int X.2.2.2.2.2.2.2.2.2) (C := R_Model) (T := F_Model) (N := 30) hx hb hts (fun q hq => List.mem_cons_of_mem _ (i_Model q hq)) hown hK hP 0 rfl rfl 15 (by decide) (hts _ (List.mem_cons_of_mem _ m_14_8)) (fun _ h9 => h9) rfl d_Model_mark_148 ?_
                  refine lv_icmp_ge hx hb d_Model_mark_151 rfl (fun h151 => ?_) (fun h151 => ?_)
                  · refine lv_aload_n hx hb d_Model_mark_245 rfl (lv_at hl 1 rfl) ?_
                    refine va_get (D := (dC, dI)) (ci := 4) (v := .int X.2.2.2.2.2.2.2.2.2) (C := R_Model) (T := F_Model) (N := 30) hx hb hts (fun q hq => List.mem_cons_of_mem _ (i_Model q hq)) hown hK hP 0 rfl rfl 15 (by decide) (hts _ (List.mem_cons_of_mem _ m_14_8)) (fun _ h9 => h9) rfl d_Model_mark_246 ?_
                    refine lm_ri (v := X.2.2.2.2.2.2.2.2.2) hx hb hr hlocks X ?_ hP hK hD hS d_Model_mark_249
                    rw [hqX, md_tdN]; first | exact ⟨rfl, rfl⟩ | (rw [if_pos h151]; exact ⟨rfl, rfl⟩)
                  · refine lv_aload_n hx hb d_Model_mark_154 rfl (lv_at hl 1 rfl) ?_
                    refine va_get (D := (dC, dI)) (ci := 4) (v := .ref (ad 12)) (C := R_Model) (T := F_Model) (N := 30) hx hb hts (fun q hq => List.mem_cons_of_mem _ (i_Model q hq)) hown hK hP 0 rfl rfl 14 (by decide) (hts _ (List.mem_cons_of_mem _ m_14_7)) (fun _ h9 => h9) rfl d_Model_mark_155 ?_
                    refine lv_iload_n hx hb d_Model_mark_158 rfl (lv_at hl 0 rfl) ?_
                    have hin : vp_in (nI k) 256 := by first | assumption | exact vp_in_nI (by omega) (by decide)
                    refine va_iald (f := X.2.2.2.2.2.2.2.2.1) (n := 256) hx hb hK hP 12 0 rfl rfl hin d_Model_mark_159 ?_
                    rw [nI_clamp (show k < 2 ^ 31 by omega)]
                    refine lv_istore_n (lv' := [(2, .int (X.2.2.2.2.2.2.2.2.1 k)), (1, .int (nI k)), (0, .ref (ad 0))]) hx hb d_Model_mark_160 rfl hl (by decide) rfl (fun ls hl => ?_)
                    have hin0 : vp_in (r_td X k) 256 := by
                      obtain ⟨n, hn, hrc, hre, _⟩ := hmX
                      exact (hre k (by
                        rcases Nat.lt_or_ge k n with h9 | h9
                        · exact h9
                        · exact absurd (by show r_le X ≤ nI k; rw [hrc]; exact nI_le h9 (by omega)) h151)).1
                    have hj0 := hp_in_lt hin0 (by decide)
                    refine lv_aload_n hx hb d_Model_mark_161 rfl (lv_at hl 2 rfl) ?_
                    refine va_get (D := (dC, dI)) (ci := 4) (v := .ref (ad 8)) (C := R_Model) (T := F_Model) (N := 30) hx hb hts (fun q hq => List.mem_cons_of_mem _ (i_Model q hq)) hown hK hP 0 rfl rfl 10 (by decide) (hts _ (List.mem_cons_of_mem _ m_14_3)) (fun _ h9 => h9) rfl d_Model_mark_162 ?_
                    refine lv_iload_n hx hb d_Model_mark_165 rfl (lv_at hl 0 rfl) ?_
                    have hin : vp_in (X.2.2.2.2.2.2.2.2.1 k) 256 := by exact hin0
                    refine va_iald (f := X.2.2.1.1) (n := 256) hx hb hK hP 8 0 rfl rfl hin d_Model_mark_166 ?_
                    refine lv_iconst (v := 5) hx hb d_Model_mark_167 (by decide) ?_
                    refine lv_icmp_ne hx hb d_Model_mark_168 rfl (fun h168 => ?_) (fun h168 => ?_)
                    · refine lv_aload_n hx hb d_Model_mark_194 rfl (lv_at hl 2 rfl) ?_
                      refine va_get (D := (dC, dI)) (ci := 4) (v := .ref (ad 8)) (C := R_Model) (T := F_Model) (N := 30) hx hb hts (fun q hq => List.mem_cons_of_mem _ (i_Model q hq)) hown hK hP 0 rfl rfl 10 (by decide) (hts _ (List.mem_cons_of_mem _ m_14_3)) (fun _ h9 => h9) rfl d_Model_mark_195 ?_
                      refine lv_iload_n hx hb d_Model_mark_198 rfl (lv_at hl 0 rfl) ?_
                      have hin : vp_in (X.2.2.2.2.2.2.2.2.1 k) 256 := by exact hin0
                      refine va_iald (f := X.2.2.1.1) (n := 256) hx hb hK hP 8 0 rfl rfl hin d_Model_mark_199 ?_
                      refine lv_iconst (v := 3) hx hb d_Model_mark_200 (by decide) ?_
                      refine lv_icmp_ne hx hb d_Model_mark_201 rfl (fun h201 => ?_) (fun h201 => ?_)
                      · refine lv_aload_n hx hb d_Model_mark_217 rfl (lv_at hl 2 rfl) ?_
                        refine lv_aload_n hx hb d_Model_mark_218 rfl (lv_at hl 2 rfl) ?_
                        refine va_get (D := (dC, dI)) (ci := 4) (v := .ref (ad 8)) (C := R_Model) (T := F_Model) (N := 30) hx hb hts (fun q hq => List.mem_cons_of_mem _ (i_Model q hq)) hown hK hP 0 rfl rfl 10 (by decide) (hts _ (List.mem_cons_of_mem _ m_14_3)) (fun _ h9 => h9) rfl d_Model_mark_219 ?_
                        refine lv_iload_n hx hb d_Model_mark_222 rfl (lv_at hl 0 rfl) ?_
                        have hin : vp_in (X.2.2.2.2.2.2.2.2.1 k) 256 := by exact hin0
                        refine va_iald (f := X.2.2.1.1) (n := 256) hx hb hK hP 8 0 rfl rfl hin d_Model_mark_223 ?_
                        refine lv_aload_n hx hb d_Model_mark_224 rfl (lv_at hl 2 rfl) ?_
                        refine va_get (D := (dC, dI)) (ci := 4) (v := .ref (ad 9)) (C := R_Model) (T := F_Model) (N := 30) hx hb hts (fun q hq => List.mem_cons_of_mem _ (i_Model q hq)) hown hK hP 0 rfl rfl 11 (by decide) (hts _ (List.mem_cons_of_mem _ m_14_4)) (fun _ h9 => h9) rfl d_Model_mark_225 ?_
                        refine lv_iload_n hx hb d_Model_mark_228 rfl (lv_at hl 0 rfl) ?_
                        have hin : vp_in (X.2.2.2.2.2.2.2.2.1 k) 256 := by exact hin0
                        refine va_iald (f := X.2.2.1.2.1) (n := 256) hx hb hK hP 9 0 rfl rfl hin d_Model_mark_229 ?_
                        refine lv_aload_n hx hb d_Model_mark_230 rfl (lv_at hl 2 rfl) ?_
                        refine va_get (D := (dC, dI)) (ci := 4) (v := .ref (ad 10)) (C := R_Model) (T := F_Model) (N := 30) hx hb hts (fun q hq => List.mem_cons_of_mem _ (i_Model q hq)) hown hK hP 0 rfl rfl 12 (by decide) (hts _ (List.mem_cons_of_mem _ m_14_5)) (fun _ h9 => h9) rfl d_Model_mark_231 ?_
                        refine lv_iload_n hx hb d_Model_mark_234 rfl (lv_at hl 0 rfl) ?_
                        have hin : vp_in (X.2.2.2.2.2.2.2.2.1 k) 256 := by exact hin0
                        refine va_iald (f := X.2.2.1.2.2.1) (n := 256) hx hb hK hP 10 0 rfl rfl hin d_Model_mark_235 ?_
                        refine lm_vv (b := ad 0) (As := [.int (X.2.2.1.1 (X.2.2.2.2.2.2.2.2.1 k).toNatClampNeg), .int (X.2.2.1.2.1 (X.2.2.2.2.2.2.2.2.1 k).toNatClampNeg), .int (X.2.2.1.2.2.1 (X.2.2.2.2.2.2.2.2.1 k).toNatClampNeg)]) (rest := []) (wr := ([] : va_W)) ⟨hx, hb, hml, hown, hts⟩ hK hP hD hS hA [0, 1, 2, 3, 4, 5, 6, 7, 8, 9, 10, 11, 12, 13, 14, 15] [] rfl rfl (by decide) (by decide) (by decide) (c_Model_meetValue l dC dI cA cZ ad _ X (X.2.2.1.1 (X.2.2.2.2.2.2.2.2.1 k).toNatClampNeg) (X.2.2.1.2.1 (X.2.2.2.2.2.2.2.2.1 k).toNatClampNeg) (X.2.2.1.2.2.1 (X.2.2.2.2.2.2.2.2.1 k).toNatClampNeg) (by exact fun q => (hoX _ hj0).1 (Or.inr q)) (by exact fun _ => (hoX _ hj0).2) (by exact hmX)) (cwV 3 hts (lm_gV m_16_17 m_16_18 m_20_8 m_0_5 m_16_19) rfl rfl rfl (by decide +kernel) ⟨Nat.le_of_ble_eq_true rfl, Nat.le_of_ble_eq_true rfl⟩) (va_recv (q0 := 0) hK hP rfl rfl) lm_bl_no (fun _ _ _ => trivial) hl.1 rfl rfl (Nat.le_of_ble_eq_true rfl) d_Model_mark_236 ⟨Nat.le_of_ble_eq_true rfl, Nat.le_of_ble_eq_true rfl⟩ (fun u236 H locs w236 hP hD hS => ?_)
                        have hP : va_P (dC, dI) classes (mr_W cA cZ ad u236) H := hP
                        have hD : va_D A (mr_W cA cZ ad u236) := hD
                        refine lv_iinc (k := 1) (v := (nI (k + 1))) (lv' := [(1, .int (nI (k + 1))), (2, .int (X.2.2.2.2.2.2.2.2.1 k)), (0, .ref (ad 0))]) hx hb d_Model_mark_239 hl rfl ((nI_succ k).symm) (by decide) rfl (fun ls hl => ?_)
                        refine lv_goto hx hb d_Model_mark_242 rfl ?_
                        have hr1 : md_td1 X (r_td X k) = u236 := by
                          subst w236; unfold md_td1; (first | rw [if_pos h168] | rw [if_neg h168]); (first | rw [if_pos h201] | rw [if_neg h201]); try rfl
                        exact ih (k + 1) u236 _ _ _ (by omega) (by rw [← hr1]; exact md_mk_td1 hmX hoX hin0) (by rw [← hr1]; exact md_ok_eq (md_eq_td1 X _) hoX) (by rw [hqX, md_tdN, if_neg h151, hr1]) (lv_sub hl [0, 2] rfl) hP hD hS
                      · refine lv_aload_n hx hb d_Model_mark_204 rfl (lv_at hl 2 rfl) ?_
                        refine lv_aload_n hx hb d_Model_mark_205 rfl (lv_at hl 2 rfl) ?_
                        refine va_get (D := (dC, dI)) (ci := 4) (v := .ref (ad 10)) (C := R_Model) (T := F_Model) (N := 30) hx hb hts (fun q hq => List.mem_cons_of_mem _ (i_Model q hq)) hown hK hP 0 rfl rfl 12 (by decide) (hts _ (List.mem_cons_of_mem _ m_14_5)) (fun _ h9 => h9) rfl d_Model_mark_206 ?_
                        refine lv_iload_n hx hb d_Model_mark_209 rfl (lv_at hl 0 rfl) ?_
                        have hin : vp_in (X.2.2.2.2.2.2.2.2.1 k) 256 := by exact hin0
                        refine va_iald (f := X.2.2.1.2.2.1) (n := 256) hx hb hK hP 10 0 rfl rfl hin d_Model_mark_210 ?_
                        refine lm_vv (b := ad 0) (As := [.int (X.2.2.1.2.2.1 (X.2.2.2.2.2.2.2.2.1 k).toNatClampNeg)]) (rest := []) (wr := ([] : va_W)) ⟨hx, hb, hml, hown, hts⟩ hK hP hD hS hA [0, 1, 2, 3, 4, 5, 6, 7, 8, 9, 10, 11, 12, 13, 14, 15] [] rfl rfl (by decide) (by decide) (by decide) (c_Model_meet l dC dI cA cZ ad _ X (X.2.2.1.2.2.1 (X.2.2.2.2.2.2.2.2.1 k).toNatClampNeg) (by exact (hoX _ hj0).2) (by exact hmX)) (cwV 1 hts (lm_gV m_16_20 m_16_21 m_20_9 m_0_5 m_16_22) rfl rfl rfl (by decide +kernel) ⟨Nat.le_of_ble_eq_true rfl, Nat.le_of_ble_eq_true rfl⟩) (va_recv (q0 := 0) hK hP rfl rfl) lm_bl_no (fun _ _ _ => trivial) hl.1 rfl rfl (Nat.le_of_ble_eq_true rfl) d_Model_mark_211 ⟨Nat.le_of_ble_eq_true rfl, Nat.le_of_ble_eq_true rfl⟩ (fun u211 H locs w211 hP hD hS => ?_)
                        have hP : va_P (dC, dI) classes (mr_W cA cZ ad u211) H := hP
                        have hD : va_D A (mr_W cA cZ ad u211) := hD
                        refine lv_goto hx hb d_Model_mark_214 rfl ?_
                        refine lv_iinc (k := 1) (v := (nI (k + 1))) (lv' := [(1, .int (nI (k + 1))), (2, .int (X.2.2.2.2.2.2.2.2.1 k)), (0, .ref (ad 0))]) hx hb d_Model_mark_239 hl rfl ((nI_succ k).symm) (by decide) rfl (fun ls hl => ?_)
                        refine lv_goto hx hb d_Model_mark_242 rfl ?_
                        have hr1 : md_td1 X (r_td X k) = u211 := by
                          subst w211; unfold md_td1; (first | rw [if_pos h168] | rw [if_neg h168]); (first | rw [if_pos h201] | rw [if_neg h201]); try rfl
                        exact ih (k + 1) u211 _ _ _ (by omega) (by rw [← hr1]; exact md_mk_td1 hmX hoX hin0) (by rw [← hr1]; exact md_ok_eq (md_eq_td1 X _) hoX) (by rw [hqX, md_tdN, if_neg h151, hr1]) (lv_sub hl [0, 2] rfl) hP hD hS
                    · refine lv_aload_n hx hb d_Model_mark_171 rfl (lv_at hl 2 rfl) ?_
                      refine lv_aload_n hx hb d_Model_mark_172 rfl (lv_at hl 2 rfl) ?_
                      refine va_get (D := (dC, dI)) (ci := 4) (v := .ref (ad 9)) (C := R_Model) (T := F_Model) (N := 30) hx hb hts (fun q hq => List.mem_cons_of_mem _ (i_Model q hq)) hown hK hP 0 rfl rfl 11 (by decide) (hts _ (List.mem_cons_of_mem _ m_14_4)) (fun _ h9 => h9) rfl d_Model_mark_173 ?_
                      refine lv_iload_n hx hb d_Model_mark_176 rfl (lv_at hl 0 rfl) ?_
                      have hin : vp_in (X.2.2.2.2.2.2.2.2.1 k) 256 := by exact hin0
                      refine va_iald (f := X.2.2.1.2.1) (n := 256) hx hb hK hP 9 0 rfl rfl hin d_Model_mark_177 ?_
                      refine lm_vv (b := ad 0) (As := [.int (X.2.2.1.2.1 (X.2.2.2.2.2.2.2.2.1 k).toNatClampNeg)]) (rest := []) (wr := ([] : va_W)) ⟨hx, hb, hml, hown, hts⟩ hK hP hD hS hA [0, 1, 2, 3, 4, 5, 6, 7, 8, 9, 10, 11, 12, 13, 14, 15] [] rfl rfl (by decide) (by decide) (by decide) (c_Model_meet l dC dI cA cZ ad _ X (X.2.2.1.2.1 (X.2.2.2.2.2.2.2.2.1 k).toNatClampNeg) (by exact (hoX _ hj0).1 (Or.inl h168)) (by exact hmX)) (cwV 1 hts (lm_gV m_16_20 m_16_21 m_20_9 m_0_5 m_16_22) rfl rfl rfl (by decide +kernel) ⟨Nat.le_of_ble_eq_true rfl, Nat.le_of_ble_eq_true rfl⟩) (va_recv (q0 := 0) hK hP rfl rfl) lm_bl_no (fun _ _ _ => trivial) hl.1 rfl rfl (Nat.le_of_ble_eq_true rfl) d_Model_mark_178 ⟨Nat.le_of_ble_eq_true rfl, Nat.le_of_ble_eq_true rfl⟩ (fun u178 H locs w178 hP hD hS => ?_)
                      have hP : va_P (dC, dI) classes (mr_W cA cZ ad u178) H := hP
                      have hD : va_D A (mr_W cA cZ ad u178) := hD
                      refine lv_aload_n hx hb d_Model_mark_181 rfl (lv_at hl 2 rfl) ?_
                      refine lv_aload_n hx hb d_Model_mark_182 rfl (lv_at hl 2 rfl) ?_
                      refine va_get (D := (dC, dI)) (ci := 4) (v := .ref (ad 10)) (C := R_Model) (T := F_Model) (N := 30) hx hb hts (fun q hq => List.mem_cons_of_mem _ (i_Model q hq)) hown hK hP 0 rfl rfl 12 (by decide) (hts _ (List.mem_cons_of_mem _ m_14_5)) (fun _ h9 => h9) rfl d_Model_mark_183 ?_
                      refine lv_iload_n hx hb d_Model_mark_186 rfl (lv_at hl 0 rfl) ?_
                      have hin : vp_in (X.2.2.2.2.2.2.2.2.1 k) 256 := by exact hin0
                      refine va_iald (f := u178.2.2.1.2.2.1) (n := 256) hx hb hK hP 10 0 rfl rfl hin d_Model_mark_187 ?_
                      refine lm_vv (b := ad 0) (As := [.int (u178.2.2.1.2.2.1 (X.2.2.2.2.2.2.2.2.1 k).toNatClampNeg)]) (rest := []) (wr := ([] : va_W)) ⟨hx, hb, hml, hown, hts⟩ hK hP hD hS hA [0, 1, 2, 3, 4, 5, 6, 7, 8, 9, 10, 11, 12, 13, 14, 15] [] rfl rfl (by decide) (by decide) (by decide) (c_Model_meet l dC dI cA cZ ad _ u178 (u178.2.2.1.2.2.1 (X.2.2.2.2.2.2.2.2.1 k).toNatClampNeg) (by rw [w178]; exact (md_ok_eq (md_eq_meet X _) hoX _ hj0).2) (by rw [w178]; exact md_mk_meet hmX ((hoX _ hj0).1 (Or.inl h168)))) (cwV 1 hts (lm_gV m_16_20 m_16_21 m_20_9 m_0_5 m_16_22) rfl rfl rfl (by decide +kernel) ⟨Nat.le_of_ble_eq_true rfl, Nat.le_of_ble_eq_true rfl⟩) (va_recv (q0 := 0) hK hP rfl rfl) lm_bl_no (fun _ _ _ => trivial) hl.1 rfl rfl (Nat.le_of_ble_eq_true rfl) d_Model_mark_188 ⟨Nat.le_of_ble_eq_true rfl, Nat.le_of_ble_eq_true rfl⟩ (fun u188 H locs w188 hP hD hS => ?_)
                      have hP : va_P (dC, dI) classes (mr_W cA cZ ad u188) H := hP
                      have hD : va_D A (mr_W cA cZ ad u188) := hD
                      refine lv_goto hx hb d_Model_mark_191 rfl ?_
                      refine lv_iinc (k := 1) (v := (nI (k + 1))) (lv' := [(1, .int (nI (k + 1))), (2, .int (X.2.2.2.2.2.2.2.2.1 k)), (0, .ref (ad 0))]) hx hb d_Model_mark_239 hl rfl ((nI_succ k).symm) (by decide) rfl (fun ls hl => ?_)
                      refine lv_goto hx hb d_Model_mark_242 rfl ?_
                      have hr1 : md_td1 X (r_td X k) = u188 := by
                        subst w178 w188; unfold md_td1; (first | rw [if_pos h168] | rw [if_neg h168]); try rfl
                      exact ih (k + 1) u188 _ _ _ (by omega) (by rw [← hr1]; exact md_mk_td1 hmX hoX hin0) (by rw [← hr1]; exact md_ok_eq (md_eq_td1 X _) hoX) (by rw [hqX, md_tdN, if_neg h151, hr1]) (lv_sub hl [0, 2] rfl) hP hD hS
              exact loop 256 0 Y _ _ _ (by omega) (by exact hmY) (by exact md_ok_eq heY ho) (by rw [hqY, md_frN]) hl hP hD hS
            | succ fu ih => 
              intro k Y ls H locs hk hmY heY hqY hl hP hD hS
              have hfy : Y.2.2.2.1.2.1 = nI z := ((md_wh_eq heY).2.2.2).trans hfr
              have hfY : ∀ j, j < z → (r_wh Y j = 0 ∨ r_wh Y j = 1 → md_c (r_fi Y j)) ∧ (r_wh Y j = 2 ∨ r_wh Y j = 4 → md_c (r_se Y j)) := by
                rw [(md_wh_eq heY).1, (md_wh_eq heY).2.1, (md_wh_eq heY).2.2.1]; exact hfc
              refine lv_iload_n hx hb d_Model_mark_71 rfl (lv_at hl 0 rfl) ?_
              refine lv_aload_n hx hb d_Model_mark_72 rfl (lv_at hl 1 rfl) ?_
              refine va_get (D := (dC, dI)) (ci := 4) (v := .int Y.2.2.2.1.2.1) (C := R_Model) (T := F_Model) (N := 30) hx hb hts (fun q hq => List.mem_cons_of_mem _ (i_Model q hq)) hown hK hP 0 rfl rfl 19 (by decide) (hts _ (List.mem_cons_of_mem _ m_14_12)) (fun _ h9 => h9) rfl d_Model_mark_73 ?_
              refine lv_icmp_ge hx hb d_Model_mark_76 rfl (fun h76 => by exact absurd h76 (by rw [hfy]; exact nI_ge (by omega) (by omega))) (fun h76 => ?_)
              refine lv_aload_n hx hb d_Model_mark_79 rfl (lv_at hl 1 rfl) ?_
              refine va_get (D := (dC, dI)) (ci := 4) (v := .ref (ad 13)) (C := R_Model) (T := F_Model) (N := 30) hx hb hts (fun q hq => List.mem_cons_of_mem _ (i_Model q hq)) hown hK hP 0 rfl rfl 16 (by decide) (hts _ (List.mem_cons_of_mem _ m_14_9)) (fun _ h9 => h9) rfl d_Model_mark_80 ?_
              refine lv_iload_n hx hb d_Model_mark_83 rfl (lv_at hl 0 rfl) ?_
              have hin : vp_in (nI k) 200 := by first | assumption | exact vp_in_nI (by omega) (by decide)
              refine va_iald (f := Y.2.2.1.2.2.2.1) (n := 200) hx hb hK hP 13 0 rfl rfl hin d_Model_mark_84 ?_
              rw [nI_clamp (show k < 2 ^ 31 by omega)]
              refine lv_if_eq hx hb d_Model_mark_85 rfl (fun h85 => ?_) (fun h85 => ?_)
              · refine lv_aload_n hx hb d_Model_mark_98 rfl (lv_at hl 1 rfl) ?_
                refine lv_aload_n hx hb d_Model_mark_99 rfl (lv_at hl 1 rfl) ?_
                refine va_get (D := (dC, dI)) (ci := 4) (v := .ref (ad 14)) (C := R_Model) (T := F_Model) (N := 30) hx hb hts (fun q hq => List.mem_cons_of_mem _ (i_Model q hq)) hown hK hP 0 rfl rfl 17 (by decide) (hts _ (List.mem_cons_of_mem _ m_14_10)) (fun _ h9 => h9) rfl d_Model_mark_100 ?_
                refine lv_iload_n hx hb d_Model_mark_103 rfl (lv_at hl 0 rfl) ?_
                have hin : vp_in (nI k) 200 := by first | assumption | exact vp_in_nI (by omega) (by decide)
                refine va_iald (f := Y.2.2.1.2.2.2.2) (n := 200) hx hb hK hP 14 0 rfl rfl hin d_Model_mark_104 ?_
                rw [nI_clamp (show k < 2 ^ 31 by omega)]
                refine lm_vv (b := ad 0) (As := [.int (Y.2.2.1.2.2.2.2 k)]) (rest := []) (wr := ([] : va_W)) ⟨hx, hb, hml, hown, hts⟩ hK hP hD hS hA [0, 1, 2, 3, 4, 5, 6, 7, 8, 9, 10, 11, 12, 13, 14, 15] [] rfl rfl (by decide) (by decide) (by decide) (c_Model_meet l dC dI cA cZ ad _ Y (Y.2.2.1.2.2.2.2 k) (by exact (hfY k (by omega)).1 (by first | exact Or.inl h85 | exact Or.inr h95)) (by exact hmY)) (cwV 1 hts (lm_gV m_16_20 m_16_21 m_20_9 m_0_5 m_16_22) rfl rfl rfl (by decide +kernel) ⟨Nat.le_of_ble_eq_true rfl, Nat.le_of_ble_eq_true rfl⟩) (va_recv (q0 := 0) hK hP rfl rfl) lm_bl_no (fun _ _ _ => trivial) hl.1 rfl rfl (Nat.le_of_ble_eq_true rfl) d_Model_mark_105 ⟨Nat.le_of_ble_eq_true rfl, Nat.le_of_ble_eq_true rfl⟩ (fun u105 H locs w105 hP hD hS => ?_)
                have hP : va_P (dC, dI) classes (mr_W cA cZ ad u105) H := hP
                have hD : va_D A (mr_W cA cZ ad u105) := hD
                refine lv_aload_n hx hb d_Model_mark_108 rfl (lv_at hl 1 rfl) ?_
                refine va_get (D := (dC, dI)) (ci := 4) (v := .ref (ad 13)) (C := R_Model) (T := F_Model) (N := 30) hx hb hts (fun q hq => List.mem_cons_of_mem _ (i_Model q hq)) hown hK hP 0 rfl rfl 16 (by decide) (hts _ (List.mem_cons_of_mem _ m_14_9)) (fun _ h9 => h9) rfl d_Model_mark_109 ?_
                refine lv_iload_n hx hb d_Model_mark_112 rfl (lv_at hl 0 rfl) ?_
                have hin : vp_in (nI k) 200 := by first | assumption | exact vp_in_nI (by omega) (by decide)
                refine va_iald (f := u105.2.2.1.2.2.2.1) (n := 200) hx hb hK hP 13 0 rfl rfl hin d_Model_mark_113 ?_
                rw [nI_clamp (show k < 2 ^ 31 by omega)]
                refine lv_iconst (v := 2) hx hb d_Model_mark_114 (by decide) ?_
                refine lv_icmp_eq hx hb d_Model_mark_115 rfl (fun h115 => ?_) (fun h115 => ?_)
                · refine lv_aload_n hx hb d_Model_mark_128 rfl (lv_at hl 1 rfl) ?_
                  refine lv_aload_n hx hb d_Model_mark_129 rfl (lv_at hl 1 rfl) ?_
                  refine va_get (D := (dC, dI)) (ci := 4) (v := .ref (ad 15)) (C := R_Model) (T := F_Model) (N := 30) hx hb hts (fun q hq => List.mem_cons_of_mem _ (i_Model q hq)) hown hK hP 0 rfl rfl 18 (by decide) (hts _ (List.mem_cons_of_mem _ m_14_11)) (fun _ h9 => h9) rfl d_Model_mark_130 ?_
                  refine lv_iload_n hx hb d_Model_mark_133 rfl (lv_at hl 0 rfl) ?_
                  have hin : vp_in (nI k) 200 := by first | assumption | exact vp_in_nI (by omega) (by decide)
                  refine va_iald (f := u105.2.2.2.1.1) (n := 200) hx hb hK hP 15 0 rfl rfl hin d_Model_mark_134 ?_
                  rw [nI_clamp (show k < 2 ^ 31 by omega)]
                  refine lm_vv (b := ad 0) (As := [.int (u105.2.2.2.1.1 k)]) (rest := []) (wr := ([] : va_W)) ⟨hx, hb, hml, hown, hts⟩ hK hP hD hS hA [0, 1, 2, 3, 4, 5, 6, 7, 8, 9, 10, 11, 12, 13, 14, 15] [] rfl rfl (by decide) (by decide) (by decide) (c_Model_meet l dC dI cA cZ ad _ u105 (u105.2.2.2.1.1 k) (by first | exact (hfY k (by omega)).2 (by first | exact Or.inl h115 | exact Or.inr h125) | (have q9 := md_wh_eq (md_eq_meet Y (r_fi Y k)); rw [← w105] at q9; rw [show u105.2.2.2.1.1 = r_se Y from q9.2.2.1]; refine (hfY k (by omega)).2 ?_; rw [← q9.1]; first | exact Or.inl h115 | exact Or.inr h125)) (by first | exact hmY | (rw [w105]; exact md_mk_meet hmY ((hfY k (by omega)).1 (by first | exact Or.inl h85 | exact Or.inr h95))))) (cwV 1 hts (lm_gV m_16_20 m_16_21 m_20_9 m_0_5 m_16_22) rfl rfl rfl (by decide +kernel) ⟨Nat.le_of_ble_eq_true rfl, Nat.le_of_ble_eq_true rfl⟩) (va_recv (q0 := 0) hK hP rfl rfl) lm_bl_no (fun _ _ _ => trivial) hl.1 rfl rfl (Nat.le_of_ble_eq_true rfl) d_Model_mark_135 ⟨Nat.le_of_ble_eq_true rfl, Nat.le_of_ble_eq_true rfl⟩ (fun u135 H locs w135 hP hD hS => ?_)
                  have hP : va_P (dC, dI) classes (mr_W cA cZ ad u135) H := hP
                  have hD : va_D A (mr_W cA cZ ad u135) := hD
                  refine lv_iinc (k := 0) (v := (nI (k + 1))) (lv' := [(1, .int (nI (k + 1))), (0, .ref (ad 0))]) hx hb d_Model_mark_138 hl rfl ((nI_succ k).symm) (by decide) rfl (fun ls hl => ?_)
                  refine lv_goto hx hb d_Model_mark_141 rfl ?_
                  have hfa : md_fa Y k = u105 := by
                    unfold md_fa; (first | rw [if_pos h85] | rw [if_neg h85]); exact w105.symm
                  have hfb : md_fb u105 k = u135 := by
                    unfold md_fb; (first | rw [if_pos h115] | rw [if_neg h115]); exact w135.symm
                  have hr1 : md_fr1 Y k = u135 := by unfold md_fr1; rw [hfa, hfb]
                  exact ih (k + 1) u135 _ _ _ (by omega) (by rw [← hr1]; exact md_mk_fb (md_mk_fa hmY (hfY k (by omega)).1) (by rw [(md_wh_eq (md_eq_fa Y k)).1, (md_wh_eq (md_eq_fa Y k)).2.2.1]; exact (hfY k (by omega)).2)) (by rw [← hr1]; exact md_eq_tr (md_eq_fr1 Y k) heY) (by rw [hqY, md_frN, hr1]) (lv_sub hl [0, 1] rfl) hP hD hS
                · refine lv_aload_n hx hb d_Model_mark_118 rfl (lv_at hl 1 rfl) ?_
                  refine va_get (D := (dC, dI)) (ci := 4) (v := .ref (ad 13)) (C := R_Model) (T := F_Model) (N := 30) hx hb hts (fun q hq => List.mem_cons_of_mem _ (i_Model q hq)) hown hK hP 0 rfl rfl 16 (by decide) (hts _ (List.mem_cons_of_mem _ m_14_9)) (fun _ h9 => h9) rfl d_Model_mark_119 ?_
                  refine lv_iload_n hx hb d_Model_mark_122 rfl (lv_at hl 0 rfl) ?_
                  have hin : vp_in (nI k) 200 := by first | assumption | exact vp_in_nI (by omega) (by decide)
                  refine va_iald (f := u105.2.2.1.2.2.2.1) (n := 200) hx hb hK hP 13 0 rfl rfl hin d_Model_mark_123 ?_
                  rw [nI_clamp (show k < 2 ^ 31 by omega)]
                  refine lv_iconst (v := 4) hx hb d_Model_mark_124 (by decide) ?_
                  refine lv_icmp_ne hx hb d_Model_mark_125 rfl (fun h125 => ?_) (fun h125 => ?_)
                  · refine lv_iinc (k := 0) (v := (nI (k + 1))) (lv' := [(1, .int (nI (k + 1))), (0, .ref (ad 0))]) hx hb d_Model_mark_138 hl rfl ((nI_succ k).symm) (by decide) rfl (fun ls hl => ?_)
                    refine lv_goto hx hb d_Model_mark_141 rfl ?_
                    have hfa : md_fa Y k = u105 := by
                      unfold md_fa; (first | rw [if_pos h85] | rw [if_neg h85]); exact w105.symm
                    have hfb : md_fb u105 k = u105 := by
                      unfold md_fb; (first | rw [if_pos h115] | rw [if_neg h115]); (first | rw [if_pos h125] | rw [if_neg h125])
                    have hr1 : md_fr1 Y k = u105 := by unfold md_fr1; rw [hfa, hfb]
                    exact ih (k + 1) u105 _ _ _ (by omega) (by rw [← hr1]; exact md_mk_fb (md_mk_fa hmY (hfY k (by omega)).1) (by rw [(md_wh_eq (md_eq_fa Y k)).1, (md_wh_eq (md_eq_fa Y k)).2.2.1]; exact (hfY k (by omega)).2)) (by rw [← hr1]; exact md_eq_tr (md_eq_fr1 Y k) heY) (by rw [hqY, md_frN, hr1]) (lv_sub hl [0, 1] rfl) hP hD hS
                  · refine lv_aload_n hx hb d_Model_mark_128 rfl (lv_at hl 1 rfl) ?_
                    refine lv_aload_n hx hb d_Model_mark_129 rfl (lv_at hl 1 rfl) ?_
                    refine va_get (D := (dC, dI)) (ci := 4) (v := .ref (ad 15)) (C := R_Model) (T := F_Model) (N := 30) hx hb hts (fun q hq => List.mem_cons_of_mem _ (i_Model q hq)) hown hK hP 0 rfl rfl 18 (by decide) (hts _ (List.mem_cons_of_mem _ m_14_11)) (fun _ h9 => h9) rfl d_Model_mark_130 ?_
                    refine lv_iload_n hx hb d_Model_mark_133 rfl (lv_at hl 0 rfl) ?_
                    have hin : vp_in (nI k) 200 := by first | assumption | exact vp_in_nI (by omega) (by decide)
                    refine va_iald (f := u105.2.2.2.1.1) (n := 200) hx hb hK hP 15 0 rfl rfl hin d_Model_mark_134 ?_
                    rw [nI_clamp (show k < 2 ^ 31 by omega)]
                    refine lm_vv (b := ad 0) (As := [.int (u105.2.2.2.1.1 k)]) (rest := []) (wr := ([] : va_W)) ⟨hx, hb, hml, hown, hts⟩ hK hP hD hS hA [0, 1, 2, 3, 4, 5, 6, 7, 8, 9, 10, 11, 12, 13, 14, 15] [] rfl rfl (by decide) (by decide) (by decide) (c_Model_meet l dC dI cA cZ ad _ u105 (u105.2.2.2.1.1 k) (by first | exact (hfY k (by omega)).2 (by first | exact Or.inl h115 | exact Or.inr h125) | (have q9 := md_wh_eq (md_eq_meet Y (r_fi Y k)); rw [← w105] at q9; rw [show u105.2.2.2.1.1 = r_se Y from q9.2.2.1]; refine (hfY k (by omega)).2 ?_; rw [← q9.1]; first | exact Or.inl h115 | exact Or.inr h125)) (by first | exact hmY | (rw [w105]; exact md_mk_meet hmY ((hfY k (by omega)).1 (by first | exact Or.inl h85 | exact Or.inr h95))))) (cwV 1 hts (lm_gV m_16_20 m_16_21 m_20_9 m_0_5 m_16_22) rfl rfl rfl (by decide +kernel) ⟨Nat.le_of_ble_eq_true rfl, Nat.le_of_ble_eq_true rfl⟩) (va_recv (q0 := 0) hK hP rfl rfl) lm_bl_no (fun _ _ _ => trivial) hl.1 rfl rfl (Nat.le_of_ble_eq_true rfl) d_Model_mark_135 ⟨Nat.le_of_ble_eq_true rfl, Nat.le_of_ble_eq_true rfl⟩ (fun u135 H locs w135 hP hD hS => ?_)
                    have hP : va_P (dC, dI) classes (mr_W cA cZ ad u135) H := hP
                    have hD : va_D A (mr_W cA cZ ad u135) := hD
                    refine lv_iinc (k := 0) (v := (nI (k + 1))) (lv' := [(1, .int (nI (k + 1))), (0, .ref (ad 0))]) hx hb d_Model_mark_138 hl rfl ((nI_succ k).symm) (by decide) rfl (fun ls hl => ?_)
                    refine lv_goto hx hb d_Model_mark_141 rfl ?_
                    have hfa : md_fa Y k = u105 := by
                      unfold md_fa; (first | rw [if_pos h85] | rw [if_neg h85]); exact w105.symm
                    have hfb : md_fb u105 k = u135 := by
                      unfold md_fb; (first | rw [if_pos h115] | rw [if_neg h115]); (first | rw [if_pos h125] | rw [if_neg h125]); exact w135.symm
                    have hr1 : md_fr1 Y k = u135 := by unfold md_fr1; rw [hfa, hfb]
                    exact ih (k + 1) u135 _ _ _ (by omega) (by rw [← hr1]; exact md_mk_fb (md_mk_fa hmY (hfY k (by omega)).1) (by rw [(md_wh_eq (md_eq_fa Y k)).1, (md_wh_eq (md_eq_fa Y k)).2.2.1]; exact (hfY k (by omega)).2)) (by rw [← hr1]; exact md_eq_tr (md_eq_fr1 Y k) heY) (by rw [hqY, md_frN, hr1]) (lv_sub hl [0, 1] rfl) hP hD hS
              · refine lv_aload_n hx hb d_Model_mark_88 rfl (lv_at hl 1 rfl) ?_
                refine va_get (D := (dC, dI)) (ci := 4) (v := .ref (ad 13)) (C := R_Model) (T := F_Model) (N := 30) hx hb hts (fun q hq => List.mem_cons_of_mem _ (i_Model q hq)) hown hK hP 0 rfl rfl 16 (by decide) (hts _ (List.mem_cons_of_mem _ m_14_9)) (fun _ h9 => h9) rfl d_Model_mark_89 ?_
                refine lv_iload_n hx hb d_Model_mark_92 rfl (lv_at hl 0 rfl) ?_
                have hin : vp_in (nI k) 200 := by first | assumption | exact vp_in_nI (by omega) (by decide)
                refine va_iald (f := Y.2.2.1.2.2.2.1) (n := 200) hx hb hK hP 13 0 rfl rfl hin d_Model_mark_93 ?_
                rw [nI_clamp (show k < 2 ^ 31 by omega)]
                refine lv_iconst (v := 1) hx hb d_Model_mark_94 (by decide) ?_
                refine lv_icmp_ne hx hb d_Model_mark_95 rfl (fun h95 => ?_) (fun h95 => ?_)
                · refine lv_aload_n hx hb d_Model_mark_108 rfl (lv_at hl 1 rfl) ?_
                  refine va_get (D := (dC, dI)) (ci := 4) (v := .ref (ad 13)) (C := R_Model) (T := F_Model) (N := 30) hx hb hts (fun q hq => List.mem_cons_of_mem _ (i_Model q hq)) hown hK hP 0 rfl rfl 16 (by decide) (hts _ (List.mem_cons_of_mem _ m_14_9)) (fun _ h9 => h9) rfl d_Model_mark_109 ?_
                  refine lv_iload_n hx hb d_Model_mark_112 rfl (lv_at hl 0 rfl) ?_
                  have hin : vp_in (nI k) 200 := by first | assumption | exact vp_in_nI (by omega) (by decide)
                  refine va_iald (f := Y.2.2.1.2.2.2.1) (n := 200) hx hb hK hP 13 0 rfl rfl hin d_Model_mark_113 ?_
                  rw [nI_clamp (show k < 2 ^ 31 by omega)]
                  refine lv_iconst (v := 2) hx hb d_Model_mark_114 (by decide) ?_
                  refine lv_icmp_eq hx hb d_Model_mark_115 rfl (fun h115 => ?_) (fun h115 => ?_)
                  · refine lv_aload_n hx hb d_Model_mark_128 rfl (lv_at hl 1 rfl) ?_
                    refine lv_aload_n hx hb d_Model_mark_129 rfl (lv_at hl 1 rfl) ?_
                    refine va_get (D := (dC, dI)) (ci := 4) (v := .ref (ad 15)) (C := R_Model) (T := F_Model) (N := 30) hx hb hts (fun q hq => List.mem_cons_of_mem _ (i_Model q hq)) hown hK hP 0 rfl rfl 18 (by decide) (hts _ (List.mem_cons_of_mem _ m_14_11)) (fun _ h9 => h9) rfl d_Model_mark_130 ?_
                    refine lv_iload_n hx hb d_Model_mark_133 rfl (lv_at hl 0 rfl) ?_
                    have hin : vp_in (nI k) 200 := by first | assumption | exact vp_in_nI (by omega) (by decide)
                    refine va_iald (f := Y.2.2.2.1.1) (n := 200) hx hb hK hP 15 0 rfl rfl hin d_Model_mark_134 ?_
                    rw [nI_clamp (show k < 2 ^ 31 by omega)]
                    refine lm_vv (b := ad 0) (As := [.int (Y.2.2.2.1.1 k)]) (rest := []) (wr := ([] : va_W)) ⟨hx, hb, hml, hown, hts⟩ hK hP hD hS hA [0, 1, 2, 3, 4, 5, 6, 7, 8, 9, 10, 11, 12, 13, 14, 15] [] rfl rfl (by decide) (by decide) (by decide) (c_Model_meet l dC dI cA cZ ad _ Y (Y.2.2.2.1.1 k) (by first | exact (hfY k (by omega)).2 (by first | exact Or.inl h115 | exact Or.inr h125) | (have q9 := md_wh_eq (md_eq_meet Y (r_fi Y k)); rw [← w105] at q9; rw [show u105.2.2.2.1.1 = r_se Y from q9.2.2.1]; refine (hfY k (by omega)).2 ?_; rw [← q9.1]; first | exact Or.inl h115 | exact Or.inr h125)) (by first | exact hmY | (rw [w105]; exact md_mk_meet hmY ((hfY k (by omega)).1 (by first | exact Or.inl h85 | exact Or.inr h95))))) (cwV 1 hts (lm_gV m_16_20 m_16_21 m_20_9 m_0_5 m_16_22) rfl rfl rfl (by decide +kernel) ⟨Nat.le_of_ble_eq_true rfl, Nat.le_of_ble_eq_true rfl⟩) (va_recv (q0 := 0) hK hP rfl rfl) lm_bl_no (fun _ _ _ => trivial) hl.1 rfl rfl (Nat.le_of_ble_eq_true rfl) d_Model_mark_135 ⟨Nat.le_of_ble_eq_true rfl, Nat.le_of_ble_eq_true rfl⟩ (fun u135 H locs w135 hP hD hS => ?_)
                    have hP : va_P (dC, dI) classes (mr_W cA cZ ad u135) H := hP
                    have hD : va_D A (mr_W cA cZ ad u135) := hD
                    refine lv_iinc (k := 0) (v := (nI (k + 1))) (lv' := [(1, .int (nI (k + 1))), (0, .ref (ad 0))]) hx hb d_Model_mark_138 hl rfl ((nI_succ k).symm) (by decide) rfl (fun ls hl => ?_)
                    refine lv_goto hx hb d_Model_mark_141 rfl ?_
                    have hfa : md_fa Y k = Y := by
                      unfold md_fa; (first | rw [if_pos h85] | rw [if_neg h85]); (first | rw [if_pos h95] | rw [if_neg h95])
                    have hfb : md_fb Y k = u135 := by
                      unfold md_fb; (first | rw [if_pos h115] | rw [if_neg h115]); exact w135.symm
                    have hr1 : md_fr1 Y k = u135 := by unfold md_fr1; rw [hfa, hfb]
                    exact ih (k + 1) u135 _ _ _ (by omega) (by rw [← hr1]; exact md_mk_fb (md_mk_fa hmY (hfY k (by omega)).1) (by rw [(md_wh_eq (md_eq_fa Y k)).1, (md_wh_eq (md_eq_fa Y k)).2.2.1]; exact (hfY k (by omega)).2)) (by rw [← hr1]; exact md_eq_tr (md_eq_fr1 Y k) heY) (by rw [hqY, md_frN, hr1]) (lv_sub hl [0, 1] rfl) hP hD hS
                  · refine lv_aload_n hx hb d_Model_mark_118 rfl (lv_at hl 1 rfl) ?_
                    refine va_get (D := (dC, dI)) (ci := 4) (v := .ref (ad 13)) (C := R_Model) (T := F_Model) (N := 30) hx hb hts (fun q hq => List.mem_cons_of_mem _ (i_Model q hq)) hown hK hP 0 rfl rfl 16 (by decide) (hts _ (List.mem_cons_of_mem _ m_14_9)) (fun _ h9 => h9) rfl d_Model_mark_119 ?_
                    refine lv_iload_n hx hb d_Model_mark_122 rfl (lv_at hl 0 rfl) ?_
                    have hin : vp_in (nI k) 200 := by first | assumption | exact vp_in_nI (by omega) (by decide)
                    refine va_iald (f := Y.2.2.1.2.2.2.1) (n := 200) hx hb hK hP 13 0 rfl rfl hin d_Model_mark_123 ?_
                    rw [nI_clamp (show k < 2 ^ 31 by omega)]
                    refine lv_iconst (v := 4) hx hb d_Model_mark_124 (by decide) ?_
                    refine lv_icmp_ne hx hb d_Model_mark_125 rfl (fun h125 => ?_) (fun h125 => ?_)
                    · refine lv_iinc (k := 0) (v := (nI (k + 1))) (lv' := [(1, .int (nI (k + 1))), (0, .ref (ad 0))]) hx hb d_Model_mark_138 hl rfl ((nI_succ k).symm) (by decide) rfl (fun ls hl => ?_)
                      refine lv_goto hx hb d_Model_mark_141 rfl ?_
                      have hfa : md_fa Y k = Y := by
                        unfold md_fa; (first | rw [if_pos h85] | rw [if_neg h85]); (first | rw [if_pos h95] | rw [if_neg h95])
                      have hfb : md_fb Y k = Y := by
                        unfold md_fb; (first | rw [if_pos h115] | rw [if_neg h115]); (first | rw [if_pos h125] | rw [if_neg h125])
                      have hr1 : md_fr1 Y k = Y := by unfold md_fr1; rw [hfa, hfb]
                      exact ih (k + 1) Y _ _ _ (by omega) (by rw [← hr1]; exact md_mk_fb (md_mk_fa hmY (hfY k (by omega)).1) (by rw [(md_wh_eq (md_eq_fa Y k)).1, (md_wh_eq (md_eq_fa Y k)).2.2.1]; exact (hfY k (by omega)).2)) (by rw [← hr1]; exact md_eq_tr (md_eq_fr1 Y k) heY) (by rw [hqY, md_frN, hr1]) (lv_sub hl [0, 1] rfl) hP hD hS
                    · refine lv_aload_n hx hb d_Model_mark_128 rfl (lv_at hl 1 rfl) ?_
                      refine lv_aload_n hx hb d_Model_mark_129 rfl (lv_at hl 1 rfl) ?_
                      refine va_get (D := (dC, dI)) (ci := 4) (v := .ref (ad 15)) (C := R_Model) (T := F_Model) (N := 30) hx hb hts (fun q hq => List.mem_cons_of_mem _ (i_Model q hq)) hown hK hP 0 rfl rfl 18 (by decide) (hts _ (List.mem_cons_of_mem _ m_14_11)) (fun _ h9 => h9) rfl d_Model_mark_130 ?_
                      refine lv_iload_n hx hb d_Model_mark_133 rfl (lv_at hl 0 rfl) ?_
                      have hin : vp_in (nI k) 200 := by first | assumption | exact vp_in_nI (by omega) (by decide)
                      refine va_iald (f := Y.2.2.2.1.1) (n := 200) hx hb hK hP 15 0 rfl rfl hin d_Model_mark_134 ?_
                      rw [nI_clamp (show k < 2 ^ 31 by omega)]
                      refine lm_vv (b := ad 0) (As := [.int (Y.2.2.2.1.1 k)]) (rest := []) (wr := ([] : va_W)) ⟨hx, hb, hml, hown, hts⟩ hK hP hD hS hA [0, 1, 2, 3, 4, 5, 6, 7, 8, 9, 10, 11, 12, 13, 14, 15] [] rfl rfl (by decide) (by decide) (by decide) (c_Model_meet l dC dI cA cZ ad _ Y (Y.2.2.2.1.1 k) (by first | exact (hfY k (by omega)).2 (by first | exact Or.inl h115 | exact Or.inr h125) | (have q9 := md_wh_eq (md_eq_meet Y (r_fi Y k)); rw [← w105] at q9; rw [show u105.2.2.2.1.1 = r_se Y from q9.2.2.1]; refine (hfY k (by omega)).2 ?_; rw [← q9.1]; first | exact Or.inl h115 | exact Or.inr h125)) (by first | exact hmY | (rw [w105]; exact md_mk_meet hmY ((hfY k (by omega)).1 (by first | exact Or.inl h85 | exact Or.inr h95))))) (cwV 1 hts (lm_gV m_16_20 m_16_21 m_20_9 m_0_5 m_16_22) rfl rfl rfl (by decide +kernel) ⟨Nat.le_of_ble_eq_true rfl, Nat.le_of_ble_eq_true rfl⟩) (va_recv (q0 := 0) hK hP rfl rfl) lm_bl_no (fun _ _ _ => trivial) hl.1 rfl rfl (Nat.le_of_ble_eq_true rfl) d_Model_mark_135 ⟨Nat.le_of_ble_eq_true rfl, Nat.le_of_ble_eq_true rfl⟩ (fun u135 H locs w135 hP hD hS => ?_)
                      have hP : va_P (dC, dI) classes (mr_W cA cZ ad u135) H := hP
                      have hD : va_D A (mr_W cA cZ ad u135) := hD
                      refine lv_iinc (k := 0) (v := (nI (k + 1))) (lv' := [(1, .int (nI (k + 1))), (0, .ref (ad 0))]) hx hb d_Model_mark_138 hl rfl ((nI_succ k).symm) (by decide) rfl (fun ls hl => ?_)
                      refine lv_goto hx hb d_Model_mark_141 rfl ?_
                      have hfa : md_fa Y k = Y := by
                        unfold md_fa; (first | rw [if_pos h85] | rw [if_neg h85]); (first | rw [if_pos h95] | rw [if_neg h95])
                      have hfb : md_fb Y k = u135 := by
                        unfold md_fb; (first | rw [if_pos h115] | rw [if_neg h115]); (first | rw [if_pos h125] | rw [if_neg h125]); exact w135.symm
                      have hr1 : md_fr1 Y k = u135 := by unfold md_fr1; rw [hfa, hfb]
                      exact ih (k + 1) u135 _ _ _ (by omega) (by rw [← hr1]; exact md_mk_fb (md_mk_fa hmY (hfY k (by omega)).1) (by rw [(md_wh_eq (md_eq_fa Y k)).1, (md_wh_eq (md_eq_fa Y k)).2.2.1]; exact (hfY k (by omega)).2)) (by rw [← hr1]; exact md_eq_tr (md_eq_fr1 Y k) heY) (by rw [hqY, md_frN, hr1]) (lv_sub hl [0, 1] rfl) hP hD hS
                · refine lv_aload_n hx hb d_Model_mark_98 rfl (lv_at hl 1 rfl) ?_
                  refine lv_aload_n hx hb d_Model_mark_99 rfl (lv_at hl 1 rfl) ?_
                  refine va_get (D := (dC, dI)) (ci := 4) (v := .ref (ad 14)) (C := R_Model) (T := F_Model) (N := 30) hx hb hts (fun q hq => List.mem_cons_of_mem _ (i_Model q hq)) hown hK hP 0 rfl rfl 17 (by decide) (hts _ (List.mem_cons_of_mem _ m_14_10)) (fun _ h9 => h9) rfl d_Model_mark_100 ?_
                  refine lv_iload_n hx hb d_Model_mark_103 rfl (lv_at hl 0 rfl) ?_
                  have hin : vp_in (nI k) 200 := by first | assumption | exact vp_in_nI (by omega) (by decide)
                  refine va_iald (f := Y.2.2.1.2.2.2.2) (n := 200) hx hb hK hP 14 0 rfl rfl hin d_Model_mark_104 ?_
                  rw [nI_clamp (show k < 2 ^ 31 by omega)]
                  refine lm_vv (b := ad 0) (As := [.int (Y.2.2.1.2.2.2.2 k)]) (rest := []) (wr := ([] : va_W)) ⟨hx, hb, hml, hown, hts⟩ hK hP hD hS hA [0, 1, 2, 3, 4, 5, 6, 7, 8, 9, 10, 11, 12, 13, 14, 15] [] rfl rfl (by decide) (by decide) (by decide) (c_Model_meet l dC dI cA cZ ad _ Y (Y.2.2.1.2.2.2.2 k) (by exact (hfY k (by omega)).1 (by first | exact Or.inl h85 | exact Or.inr h95)) (by exact hmY)) (cwV 1 hts (lm_gV m_16_20 m_16_21 m_20_9 m_0_5 m_16_22) rfl rfl rfl (by decide +kernel) ⟨Nat.le_of_ble_eq_true rfl, Nat.le_of_ble_eq_true rfl⟩) (va_recv (q0 := 0) hK hP rfl rfl) lm_bl_no (fun _ _ _ => trivial) hl.1 rfl rfl (Nat.le_of_ble_eq_true rfl) d_Model_mark_105 ⟨Nat.le_of_ble_eq_true rfl, Nat.le_of_ble_eq_true rfl⟩ (fun u105 H locs w105 hP hD hS => ?_)
                  have hP : va_P (dC, dI) classes (mr_W cA cZ ad u105) H := hP
                  have hD : va_D A (mr_W cA cZ ad u105) := hD
                  refine lv_aload_n hx hb d_Model_mark_108 rfl (lv_at hl 1 rfl) ?_
                  refine va_get (D := (dC, dI)) (ci := 4) (v := .ref (ad 13)) (C := R_Model) (T := F_Model) (N := 30) hx hb hts (fun q hq => List.mem_cons_of_mem _ (i_Model q hq)) hown hK hP 0 rfl rfl 16 (by decide) (hts _ (List.mem_cons_of_mem _ m_14_9)) (fun _ h9 => h9) rfl d_Model_mark_109 ?_
                  refine lv_iload_n hx hb d_Model_mark_112 rfl (lv_at hl 0 rfl) ?_
                  have hin : vp_in (nI k) 200 := by first | assumption | exact vp_in_nI (by omega) (by decide)
                  refine va_iald (f := u105.2.2.1.2.2.2.1) (n := 200) hx hb hK hP 13 0 rfl rfl hin d_Model_mark_113 ?_
                  rw [nI_clamp (show k < 2 ^ 31 by omega)]
                  refine lv_iconst (v := 2) hx hb d_Model_mark_114 (by decide) ?_
                  refine lv_icmp_eq hx hb d_Model_mark_115 rfl (fun h115 => ?_) (fun h115 => ?_)
                  · refine lv_aload_n hx hb d_Model_mark_128 rfl (lv_at hl 1 rfl) ?_
                    refine lv_aload_n hx hb d_Model_mark_129 rfl (lv_at hl 1 rfl) ?_
                    refine va_get (D := (dC, dI)) (ci := 4) (v := .ref (ad 15)) (C := R_Model) (T := F_Model) (N := 30) hx hb hts (fun q hq => List.mem_cons_of_mem _ (i_Model q hq)) hown hK hP 0 rfl rfl 18 (by decide) (hts _ (List.mem_cons_of_mem _ m_14_11)) (fun _ h9 => h9) rfl d_Model_mark_130 ?_
                    refine lv_iload_n hx hb d_Model_mark_133 rfl (lv_at hl 0 rfl) ?_
                    have hin : vp_in (nI k) 200 := by first | assumption | exact vp_in_nI (by omega) (by decide)
                    refine va_iald (f := u105.2.2.2.1.1) (n := 200) hx hb hK hP 15 0 rfl rfl hin d_Model_mark_134 ?_
                    rw [nI_clamp (show k < 2 ^ 31 by omega)]
                    refine lm_vv (b := ad 0) (As := [.int (u105.2.2.2.1.1 k)]) (rest := []) (wr := ([] : va_W)) ⟨hx, hb, hml, hown, hts⟩ hK hP hD hS hA [0, 1, 2, 3, 4, 5, 6, 7, 8, 9, 10, 11, 12, 13, 14, 15] [] rfl rfl (by decide) (by decide) (by decide) (c_Model_meet l dC dI cA cZ ad _ u105 (u105.2.2.2.1.1 k) (by first | exact (hfY k (by omega)).2 (by first | exact Or.inl h115 | exact Or.inr h125) | (have q9 := md_wh_eq (md_eq_meet Y (r_fi Y k)); rw [← w105] at q9; rw [show u105.2.2.2.1.1 = r_se Y from q9.2.2.1]; refine (hfY k (by omega)).2 ?_; rw [← q9.1]; first | exact Or.inl h115 | exact Or.inr h125)) (by first | exact hmY | (rw [w105]; exact md_mk_meet hmY ((hfY k (by omega)).1 (by first | exact Or.inl h85 | exact Or.inr h95))))) (cwV 1 hts (lm_gV m_16_20 m_16_21 m_20_9 m_0_5 m_16_22) rfl rfl rfl (by decide +kernel) ⟨Nat.le_of_ble_eq_true rfl, Nat.le_of_ble_eq_true rfl⟩) (va_recv (q0 := 0) hK hP rfl rfl) lm_bl_no (fun _ _ _ => trivial) hl.1 rfl rfl (Nat.le_of_ble_eq_true rfl) d_Model_mark_135 ⟨Nat.le_of_ble_eq_true rfl, Nat.le_of_ble_eq_true rfl⟩ (fun u135 H locs w135 hP hD hS => ?_)
                    have hP : va_P (dC, dI) classes (mr_W cA cZ ad u135) H := hP
                    have hD : va_D A (mr_W cA cZ ad u135) := hD
                    refine lv_iinc (k := 0) (v := (nI (k + 1))) (lv' := [(1, .int (nI (k + 1))), (0, .ref (ad 0))]) hx hb d_Model_mark_138 hl rfl ((nI_succ k).symm) (by decide) rfl (fun ls hl => ?_)
                    refine lv_goto hx hb d_Model_mark_141 rfl ?_
                    have hfa : md_fa Y k = u105 := by
                      unfold md_fa; (first | rw [if_pos h85] | rw [if_neg h85]); (first | rw [if_pos h95] | rw [if_neg h95]); exact w105.symm
                    have hfb : md_fb u105 k = u135 := by
                      unfold md_fb; (first | rw [if_pos h115] | rw [if_neg h115]); exact w135.symm
                    have hr1 : md_fr1 Y k = u135 := by unfold md_fr1; rw [hfa, hfb]
                    exact ih (k + 1) u135 _ _ _ (by omega) (by rw [← hr1]; exact md_mk_fb (md_mk_fa hmY (hfY k (by omega)).1) (by rw [(md_wh_eq (md_eq_fa Y k)).1, (md_wh_eq (md_eq_fa Y k)).2.2.1]; exact (hfY k (by omega)).2)) (by rw [← hr1]; exact md_eq_tr (md_eq_fr1 Y k) heY) (by rw [hqY, md_frN, hr1]) (lv_sub hl [0, 1] rfl) hP hD hS
                  · refine lv_aload_n hx hb d_Model_mark_118 rfl (lv_at hl 1 rfl) ?_
                    refine va_get (D := (dC, dI)) (ci := 4) (v := .ref (ad 13)) (C := R_Model) (T := F_Model) (N := 30) hx hb hts (fun q hq => List.mem_cons_of_mem _ (i_Model q hq)) hown hK hP 0 rfl rfl 16 (by decide) (hts _ (List.mem_cons_of_mem _ m_14_9)) (fun _ h9 => h9) rfl d_Model_mark_119 ?_
                    refine lv_iload_n hx hb d_Model_mark_122 rfl (lv_at hl 0 rfl) ?_
                    have hin : vp_in (nI k) 200 := by first | assumption | exact vp_in_nI (by omega) (by decide)
                    refine va_iald (f := u105.2.2.1.2.2.2.1) (n := 200) hx hb hK hP 13 0 rfl rfl hin d_Model_mark_123 ?_
                    rw [nI_clamp (show k < 2 ^ 31 by omega)]
                    refine lv_iconst (v := 4) hx hb d_Model_mark_124 (by decide) ?_
                    refine lv_icmp_ne hx hb d_Model_mark_125 rfl (fun h125 => ?_) (fun h125 => ?_)
                    · refine lv_iinc (k := 0) (v := (nI (k + 1))) (lv' := [(1, .int (nI (k + 1))), (0, .ref (ad 0))]) hx hb d_Model_mark_138 hl rfl ((nI_succ k).symm) (by decide) rfl (fun ls hl => ?_)
                      refine lv_goto hx hb d_Model_mark_141 rfl ?_
                      have hfa : md_fa Y k = u105 := by
                        unfold md_fa; (first | rw [if_pos h85] | rw [if_neg h85]); (first | rw [if_pos h95] | rw [if_neg h95]); exact w105.symm
                      have hfb : md_fb u105 k = u105 := by
                        unfold md_fb; (first | rw [if_pos h115] | rw [if_neg h115]); (first | rw [if_pos h125] | rw [if_neg h125])
                      have hr1 : md_fr1 Y k = u105 := by unfold md_fr1; rw [hfa, hfb]
                      exact ih (k + 1) u105 _ _ _ (by omega) (by rw [← hr1]; exact md_mk_fb (md_mk_fa hmY (hfY k (by omega)).1) (by rw [(md_wh_eq (md_eq_fa Y k)).1, (md_wh_eq (md_eq_fa Y k)).2.2.1]; exact (hfY k (by omega)).2)) (by rw [← hr1]; exact md_eq_tr (md_eq_fr1 Y k) heY) (by rw [hqY, md_frN, hr1]) (lv_sub hl [0, 1] rfl) hP hD hS
                    · refine lv_aload_n hx hb d_Model_mark_128 rfl (lv_at hl 1 rfl) ?_
                      refine lv_aload_n hx hb d_Model_mark_129 rfl (lv_at hl 1 rfl) ?_
                      refine va_get (D := (dC, dI)) (ci := 4) (v := .ref (ad 15)) (C := R_Model) (T := F_Model) (N := 30) hx hb hts (fun q hq => List.mem_cons_of_mem _ (i_Model q hq)) hown hK hP 0 rfl rfl 18 (by decide) (hts _ (List.mem_cons_of_mem _ m_14_11)) (fun _ h9 => h9) rfl d_Model_mark_130 ?_
                      refine lv_iload_n hx hb d_Model_mark_133 rfl (lv_at hl 0 rfl) ?_
                      have hin : vp_in (nI k) 200 := by first | assumption | exact vp_in_nI (by omega) (by decide)
                      refine va_iald (f := u105.2.2.2.1.1) (n := 200) hx hb hK hP 15 0 rfl rfl hin d_Model_mark_134 ?_
                      rw [nI_clamp (show k < 2 ^ 31 by omega)]
                      refine lm_vv (b := ad 0) (As := [.int (u105.2.2.2.1.1 k)]) (rest := []) (wr := ([] : va_W)) ⟨hx, hb, hml, hown, hts⟩ hK hP hD hS hA [0, 1, 2, 3, 4, 5, 6, 7, 8, 9, 10, 11, 12, 13, 14, 15] [] rfl rfl (by decide) (by decide) (by decide) (c_Model_meet l dC dI cA cZ ad _ u105 (u105.2.2.2.1.1 k) (by first | exact (hfY k (by omega)).2 (by first | exact Or.inl h115 | exact Or.inr h125) | (have q9 := md_wh_eq (md_eq_meet Y (r_fi Y k)); rw [← w105] at q9; rw [show u105.2.2.2.1.1 = r_se Y from q9.2.2.1]; refine (hfY k (by omega)).2 ?_; rw [← q9.1]; first | exact Or.inl h115 | exact Or.inr h125)) (by first | exact hmY | (rw [w105]; exact md_mk_meet hmY ((hfY k (by omega)).1 (by first | exact Or.inl h85 | exact Or.inr h95))))) (cwV 1 hts (lm_gV m_16_20 m_16_21 m_20_9 m_0_5 m_16_22) rfl rfl rfl (by decide +kernel) ⟨Nat.le_of_ble_eq_true rfl, Nat.le_of_ble_eq_true rfl⟩) (va_recv (q0 := 0) hK hP rfl rfl) lm_bl_no (fun _ _ _ => trivial) hl.1 rfl rfl (Nat.le_of_ble_eq_true rfl) d_Model_mark_135 ⟨Nat.le_of_ble_eq_true rfl, Nat.le_of_ble_eq_true rfl⟩ (fun u135 H locs w135 hP hD hS => ?_)
                      have hP : va_P (dC, dI) classes (mr_W cA cZ ad u135) H := hP
                      have hD : va_D A (mr_W cA cZ ad u135) := hD
                      refine lv_iinc (k := 0) (v := (nI (k + 1))) (lv' := [(1, .int (nI (k + 1))), (0, .ref (ad 0))]) hx hb d_Model_mark_138 hl rfl ((nI_succ k).symm) (by decide) rfl (fun ls hl => ?_)
                      refine lv_goto hx hb d_Model_mark_141 rfl ?_
                      have hfa : md_fa Y k = u105 := by
                        unfold md_fa; (first | rw [if_pos h85] | rw [if_neg h85]); (first | rw [if_pos h95] | rw [if_neg h95]); exact w105.symm
                      have hfb : md_fb u105 k = u135 := by
                        unfold md_fb; (first | rw [if_pos h115] | rw [if_neg h115]); (first | rw [if_pos h125] | rw [if_neg h125]); exact w135.symm
                      have hr1 : md_fr1 Y k = u135 := by unfold md_fr1; rw [hfa, hfb]
                      exact ih (k + 1) u135 _ _ _ (by omega) (by rw [← hr1]; exact md_mk_fb (md_mk_fa hmY (hfY k (by omega)).1) (by rw [(md_wh_eq (md_eq_fa Y k)).1, (md_wh_eq (md_eq_fa Y k)).2.2.1]; exact (hfY k (by omega)).2)) (by rw [← hr1]; exact md_eq_tr (md_eq_fr1 Y k) heY) (by rw [hqY, md_frN, hr1]) (lv_sub hl [0, 1] rfl) hP hD hS
          exact loop z 0 u55 _ _ _ (by omega) (by rw [← hroot]; exact md_mk_root hmZ hrZ) (by rw [← hroot]; exact md_eq_tr (md_eq_root Z) heZ) (by unfold md_mark; rw [show (r_fr ((aso, axs, ato, ath, asi), (asr, anu, ach, aow, aar), (ais, aon, atw, awh, afi), (ase, afr, amo, ass, asp), (afo, aba, ano, aen, avs), (avo, avt, are, atd, ale))).toNatClampNeg = z by rw [hfr]; exact nI_clamp (by omega), hZ, hroot]) hl hP hD hS
    | succ fu ih => 
      intro k Z ls H locs hk hq hl hP hD hS
      refine lv_iload_n hx hb d_Model_mark_7 rfl (lv_at hl 0 rfl) ?_
      refine lv_sipush (v := 256) hx hb d_Model_mark_8 (by decide) ?_
      refine lv_icmp_ge hx hb d_Model_mark_11 rfl (fun h11 => by exact absurd h11 (nI_ge (b := 256) (by omega) (by decide))) (fun h11 => ?_)
      refine lv_aload_n hx hb d_Model_mark_14 rfl (lv_at hl 1 rfl) ?_
      refine va_get (D := (dC, dI)) (ci := 4) (v := .ref (ad 11)) (C := R_Model) (T := F_Model) (N := 30) hx hb hts (fun q hq => List.mem_cons_of_mem _ (i_Model q hq)) hown hK hP 0 rfl rfl 13 (by decide) (hts _ (List.mem_cons_of_mem _ m_14_6)) (fun _ h9 => h9) rfl d_Model_mark_15 ?_
      refine lv_iload_n hx hb d_Model_mark_18 rfl (lv_at hl 0 rfl) ?_
      refine lv_iconst (v := 0) hx hb d_Model_mark_19 (by decide) ?_
      have hin : vp_in (nI k) 256 := by first | assumption | exact vp_in_nI (by omega) (by decide)
      refine va_zast (f := Z.2.2.2.2.2.2.2.1) (n := 256) hx hb hK hP hD hS 11 1 rfl rfl hin d_Model_mark_20 (fun H locs hP hD hS => ?_)
      rw [nI_clamp (show k < 2 ^ 31 by omega)] at hP hD
      have hP : va_P (dC, dI) classes (mr_W cA cZ ad ((Z.1.1, Z.1.2.1, Z.1.2.2.1, Z.1.2.2.2.1, Z.1.2.2.2.2), (Z.2.1.1, Z.2.1.2.1, Z.2.1.2.2.1, Z.2.1.2.2.2.1, Z.2.1.2.2.2.2), (Z.2.2.1.1, Z.2.2.1.2.1, Z.2.2.1.2.2.1, Z.2.2.1.2.2.2.1, Z.2.2.1.2.2.2.2), (Z.2.2.2.1.1, Z.2.2.2.1.2.1, Z.2.2.2.1.2.2.1, Z.2.2.2.1.2.2.2.1, Z.2.2.2.1.2.2.2.2), (Z.2.2.2.2.1.1, Z.2.2.2.2.1.2.1, Z.2.2.2.2.1.2.2.1, Z.2.2.2.2.1.2.2.2.1, Z.2.2.2.2.1.2.2.2.2), (Z.2.2.2.2.2.1, Z.2.2.2.2.2.2.1, (upd Z.2.2.2.2.2.2.2.1 k 0), Z.2.2.2.2.2.2.2.2.1, Z.2.2.2.2.2.2.2.2.2))) H := hP
      have hD : va_D A (mr_W cA cZ ad ((Z.1.1, Z.1.2.1, Z.1.2.2.1, Z.1.2.2.2.1, Z.1.2.2.2.2), (Z.2.1.1, Z.2.1.2.1, Z.2.1.2.2.1, Z.2.1.2.2.2.1, Z.2.1.2.2.2.2), (Z.2.2.1.1, Z.2.2.1.2.1, Z.2.2.1.2.2.1, Z.2.2.1.2.2.2.1, Z.2.2.1.2.2.2.2), (Z.2.2.2.1.1, Z.2.2.2.1.2.1, Z.2.2.2.1.2.2.1, Z.2.2.2.1.2.2.2.1, Z.2.2.2.1.2.2.2.2), (Z.2.2.2.2.1.1, Z.2.2.2.2.1.2.1, Z.2.2.2.2.1.2.2.1, Z.2.2.2.2.1.2.2.2.1, Z.2.2.2.2.1.2.2.2.2), (Z.2.2.2.2.2.1, Z.2.2.2.2.2.2.1, (upd Z.2.2.2.2.2.2.2.1 k 0), Z.2.2.2.2.2.2.2.2.1, Z.2.2.2.2.2.2.2.2.2))) := hD
      refine lv_iinc (k := 0) (v := (nI (k + 1))) (lv' := [(1, .int (nI (k + 1))), (0, .ref (ad 0))]) hx hb d_Model_mark_21 hl rfl ((nI_succ k).symm) (by decide) rfl (fun ls hl => ?_)
      refine lv_goto hx hb d_Model_mark_24 rfl ?_
      exact ih (k + 1) ((Z.1.1, Z.1.2.1, Z.1.2.2.1, Z.1.2.2.2.1, Z.1.2.2.2.2), (Z.2.1.1, Z.2.1.2.1, Z.2.1.2.2.1, Z.2.1.2.2.2.1, Z.2.1.2.2.2.2), (Z.2.2.1.1, Z.2.2.1.2.1, Z.2.2.1.2.2.1, Z.2.2.1.2.2.2.1, Z.2.2.1.2.2.2.2), (Z.2.2.2.1.1, Z.2.2.2.1.2.1, Z.2.2.2.1.2.2.1, Z.2.2.2.1.2.2.2.1, Z.2.2.2.1.2.2.2.2), (Z.2.2.2.2.1.1, Z.2.2.2.2.1.2.1, Z.2.2.2.2.1.2.2.1, Z.2.2.2.2.1.2.2.2.1, Z.2.2.2.2.1.2.2.2.2), (Z.2.2.2.2.2.1, Z.2.2.2.2.2.2.1, (upd Z.2.2.2.2.2.2.2.1 k 0), Z.2.2.2.2.2.2.2.2.1, Z.2.2.2.2.2.2.2.2.2)) _ _ _ (by omega) (by rw [hq, md_clrN]; rfl) (lv_sub hl [0, 1] rfl) hP hD hS
  exact loop 256 0 ((aso, axs, ato, ath, asi), (asr, anu, ach, aow, aar), (ais, aon, atw, awh, afi), (ase, afr, amo, ass, asp), (afo, aba, ano, aen, avs), (avo, avt, are, atd, 0)) _ _ _ (by omega) (by rfl) hl hP hD hS
set_option maxHeartbeats 4000000 in
set_option maxRecDepth 100000 in
theorem c_Model_cell (l : Launch) (dC : Nat → ClassId) (dI : Nat → Nat → Nat) (cA cZ : ClassId)  (ad : Nat → Nat) (sz : Nat) (S : ZNS) (y1 y2 y3 : Int32) (hj0 : ∃ j : Nat, j < 256 ∧ r_re S j = 0) : Met l y_Model_cell w_Model_cell ({ frames := 0, cells := 0, slots := 0, locals := 0 } : Room) (va_Pc [.ref (ad 0), .int y1, .int y2, .int y3] (lm_pre (dC, dI) classes [(cA, .int), (cZ, .boolean)] (mr_W cA cZ ad S) sz lm_no)) (va_Qi (fun (r : Int32) (u : ZNS) => r = (md_cell S y1 y2 y3).1 ∧ u = (md_cell S y1 y2 y3).2) (fun u => lm_at (dC, dI) classes [(cA, .int), (cZ, .boolean)] (va_A (mr_W cA cZ ad S) sz) (mr_W cA cZ ad u)) (va_A (mr_W cA cZ ad S) sz)) 0 0 (va_A (mr_W cA cZ ad S) sz) := by
  obtain ⟨⟨aso, axs, ato, ath, asi⟩, ⟨asr, anu, ach, aow, aar⟩, ⟨ais, aon, atw, awh, afi⟩, ⟨ase, afr, amo, ass, asp⟩, ⟨afo, aba, ano, aen, avs⟩, ⟨avo, avt, are, atd, ale⟩⟩ := S
  refine lm_met (fun A => va_Qi (fun (r : Int32) (u : ZNS) => r = (md_cell ((aso, axs, ato, ath, asi), (asr, anu, ach, aow, aar), (ais, aon, atw, awh, afi), (ase, afr, amo, ass, asp), (afo, aba, ano, aen, avs), (avo, avt, are, atd, ale)) y1 y2 y3).1 ∧ u = (md_cell ((aso, axs, ato, ath, asi), (asr, anu, ach, aow, aar), (ais, aon, atw, awh, afi), (ase, afr, amo, ass, asp), (afo, aba, ano, aen, avs), (avo, avt, are, atd, ale)) y1 y2 y3).2) (fun u => lm_at (dC, dI) classes [(cA, .int), (cZ, .boolean)] A (mr_W cA cZ ad u)) A) (by decide) rfl (Nat.le_of_ble_eq_true rfl) ?_
  intro p e s m below meth c A hx hb hr hts hown hlocks hname hml hK hP hD hA hE hsz hAe hS ls hl
  replace hl : lv_has ls 5 [(0, .ref (ad 0)), (1, .int y1), (2, .int y2), (3, .int y3)] := hl
  clear hAe hsz
  refine lv_iconst (v := 0) hx hb d_Model_cell_0 (by decide) ?_
  refine lv_istore (lv' := [(4, .int 0), (0, .ref (ad 0)), (1, .int y1), (2, .int y2), (3, .int y3)]) hx hb d_Model_cell_1 hl (by decide) rfl (fun ls hl => ?_)
  have loop : ∀ (fu : Nat) (k : Nat) (ls : Array Slot) (H : Heap) (locs : List Loc), (k + fu = 256) → (∃ j : Nat, k ≤ j ∧ j < 256 ∧ are j = 0) → (md_find are 256 0 = md_find are fu k) → lv_has ls 5 [(4, .int (nI k)), (0, .ref (ad 0)), (1, .int y1), (2, .int y2), (3, .int y3)] → va_P (dC, dI) classes (mr_W cA cZ ad ((aso, axs, ato, ath, asi), (asr, anu, ach, aow, aar), (ais, aon, atw, awh, afi), (ase, afr, amo, ass, asp), (afo, aba, ano, aen, avs), (avo, avt, are, atd, ale))) H → va_D A (mr_W cA cZ ad ((aso, axs, ato, ath, asi), (asr, anu, ach, aow, aar), (ais, aon, atw, awh, afi), (ase, afr, amo, ass, asp), (afo, aba, ano, aen, avs), (avo, avt, are, atd, ale))) → va_S A s.heap H locs → W p l e (headSpec w_Model_cell ({ frames := 0, cells := 0, slots := 0, locals := 0 } : Room)).room s m (List.toArray [.ref (ad 0), .int y1, .int y2, .int y3]) below meth c H locs 0 0 (MQ below (va_Qi (fun (r : Int32) (u : ZNS) => r = (md_cell ((aso, axs, ato, ath, asi), (asr, anu, ach, aow, aar), (ais, aon, atw, awh, afi), (ase, afr, amo, ass, asp), (afo, aba, ano, aen, avs), (avo, avt, are, atd, ale)) y1 y2 y3).1 ∧ u = (md_cell ((aso, axs, ato, ath, asi), (asr, anu, ach, aow, aar), (ais, aon, atw, awh, afi), (ase, afr, amo, ass, asp), (afo, aba, ano, aen, avs), (avo, avt, are, atd, ale)) y1 y2 y3).2) (fun u => lm_at (dC, dI) classes [(cA, .int), (cZ, .boolean)] A (mr_W cA cZ ad u)) A) (List.toArray [.ref (ad 0), .int y1, .int y2, .int y3]) s 0 0 A) (F0 m 3 ls []) := by
    intro fu
    induction fu with
    | zero => 
      intro k ls H locs hk hj hq hl hP hD hS
      obtain ⟨j, h1, h2, _⟩ := hj; omega
    | succ fu ih => 
      intro k ls H locs hk hj hq hl hP hD hS
      refine lv_aload_n hx hb d_Model_cell_3 rfl (lv_at hl 1 rfl) ?_
      refine va_get (D := (dC, dI)) (ci := 4) (v := .ref (ad 11)) (C := R_Model) (T := F_Model) (N := 30) hx hb hts (fun q hq => List.mem_cons_of_mem _ (i_Model q hq)) hown hK hP 0 rfl rfl 13 (by decide) (hts _ (List.mem_cons_of_mem _ m_14_6)) (fun _ h9 => h9) rfl d_Model_cell_4 ?_
      refine lv_iload hx hb d_Model_cell_7 (lv_at hl 0 rfl) ?_
      have hin : vp_in (nI k) 256 := by first | assumption | exact vp_in_nI (by omega) (by decide)
      refine va_zald (f := are) (n := 256) hx hb hK hP 11 1 rfl rfl hin d_Model_cell_9 ?_
      rw [nI_clamp (show k < 2 ^ 31 by omega)]
      refine lv_if_eq hx hb d_Model_cell_10 rfl (fun h10 => ?_) (fun h10 => ?_)
      · refine lv_aload_n hx hb d_Model_cell_19 rfl (lv_at hl 1 rfl) ?_
        refine va_get (D := (dC, dI)) (ci := 4) (v := .ref (ad 11)) (C := R_Model) (T := F_Model) (N := 30) hx hb hts (fun q hq => List.mem_cons_of_mem _ (i_Model q hq)) hown hK hP 0 rfl rfl 13 (by decide) (hts _ (List.mem_cons_of_mem _ m_14_6)) (fun _ h9 => h9) rfl d_Model_cell_20 ?_
        refine lv_iload hx hb d_Model_cell_23 (lv_at hl 0 rfl) ?_
        refine lv_iconst (v := 1) hx hb d_Model_cell_25 (by decide) ?_
        have hin : vp_in (nI k) 256 := by first | assumption | exact vp_in_nI (by omega) (by decide)
        refine va_zast (f := are) (n := 256) hx hb hK hP hD hS 11 1 rfl rfl hin d_Model_cell_26 (fun H locs hP hD hS => ?_)
        rw [nI_clamp (show k < 2 ^ 31 by omega)] at hP hD
        have hP : va_P (dC, dI) classes (mr_W cA cZ ad ((aso, axs, ato, ath, asi), (asr, anu, ach, aow, aar), (ais, aon, atw, awh, afi), (ase, afr, amo, ass, asp), (afo, aba, ano, aen, avs), (avo, avt, (upd are k 1), atd, ale))) H := hP
        have hD : va_D A (mr_W cA cZ ad ((aso, axs, ato, ath, asi), (asr, anu, ach, aow, aar), (ais, aon, atw, awh, afi), (ase, afr, amo, ass, asp), (afo, aba, ano, aen, avs), (avo, avt, (upd are k 1), atd, ale))) := hD
        refine lv_aload_n hx hb d_Model_cell_27 rfl (lv_at hl 1 rfl) ?_
        refine va_get (D := (dC, dI)) (ci := 4) (v := .ref (ad 8)) (C := R_Model) (T := F_Model) (N := 30) hx hb hts (fun q hq => List.mem_cons_of_mem _ (i_Model q hq)) hown hK hP 0 rfl rfl 10 (by decide) (hts _ (List.mem_cons_of_mem _ m_14_3)) (fun _ h9 => h9) rfl d_Model_cell_28 ?_
        refine lv_iload hx hb d_Model_cell_31 (lv_at hl 0 rfl) ?_
        refine lv_iload_n hx hb d_Model_cell_33 rfl (lv_at hl 2 rfl) ?_
        have hin : vp_in (nI k) 256 := by first | assumption | exact vp_in_nI (by omega) (by decide)
        refine va_iast (f := ais) (n := 256) hx hb hK hP hD hS 8 0 rfl rfl hin d_Model_cell_34 (fun H locs hP hD hS => ?_)
        rw [nI_clamp (show k < 2 ^ 31 by omega)] at hP hD
        have hP : va_P (dC, dI) classes (mr_W cA cZ ad ((aso, axs, ato, ath, asi), (asr, anu, ach, aow, aar), ((upd ais k y1), aon, atw, awh, afi), (ase, afr, amo, ass, asp), (afo, aba, ano, aen, avs), (avo, avt, (upd are k 1), atd, ale))) H := hP
        have hD : va_D A (mr_W cA cZ ad ((aso, axs, ato, ath, asi), (asr, anu, ach, aow, aar), ((upd ais k y1), aon, atw, awh, afi), (ase, afr, amo, ass, asp), (afo, aba, ano, aen, avs), (avo, avt, (upd are k 1), atd, ale))) := hD
        refine lv_aload_n hx hb d_Model_cell_35 rfl (lv_at hl 1 rfl) ?_
        refine va_get (D := (dC, dI)) (ci := 4) (v := .ref (ad 9)) (C := R_Model) (T := F_Model) (N := 30) hx hb hts (fun q hq => List.mem_cons_of_mem _ (i_Model q hq)) hown hK hP 0 rfl rfl 11 (by decide) (hts _ (List.mem_cons_of_mem _ m_14_4)) (fun _ h9 => h9) rfl d_Model_cell_36 ?_
        refine lv_iload hx hb d_Model_cell_39 (lv_at hl 0 rfl) ?_
        refine lv_iload_n hx hb d_Model_cell_41 rfl (lv_at hl 3 rfl) ?_
        have hin : vp_in (nI k) 256 := by first | assumption | exact vp_in_nI (by omega) (by decide)
        refine va_iast (f := aon) (n := 256) hx hb hK hP hD hS 9 0 rfl rfl hin d_Model_cell_42 (fun H locs hP hD hS => ?_)
        rw [nI_clamp (show k < 2 ^ 31 by omega)] at hP hD
        have hP : va_P (dC, dI) classes (mr_W cA cZ ad ((aso, axs, ato, ath, asi), (asr, anu, ach, aow, aar), ((upd ais k y1), (upd aon k y2), atw, awh, afi), (ase, afr, amo, ass, asp), (afo, aba, ano, aen, avs), (avo, avt, (upd are k 1), atd, ale))) H := hP
        have hD : va_D A (mr_W cA cZ ad ((aso, axs, ato, ath, asi), (asr, anu, ach, aow, aar), ((upd ais k y1), (upd aon k y2), atw, awh, afi), (ase, afr, amo, ass, asp), (afo, aba, ano, aen, avs), (avo, avt, (upd are k 1), atd, ale))) := hD
        refine lv_aload_n hx hb d_Model_cell_43 rfl (lv_at hl 1 rfl) ?_
        refine va_get (D := (dC, dI)) (ci := 4) (v := .ref (ad 10)) (C := R_Model) (T := F_Model) (N := 30) hx hb hts (fun q hq => List.mem_cons_of_mem _ (i_Model q hq)) hown hK hP 0 rfl rfl 12 (by decide) (hts _ (List.mem_cons_of_mem _ m_14_5)) (fun _ h9 => h9) rfl d_Model_cell_44 ?_
        refine lv_iload hx hb d_Model_cell_47 (lv_at hl 0 rfl) ?_
        refine lv_iload_n hx hb d_Model_cell_49 rfl (lv_at hl 4 rfl) ?_
        have hin : vp_in (nI k) 256 := by first | assumption | exact vp_in_nI (by omega) (by decide)
        refine va_iast (f := atw) (n := 256) hx hb hK hP hD hS 10 0 rfl rfl hin d_Model_cell_50 (fun H locs hP hD hS => ?_)
        rw [nI_clamp (show k < 2 ^ 31 by omega)] at hP hD
        have hP : va_P (dC, dI) classes (mr_W cA cZ ad ((aso, axs, ato, ath, asi), (asr, anu, ach, aow, aar), ((upd ais k y1), (upd aon k y2), (upd atw k y3), awh, afi), (ase, afr, amo, ass, asp), (afo, aba, ano, aen, avs), (avo, avt, (upd are k 1), atd, ale))) H := hP
        have hD : va_D A (mr_W cA cZ ad ((aso, axs, ato, ath, asi), (asr, anu, ach, aow, aar), ((upd ais k y1), (upd aon k y2), (upd atw k y3), awh, afi), (ase, afr, amo, ass, asp), (afo, aba, ano, aen, avs), (avo, avt, (upd are k 1), atd, ale))) := hD
        refine lv_iload hx hb d_Model_cell_51 (lv_at hl 0 rfl) ?_
        refine lm_ri (v := (nI k)) hx hb hr hlocks ((aso, axs, ato, ath, asi), (asr, anu, ach, aow, aar), ((upd ais k y1), (upd aon k y2), (upd atw k y3), awh, afi), (ase, afr, amo, ass, asp), (afo, aba, ano, aen, avs), (avo, avt, (upd are k 1), atd, ale)) ?_ hP hK hD hS d_Model_cell_53
        have hkk : md_find are 256 0 = k := by rw [hq, md_find, if_pos h10]
        unfold md_cell; rw [show r_re ((aso, axs, ato, ath, asi), (asr, anu, ach, aow, aar), (ais, aon, atw, awh, afi), (ase, afr, amo, ass, asp), (afo, aba, ano, aen, avs), (avo, avt, are, atd, ale)) = are from rfl, hkk]; exact ⟨rfl, rfl⟩
      · refine lv_iinc (k := 0) (v := (nI (k + 1))) (lv' := [(4, .int (nI (k + 1))), (0, .ref (ad 0)), (1, .int y1), (2, .int y2), (3, .int y3)]) hx hb d_Model_cell_13 hl rfl ((nI_succ k).symm) (by decide) rfl (fun ls hl => ?_)
        refine lv_goto hx hb d_Model_cell_16 rfl ?_
        exact ih (k + 1) _ _ _ (by omega) (by obtain ⟨j, h1, h2, h3⟩ := hj; refine ⟨j, ?_, h2, h3⟩; rcases Nat.lt_or_ge k j with h9 | h9; exact h9; exact absurd (by rw [show k = j by omega]; exact h3) h10) (by rw [hq, md_find, if_neg h10]) (lv_sub hl [0, 1, 2, 3, 4] rfl) hP hD hS
  exact loop 256 0 _ _ _ (by omega) (by obtain ⟨j, h1, h2⟩ := hj0; exact ⟨j, by omega, h1, h2⟩) (by rfl) hl hP hD hS
set_option maxHeartbeats 4000000 in
set_option maxRecDepth 100000 in
theorem c_Model_costs (l : Launch) (dC : Nat → ClassId) (dI : Nat → Nat → Nat) (cA cZ : ClassId)  (ad : Nat → Nat) (sz : Nat) (S : ZNS) (x : Int32) (hx1 : vp_in x 200) : Met l y_Model_costs w_Model_costs ({ frames := 0, cells := 0, slots := 0, locals := 0 } : Room) (va_Pc [.ref (ad 0), .int x] (lm_pre (dC, dI) classes [(cA, .int), (cZ, .boolean)] (mr_W cA cZ ad S) sz lm_no)) (va_Qi (fun (r : Int32) (u : ZNS) => r = md_costs S x ∧ u = S) (fun u => lm_at (dC, dI) classes [(cA, .int), (cZ, .boolean)] (va_A (mr_W cA cZ ad S) sz) (mr_W cA cZ ad u)) (va_A (mr_W cA cZ ad S) sz)) 0 0 (va_A (mr_W cA cZ ad S) sz) := by
  obtain ⟨⟨aso, axs, ato, ath, asi⟩, ⟨asr, anu, ach, aow, aar⟩, ⟨ais, aon, atw, awh, afi⟩, ⟨ase, afr, amo, ass, asp⟩, ⟨afo, aba, ano, aen, avs⟩, ⟨avo, avt, are, atd, ale⟩⟩ := S
  refine lm_met (fun A => va_Qi (fun (r : Int32) (u : ZNS) => r = md_costs ((aso, axs, ato, ath, asi), (asr, anu, ach, aow, aar), (ais, aon, atw, awh, afi), (ase, afr, amo, ass, asp), (afo, aba, ano, aen, avs), (avo, avt, are, atd, ale)) x ∧ u = ((aso, axs, ato, ath, asi), (asr, anu, ach, aow, aar), (ais, aon, atw, awh, afi), (ase, afr, amo, ass, asp), (afo, aba, ano, aen, avs), (avo, avt, are, atd, ale))) (fun u => lm_at (dC, dI) classes [(cA, .int), (cZ, .boolean)] A (mr_W cA cZ ad u)) A) (by decide) rfl (Nat.le_of_ble_eq_true rfl) ?_
  intro p e s m below meth c A hx hb hr hts hown hlocks hname hml hK hP hD hA hE hsz hAe hS ls hl
  replace hl : lv_has ls 2 [(0, .ref (ad 0)), (1, .int x)] := hl
  clear hAe hsz
  refine lv_aload_n hx hb d_Model_costs_0 rfl (lv_at hl 0 rfl) ?_
  refine va_get (D := (dC, dI)) (ci := 4) (v := .ref (ad 3)) (C := R_Model) (T := F_Model) (N := 30) hx hb hts (fun q hq => List.mem_cons_of_mem _ (i_Model q hq)) hown hK hP 0 rfl rfl 4 (by decide) (hts _ (List.mem_cons_of_mem _ m_13_21)) (fun _ h9 => h9) rfl d_Model_costs_1 ?_
  refine lv_iload_n hx hb d_Model_costs_4 rfl (lv_at hl 1 rfl) ?_
  have hin : vp_in x 200 := by first | assumption | exact vp_in_nI (by omega) (by decide)
  refine va_iald (f := asr) (n := 200) hx hb hK hP 3 0 rfl rfl hin d_Model_costs_5 ?_
  refine lv_if_ne hx hb d_Model_costs_6 rfl (fun h6 => ?_) (fun h6 => ?_)
  · refine lv_iconst (v := 1) hx hb d_Model_costs_13 (by decide) ?_
    refine lm_ri (v := 1) hx hb hr hlocks ((aso, axs, ato, ath, asi), (asr, anu, ach, aow, aar), (ais, aon, atw, awh, afi), (ase, afr, amo, ass, asp), (afo, aba, ano, aen, avs), (avo, avt, are, atd, ale)) ?_ hP hK hD hS d_Model_costs_14
    unfold md_costs; (first | rw [if_pos h6] | rw [if_neg h6]); exact ⟨rfl, rfl⟩
  · refine lv_iconst (v := 0) hx hb d_Model_costs_9 (by decide) ?_
    refine lv_goto hx hb d_Model_costs_10 rfl ?_
    refine lm_ri (v := 0) hx hb hr hlocks ((aso, axs, ato, ath, asi), (asr, anu, ach, aow, aar), (ais, aon, atw, awh, afi), (ase, afr, amo, ass, asp), (afo, aba, ano, aen, avs), (avo, avt, are, atd, ale)) ?_ hP hK hD hS d_Model_costs_14
    unfold md_costs; (first | rw [if_pos h6] | rw [if_neg h6]); exact ⟨rfl, rfl⟩
set_option maxHeartbeats 4000000 in
set_option maxRecDepth 100000 in
theorem c_Model_bound (l : Launch) (dC : Nat → ClassId) (dI : Nat → Nat → Nat) (cA cZ : ClassId)  (ad : Nat → Nat) (sz : Nat) (S : ZNS) (x : Int32) (hx1 : ∃ n : Nat, n < 1000 ∧ x = nI n ∧ md_chain (r_tw S) (r_en S) n) : Met l y_Model_bound w_Model_bound ({ frames := 0, cells := 0, slots := 0, locals := 0 } : Room) (va_Pc [.ref (ad 0), .int x] (lm_pre (dC, dI) classes [(cA, .int), (cZ, .boolean)] (mr_W cA cZ ad S) sz lm_no)) (va_Qi (fun (r : Int32) (u : ZNS) => r = md_bound S x ∧ u = S) (fun u => lm_at (dC, dI) classes [(cA, .int), (cZ, .boolean)] (va_A (mr_W cA cZ ad S) sz) (mr_W cA cZ ad u)) (va_A (mr_W cA cZ ad S) sz)) 0 0 (va_A (mr_W cA cZ ad S) sz) := by
  obtain ⟨⟨aso, axs, ato, ath, asi⟩, ⟨asr, anu, ach, aow, aar⟩, ⟨ais, aon, atw, awh, afi⟩, ⟨ase, afr, amo, ass, asp⟩, ⟨afo, aba, ano, aen, avs⟩, ⟨avo, avt, are, atd, ale⟩⟩ := S
  obtain ⟨n, hn, rfl, hch⟩ := hx1
  have hch : md_chain atw aen n := hch
  refine lm_met (fun A => va_Qi (fun (r : Int32) (u : ZNS) => r = md_bound ((aso, axs, ato, ath, asi), (asr, anu, ach, aow, aar), (ais, aon, atw, awh, afi), (ase, afr, amo, ass, asp), (afo, aba, ano, aen, avs), (avo, avt, are, atd, ale)) (nI n) ∧ u = ((aso, axs, ato, ath, asi), (asr, anu, ach, aow, aar), (ais, aon, atw, awh, afi), (ase, afr, amo, ass, asp), (afo, aba, ano, aen, avs), (avo, avt, are, atd, ale))) (fun u => lm_at (dC, dI) classes [(cA, .int), (cZ, .boolean)] A (mr_W cA cZ ad u)) A) (by decide) rfl (Nat.le_of_ble_eq_true rfl) ?_
  intro p e s m below meth c A hx hb hr hts hown hlocks hname hml hK hP hD hA hE hsz hAe hS ls hl
  replace hl : lv_has ls 4 [(0, .ref (ad 0)), (1, .int (nI n))] := hl
  clear hAe hsz
  refine lv_aload_n hx hb d_Model_bound_0 rfl (lv_at hl 0 rfl) ?_
  refine va_get (D := (dC, dI)) (ci := 4) (v := .int aen) (C := R_Model) (T := F_Model) (N := 30) hx hb hts (fun q hq => List.mem_cons_of_mem _ (i_Model q hq)) hown hK hP 0 rfl rfl 26 (by decide) (hts _ (List.mem_cons_of_mem _ m_14_19)) (fun _ h9 => h9) rfl d_Model_bound_1 ?_
  refine lv_istore_n (lv' := [(2, .int aen), (0, .ref (ad 0)), (1, .int (nI n))]) hx hb d_Model_bound_4 rfl hl (by decide) rfl (fun ls hl => ?_)
  refine lv_iconst (v := 0) hx hb d_Model_bound_5 (by decide) ?_
  refine lv_istore_n (lv' := [(3, .int 0), (2, .int aen), (0, .ref (ad 0)), (1, .int (nI n))]) hx hb d_Model_bound_6 rfl hl (by decide) rfl (fun ls hl => ?_)
  have loop : ∀ (fu : Nat) (k : Nat) (ls : Array Slot) (H : Heap) (locs : List Loc), (k + fu = n) → lv_has ls 4 [(3, .int (nI k)), (2, .int (md_walk atw k aen)), (0, .ref (ad 0)), (1, .int (nI n))] → va_P (dC, dI) classes (mr_W cA cZ ad ((aso, axs, ato, ath, asi), (asr, anu, ach, aow, aar), (ais, aon, atw, awh, afi), (ase, afr, amo, ass, asp), (afo, aba, ano, aen, avs), (avo, avt, are, atd, ale))) H → va_D A (mr_W cA cZ ad ((aso, axs, ato, ath, asi), (asr, anu, ach, aow, aar), (ais, aon, atw, awh, afi), (ase, afr, amo, ass, asp), (afo, aba, ano, aen, avs), (avo, avt, are, atd, ale))) → va_S A s.heap H locs → W p l e (headSpec w_Model_bound ({ frames := 0, cells := 0, slots := 0, locals := 0 } : Room)).room s m (List.toArray [.ref (ad 0), .int (nI n)]) below meth c H locs 0 0 (MQ below (va_Qi (fun (r : Int32) (u : ZNS) => r = md_bound ((aso, axs, ato, ath, asi), (asr, anu, ach, aow, aar), (ais, aon, atw, awh, afi), (ase, afr, amo, ass, asp), (afo, aba, ano, aen, avs), (avo, avt, are, atd, ale)) (nI n) ∧ u = ((aso, axs, ato, ath, asi), (asr, anu, ach, aow, aar), (ais, aon, atw, awh, afi), (ase, afr, amo, ass, asp), (afo, aba, ano, aen, avs), (avo, avt, are, atd, ale))) (fun u => lm_at (dC, dI) classes [(cA, .int), (cZ, .boolean)] A (mr_W cA cZ ad u)) A) (List.toArray [.ref (ad 0), .int (nI n)]) s 0 0 A) (F0 m 7 ls []) := by
    intro fu
    induction fu with
    | zero => 
      intro k ls H locs hk hl hP hD hS
      refine lv_iload_n hx hb d_Model_bound_7 rfl (lv_at hl 0 rfl) ?_
      refine lv_iload_n hx hb d_Model_bound_8 rfl (lv_at hl 3 rfl) ?_
      refine lv_icmp_ge hx hb d_Model_bound_9 rfl (fun h9 => ?_) (fun h9 => by exact absurd (nI_le (by omega) (by omega)) h9)
      refine lv_aload_n hx hb d_Model_bound_25 rfl (lv_at hl 2 rfl) ?_
      refine va_get (D := (dC, dI)) (ci := 4) (v := .ref (ad 9)) (C := R_Model) (T := F_Model) (N := 30) hx hb hts (fun q hq => List.mem_cons_of_mem _ (i_Model q hq)) hown hK hP 0 rfl rfl 11 (by decide) (hts _ (List.mem_cons_of_mem _ m_14_4)) (fun _ h9 => h9) rfl d_Model_bound_26 ?_
      refine lv_iload_n hx hb d_Model_bound_29 rfl (lv_at hl 1 rfl) ?_
      have hin : vp_in (md_walk atw k aen) 256 := by exact hch k (by omega)
      refine va_iald (f := aon) (n := 256) hx hb hK hP 9 0 rfl rfl hin d_Model_bound_30 ?_
      refine lm_ri (v := (aon (md_walk atw k aen).toNatClampNeg)) hx hb hr hlocks ((aso, axs, ato, ath, asi), (asr, anu, ach, aow, aar), (ais, aon, atw, awh, afi), (ase, afr, amo, ass, asp), (afo, aba, ano, aen, avs), (avo, avt, are, atd, ale)) ?_ hP hK hD hS d_Model_bound_31
      unfold md_bound; rw [nI_clamp (by omega), show k = n by omega]; exact ⟨rfl, rfl⟩
    | succ fu ih => 
      intro k ls H locs hk hl hP hD hS
      refine lv_iload_n hx hb d_Model_bound_7 rfl (lv_at hl 0 rfl) ?_
      refine lv_iload_n hx hb d_Model_bound_8 rfl (lv_at hl 3 rfl) ?_
      refine lv_icmp_ge hx hb d_Model_bound_9 rfl (fun h9 => by exact absurd h9 (nI_ge (by omega) (by omega))) (fun h9 => ?_)
      refine lv_aload_n hx hb d_Model_bound_12 rfl (lv_at hl 2 rfl) ?_
      refine va_get (D := (dC, dI)) (ci := 4) (v := .ref (ad 10)) (C := R_Model) (T := F_Model) (N := 30) hx hb hts (fun q hq => List.mem_cons_of_mem _ (i_Model q hq)) hown hK hP 0 rfl rfl 12 (by decide) (hts _ (List.mem_cons_of_mem _ m_14_5)) (fun _ h9 => h9) rfl d_Model_bound_13 ?_
      refine lv_iload_n hx hb d_Model_bound_16 rfl (lv_at hl 1 rfl) ?_
      have hin : vp_in (md_walk atw k aen) 256 := by exact hch k (by omega)
      refine va_iald (f := atw) (n := 256) hx hb hK hP 10 0 rfl rfl hin d_Model_bound_17 ?_
      rw [md_walk_s atw k aen]
      refine lv_istore_n (lv' := [(2, .int (md_walk atw (k + 1) aen)), (3, .int (nI k)), (0, .ref (ad 0)), (1, .int (nI n))]) hx hb d_Model_bound_18 rfl hl (by decide) rfl (fun ls hl => ?_)
      refine lv_iinc (k := 1) (v := (nI (k + 1))) (lv' := [(3, .int (nI (k + 1))), (2, .int (md_walk atw (k + 1) aen)), (0, .ref (ad 0)), (1, .int (nI n))]) hx hb d_Model_bound_19 hl rfl ((nI_succ k).symm) (by decide) rfl (fun ls hl => ?_)
      refine lv_goto hx hb d_Model_bound_22 rfl ?_
      exact ih (k + 1) _ _ _ (by omega) (lv_sub hl [0, 1, 2, 3] rfl) hP hD hS
  exact loop n 0 _ _ _ (by omega) hl hP hD hS
set_option maxHeartbeats 4000000 in
set_option maxRecDepth 100000 in
theorem c_Model_thunk (l : Launch) (dC : Nat → ClassId) (dI : Nat → Nat → Nat) (cA cZ : ClassId)  (ad : Nat → Nat) (sz : Nat) (S : ZNS) (x : Int32) (hx1 : vp_in x 200) (hb1 : r_sr S x.toNatClampNeg = 0 → ∃ n : Nat, n < 1000 ∧ r_nu S x.toNatClampNeg = nI n ∧ md_chain (r_tw S) (r_en S) n) (hj0 : ¬ r_sr S x.toNatClampNeg = 0 → ∃ j : Nat, j < 256 ∧ r_re S j = 0) : Met l y_Model_thunk w_Model_thunk ({ frames := 1, cells := 0, slots := 0, locals := 24 } : Room) (va_Pc [.ref (ad 0), .int x] (lm_pre (dC, dI) classes [(cA, .int), (cZ, .boolean)] (mr_W cA cZ ad S) sz lm_no)) (va_Qi (fun (r : Int32) (u : ZNS) => r = (md_thunk S x).1 ∧ u = (md_thunk S x).2) (fun u => lm_at (dC, dI) classes [(cA, .int), (cZ, .boolean)] (va_A (mr_W cA cZ ad S) sz) (mr_W cA cZ ad u)) (va_A (mr_W cA cZ ad S) sz)) 0 0 (va_A (mr_W cA cZ ad S) sz) := by
  obtain ⟨⟨aso, axs, ato, ath, asi⟩, ⟨asr, anu, ach, aow, aar⟩, ⟨ais, aon, atw, awh, afi⟩, ⟨ase, afr, amo, ass, asp⟩, ⟨afo, aba, ano, aen, avs⟩, ⟨avo, avt, are, atd, ale⟩⟩ := S
  refine lm_met (fun A => va_Qi (fun (r : Int32) (u : ZNS) => r = (md_thunk ((aso, axs, ato, ath, asi), (asr, anu, ach, aow, aar), (ais, aon, atw, awh, afi), (ase, afr, amo, ass, asp), (afo, aba, ano, aen, avs), (avo, avt, are, atd, ale)) x).1 ∧ u = (md_thunk ((aso, axs, ato, ath, asi), (asr, anu, ach, aow, aar), (ais, aon, atw, awh, afi), (ase, afr, amo, ass, asp), (afo, aba, ano, aen, avs), (avo, avt, are, atd, ale)) x).2) (fun u => lm_at (dC, dI) classes [(cA, .int), (cZ, .boolean)] A (mr_W cA cZ ad u)) A) (by decide) rfl (Nat.le_of_ble_eq_true rfl) ?_
  intro p e s m below meth c A hx hb hr hts hown hlocks hname hml hK hP hD hA hE hsz hAe hS ls hl
  replace hl : lv_has ls 2 [(0, .ref (ad 0)), (1, .int x)] := hl
  clear hAe hsz
  refine lv_aload_n hx hb d_Model_thunk_0 rfl (lv_at hl 0 rfl) ?_
  refine va_get (D := (dC, dI)) (ci := 4) (v := .ref (ad 3)) (C := R_Model) (T := F_Model) (N := 30) hx hb hts (fun q hq => List.mem_cons_of_mem _ (i_Model q hq)) hown hK hP 0 rfl rfl 4 (by decide) (hts _ (List.mem_cons_of_mem _ m_13_21)) (fun _ h9 => h9) rfl d_Model_thunk_1 ?_
  refine lv_iload_n hx hb d_Model_thunk_4 rfl (lv_at hl 1 rfl) ?_
  have hin : vp_in x 200 := by first | assumption | exact vp_in_nI (by omega) (by decide)
  refine va_iald (f := asr) (n := 200) hx hb hK hP 3 0 rfl rfl hin d_Model_thunk_5 ?_
  refine lv_if_ne hx hb d_Model_thunk_6 rfl (fun h6 => ?_) (fun h6 => ?_)
  · refine lv_aload_n hx hb d_Model_thunk_22 rfl (lv_at hl 0 rfl) ?_
    refine lv_iconst (v := 3) hx hb d_Model_thunk_23 (by decide) ?_
    refine lv_iload_n hx hb d_Model_thunk_24 rfl (lv_at hl 1 rfl) ?_
    refine lv_aload_n hx hb d_Model_thunk_25 rfl (lv_at hl 0 rfl) ?_
    refine va_get (D := (dC, dI)) (ci := 4) (v := .int aen) (C := R_Model) (T := F_Model) (N := 30) hx hb hts (fun q hq => List.mem_cons_of_mem _ (i_Model q hq)) hown hK hP 0 rfl rfl 26 (by decide) (hts _ (List.mem_cons_of_mem _ m_14_19)) (fun _ h9 => h9) rfl d_Model_thunk_26 ?_
    refine lm_vi (b := ad 0) (As := [.int 3, .int x, .int aen]) (rest := []) (wr := ([] : va_W)) ⟨hx, hb, hml, hown, hts⟩ hK hP hD hS hA [0, 1, 2, 3, 4, 5, 6, 7, 8, 9, 10, 11, 12, 13, 14, 15] [] rfl rfl (by decide) (by decide) (by decide) (c_Model_cell l dC dI cA cZ ad _ ((aso, axs, ato, ath, asi), (asr, anu, ach, aow, aar), (ais, aon, atw, awh, afi), (ase, afr, amo, ass, asp), (afo, aba, ano, aen, avs), (avo, avt, are, atd, ale)) 3 x aen (by exact hj0 h6)) (cwV 3 hts (lm_gV m_16_23 m_17_0 m_20_10 m_0_5 m_17_1) rfl rfl rfl (by decide +kernel) ⟨Nat.le_of_ble_eq_true rfl, Nat.le_of_ble_eq_true rfl⟩) (va_recv (q0 := 0) hK hP rfl rfl) lm_bl_no (fun _ _ _ => trivial) hl.1 rfl rfl (Nat.le_of_ble_eq_true rfl) d_Model_thunk_29 ⟨Nat.le_of_ble_eq_true rfl, Nat.le_of_ble_eq_true rfl⟩ (fun r29 u29 H locs w29 hP hD hS => ?_)
    obtain ⟨e_r29, w29⟩ := w29
    have hP : va_P (dC, dI) classes (mr_W cA cZ ad u29) H := hP
    have hD : va_D A (mr_W cA cZ ad u29) := hD
    refine lm_ri (v := r29) hx hb hr hlocks u29 ?_ hP hK hD hS d_Model_thunk_32
    subst e_r29 w29; unfold md_thunk; (first | rw [if_pos h6] | rw [if_neg h6]); exact ⟨rfl, rfl⟩
  · refine lv_aload_n hx hb d_Model_thunk_9 rfl (lv_at hl 0 rfl) ?_
    refine lv_aload_n hx hb d_Model_thunk_10 rfl (lv_at hl 0 rfl) ?_
    refine va_get (D := (dC, dI)) (ci := 4) (v := .ref (ad 4)) (C := R_Model) (T := F_Model) (N := 30) hx hb hts (fun q hq => List.mem_cons_of_mem _ (i_Model q hq)) hown hK hP 0 rfl rfl 5 (by decide) (hts _ (List.mem_cons_of_mem _ m_13_22)) (fun _ h9 => h9) rfl d_Model_thunk_11 ?_
    refine lv_iload_n hx hb d_Model_thunk_14 rfl (lv_at hl 1 rfl) ?_
    have hin : vp_in x 200 := by first | assumption | exact vp_in_nI (by omega) (by decide)
    refine va_iald (f := anu) (n := 200) hx hb hK hP 4 0 rfl rfl hin d_Model_thunk_15 ?_
    refine lm_vi (b := ad 0) (As := [.int (anu x.toNatClampNeg)]) (rest := []) (wr := ([] : va_W)) ⟨hx, hb, hml, hown, hts⟩ hK hP hD hS hA [0, 1, 2, 3, 4, 5, 6, 7, 8, 9, 10, 11, 12, 13, 14, 15] [] rfl rfl (by decide) (by decide) (by decide) (c_Model_bound l dC dI cA cZ ad _ ((aso, axs, ato, ath, asi), (asr, anu, ach, aow, aar), (ais, aon, atw, awh, afi), (ase, afr, amo, ass, asp), (afo, aba, ano, aen, avs), (avo, avt, are, atd, ale)) (anu x.toNatClampNeg) (by exact hb1 h6)) (cwV 1 hts (lm_gV m_18_2 m_18_3 m_20_18 m_0_5 m_18_4) rfl rfl rfl (by decide +kernel) ⟨Nat.le_of_ble_eq_true rfl, Nat.le_of_ble_eq_true rfl⟩) (va_recv (q0 := 0) hK hP rfl rfl) lm_bl_no (fun _ _ _ => trivial) hl.1 rfl rfl (Nat.le_of_ble_eq_true rfl) d_Model_thunk_16 ⟨Nat.le_of_ble_eq_true rfl, Nat.le_of_ble_eq_true rfl⟩ (fun r16 u16 H locs w16 hP hD hS => ?_)
    obtain ⟨e_r16, w16⟩ := w16
    replace w16 := w16.symm
    subst w16
    have hP : va_P (dC, dI) classes (mr_W cA cZ ad ((aso, axs, ato, ath, asi), (asr, anu, ach, aow, aar), (ais, aon, atw, awh, afi), (ase, afr, amo, ass, asp), (afo, aba, ano, aen, avs), (avo, avt, are, atd, ale))) H := hP
    have hD : va_D A (mr_W cA cZ ad ((aso, axs, ato, ath, asi), (asr, anu, ach, aow, aar), (ais, aon, atw, awh, afi), (ase, afr, amo, ass, asp), (afo, aba, ano, aen, avs), (avo, avt, are, atd, ale))) := hD
    refine lv_goto hx hb d_Model_thunk_19 rfl ?_
    refine lm_ri (v := r16) hx hb hr hlocks ((aso, axs, ato, ath, asi), (asr, anu, ach, aow, aar), (ais, aon, atw, awh, afi), (ase, afr, amo, ass, asp), (afo, aba, ano, aen, avs), (avo, avt, are, atd, ale)) ?_ hP hK hD hS d_Model_thunk_32
    subst e_r16; unfold md_thunk; (first | rw [if_pos h6] | rw [if_neg h6]); exact ⟨rfl, rfl⟩
set_option maxHeartbeats 4000000 in
set_option maxRecDepth 100000 in
theorem c_Model_stops (l : Launch) (dC : Nat → ClassId) (dI : Nat → Nat → Nat) (cA cZ : ClassId)  (ad : Nat → Nat) (sz : Nat) (S : ZNS) (x : Int32)  : Met l y_Model_stops w_Model_stops ({ frames := 0, cells := 0, slots := 0, locals := 0 } : Room) (va_Pc [.ref (ad 0), .int x] (lm_pre (dC, dI) classes [(cA, .int), (cZ, .boolean)] (mr_W cA cZ ad S) sz lm_no)) (va_Qi (fun (r : Int32) (u : ZNS) => r = 1 ∧ u = s_ss S x) (fun u => lm_at (dC, dI) classes [(cA, .int), (cZ, .boolean)] (va_A (mr_W cA cZ ad S) sz) (mr_W cA cZ ad u)) (va_A (mr_W cA cZ ad S) sz)) 0 0 (va_A (mr_W cA cZ ad S) sz) := by
  obtain ⟨⟨aso, axs, ato, ath, asi⟩, ⟨asr, anu, ach, aow, aar⟩, ⟨ais, aon, atw, awh, afi⟩, ⟨ase, afr, amo, ass, asp⟩, ⟨afo, aba, ano, aen, avs⟩, ⟨avo, avt, are, atd, ale⟩⟩ := S
  refine lm_met (fun A => va_Qi (fun (r : Int32) (u : ZNS) => r = 1 ∧ u = s_ss ((aso, axs, ato, ath, asi), (asr, anu, ach, aow, aar), (ais, aon, atw, awh, afi), (ase, afr, amo, ass, asp), (afo, aba, ano, aen, avs), (avo, avt, are, atd, ale)) x) (fun u => lm_at (dC, dI) classes [(cA, .int), (cZ, .boolean)] A (mr_W cA cZ ad u)) A) (by decide) rfl (Nat.le_of_ble_eq_true rfl) ?_
  intro p e s m below meth c A hx hb hr hts hown hlocks hname hml hK hP hD hA hE hsz hAe hS ls hl
  replace hl : lv_has ls 2 [(0, .ref (ad 0)), (1, .int x)] := hl
  clear hAe hsz
  refine lv_aload_n hx hb d_Model_stops_0 rfl (lv_at hl 0 rfl) ?_
  refine lv_iload_n hx hb d_Model_stops_1 rfl (lv_at hl 1 rfl) ?_
  refine va_put (D := (dC, dI)) (ci := 4) (v := .int x) (ty := .int) (C := R_Model) (T := F_Model) (N := 30) hx hb hts (fun q hq => List.mem_cons_of_mem _ (i_Model q hq)) t_Model t_Model_ok n_Model hown hK hP hD hS 0 rfl rfl 21 (by decide) (hts _ (List.mem_cons_of_mem _ m_14_14)) (fun _ h9 => h9) rfl (by decide +kernel) rfl rfl (Nat.le_of_ble_eq_true rfl) d_Model_stops_2 (fun H locs hP hD hS => ?_)
  have hP : va_P (dC, dI) classes (mr_W cA cZ ad ((aso, axs, ato, ath, asi), (asr, anu, ach, aow, aar), (ais, aon, atw, awh, afi), (ase, afr, amo, x, asp), (afo, aba, ano, aen, avs), (avo, avt, are, atd, ale))) H := hP
  have hD : va_D A (mr_W cA cZ ad ((aso, axs, ato, ath, asi), (asr, anu, ach, aow, aar), (ais, aon, atw, awh, afi), (ase, afr, amo, x, asp), (afo, aba, ano, aen, avs), (avo, avt, are, atd, ale))) := hD
  refine lv_iconst (v := 1) hx hb d_Model_stops_5 (by decide) ?_
  refine lm_rz (v := 1) hx hb hr hlocks (by decide) ((aso, axs, ato, ath, asi), (asr, anu, ach, aow, aar), (ais, aon, atw, awh, afi), (ase, afr, amo, x, asp), (afo, aba, ano, aen, avs), (avo, avt, are, atd, ale)) ?_ hP hK hD hS d_Model_stops_6
  exact ⟨rfl, rfl⟩
set_option maxHeartbeats 4000000 in
set_option maxRecDepth 100000 in
theorem c_Model_isHigh (l : Launch) (dC : Nat → ClassId) (dI : Nat → Nat → Nat) (cA cZ : ClassId)  (ad : Nat → Nat) (sz : Nat) (S : ZNS)   : Met l y_Model_isHigh w_Model_isHigh ({ frames := 1, cells := 0, slots := 0, locals := 21 } : Room) (va_Pc [.ref (ad 0)] (lm_pre (dC, dI) classes [(cA, .int), (cZ, .boolean)] (mr_W cA cZ ad S) sz lm_no)) (va_Qi (fun (r : Int32) (u : ZNS) => r = (md_high S).1 ∧ u = (md_high S).2) (fun u => lm_at (dC, dI) classes [(cA, .int), (cZ, .boolean)] (va_A (mr_W cA cZ ad S) sz) (mr_W cA cZ ad u)) (va_A (mr_W cA cZ ad S) sz)) 0 0 (va_A (mr_W cA cZ ad S) sz) := by
  obtain ⟨⟨aso, axs, ato, ath, asi⟩, ⟨asr, anu, ach, aow, aar⟩, ⟨ais, aon, atw, awh, afi⟩, ⟨ase, afr, amo, ass, asp⟩, ⟨afo, aba, ano, aen, avs⟩, ⟨avo, avt, are, atd, ale⟩⟩ := S
  refine lm_met (fun A => va_Qi (fun (r : Int32) (u : ZNS) => r = (md_high ((aso, axs, ato, ath, asi), (asr, anu, ach, aow, aar), (ais, aon, atw, awh, afi), (ase, afr, amo, ass, asp), (afo, aba, ano, aen, avs), (avo, avt, are, atd, ale))).1 ∧ u = (md_high ((aso, axs, ato, ath, asi), (asr, anu, ach, aow, aar), (ais, aon, atw, awh, afi), (ase, afr, amo, ass, asp), (afo, aba, ano, aen, avs), (avo, avt, are, atd, ale))).2) (fun u => lm_at (dC, dI) classes [(cA, .int), (cZ, .boolean)] A (mr_W cA cZ ad u)) A) (by decide) rfl (Nat.le_of_ble_eq_true rfl) ?_
  intro p e s m below meth c A hx hb hr hts hown hlocks hname hml hK hP hD hA hE hsz hAe hS ls hl
  replace hl : lv_has ls 1 [(0, .ref (ad 0))] := hl
  clear hAe hsz
  refine lv_aload_n hx hb d_Model_isHigh_0 rfl (lv_at hl 0 rfl) ?_
  refine va_get (D := (dC, dI)) (ci := 4) (v := .int afr) (C := R_Model) (T := F_Model) (N := 30) hx hb hts (fun q hq => List.mem_cons_of_mem _ (i_Model q hq)) hown hK hP 0 rfl rfl 19 (by decide) (hts _ (List.mem_cons_of_mem _ m_14_12)) (fun _ h9 => h9) rfl d_Model_isHigh_1 ?_
  refine lv_sipush (v := 200) hx hb d_Model_isHigh_4 (by decide) ?_
  refine lv_icmp_ne hx hb d_Model_isHigh_7 rfl (fun h7 => ?_) (fun h7 => ?_)
  · refine lv_iconst (v := 0) hx hb d_Model_isHigh_22 (by decide) ?_
    refine lm_rz (v := 0) hx hb hr hlocks (by decide) ((aso, axs, ato, ath, asi), (asr, anu, ach, aow, aar), (ais, aon, atw, awh, afi), (ase, afr, amo, ass, asp), (afo, aba, ano, aen, avs), (avo, avt, are, atd, ale)) ?_ hP hK hD hS d_Model_isHigh_23
    unfold md_high; (first | rw [if_pos h7] | rw [if_neg h7]); exact ⟨rfl, rfl⟩
  · refine lv_aload_n hx hb d_Model_isHigh_10 rfl (lv_at hl 0 rfl) ?_
    refine lv_iconst (v := 5) hx hb d_Model_isHigh_11 (by decide) ?_
    refine lm_vi (b := ad 0) (As := [.int 5]) (rest := []) (wr := ([] : va_W)) ⟨hx, hb, hml, hown, hts⟩ hK hP hD hS hA [0, 1, 2, 3, 4, 5, 6, 7, 8, 9, 10, 11, 12, 13, 14, 15] [] rfl rfl (by decide) (by decide) (by decide) (c_Model_stops l dC dI cA cZ ad _ ((aso, axs, ato, ath, asi), (asr, anu, ach, aow, aar), (ais, aon, atw, awh, afi), (ase, afr, amo, ass, asp), (afo, aba, ano, aen, avs), (avo, avt, are, atd, ale)) 5 ) (cwV 1 hts (lm_gV m_16_8 m_16_9 m_20_5 m_0_5 m_16_10) rfl rfl rfl (by decide +kernel) ⟨Nat.le_of_ble_eq_true rfl, Nat.le_of_ble_eq_true rfl⟩) (va_recv (q0 := 0) hK hP rfl rfl) lm_bl_no (fun _ _ _ => trivial) hl.1 rfl rfl (Nat.le_of_ble_eq_true rfl) d_Model_isHigh_12 ⟨Nat.le_of_ble_eq_true rfl, Nat.le_of_ble_eq_true rfl⟩ (fun r12 u12 H locs w12 hP hD hS => ?_)
    obtain ⟨e_r12, w12⟩ := w12
    replace e_r12 := e_r12.symm
    subst e_r12
    have w12 : u12 = ((aso, axs, ato, ath, asi), (asr, anu, ach, aow, aar), (ais, aon, atw, awh, afi), (ase, afr, amo, 5, asp), (afo, aba, ano, aen, avs), (avo, avt, are, atd, ale)) := w12
    subst w12
    have hP : va_P (dC, dI) classes (mr_W cA cZ ad ((aso, axs, ato, ath, asi), (asr, anu, ach, aow, aar), (ais, aon, atw, awh, afi), (ase, afr, amo, 5, asp), (afo, aba, ano, aen, avs), (avo, avt, are, atd, ale))) H := hP
    have hD : va_D A (mr_W cA cZ ad ((aso, axs, ato, ath, asi), (asr, anu, ach, aow, aar), (ais, aon, atw, awh, afi), (ase, afr, amo, 5, asp), (afo, aba, ano, aen, avs), (avo, avt, are, atd, ale))) := hD
    refine lv_if_eq hx hb d_Model_isHigh_15 rfl (fun h15 => by exact absurd h15 (by decide)) (fun h15 => ?_)
    refine lv_iconst (v := 1) hx hb d_Model_isHigh_18 (by decide) ?_
    refine lv_goto hx hb d_Model_isHigh_19 rfl ?_
    refine lm_rz (v := 1) hx hb hr hlocks (by decide) ((aso, axs, ato, ath, asi), (asr, anu, ach, aow, aar), (ais, aon, atw, awh, afi), (ase, afr, amo, 5, asp), (afo, aba, ano, aen, avs), (avo, avt, are, atd, ale)) ?_ hP hK hD hS d_Model_isHigh_23
    unfold md_high; (first | rw [if_pos h7] | rw [if_neg h7]); exact ⟨rfl, rfl⟩
set_option maxHeartbeats 4000000 in
set_option maxRecDepth 100000 in
theorem c_Model_isFull (l : Launch) (dC : Nat → ClassId) (dI : Nat → Nat → Nat) (cA cZ : ClassId)  (ad : Nat → Nat) (sz : Nat) (S : ZNS) (x : Int32) (hi : md_lo S) : Met l y_Model_isFull w_Model_isFull ({ frames := 3, cells := 0, slots := 0, locals := 66 } : Room) (va_Pc [.ref (ad 0), .int x] (lm_pre (dC, dI) classes [(cA, .int), (cZ, .boolean)] (mr_W cA cZ ad S) sz lm_no)) (va_Qi (fun (r : Int32) (u : ZNS) => r = (md_full S x).1 ∧ u = (md_full S x).2) (fun u => lm_at (dC, dI) classes [(cA, .int), (cZ, .boolean)] (va_A (mr_W cA cZ ad S) sz) (mr_W cA cZ ad u)) (va_A (mr_W cA cZ ad S) sz)) 0 0 (va_A (mr_W cA cZ ad S) sz) := by
  obtain ⟨⟨aso, axs, ato, ath, asi⟩, ⟨asr, anu, ach, aow, aar⟩, ⟨ais, aon, atw, awh, afi⟩, ⟨ase, afr, amo, ass, asp⟩, ⟨afo, aba, ano, aen, avs⟩, ⟨avo, avt, are, atd, ale⟩⟩ := S
  refine lm_met (fun A => va_Qi (fun (r : Int32) (u : ZNS) => r = (md_full ((aso, axs, ato, ath, asi), (asr, anu, ach, aow, aar), (ais, aon, atw, awh, afi), (ase, afr, amo, ass, asp), (afo, aba, ano, aen, avs), (avo, avt, are, atd, ale)) x).1 ∧ u = (md_full ((aso, axs, ato, ath, asi), (asr, anu, ach, aow, aar), (ais, aon, atw, awh, afi), (ase, afr, amo, ass, asp), (afo, aba, ano, aen, avs), (avo, avt, are, atd, ale)) x).2) (fun u => lm_at (dC, dI) classes [(cA, .int), (cZ, .boolean)] A (mr_W cA cZ ad u)) A) (by decide) rfl (Nat.le_of_ble_eq_true rfl) ?_
  intro p e s m below meth c A hx hb hr hts hown hlocks hname hml hK hP hD hA hE hsz hAe hS ls hl
  replace hl : lv_has ls 2 [(0, .ref (ad 0)), (1, .int x)] := hl
  clear hAe hsz
  refine lv_aload_n hx hb d_Model_isFull_0 rfl (lv_at hl 0 rfl) ?_
  refine lm_vi (b := ad 0) (As := []) (rest := []) (wr := ([] : va_W)) ⟨hx, hb, hml, hown, hts⟩ hK hP hD hS hA [0, 1, 2, 3, 4, 5, 6, 7, 8, 9, 10, 11, 12, 13, 14, 15] [] rfl rfl (by decide) (by decide) (by decide) (c_Model_mark l dC dI cA cZ ad _ ((aso, axs, ato, ath, asi), (asr, anu, ach, aow, aar), (ais, aon, atw, awh, afi), (ase, afr, amo, ass, asp), (afo, aba, ano, aen, avs), (avo, avt, are, atd, ale))  (by exact hi)) (cwV 0 hts (lm_gV m_16_14 m_16_15 m_20_7 m_0_5 m_16_16) rfl rfl rfl (by decide +kernel) ⟨Nat.le_of_ble_eq_true rfl, Nat.le_of_ble_eq_true rfl⟩) (va_recv (q0 := 0) hK hP rfl rfl) lm_bl_no (fun _ _ _ => trivial) hl.1 rfl rfl (Nat.le_of_ble_eq_true rfl) d_Model_isFull_1 ⟨Nat.le_of_ble_eq_true rfl, Nat.le_of_ble_eq_true rfl⟩ (fun r1 u1 H locs w1 hP hD hS => ?_)
  obtain ⟨e_r1, w1⟩ := w1
  have hP : va_P (dC, dI) classes (mr_W cA cZ ad u1) H := hP
  have hD : va_D A (mr_W cA cZ ad u1) := hD
  refine lv_iload_n hx hb d_Model_isFull_4 rfl (lv_at hl 1 rfl) ?_
  refine lv_iadd hx hb d_Model_isFull_5 ?_
  refine lv_sipush (v := 256) hx hb d_Model_isFull_6 (by decide) ?_
  refine lv_icmp_le hx hb d_Model_isFull_9 rfl (fun h9 => ?_) (fun h9 => ?_)
  · refine lv_iconst (v := 0) hx hb d_Model_isFull_25 (by decide) ?_
    refine lm_rz (v := 0) hx hb hr hlocks (by decide) u1 ?_ hP hK hD hS d_Model_isFull_26
    subst e_r1 w1; unfold md_full; (first | rw [if_pos h9] | rw [if_neg h9]); exact ⟨rfl, rfl⟩
  · refine lv_aload_n hx hb d_Model_isFull_12 rfl (lv_at hl 0 rfl) ?_
    refine lv_bipush (v := 6) hx hb d_Model_isFull_13 (by decide) ?_
    refine lm_vi (b := ad 0) (As := [.int 6]) (rest := []) (wr := ([] : va_W)) ⟨hx, hb, hml, hown, hts⟩ hK hP hD hS hA [0, 1, 2, 3, 4, 5, 6, 7, 8, 9, 10, 11, 12, 13, 14, 15] [] rfl rfl (by decide) (by decide) (by decide) (c_Model_stops l dC dI cA cZ ad _ u1 6 ) (cwV 1 hts (lm_gV m_16_8 m_16_9 m_20_5 m_0_5 m_16_10) rfl rfl rfl (by decide +kernel) ⟨Nat.le_of_ble_eq_true rfl, Nat.le_of_ble_eq_true rfl⟩) (va_recv (q0 := 0) hK hP rfl rfl) lm_bl_no (fun _ _ _ => trivial) hl.1 rfl rfl (Nat.le_of_ble_eq_true rfl) d_Model_isFull_15 ⟨Nat.le_of_ble_eq_true rfl, Nat.le_of_ble_eq_true rfl⟩ (fun r15 u15 H locs w15 hP hD hS => ?_)
    obtain ⟨e_r15, w15⟩ := w15
    replace e_r15 := e_r15.symm
    subst e_r15
    have w15 : u15 = ((u1.1.1, u1.1.2.1, u1.1.2.2.1, u1.1.2.2.2.1, u1.1.2.2.2.2), (u1.2.1.1, u1.2.1.2.1, u1.2.1.2.2.1, u1.2.1.2.2.2.1, u1.2.1.2.2.2.2), (u1.2.2.1.1, u1.2.2.1.2.1, u1.2.2.1.2.2.1, u1.2.2.1.2.2.2.1, u1.2.2.1.2.2.2.2), (u1.2.2.2.1.1, u1.2.2.2.1.2.1, u1.2.2.2.1.2.2.1, 6, u1.2.2.2.1.2.2.2.2), (u1.2.2.2.2.1.1, u1.2.2.2.2.1.2.1, u1.2.2.2.2.1.2.2.1, u1.2.2.2.2.1.2.2.2.1, u1.2.2.2.2.1.2.2.2.2), (u1.2.2.2.2.2.1, u1.2.2.2.2.2.2.1, u1.2.2.2.2.2.2.2.1, u1.2.2.2.2.2.2.2.2.1, u1.2.2.2.2.2.2.2.2.2)) := w15
    subst w15
    have hP : va_P (dC, dI) classes (mr_W cA cZ ad ((u1.1.1, u1.1.2.1, u1.1.2.2.1, u1.1.2.2.2.1, u1.1.2.2.2.2), (u1.2.1.1, u1.2.1.2.1, u1.2.1.2.2.1, u1.2.1.2.2.2.1, u1.2.1.2.2.2.2), (u1.2.2.1.1, u1.2.2.1.2.1, u1.2.2.1.2.2.1, u1.2.2.1.2.2.2.1, u1.2.2.1.2.2.2.2), (u1.2.2.2.1.1, u1.2.2.2.1.2.1, u1.2.2.2.1.2.2.1, 6, u1.2.2.2.1.2.2.2.2), (u1.2.2.2.2.1.1, u1.2.2.2.2.1.2.1, u1.2.2.2.2.1.2.2.1, u1.2.2.2.2.1.2.2.2.1, u1.2.2.2.2.1.2.2.2.2), (u1.2.2.2.2.2.1, u1.2.2.2.2.2.2.1, u1.2.2.2.2.2.2.2.1, u1.2.2.2.2.2.2.2.2.1, u1.2.2.2.2.2.2.2.2.2))) H := hP
    have hD : va_D A (mr_W cA cZ ad ((u1.1.1, u1.1.2.1, u1.1.2.2.1, u1.1.2.2.2.1, u1.1.2.2.2.2), (u1.2.1.1, u1.2.1.2.1, u1.2.1.2.2.1, u1.2.1.2.2.2.1, u1.2.1.2.2.2.2), (u1.2.2.1.1, u1.2.2.1.2.1, u1.2.2.1.2.2.1, u1.2.2.1.2.2.2.1, u1.2.2.1.2.2.2.2), (u1.2.2.2.1.1, u1.2.2.2.1.2.1, u1.2.2.2.1.2.2.1, 6, u1.2.2.2.1.2.2.2.2), (u1.2.2.2.2.1.1, u1.2.2.2.2.1.2.1, u1.2.2.2.2.1.2.2.1, u1.2.2.2.2.1.2.2.2.1, u1.2.2.2.2.1.2.2.2.2), (u1.2.2.2.2.2.1, u1.2.2.2.2.2.2.1, u1.2.2.2.2.2.2.2.1, u1.2.2.2.2.2.2.2.2.1, u1.2.2.2.2.2.2.2.2.2))) := hD
    refine lv_if_eq hx hb d_Model_isFull_18 rfl (fun h18 => by exact absurd h18 (by decide)) (fun h18 => ?_)
    refine lv_iconst (v := 1) hx hb d_Model_isFull_21 (by decide) ?_
    refine lv_goto hx hb d_Model_isFull_22 rfl ?_
    refine lm_rz (v := 1) hx hb hr hlocks (by decide) ((u1.1.1, u1.1.2.1, u1.1.2.2.1, u1.1.2.2.2.1, u1.1.2.2.2.2), (u1.2.1.1, u1.2.1.2.1, u1.2.1.2.2.1, u1.2.1.2.2.2.1, u1.2.1.2.2.2.2), (u1.2.2.1.1, u1.2.2.1.2.1, u1.2.2.1.2.2.1, u1.2.2.1.2.2.2.1, u1.2.2.1.2.2.2.2), (u1.2.2.2.1.1, u1.2.2.2.1.2.1, u1.2.2.2.1.2.2.1, 6, u1.2.2.2.1.2.2.2.2), (u1.2.2.2.2.1.1, u1.2.2.2.2.1.2.1, u1.2.2.2.2.1.2.2.1, u1.2.2.2.2.1.2.2.2.1, u1.2.2.2.2.1.2.2.2.2), (u1.2.2.2.2.2.1, u1.2.2.2.2.2.2.1, u1.2.2.2.2.2.2.2.1, u1.2.2.2.2.2.2.2.2.1, u1.2.2.2.2.2.2.2.2.2)) ?_ hP hK hD hS d_Model_isFull_26
    subst e_r1 w1; unfold md_full; (first | rw [if_pos h9] | rw [if_neg h9]); exact ⟨rfl, rfl⟩
set_option maxHeartbeats 4000000 in
set_option maxRecDepth 100000 in
theorem c_Model_push (l : Launch) (dC : Nat → ClassId) (dI : Nat → Nat → Nat) (cA cZ : ClassId)  (ad : Nat → Nat) (sz : Nat) (S : ZNS) (y1 y2 y3 : Int32) (hz : ∃ z : Nat, z < 200 ∧ r_fr S = nI z) : Met l y_Model_push w_Model_push ({ frames := 0, cells := 0, slots := 0, locals := 0 } : Room) (va_Pc [.ref (ad 0), .int y1, .int y2, .int y3] (lm_pre (dC, dI) classes [(cA, .int), (cZ, .boolean)] (mr_W cA cZ ad S) sz lm_no)) (va_Qv (fun (u : ZNS) => u = md_push S y1 y2 y3) (fun u => lm_at (dC, dI) classes [(cA, .int), (cZ, .boolean)] (va_A (mr_W cA cZ ad S) sz) (mr_W cA cZ ad u)) (va_A (mr_W cA cZ ad S) sz)) 0 0 (va_A (mr_W cA cZ ad S) sz) := by
  obtain ⟨⟨aso, axs, ato, ath, asi⟩, ⟨asr, anu, ach, aow, aar⟩, ⟨ais, aon, atw, awh, afi⟩, ⟨ase, afr, amo, ass, asp⟩, ⟨afo, aba, ano, aen, avs⟩, ⟨avo, avt, are, atd, ale⟩⟩ := S
  obtain ⟨z, hz, hzz⟩ := hz
  have hzz : afr = nI z := hzz
  subst hzz
  refine lm_met (fun A => va_Qv (fun (u : ZNS) => u = md_push ((aso, axs, ato, ath, asi), (asr, anu, ach, aow, aar), (ais, aon, atw, awh, afi), (ase, (nI z), amo, ass, asp), (afo, aba, ano, aen, avs), (avo, avt, are, atd, ale)) y1 y2 y3) (fun u => lm_at (dC, dI) classes [(cA, .int), (cZ, .boolean)] A (mr_W cA cZ ad u)) A) (by decide) rfl (Nat.le_of_ble_eq_true rfl) ?_
  intro p e s m below meth c A hx hb hr hts hown hlocks hname hml hK hP hD hA hE hsz hAe hS ls hl
  replace hl : lv_has ls 4 [(0, .ref (ad 0)), (1, .int y1), (2, .int y2), (3, .int y3)] := hl
  clear hAe hsz
  refine lv_aload_n hx hb d_Model_push_0 rfl (lv_at hl 0 rfl) ?_
  refine va_get (D := (dC, dI)) (ci := 4) (v := .ref (ad 13)) (C := R_Model) (T := F_Model) (N := 30) hx hb hts (fun q hq => List.mem_cons_of_mem _ (i_Model q hq)) hown hK hP 0 rfl rfl 16 (by decide) (hts _ (List.mem_cons_of_mem _ m_14_9)) (fun _ h9 => h9) rfl d_Model_push_1 ?_
  refine lv_aload_n hx hb d_Model_push_4 rfl (lv_at hl 0 rfl) ?_
  refine va_get (D := (dC, dI)) (ci := 4) (v := .int (nI z)) (C := R_Model) (T := F_Model) (N := 30) hx hb hts (fun q hq => List.mem_cons_of_mem _ (i_Model q hq)) hown hK hP 0 rfl rfl 19 (by decide) (hts _ (List.mem_cons_of_mem _ m_14_12)) (fun _ h9 => h9) rfl d_Model_push_5 ?_
  refine lv_iload_n hx hb d_Model_push_8 rfl (lv_at hl 1 rfl) ?_
  have hin : vp_in (nI z) 200 := by first | assumption | exact vp_in_nI (by omega) (by decide)
  refine va_iast (f := awh) (n := 200) hx hb hK hP hD hS 13 0 rfl rfl hin d_Model_push_9 (fun H locs hP hD hS => ?_)
  rw [nI_clamp (show z < 2 ^ 31 by omega)] at hP hD
  have hP : va_P (dC, dI) classes (mr_W cA cZ ad ((aso, axs, ato, ath, asi), (asr, anu, ach, aow, aar), (ais, aon, atw, (upd awh z y1), afi), (ase, (nI z), amo, ass, asp), (afo, aba, ano, aen, avs), (avo, avt, are, atd, ale))) H := hP
  have hD : va_D A (mr_W cA cZ ad ((aso, axs, ato, ath, asi), (asr, anu, ach, aow, aar), (ais, aon, atw, (upd awh z y1), afi), (ase, (nI z), amo, ass, asp), (afo, aba, ano, aen, avs), (avo, avt, are, atd, ale))) := hD
  refine lv_aload_n hx hb d_Model_push_10 rfl (lv_at hl 0 rfl) ?_
  refine va_get (D := (dC, dI)) (ci := 4) (v := .ref (ad 14)) (C := R_Model) (T := F_Model) (N := 30) hx hb hts (fun q hq => List.mem_cons_of_mem _ (i_Model q hq)) hown hK hP 0 rfl rfl 17 (by decide) (hts _ (List.mem_cons_of_mem _ m_14_10)) (fun _ h9 => h9) rfl d_Model_push_11 ?_
  refine lv_aload_n hx hb d_Model_push_14 rfl (lv_at hl 0 rfl) ?_
  refine va_get (D := (dC, dI)) (ci := 4) (v := .int (nI z)) (C := R_Model) (T := F_Model) (N := 30) hx hb hts (fun q hq => List.mem_cons_of_mem _ (i_Model q hq)) hown hK hP 0 rfl rfl 19 (by decide) (hts _ (List.mem_cons_of_mem _ m_14_12)) (fun _ h9 => h9) rfl d_Model_push_15 ?_
  refine lv_iload_n hx hb d_Model_push_18 rfl (lv_at hl 2 rfl) ?_
  have hin : vp_in (nI z) 200 := by first | assumption | exact vp_in_nI (by omega) (by decide)
  refine va_iast (f := afi) (n := 200) hx hb hK hP hD hS 14 0 rfl rfl hin d_Model_push_19 (fun H locs hP hD hS => ?_)
  rw [nI_clamp (show z < 2 ^ 31 by omega)] at hP hD
  have hP : va_P (dC, dI) classes (mr_W cA cZ ad ((aso, axs, ato, ath, asi), (asr, anu, ach, aow, aar), (ais, aon, atw, (upd awh z y1), (upd afi z y2)), (ase, (nI z), amo, ass, asp), (afo, aba, ano, aen, avs), (avo, avt, are, atd, ale))) H := hP
  have hD : va_D A (mr_W cA cZ ad ((aso, axs, ato, ath, asi), (asr, anu, ach, aow, aar), (ais, aon, atw, (upd awh z y1), (upd afi z y2)), (ase, (nI z), amo, ass, asp), (afo, aba, ano, aen, avs), (avo, avt, are, atd, ale))) := hD
  refine lv_aload_n hx hb d_Model_push_20 rfl (lv_at hl 0 rfl) ?_
  refine va_get (D := (dC, dI)) (ci := 4) (v := .ref (ad 15)) (C := R_Model) (T := F_Model) (N := 30) hx hb hts (fun q hq => List.mem_cons_of_mem _ (i_Model q hq)) hown hK hP 0 rfl rfl 18 (by decide) (hts _ (List.mem_cons_of_mem _ m_14_11)) (fun _ h9 => h9) rfl d_Model_push_21 ?_
  refine lv_aload_n hx hb d_Model_push_24 rfl (lv_at hl 0 rfl) ?_
  refine va_get (D := (dC, dI)) (ci := 4) (v := .int (nI z)) (C := R_Model) (T := F_Model) (N := 30) hx hb hts (fun q hq => List.mem_cons_of_mem _ (i_Model q hq)) hown hK hP 0 rfl rfl 19 (by decide) (hts _ (List.mem_cons_of_mem _ m_14_12)) (fun _ h9 => h9) rfl d_Model_push_25 ?_
  refine lv_iload_n hx hb d_Model_push_28 rfl (lv_at hl 3 rfl) ?_
  have hin : vp_in (nI z) 200 := by first | assumption | exact vp_in_nI (by omega) (by decide)
  refine va_iast (f := ase) (n := 200) hx hb hK hP hD hS 15 0 rfl rfl hin d_Model_push_29 (fun H locs hP hD hS => ?_)
  rw [nI_clamp (show z < 2 ^ 31 by omega)] at hP hD
  have hP : va_P (dC, dI) classes (mr_W cA cZ ad ((aso, axs, ato, ath, asi), (asr, anu, ach, aow, aar), (ais, aon, atw, (upd awh z y1), (upd afi z y2)), ((upd ase z y3), (nI z), amo, ass, asp), (afo, aba, ano, aen, avs), (avo, avt, are, atd, ale))) H := hP
  have hD : va_D A (mr_W cA cZ ad ((aso, axs, ato, ath, asi), (asr, anu, ach, aow, aar), (ais, aon, atw, (upd awh z y1), (upd afi z y2)), ((upd ase z y3), (nI z), amo, ass, asp), (afo, aba, ano, aen, avs), (avo, avt, are, atd, ale))) := hD
  refine lv_aload_n hx hb d_Model_push_30 rfl (lv_at hl 0 rfl) ?_
  refine lv_dup hx hb d_Model_push_31 rfl ?_
  refine va_get (D := (dC, dI)) (ci := 4) (v := .int (nI z)) (C := R_Model) (T := F_Model) (N := 30) hx hb hts (fun q hq => List.mem_cons_of_mem _ (i_Model q hq)) hown hK hP 0 rfl rfl 19 (by decide) (hts _ (List.mem_cons_of_mem _ m_14_12)) (fun _ h9 => h9) rfl d_Model_push_32 ?_
  refine lv_iconst (v := 1) hx hb d_Model_push_35 (by decide) ?_
  refine lv_iadd hx hb d_Model_push_36 ?_
  refine va_put (D := (dC, dI)) (ci := 4) (v := .int ((nI z) + 1)) (ty := .int) (C := R_Model) (T := F_Model) (N := 30) hx hb hts (fun q hq => List.mem_cons_of_mem _ (i_Model q hq)) t_Model t_Model_ok n_Model hown hK hP hD hS 0 rfl rfl 19 (by decide) (hts _ (List.mem_cons_of_mem _ m_14_12)) (fun _ h9 => h9) rfl (by decide +kernel) rfl rfl (Nat.le_of_ble_eq_true rfl) d_Model_push_37 (fun H locs hP hD hS => ?_)
  have hP : va_P (dC, dI) classes (mr_W cA cZ ad ((aso, axs, ato, ath, asi), (asr, anu, ach, aow, aar), (ais, aon, atw, (upd awh z y1), (upd afi z y2)), ((upd ase z y3), ((nI z) + 1), amo, ass, asp), (afo, aba, ano, aen, avs), (avo, avt, are, atd, ale))) H := hP
  have hD : va_D A (mr_W cA cZ ad ((aso, axs, ato, ath, asi), (asr, anu, ach, aow, aar), (ais, aon, atw, (upd awh z y1), (upd afi z y2)), ((upd ase z y3), ((nI z) + 1), amo, ass, asp), (afo, aba, ano, aen, avs), (avo, avt, are, atd, ale))) := hD
  refine lv_aload_n hx hb d_Model_push_40 rfl (lv_at hl 0 rfl) ?_
  refine lv_aload_n hx hb d_Model_push_41 rfl (lv_at hl 0 rfl) ?_
  refine va_get (D := (dC, dI)) (ci := 4) (v := .int ((nI z) + 1)) (C := R_Model) (T := F_Model) (N := 30) hx hb hts (fun q hq => List.mem_cons_of_mem _ (i_Model q hq)) hown hK hP 0 rfl rfl 19 (by decide) (hts _ (List.mem_cons_of_mem _ m_14_12)) (fun _ h9 => h9) rfl d_Model_push_42 ?_
  refine lv_aload_n hx hb d_Model_push_45 rfl (lv_at hl 0 rfl) ?_
  refine va_get (D := (dC, dI)) (ci := 4) (v := .int amo) (C := R_Model) (T := F_Model) (N := 30) hx hb hts (fun q hq => List.mem_cons_of_mem _ (i_Model q hq)) hown hK hP 0 rfl rfl 20 (by decide) (hts _ (List.mem_cons_of_mem _ m_14_13)) (fun _ h9 => h9) rfl d_Model_push_46 ?_
  refine lv_icmp_le hx hb d_Model_push_49 rfl (fun h49 => ?_) (fun h49 => ?_)
  · refine lv_aload_n hx hb d_Model_push_59 rfl (lv_at hl 0 rfl) ?_
    refine va_get (D := (dC, dI)) (ci := 4) (v := .int amo) (C := R_Model) (T := F_Model) (N := 30) hx hb hts (fun q hq => List.mem_cons_of_mem _ (i_Model q hq)) hown hK hP 0 rfl rfl 20 (by decide) (hts _ (List.mem_cons_of_mem _ m_14_13)) (fun _ h9 => h9) rfl d_Model_push_60 ?_
    refine va_put (D := (dC, dI)) (ci := 4) (v := .int amo) (ty := .int) (C := R_Model) (T := F_Model) (N := 30) hx hb hts (fun q hq => List.mem_cons_of_mem _ (i_Model q hq)) t_Model t_Model_ok n_Model hown hK hP hD hS 0 rfl rfl 20 (by decide) (hts _ (List.mem_cons_of_mem _ m_14_13)) (fun _ h9 => h9) rfl (by decide +kernel) rfl rfl (Nat.le_of_ble_eq_true rfl) d_Model_push_63 (fun H locs hP hD hS => ?_)
    have hP : va_P (dC, dI) classes (mr_W cA cZ ad ((aso, axs, ato, ath, asi), (asr, anu, ach, aow, aar), (ais, aon, atw, (upd awh z y1), (upd afi z y2)), ((upd ase z y3), ((nI z) + 1), amo, ass, asp), (afo, aba, ano, aen, avs), (avo, avt, are, atd, ale))) H := hP
    have hD : va_D A (mr_W cA cZ ad ((aso, axs, ato, ath, asi), (asr, anu, ach, aow, aar), (ais, aon, atw, (upd awh z y1), (upd afi z y2)), ((upd ase z y3), ((nI z) + 1), amo, ass, asp), (afo, aba, ano, aen, avs), (avo, avt, are, atd, ale))) := hD
    refine lm_rv hx hb hr hlocks ((aso, axs, ato, ath, asi), (asr, anu, ach, aow, aar), (ais, aon, atw, (upd awh z y1), (upd afi z y2)), ((upd ase z y3), ((nI z) + 1), amo, ass, asp), (afo, aba, ano, aen, avs), (avo, avt, are, atd, ale)) ?_ hP hK hD hS d_Model_push_66
    unfold md_push; simp only [r_fr, r_wh, r_fi, r_se, r_mo, nI_clamp (show z < 2 ^ 31 by omega)]; (first | rw [if_pos h49] | rw [if_neg h49]); rfl
  · refine lv_aload_n hx hb d_Model_push_52 rfl (lv_at hl 0 rfl) ?_
    refine va_get (D := (dC, dI)) (ci := 4) (v := .int ((nI z) + 1)) (C := R_Model) (T := F_Model) (N := 30) hx hb hts (fun q hq => List.mem_cons_of_mem _ (i_Model q hq)) hown hK hP 0 rfl rfl 19 (by decide) (hts _ (List.mem_cons_of_mem _ m_14_12)) (fun _ h9 => h9) rfl d_Model_push_53 ?_
    refine lv_goto hx hb d_Model_push_56 rfl ?_
    refine va_put (D := (dC, dI)) (ci := 4) (v := .int ((nI z) + 1)) (ty := .int) (C := R_Model) (T := F_Model) (N := 30) hx hb hts (fun q hq => List.mem_cons_of_mem _ (i_Model q hq)) t_Model t_Model_ok n_Model hown hK hP hD hS 0 rfl rfl 20 (by decide) (hts _ (List.mem_cons_of_mem _ m_14_13)) (fun _ h9 => h9) rfl (by decide +kernel) rfl rfl (Nat.le_of_ble_eq_true rfl) d_Model_push_63 (fun H locs hP hD hS => ?_)
    have hP : va_P (dC, dI) classes (mr_W cA cZ ad ((aso, axs, ato, ath, asi), (asr, anu, ach, aow, aar), (ais, aon, atw, (upd awh z y1), (upd afi z y2)), ((upd ase z y3), ((nI z) + 1), ((nI z) + 1), ass, asp), (afo, aba, ano, aen, avs), (avo, avt, are, atd, ale))) H := hP
    have hD : va_D A (mr_W cA cZ ad ((aso, axs, ato, ath, asi), (asr, anu, ach, aow, aar), (ais, aon, atw, (upd awh z y1), (upd afi z y2)), ((upd ase z y3), ((nI z) + 1), ((nI z) + 1), ass, asp), (afo, aba, ano, aen, avs), (avo, avt, are, atd, ale))) := hD
    refine lm_rv hx hb hr hlocks ((aso, axs, ato, ath, asi), (asr, anu, ach, aow, aar), (ais, aon, atw, (upd awh z y1), (upd afi z y2)), ((upd ase z y3), ((nI z) + 1), ((nI z) + 1), ass, asp), (afo, aba, ano, aen, avs), (avo, avt, are, atd, ale)) ?_ hP hK hD hS d_Model_push_66
    unfold md_push; simp only [r_fr, r_wh, r_fi, r_se, r_mo, nI_clamp (show z < 2 ^ 31 by omega)]; (first | rw [if_pos h49] | rw [if_neg h49]); rfl
set_option maxHeartbeats 4000000 in
set_option maxRecDepth 100000 in
theorem c_Model_give (l : Launch) (dC : Nat → ClassId) (dI : Nat → Nat → Nat) (cA cZ : ClassId)  (ad : Nat → Nat) (sz : Nat) (S : ZNS) (y1 y2 y3 : Int32)  : Met l y_Model_give w_Model_give ({ frames := 0, cells := 0, slots := 0, locals := 0 } : Room) (va_Pc [.ref (ad 0), .int y1, .int y2, .int y3] (lm_pre (dC, dI) classes [(cA, .int), (cZ, .boolean)] (mr_W cA cZ ad S) sz lm_no)) (va_Qv (fun (u : ZNS) => u = md_give S y1 y2 y3) (fun u => lm_at (dC, dI) classes [(cA, .int), (cZ, .boolean)] (va_A (mr_W cA cZ ad S) sz) (mr_W cA cZ ad u)) (va_A (mr_W cA cZ ad S) sz)) 0 0 (va_A (mr_W cA cZ ad S) sz) := by
  obtain ⟨⟨aso, axs, ato, ath, asi⟩, ⟨asr, anu, ach, aow, aar⟩, ⟨ais, aon, atw, awh, afi⟩, ⟨ase, afr, amo, ass, asp⟩, ⟨afo, aba, ano, aen, avs⟩, ⟨avo, avt, are, atd, ale⟩⟩ := S
  refine lm_met (fun A => va_Qv (fun (u : ZNS) => u = md_give ((aso, axs, ato, ath, asi), (asr, anu, ach, aow, aar), (ais, aon, atw, awh, afi), (ase, afr, amo, ass, asp), (afo, aba, ano, aen, avs), (avo, avt, are, atd, ale)) y1 y2 y3) (fun u => lm_at (dC, dI) classes [(cA, .int), (cZ, .boolean)] A (mr_W cA cZ ad u)) A) (by decide) rfl (Nat.le_of_ble_eq_true rfl) ?_
  intro p e s m below meth c A hx hb hr hts hown hlocks hname hml hK hP hD hA hE hsz hAe hS ls hl
  replace hl : lv_has ls 4 [(0, .ref (ad 0)), (1, .int y1), (2, .int y2), (3, .int y3)] := hl
  clear hAe hsz
  refine lv_aload_n hx hb d_Model_give_0 rfl (lv_at hl 0 rfl) ?_
  refine lv_iconst (v := 1) hx hb d_Model_give_1 (by decide) ?_
  refine va_put (D := (dC, dI)) (ci := 4) (v := .int 1) (ty := .boolean) (C := R_Model) (T := F_Model) (N := 30) hx hb hts (fun q hq => List.mem_cons_of_mem _ (i_Model q hq)) t_Model t_Model_ok n_Model hown hK hP hD hS 0 rfl rfl 24 (by decide) (hts _ (List.mem_cons_of_mem _ m_14_17)) (fun _ h9 => h9) rfl (by decide +kernel) (by decide +kernel) (by decide +kernel) (Nat.le_of_ble_eq_true rfl) d_Model_give_2 (fun H locs hP hD hS => ?_)
  have hP : va_P (dC, dI) classes (mr_W cA cZ ad ((aso, axs, ato, ath, asi), (asr, anu, ach, aow, aar), (ais, aon, atw, awh, afi), (ase, afr, amo, ass, asp), (afo, 1, ano, aen, avs), (avo, avt, are, atd, ale))) H := hP
  have hD : va_D A (mr_W cA cZ ad ((aso, axs, ato, ath, asi), (asr, anu, ach, aow, aar), (ais, aon, atw, awh, afi), (ase, afr, amo, ass, asp), (afo, 1, ano, aen, avs), (avo, avt, are, atd, ale))) := hD
  refine lv_aload_n hx hb d_Model_give_5 rfl (lv_at hl 0 rfl) ?_
  refine lv_iload_n hx hb d_Model_give_6 rfl (lv_at hl 1 rfl) ?_
  refine va_put (D := (dC, dI)) (ci := 4) (v := .int y1) (ty := .int) (C := R_Model) (T := F_Model) (N := 30) hx hb hts (fun q hq => List.mem_cons_of_mem _ (i_Model q hq)) t_Model t_Model_ok n_Model hown hK hP hD hS 0 rfl rfl 27 (by decide) (hts _ (List.mem_cons_of_mem _ m_14_20)) (fun _ h9 => h9) rfl (by decide +kernel) rfl rfl (Nat.le_of_ble_eq_true rfl) d_Model_give_7 (fun H locs hP hD hS => ?_)
  have hP : va_P (dC, dI) classes (mr_W cA cZ ad ((aso, axs, ato, ath, asi), (asr, anu, ach, aow, aar), (ais, aon, atw, awh, afi), (ase, afr, amo, ass, asp), (afo, 1, ano, aen, y1), (avo, avt, are, atd, ale))) H := hP
  have hD : va_D A (mr_W cA cZ ad ((aso, axs, ato, ath, asi), (asr, anu, ach, aow, aar), (ais, aon, atw, awh, afi), (ase, afr, amo, ass, asp), (afo, 1, ano, aen, y1), (avo, avt, are, atd, ale))) := hD
  refine lv_aload_n hx hb d_Model_give_10 rfl (lv_at hl 0 rfl) ?_
  refine lv_iload_n hx hb d_Model_give_11 rfl (lv_at hl 2 rfl) ?_
  refine va_put (D := (dC, dI)) (ci := 4) (v := .int y2) (ty := .int) (C := R_Model) (T := F_Model) (N := 30) hx hb hts (fun q hq => List.mem_cons_of_mem _ (i_Model q hq)) t_Model t_Model_ok n_Model hown hK hP hD hS 0 rfl rfl 28 (by decide) (hts _ (List.mem_cons_of_mem _ m_14_21)) (fun _ h9 => h9) rfl (by decide +kernel) rfl rfl (Nat.le_of_ble_eq_true rfl) d_Model_give_12 (fun H locs hP hD hS => ?_)
  have hP : va_P (dC, dI) classes (mr_W cA cZ ad ((aso, axs, ato, ath, asi), (asr, anu, ach, aow, aar), (ais, aon, atw, awh, afi), (ase, afr, amo, ass, asp), (afo, 1, ano, aen, y1), (y2, avt, are, atd, ale))) H := hP
  have hD : va_D A (mr_W cA cZ ad ((aso, axs, ato, ath, asi), (asr, anu, ach, aow, aar), (ais, aon, atw, awh, afi), (ase, afr, amo, ass, asp), (afo, 1, ano, aen, y1), (y2, avt, are, atd, ale))) := hD
  refine lv_aload_n hx hb d_Model_give_15 rfl (lv_at hl 0 rfl) ?_
  refine lv_iload_n hx hb d_Model_give_16 rfl (lv_at hl 3 rfl) ?_
  refine va_put (D := (dC, dI)) (ci := 4) (v := .int y3) (ty := .int) (C := R_Model) (T := F_Model) (N := 30) hx hb hts (fun q hq => List.mem_cons_of_mem _ (i_Model q hq)) t_Model t_Model_ok n_Model hown hK hP hD hS 0 rfl rfl 29 (by decide) (hts _ (List.mem_cons_of_mem _ m_14_22)) (fun _ h9 => h9) rfl (by decide +kernel) rfl rfl (Nat.le_of_ble_eq_true rfl) d_Model_give_17 (fun H locs hP hD hS => ?_)
  have hP : va_P (dC, dI) classes (mr_W cA cZ ad ((aso, axs, ato, ath, asi), (asr, anu, ach, aow, aar), (ais, aon, atw, awh, afi), (ase, afr, amo, ass, asp), (afo, 1, ano, aen, y1), (y2, y3, are, atd, ale))) H := hP
  have hD : va_D A (mr_W cA cZ ad ((aso, axs, ato, ath, asi), (asr, anu, ach, aow, aar), (ais, aon, atw, awh, afi), (ase, afr, amo, ass, asp), (afo, 1, ano, aen, y1), (y2, y3, are, atd, ale))) := hD
  refine lm_rv hx hb hr hlocks ((aso, axs, ato, ath, asi), (asr, anu, ach, aow, aar), (ais, aon, atw, awh, afi), (ase, afr, amo, ass, asp), (afo, 1, ano, aen, y1), (y2, y3, are, atd, ale)) ?_ hP hK hD hS d_Model_give_20
  rfl
set_option maxHeartbeats 4000000 in
set_option maxRecDepth 100000 in
theorem c_Model_go (l : Launch) (dC : Nat → ClassId) (dI : Nat → Nat → Nat) (cA cZ : ClassId)  (ad : Nat → Nat) (sz : Nat) (S : ZNS) (y1 y2 : Int32)  : Met l y_Model_go w_Model_go ({ frames := 0, cells := 0, slots := 0, locals := 0 } : Room) (va_Pc [.ref (ad 0), .int y1, .int y2] (lm_pre (dC, dI) classes [(cA, .int), (cZ, .boolean)] (mr_W cA cZ ad S) sz lm_no)) (va_Qv (fun (u : ZNS) => u = md_go S y1 y2) (fun u => lm_at (dC, dI) classes [(cA, .int), (cZ, .boolean)] (va_A (mr_W cA cZ ad S) sz) (mr_W cA cZ ad u)) (va_A (mr_W cA cZ ad S) sz)) 0 0 (va_A (mr_W cA cZ ad S) sz) := by
  obtain ⟨⟨aso, axs, ato, ath, asi⟩, ⟨asr, anu, ach, aow, aar⟩, ⟨ais, aon, atw, awh, afi⟩, ⟨ase, afr, amo, ass, asp⟩, ⟨afo, aba, ano, aen, avs⟩, ⟨avo, avt, are, atd, ale⟩⟩ := S
  refine lm_met (fun A => va_Qv (fun (u : ZNS) => u = md_go ((aso, axs, ato, ath, asi), (asr, anu, ach, aow, aar), (ais, aon, atw, awh, afi), (ase, afr, amo, ass, asp), (afo, aba, ano, aen, avs), (avo, avt, are, atd, ale)) y1 y2) (fun u => lm_at (dC, dI) classes [(cA, .int), (cZ, .boolean)] A (mr_W cA cZ ad u)) A) (by decide) rfl (Nat.le_of_ble_eq_true rfl) ?_
  intro p e s m below meth c A hx hb hr hts hown hlocks hname hml hK hP hD hA hE hsz hAe hS ls hl
  replace hl : lv_has ls 3 [(0, .ref (ad 0)), (1, .int y1), (2, .int y2)] := hl
  clear hAe hsz
  refine lv_aload_n hx hb d_Model_go_0 rfl (lv_at hl 0 rfl) ?_
  refine lv_iconst (v := 0) hx hb d_Model_go_1 (by decide) ?_
  refine va_put (D := (dC, dI)) (ci := 4) (v := .int 0) (ty := .boolean) (C := R_Model) (T := F_Model) (N := 30) hx hb hts (fun q hq => List.mem_cons_of_mem _ (i_Model q hq)) t_Model t_Model_ok n_Model hown hK hP hD hS 0 rfl rfl 24 (by decide) (hts _ (List.mem_cons_of_mem _ m_14_17)) (fun _ h9 => h9) rfl (by decide +kernel) (by decide +kernel) (by decide +kernel) (Nat.le_of_ble_eq_true rfl) d_Model_go_2 (fun H locs hP hD hS => ?_)
  have hP : va_P (dC, dI) classes (mr_W cA cZ ad ((aso, axs, ato, ath, asi), (asr, anu, ach, aow, aar), (ais, aon, atw, awh, afi), (ase, afr, amo, ass, asp), (afo, 0, ano, aen, avs), (avo, avt, are, atd, ale))) H := hP
  have hD : va_D A (mr_W cA cZ ad ((aso, axs, ato, ath, asi), (asr, anu, ach, aow, aar), (ais, aon, atw, awh, afi), (ase, afr, amo, ass, asp), (afo, 0, ano, aen, avs), (avo, avt, are, atd, ale))) := hD
  refine lv_aload_n hx hb d_Model_go_5 rfl (lv_at hl 0 rfl) ?_
  refine lv_iload_n hx hb d_Model_go_6 rfl (lv_at hl 1 rfl) ?_
  refine va_put (D := (dC, dI)) (ci := 4) (v := .int y1) (ty := .int) (C := R_Model) (T := F_Model) (N := 30) hx hb hts (fun q hq => List.mem_cons_of_mem _ (i_Model q hq)) t_Model t_Model_ok n_Model hown hK hP hD hS 0 rfl rfl 25 (by decide) (hts _ (List.mem_cons_of_mem _ m_14_18)) (fun _ h9 => h9) rfl (by decide +kernel) rfl rfl (Nat.le_of_ble_eq_true rfl) d_Model_go_7 (fun H locs hP hD hS => ?_)
  have hP : va_P (dC, dI) classes (mr_W cA cZ ad ((aso, axs, ato, ath, asi), (asr, anu, ach, aow, aar), (ais, aon, atw, awh, afi), (ase, afr, amo, ass, asp), (afo, 0, y1, aen, avs), (avo, avt, are, atd, ale))) H := hP
  have hD : va_D A (mr_W cA cZ ad ((aso, axs, ato, ath, asi), (asr, anu, ach, aow, aar), (ais, aon, atw, awh, afi), (ase, afr, amo, ass, asp), (afo, 0, y1, aen, avs), (avo, avt, are, atd, ale))) := hD
  refine lv_aload_n hx hb d_Model_go_10 rfl (lv_at hl 0 rfl) ?_
  refine lv_iload_n hx hb d_Model_go_11 rfl (lv_at hl 2 rfl) ?_
  refine va_put (D := (dC, dI)) (ci := 4) (v := .int y2) (ty := .int) (C := R_Model) (T := F_Model) (N := 30) hx hb hts (fun q hq => List.mem_cons_of_mem _ (i_Model q hq)) t_Model t_Model_ok n_Model hown hK hP hD hS 0 rfl rfl 26 (by decide) (hts _ (List.mem_cons_of_mem _ m_14_19)) (fun _ h9 => h9) rfl (by decide +kernel) rfl rfl (Nat.le_of_ble_eq_true rfl) d_Model_go_12 (fun H locs hP hD hS => ?_)
  have hP : va_P (dC, dI) classes (mr_W cA cZ ad ((aso, axs, ato, ath, asi), (asr, anu, ach, aow, aar), (ais, aon, atw, awh, afi), (ase, afr, amo, ass, asp), (afo, 0, y1, y2, avs), (avo, avt, are, atd, ale))) H := hP
  have hD : va_D A (mr_W cA cZ ad ((aso, axs, ato, ath, asi), (asr, anu, ach, aow, aar), (ais, aon, atw, awh, afi), (ase, afr, amo, ass, asp), (afo, 0, y1, y2, avs), (avo, avt, are, atd, ale))) := hD
  refine lm_rv hx hb hr hlocks ((aso, axs, ato, ath, asi), (asr, anu, ach, aow, aar), (ais, aon, atw, awh, afi), (ase, afr, amo, ass, asp), (afo, 0, y1, y2, avs), (avo, avt, are, atd, ale)) ?_ hP hK hD hS d_Model_go_15
  rfl
set_option maxHeartbeats 4000000 in
set_option maxRecDepth 100000 in
theorem c_Model_asks (l : Launch) (dC : Nat → ClassId) (dI : Nat → Nat → Nat) (cA cZ : ClassId)  (ad : Nat → Nat) (sz : Nat) (S : ZNS) (x y : Int32) (hx1 : vp_in x 256) (hz : ∃ z : Nat, z ≤ 200 ∧ r_fr S = nI z ∧ (¬ y = 0 → z < 200)) : Met l y_Model_asks w_Model_asks ({ frames := 2, cells := 0, slots := 0, locals := 41 } : Room) (va_Pc [.ref (ad 0), .int x, .int y] (lm_pre (dC, dI) classes [(cA, .int), (cZ, .boolean)] (mr_W cA cZ ad S) sz lm_no)) (va_Qi (fun (r : Int32) (u : ZNS) => r = (md_asks S x y).1 ∧ u = (md_asks S x y).2) (fun u => lm_at (dC, dI) classes [(cA, .int), (cZ, .boolean)] (va_A (mr_W cA cZ ad S) sz) (mr_W cA cZ ad u)) (va_A (mr_W cA cZ ad S) sz)) 0 0 (va_A (mr_W cA cZ ad S) sz) := by
  obtain ⟨⟨aso, axs, ato, ath, asi⟩, ⟨asr, anu, ach, aow, aar⟩, ⟨ais, aon, atw, awh, afi⟩, ⟨ase, afr, amo, ass, asp⟩, ⟨afo, aba, ano, aen, avs⟩, ⟨avo, avt, are, atd, ale⟩⟩ := S
  refine lm_met (fun A => va_Qi (fun (r : Int32) (u : ZNS) => r = (md_asks ((aso, axs, ato, ath, asi), (asr, anu, ach, aow, aar), (ais, aon, atw, awh, afi), (ase, afr, amo, ass, asp), (afo, aba, ano, aen, avs), (avo, avt, are, atd, ale)) x y).1 ∧ u = (md_asks ((aso, axs, ato, ath, asi), (asr, anu, ach, aow, aar), (ais, aon, atw, awh, afi), (ase, afr, amo, ass, asp), (afo, aba, ano, aen, avs), (avo, avt, are, atd, ale)) x y).2) (fun u => lm_at (dC, dI) classes [(cA, .int), (cZ, .boolean)] A (mr_W cA cZ ad u)) A) (by decide) rfl (Nat.le_of_ble_eq_true rfl) ?_
  intro p e s m below meth c A hx hb hr hts hown hlocks hname hml hK hP hD hA hE hsz hAe hS ls hl
  replace hl : lv_has ls 5 [(0, .ref (ad 0)), (1, .int x), (2, .int y)] := hl
  clear hAe hsz
  refine lv_aload_n hx hb d_Model_asks_0 rfl (lv_at hl 0 rfl) ?_
  refine va_get (D := (dC, dI)) (ci := 4) (v := .ref (ad 8)) (C := R_Model) (T := F_Model) (N := 30) hx hb hts (fun q hq => List.mem_cons_of_mem _ (i_Model q hq)) hown hK hP 0 rfl rfl 10 (by decide) (hts _ (List.mem_cons_of_mem _ m_14_3)) (fun _ h9 => h9) rfl d_Model_asks_1 ?_
  refine lv_iload_n hx hb d_Model_asks_4 rfl (lv_at hl 1 rfl) ?_
  have hin : vp_in x 256 := by first | assumption | exact vp_in_nI (by omega) (by decide)
  refine va_iald (f := ais) (n := 256) hx hb hK hP 8 0 rfl rfl hin d_Model_asks_5 ?_
  refine lv_iconst (v := 4) hx hb d_Model_asks_6 (by decide) ?_
  refine lv_icmp_ne hx hb d_Model_asks_7 rfl (fun h7 => ?_) (fun h7 => ?_)
  · refine lv_aload_n hx hb d_Model_asks_16 rfl (lv_at hl 0 rfl) ?_
    refine va_get (D := (dC, dI)) (ci := 4) (v := .ref (ad 8)) (C := R_Model) (T := F_Model) (N := 30) hx hb hts (fun q hq => List.mem_cons_of_mem _ (i_Model q hq)) hown hK hP 0 rfl rfl 10 (by decide) (hts _ (List.mem_cons_of_mem _ m_14_3)) (fun _ h9 => h9) rfl d_Model_asks_17 ?_
    refine lv_iload_n hx hb d_Model_asks_20 rfl (lv_at hl 1 rfl) ?_
    have hin : vp_in x 256 := by first | assumption | exact vp_in_nI (by omega) (by decide)
    refine va_iald (f := ais) (n := 256) hx hb hK hP 8 0 rfl rfl hin d_Model_asks_21 ?_
    refine lv_iconst (v := 3) hx hb d_Model_asks_22 (by decide) ?_
    refine lv_icmp_eq hx hb d_Model_asks_23 rfl (fun h23 => ?_) (fun h23 => ?_)
    · refine lv_iload_n hx hb d_Model_asks_50 rfl (lv_at hl 2 rfl) ?_
      refine lv_if_ne hx hb d_Model_asks_51 rfl (fun h51 => ?_) (fun h51 => ?_)
      · refine lv_aload_n hx hb d_Model_asks_63 rfl (lv_at hl 0 rfl) ?_
        refine va_get (D := (dC, dI)) (ci := 4) (v := .ref (ad 9)) (C := R_Model) (T := F_Model) (N := 30) hx hb hts (fun q hq => List.mem_cons_of_mem _ (i_Model q hq)) hown hK hP 0 rfl rfl 11 (by decide) (hts _ (List.mem_cons_of_mem _ m_14_4)) (fun _ h9 => h9) rfl d_Model_asks_64 ?_
        refine lv_iload_n hx hb d_Model_asks_67 rfl (lv_at hl 1 rfl) ?_
        have hin : vp_in x 256 := by first | assumption | exact vp_in_nI (by omega) (by decide)
        refine va_iald (f := aon) (n := 256) hx hb hK hP 9 0 rfl rfl hin d_Model_asks_68 ?_
        refine lv_istore_n (lv' := [(3, .int (aon x.toNatClampNeg)), (0, .ref (ad 0)), (1, .int x), (2, .int y)]) hx hb d_Model_asks_69 rfl hl (by decide) rfl (fun ls hl => ?_)
        refine lv_aload_n hx hb d_Model_asks_70 rfl (lv_at hl 1 rfl) ?_
        refine va_get (D := (dC, dI)) (ci := 4) (v := .ref (ad 10)) (C := R_Model) (T := F_Model) (N := 30) hx hb hts (fun q hq => List.mem_cons_of_mem _ (i_Model q hq)) hown hK hP 0 rfl rfl 12 (by decide) (hts _ (List.mem_cons_of_mem _ m_14_5)) (fun _ h9 => h9) rfl d_Model_asks_71 ?_
        refine lv_iload_n hx hb d_Model_asks_74 rfl (lv_at hl 2 rfl) ?_
        have hin : vp_in x 256 := by first | assumption | exact vp_in_nI (by omega) (by decide)
        refine va_iald (f := atw) (n := 256) hx hb hK hP 10 0 rfl rfl hin d_Model_asks_75 ?_
        refine lv_istore (lv' := [(4, .int (atw x.toNatClampNeg)), (3, .int (aon x.toNatClampNeg)), (0, .ref (ad 0)), (1, .int x), (2, .int y)]) hx hb d_Model_asks_76 hl (by decide) rfl (fun ls hl => ?_)
        refine lv_aload_n hx hb d_Model_asks_78 rfl (lv_at hl 2 rfl) ?_
        refine va_get (D := (dC, dI)) (ci := 4) (v := .ref (ad 8)) (C := R_Model) (T := F_Model) (N := 30) hx hb hts (fun q hq => List.mem_cons_of_mem _ (i_Model q hq)) hown hK hP 0 rfl rfl 10 (by decide) (hts _ (List.mem_cons_of_mem _ m_14_3)) (fun _ h9 => h9) rfl d_Model_asks_79 ?_
        refine lv_iload_n hx hb d_Model_asks_82 rfl (lv_at hl 3 rfl) ?_
        refine lv_iconst (v := 4) hx hb d_Model_asks_83 (by decide) ?_
        have hin : vp_in x 256 := by first | assumption | exact vp_in_nI (by omega) (by decide)
        refine va_iast (f := ais) (n := 256) hx hb hK hP hD hS 8 0 rfl rfl hin d_Model_asks_84 (fun H locs hP hD hS => ?_)
        have hP : va_P (dC, dI) classes (mr_W cA cZ ad ((aso, axs, ato, ath, asi), (asr, anu, ach, aow, aar), ((upd ais x.toNatClampNeg 4), aon, atw, awh, afi), (ase, afr, amo, ass, asp), (afo, aba, ano, aen, avs), (avo, avt, are, atd, ale))) H := hP
        have hD : va_D A (mr_W cA cZ ad ((aso, axs, ato, ath, asi), (asr, anu, ach, aow, aar), ((upd ais x.toNatClampNeg 4), aon, atw, awh, afi), (ase, afr, amo, ass, asp), (afo, aba, ano, aen, avs), (avo, avt, are, atd, ale))) := hD
        refine lv_aload_n hx hb d_Model_asks_85 rfl (lv_at hl 2 rfl) ?_
        refine lv_dup hx hb d_Model_asks_86 rfl ?_
        refine va_get (D := (dC, dI)) (ci := 4) (v := .int afo) (C := R_Model) (T := F_Model) (N := 30) hx hb hts (fun q hq => List.mem_cons_of_mem _ (i_Model q hq)) hown hK hP 0 rfl rfl 23 (by decide) (hts _ (List.mem_cons_of_mem _ m_14_16)) (fun _ h9 => h9) rfl d_Model_asks_87 ?_
        refine lv_iconst (v := 1) hx hb d_Model_asks_90 (by decide) ?_
        refine lv_iadd hx hb d_Model_asks_91 ?_
        refine va_put (D := (dC, dI)) (ci := 4) (v := .int (afo + 1)) (ty := .int) (C := R_Model) (T := F_Model) (N := 30) hx hb hts (fun q hq => List.mem_cons_of_mem _ (i_Model q hq)) t_Model t_Model_ok n_Model hown hK hP hD hS 0 rfl rfl 23 (by decide) (hts _ (List.mem_cons_of_mem _ m_14_16)) (fun _ h9 => h9) rfl (by decide +kernel) rfl rfl (Nat.le_of_ble_eq_true rfl) d_Model_asks_92 (fun H locs hP hD hS => ?_)
        have hP : va_P (dC, dI) classes (mr_W cA cZ ad ((aso, axs, ato, ath, asi), (asr, anu, ach, aow, aar), ((upd ais x.toNatClampNeg 4), aon, atw, awh, afi), (ase, afr, amo, ass, asp), ((afo + 1), aba, ano, aen, avs), (avo, avt, are, atd, ale))) H := hP
        have hD : va_D A (mr_W cA cZ ad ((aso, axs, ato, ath, asi), (asr, anu, ach, aow, aar), ((upd ais x.toNatClampNeg 4), aon, atw, awh, afi), (ase, afr, amo, ass, asp), ((afo + 1), aba, ano, aen, avs), (avo, avt, are, atd, ale))) := hD
        refine lv_aload_n hx hb d_Model_asks_95 rfl (lv_at hl 2 rfl) ?_
        refine lv_iconst (v := 0) hx hb d_Model_asks_96 (by decide) ?_
        refine lv_iload_n hx hb d_Model_asks_97 rfl (lv_at hl 3 rfl) ?_
        refine lv_iconst (v := 0) hx hb d_Model_asks_98 (by decide) ?_
        refine lm_vv (b := ad 0) (As := [.int 0, .int x, .int 0]) (rest := []) (wr := ([] : va_W)) ⟨hx, hb, hml, hown, hts⟩ hK hP hD hS hA [0, 1, 2, 3, 4, 5, 6, 7, 8, 9, 10, 11, 12, 13, 14, 15] [] rfl rfl (by decide) (by decide) (by decide) (c_Model_push l dC dI cA cZ ad _ ((aso, axs, ato, ath, asi), (asr, anu, ach, aow, aar), ((upd ais x.toNatClampNeg 4), aon, atw, awh, afi), (ase, afr, amo, ass, asp), ((afo + 1), aba, ano, aen, avs), (avo, avt, are, atd, ale)) 0 x 0 (by obtain ⟨z, hz1, hz2, hz3⟩ := hz; first | exact ⟨z, hz3 h51, hz2⟩ | exact (md_hi_lt (u := u55) (S := ((aso, axs, ato, ath, asi), (asr, anu, ach, aow, aar), (ais, aon, atw, awh, afi), (ase, afr, amo, ass, asp), (afo, aba, ano, aen, avs), (avo, avt, are, atd, ale))) ⟨z, hz1, hz2⟩ (by rw [← e_r55]; exact h58) w55))) (cwV 3 hts (lm_gV m_17_5 m_17_6 m_20_12 m_0_5 m_17_7) rfl rfl rfl (by decide +kernel) ⟨Nat.le_of_ble_eq_true rfl, Nat.le_of_ble_eq_true rfl⟩) (va_recv (q0 := 0) hK hP rfl rfl) lm_bl_no (fun _ _ _ => trivial) hl.1 rfl rfl (Nat.le_of_ble_eq_true rfl) d_Model_asks_99 ⟨Nat.le_of_ble_eq_true rfl, Nat.le_of_ble_eq_true rfl⟩ (fun u99 H locs w99 hP hD hS => ?_)
        have hP : va_P (dC, dI) classes (mr_W cA cZ ad u99) H := hP
        have hD : va_D A (mr_W cA cZ ad u99) := hD
        refine lv_aload_n hx hb d_Model_asks_102 rfl (lv_at hl 2 rfl) ?_
        refine lv_iload_n hx hb d_Model_asks_103 rfl (lv_at hl 1 rfl) ?_
        refine lv_iload hx hb d_Model_asks_104 (lv_at hl 0 rfl) ?_
        refine lm_vv (b := ad 0) (As := [.int (aon x.toNatClampNeg), .int (atw x.toNatClampNeg)]) (rest := []) (wr := ([] : va_W)) ⟨hx, hb, hml, hown, hts⟩ hK hP hD hS hA [0, 1, 2, 3, 4, 5, 6, 7, 8, 9, 10, 11, 12, 13, 14, 15] [] rfl rfl (by decide) (by decide) (by decide) (c_Model_go l dC dI cA cZ ad _ u99 (aon x.toNatClampNeg) (atw x.toNatClampNeg) ) (cwV 2 hts (lm_gV m_17_2 m_17_3 m_20_11 m_0_5 m_17_4) rfl rfl rfl (by decide +kernel) ⟨Nat.le_of_ble_eq_true rfl, Nat.le_of_ble_eq_true rfl⟩) (va_recv (q0 := 0) hK hP rfl rfl) lm_bl_no (fun _ _ _ => trivial) hl.1 rfl rfl (Nat.le_of_ble_eq_true rfl) d_Model_asks_106 ⟨Nat.le_of_ble_eq_true rfl, Nat.le_of_ble_eq_true rfl⟩ (fun u106 H locs w106 hP hD hS => ?_)
        have w106 : u106 = ((u99.1.1, u99.1.2.1, u99.1.2.2.1, u99.1.2.2.2.1, u99.1.2.2.2.2), (u99.2.1.1, u99.2.1.2.1, u99.2.1.2.2.1, u99.2.1.2.2.2.1, u99.2.1.2.2.2.2), (u99.2.2.1.1, u99.2.2.1.2.1, u99.2.2.1.2.2.1, u99.2.2.1.2.2.2.1, u99.2.2.1.2.2.2.2), (u99.2.2.2.1.1, u99.2.2.2.1.2.1, u99.2.2.2.1.2.2.1, u99.2.2.2.1.2.2.2.1, u99.2.2.2.1.2.2.2.2), (u99.2.2.2.2.1.1, 0, (aon x.toNatClampNeg), (atw x.toNatClampNeg), u99.2.2.2.2.1.2.2.2.2), (u99.2.2.2.2.2.1, u99.2.2.2.2.2.2.1, u99.2.2.2.2.2.2.2.1, u99.2.2.2.2.2.2.2.2.1, u99.2.2.2.2.2.2.2.2.2)) := w106
        subst w106
        have hP : va_P (dC, dI) classes (mr_W cA cZ ad ((u99.1.1, u99.1.2.1, u99.1.2.2.1, u99.1.2.2.2.1, u99.1.2.2.2.2), (u99.2.1.1, u99.2.1.2.1, u99.2.1.2.2.1, u99.2.1.2.2.2.1, u99.2.1.2.2.2.2), (u99.2.2.1.1, u99.2.2.1.2.1, u99.2.2.1.2.2.1, u99.2.2.1.2.2.2.1, u99.2.2.1.2.2.2.2), (u99.2.2.2.1.1, u99.2.2.2.1.2.1, u99.2.2.2.1.2.2.1, u99.2.2.2.1.2.2.2.1, u99.2.2.2.1.2.2.2.2), (u99.2.2.2.2.1.1, 0, (aon x.toNatClampNeg), (atw x.toNatClampNeg), u99.2.2.2.2.1.2.2.2.2), (u99.2.2.2.2.2.1, u99.2.2.2.2.2.2.1, u99.2.2.2.2.2.2.2.1, u99.2.2.2.2.2.2.2.2.1, u99.2.2.2.2.2.2.2.2.2))) H := hP
        have hD : va_D A (mr_W cA cZ ad ((u99.1.1, u99.1.2.1, u99.1.2.2.1, u99.1.2.2.2.1, u99.1.2.2.2.2), (u99.2.1.1, u99.2.1.2.1, u99.2.1.2.2.1, u99.2.1.2.2.2.1, u99.2.1.2.2.2.2), (u99.2.2.1.1, u99.2.2.1.2.1, u99.2.2.1.2.2.1, u99.2.2.1.2.2.2.1, u99.2.2.1.2.2.2.2), (u99.2.2.2.1.1, u99.2.2.2.1.2.1, u99.2.2.2.1.2.2.1, u99.2.2.2.1.2.2.2.1, u99.2.2.2.1.2.2.2.2), (u99.2.2.2.2.1.1, 0, (aon x.toNatClampNeg), (atw x.toNatClampNeg), u99.2.2.2.2.1.2.2.2.2), (u99.2.2.2.2.2.1, u99.2.2.2.2.2.2.1, u99.2.2.2.2.2.2.2.1, u99.2.2.2.2.2.2.2.2.1, u99.2.2.2.2.2.2.2.2.2))) := hD
        refine lv_iconst (v := 0) hx hb d_Model_asks_109 (by decide) ?_
        refine lm_rz (v := 0) hx hb hr hlocks (by decide) ((u99.1.1, u99.1.2.1, u99.1.2.2.1, u99.1.2.2.2.1, u99.1.2.2.2.2), (u99.2.1.1, u99.2.1.2.1, u99.2.1.2.2.1, u99.2.1.2.2.2.1, u99.2.1.2.2.2.2), (u99.2.2.1.1, u99.2.2.1.2.1, u99.2.2.1.2.2.1, u99.2.2.1.2.2.2.1, u99.2.2.1.2.2.2.2), (u99.2.2.2.1.1, u99.2.2.2.1.2.1, u99.2.2.2.1.2.2.1, u99.2.2.2.1.2.2.2.1, u99.2.2.2.1.2.2.2.2), (u99.2.2.2.2.1.1, 0, (aon x.toNatClampNeg), (atw x.toNatClampNeg), u99.2.2.2.2.1.2.2.2.2), (u99.2.2.2.2.2.1, u99.2.2.2.2.2.2.1, u99.2.2.2.2.2.2.2.1, u99.2.2.2.2.2.2.2.2.1, u99.2.2.2.2.2.2.2.2.2)) ?_ hP hK hD hS d_Model_asks_110
        subst w99; unfold md_asks; (first | rw [if_pos h7] | rw [if_neg h7]); (first | rw [if_pos h23] | rw [if_neg h23]); (first | rw [if_pos h51] | rw [if_neg h51]); exact ⟨rfl, rfl⟩
      · refine lv_aload_n hx hb d_Model_asks_54 rfl (lv_at hl 0 rfl) ?_
        refine lm_vi (b := ad 0) (As := []) (rest := []) (wr := ([] : va_W)) ⟨hx, hb, hml, hown, hts⟩ hK hP hD hS hA [0, 1, 2, 3, 4, 5, 6, 7, 8, 9, 10, 11, 12, 13, 14, 15] [] rfl rfl (by decide) (by decide) (by decide) (c_Model_isHigh l dC dI cA cZ ad _ ((aso, axs, ato, ath, asi), (asr, anu, ach, aow, aar), (ais, aon, atw, awh, afi), (ase, afr, amo, ass, asp), (afo, aba, ano, aen, avs), (avo, avt, are, atd, ale))  ) (cwV 0 hts (lm_gV m_17_20 m_17_21 m_20_16 m_0_5 m_17_22) rfl rfl rfl (by decide +kernel) ⟨Nat.le_of_ble_eq_true rfl, Nat.le_of_ble_eq_true rfl⟩) (va_recv (q0 := 0) hK hP rfl rfl) lm_bl_no (fun _ _ _ => trivial) hl.1 rfl rfl (Nat.le_of_ble_eq_true rfl) d_Model_asks_55 ⟨Nat.le_of_ble_eq_true rfl, Nat.le_of_ble_eq_true rfl⟩ (fun r55 u55 H locs w55 hP hD hS => ?_)
        obtain ⟨e_r55, w55⟩ := w55
        have hP : va_P (dC, dI) classes (mr_W cA cZ ad u55) H := hP
        have hD : va_D A (mr_W cA cZ ad u55) := hD
        refine lv_if_eq hx hb d_Model_asks_58 rfl (fun h58 => ?_) (fun h58 => ?_)
        · refine lv_aload_n hx hb d_Model_asks_63 rfl (lv_at hl 0 rfl) ?_
          refine va_get (D := (dC, dI)) (ci := 4) (v := .ref (ad 9)) (C := R_Model) (T := F_Model) (N := 30) hx hb hts (fun q hq => List.mem_cons_of_mem _ (i_Model q hq)) hown hK hP 0 rfl rfl 11 (by decide) (hts _ (List.mem_cons_of_mem _ m_14_4)) (fun _ h9 => h9) rfl d_Model_asks_64 ?_
          refine lv_iload_n hx hb d_Model_asks_67 rfl (lv_at hl 1 rfl) ?_
          have hin : vp_in x 256 := by first | assumption | exact vp_in_nI (by omega) (by decide)
          refine va_iald (f := u55.2.2.1.2.1) (n := 256) hx hb hK hP 9 0 rfl rfl hin d_Model_asks_68 ?_
          refine lv_istore_n (lv' := [(3, .int (u55.2.2.1.2.1 x.toNatClampNeg)), (0, .ref (ad 0)), (1, .int x), (2, .int y)]) hx hb d_Model_asks_69 rfl hl (by decide) rfl (fun ls hl => ?_)
          refine lv_aload_n hx hb d_Model_asks_70 rfl (lv_at hl 1 rfl) ?_
          refine va_get (D := (dC, dI)) (ci := 4) (v := .ref (ad 10)) (C := R_Model) (T := F_Model) (N := 30) hx hb hts (fun q hq => List.mem_cons_of_mem _ (i_Model q hq)) hown hK hP 0 rfl rfl 12 (by decide) (hts _ (List.mem_cons_of_mem _ m_14_5)) (fun _ h9 => h9) rfl d_Model_asks_71 ?_
          refine lv_iload_n hx hb d_Model_asks_74 rfl (lv_at hl 2 rfl) ?_
          have hin : vp_in x 256 := by first | assumption | exact vp_in_nI (by omega) (by decide)
          refine va_iald (f := u55.2.2.1.2.2.1) (n := 256) hx hb hK hP 10 0 rfl rfl hin d_Model_asks_75 ?_
          refine lv_istore (lv' := [(4, .int (u55.2.2.1.2.2.1 x.toNatClampNeg)), (3, .int (u55.2.2.1.2.1 x.toNatClampNeg)), (0, .ref (ad 0)), (1, .int x), (2, .int y)]) hx hb d_Model_asks_76 hl (by decide) rfl (fun ls hl => ?_)
          refine lv_aload_n hx hb d_Model_asks_78 rfl (lv_at hl 2 rfl) ?_
          refine va_get (D := (dC, dI)) (ci := 4) (v := .ref (ad 8)) (C := R_Model) (T := F_Model) (N := 30) hx hb hts (fun q hq => List.mem_cons_of_mem _ (i_Model q hq)) hown hK hP 0 rfl rfl 10 (by decide) (hts _ (List.mem_cons_of_mem _ m_14_3)) (fun _ h9 => h9) rfl d_Model_asks_79 ?_
          refine lv_iload_n hx hb d_Model_asks_82 rfl (lv_at hl 3 rfl) ?_
          refine lv_iconst (v := 4) hx hb d_Model_asks_83 (by decide) ?_
          have hin : vp_in x 256 := by first | assumption | exact vp_in_nI (by omega) (by decide)
          refine va_iast (f := u55.2.2.1.1) (n := 256) hx hb hK hP hD hS 8 0 rfl rfl hin d_Model_asks_84 (fun H locs hP hD hS => ?_)
          have hP : va_P (dC, dI) classes (mr_W cA cZ ad ((u55.1.1, u55.1.2.1, u55.1.2.2.1, u55.1.2.2.2.1, u55.1.2.2.2.2), (u55.2.1.1, u55.2.1.2.1, u55.2.1.2.2.1, u55.2.1.2.2.2.1, u55.2.1.2.2.2.2), ((upd u55.2.2.1.1 x.toNatClampNeg 4), u55.2.2.1.2.1, u55.2.2.1.2.2.1, u55.2.2.1.2.2.2.1, u55.2.2.1.2.2.2.2), (u55.2.2.2.1.1, u55.2.2.2.1.2.1, u55.2.2.2.1.2.2.1, u55.2.2.2.1.2.2.2.1, u55.2.2.2.1.2.2.2.2), (u55.2.2.2.2.1.1, u55.2.2.2.2.1.2.1, u55.2.2.2.2.1.2.2.1, u55.2.2.2.2.1.2.2.2.1, u55.2.2.2.2.1.2.2.2.2), (u55.2.2.2.2.2.1, u55.2.2.2.2.2.2.1, u55.2.2.2.2.2.2.2.1, u55.2.2.2.2.2.2.2.2.1, u55.2.2.2.2.2.2.2.2.2))) H := hP
          have hD : va_D A (mr_W cA cZ ad ((u55.1.1, u55.1.2.1, u55.1.2.2.1, u55.1.2.2.2.1, u55.1.2.2.2.2), (u55.2.1.1, u55.2.1.2.1, u55.2.1.2.2.1, u55.2.1.2.2.2.1, u55.2.1.2.2.2.2), ((upd u55.2.2.1.1 x.toNatClampNeg 4), u55.2.2.1.2.1, u55.2.2.1.2.2.1, u55.2.2.1.2.2.2.1, u55.2.2.1.2.2.2.2), (u55.2.2.2.1.1, u55.2.2.2.1.2.1, u55.2.2.2.1.2.2.1, u55.2.2.2.1.2.2.2.1, u55.2.2.2.1.2.2.2.2), (u55.2.2.2.2.1.1, u55.2.2.2.2.1.2.1, u55.2.2.2.2.1.2.2.1, u55.2.2.2.2.1.2.2.2.1, u55.2.2.2.2.1.2.2.2.2), (u55.2.2.2.2.2.1, u55.2.2.2.2.2.2.1, u55.2.2.2.2.2.2.2.1, u55.2.2.2.2.2.2.2.2.1, u55.2.2.2.2.2.2.2.2.2))) := hD
          refine lv_aload_n hx hb d_Model_asks_85 rfl (lv_at hl 2 rfl) ?_
          refine lv_dup hx hb d_Model_asks_86 rfl ?_
          refine va_get (D := (dC, dI)) (ci := 4) (v := .int u55.2.2.2.2.1.1) (C := R_Model) (T := F_Model) (N := 30) hx hb hts (fun q hq => List.mem_cons_of_mem _ (i_Model q hq)) hown hK hP 0 rfl rfl 23 (by decide) (hts _ (List.mem_cons_of_mem _ m_14_16)) (fun _ h9 => h9) rfl d_Model_asks_87 ?_
          refine lv_iconst (v := 1) hx hb d_Model_asks_90 (by decide) ?_
          refine lv_iadd hx hb d_Model_asks_91 ?_
          refine va_put (D := (dC, dI)) (ci := 4) (v := .int (u55.2.2.2.2.1.1 + 1)) (ty := .int) (C := R_Model) (T := F_Model) (N := 30) hx hb hts (fun q hq => List.mem_cons_of_mem _ (i_Model q hq)) t_Model t_Model_ok n_Model hown hK hP hD hS 0 rfl rfl 23 (by decide) (hts _ (List.mem_cons_of_mem _ m_14_16)) (fun _ h9 => h9) rfl (by decide +kernel) rfl rfl (Nat.le_of_ble_eq_true rfl) d_Model_asks_92 (fun H locs hP hD hS => ?_)
          have hP : va_P (dC, dI) classes (mr_W cA cZ ad ((u55.1.1, u55.1.2.1, u55.1.2.2.1, u55.1.2.2.2.1, u55.1.2.2.2.2), (u55.2.1.1, u55.2.1.2.1, u55.2.1.2.2.1, u55.2.1.2.2.2.1, u55.2.1.2.2.2.2), ((upd u55.2.2.1.1 x.toNatClampNeg 4), u55.2.2.1.2.1, u55.2.2.1.2.2.1, u55.2.2.1.2.2.2.1, u55.2.2.1.2.2.2.2), (u55.2.2.2.1.1, u55.2.2.2.1.2.1, u55.2.2.2.1.2.2.1, u55.2.2.2.1.2.2.2.1, u55.2.2.2.1.2.2.2.2), ((u55.2.2.2.2.1.1 + 1), u55.2.2.2.2.1.2.1, u55.2.2.2.2.1.2.2.1, u55.2.2.2.2.1.2.2.2.1, u55.2.2.2.2.1.2.2.2.2), (u55.2.2.2.2.2.1, u55.2.2.2.2.2.2.1, u55.2.2.2.2.2.2.2.1, u55.2.2.2.2.2.2.2.2.1, u55.2.2.2.2.2.2.2.2.2))) H := hP
          have hD : va_D A (mr_W cA cZ ad ((u55.1.1, u55.1.2.1, u55.1.2.2.1, u55.1.2.2.2.1, u55.1.2.2.2.2), (u55.2.1.1, u55.2.1.2.1, u55.2.1.2.2.1, u55.2.1.2.2.2.1, u55.2.1.2.2.2.2), ((upd u55.2.2.1.1 x.toNatClampNeg 4), u55.2.2.1.2.1, u55.2.2.1.2.2.1, u55.2.2.1.2.2.2.1, u55.2.2.1.2.2.2.2), (u55.2.2.2.1.1, u55.2.2.2.1.2.1, u55.2.2.2.1.2.2.1, u55.2.2.2.1.2.2.2.1, u55.2.2.2.1.2.2.2.2), ((u55.2.2.2.2.1.1 + 1), u55.2.2.2.2.1.2.1, u55.2.2.2.2.1.2.2.1, u55.2.2.2.2.1.2.2.2.1, u55.2.2.2.2.1.2.2.2.2), (u55.2.2.2.2.2.1, u55.2.2.2.2.2.2.1, u55.2.2.2.2.2.2.2.1, u55.2.2.2.2.2.2.2.2.1, u55.2.2.2.2.2.2.2.2.2))) := hD
          refine lv_aload_n hx hb d_Model_asks_95 rfl (lv_at hl 2 rfl) ?_
          refine lv_iconst (v := 0) hx hb d_Model_asks_96 (by decide) ?_
          refine lv_iload_n hx hb d_Model_asks_97 rfl (lv_at hl 3 rfl) ?_
          refine lv_iconst (v := 0) hx hb d_Model_asks_98 (by decide) ?_
          refine lm_vv (b := ad 0) (As := [.int 0, .int x, .int 0]) (rest := []) (wr := ([] : va_W)) ⟨hx, hb, hml, hown, hts⟩ hK hP hD hS hA [0, 1, 2, 3, 4, 5, 6, 7, 8, 9, 10, 11, 12, 13, 14, 15] [] rfl rfl (by decide) (by decide) (by decide) (c_Model_push l dC dI cA cZ ad _ ((u55.1.1, u55.1.2.1, u55.1.2.2.1, u55.1.2.2.2.1, u55.1.2.2.2.2), (u55.2.1.1, u55.2.1.2.1, u55.2.1.2.2.1, u55.2.1.2.2.2.1, u55.2.1.2.2.2.2), ((upd u55.2.2.1.1 x.toNatClampNeg 4), u55.2.2.1.2.1, u55.2.2.1.2.2.1, u55.2.2.1.2.2.2.1, u55.2.2.1.2.2.2.2), (u55.2.2.2.1.1, u55.2.2.2.1.2.1, u55.2.2.2.1.2.2.1, u55.2.2.2.1.2.2.2.1, u55.2.2.2.1.2.2.2.2), ((u55.2.2.2.2.1.1 + 1), u55.2.2.2.2.1.2.1, u55.2.2.2.2.1.2.2.1, u55.2.2.2.2.1.2.2.2.1, u55.2.2.2.2.1.2.2.2.2), (u55.2.2.2.2.2.1, u55.2.2.2.2.2.2.1, u55.2.2.2.2.2.2.2.1, u55.2.2.2.2.2.2.2.2.1, u55.2.2.2.2.2.2.2.2.2)) 0 x 0 (by obtain ⟨z, hz1, hz2, hz3⟩ := hz; first | exact ⟨z, hz3 h51, hz2⟩ | exact (md_hi_lt (u := u55) (S := ((aso, axs, ato, ath, asi), (asr, anu, ach, aow, aar), (ais, aon, atw, awh, afi), (ase, afr, amo, ass, asp), (afo, aba, ano, aen, avs), (avo, avt, are, atd, ale))) ⟨z, hz1, hz2⟩ (by rw [← e_r55]; exact h58) w55))) (cwV 3 hts (lm_gV m_17_5 m_17_6 m_20_12 m_0_5 m_17_7) rfl rfl rfl (by decide +kernel) ⟨Nat.le_of_ble_eq_true rfl, Nat.le_of_ble_eq_true rfl⟩) (va_recv (q0 := 0) hK hP rfl rfl) lm_bl_no (fun _ _ _ => trivial) hl.1 rfl rfl (Nat.le_of_ble_eq_true rfl) d_Model_asks_99 ⟨Nat.le_of_ble_eq_true rfl, Nat.le_of_ble_eq_true rfl⟩ (fun u99 H locs w99 hP hD hS => ?_)
          have hP : va_P (dC, dI) classes (mr_W cA cZ ad u99) H := hP
          have hD : va_D A (mr_W cA cZ ad u99) := hD
          refine lv_aload_n hx hb d_Model_asks_102 rfl (lv_at hl 2 rfl) ?_
          refine lv_iload_n hx hb d_Model_asks_103 rfl (lv_at hl 1 rfl) ?_
          refine lv_iload hx hb d_Model_asks_104 (lv_at hl 0 rfl) ?_
          refine lm_vv (b := ad 0) (As := [.int (u55.2.2.1.2.1 x.toNatClampNeg), .int (u55.2.2.1.2.2.1 x.toNatClampNeg)]) (rest := []) (wr := ([] : va_W)) ⟨hx, hb, hml, hown, hts⟩ hK hP hD hS hA [0, 1, 2, 3, 4, 5, 6, 7, 8, 9, 10, 11, 12, 13, 14, 15] [] rfl rfl (by decide) (by decide) (by decide) (c_Model_go l dC dI cA cZ ad _ u99 (u55.2.2.1.2.1 x.toNatClampNeg) (u55.2.2.1.2.2.1 x.toNatClampNeg) ) (cwV 2 hts (lm_gV m_17_2 m_17_3 m_20_11 m_0_5 m_17_4) rfl rfl rfl (by decide +kernel) ⟨Nat.le_of_ble_eq_true rfl, Nat.le_of_ble_eq_true rfl⟩) (va_recv (q0 := 0) hK hP rfl rfl) lm_bl_no (fun _ _ _ => trivial) hl.1 rfl rfl (Nat.le_of_ble_eq_true rfl) d_Model_asks_106 ⟨Nat.le_of_ble_eq_true rfl, Nat.le_of_ble_eq_true rfl⟩ (fun u106 H locs w106 hP hD hS => ?_)
          have w106 : u106 = ((u99.1.1, u99.1.2.1, u99.1.2.2.1, u99.1.2.2.2.1, u99.1.2.2.2.2), (u99.2.1.1, u99.2.1.2.1, u99.2.1.2.2.1, u99.2.1.2.2.2.1, u99.2.1.2.2.2.2), (u99.2.2.1.1, u99.2.2.1.2.1, u99.2.2.1.2.2.1, u99.2.2.1.2.2.2.1, u99.2.2.1.2.2.2.2), (u99.2.2.2.1.1, u99.2.2.2.1.2.1, u99.2.2.2.1.2.2.1, u99.2.2.2.1.2.2.2.1, u99.2.2.2.1.2.2.2.2), (u99.2.2.2.2.1.1, 0, (u55.2.2.1.2.1 x.toNatClampNeg), (u55.2.2.1.2.2.1 x.toNatClampNeg), u99.2.2.2.2.1.2.2.2.2), (u99.2.2.2.2.2.1, u99.2.2.2.2.2.2.1, u99.2.2.2.2.2.2.2.1, u99.2.2.2.2.2.2.2.2.1, u99.2.2.2.2.2.2.2.2.2)) := w106
          subst w106
          have hP : va_P (dC, dI) classes (mr_W cA cZ ad ((u99.1.1, u99.1.2.1, u99.1.2.2.1, u99.1.2.2.2.1, u99.1.2.2.2.2), (u99.2.1.1, u99.2.1.2.1, u99.2.1.2.2.1, u99.2.1.2.2.2.1, u99.2.1.2.2.2.2), (u99.2.2.1.1, u99.2.2.1.2.1, u99.2.2.1.2.2.1, u99.2.2.1.2.2.2.1, u99.2.2.1.2.2.2.2), (u99.2.2.2.1.1, u99.2.2.2.1.2.1, u99.2.2.2.1.2.2.1, u99.2.2.2.1.2.2.2.1, u99.2.2.2.1.2.2.2.2), (u99.2.2.2.2.1.1, 0, (u55.2.2.1.2.1 x.toNatClampNeg), (u55.2.2.1.2.2.1 x.toNatClampNeg), u99.2.2.2.2.1.2.2.2.2), (u99.2.2.2.2.2.1, u99.2.2.2.2.2.2.1, u99.2.2.2.2.2.2.2.1, u99.2.2.2.2.2.2.2.2.1, u99.2.2.2.2.2.2.2.2.2))) H := hP
          have hD : va_D A (mr_W cA cZ ad ((u99.1.1, u99.1.2.1, u99.1.2.2.1, u99.1.2.2.2.1, u99.1.2.2.2.2), (u99.2.1.1, u99.2.1.2.1, u99.2.1.2.2.1, u99.2.1.2.2.2.1, u99.2.1.2.2.2.2), (u99.2.2.1.1, u99.2.2.1.2.1, u99.2.2.1.2.2.1, u99.2.2.1.2.2.2.1, u99.2.2.1.2.2.2.2), (u99.2.2.2.1.1, u99.2.2.2.1.2.1, u99.2.2.2.1.2.2.1, u99.2.2.2.1.2.2.2.1, u99.2.2.2.1.2.2.2.2), (u99.2.2.2.2.1.1, 0, (u55.2.2.1.2.1 x.toNatClampNeg), (u55.2.2.1.2.2.1 x.toNatClampNeg), u99.2.2.2.2.1.2.2.2.2), (u99.2.2.2.2.2.1, u99.2.2.2.2.2.2.1, u99.2.2.2.2.2.2.2.1, u99.2.2.2.2.2.2.2.2.1, u99.2.2.2.2.2.2.2.2.2))) := hD
          refine lv_iconst (v := 0) hx hb d_Model_asks_109 (by decide) ?_
          refine lm_rz (v := 0) hx hb hr hlocks (by decide) ((u99.1.1, u99.1.2.1, u99.1.2.2.1, u99.1.2.2.2.1, u99.1.2.2.2.2), (u99.2.1.1, u99.2.1.2.1, u99.2.1.2.2.1, u99.2.1.2.2.2.1, u99.2.1.2.2.2.2), (u99.2.2.1.1, u99.2.2.1.2.1, u99.2.2.1.2.2.1, u99.2.2.1.2.2.2.1, u99.2.2.1.2.2.2.2), (u99.2.2.2.1.1, u99.2.2.2.1.2.1, u99.2.2.2.1.2.2.1, u99.2.2.2.1.2.2.2.1, u99.2.2.2.1.2.2.2.2), (u99.2.2.2.2.1.1, 0, (u55.2.2.1.2.1 x.toNatClampNeg), (u55.2.2.1.2.2.1 x.toNatClampNeg), u99.2.2.2.2.1.2.2.2.2), (u99.2.2.2.2.2.1, u99.2.2.2.2.2.2.1, u99.2.2.2.2.2.2.2.1, u99.2.2.2.2.2.2.2.2.1, u99.2.2.2.2.2.2.2.2.2)) ?_ hP hK hD hS d_Model_asks_110
          subst e_r55 w55 w99; unfold md_asks; (first | rw [if_pos h7] | rw [if_neg h7]); (first | rw [if_pos h23] | rw [if_neg h23]); (first | rw [if_pos h51] | rw [if_neg h51]); (first | rw [if_pos h58] | rw [if_neg h58]); exact ⟨rfl, rfl⟩
        · refine lv_iconst (v := 1) hx hb d_Model_asks_61 (by decide) ?_
          refine lm_rz (v := 1) hx hb hr hlocks (by decide) u55 ?_ hP hK hD hS d_Model_asks_62
          subst e_r55 w55; unfold md_asks; (first | rw [if_pos h7] | rw [if_neg h7]); (first | rw [if_pos h23] | rw [if_neg h23]); (first | rw [if_pos h51] | rw [if_neg h51]); (first | rw [if_pos h58] | rw [if_neg h58]); exact ⟨rfl, rfl⟩
    · refine lv_aload_n hx hb d_Model_asks_26 rfl (lv_at hl 0 rfl) ?_
      refine lv_aload_n hx hb d_Model_asks_27 rfl (lv_at hl 0 rfl) ?_
      refine va_get (D := (dC, dI)) (ci := 4) (v := .ref (ad 8)) (C := R_Model) (T := F_Model) (N := 30) hx hb hts (fun q hq => List.mem_cons_of_mem _ (i_Model q hq)) hown hK hP 0 rfl rfl 10 (by decide) (hts _ (List.mem_cons_of_mem _ m_14_3)) (fun _ h9 => h9) rfl d_Model_asks_28 ?_
      refine lv_iload_n hx hb d_Model_asks_31 rfl (lv_at hl 1 rfl) ?_
      have hin : vp_in x 256 := by first | assumption | exact vp_in_nI (by omega) (by decide)
      refine va_iald (f := ais) (n := 256) hx hb hK hP 8 0 rfl rfl hin d_Model_asks_32 ?_
      refine lv_aload_n hx hb d_Model_asks_33 rfl (lv_at hl 0 rfl) ?_
      refine va_get (D := (dC, dI)) (ci := 4) (v := .ref (ad 9)) (C := R_Model) (T := F_Model) (N := 30) hx hb hts (fun q hq => List.mem_cons_of_mem _ (i_Model q hq)) hown hK hP 0 rfl rfl 11 (by decide) (hts _ (List.mem_cons_of_mem _ m_14_4)) (fun _ h9 => h9) rfl d_Model_asks_34 ?_
      refine lv_iload_n hx hb d_Model_asks_37 rfl (lv_at hl 1 rfl) ?_
      have hin : vp_in x 256 := by first | assumption | exact vp_in_nI (by omega) (by decide)
      refine va_iald (f := aon) (n := 256) hx hb hK hP 9 0 rfl rfl hin d_Model_asks_38 ?_
      refine lv_aload_n hx hb d_Model_asks_39 rfl (lv_at hl 0 rfl) ?_
      refine va_get (D := (dC, dI)) (ci := 4) (v := .ref (ad 10)) (C := R_Model) (T := F_Model) (N := 30) hx hb hts (fun q hq => List.mem_cons_of_mem _ (i_Model q hq)) hown hK hP 0 rfl rfl 12 (by decide) (hts _ (List.mem_cons_of_mem _ m_14_5)) (fun _ h9 => h9) rfl d_Model_asks_40 ?_
      refine lv_iload_n hx hb d_Model_asks_43 rfl (lv_at hl 1 rfl) ?_
      have hin : vp_in x 256 := by first | assumption | exact vp_in_nI (by omega) (by decide)
      refine va_iald (f := atw) (n := 256) hx hb hK hP 10 0 rfl rfl hin d_Model_asks_44 ?_
      refine lm_vv (b := ad 0) (As := [.int (ais x.toNatClampNeg), .int (aon x.toNatClampNeg), .int (atw x.toNatClampNeg)]) (rest := []) (wr := ([] : va_W)) ⟨hx, hb, hml, hown, hts⟩ hK hP hD hS hA [0, 1, 2, 3, 4, 5, 6, 7, 8, 9, 10, 11, 12, 13, 14, 15] [] rfl rfl (by decide) (by decide) (by decide) (c_Model_give l dC dI cA cZ ad _ ((aso, axs, ato, ath, asi), (asr, anu, ach, aow, aar), (ais, aon, atw, awh, afi), (ase, afr, amo, ass, asp), (afo, aba, ano, aen, avs), (avo, avt, are, atd, ale)) (ais x.toNatClampNeg) (aon x.toNatClampNeg) (atw x.toNatClampNeg) ) (cwV 3 hts (lm_gV m_17_11 m_17_12 m_20_13 m_0_5 m_17_13) rfl rfl rfl (by decide +kernel) ⟨Nat.le_of_ble_eq_true rfl, Nat.le_of_ble_eq_true rfl⟩) (va_recv (q0 := 0) hK hP rfl rfl) lm_bl_no (fun _ _ _ => trivial) hl.1 rfl rfl (Nat.le_of_ble_eq_true rfl) d_Model_asks_45 ⟨Nat.le_of_ble_eq_true rfl, Nat.le_of_ble_eq_true rfl⟩ (fun u45 H locs w45 hP hD hS => ?_)
      have w45 : u45 = ((aso, axs, ato, ath, asi), (asr, anu, ach, aow, aar), (ais, aon, atw, awh, afi), (ase, afr, amo, ass, asp), (afo, 1, ano, aen, (ais x.toNatClampNeg)), ((aon x.toNatClampNeg), (atw x.toNatClampNeg), are, atd, ale)) := w45
      subst w45
      have hP : va_P (dC, dI) classes (mr_W cA cZ ad ((aso, axs, ato, ath, asi), (asr, anu, ach, aow, aar), (ais, aon, atw, awh, afi), (ase, afr, amo, ass, asp), (afo, 1, ano, aen, (ais x.toNatClampNeg)), ((aon x.toNatClampNeg), (atw x.toNatClampNeg), are, atd, ale))) H := hP
      have hD : va_D A (mr_W cA cZ ad ((aso, axs, ato, ath, asi), (asr, anu, ach, aow, aar), (ais, aon, atw, awh, afi), (ase, afr, amo, ass, asp), (afo, 1, ano, aen, (ais x.toNatClampNeg)), ((aon x.toNatClampNeg), (atw x.toNatClampNeg), are, atd, ale))) := hD
      refine lv_iconst (v := 0) hx hb d_Model_asks_48 (by decide) ?_
      refine lm_rz (v := 0) hx hb hr hlocks (by decide) ((aso, axs, ato, ath, asi), (asr, anu, ach, aow, aar), (ais, aon, atw, awh, afi), (ase, afr, amo, ass, asp), (afo, 1, ano, aen, (ais x.toNatClampNeg)), ((aon x.toNatClampNeg), (atw x.toNatClampNeg), are, atd, ale)) ?_ hP hK hD hS d_Model_asks_49
      unfold md_asks; (first | rw [if_pos h7] | rw [if_neg h7]); (first | rw [if_pos h23] | rw [if_neg h23]); exact ⟨rfl, rfl⟩
  · refine lv_aload_n hx hb d_Model_asks_10 rfl (lv_at hl 0 rfl) ?_
    refine lv_iconst (v := 4) hx hb d_Model_asks_11 (by decide) ?_
    refine lm_vi (b := ad 0) (As := [.int 4]) (rest := []) (wr := ([] : va_W)) ⟨hx, hb, hml, hown, hts⟩ hK hP hD hS hA [0, 1, 2, 3, 4, 5, 6, 7, 8, 9, 10, 11, 12, 13, 14, 15] [] rfl rfl (by decide) (by decide) (by decide) (c_Model_stops l dC dI cA cZ ad _ ((aso, axs, ato, ath, asi), (asr, anu, ach, aow, aar), (ais, aon, atw, awh, afi), (ase, afr, amo, ass, asp), (afo, aba, ano, aen, avs), (avo, avt, are, atd, ale)) 4 ) (cwV 1 hts (lm_gV m_16_8 m_16_9 m_20_5 m_0_5 m_16_10) rfl rfl rfl (by decide +kernel) ⟨Nat.le_of_ble_eq_true rfl, Nat.le_of_ble_eq_true rfl⟩) (va_recv (q0 := 0) hK hP rfl rfl) lm_bl_no (fun _ _ _ => trivial) hl.1 rfl rfl (Nat.le_of_ble_eq_true rfl) d_Model_asks_12 ⟨Nat.le_of_ble_eq_true rfl, Nat.le_of_ble_eq_true rfl⟩ (fun r12 u12 H locs w12 hP hD hS => ?_)
    obtain ⟨e_r12, w12⟩ := w12
    replace e_r12 := e_r12.symm
    subst e_r12
    have w12 : u12 = ((aso, axs, ato, ath, asi), (asr, anu, ach, aow, aar), (ais, aon, atw, awh, afi), (ase, afr, amo, 4, asp), (afo, aba, ano, aen, avs), (avo, avt, are, atd, ale)) := w12
    subst w12
    have hP : va_P (dC, dI) classes (mr_W cA cZ ad ((aso, axs, ato, ath, asi), (asr, anu, ach, aow, aar), (ais, aon, atw, awh, afi), (ase, afr, amo, 4, asp), (afo, aba, ano, aen, avs), (avo, avt, are, atd, ale))) H := hP
    have hD : va_D A (mr_W cA cZ ad ((aso, axs, ato, ath, asi), (asr, anu, ach, aow, aar), (ais, aon, atw, awh, afi), (ase, afr, amo, 4, asp), (afo, aba, ano, aen, avs), (avo, avt, are, atd, ale))) := hD
    refine lm_rz (v := 1) hx hb hr hlocks (by decide) ((aso, axs, ato, ath, asi), (asr, anu, ach, aow, aar), (ais, aon, atw, awh, afi), (ase, afr, amo, 4, asp), (afo, aba, ano, aen, avs), (avo, avt, are, atd, ale)) ?_ hP hK hD hS d_Model_asks_15
    unfold md_asks; (first | rw [if_pos h7] | rw [if_neg h7]); exact ⟨rfl, rfl⟩
