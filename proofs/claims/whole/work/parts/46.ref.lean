set_option maxHeartbeats 4000000 in
set_option maxRecDepth 100000 in
theorem c_Model_run (l : Launch) (dC : Nat → ClassId) (dI : Nat → Nat → Nat) (cA cZ : ClassId)  (ad : Nat → Nat) (sz : Nat) (S : ZNS) (x : Int32) (hs0 : 0 ≤ r_ss S) (J : Nat → ZNS → Prop) (hJ0 : ¬ r_ss S = 0 → ¬ x < 0 → x ≤ 5000 → J 0 (s_th S 0)) (hJ1 : ∀ j N, j < 5000 → J j N → r_ss N = 1 → (r_ba N = 0 → sr_at N) ∧ (¬ r_ba N = 0 → sr_bk N)) (hJ2 : ∀ j N, j < 5000 → J j N → r_ss N = 1 → J (j + 1) (md_step N)) : Met l y_Model_run w_Model_run ({ frames := 5, cells := 0, slots := 0, locals := 115 } : Room) (va_Pc [.ref (ad 0), .int x] (lm_pre (dC, dI) classes [(cA, .int), (cZ, .boolean)] (mr_W cA cZ ad S) sz lm_no)) (va_Qi (fun (r : Int32) (u : ZNS) => r = (md_run S x).1 ∧ u = (md_run S x).2) (fun u => lm_at (dC, dI) classes [(cA, .int), (cZ, .boolean)] (va_A (mr_W cA cZ ad S) sz) (mr_W cA cZ ad u)) (va_A (mr_W cA cZ ad S) sz)) 0 0 (va_A (mr_W cA cZ ad S) sz) := by
  obtain ⟨⟨aso, axs, ato, ath, asi⟩, ⟨asr, anu, ach, aow, aar⟩, ⟨ais, aon, atw, awh, afi⟩, ⟨ase, afr, amo, ass, asp⟩, ⟨afo, aba, ano, aen, avs⟩, ⟨avo, avt, are, atd, ale⟩⟩ := S
  refine lm_met (fun A => va_Qi (fun (r : Int32) (u : ZNS) => r = (md_run ((aso, axs, ato, ath, asi), (asr, anu, ach, aow, aar), (ais, aon, atw, awh, afi), (ase, afr, amo, ass, asp), (afo, aba, ano, aen, avs), (avo, avt, are, atd, ale)) x).1 ∧ u = (md_run ((aso, axs, ato, ath, asi), (asr, anu, ach, aow, aar), (ais, aon, atw, awh, afi), (ase, afr, amo, ass, asp), (afo, aba, ano, aen, avs), (avo, avt, are, atd, ale)) x).2) (fun u => lm_at (dC, dI) classes [(cA, .int), (cZ, .boolean)] A (mr_W cA cZ ad u)) A) (by decide) rfl (Nat.le_of_ble_eq_true rfl) ?_
  intro p e s m below meth c A hx hb hr hts hown hlocks hname hml hK hP hD hA hE hsz hAe hS ls hl
  replace hl : lv_has ls 4 [(0, .ref (ad 0)), (1, .int x)] := hl
  clear hAe hsz
  refine lv_aload_n hx hb d_Model_run_0 rfl (lv_at hl 0 rfl) ?_
  refine lv_aload_n hx hb d_Model_run_1 rfl (lv_at hl 0 rfl) ?_
  refine va_get (D := (dC, dI)) (ci := 4) (v := .int ass) (C := R_Model) (T := F_Model) (N := 30) hx hb hts (fun q hq => List.mem_cons_of_mem _ (i_Model q hq)) hown hK hP 0 rfl rfl 21 (by decide) (hts _ (List.mem_cons_of_mem _ m_14_14)) (fun _ h9 => h9) rfl d_Model_run_2 ?_
  refine lv_if_ne hx hb d_Model_run_5 rfl (fun h5 => ?_) (fun h5 => ?_)
  · refine lv_iconst (v := 0) hx hb d_Model_run_12 (by decide) ?_
    refine lv_aload_n hx hb d_Model_run_13 rfl (lv_at hl 0 rfl) ?_
    refine va_get (D := (dC, dI)) (ci := 4) (v := .int ass) (C := R_Model) (T := F_Model) (N := 30) hx hb hts (fun q hq => List.mem_cons_of_mem _ (i_Model q hq)) hown hK hP 0 rfl rfl 21 (by decide) (hts _ (List.mem_cons_of_mem _ m_14_14)) (fun _ h9 => h9) rfl d_Model_run_14 ?_
    refine lv_if_le hx hb d_Model_run_17 rfl (fun h17 => by exact absurd (Int32.le_antisymm h17 hs0) h5) (fun h17 => ?_)
    refine lv_iload_n hx hb d_Model_run_20 rfl (lv_at hl 1 rfl) ?_
    refine lv_if_lt hx hb d_Model_run_21 rfl (fun h21 => ?_) (fun h21 => ?_)
    · refine lv_iconst (v := 1) hx hb d_Model_run_31 (by decide) ?_
      refine lv_goto hx hb d_Model_run_32 rfl ?_
      refine lm_vi (b := ad 0) (As := [.int 0, .int 1]) (rest := []) (wr := ([] : va_W)) ⟨hx, hb, hml, hown, hts⟩ hK hP hD hS hA [0, 1, 2, 3, 4, 5, 6, 7, 8, 9, 10, 11, 12, 13, 14, 15] [] rfl rfl (by decide) (by decide) (by decide) (c_Model_fails l dC dI cA cZ ad _ ((aso, axs, ato, ath, asi), (asr, anu, ach, aow, aar), (ais, aon, atw, awh, afi), (ase, afr, amo, ass, asp), (afo, aba, ano, aen, avs), (avo, avt, are, atd, ale)) 0 1 ) (cwV 2 hts (lm_gV m_15_8 m_15_9 m_20_2 m_0_5 m_15_10) rfl rfl rfl (by decide +kernel) ⟨Nat.le_of_ble_eq_true rfl, Nat.le_of_ble_eq_true rfl⟩) (va_recv (q0 := 0) hK hP rfl rfl) lm_bl_no (fun _ _ _ => trivial) hl.1 rfl rfl (Nat.le_of_ble_eq_true rfl) d_Model_run_36 ⟨Nat.le_of_ble_eq_true rfl, Nat.le_of_ble_eq_true rfl⟩ (fun r36 u36 H locs w36 hP hD hS => ?_)
      obtain ⟨e_r36, w36⟩ := w36
      have e_r36 : r36 = 1 := e_r36
      replace e_r36 := e_r36.symm
      subst e_r36
      have w36 : u36 = ((aso, axs, ato, 2, asi), (asr, anu, ach, aow, aar), (ais, aon, atw, awh, afi), (ase, afr, amo, ass, asp), (afo, aba, ano, aen, avs), (avo, avt, are, atd, ale)) := w36
      replace w36 := w36.symm
      subst w36
      have hP : va_P (dC, dI) classes (mr_W cA cZ ad ((aso, axs, ato, 2, asi), (asr, anu, ach, aow, aar), (ais, aon, atw, awh, afi), (ase, afr, amo, ass, asp), (afo, aba, ano, aen, avs), (avo, avt, are, atd, ale))) H := hP
      have hD : va_D A (mr_W cA cZ ad ((aso, axs, ato, 2, asi), (asr, anu, ach, aow, aar), (ais, aon, atw, awh, afi), (ase, afr, amo, ass, asp), (afo, aba, ano, aen, avs), (avo, avt, are, atd, ale))) := hD
      refine lv_if_eq hx hb d_Model_run_39 rfl (fun h39 => by exact absurd h39 (by decide)) (fun h39 => ?_)
      refine lv_iconst (v := 0) hx hb d_Model_run_42 (by decide) ?_
      refine lm_ri (v := 0) hx hb hr hlocks ((aso, axs, ato, 2, asi), (asr, anu, ach, aow, aar), (ais, aon, atw, awh, afi), (ase, afr, amo, ass, asp), (afo, aba, ano, aen, avs), (avo, avt, are, atd, ale)) ?_ hP hK hD hS d_Model_run_43
      unfold md_run; rw [if_neg h5]; (first | rw [if_pos h21] | rw [if_neg h21]); exact ⟨rfl, rfl⟩
    · refine lv_iload_n hx hb d_Model_run_24 rfl (lv_at hl 1 rfl) ?_
      refine lv_sipush (v := 5000) hx hb d_Model_run_25 (by decide) ?_
      refine lv_icmp_le hx hb d_Model_run_28 rfl (fun h28 => ?_) (fun h28 => ?_)
      · refine lv_iconst (v := 0) hx hb d_Model_run_35 (by decide) ?_
        refine lm_vi (b := ad 0) (As := [.int 0, .int 0]) (rest := []) (wr := ([] : va_W)) ⟨hx, hb, hml, hown, hts⟩ hK hP hD hS hA [0, 1, 2, 3, 4, 5, 6, 7, 8, 9, 10, 11, 12, 13, 14, 15] [] rfl rfl (by decide) (by decide) (by decide) (c_Model_fails l dC dI cA cZ ad _ ((aso, axs, ato, ath, asi), (asr, anu, ach, aow, aar), (ais, aon, atw, awh, afi), (ase, afr, amo, ass, asp), (afo, aba, ano, aen, avs), (avo, avt, are, atd, ale)) 0 0 ) (cwV 2 hts (lm_gV m_15_8 m_15_9 m_20_2 m_0_5 m_15_10) rfl rfl rfl (by decide +kernel) ⟨Nat.le_of_ble_eq_true rfl, Nat.le_of_ble_eq_true rfl⟩) (va_recv (q0 := 0) hK hP rfl rfl) lm_bl_no (fun _ _ _ => trivial) hl.1 rfl rfl (Nat.le_of_ble_eq_true rfl) d_Model_run_36 ⟨Nat.le_of_ble_eq_true rfl, Nat.le_of_ble_eq_true rfl⟩ (fun r36 u36 H locs w36 hP hD hS => ?_)
        obtain ⟨e_r36, w36⟩ := w36
        have e_r36 : r36 = 0 := e_r36
        replace e_r36 := e_r36.symm
        subst e_r36
        have w36 : u36 = ((aso, axs, ato, 0, asi), (asr, anu, ach, aow, aar), (ais, aon, atw, awh, afi), (ase, afr, amo, ass, asp), (afo, aba, ano, aen, avs), (avo, avt, are, atd, ale)) := w36
        replace w36 := w36.symm
        subst w36
        have hP : va_P (dC, dI) classes (mr_W cA cZ ad ((aso, axs, ato, 0, asi), (asr, anu, ach, aow, aar), (ais, aon, atw, awh, afi), (ase, afr, amo, ass, asp), (afo, aba, ano, aen, avs), (avo, avt, are, atd, ale))) H := hP
        have hD : va_D A (mr_W cA cZ ad ((aso, axs, ato, 0, asi), (asr, anu, ach, aow, aar), (ais, aon, atw, awh, afi), (ase, afr, amo, ass, asp), (afo, aba, ano, aen, avs), (avo, avt, are, atd, ale))) := hD
        refine lv_if_eq hx hb d_Model_run_39 rfl (fun h39 => ?_) (fun h39 => by exact absurd h39 (by decide))
        obtain ⟨k, hk0, hxk⟩ := nI_of2 (M := 5000) (n := 5000) (by decide) h21 h28
        have hrun : md_run ((aso, axs, ato, ath, asi), (asr, anu, ach, aow, aar), (ais, aon, atw, awh, afi), (ase, afr, amo, ass, asp), (afo, aba, ano, aen, avs), (avo, avt, are, atd, ale)) x = (r_ss (md_runN k ((aso, axs, ato, 0, asi), (asr, anu, ach, aow, aar), (ais, aon, atw, awh, afi), (ase, afr, amo, ass, asp), (afo, aba, ano, aen, avs), (avo, avt, are, atd, ale))), md_runN k ((aso, axs, ato, 0, asi), (asr, anu, ach, aow, aar), (ais, aon, atw, awh, afi), (ase, afr, amo, ass, asp), (afo, aba, ano, aen, avs), (avo, avt, are, atd, ale))) := by
          unfold md_run; rw [if_neg h5, if_neg h21, if_pos h28, hxk, nI_clamp (by omega)]; rfl
        refine lv_iconst (v := 0) hx hb d_Model_run_44 (by decide) ?_
        refine lv_istore_n (lv' := [(2, .int 0), (0, .ref (ad 0)), (1, .int x)]) hx hb d_Model_run_45 rfl hl (by decide) rfl (fun ls hl => ?_)
        have loop : ∀ (fu : Nat) (i : Nat) (N : ZNS) (ls : Array Slot) (H : Heap) (locs : List Loc), (i + fu = k) → (J i N) → (md_runN k ((aso, axs, ato, 0, asi), (asr, anu, ach, aow, aar), (ais, aon, atw, awh, afi), (ase, afr, amo, ass, asp), (afo, aba, ano, aen, avs), (avo, avt, are, atd, ale)) = md_runN fu N) → lv_has ls 4 [(2, .int (nI i)), (0, .ref (ad 0)), (1, .int x)] → va_P (dC, dI) classes (mr_W cA cZ ad N) H → va_D A (mr_W cA cZ ad N) → va_S A s.heap H locs → W p l e (headSpec w_Model_run ({ frames := 5, cells := 0, slots := 0, locals := 115 } : Room)).room s m (List.toArray [.ref (ad 0), .int x]) below meth c H locs 0 0 (MQ below (va_Qi (fun (r : Int32) (u : ZNS) => r = (md_run ((aso, axs, ato, ath, asi), (asr, anu, ach, aow, aar), (ais, aon, atw, awh, afi), (ase, afr, amo, ass, asp), (afo, aba, ano, aen, avs), (avo, avt, are, atd, ale)) x).1 ∧ u = (md_run ((aso, axs, ato, ath, asi), (asr, anu, ach, aow, aar), (ais, aon, atw, awh, afi), (ase, afr, amo, ass, asp), (afo, aba, ano, aen, avs), (avo, avt, are, atd, ale)) x).2) (fun u => lm_at (dC, dI) classes [(cA, .int), (cZ, .boolean)] A (mr_W cA cZ ad u)) A) (List.toArray [.ref (ad 0), .int x]) s 0 0 A) (F0 m 46 ls []) := by
          intro fu
          induction fu with
          | zero => 
            intro i N ls H locs hk hJ hq hl hP hD hS
            refine lv_iload_n hx hb d_Model_run_46 rfl (lv_at hl 0 rfl) ?_
            refine lv_iload_n hx hb d_Model_run_47 rfl (lv_at hl 2 rfl) ?_
            refine lv_icmp_ge hx hb d_Model_run_48 rfl (fun h48 => ?_) (fun h48 => by exact absurd (by rw [hxk]; exact nI_le (by omega) (by omega)) h48)
            refine lv_aload_n hx hb d_Model_run_102 rfl (lv_at hl 1 rfl) ?_
            refine va_get (D := (dC, dI)) (ci := 4) (v := .int N.2.2.2.1.2.2.2.1) (C := R_Model) (T := F_Model) (N := 30) hx hb hts (fun q hq => List.mem_cons_of_mem _ (i_Model q hq)) hown hK hP 0 rfl rfl 21 (by decide) (hts _ (List.mem_cons_of_mem _ m_14_14)) (fun _ h9 => h9) rfl d_Model_run_103 ?_
            refine lm_ri (v := N.2.2.2.1.2.2.2.1) hx hb hr hlocks N ?_ hP hK hD hS d_Model_run_106
            rw [hrun, hq]; first | (rw [md_runN, if_neg h56]; exact ⟨rfl, rfl⟩) | (rw [md_runN]; exact ⟨rfl, rfl⟩)
          | succ fu ih => 
            intro i N ls H locs hk hJ hq hl hP hD hS
            refine lv_iload_n hx hb d_Model_run_46 rfl (lv_at hl 0 rfl) ?_
            refine lv_iload_n hx hb d_Model_run_47 rfl (lv_at hl 2 rfl) ?_
            refine lv_icmp_ge hx hb d_Model_run_48 rfl (fun h48 => by exact absurd h48 (by rw [hxk]; exact nI_ge (by omega) (by omega))) (fun h48 => ?_)
            refine lv_aload_n hx hb d_Model_run_51 rfl (lv_at hl 1 rfl) ?_
            refine va_get (D := (dC, dI)) (ci := 4) (v := .int N.2.2.2.1.2.2.2.1) (C := R_Model) (T := F_Model) (N := 30) hx hb hts (fun q hq => List.mem_cons_of_mem _ (i_Model q hq)) hown hK hP 0 rfl rfl 21 (by decide) (hts _ (List.mem_cons_of_mem _ m_14_14)) (fun _ h9 => h9) rfl d_Model_run_52 ?_
            refine lv_iconst (v := 1) hx hb d_Model_run_55 (by decide) ?_
            refine lv_icmp_ne hx hb d_Model_run_56 rfl (fun h56 => ?_) (fun h56 => ?_)
            · refine lv_aload_n hx hb d_Model_run_102 rfl (lv_at hl 1 rfl) ?_
              refine va_get (D := (dC, dI)) (ci := 4) (v := .int N.2.2.2.1.2.2.2.1) (C := R_Model) (T := F_Model) (N := 30) hx hb hts (fun q hq => List.mem_cons_of_mem _ (i_Model q hq)) hown hK hP 0 rfl rfl 21 (by decide) (hts _ (List.mem_cons_of_mem _ m_14_14)) (fun _ h9 => h9) rfl d_Model_run_103 ?_
              refine lm_ri (v := N.2.2.2.1.2.2.2.1) hx hb hr hlocks N ?_ hP hK hD hS d_Model_run_106
              rw [hrun, hq]; first | (rw [md_runN, if_neg h56]; exact ⟨rfl, rfl⟩) | (rw [md_runN]; exact ⟨rfl, rfl⟩)
            · refine lv_aload_n hx hb d_Model_run_59 rfl (lv_at hl 1 rfl) ?_
              refine va_get (D := (dC, dI)) (ci := 4) (v := .int N.2.2.2.2.1.2.1) (C := R_Model) (T := F_Model) (N := 30) hx hb hts (fun q hq => List.mem_cons_of_mem _ (i_Model q hq)) hown hK hP 0 rfl rfl 24 (by decide) (hts _ (List.mem_cons_of_mem _ m_14_17)) (fun _ h9 => h9) rfl d_Model_run_60 ?_
              refine lv_if_eq hx hb d_Model_run_63 rfl (fun h63 => ?_) (fun h63 => ?_)
              · refine lv_aload_n hx hb d_Model_run_73 rfl (lv_at hl 1 rfl) ?_
                refine lm_vi (b := ad 0) (As := []) (rest := []) (wr := ([] : va_W)) ⟨hx, hb, hml, hown, hts⟩ hK hP hD hS hA [0, 1, 2, 3, 4, 5, 6, 7, 8, 9, 10, 11, 12, 13, 14, 15] [] rfl rfl (by decide) (by decide) (by decide) (c_Model_at l dC dI cA cZ ad _ N  (by exact (hJ1 i N (by omega) hJ h56).1 h63)) (cwV 0 hts (lm_gV m_17_23 m_18_0 m_20_17 m_0_5 m_18_1) rfl rfl rfl (by decide +kernel) ⟨Nat.le_of_ble_eq_true rfl, Nat.le_of_ble_eq_true rfl⟩) (va_recv (q0 := 0) hK hP rfl rfl) lm_bl_no (fun _ _ _ => trivial) hl.1 rfl rfl (Nat.le_of_ble_eq_true rfl) d_Model_run_74 ⟨Nat.le_of_ble_eq_true rfl, Nat.le_of_ble_eq_true rfl⟩ (fun r74 u74 H locs w74 hP hD hS => ?_)
                obtain ⟨e_r74, w74⟩ := w74
                have hP : va_P (dC, dI) classes (mr_W cA cZ ad u74) H := hP
                have hD : va_D A (mr_W cA cZ ad u74) := hD
                refine lv_istore_n (lv' := [(3, .int r74), (2, .int (nI i)), (0, .ref (ad 0)), (1, .int x)]) hx hb d_Model_run_77 rfl hl (by decide) rfl (fun ls hl => ?_)
                refine lv_aload_n hx hb d_Model_run_78 rfl (lv_at hl 2 rfl) ?_
                refine lv_dup hx hb d_Model_run_79 rfl ?_
                refine va_get (D := (dC, dI)) (ci := 4) (v := .int u74.2.2.2.1.2.2.2.2) (C := R_Model) (T := F_Model) (N := 30) hx hb hts (fun q hq => List.mem_cons_of_mem _ (i_Model q hq)) hown hK hP 0 rfl rfl 22 (by decide) (hts _ (List.mem_cons_of_mem _ m_14_15)) (fun _ h9 => h9) rfl d_Model_run_80 ?_
                refine lv_iload_n hx hb d_Model_run_83 rfl (lv_at hl 0 rfl) ?_
                refine lv_if_eq hx hb d_Model_run_84 rfl (fun h84 => ?_) (fun h84 => ?_)
                · refine lv_iconst (v := 1) hx hb d_Model_run_91 (by decide) ?_
                  refine lv_iadd hx hb d_Model_run_92 ?_
                  refine va_put (D := (dC, dI)) (ci := 4) (v := .int (u74.2.2.2.1.2.2.2.2 + 1)) (ty := .int) (C := R_Model) (T := F_Model) (N := 30) hx hb hts (fun q hq => List.mem_cons_of_mem _ (i_Model q hq)) t_Model t_Model_ok n_Model hown hK hP hD hS 0 rfl rfl 22 (by decide) (hts _ (List.mem_cons_of_mem _ m_14_15)) (fun _ h9 => h9) rfl (by decide +kernel) rfl rfl (Nat.le_of_ble_eq_true rfl) d_Model_run_93 (fun H locs hP hD hS => ?_)
                  have hP : va_P (dC, dI) classes (mr_W cA cZ ad ((u74.1.1, u74.1.2.1, u74.1.2.2.1, u74.1.2.2.2.1, u74.1.2.2.2.2), (u74.2.1.1, u74.2.1.2.1, u74.2.1.2.2.1, u74.2.1.2.2.2.1, u74.2.1.2.2.2.2), (u74.2.2.1.1, u74.2.2.1.2.1, u74.2.2.1.2.2.1, u74.2.2.1.2.2.2.1, u74.2.2.1.2.2.2.2), (u74.2.2.2.1.1, u74.2.2.2.1.2.1, u74.2.2.2.1.2.2.1, u74.2.2.2.1.2.2.2.1, (u74.2.2.2.1.2.2.2.2 + 1)), (u74.2.2.2.2.1.1, u74.2.2.2.2.1.2.1, u74.2.2.2.2.1.2.2.1, u74.2.2.2.2.1.2.2.2.1, u74.2.2.2.2.1.2.2.2.2), (u74.2.2.2.2.2.1, u74.2.2.2.2.2.2.1, u74.2.2.2.2.2.2.2.1, u74.2.2.2.2.2.2.2.2.1, u74.2.2.2.2.2.2.2.2.2))) H := hP
                  have hD : va_D A (mr_W cA cZ ad ((u74.1.1, u74.1.2.1, u74.1.2.2.1, u74.1.2.2.2.1, u74.1.2.2.2.2), (u74.2.1.1, u74.2.1.2.1, u74.2.1.2.2.1, u74.2.1.2.2.2.1, u74.2.1.2.2.2.2), (u74.2.2.1.1, u74.2.2.1.2.1, u74.2.2.1.2.2.1, u74.2.2.1.2.2.2.1, u74.2.2.1.2.2.2.2), (u74.2.2.2.1.1, u74.2.2.2.1.2.1, u74.2.2.2.1.2.2.1, u74.2.2.2.1.2.2.2.1, (u74.2.2.2.1.2.2.2.2 + 1)), (u74.2.2.2.2.1.1, u74.2.2.2.2.1.2.1, u74.2.2.2.2.1.2.2.1, u74.2.2.2.2.1.2.2.2.1, u74.2.2.2.2.1.2.2.2.2), (u74.2.2.2.2.2.1, u74.2.2.2.2.2.2.1, u74.2.2.2.2.2.2.2.1, u74.2.2.2.2.2.2.2.2.1, u74.2.2.2.2.2.2.2.2.2))) := hD
                  refine lv_iinc (k := 1) (v := (nI (i + 1))) (lv' := [(2, .int (nI (i + 1))), (3, .int r74), (0, .ref (ad 0)), (1, .int x)]) hx hb d_Model_run_96 hl rfl ((nI_succ i).symm) (by decide) rfl (fun ls hl => ?_)
                  refine lv_goto hx hb d_Model_run_99 rfl ?_
                  have hst : ((u74.1.1, u74.1.2.1, u74.1.2.2.1, u74.1.2.2.2.1, u74.1.2.2.2.2), (u74.2.1.1, u74.2.1.2.1, u74.2.1.2.2.1, u74.2.1.2.2.2.1, u74.2.1.2.2.2.2), (u74.2.2.1.1, u74.2.2.1.2.1, u74.2.2.1.2.2.1, u74.2.2.1.2.2.2.1, u74.2.2.1.2.2.2.2), (u74.2.2.2.1.1, u74.2.2.2.1.2.1, u74.2.2.2.1.2.2.1, u74.2.2.2.1.2.2.2.1, (u74.2.2.2.1.2.2.2.2 + 1)), (u74.2.2.2.2.1.1, u74.2.2.2.2.1.2.1, u74.2.2.2.2.1.2.2.1, u74.2.2.2.2.1.2.2.2.1, u74.2.2.2.2.1.2.2.2.2), (u74.2.2.2.2.2.1, u74.2.2.2.2.2.2.1, u74.2.2.2.2.2.2.2.1, u74.2.2.2.2.2.2.2.2.1, u74.2.2.2.2.2.2.2.2.2)) = md_step N := by
                    unfold md_step md_fin; (first | rw [if_pos h63] | rw [if_neg h63]); (try rw [← e_r74]); (try rw [← w74]); (first | rw [if_pos h84] | rw [if_neg h84]); rfl
                  rw [hst] at hP hD
                  exact ih (i + 1) (md_step N) _ _ _ (by omega) (by exact hJ2 i N (by omega) hJ h56) (by rw [hq, md_runN, if_pos h56]) (lv_sub hl [0, 2, 3] rfl) hP hD hS
                · refine lv_iconst (v := 0) hx hb d_Model_run_87 (by decide) ?_
                  refine lv_goto hx hb d_Model_run_88 rfl ?_
                  refine lv_iadd hx hb d_Model_run_92 ?_
                  refine va_put (D := (dC, dI)) (ci := 4) (v := .int (u74.2.2.2.1.2.2.2.2 + 0)) (ty := .int) (C := R_Model) (T := F_Model) (N := 30) hx hb hts (fun q hq => List.mem_cons_of_mem _ (i_Model q hq)) t_Model t_Model_ok n_Model hown hK hP hD hS 0 rfl rfl 22 (by decide) (hts _ (List.mem_cons_of_mem _ m_14_15)) (fun _ h9 => h9) rfl (by decide +kernel) rfl rfl (Nat.le_of_ble_eq_true rfl) d_Model_run_93 (fun H locs hP hD hS => ?_)
                  have hP : va_P (dC, dI) classes (mr_W cA cZ ad ((u74.1.1, u74.1.2.1, u74.1.2.2.1, u74.1.2.2.2.1, u74.1.2.2.2.2), (u74.2.1.1, u74.2.1.2.1, u74.2.1.2.2.1, u74.2.1.2.2.2.1, u74.2.1.2.2.2.2), (u74.2.2.1.1, u74.2.2.1.2.1, u74.2.2.1.2.2.1, u74.2.2.1.2.2.2.1, u74.2.2.1.2.2.2.2), (u74.2.2.2.1.1, u74.2.2.2.1.2.1, u74.2.2.2.1.2.2.1, u74.2.2.2.1.2.2.2.1, (u74.2.2.2.1.2.2.2.2 + 0)), (u74.2.2.2.2.1.1, u74.2.2.2.2.1.2.1, u74.2.2.2.2.1.2.2.1, u74.2.2.2.2.1.2.2.2.1, u74.2.2.2.2.1.2.2.2.2), (u74.2.2.2.2.2.1, u74.2.2.2.2.2.2.1, u74.2.2.2.2.2.2.2.1, u74.2.2.2.2.2.2.2.2.1, u74.2.2.2.2.2.2.2.2.2))) H := hP
                  have hD : va_D A (mr_W cA cZ ad ((u74.1.1, u74.1.2.1, u74.1.2.2.1, u74.1.2.2.2.1, u74.1.2.2.2.2), (u74.2.1.1, u74.2.1.2.1, u74.2.1.2.2.1, u74.2.1.2.2.2.1, u74.2.1.2.2.2.2), (u74.2.2.1.1, u74.2.2.1.2.1, u74.2.2.1.2.2.1, u74.2.2.1.2.2.2.1, u74.2.2.1.2.2.2.2), (u74.2.2.2.1.1, u74.2.2.2.1.2.1, u74.2.2.2.1.2.2.1, u74.2.2.2.1.2.2.2.1, (u74.2.2.2.1.2.2.2.2 + 0)), (u74.2.2.2.2.1.1, u74.2.2.2.2.1.2.1, u74.2.2.2.2.1.2.2.1, u74.2.2.2.2.1.2.2.2.1, u74.2.2.2.2.1.2.2.2.2), (u74.2.2.2.2.2.1, u74.2.2.2.2.2.2.1, u74.2.2.2.2.2.2.2.1, u74.2.2.2.2.2.2.2.2.1, u74.2.2.2.2.2.2.2.2.2))) := hD
                  refine lv_iinc (k := 1) (v := (nI (i + 1))) (lv' := [(2, .int (nI (i + 1))), (3, .int r74), (0, .ref (ad 0)), (1, .int x)]) hx hb d_Model_run_96 hl rfl ((nI_succ i).symm) (by decide) rfl (fun ls hl => ?_)
                  refine lv_goto hx hb d_Model_run_99 rfl ?_
                  have hst : ((u74.1.1, u74.1.2.1, u74.1.2.2.1, u74.1.2.2.2.1, u74.1.2.2.2.2), (u74.2.1.1, u74.2.1.2.1, u74.2.1.2.2.1, u74.2.1.2.2.2.1, u74.2.1.2.2.2.2), (u74.2.2.1.1, u74.2.2.1.2.1, u74.2.2.1.2.2.1, u74.2.2.1.2.2.2.1, u74.2.2.1.2.2.2.2), (u74.2.2.2.1.1, u74.2.2.2.1.2.1, u74.2.2.2.1.2.2.1, u74.2.2.2.1.2.2.2.1, (u74.2.2.2.1.2.2.2.2 + 0)), (u74.2.2.2.2.1.1, u74.2.2.2.2.1.2.1, u74.2.2.2.2.1.2.2.1, u74.2.2.2.2.1.2.2.2.1, u74.2.2.2.2.1.2.2.2.2), (u74.2.2.2.2.2.1, u74.2.2.2.2.2.2.1, u74.2.2.2.2.2.2.2.1, u74.2.2.2.2.2.2.2.2.1, u74.2.2.2.2.2.2.2.2.2)) = md_step N := by
                    unfold md_step md_fin; (first | rw [if_pos h63] | rw [if_neg h63]); (try rw [← e_r74]); (try rw [← w74]); (first | rw [if_pos h84] | rw [if_neg h84]); rfl
                  rw [hst] at hP hD
                  exact ih (i + 1) (md_step N) _ _ _ (by omega) (by exact hJ2 i N (by omega) hJ h56) (by rw [hq, md_runN, if_pos h56]) (lv_sub hl [0, 2, 3] rfl) hP hD hS
              · refine lv_aload_n hx hb d_Model_run_66 rfl (lv_at hl 1 rfl) ?_
                refine lm_vi (b := ad 0) (As := []) (rest := []) (wr := ([] : va_W)) ⟨hx, hb, hml, hown, hts⟩ hK hP hD hS hA [0, 1, 2, 3, 4, 5, 6, 7, 8, 9, 10, 11, 12, 13, 14, 15] [] rfl rfl (by decide) (by decide) (by decide) (c_Model_returns l dC dI cA cZ ad _ N  (by exact (hJ1 i N (by omega) hJ h56).2 h63)) (cwV 0 hts (lm_gV m_16_5 m_16_6 m_20_4 m_0_5 m_16_7) rfl rfl rfl (by decide +kernel) ⟨Nat.le_of_ble_eq_true rfl, Nat.le_of_ble_eq_true rfl⟩) (va_recv (q0 := 0) hK hP rfl rfl) lm_bl_no (fun _ _ _ => trivial) hl.1 rfl rfl (Nat.le_of_ble_eq_true rfl) d_Model_run_67 ⟨Nat.le_of_ble_eq_true rfl, Nat.le_of_ble_eq_true rfl⟩ (fun r67 u67 H locs w67 hP hD hS => ?_)
                obtain ⟨e_r67, w67⟩ := w67
                have hP : va_P (dC, dI) classes (mr_W cA cZ ad u67) H := hP
                have hD : va_D A (mr_W cA cZ ad u67) := hD
                refine lv_goto hx hb d_Model_run_70 rfl ?_
                refine lv_istore_n (lv' := [(3, .int r67), (2, .int (nI i)), (0, .ref (ad 0)), (1, .int x)]) hx hb d_Model_run_77 rfl hl (by decide) rfl (fun ls hl => ?_)
                refine lv_aload_n hx hb d_Model_run_78 rfl (lv_at hl 2 rfl) ?_
                refine lv_dup hx hb d_Model_run_79 rfl ?_
                refine va_get (D := (dC, dI)) (ci := 4) (v := .int u67.2.2.2.1.2.2.2.2) (C := R_Model) (T := F_Model) (N := 30) hx hb hts (fun q hq => List.mem_cons_of_mem _ (i_Model q hq)) hown hK hP 0 rfl rfl 22 (by decide) (hts _ (List.mem_cons_of_mem _ m_14_15)) (fun _ h9 => h9) rfl d_Model_run_80 ?_
                refine lv_iload_n hx hb d_Model_run_83 rfl (lv_at hl 0 rfl) ?_
                refine lv_if_eq hx hb d_Model_run_84 rfl (fun h84 => ?_) (fun h84 => ?_)
                · refine lv_iconst (v := 1) hx hb d_Model_run_91 (by decide) ?_
                  refine lv_iadd hx hb d_Model_run_92 ?_
                  refine va_put (D := (dC, dI)) (ci := 4) (v := .int (u67.2.2.2.1.2.2.2.2 + 1)) (ty := .int) (C := R_Model) (T := F_Model) (N := 30) hx hb hts (fun q hq => List.mem_cons_of_mem _ (i_Model q hq)) t_Model t_Model_ok n_Model hown hK hP hD hS 0 rfl rfl 22 (by decide) (hts _ (List.mem_cons_of_mem _ m_14_15)) (fun _ h9 => h9) rfl (by decide +kernel) rfl rfl (Nat.le_of_ble_eq_true rfl) d_Model_run_93 (fun H locs hP hD hS => ?_)
                  have hP : va_P (dC, dI) classes (mr_W cA cZ ad ((u67.1.1, u67.1.2.1, u67.1.2.2.1, u67.1.2.2.2.1, u67.1.2.2.2.2), (u67.2.1.1, u67.2.1.2.1, u67.2.1.2.2.1, u67.2.1.2.2.2.1, u67.2.1.2.2.2.2), (u67.2.2.1.1, u67.2.2.1.2.1, u67.2.2.1.2.2.1, u67.2.2.1.2.2.2.1, u67.2.2.1.2.2.2.2), (u67.2.2.2.1.1, u67.2.2.2.1.2.1, u67.2.2.2.1.2.2.1, u67.2.2.2.1.2.2.2.1, (u67.2.2.2.1.2.2.2.2 + 1)), (u67.2.2.2.2.1.1, u67.2.2.2.2.1.2.1, u67.2.2.2.2.1.2.2.1, u67.2.2.2.2.1.2.2.2.1, u67.2.2.2.2.1.2.2.2.2), (u67.2.2.2.2.2.1, u67.2.2.2.2.2.2.1, u67.2.2.2.2.2.2.2.1, u67.2.2.2.2.2.2.2.2.1, u67.2.2.2.2.2.2.2.2.2))) H := hP
                  have hD : va_D A (mr_W cA cZ ad ((u67.1.1, u67.1.2.1, u67.1.2.2.1, u67.1.2.2.2.1, u67.1.2.2.2.2), (u67.2.1.1, u67.2.1.2.1, u67.2.1.2.2.1, u67.2.1.2.2.2.1, u67.2.1.2.2.2.2), (u67.2.2.1.1, u67.2.2.1.2.1, u67.2.2.1.2.2.1, u67.2.2.1.2.2.2.1, u67.2.2.1.2.2.2.2), (u67.2.2.2.1.1, u67.2.2.2.1.2.1, u67.2.2.2.1.2.2.1, u67.2.2.2.1.2.2.2.1, (u67.2.2.2.1.2.2.2.2 + 1)), (u67.2.2.2.2.1.1, u67.2.2.2.2.1.2.1, u67.2.2.2.2.1.2.2.1, u67.2.2.2.2.1.2.2.2.1, u67.2.2.2.2.1.2.2.2.2), (u67.2.2.2.2.2.1, u67.2.2.2.2.2.2.1, u67.2.2.2.2.2.2.2.1, u67.2.2.2.2.2.2.2.2.1, u67.2.2.2.2.2.2.2.2.2))) := hD
                  refine lv_iinc (k := 1) (v := (nI (i + 1))) (lv' := [(2, .int (nI (i + 1))), (3, .int r67), (0, .ref (ad 0)), (1, .int x)]) hx hb d_Model_run_96 hl rfl ((nI_succ i).symm) (by decide) rfl (fun ls hl => ?_)
                  refine lv_goto hx hb d_Model_run_99 rfl ?_
                  have hst : ((u67.1.1, u67.1.2.1, u67.1.2.2.1, u67.1.2.2.2.1, u67.1.2.2.2.2), (u67.2.1.1, u67.2.1.2.1, u67.2.1.2.2.1, u67.2.1.2.2.2.1, u67.2.1.2.2.2.2), (u67.2.2.1.1, u67.2.2.1.2.1, u67.2.2.1.2.2.1, u67.2.2.1.2.2.2.1, u67.2.2.1.2.2.2.2), (u67.2.2.2.1.1, u67.2.2.2.1.2.1, u67.2.2.2.1.2.2.1, u67.2.2.2.1.2.2.2.1, (u67.2.2.2.1.2.2.2.2 + 1)), (u67.2.2.2.2.1.1, u67.2.2.2.2.1.2.1, u67.2.2.2.2.1.2.2.1, u67.2.2.2.2.1.2.2.2.1, u67.2.2.2.2.1.2.2.2.2), (u67.2.2.2.2.2.1, u67.2.2.2.2.2.2.1, u67.2.2.2.2.2.2.2.1, u67.2.2.2.2.2.2.2.2.1, u67.2.2.2.2.2.2.2.2.2)) = md_step N := by
                    unfold md_step md_fin; (first | rw [if_pos h63] | rw [if_neg h63]); (try rw [← e_r67]); (try rw [← w67]); (first | rw [if_pos h84] | rw [if_neg h84]); rfl
                  rw [hst] at hP hD
                  exact ih (i + 1) (md_step N) _ _ _ (by omega) (by exact hJ2 i N (by omega) hJ h56) (by rw [hq, md_runN, if_pos h56]) (lv_sub hl [0, 2, 3] rfl) hP hD hS
                · refine lv_iconst (v := 0) hx hb d_Model_run_87 (by decide) ?_
                  refine lv_goto hx hb d_Model_run_88 rfl ?_
                  refine lv_iadd hx hb d_Model_run_92 ?_
                  refine va_put (D := (dC, dI)) (ci := 4) (v := .int (u67.2.2.2.1.2.2.2.2 + 0)) (ty := .int) (C := R_Model) (T := F_Model) (N := 30) hx hb hts (fun q hq => List.mem_cons_of_mem _ (i_Model q hq)) t_Model t_Model_ok n_Model hown hK hP hD hS 0 rfl rfl 22 (by decide) (hts _ (List.mem_cons_of_mem _ m_14_15)) (fun _ h9 => h9) rfl (by decide +kernel) rfl rfl (Nat.le_of_ble_eq_true rfl) d_Model_run_93 (fun H locs hP hD hS => ?_)
                  have hP : va_P (dC, dI) classes (mr_W cA cZ ad ((u67.1.1, u67.1.2.1, u67.1.2.2.1, u67.1.2.2.2.1, u67.1.2.2.2.2), (u67.2.1.1, u67.2.1.2.1, u67.2.1.2.2.1, u67.2.1.2.2.2.1, u67.2.1.2.2.2.2), (u67.2.2.1.1, u67.2.2.1.2.1, u67.2.2.1.2.2.1, u67.2.2.1.2.2.2.1, u67.2.2.1.2.2.2.2), (u67.2.2.2.1.1, u67.2.2.2.1.2.1, u67.2.2.2.1.2.2.1, u67.2.2.2.1.2.2.2.1, (u67.2.2.2.1.2.2.2.2 + 0)), (u67.2.2.2.2.1.1, u67.2.2.2.2.1.2.1, u67.2.2.2.2.1.2.2.1, u67.2.2.2.2.1.2.2.2.1, u67.2.2.2.2.1.2.2.2.2), (u67.2.2.2.2.2.1, u67.2.2.2.2.2.2.1, u67.2.2.2.2.2.2.2.1, u67.2.2.2.2.2.2.2.2.1, u67.2.2.2.2.2.2.2.2.2))) H := hP
                  have hD : va_D A (mr_W cA cZ ad ((u67.1.1, u67.1.2.1, u67.1.2.2.1, u67.1.2.2.2.1, u67.1.2.2.2.2), (u67.2.1.1, u67.2.1.2.1, u67.2.1.2.2.1, u67.2.1.2.2.2.1, u67.2.1.2.2.2.2), (u67.2.2.1.1, u67.2.2.1.2.1, u67.2.2.1.2.2.1, u67.2.2.1.2.2.2.1, u67.2.2.1.2.2.2.2), (u67.2.2.2.1.1, u67.2.2.2.1.2.1, u67.2.2.2.1.2.2.1, u67.2.2.2.1.2.2.2.1, (u67.2.2.2.1.2.2.2.2 + 0)), (u67.2.2.2.2.1.1, u67.2.2.2.2.1.2.1, u67.2.2.2.2.1.2.2.1, u67.2.2.2.2.1.2.2.2.1, u67.2.2.2.2.1.2.2.2.2), (u67.2.2.2.2.2.1, u67.2.2.2.2.2.2.1, u67.2.2.2.2.2.2.2.1, u67.2.2.2.2.2.2.2.2.1, u67.2.2.2.2.2.2.2.2.2))) := hD
                  refine lv_iinc (k := 1) (v := (nI (i + 1))) (lv' := [(2, .int (nI (i + 1))), (3, .int r67), (0, .ref (ad 0)), (1, .int x)]) hx hb d_Model_run_96 hl rfl ((nI_succ i).symm) (by decide) rfl (fun ls hl => ?_)
                  refine lv_goto hx hb d_Model_run_99 rfl ?_
                  have hst : ((u67.1.1, u67.1.2.1, u67.1.2.2.1, u67.1.2.2.2.1, u67.1.2.2.2.2), (u67.2.1.1, u67.2.1.2.1, u67.2.1.2.2.1, u67.2.1.2.2.2.1, u67.2.1.2.2.2.2), (u67.2.2.1.1, u67.2.2.1.2.1, u67.2.2.1.2.2.1, u67.2.2.1.2.2.2.1, u67.2.2.1.2.2.2.2), (u67.2.2.2.1.1, u67.2.2.2.1.2.1, u67.2.2.2.1.2.2.1, u67.2.2.2.1.2.2.2.1, (u67.2.2.2.1.2.2.2.2 + 0)), (u67.2.2.2.2.1.1, u67.2.2.2.2.1.2.1, u67.2.2.2.2.1.2.2.1, u67.2.2.2.2.1.2.2.2.1, u67.2.2.2.2.1.2.2.2.2), (u67.2.2.2.2.2.1, u67.2.2.2.2.2.2.1, u67.2.2.2.2.2.2.2.1, u67.2.2.2.2.2.2.2.2.1, u67.2.2.2.2.2.2.2.2.2)) = md_step N := by
                    unfold md_step md_fin; (first | rw [if_pos h63] | rw [if_neg h63]); (try rw [← e_r67]); (try rw [← w67]); (first | rw [if_pos h84] | rw [if_neg h84]); rfl
                  rw [hst] at hP hD
                  exact ih (i + 1) (md_step N) _ _ _ (by omega) (by exact hJ2 i N (by omega) hJ h56) (by rw [hq, md_runN, if_pos h56]) (lv_sub hl [0, 2, 3] rfl) hP hD hS
        exact loop k 0 ((aso, axs, ato, 0, asi), (asr, anu, ach, aow, aar), (ais, aon, atw, awh, afi), (ase, afr, amo, ass, asp), (afo, aba, ano, aen, avs), (avo, avt, are, atd, ale)) _ _ _ (by omega) (by exact hJ0 h5 h21 h28) (by rfl) hl hP hD hS
      · refine lv_iconst (v := 1) hx hb d_Model_run_31 (by decide) ?_
        refine lv_goto hx hb d_Model_run_32 rfl ?_
        refine lm_vi (b := ad 0) (As := [.int 0, .int 1]) (rest := []) (wr := ([] : va_W)) ⟨hx, hb, hml, hown, hts⟩ hK hP hD hS hA [0, 1, 2, 3, 4, 5, 6, 7, 8, 9, 10, 11, 12, 13, 14, 15] [] rfl rfl (by decide) (by decide) (by decide) (c_Model_fails l dC dI cA cZ ad _ ((aso, axs, ato, ath, asi), (asr, anu, ach, aow, aar), (ais, aon, atw, awh, afi), (ase, afr, amo, ass, asp), (afo, aba, ano, aen, avs), (avo, avt, are, atd, ale)) 0 1 ) (cwV 2 hts (lm_gV m_15_8 m_15_9 m_20_2 m_0_5 m_15_10) rfl rfl rfl (by decide +kernel) ⟨Nat.le_of_ble_eq_true rfl, Nat.le_of_ble_eq_true rfl⟩) (va_recv (q0 := 0) hK hP rfl rfl) lm_bl_no (fun _ _ _ => trivial) hl.1 rfl rfl (Nat.le_of_ble_eq_true rfl) d_Model_run_36 ⟨Nat.le_of_ble_eq_true rfl, Nat.le_of_ble_eq_true rfl⟩ (fun r36 u36 H locs w36 hP hD hS => ?_)
        obtain ⟨e_r36, w36⟩ := w36
        have e_r36 : r36 = 1 := e_r36
        replace e_r36 := e_r36.symm
        subst e_r36
        have w36 : u36 = ((aso, axs, ato, 2, asi), (asr, anu, ach, aow, aar), (ais, aon, atw, awh, afi), (ase, afr, amo, ass, asp), (afo, aba, ano, aen, avs), (avo, avt, are, atd, ale)) := w36
        replace w36 := w36.symm
        subst w36
        have hP : va_P (dC, dI) classes (mr_W cA cZ ad ((aso, axs, ato, 2, asi), (asr, anu, ach, aow, aar), (ais, aon, atw, awh, afi), (ase, afr, amo, ass, asp), (afo, aba, ano, aen, avs), (avo, avt, are, atd, ale))) H := hP
        have hD : va_D A (mr_W cA cZ ad ((aso, axs, ato, 2, asi), (asr, anu, ach, aow, aar), (ais, aon, atw, awh, afi), (ase, afr, amo, ass, asp), (afo, aba, ano, aen, avs), (avo, avt, are, atd, ale))) := hD
        refine lv_if_eq hx hb d_Model_run_39 rfl (fun h39 => by exact absurd h39 (by decide)) (fun h39 => ?_)
        refine lv_iconst (v := 0) hx hb d_Model_run_42 (by decide) ?_
        refine lm_ri (v := 0) hx hb hr hlocks ((aso, axs, ato, 2, asi), (asr, anu, ach, aow, aar), (ais, aon, atw, awh, afi), (ase, afr, amo, ass, asp), (afo, aba, ano, aen, avs), (avo, avt, are, atd, ale)) ?_ hP hK hD hS d_Model_run_43
        unfold md_run; rw [if_neg h5]; (first | rw [if_pos h21] | rw [if_neg h21]); (first | rw [if_pos h28] | rw [if_neg h28]); exact ⟨rfl, rfl⟩
  · refine lv_iconst (v := 1) hx hb d_Model_run_8 (by decide) ?_
    refine lv_goto hx hb d_Model_run_9 rfl ?_
    refine lv_aload_n hx hb d_Model_run_13 rfl (lv_at hl 0 rfl) ?_
    refine va_get (D := (dC, dI)) (ci := 4) (v := .int ass) (C := R_Model) (T := F_Model) (N := 30) hx hb hts (fun q hq => List.mem_cons_of_mem _ (i_Model q hq)) hown hK hP 0 rfl rfl 21 (by decide) (hts _ (List.mem_cons_of_mem _ m_14_14)) (fun _ h9 => h9) rfl d_Model_run_14 ?_
    refine lv_if_le hx hb d_Model_run_17 rfl (fun h17 => ?_) (fun h17 => ?_)
    · refine lv_iconst (v := 0) hx hb d_Model_run_35 (by decide) ?_
      refine lm_vi (b := ad 0) (As := [.int 1, .int 0]) (rest := []) (wr := ([] : va_W)) ⟨hx, hb, hml, hown, hts⟩ hK hP hD hS hA [0, 1, 2, 3, 4, 5, 6, 7, 8, 9, 10, 11, 12, 13, 14, 15] [] rfl rfl (by decide) (by decide) (by decide) (c_Model_fails l dC dI cA cZ ad _ ((aso, axs, ato, ath, asi), (asr, anu, ach, aow, aar), (ais, aon, atw, awh, afi), (ase, afr, amo, ass, asp), (afo, aba, ano, aen, avs), (avo, avt, are, atd, ale)) 1 0 ) (cwV 2 hts (lm_gV m_15_8 m_15_9 m_20_2 m_0_5 m_15_10) rfl rfl rfl (by decide +kernel) ⟨Nat.le_of_ble_eq_true rfl, Nat.le_of_ble_eq_true rfl⟩) (va_recv (q0 := 0) hK hP rfl rfl) lm_bl_no (fun _ _ _ => trivial) hl.1 rfl rfl (Nat.le_of_ble_eq_true rfl) d_Model_run_36 ⟨Nat.le_of_ble_eq_true rfl, Nat.le_of_ble_eq_true rfl⟩ (fun r36 u36 H locs w36 hP hD hS => ?_)
      obtain ⟨e_r36, w36⟩ := w36
      have e_r36 : r36 = 1 := e_r36
      replace e_r36 := e_r36.symm
      subst e_r36
      have w36 : u36 = ((aso, axs, ato, 1, asi), (asr, anu, ach, aow, aar), (ais, aon, atw, awh, afi), (ase, afr, amo, ass, asp), (afo, aba, ano, aen, avs), (avo, avt, are, atd, ale)) := w36
      replace w36 := w36.symm
      subst w36
      have hP : va_P (dC, dI) classes (mr_W cA cZ ad ((aso, axs, ato, 1, asi), (asr, anu, ach, aow, aar), (ais, aon, atw, awh, afi), (ase, afr, amo, ass, asp), (afo, aba, ano, aen, avs), (avo, avt, are, atd, ale))) H := hP
      have hD : va_D A (mr_W cA cZ ad ((aso, axs, ato, 1, asi), (asr, anu, ach, aow, aar), (ais, aon, atw, awh, afi), (ase, afr, amo, ass, asp), (afo, aba, ano, aen, avs), (avo, avt, are, atd, ale))) := hD
      refine lv_if_eq hx hb d_Model_run_39 rfl (fun h39 => by exact absurd h39 (by decide)) (fun h39 => ?_)
      refine lv_iconst (v := 0) hx hb d_Model_run_42 (by decide) ?_
      refine lm_ri (v := 0) hx hb hr hlocks ((aso, axs, ato, 1, asi), (asr, anu, ach, aow, aar), (ais, aon, atw, awh, afi), (ase, afr, amo, ass, asp), (afo, aba, ano, aen, avs), (avo, avt, are, atd, ale)) ?_ hP hK hD hS d_Model_run_43
      unfold md_run; rw [if_pos h5]; exact ⟨rfl, rfl⟩
    · refine lv_iload_n hx hb d_Model_run_20 rfl (lv_at hl 1 rfl) ?_
      refine lv_if_lt hx hb d_Model_run_21 rfl (fun h21 => ?_) (fun h21 => ?_)
      · refine lv_iconst (v := 1) hx hb d_Model_run_31 (by decide) ?_
        refine lv_goto hx hb d_Model_run_32 rfl ?_
        refine lm_vi (b := ad 0) (As := [.int 1, .int 1]) (rest := []) (wr := ([] : va_W)) ⟨hx, hb, hml, hown, hts⟩ hK hP hD hS hA [0, 1, 2, 3, 4, 5, 6, 7, 8, 9, 10, 11, 12, 13, 14, 15] [] rfl rfl (by decide) (by decide) (by decide) (c_Model_fails l dC dI cA cZ ad _ ((aso, axs, ato, ath, asi), (asr, anu, ach, aow, aar), (ais, aon, atw, awh, afi), (ase, afr, amo, ass, asp), (afo, aba, ano, aen, avs), (avo, avt, are, atd, ale)) 1 1 ) (cwV 2 hts (lm_gV m_15_8 m_15_9 m_20_2 m_0_5 m_15_10) rfl rfl rfl (by decide +kernel) ⟨Nat.le_of_ble_eq_true rfl, Nat.le_of_ble_eq_true rfl⟩) (va_recv (q0 := 0) hK hP rfl rfl) lm_bl_no (fun _ _ _ => trivial) hl.1 rfl rfl (Nat.le_of_ble_eq_true rfl) d_Model_run_36 ⟨Nat.le_of_ble_eq_true rfl, Nat.le_of_ble_eq_true rfl⟩ (fun r36 u36 H locs w36 hP hD hS => ?_)
        obtain ⟨e_r36, w36⟩ := w36
        have e_r36 : r36 = 1 := e_r36
        replace e_r36 := e_r36.symm
        subst e_r36
        have w36 : u36 = ((aso, axs, ato, 1, asi), (asr, anu, ach, aow, aar), (ais, aon, atw, awh, afi), (ase, afr, amo, ass, asp), (afo, aba, ano, aen, avs), (avo, avt, are, atd, ale)) := w36
        replace w36 := w36.symm
        subst w36
        have hP : va_P (dC, dI) classes (mr_W cA cZ ad ((aso, axs, ato, 1, asi), (asr, anu, ach, aow, aar), (ais, aon, atw, awh, afi), (ase, afr, amo, ass, asp), (afo, aba, ano, aen, avs), (avo, avt, are, atd, ale))) H := hP
        have hD : va_D A (mr_W cA cZ ad ((aso, axs, ato, 1, asi), (asr, anu, ach, aow, aar), (ais, aon, atw, awh, afi), (ase, afr, amo, ass, asp), (afo, aba, ano, aen, avs), (avo, avt, are, atd, ale))) := hD
        refine lv_if_eq hx hb d_Model_run_39 rfl (fun h39 => by exact absurd h39 (by decide)) (fun h39 => ?_)
        refine lv_iconst (v := 0) hx hb d_Model_run_42 (by decide) ?_
        refine lm_ri (v := 0) hx hb hr hlocks ((aso, axs, ato, 1, asi), (asr, anu, ach, aow, aar), (ais, aon, atw, awh, afi), (ase, afr, amo, ass, asp), (afo, aba, ano, aen, avs), (avo, avt, are, atd, ale)) ?_ hP hK hD hS d_Model_run_43
        unfold md_run; rw [if_pos h5]; exact ⟨rfl, rfl⟩
      · refine lv_iload_n hx hb d_Model_run_24 rfl (lv_at hl 1 rfl) ?_
        refine lv_sipush (v := 5000) hx hb d_Model_run_25 (by decide) ?_
        refine lv_icmp_le hx hb d_Model_run_28 rfl (fun h28 => ?_) (fun h28 => ?_)
        · refine lv_iconst (v := 0) hx hb d_Model_run_35 (by decide) ?_
          refine lm_vi (b := ad 0) (As := [.int 1, .int 0]) (rest := []) (wr := ([] : va_W)) ⟨hx, hb, hml, hown, hts⟩ hK hP hD hS hA [0, 1, 2, 3, 4, 5, 6, 7, 8, 9, 10, 11, 12, 13, 14, 15] [] rfl rfl (by decide) (by decide) (by decide) (c_Model_fails l dC dI cA cZ ad _ ((aso, axs, ato, ath, asi), (asr, anu, ach, aow, aar), (ais, aon, atw, awh, afi), (ase, afr, amo, ass, asp), (afo, aba, ano, aen, avs), (avo, avt, are, atd, ale)) 1 0 ) (cwV 2 hts (lm_gV m_15_8 m_15_9 m_20_2 m_0_5 m_15_10) rfl rfl rfl (by decide +kernel) ⟨Nat.le_of_ble_eq_true rfl, Nat.le_of_ble_eq_true rfl⟩) (va_recv (q0 := 0) hK hP rfl rfl) lm_bl_no (fun _ _ _ => trivial) hl.1 rfl rfl (Nat.le_of_ble_eq_true rfl) d_Model_run_36 ⟨Nat.le_of_ble_eq_true rfl, Nat.le_of_ble_eq_true rfl⟩ (fun r36 u36 H locs w36 hP hD hS => ?_)
          obtain ⟨e_r36, w36⟩ := w36
          have e_r36 : r36 = 1 := e_r36
          replace e_r36 := e_r36.symm
          subst e_r36
          have w36 : u36 = ((aso, axs, ato, 1, asi), (asr, anu, ach, aow, aar), (ais, aon, atw, awh, afi), (ase, afr, amo, ass, asp), (afo, aba, ano, aen, avs), (avo, avt, are, atd, ale)) := w36
          replace w36 := w36.symm
          subst w36
          have hP : va_P (dC, dI) classes (mr_W cA cZ ad ((aso, axs, ato, 1, asi), (asr, anu, ach, aow, aar), (ais, aon, atw, awh, afi), (ase, afr, amo, ass, asp), (afo, aba, ano, aen, avs), (avo, avt, are, atd, ale))) H := hP
          have hD : va_D A (mr_W cA cZ ad ((aso, axs, ato, 1, asi), (asr, anu, ach, aow, aar), (ais, aon, atw, awh, afi), (ase, afr, amo, ass, asp), (afo, aba, ano, aen, avs), (avo, avt, are, atd, ale))) := hD
          refine lv_if_eq hx hb d_Model_run_39 rfl (fun h39 => by exact absurd h39 (by decide)) (fun h39 => ?_)
          refine lv_iconst (v := 0) hx hb d_Model_run_42 (by decide) ?_
          refine lm_ri (v := 0) hx hb hr hlocks ((aso, axs, ato, 1, asi), (asr, anu, ach, aow, aar), (ais, aon, atw, awh, afi), (ase, afr, amo, ass, asp), (afo, aba, ano, aen, avs), (avo, avt, are, atd, ale)) ?_ hP hK hD hS d_Model_run_43
          unfold md_run; rw [if_pos h5]; exact ⟨rfl, rfl⟩
        · refine lv_iconst (v := 1) hx hb d_Model_run_31 (by decide) ?_
          refine lv_goto hx hb d_Model_run_32 rfl ?_
          refine lm_vi (b := ad 0) (As := [.int 1, .int 1]) (rest := []) (wr := ([] : va_W)) ⟨hx, hb, hml, hown, hts⟩ hK hP hD hS hA [0, 1, 2, 3, 4, 5, 6, 7, 8, 9, 10, 11, 12, 13, 14, 15] [] rfl rfl (by decide) (by decide) (by decide) (c_Model_fails l dC dI cA cZ ad _ ((aso, axs, ato, ath, asi), (asr, anu, ach, aow, aar), (ais, aon, atw, awh, afi), (ase, afr, amo, ass, asp), (afo, aba, ano, aen, avs), (avo, avt, are, atd, ale)) 1 1 ) (cwV 2 hts (lm_gV m_15_8 m_15_9 m_20_2 m_0_5 m_15_10) rfl rfl rfl (by decide +kernel) ⟨Nat.le_of_ble_eq_true rfl, Nat.le_of_ble_eq_true rfl⟩) (va_recv (q0 := 0) hK hP rfl rfl) lm_bl_no (fun _ _ _ => trivial) hl.1 rfl rfl (Nat.le_of_ble_eq_true rfl) d_Model_run_36 ⟨Nat.le_of_ble_eq_true rfl, Nat.le_of_ble_eq_true rfl⟩ (fun r36 u36 H locs w36 hP hD hS => ?_)
          obtain ⟨e_r36, w36⟩ := w36
          have e_r36 : r36 = 1 := e_r36
          replace e_r36 := e_r36.symm
          subst e_r36
          have w36 : u36 = ((aso, axs, ato, 1, asi), (asr, anu, ach, aow, aar), (ais, aon, atw, awh, afi), (ase, afr, amo, ass, asp), (afo, aba, ano, aen, avs), (avo, avt, are, atd, ale)) := w36
          replace w36 := w36.symm
          subst w36
          have hP : va_P (dC, dI) classes (mr_W cA cZ ad ((aso, axs, ato, 1, asi), (asr, anu, ach, aow, aar), (ais, aon, atw, awh, afi), (ase, afr, amo, ass, asp), (afo, aba, ano, aen, avs), (avo, avt, are, atd, ale))) H := hP
          have hD : va_D A (mr_W cA cZ ad ((aso, axs, ato, 1, asi), (asr, anu, ach, aow, aar), (ais, aon, atw, awh, afi), (ase, afr, amo, ass, asp), (afo, aba, ano, aen, avs), (avo, avt, are, atd, ale))) := hD
          refine lv_if_eq hx hb d_Model_run_39 rfl (fun h39 => by exact absurd h39 (by decide)) (fun h39 => ?_)
          refine lv_iconst (v := 0) hx hb d_Model_run_42 (by decide) ?_
          refine lm_ri (v := 0) hx hb hr hlocks ((aso, axs, ato, 1, asi), (asr, anu, ach, aow, aar), (ais, aon, atw, awh, afi), (ase, afr, amo, ass, asp), (afo, aba, ano, aen, avs), (avo, avt, are, atd, ale)) ?_ hP hK hD hS d_Model_run_43
          unfold md_run; rw [if_pos h5]; exact ⟨rfl, rfl⟩
set_option maxHeartbeats 4000000 in
set_option maxRecDepth 100000 in
theorem c_Model_into (l : Launch) (dC : Nat → ClassId) (dI : Nat → Nat → Nat) (cA cZ : ClassId)  (ad : Nat → Nat) (sz : Nat) (S : ZNS) (x : Int32) (hv : r_ss S = 2 → r_vs S = 2 → vp_in (r_vo S) 256 ∧ vp_in (r_vt S) 256 ∧ r_fr S = 0) : Met l y_Model_into w_Model_into ({ frames := 3, cells := 0, slots := 0, locals := 65 } : Room) (va_Pc [.ref (ad 0), .int x] (lm_pre (dC, dI) classes [(cA, .int), (cZ, .boolean)] (mr_W cA cZ ad S) sz lm_no)) (va_Qi (fun (r : Int32) (u : ZNS) => r = (md_into S x).1 ∧ u = (md_into S x).2) (fun u => lm_at (dC, dI) classes [(cA, .int), (cZ, .boolean)] (va_A (mr_W cA cZ ad S) sz) (mr_W cA cZ ad u)) (va_A (mr_W cA cZ ad S) sz)) 0 0 (va_A (mr_W cA cZ ad S) sz) := by
  obtain ⟨⟨aso, axs, ato, ath, asi⟩, ⟨asr, anu, ach, aow, aar⟩, ⟨ais, aon, atw, awh, afi⟩, ⟨ase, afr, amo, ass, asp⟩, ⟨afo, aba, ano, aen, avs⟩, ⟨avo, avt, are, atd, ale⟩⟩ := S
  refine lm_met (fun A => va_Qi (fun (r : Int32) (u : ZNS) => r = (md_into ((aso, axs, ato, ath, asi), (asr, anu, ach, aow, aar), (ais, aon, atw, awh, afi), (ase, afr, amo, ass, asp), (afo, aba, ano, aen, avs), (avo, avt, are, atd, ale)) x).1 ∧ u = (md_into ((aso, axs, ato, ath, asi), (asr, anu, ach, aow, aar), (ais, aon, atw, awh, afi), (ase, afr, amo, ass, asp), (afo, aba, ano, aen, avs), (avo, avt, are, atd, ale)) x).2) (fun u => lm_at (dC, dI) classes [(cA, .int), (cZ, .boolean)] A (mr_W cA cZ ad u)) A) (by decide) rfl (Nat.le_of_ble_eq_true rfl) ?_
  intro p e s m below meth c A hx hb hr hts hown hlocks hname hml hK hP hD hA hE hsz hAe hS ls hl
  replace hl : lv_has ls 3 [(0, .ref (ad 0)), (1, .int x)] := hl
  clear hAe hsz
  refine lv_aload_n hx hb d_Model_into_0 rfl (lv_at hl 0 rfl) ?_
  refine va_get (D := (dC, dI)) (ci := 4) (v := .int ass) (C := R_Model) (T := F_Model) (N := 30) hx hb hts (fun q hq => List.mem_cons_of_mem _ (i_Model q hq)) hown hK hP 0 rfl rfl 21 (by decide) (hts _ (List.mem_cons_of_mem _ m_14_14)) (fun _ h9 => h9) rfl d_Model_into_1 ?_
  refine lv_iconst (v := 2) hx hb d_Model_into_4 (by decide) ?_
  refine lv_icmp_ne hx hb d_Model_into_5 rfl (fun h5 => ?_) (fun h5 => ?_)
  · refine lv_iconst (v := 0) hx hb d_Model_into_20 (by decide) ?_
    refine lv_istore_n (lv' := [(2, .int 0), (0, .ref (ad 0)), (1, .int x)]) hx hb d_Model_into_21 rfl hl (by decide) rfl (fun ls hl => ?_)
    refine lv_aload_n hx hb d_Model_into_22 rfl (lv_at hl 1 rfl) ?_
    refine lv_iload_n hx hb d_Model_into_23 rfl (lv_at hl 0 rfl) ?_
    refine lv_if_ne hx hb d_Model_into_24 rfl (fun h24 => by exact absurd h24 (by decide)) (fun h24 => ?_)
    refine lv_iconst (v := 1) hx hb d_Model_into_27 (by decide) ?_
    refine lv_goto hx hb d_Model_into_28 rfl ?_
    refine lv_iload_n hx hb d_Model_into_32 rfl (lv_at hl 0 rfl) ?_
    refine lv_if_eq hx hb d_Model_into_33 rfl (fun h33 => ?_) (fun h33 => by exact absurd h33 (by decide))
    refine lv_iconst (v := 0) hx hb d_Model_into_49 (by decide) ?_
    refine lm_vi (b := ad 0) (As := [.int 1, .int 0]) (rest := []) (wr := ([] : va_W)) ⟨hx, hb, hml, hown, hts⟩ hK hP hD hS hA [0, 1, 2, 3, 4, 5, 6, 7, 8, 9, 10, 11, 12, 13, 14, 15] [] rfl rfl (by decide) (by decide) (by decide) (c_Model_fails l dC dI cA cZ ad _ ((aso, axs, ato, ath, asi), (asr, anu, ach, aow, aar), (ais, aon, atw, awh, afi), (ase, afr, amo, ass, asp), (afo, aba, ano, aen, avs), (avo, avt, are, atd, ale)) 1 0 ) (cwV 2 hts (lm_gV m_15_8 m_15_9 m_20_2 m_0_5 m_15_10) rfl rfl rfl (by decide +kernel) ⟨Nat.le_of_ble_eq_true rfl, Nat.le_of_ble_eq_true rfl⟩) (va_recv (q0 := 0) hK hP rfl rfl) lm_bl_no (fun _ _ _ => trivial) hl.1 rfl rfl (Nat.le_of_ble_eq_true rfl) d_Model_into_50 ⟨Nat.le_of_ble_eq_true rfl, Nat.le_of_ble_eq_true rfl⟩ (fun r50 u50 H locs w50 hP hD hS => ?_)
    obtain ⟨e_r50, w50⟩ := w50
    have e_r50 : r50 = 1 := e_r50
    replace e_r50 := e_r50.symm
    subst e_r50
    have w50 : u50 = ((aso, axs, ato, 1, asi), (asr, anu, ach, aow, aar), (ais, aon, atw, awh, afi), (ase, afr, amo, ass, asp), (afo, aba, ano, aen, avs), (avo, avt, are, atd, ale)) := w50
    replace w50 := w50.symm
    subst w50
    have hP : va_P (dC, dI) classes (mr_W cA cZ ad ((aso, axs, ato, 1, asi), (asr, anu, ach, aow, aar), (ais, aon, atw, awh, afi), (ase, afr, amo, ass, asp), (afo, aba, ano, aen, avs), (avo, avt, are, atd, ale))) H := hP
    have hD : va_D A (mr_W cA cZ ad ((aso, axs, ato, 1, asi), (asr, anu, ach, aow, aar), (ais, aon, atw, awh, afi), (ase, afr, amo, ass, asp), (afo, aba, ano, aen, avs), (avo, avt, are, atd, ale))) := hD
    refine lv_if_eq hx hb d_Model_into_53 rfl (fun h53 => by exact absurd h53 (by decide)) (fun h53 => ?_)
    refine lv_iconst (v := 0) hx hb d_Model_into_56 (by decide) ?_
    refine lm_ri (v := 0) hx hb hr hlocks ((aso, axs, ato, 1, asi), (asr, anu, ach, aow, aar), (ais, aon, atw, awh, afi), (ase, afr, amo, ass, asp), (afo, aba, ano, aen, avs), (avo, avt, are, atd, ale)) ?_ hP hK hD hS d_Model_into_57
    unfold md_into; rw [if_neg (fun q => h5 q.1)]; exact ⟨rfl, rfl⟩
  · refine lv_aload_n hx hb d_Model_into_8 rfl (lv_at hl 0 rfl) ?_
    refine va_get (D := (dC, dI)) (ci := 4) (v := .int avs) (C := R_Model) (T := F_Model) (N := 30) hx hb hts (fun q hq => List.mem_cons_of_mem _ (i_Model q hq)) hown hK hP 0 rfl rfl 27 (by decide) (hts _ (List.mem_cons_of_mem _ m_14_20)) (fun _ h9 => h9) rfl d_Model_into_9 ?_
    refine lv_iconst (v := 2) hx hb d_Model_into_12 (by decide) ?_
    refine lv_icmp_ne hx hb d_Model_into_13 rfl (fun h13 => ?_) (fun h13 => ?_)
    · refine lv_iconst (v := 0) hx hb d_Model_into_20 (by decide) ?_
      refine lv_istore_n (lv' := [(2, .int 0), (0, .ref (ad 0)), (1, .int x)]) hx hb d_Model_into_21 rfl hl (by decide) rfl (fun ls hl => ?_)
      refine lv_aload_n hx hb d_Model_into_22 rfl (lv_at hl 1 rfl) ?_
      refine lv_iload_n hx hb d_Model_into_23 rfl (lv_at hl 0 rfl) ?_
      refine lv_if_ne hx hb d_Model_into_24 rfl (fun h24 => by exact absurd h24 (by decide)) (fun h24 => ?_)
      refine lv_iconst (v := 1) hx hb d_Model_into_27 (by decide) ?_
      refine lv_goto hx hb d_Model_into_28 rfl ?_
      refine lv_iload_n hx hb d_Model_into_32 rfl (lv_at hl 0 rfl) ?_
      refine lv_if_eq hx hb d_Model_into_33 rfl (fun h33 => ?_) (fun h33 => by exact absurd h33 (by decide))
      refine lv_iconst (v := 0) hx hb d_Model_into_49 (by decide) ?_
      refine lm_vi (b := ad 0) (As := [.int 1, .int 0]) (rest := []) (wr := ([] : va_W)) ⟨hx, hb, hml, hown, hts⟩ hK hP hD hS hA [0, 1, 2, 3, 4, 5, 6, 7, 8, 9, 10, 11, 12, 13, 14, 15] [] rfl rfl (by decide) (by decide) (by decide) (c_Model_fails l dC dI cA cZ ad _ ((aso, axs, ato, ath, asi), (asr, anu, ach, aow, aar), (ais, aon, atw, awh, afi), (ase, afr, amo, ass, asp), (afo, aba, ano, aen, avs), (avo, avt, are, atd, ale)) 1 0 ) (cwV 2 hts (lm_gV m_15_8 m_15_9 m_20_2 m_0_5 m_15_10) rfl rfl rfl (by decide +kernel) ⟨Nat.le_of_ble_eq_true rfl, Nat.le_of_ble_eq_true rfl⟩) (va_recv (q0 := 0) hK hP rfl rfl) lm_bl_no (fun _ _ _ => trivial) hl.1 rfl rfl (Nat.le_of_ble_eq_true rfl) d_Model_into_50 ⟨Nat.le_of_ble_eq_true rfl, Nat.le_of_ble_eq_true rfl⟩ (fun r50 u50 H locs w50 hP hD hS => ?_)
      obtain ⟨e_r50, w50⟩ := w50
      have e_r50 : r50 = 1 := e_r50
      replace e_r50 := e_r50.symm
      subst e_r50
      have w50 : u50 = ((aso, axs, ato, 1, asi), (asr, anu, ach, aow, aar), (ais, aon, atw, awh, afi), (ase, afr, amo, ass, asp), (afo, aba, ano, aen, avs), (avo, avt, are, atd, ale)) := w50
      replace w50 := w50.symm
      subst w50
      have hP : va_P (dC, dI) classes (mr_W cA cZ ad ((aso, axs, ato, 1, asi), (asr, anu, ach, aow, aar), (ais, aon, atw, awh, afi), (ase, afr, amo, ass, asp), (afo, aba, ano, aen, avs), (avo, avt, are, atd, ale))) H := hP
      have hD : va_D A (mr_W cA cZ ad ((aso, axs, ato, 1, asi), (asr, anu, ach, aow, aar), (ais, aon, atw, awh, afi), (ase, afr, amo, ass, asp), (afo, aba, ano, aen, avs), (avo, avt, are, atd, ale))) := hD
      refine lv_if_eq hx hb d_Model_into_53 rfl (fun h53 => by exact absurd h53 (by decide)) (fun h53 => ?_)
      refine lv_iconst (v := 0) hx hb d_Model_into_56 (by decide) ?_
      refine lm_ri (v := 0) hx hb hr hlocks ((aso, axs, ato, 1, asi), (asr, anu, ach, aow, aar), (ais, aon, atw, awh, afi), (ase, afr, amo, ass, asp), (afo, aba, ano, aen, avs), (avo, avt, are, atd, ale)) ?_ hP hK hD hS d_Model_into_57
      unfold md_into; rw [if_neg (fun q => h13 q.2)]; exact ⟨rfl, rfl⟩
    · refine lv_iconst (v := 1) hx hb d_Model_into_16 (by decide) ?_
      refine lv_goto hx hb d_Model_into_17 rfl ?_
      refine lv_istore_n (lv' := [(2, .int 1), (0, .ref (ad 0)), (1, .int x)]) hx hb d_Model_into_21 rfl hl (by decide) rfl (fun ls hl => ?_)
      refine lv_aload_n hx hb d_Model_into_22 rfl (lv_at hl 1 rfl) ?_
      refine lv_iload_n hx hb d_Model_into_23 rfl (lv_at hl 0 rfl) ?_
      refine lv_if_ne hx hb d_Model_into_24 rfl (fun h24 => ?_) (fun h24 => by exact absurd h24 (by decide))
      refine lv_iconst (v := 0) hx hb d_Model_into_31 (by decide) ?_
      refine lv_iload_n hx hb d_Model_into_32 rfl (lv_at hl 0 rfl) ?_
      refine lv_if_eq hx hb d_Model_into_33 rfl (fun h33 => by exact absurd h33 (by decide)) (fun h33 => ?_)
      refine lv_iload_n hx hb d_Model_into_36 rfl (lv_at hl 2 rfl) ?_
      refine lv_if_lt hx hb d_Model_into_37 rfl (fun h37 => ?_) (fun h37 => ?_)
      · refine lv_iconst (v := 1) hx hb d_Model_into_45 (by decide) ?_
        refine lv_goto hx hb d_Model_into_46 rfl ?_
        refine lm_vi (b := ad 0) (As := [.int 0, .int 1]) (rest := []) (wr := ([] : va_W)) ⟨hx, hb, hml, hown, hts⟩ hK hP hD hS hA [0, 1, 2, 3, 4, 5, 6, 7, 8, 9, 10, 11, 12, 13, 14, 15] [] rfl rfl (by decide) (by decide) (by decide) (c_Model_fails l dC dI cA cZ ad _ ((aso, axs, ato, ath, asi), (asr, anu, ach, aow, aar), (ais, aon, atw, awh, afi), (ase, afr, amo, ass, asp), (afo, aba, ano, aen, avs), (avo, avt, are, atd, ale)) 0 1 ) (cwV 2 hts (lm_gV m_15_8 m_15_9 m_20_2 m_0_5 m_15_10) rfl rfl rfl (by decide +kernel) ⟨Nat.le_of_ble_eq_true rfl, Nat.le_of_ble_eq_true rfl⟩) (va_recv (q0 := 0) hK hP rfl rfl) lm_bl_no (fun _ _ _ => trivial) hl.1 rfl rfl (Nat.le_of_ble_eq_true rfl) d_Model_into_50 ⟨Nat.le_of_ble_eq_true rfl, Nat.le_of_ble_eq_true rfl⟩ (fun r50 u50 H locs w50 hP hD hS => ?_)
        obtain ⟨e_r50, w50⟩ := w50
        have e_r50 : r50 = 1 := e_r50
        replace e_r50 := e_r50.symm
        subst e_r50
        have w50 : u50 = ((aso, axs, ato, 2, asi), (asr, anu, ach, aow, aar), (ais, aon, atw, awh, afi), (ase, afr, amo, ass, asp), (afo, aba, ano, aen, avs), (avo, avt, are, atd, ale)) := w50
        replace w50 := w50.symm
        subst w50
        have hP : va_P (dC, dI) classes (mr_W cA cZ ad ((aso, axs, ato, 2, asi), (asr, anu, ach, aow, aar), (ais, aon, atw, awh, afi), (ase, afr, amo, ass, asp), (afo, aba, ano, aen, avs), (avo, avt, are, atd, ale))) H := hP
        have hD : va_D A (mr_W cA cZ ad ((aso, axs, ato, 2, asi), (asr, anu, ach, aow, aar), (ais, aon, atw, awh, afi), (ase, afr, amo, ass, asp), (afo, aba, ano, aen, avs), (avo, avt, are, atd, ale))) := hD
        refine lv_if_eq hx hb d_Model_into_53 rfl (fun h53 => by exact absurd h53 (by decide)) (fun h53 => ?_)
        refine lv_iconst (v := 0) hx hb d_Model_into_56 (by decide) ?_
        refine lm_ri (v := 0) hx hb hr hlocks ((aso, axs, ato, 2, asi), (asr, anu, ach, aow, aar), (ais, aon, atw, awh, afi), (ase, afr, amo, ass, asp), (afo, aba, ano, aen, avs), (avo, avt, are, atd, ale)) ?_ hP hK hD hS d_Model_into_57
        unfold md_into; rw [if_pos ⟨h5, h13⟩]; (first | rw [if_pos h37] | rw [if_neg h37]); exact ⟨rfl, rfl⟩
      · refine lv_iload_n hx hb d_Model_into_40 rfl (lv_at hl 2 rfl) ?_
        refine lv_iconst (v := 1) hx hb d_Model_into_41 (by decide) ?_
        refine lv_icmp_le hx hb d_Model_into_42 rfl (fun h42 => ?_) (fun h42 => ?_)
        · refine lv_iconst (v := 0) hx hb d_Model_into_49 (by decide) ?_
          refine lm_vi (b := ad 0) (As := [.int 0, .int 0]) (rest := []) (wr := ([] : va_W)) ⟨hx, hb, hml, hown, hts⟩ hK hP hD hS hA [0, 1, 2, 3, 4, 5, 6, 7, 8, 9, 10, 11, 12, 13, 14, 15] [] rfl rfl (by decide) (by decide) (by decide) (c_Model_fails l dC dI cA cZ ad _ ((aso, axs, ato, ath, asi), (asr, anu, ach, aow, aar), (ais, aon, atw, awh, afi), (ase, afr, amo, ass, asp), (afo, aba, ano, aen, avs), (avo, avt, are, atd, ale)) 0 0 ) (cwV 2 hts (lm_gV m_15_8 m_15_9 m_20_2 m_0_5 m_15_10) rfl rfl rfl (by decide +kernel) ⟨Nat.le_of_ble_eq_true rfl, Nat.le_of_ble_eq_true rfl⟩) (va_recv (q0 := 0) hK hP rfl rfl) lm_bl_no (fun _ _ _ => trivial) hl.1 rfl rfl (Nat.le_of_ble_eq_true rfl) d_Model_into_50 ⟨Nat.le_of_ble_eq_true rfl, Nat.le_of_ble_eq_true rfl⟩ (fun r50 u50 H locs w50 hP hD hS => ?_)
          obtain ⟨e_r50, w50⟩ := w50
          have e_r50 : r50 = 0 := e_r50
          replace e_r50 := e_r50.symm
          subst e_r50
          have w50 : u50 = ((aso, axs, ato, 0, asi), (asr, anu, ach, aow, aar), (ais, aon, atw, awh, afi), (ase, afr, amo, ass, asp), (afo, aba, ano, aen, avs), (avo, avt, are, atd, ale)) := w50
          replace w50 := w50.symm
          subst w50
          have hP : va_P (dC, dI) classes (mr_W cA cZ ad ((aso, axs, ato, 0, asi), (asr, anu, ach, aow, aar), (ais, aon, atw, awh, afi), (ase, afr, amo, ass, asp), (afo, aba, ano, aen, avs), (avo, avt, are, atd, ale))) H := hP
          have hD : va_D A (mr_W cA cZ ad ((aso, axs, ato, 0, asi), (asr, anu, ach, aow, aar), (ais, aon, atw, awh, afi), (ase, afr, amo, ass, asp), (afo, aba, ano, aen, avs), (avo, avt, are, atd, ale))) := hD
          refine lv_if_eq hx hb d_Model_into_53 rfl (fun h53 => ?_) (fun h53 => by exact absurd h53 (by decide))
          refine lv_aload_n hx hb d_Model_into_58 rfl (lv_at hl 1 rfl) ?_
          refine lv_iconst (v := 1) hx hb d_Model_into_59 (by decide) ?_
          refine va_put (D := (dC, dI)) (ci := 4) (v := .int 1) (ty := .int) (C := R_Model) (T := F_Model) (N := 30) hx hb hts (fun q hq => List.mem_cons_of_mem _ (i_Model q hq)) t_Model t_Model_ok n_Model hown hK hP hD hS 0 rfl rfl 21 (by decide) (hts _ (List.mem_cons_of_mem _ m_14_14)) (fun _ h9 => h9) rfl (by decide +kernel) rfl rfl (Nat.le_of_ble_eq_true rfl) d_Model_into_60 (fun H locs hP hD hS => ?_)
          have hP : va_P (dC, dI) classes (mr_W cA cZ ad ((aso, axs, ato, 0, asi), (asr, anu, ach, aow, aar), (ais, aon, atw, awh, afi), (ase, afr, amo, 1, asp), (afo, aba, ano, aen, avs), (avo, avt, are, atd, ale))) H := hP
          have hD : va_D A (mr_W cA cZ ad ((aso, axs, ato, 0, asi), (asr, anu, ach, aow, aar), (ais, aon, atw, awh, afi), (ase, afr, amo, 1, asp), (afo, aba, ano, aen, avs), (avo, avt, are, atd, ale))) := hD
          refine lv_aload_n hx hb d_Model_into_63 rfl (lv_at hl 1 rfl) ?_
          refine lv_iload_n hx hb d_Model_into_64 rfl (lv_at hl 2 rfl) ?_
          refine lv_if_ne hx hb d_Model_into_65 rfl (fun h65 => ?_) (fun h65 => ?_)
          · refine lv_aload_n hx hb d_Model_into_75 rfl (lv_at hl 1 rfl) ?_
            refine va_get (D := (dC, dI)) (ci := 4) (v := .int avt) (C := R_Model) (T := F_Model) (N := 30) hx hb hts (fun q hq => List.mem_cons_of_mem _ (i_Model q hq)) hown hK hP 0 rfl rfl 29 (by decide) (hts _ (List.mem_cons_of_mem _ m_14_22)) (fun _ h9 => h9) rfl d_Model_into_76 ?_
            refine lv_iconst (v := 1) hx hb d_Model_into_79 (by decide) ?_
            refine lm_vi (b := ad 0) (As := [.int avt, .int 1]) (rest := []) (wr := ([] : va_W)) ⟨hx, hb, hml, hown, hts⟩ hK hP hD hS hA [0, 1, 2, 3, 4, 5, 6, 7, 8, 9, 10, 11, 12, 13, 14, 15] [] rfl rfl (by decide) (by decide) (by decide) (c_Model_asks l dC dI cA cZ ad _ ((aso, axs, ato, 0, asi), (asr, anu, ach, aow, aar), (ais, aon, atw, awh, afi), (ase, afr, amo, 1, asp), (afo, aba, ano, aen, avs), (avo, avt, are, atd, ale)) avt 1 (by first | exact (hv h5 h13).1 | exact (hv h5 h13).2.1) (by exact ⟨0, by omega, (hv h5 h13).2.2, fun _ => by omega⟩)) (cwV 2 hts (lm_gV m_17_17 m_17_18 m_20_15 m_0_5 m_17_19) rfl rfl rfl (by decide +kernel) ⟨Nat.le_of_ble_eq_true rfl, Nat.le_of_ble_eq_true rfl⟩) (va_recv (q0 := 0) hK hP rfl rfl) lm_bl_no (fun _ _ _ => trivial) hl.1 rfl rfl (Nat.le_of_ble_eq_true rfl) d_Model_into_80 ⟨Nat.le_of_ble_eq_true rfl, Nat.le_of_ble_eq_true rfl⟩ (fun r80 u80 H locs w80 hP hD hS => ?_)
            obtain ⟨e_r80, w80⟩ := w80
            have hP : va_P (dC, dI) classes (mr_W cA cZ ad u80) H := hP
            have hD : va_D A (mr_W cA cZ ad u80) := hD
            have w80 : u80 = (md_asks (s_ss (s_th ((aso, axs, ato, ath, asi), (asr, anu, ach, aow, aar), (ais, aon, atw, awh, afi), (ase, afr, amo, ass, asp), (afo, aba, ano, aen, avs), (avo, avt, are, atd, ale)) 0) 1) _ 1).2 := w80
            refine lv_pop hx hb d_Model_into_83 rfl ?_
            refine lv_aload_n hx hb d_Model_into_84 rfl (lv_at hl 1 rfl) ?_
            refine va_get (D := (dC, dI)) (ci := 4) (v := .int u80.2.2.2.1.2.2.2.1) (C := R_Model) (T := F_Model) (N := 30) hx hb hts (fun q hq => List.mem_cons_of_mem _ (i_Model q hq)) hown hK hP 0 rfl rfl 21 (by decide) (hts _ (List.mem_cons_of_mem _ m_14_14)) (fun _ h9 => h9) rfl d_Model_into_85 ?_
            refine lm_ri (v := u80.2.2.2.1.2.2.2.1) hx hb hr hlocks u80 ?_ hP hK hD hS d_Model_into_88
            unfold md_into; rw [if_pos ⟨h5, h13⟩, if_neg h37, if_pos h42]; (first | rw [if_pos h65] | rw [if_neg h65]); rw [← w80]; exact ⟨rfl, rfl⟩
          · refine lv_aload_n hx hb d_Model_into_68 rfl (lv_at hl 1 rfl) ?_
            refine va_get (D := (dC, dI)) (ci := 4) (v := .int avo) (C := R_Model) (T := F_Model) (N := 30) hx hb hts (fun q hq => List.mem_cons_of_mem _ (i_Model q hq)) hown hK hP 0 rfl rfl 28 (by decide) (hts _ (List.mem_cons_of_mem _ m_14_21)) (fun _ h9 => h9) rfl d_Model_into_69 ?_
            refine lv_goto hx hb d_Model_into_72 rfl ?_
            refine lv_iconst (v := 1) hx hb d_Model_into_79 (by decide) ?_
            refine lm_vi (b := ad 0) (As := [.int avo, .int 1]) (rest := []) (wr := ([] : va_W)) ⟨hx, hb, hml, hown, hts⟩ hK hP hD hS hA [0, 1, 2, 3, 4, 5, 6, 7, 8, 9, 10, 11, 12, 13, 14, 15] [] rfl rfl (by decide) (by decide) (by decide) (c_Model_asks l dC dI cA cZ ad _ ((aso, axs, ato, 0, asi), (asr, anu, ach, aow, aar), (ais, aon, atw, awh, afi), (ase, afr, amo, 1, asp), (afo, aba, ano, aen, avs), (avo, avt, are, atd, ale)) avo 1 (by first | exact (hv h5 h13).1 | exact (hv h5 h13).2.1) (by exact ⟨0, by omega, (hv h5 h13).2.2, fun _ => by omega⟩)) (cwV 2 hts (lm_gV m_17_17 m_17_18 m_20_15 m_0_5 m_17_19) rfl rfl rfl (by decide +kernel) ⟨Nat.le_of_ble_eq_true rfl, Nat.le_of_ble_eq_true rfl⟩) (va_recv (q0 := 0) hK hP rfl rfl) lm_bl_no (fun _ _ _ => trivial) hl.1 rfl rfl (Nat.le_of_ble_eq_true rfl) d_Model_into_80 ⟨Nat.le_of_ble_eq_true rfl, Nat.le_of_ble_eq_true rfl⟩ (fun r80 u80 H locs w80 hP hD hS => ?_)
            obtain ⟨e_r80, w80⟩ := w80
            have hP : va_P (dC, dI) classes (mr_W cA cZ ad u80) H := hP
            have hD : va_D A (mr_W cA cZ ad u80) := hD
            have w80 : u80 = (md_asks (s_ss (s_th ((aso, axs, ato, ath, asi), (asr, anu, ach, aow, aar), (ais, aon, atw, awh, afi), (ase, afr, amo, ass, asp), (afo, aba, ano, aen, avs), (avo, avt, are, atd, ale)) 0) 1) _ 1).2 := w80
            refine lv_pop hx hb d_Model_into_83 rfl ?_
            refine lv_aload_n hx hb d_Model_into_84 rfl (lv_at hl 1 rfl) ?_
            refine va_get (D := (dC, dI)) (ci := 4) (v := .int u80.2.2.2.1.2.2.2.1) (C := R_Model) (T := F_Model) (N := 30) hx hb hts (fun q hq => List.mem_cons_of_mem _ (i_Model q hq)) hown hK hP 0 rfl rfl 21 (by decide) (hts _ (List.mem_cons_of_mem _ m_14_14)) (fun _ h9 => h9) rfl d_Model_into_85 ?_
            refine lm_ri (v := u80.2.2.2.1.2.2.2.1) hx hb hr hlocks u80 ?_ hP hK hD hS d_Model_into_88
            unfold md_into; rw [if_pos ⟨h5, h13⟩, if_neg h37, if_pos h42]; (first | rw [if_pos h65] | rw [if_neg h65]); rw [← w80]; exact ⟨rfl, rfl⟩
        · refine lv_iconst (v := 1) hx hb d_Model_into_45 (by decide) ?_
          refine lv_goto hx hb d_Model_into_46 rfl ?_
          refine lm_vi (b := ad 0) (As := [.int 0, .int 1]) (rest := []) (wr := ([] : va_W)) ⟨hx, hb, hml, hown, hts⟩ hK hP hD hS hA [0, 1, 2, 3, 4, 5, 6, 7, 8, 9, 10, 11, 12, 13, 14, 15] [] rfl rfl (by decide) (by decide) (by decide) (c_Model_fails l dC dI cA cZ ad _ ((aso, axs, ato, ath, asi), (asr, anu, ach, aow, aar), (ais, aon, atw, awh, afi), (ase, afr, amo, ass, asp), (afo, aba, ano, aen, avs), (avo, avt, are, atd, ale)) 0 1 ) (cwV 2 hts (lm_gV m_15_8 m_15_9 m_20_2 m_0_5 m_15_10) rfl rfl rfl (by decide +kernel) ⟨Nat.le_of_ble_eq_true rfl, Nat.le_of_ble_eq_true rfl⟩) (va_recv (q0 := 0) hK hP rfl rfl) lm_bl_no (fun _ _ _ => trivial) hl.1 rfl rfl (Nat.le_of_ble_eq_true rfl) d_Model_into_50 ⟨Nat.le_of_ble_eq_true rfl, Nat.le_of_ble_eq_true rfl⟩ (fun r50 u50 H locs w50 hP hD hS => ?_)
          obtain ⟨e_r50, w50⟩ := w50
          have e_r50 : r50 = 1 := e_r50
          replace e_r50 := e_r50.symm
          subst e_r50
          have w50 : u50 = ((aso, axs, ato, 2, asi), (asr, anu, ach, aow, aar), (ais, aon, atw, awh, afi), (ase, afr, amo, ass, asp), (afo, aba, ano, aen, avs), (avo, avt, are, atd, ale)) := w50
          replace w50 := w50.symm
          subst w50
          have hP : va_P (dC, dI) classes (mr_W cA cZ ad ((aso, axs, ato, 2, asi), (asr, anu, ach, aow, aar), (ais, aon, atw, awh, afi), (ase, afr, amo, ass, asp), (afo, aba, ano, aen, avs), (avo, avt, are, atd, ale))) H := hP
          have hD : va_D A (mr_W cA cZ ad ((aso, axs, ato, 2, asi), (asr, anu, ach, aow, aar), (ais, aon, atw, awh, afi), (ase, afr, amo, ass, asp), (afo, aba, ano, aen, avs), (avo, avt, are, atd, ale))) := hD
          refine lv_if_eq hx hb d_Model_into_53 rfl (fun h53 => by exact absurd h53 (by decide)) (fun h53 => ?_)
          refine lv_iconst (v := 0) hx hb d_Model_into_56 (by decide) ?_
          refine lm_ri (v := 0) hx hb hr hlocks ((aso, axs, ato, 2, asi), (asr, anu, ach, aow, aar), (ais, aon, atw, awh, afi), (ase, afr, amo, ass, asp), (afo, aba, ano, aen, avs), (avo, avt, are, atd, ale)) ?_ hP hK hD hS d_Model_into_57
          unfold md_into; rw [if_pos ⟨h5, h13⟩]; (first | rw [if_pos h37] | rw [if_neg h37]); (first | rw [if_pos h42] | rw [if_neg h42]); exact ⟨rfl, rfl⟩
set_option maxHeartbeats 4000000 in
set_option maxRecDepth 100000 in
theorem c_Model_apply (l : Launch) (dC : Nat → ClassId) (dI : Nat → Nat → Nat) (cA cZ : ClassId)  (ad : Nat → Nat) (sz : Nat) (S : ZNS) (x : Int32) (hv : r_ss S = 2 → r_vs S = 1 → md_lo (s_ss (s_th S 0) 1) ∧ vp_in (r_vo S) 200) : Met l y_Model_apply w_Model_apply ({ frames := 4, cells := 0, slots := 0, locals := 87 } : Room) (va_Pc [.ref (ad 0), .int x] (lm_pre (dC, dI) classes [(cA, .int), (cZ, .boolean)] (mr_W cA cZ ad S) sz lm_no)) (va_Qi (fun (r : Int32) (u : ZNS) => r = (md_app S x).1 ∧ u = (md_app S x).2) (fun u => lm_at (dC, dI) classes [(cA, .int), (cZ, .boolean)] (va_A (mr_W cA cZ ad S) sz) (mr_W cA cZ ad u)) (va_A (mr_W cA cZ ad S) sz)) 0 0 (va_A (mr_W cA cZ ad S) sz) := by
  obtain ⟨⟨aso, axs, ato, ath, asi⟩, ⟨asr, anu, ach, aow, aar⟩, ⟨ais, aon, atw, awh, afi⟩, ⟨ase, afr, amo, ass, asp⟩, ⟨afo, aba, ano, aen, avs⟩, ⟨avo, avt, are, atd, ale⟩⟩ := S
  refine lm_met (fun A => va_Qi (fun (r : Int32) (u : ZNS) => r = (md_app ((aso, axs, ato, ath, asi), (asr, anu, ach, aow, aar), (ais, aon, atw, awh, afi), (ase, afr, amo, ass, asp), (afo, aba, ano, aen, avs), (avo, avt, are, atd, ale)) x).1 ∧ u = (md_app ((aso, axs, ato, ath, asi), (asr, anu, ach, aow, aar), (ais, aon, atw, awh, afi), (ase, afr, amo, ass, asp), (afo, aba, ano, aen, avs), (avo, avt, are, atd, ale)) x).2) (fun u => lm_at (dC, dI) classes [(cA, .int), (cZ, .boolean)] A (mr_W cA cZ ad u)) A) (by decide) rfl (Nat.le_of_ble_eq_true rfl) ?_
  intro p e s m below meth c A hx hb hr hts hown hlocks hname hml hK hP hD hA hE hsz hAe hS ls hl
  replace hl : lv_has ls 4 [(0, .ref (ad 0)), (1, .int x)] := hl
  clear hAe hsz
  refine lv_aload_n hx hb d_Model_apply_0 rfl (lv_at hl 0 rfl) ?_
  refine lv_aload_n hx hb d_Model_apply_1 rfl (lv_at hl 0 rfl) ?_
  refine va_get (D := (dC, dI)) (ci := 4) (v := .int ass) (C := R_Model) (T := F_Model) (N := 30) hx hb hts (fun q hq => List.mem_cons_of_mem _ (i_Model q hq)) hown hK hP 0 rfl rfl 21 (by decide) (hts _ (List.mem_cons_of_mem _ m_14_14)) (fun _ h9 => h9) rfl d_Model_apply_2 ?_
  refine lv_iconst (v := 2) hx hb d_Model_apply_5 (by decide) ?_
  refine lv_icmp_ne hx hb d_Model_apply_6 rfl (fun h6 => ?_) (fun h6 => ?_)
  · refine lv_iconst (v := 1) hx hb d_Model_apply_17 (by decide) ?_
    refine lv_goto hx hb d_Model_apply_18 rfl ?_
    refine lv_iconst (v := 0) hx hb d_Model_apply_22 (by decide) ?_
    refine lm_vi (b := ad 0) (As := [.int 1, .int 0]) (rest := []) (wr := ([] : va_W)) ⟨hx, hb, hml, hown, hts⟩ hK hP hD hS hA [0, 1, 2, 3, 4, 5, 6, 7, 8, 9, 10, 11, 12, 13, 14, 15] [] rfl rfl (by decide) (by decide) (by decide) (c_Model_fails l dC dI cA cZ ad _ ((aso, axs, ato, ath, asi), (asr, anu, ach, aow, aar), (ais, aon, atw, awh, afi), (ase, afr, amo, ass, asp), (afo, aba, ano, aen, avs), (avo, avt, are, atd, ale)) 1 0 ) (cwV 2 hts (lm_gV m_15_8 m_15_9 m_20_2 m_0_5 m_15_10) rfl rfl rfl (by decide +kernel) ⟨Nat.le_of_ble_eq_true rfl, Nat.le_of_ble_eq_true rfl⟩) (va_recv (q0 := 0) hK hP rfl rfl) lm_bl_no (fun _ _ _ => trivial) hl.1 rfl rfl (Nat.le_of_ble_eq_true rfl) d_Model_apply_23 ⟨Nat.le_of_ble_eq_true rfl, Nat.le_of_ble_eq_true rfl⟩ (fun r23 u23 H locs w23 hP hD hS => ?_)
    obtain ⟨e_r23, w23⟩ := w23
    have e_r23 : r23 = 1 := e_r23
    replace e_r23 := e_r23.symm
    subst e_r23
    have w23 : u23 = ((aso, axs, ato, 1, asi), (asr, anu, ach, aow, aar), (ais, aon, atw, awh, afi), (ase, afr, amo, ass, asp), (afo, aba, ano, aen, avs), (avo, avt, are, atd, ale)) := w23
    replace w23 := w23.symm
    subst w23
    have hP : va_P (dC, dI) classes (mr_W cA cZ ad ((aso, axs, ato, 1, asi), (asr, anu, ach, aow, aar), (ais, aon, atw, awh, afi), (ase, afr, amo, ass, asp), (afo, aba, ano, aen, avs), (avo, avt, are, atd, ale))) H := hP
    have hD : va_D A (mr_W cA cZ ad ((aso, axs, ato, 1, asi), (asr, anu, ach, aow, aar), (ais, aon, atw, awh, afi), (ase, afr, amo, ass, asp), (afo, aba, ano, aen, avs), (avo, avt, are, atd, ale))) := hD
    refine lv_if_eq hx hb d_Model_apply_26 rfl (fun h26 => by exact absurd h26 (by decide)) (fun h26 => ?_)
    refine lv_iconst (v := 0) hx hb d_Model_apply_29 (by decide) ?_
    refine lm_ri (v := 0) hx hb hr hlocks ((aso, axs, ato, 1, asi), (asr, anu, ach, aow, aar), (ais, aon, atw, awh, afi), (ase, afr, amo, ass, asp), (afo, aba, ano, aen, avs), (avo, avt, are, atd, ale)) ?_ hP hK hD hS d_Model_apply_30
    unfold md_app; rw [if_neg (fun q => h6 q.1)]; exact ⟨rfl, rfl⟩
  · refine lv_aload_n hx hb d_Model_apply_9 rfl (lv_at hl 0 rfl) ?_
    refine va_get (D := (dC, dI)) (ci := 4) (v := .int avs) (C := R_Model) (T := F_Model) (N := 30) hx hb hts (fun q hq => List.mem_cons_of_mem _ (i_Model q hq)) hown hK hP 0 rfl rfl 27 (by decide) (hts _ (List.mem_cons_of_mem _ m_14_20)) (fun _ h9 => h9) rfl d_Model_apply_10 ?_
    refine lv_iconst (v := 1) hx hb d_Model_apply_13 (by decide) ?_
    refine lv_icmp_eq hx hb d_Model_apply_14 rfl (fun h14 => ?_) (fun h14 => ?_)
    · refine lv_iconst (v := 0) hx hb d_Model_apply_21 (by decide) ?_
      refine lv_iconst (v := 0) hx hb d_Model_apply_22 (by decide) ?_
      refine lm_vi (b := ad 0) (As := [.int 0, .int 0]) (rest := []) (wr := ([] : va_W)) ⟨hx, hb, hml, hown, hts⟩ hK hP hD hS hA [0, 1, 2, 3, 4, 5, 6, 7, 8, 9, 10, 11, 12, 13, 14, 15] [] rfl rfl (by decide) (by decide) (by decide) (c_Model_fails l dC dI cA cZ ad _ ((aso, axs, ato, ath, asi), (asr, anu, ach, aow, aar), (ais, aon, atw, awh, afi), (ase, afr, amo, ass, asp), (afo, aba, ano, aen, avs), (avo, avt, are, atd, ale)) 0 0 ) (cwV 2 hts (lm_gV m_15_8 m_15_9 m_20_2 m_0_5 m_15_10) rfl rfl rfl (by decide +kernel) ⟨Nat.le_of_ble_eq_true rfl, Nat.le_of_ble_eq_true rfl⟩) (va_recv (q0 := 0) hK hP rfl rfl) lm_bl_no (fun _ _ _ => trivial) hl.1 rfl rfl (Nat.le_of_ble_eq_true rfl) d_Model_apply_23 ⟨Nat.le_of_ble_eq_true rfl, Nat.le_of_ble_eq_true rfl⟩ (fun r23 u23 H locs w23 hP hD hS => ?_)
      obtain ⟨e_r23, w23⟩ := w23
      have e_r23 : r23 = 0 := e_r23
      replace e_r23 := e_r23.symm
      subst e_r23
      have w23 : u23 = ((aso, axs, ato, 0, asi), (asr, anu, ach, aow, aar), (ais, aon, atw, awh, afi), (ase, afr, amo, ass, asp), (afo, aba, ano, aen, avs), (avo, avt, are, atd, ale)) := w23
      replace w23 := w23.symm
      subst w23
      have hP : va_P (dC, dI) classes (mr_W cA cZ ad ((aso, axs, ato, 0, asi), (asr, anu, ach, aow, aar), (ais, aon, atw, awh, afi), (ase, afr, amo, ass, asp), (afo, aba, ano, aen, avs), (avo, avt, are, atd, ale))) H := hP
      have hD : va_D A (mr_W cA cZ ad ((aso, axs, ato, 0, asi), (asr, anu, ach, aow, aar), (ais, aon, atw, awh, afi), (ase, afr, amo, ass, asp), (afo, aba, ano, aen, avs), (avo, avt, are, atd, ale))) := hD
      refine lv_if_eq hx hb d_Model_apply_26 rfl (fun h26 => ?_) (fun h26 => by exact absurd h26 (by decide))
      refine lv_aload_n hx hb d_Model_apply_31 rfl (lv_at hl 0 rfl) ?_
      refine lv_iconst (v := 1) hx hb d_Model_apply_32 (by decide) ?_
      refine va_put (D := (dC, dI)) (ci := 4) (v := .int 1) (ty := .int) (C := R_Model) (T := F_Model) (N := 30) hx hb hts (fun q hq => List.mem_cons_of_mem _ (i_Model q hq)) t_Model t_Model_ok n_Model hown hK hP hD hS 0 rfl rfl 21 (by decide) (hts _ (List.mem_cons_of_mem _ m_14_14)) (fun _ h9 => h9) rfl (by decide +kernel) rfl rfl (Nat.le_of_ble_eq_true rfl) d_Model_apply_33 (fun H locs hP hD hS => ?_)
      have hP : va_P (dC, dI) classes (mr_W cA cZ ad ((aso, axs, ato, 0, asi), (asr, anu, ach, aow, aar), (ais, aon, atw, awh, afi), (ase, afr, amo, 1, asp), (afo, aba, ano, aen, avs), (avo, avt, are, atd, ale))) H := hP
      have hD : va_D A (mr_W cA cZ ad ((aso, axs, ato, 0, asi), (asr, anu, ach, aow, aar), (ais, aon, atw, awh, afi), (ase, afr, amo, 1, asp), (afo, aba, ano, aen, avs), (avo, avt, are, atd, ale))) := hD
      refine lv_aload_n hx hb d_Model_apply_36 rfl (lv_at hl 0 rfl) ?_
      refine lv_iconst (v := 2) hx hb d_Model_apply_37 (by decide) ?_
      refine lm_vi (b := ad 0) (As := [.int 2]) (rest := []) (wr := ([] : va_W)) ⟨hx, hb, hml, hown, hts⟩ hK hP hD hS hA [0, 1, 2, 3, 4, 5, 6, 7, 8, 9, 10, 11, 12, 13, 14, 15] [] rfl rfl (by decide) (by decide) (by decide) (c_Model_isFull l dC dI cA cZ ad _ ((aso, axs, ato, 0, asi), (asr, anu, ach, aow, aar), (ais, aon, atw, awh, afi), (ase, afr, amo, 1, asp), (afo, aba, ano, aen, avs), (avo, avt, are, atd, ale)) 2 (by exact (hv h6 h14).1)) (cwV 1 hts (lm_gV m_16_11 m_16_12 m_20_6 m_0_5 m_16_13) rfl rfl rfl (by decide +kernel) ⟨Nat.le_of_ble_eq_true rfl, Nat.le_of_ble_eq_true rfl⟩) (va_recv (q0 := 0) hK hP rfl rfl) lm_bl_no (fun _ _ _ => trivial) hl.1 rfl rfl (Nat.le_of_ble_eq_true rfl) d_Model_apply_38 ⟨Nat.le_of_ble_eq_true rfl, Nat.le_of_ble_eq_true rfl⟩ (fun r38 u38 H locs w38 hP hD hS => ?_)
      obtain ⟨e_r38, w38⟩ := w38
      have hP : va_P (dC, dI) classes (mr_W cA cZ ad u38) H := hP
      have hD : va_D A (mr_W cA cZ ad u38) := hD
      have e_r38 : r38 = (md_full (s_ss (s_th ((aso, axs, ato, ath, asi), (asr, anu, ach, aow, aar), (ais, aon, atw, awh, afi), (ase, afr, amo, ass, asp), (afo, aba, ano, aen, avs), (avo, avt, are, atd, ale)) 0) 1) 2).1 := e_r38
      have w38 : u38 = (md_full (s_ss (s_th ((aso, axs, ato, ath, asi), (asr, anu, ach, aow, aar), (ais, aon, atw, awh, afi), (ase, afr, amo, ass, asp), (afo, aba, ano, aen, avs), (avo, avt, are, atd, ale)) 0) 1) 2).2 := w38
      refine lv_if_eq hx hb d_Model_apply_41 rfl (fun h41 => ?_) (fun h41 => ?_)
      · have hroom := md_full_n (S := (s_ss (s_th ((aso, axs, ato, ath, asi), (asr, anu, ach, aow, aar), (ais, aon, atw, awh, afi), (ase, afr, amo, ass, asp), (afo, aba, ano, aen, avs), (avo, avt, are, atd, ale)) 0) 1)) (x := 2) (c := 2) (hv h6 h14).1 (by omega) rfl (by rw [← e_r38]; exact h41)
        have hvo : r_vo u38 = avo := by
          have q := me_vo (md_mark_zk (hv h6 h14).1).2.2; rw [w38]; show r_vo (md_full (s_ss (s_th ((aso, axs, ato, ath, asi), (asr, anu, ach, aow, aar), (ais, aon, atw, awh, afi), (ase, afr, amo, ass, asp), (afo, aba, ano, aen, avs), (avo, avt, are, atd, ale)) 0) 1) (nI 2)).2 = avo; rw [(md_full_zc (hv h6 h14).1 (by omega : 2 ≤ 2) (by show (md_full (s_ss (s_th ((aso, axs, ato, ath, asi), (asr, anu, ach, aow, aar), (ais, aon, atw, awh, afi), (ase, afr, amo, ass, asp), (afo, aba, ano, aen, avs), (avo, avt, are, atd, ale)) 0) 1) 2).1 = 0; rw [← e_r38]; exact h41)).1]; exact q
        refine lv_aload_n hx hb d_Model_apply_49 rfl (lv_at hl 0 rfl) ?_
        refine lv_iconst (v := 0) hx hb d_Model_apply_50 (by decide) ?_
        refine lv_iload_n hx hb d_Model_apply_51 rfl (lv_at hl 1 rfl) ?_
        refine lv_iconst (v := 0) hx hb d_Model_apply_52 (by decide) ?_
        refine lm_vi (b := ad 0) (As := [.int 0, .int x, .int 0]) (rest := []) (wr := ([] : va_W)) ⟨hx, hb, hml, hown, hts⟩ hK hP hD hS hA [0, 1, 2, 3, 4, 5, 6, 7, 8, 9, 10, 11, 12, 13, 14, 15] [] rfl rfl (by decide) (by decide) (by decide) (c_Model_cell l dC dI cA cZ ad _ u38 0 x 0 (by rw [w38]; exact md_free_of (by omega))) (cwV 3 hts (lm_gV m_16_23 m_17_0 m_20_10 m_0_5 m_17_1) rfl rfl rfl (by decide +kernel) ⟨Nat.le_of_ble_eq_true rfl, Nat.le_of_ble_eq_true rfl⟩) (va_recv (q0 := 0) hK hP rfl rfl) lm_bl_no (fun _ _ _ => trivial) hl.1 rfl rfl (Nat.le_of_ble_eq_true rfl) d_Model_apply_53 ⟨Nat.le_of_ble_eq_true rfl, Nat.le_of_ble_eq_true rfl⟩ (fun r53 u53 H locs w53 hP hD hS => ?_)
        obtain ⟨e_r53, w53⟩ := w53
        have hP : va_P (dC, dI) classes (mr_W cA cZ ad u53) H := hP
        have hD : va_D A (mr_W cA cZ ad u53) := hD
        refine lv_istore_n (lv' := [(2, .int r53), (0, .ref (ad 0)), (1, .int x)]) hx hb d_Model_apply_56 rfl hl (by decide) rfl (fun ls hl => ?_)
        refine lv_aload_n hx hb d_Model_apply_57 rfl (lv_at hl 1 rfl) ?_
        refine va_get (D := (dC, dI)) (ci := 4) (v := .int u53.2.2.2.2.2.2.1) (C := R_Model) (T := F_Model) (N := 30) hx hb hts (fun q hq => List.mem_cons_of_mem _ (i_Model q hq)) hown hK hP 0 rfl rfl 29 (by decide) (hts _ (List.mem_cons_of_mem _ m_14_22)) (fun _ h9 => h9) rfl d_Model_apply_58 ?_
        refine lv_istore_n (lv' := [(3, .int u53.2.2.2.2.2.2.1), (2, .int r53), (0, .ref (ad 0)), (1, .int x)]) hx hb d_Model_apply_61 rfl hl (by decide) rfl (fun ls hl => ?_)
        refine lv_aload_n hx hb d_Model_apply_62 rfl (lv_at hl 2 rfl) ?_
        refine lv_aload_n hx hb d_Model_apply_63 rfl (lv_at hl 2 rfl) ?_
        refine va_get (D := (dC, dI)) (ci := 4) (v := .ref (ad 5)) (C := R_Model) (T := F_Model) (N := 30) hx hb hts (fun q hq => List.mem_cons_of_mem _ (i_Model q hq)) hown hK hP 0 rfl rfl 6 (by decide) (hts _ (List.mem_cons_of_mem _ m_13_23)) (fun _ h9 => h9) rfl d_Model_apply_64 ?_
        refine lv_iconst (v := 3) hx hb d_Model_apply_67 (by decide) ?_
        refine lv_aload_n hx hb d_Model_apply_68 rfl (lv_at hl 2 rfl) ?_
        refine va_get (D := (dC, dI)) (ci := 4) (v := .int u53.2.2.2.2.2.1) (C := R_Model) (T := F_Model) (N := 30) hx hb hts (fun q hq => List.mem_cons_of_mem _ (i_Model q hq)) hown hK hP 0 rfl rfl 28 (by decide) (hts _ (List.mem_cons_of_mem _ m_14_21)) (fun _ h9 => h9) rfl d_Model_apply_69 ?_
        refine lv_imul hx hb d_Model_apply_72 ?_
        have hin : vp_in (3 * u53.2.2.2.2.2.1) 600 := by show vp_in (3 * r_vo u53) 600; rw [w53]; show vp_in (3 * r_vo u38) 600; rw [hvo]; exact (nx_ix (hv h6 h14).2).1
        refine va_iald (f := u53.2.1.2.2.1) (n := 600) hx hb hK hP 5 0 rfl rfl hin d_Model_apply_73 ?_
        refine lv_aload_n hx hb d_Model_apply_74 rfl (lv_at hl 2 rfl) ?_
        refine lv_iconst (v := 5) hx hb d_Model_apply_75 (by decide) ?_
        refine lv_iload_n hx hb d_Model_apply_76 rfl (lv_at hl 1 rfl) ?_
        refine lv_iload_n hx hb d_Model_apply_77 rfl (lv_at hl 0 rfl) ?_
        refine lm_vi (b := ad 0) (As := [.int 5, .int r53, .int u53.2.2.2.2.2.2.1]) (rest := [.int (u53.2.1.2.2.1 (3 * u53.2.2.2.2.2.1).toNatClampNeg), .ref (ad 0)]) (wr := ([] : va_W)) ⟨hx, hb, hml, hown, hts⟩ hK hP hD hS hA [0, 1, 2, 3, 4, 5, 6, 7, 8, 9, 10, 11, 12, 13, 14, 15] [] rfl rfl (by decide) (by decide) (by decide) (c_Model_cell l dC dI cA cZ ad _ u53 5 r53 u53.2.2.2.2.2.2.1 (by refine md_free_of ?_; rw [w53, md_cell_zc (by rw [w38]; omega), w38]; omega)) (cwV 3 hts (lm_gV m_16_23 m_17_0 m_20_10 m_0_5 m_17_1) rfl rfl rfl (by decide +kernel) ⟨Nat.le_of_ble_eq_true rfl, Nat.le_of_ble_eq_true rfl⟩) (va_recv (q0 := 0) hK hP rfl rfl) lm_bl_no (fun _ _ _ => trivial) hl.1 rfl rfl (Nat.le_of_ble_eq_true rfl) d_Model_apply_78 ⟨Nat.le_of_ble_eq_true rfl, Nat.le_of_ble_eq_true rfl⟩ (fun r78 u78 H locs w78 hP hD hS => ?_)
        obtain ⟨e_r78, w78⟩ := w78
        have hP : va_P (dC, dI) classes (mr_W cA cZ ad u78) H := hP
        have hD : va_D A (mr_W cA cZ ad u78) := hD
        refine lm_vv (b := ad 0) (As := [.int (u53.2.1.2.2.1 (3 * u53.2.2.2.2.2.1).toNatClampNeg), .int r78]) (rest := []) (wr := ([] : va_W)) ⟨hx, hb, hml, hown, hts⟩ hK hP hD hS hA [0, 1, 2, 3, 4, 5, 6, 7, 8, 9, 10, 11, 12, 13, 14, 15] [] rfl rfl (by decide) (by decide) (by decide) (c_Model_go l dC dI cA cZ ad _ u78 (u53.2.1.2.2.1 (3 * u53.2.2.2.2.2.1).toNatClampNeg) r78 ) (cwV 2 hts (lm_gV m_17_2 m_17_3 m_20_11 m_0_5 m_17_4) rfl rfl rfl (by decide +kernel) ⟨Nat.le_of_ble_eq_true rfl, Nat.le_of_ble_eq_true rfl⟩) (va_recv (q0 := 0) hK hP rfl rfl) lm_bl_no (fun _ _ _ => trivial) hl.1 rfl rfl (Nat.le_of_ble_eq_true rfl) d_Model_apply_81 ⟨Nat.le_of_ble_eq_true rfl, Nat.le_of_ble_eq_true rfl⟩ (fun u81 H locs w81 hP hD hS => ?_)
        have w81 : u81 = ((u78.1.1, u78.1.2.1, u78.1.2.2.1, u78.1.2.2.2.1, u78.1.2.2.2.2), (u78.2.1.1, u78.2.1.2.1, u78.2.1.2.2.1, u78.2.1.2.2.2.1, u78.2.1.2.2.2.2), (u78.2.2.1.1, u78.2.2.1.2.1, u78.2.2.1.2.2.1, u78.2.2.1.2.2.2.1, u78.2.2.1.2.2.2.2), (u78.2.2.2.1.1, u78.2.2.2.1.2.1, u78.2.2.2.1.2.2.1, u78.2.2.2.1.2.2.2.1, u78.2.2.2.1.2.2.2.2), (u78.2.2.2.2.1.1, 0, (u53.2.1.2.2.1 (3 * u53.2.2.2.2.2.1).toNatClampNeg), r78, u78.2.2.2.2.1.2.2.2.2), (u78.2.2.2.2.2.1, u78.2.2.2.2.2.2.1, u78.2.2.2.2.2.2.2.1, u78.2.2.2.2.2.2.2.2.1, u78.2.2.2.2.2.2.2.2.2)) := w81
        subst w81
        have hP : va_P (dC, dI) classes (mr_W cA cZ ad ((u78.1.1, u78.1.2.1, u78.1.2.2.1, u78.1.2.2.2.1, u78.1.2.2.2.2), (u78.2.1.1, u78.2.1.2.1, u78.2.1.2.2.1, u78.2.1.2.2.2.1, u78.2.1.2.2.2.2), (u78.2.2.1.1, u78.2.2.1.2.1, u78.2.2.1.2.2.1, u78.2.2.1.2.2.2.1, u78.2.2.1.2.2.2.2), (u78.2.2.2.1.1, u78.2.2.2.1.2.1, u78.2.2.2.1.2.2.1, u78.2.2.2.1.2.2.2.1, u78.2.2.2.1.2.2.2.2), (u78.2.2.2.2.1.1, 0, (u53.2.1.2.2.1 (3 * u53.2.2.2.2.2.1).toNatClampNeg), r78, u78.2.2.2.2.1.2.2.2.2), (u78.2.2.2.2.2.1, u78.2.2.2.2.2.2.1, u78.2.2.2.2.2.2.2.1, u78.2.2.2.2.2.2.2.2.1, u78.2.2.2.2.2.2.2.2.2))) H := hP
        have hD : va_D A (mr_W cA cZ ad ((u78.1.1, u78.1.2.1, u78.1.2.2.1, u78.1.2.2.2.1, u78.1.2.2.2.2), (u78.2.1.1, u78.2.1.2.1, u78.2.1.2.2.1, u78.2.1.2.2.2.1, u78.2.1.2.2.2.2), (u78.2.2.1.1, u78.2.2.1.2.1, u78.2.2.1.2.2.1, u78.2.2.1.2.2.2.1, u78.2.2.1.2.2.2.2), (u78.2.2.2.1.1, u78.2.2.2.1.2.1, u78.2.2.2.1.2.2.1, u78.2.2.2.1.2.2.2.1, u78.2.2.2.1.2.2.2.2), (u78.2.2.2.2.1.1, 0, (u53.2.1.2.2.1 (3 * u53.2.2.2.2.2.1).toNatClampNeg), r78, u78.2.2.2.2.1.2.2.2.2), (u78.2.2.2.2.2.1, u78.2.2.2.2.2.2.1, u78.2.2.2.2.2.2.2.1, u78.2.2.2.2.2.2.2.2.1, u78.2.2.2.2.2.2.2.2.2))) := hD
        refine lv_aload_n hx hb d_Model_apply_84 rfl (lv_at hl 2 rfl) ?_
        refine va_get (D := (dC, dI)) (ci := 4) (v := .int u78.2.2.2.1.2.2.2.1) (C := R_Model) (T := F_Model) (N := 30) hx hb hts (fun q hq => List.mem_cons_of_mem _ (i_Model q hq)) hown hK hP 0 rfl rfl 21 (by decide) (hts _ (List.mem_cons_of_mem _ m_14_14)) (fun _ h9 => h9) rfl d_Model_apply_85 ?_
        refine lm_ri (v := u78.2.2.2.1.2.2.2.1) hx hb hr hlocks ((u78.1.1, u78.1.2.1, u78.1.2.2.1, u78.1.2.2.2.1, u78.1.2.2.2.2), (u78.2.1.1, u78.2.1.2.1, u78.2.1.2.2.1, u78.2.1.2.2.2.1, u78.2.1.2.2.2.2), (u78.2.2.1.1, u78.2.2.1.2.1, u78.2.2.1.2.2.1, u78.2.2.1.2.2.2.1, u78.2.2.1.2.2.2.2), (u78.2.2.2.1.1, u78.2.2.2.1.2.1, u78.2.2.2.1.2.2.1, u78.2.2.2.1.2.2.2.1, u78.2.2.2.1.2.2.2.2), (u78.2.2.2.2.1.1, 0, (u53.2.1.2.2.1 (3 * u53.2.2.2.2.2.1).toNatClampNeg), r78, u78.2.2.2.2.1.2.2.2.2), (u78.2.2.2.2.2.1, u78.2.2.2.2.2.2.1, u78.2.2.2.2.2.2.2.1, u78.2.2.2.2.2.2.2.2.1, u78.2.2.2.2.2.2.2.2.2)) ?_ hP hK hD hS d_Model_apply_88
        unfold md_app; rw [if_pos ⟨h6, h14⟩, ← e_r38, ← w38]; (first | rw [if_pos h41] | rw [if_neg h41]); unfold md_app2; rw [← e_r53, ← w53, ← e_r78, ← w78]; exact ⟨rfl, rfl⟩
      · refine lv_aload_n hx hb d_Model_apply_44 rfl (lv_at hl 0 rfl) ?_
        refine va_get (D := (dC, dI)) (ci := 4) (v := .int u38.2.2.2.1.2.2.2.1) (C := R_Model) (T := F_Model) (N := 30) hx hb hts (fun q hq => List.mem_cons_of_mem _ (i_Model q hq)) hown hK hP 0 rfl rfl 21 (by decide) (hts _ (List.mem_cons_of_mem _ m_14_14)) (fun _ h9 => h9) rfl d_Model_apply_45 ?_
        refine lm_ri (v := u38.2.2.2.1.2.2.2.1) hx hb hr hlocks u38 ?_ hP hK hD hS d_Model_apply_48
        unfold md_app; rw [if_pos ⟨h6, h14⟩, ← e_r38, ← w38]; (first | rw [if_pos h41] | rw [if_neg h41]); exact ⟨rfl, rfl⟩
    · refine lv_iconst (v := 1) hx hb d_Model_apply_17 (by decide) ?_
      refine lv_goto hx hb d_Model_apply_18 rfl ?_
      refine lv_iconst (v := 0) hx hb d_Model_apply_22 (by decide) ?_
      refine lm_vi (b := ad 0) (As := [.int 1, .int 0]) (rest := []) (wr := ([] : va_W)) ⟨hx, hb, hml, hown, hts⟩ hK hP hD hS hA [0, 1, 2, 3, 4, 5, 6, 7, 8, 9, 10, 11, 12, 13, 14, 15] [] rfl rfl (by decide) (by decide) (by decide) (c_Model_fails l dC dI cA cZ ad _ ((aso, axs, ato, ath, asi), (asr, anu, ach, aow, aar), (ais, aon, atw, awh, afi), (ase, afr, amo, ass, asp), (afo, aba, ano, aen, avs), (avo, avt, are, atd, ale)) 1 0 ) (cwV 2 hts (lm_gV m_15_8 m_15_9 m_20_2 m_0_5 m_15_10) rfl rfl rfl (by decide +kernel) ⟨Nat.le_of_ble_eq_true rfl, Nat.le_of_ble_eq_true rfl⟩) (va_recv (q0 := 0) hK hP rfl rfl) lm_bl_no (fun _ _ _ => trivial) hl.1 rfl rfl (Nat.le_of_ble_eq_true rfl) d_Model_apply_23 ⟨Nat.le_of_ble_eq_true rfl, Nat.le_of_ble_eq_true rfl⟩ (fun r23 u23 H locs w23 hP hD hS => ?_)
      obtain ⟨e_r23, w23⟩ := w23
      have e_r23 : r23 = 1 := e_r23
      replace e_r23 := e_r23.symm
      subst e_r23
      have w23 : u23 = ((aso, axs, ato, 1, asi), (asr, anu, ach, aow, aar), (ais, aon, atw, awh, afi), (ase, afr, amo, ass, asp), (afo, aba, ano, aen, avs), (avo, avt, are, atd, ale)) := w23
      replace w23 := w23.symm
      subst w23
      have hP : va_P (dC, dI) classes (mr_W cA cZ ad ((aso, axs, ato, 1, asi), (asr, anu, ach, aow, aar), (ais, aon, atw, awh, afi), (ase, afr, amo, ass, asp), (afo, aba, ano, aen, avs), (avo, avt, are, atd, ale))) H := hP
      have hD : va_D A (mr_W cA cZ ad ((aso, axs, ato, 1, asi), (asr, anu, ach, aow, aar), (ais, aon, atw, awh, afi), (ase, afr, amo, ass, asp), (afo, aba, ano, aen, avs), (avo, avt, are, atd, ale))) := hD
      refine lv_if_eq hx hb d_Model_apply_26 rfl (fun h26 => by exact absurd h26 (by decide)) (fun h26 => ?_)
      refine lv_iconst (v := 0) hx hb d_Model_apply_29 (by decide) ?_
      refine lm_ri (v := 0) hx hb hr hlocks ((aso, axs, ato, 1, asi), (asr, anu, ach, aow, aar), (ais, aon, atw, awh, afi), (ase, afr, amo, ass, asp), (afo, aba, ano, aen, avs), (avo, avt, are, atd, ale)) ?_ hP hK hD hS d_Model_apply_30
      unfold md_app; rw [if_neg (fun q => h14 q.2)]; exact ⟨rfl, rfl⟩
