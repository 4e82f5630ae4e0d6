set_option maxHeartbeats 4000000 in
set_option maxRecDepth 100000 in
theorem c_Pile_empty (l : Launch) (dC : Nat → ClassId) (dI : Nat → Nat → Nat) (cA : ClassId)  (ad : Nat → Nat) (sz : Nat) (S : ZPS)   : Met l y_Pile_empty w_Pile_empty ({ frames := 0, cells := 0, slots := 0, locals := 0 } : Room) (va_Pc [.ref (ad 0)] (lm_pre (dC, dI) classes [(cA, .int)] (pl_W cA ad S) sz lm_no)) (va_Qv (fun (u : ZPS) => u = pl_empty S) (fun u => lm_at (dC, dI) classes [(cA, .int)] (va_A (pl_W cA ad S) sz) (pl_W cA ad u)) (va_A (pl_W cA ad S) sz)) 0 0 (va_A (pl_W cA ad S) sz) := by
  obtain ⟨so, fi, se, zz, mo⟩ := S
  refine lm_met (fun A => va_Qv (fun (u : ZPS) => u = pl_empty (so, fi, se, zz, mo)) (fun u => lm_at (dC, dI) classes [(cA, .int)] A (pl_W cA ad u)) A) (by decide) rfl (Nat.le_of_ble_eq_true rfl) ?_
  intro p e s m below meth c A hx hb hr hts hown hlocks hname hml hK hP hD hA hE hsz hAe hS ls hl
  replace hl : lv_has ls 1 [(0, .ref (ad 0))] := hl
  clear hAe hsz
  refine lv_aload_n hx hb d_Pile_empty_0 rfl (lv_at hl 0 rfl) ?_
  refine lv_iconst (v := 0) hx hb d_Pile_empty_1 (by decide) ?_
  refine va_put (D := (dC, dI)) (ci := 2) (v := .int 0) (ty := .int) (C := R_Pile) (T := F_Pile) (N := 5) hx hb hts (fun q hq => List.mem_cons_of_mem _ (i_Pile q hq)) t_Pile t_Pile_ok n_Pile hown hK hP hD hS 0 rfl rfl 3 (by decide) (hts _ (List.mem_cons_of_mem _ m_1_16)) (fun _ h9 => h9) rfl (by decide +kernel) rfl rfl (Nat.le_of_ble_eq_true rfl) d_Pile_empty_2 (fun H locs hP hD hS => ?_)
  have hP : va_P (dC, dI) classes (pl_W cA ad (so, fi, se, 0, mo)) H := hP
  have hD : va_D A (pl_W cA ad (so, fi, se, 0, mo)) := hD
  refine lv_aload_n hx hb d_Pile_empty_5 rfl (lv_at hl 0 rfl) ?_
  refine lv_iconst (v := 0) hx hb d_Pile_empty_6 (by decide) ?_
  refine va_put (D := (dC, dI)) (ci := 2) (v := .int 0) (ty := .int) (C := R_Pile) (T := F_Pile) (N := 5) hx hb hts (fun q hq => List.mem_cons_of_mem _ (i_Pile q hq)) t_Pile t_Pile_ok n_Pile hown hK hP hD hS 0 rfl rfl 4 (by decide) (hts _ (List.mem_cons_of_mem _ m_1_17)) (fun _ h9 => h9) rfl (by decide +kernel) rfl rfl (Nat.le_of_ble_eq_true rfl) d_Pile_empty_7 (fun H locs hP hD hS => ?_)
  have hP : va_P (dC, dI) classes (pl_W cA ad (so, fi, se, 0, 0)) H := hP
  have hD : va_D A (pl_W cA ad (so, fi, se, 0, 0)) := hD
  refine lm_rv hx hb hr hlocks (so, fi, se, 0, 0) ?_ hP hK hD hS d_Pile_empty_10
  rfl
set_option maxHeartbeats 4000000 in
set_option maxRecDepth 100000 in
theorem c_Pile_size (l : Launch) (dC : Nat → ClassId) (dI : Nat → Nat → Nat) (cA : ClassId)  (ad : Nat → Nat) (sz : Nat) (S : ZPS)   : Met l y_Pile_size w_Pile_size ({ frames := 0, cells := 0, slots := 0, locals := 0 } : Room) (va_Pc [.ref (ad 0)] (lm_pre (dC, dI) classes [(cA, .int)] (pl_W cA ad S) sz lm_no)) (va_Qi (fun (r : Int32) (u : ZPS) => r = p_sz S ∧ u = S) (fun u => lm_at (dC, dI) classes [(cA, .int)] (va_A (pl_W cA ad S) sz) (pl_W cA ad u)) (va_A (pl_W cA ad S) sz)) 0 0 (va_A (pl_W cA ad S) sz) := by
  obtain ⟨so, fi, se, zz, mo⟩ := S
  refine lm_met (fun A => va_Qi (fun (r : Int32) (u : ZPS) => r = p_sz (so, fi, se, zz, mo) ∧ u = (so, fi, se, zz, mo)) (fun u => lm_at (dC, dI) classes [(cA, .int)] A (pl_W cA ad u)) A) (by decide) rfl (Nat.le_of_ble_eq_true rfl) ?_
  intro p e s m below meth c A hx hb hr hts hown hlocks hname hml hK hP hD hA hE hsz hAe hS ls hl
  replace hl : lv_has ls 1 [(0, .ref (ad 0))] := hl
  clear hAe hsz
  refine lv_aload_n hx hb d_Pile_size_0 rfl (lv_at hl 0 rfl) ?_
  refine va_get (D := (dC, dI)) (ci := 2) (v := .int zz) (C := R_Pile) (T := F_Pile) (N := 5) hx hb hts (fun q hq => List.mem_cons_of_mem _ (i_Pile q hq)) hown hK hP 0 rfl rfl 3 (by decide) (hts _ (List.mem_cons_of_mem _ m_1_16)) (fun _ h9 => h9) rfl d_Pile_size_1 ?_
  refine lm_ri (v := zz) hx hb hr hlocks (so, fi, se, zz, mo) ?_ hP hK hD hS d_Pile_size_4
  exact ⟨rfl, rfl⟩
set_option maxHeartbeats 4000000 in
set_option maxRecDepth 100000 in
theorem c_Pile_most (l : Launch) (dC : Nat → ClassId) (dI : Nat → Nat → Nat) (cA : ClassId)  (ad : Nat → Nat) (sz : Nat) (S : ZPS)   : Met l y_Pile_most w_Pile_most ({ frames := 0, cells := 0, slots := 0, locals := 0 } : Room) (va_Pc [.ref (ad 0)] (lm_pre (dC, dI) classes [(cA, .int)] (pl_W cA ad S) sz lm_no)) (va_Qi (fun (r : Int32) (u : ZPS) => r = p_mo S ∧ u = S) (fun u => lm_at (dC, dI) classes [(cA, .int)] (va_A (pl_W cA ad S) sz) (pl_W cA ad u)) (va_A (pl_W cA ad S) sz)) 0 0 (va_A (pl_W cA ad S) sz) := by
  obtain ⟨so, fi, se, zz, mo⟩ := S
  refine lm_met (fun A => va_Qi (fun (r : Int32) (u : ZPS) => r = p_mo (so, fi, se, zz, mo) ∧ u = (so, fi, se, zz, mo)) (fun u => lm_at (dC, dI) classes [(cA, .int)] A (pl_W cA ad u)) A) (by decide) rfl (Nat.le_of_ble_eq_true rfl) ?_
  intro p e s m below meth c A hx hb hr hts hown hlocks hname hml hK hP hD hA hE hsz hAe hS ls hl
  replace hl : lv_has ls 1 [(0, .ref (ad 0))] := hl
  clear hAe hsz
  refine lv_aload_n hx hb d_Pile_most_0 rfl (lv_at hl 0 rfl) ?_
  refine va_get (D := (dC, dI)) (ci := 2) (v := .int mo) (C := R_Pile) (T := F_Pile) (N := 5) hx hb hts (fun q hq => List.mem_cons_of_mem _ (i_Pile q hq)) hown hK hP 0 rfl rfl 4 (by decide) (hts _ (List.mem_cons_of_mem _ m_1_17)) (fun _ h9 => h9) rfl d_Pile_most_1 ?_
  refine lm_ri (v := mo) hx hb hr hlocks (so, fi, se, zz, mo) ?_ hP hK hD hS d_Pile_most_4
  exact ⟨rfl, rfl⟩
set_option maxHeartbeats 4000000 in
set_option maxRecDepth 100000 in
theorem c_Pile_isFull (l : Launch) (dC : Nat → ClassId) (dI : Nat → Nat → Nat) (cA : ClassId)  (ad : Nat → Nat) (sz : Nat) (S : ZPS)   : Met l y_Pile_isFull w_Pile_isFull ({ frames := 0, cells := 0, slots := 0, locals := 0 } : Room) (va_Pc [.ref (ad 0)] (lm_pre (dC, dI) classes [(cA, .int)] (pl_W cA ad S) sz lm_no)) (va_Qi (fun (r : Int32) (u : ZPS) => r = pl_full S ∧ u = S) (fun u => lm_at (dC, dI) classes [(cA, .int)] (va_A (pl_W cA ad S) sz) (pl_W cA ad u)) (va_A (pl_W cA ad S) sz)) 0 0 (va_A (pl_W cA ad S) sz) := by
  obtain ⟨so, fi, se, zz, mo⟩ := S
  refine lm_met (fun A => va_Qi (fun (r : Int32) (u : ZPS) => r = pl_full (so, fi, se, zz, mo) ∧ u = (so, fi, se, zz, mo)) (fun u => lm_at (dC, dI) classes [(cA, .int)] A (pl_W cA ad u)) A) (by decide) rfl (Nat.le_of_ble_eq_true rfl) ?_
  intro p e s m below meth c A hx hb hr hts hown hlocks hname hml hK hP hD hA hE hsz hAe hS ls hl
  replace hl : lv_has ls 1 [(0, .ref (ad 0))] := hl
  clear hAe hsz
  refine lv_aload_n hx hb d_Pile_isFull_0 rfl (lv_at hl 0 rfl) ?_
  refine va_get (D := (dC, dI)) (ci := 2) (v := .int zz) (C := R_Pile) (T := F_Pile) (N := 5) hx hb hts (fun q hq => List.mem_cons_of_mem _ (i_Pile q hq)) hown hK hP 0 rfl rfl 3 (by decide) (hts _ (List.mem_cons_of_mem _ m_1_16)) (fun _ h9 => h9) rfl d_Pile_isFull_1 ?_
  refine lv_sipush (v := 200) hx hb d_Pile_isFull_4 (by decide) ?_
  refine lv_icmp_ne hx hb d_Pile_isFull_7 rfl (fun h7 => ?_) (fun h7 => ?_)
  · refine lv_iconst (v := 0) hx hb d_Pile_isFull_14 (by decide) ?_
    refine lm_rz (v := 0) hx hb hr hlocks (by decide) (so, fi, se, zz, mo) ?_ hP hK hD hS d_Pile_isFull_15
    simp [pl_full, p_so, p_fi, p_se, p_sz, p_mo, h7]
  · refine lv_iconst (v := 1) hx hb d_Pile_isFull_10 (by decide) ?_
    refine lv_goto hx hb d_Pile_isFull_11 rfl ?_
    refine lm_rz (v := 1) hx hb hr hlocks (by decide) (so, fi, se, zz, mo) ?_ hP hK hD hS d_Pile_isFull_15
    simp [pl_full, p_so, p_fi, p_se, p_sz, p_mo, h7]
set_option maxHeartbeats 4000000 in
set_option maxRecDepth 100000 in
theorem c_Pile_add (l : Launch) (dC : Nat → ClassId) (dI : Nat → Nat → Nat) (cA : ClassId)  (ad : Nat → Nat) (sz : Nat) (S : ZPS) (y1 y2 y3 : Int32) (hz : pl_ok S) : Met l y_Pile_add w_Pile_add ({ frames := 1, cells := 0, slots := 0, locals := 20 } : Room) (va_Pc [.ref (ad 0), .int y1, .int y2, .int y3] (lm_pre (dC, dI) classes [(cA, .int)] (pl_W cA ad S) sz lm_no)) (va_Qv (fun (u : ZPS) => u = pl_add S y1 y2 y3) (fun u => lm_at (dC, dI) classes [(cA, .int)] (va_A (pl_W cA ad S) sz) (pl_W cA ad u)) (va_A (pl_W cA ad S) sz)) 0 0 (va_A (pl_W cA ad S) sz) := by
  obtain ⟨so, fi, se, zz, mo⟩ := S
  obtain ⟨z, hz, hzz⟩ := hz
  have hzz : zz = nI z := hzz
  subst hzz
  refine lm_met (fun A => va_Qv (fun (u : ZPS) => u = pl_add (so, fi, se, (nI z), mo) y1 y2 y3) (fun u => lm_at (dC, dI) classes [(cA, .int)] A (pl_W cA ad u)) A) (by decide) rfl (Nat.le_of_ble_eq_true rfl) ?_
  intro p e s m below meth c A hx hb hr hts hown hlocks hname hml hK hP hD hA hE hsz hAe hS ls hl
  replace hl : lv_has ls 4 [(0, .ref (ad 0)), (1, .int y1), (2, .int y2), (3, .int y3)] := hl
  clear hAe hsz
  refine lv_aload_n hx hb d_Pile_add_0 rfl (lv_at hl 0 rfl) ?_
  refine lm_vi (b := ad 0) (As := []) (rest := []) (wr := ([] : va_W)) ⟨hx, hb, hml, hown, hts⟩ hK hP hD hS hA [0, 1, 2, 3] [] rfl rfl (by decide) (by decide) (by decide) (c_Pile_isFull l dC dI cA ad _ (so, fi, se, (nI z), mo)  ) (cwV 0 hts (lm_gV m_9_14 m_9_15 m_9_16 m_0_3 m_9_17) rfl rfl rfl (by decide +kernel) ⟨Nat.le_of_ble_eq_true rfl, Nat.le_of_ble_eq_true rfl⟩) (va_recv (q0 := 0) hK hP rfl rfl) lm_bl_no (fun _ _ _ => trivial) hl.1 rfl rfl (Nat.le_of_ble_eq_true rfl) d_Pile_add_1 ⟨Nat.le_of_ble_eq_true rfl, Nat.le_of_ble_eq_true rfl⟩ (fun r1 u1 H locs w1 hP hD hS => ?_)
  obtain ⟨e_r1, w1⟩ := w1
  replace w1 := w1.symm
  subst w1
  have hP : va_P (dC, dI) classes (pl_W cA ad (so, fi, se, (nI z), mo)) H := hP
  have hD : va_D A (pl_W cA ad (so, fi, se, (nI z), mo)) := hD
  refine lv_if_eq hx hb d_Pile_add_4 rfl (fun h4 => ?_) (fun h4 => ?_)
  · have hne : ¬ (nI z) = 200 := fun q => by rw [e_r1] at h4; simp [pl_full, q] at h4
    have hlt : z < 200 := by
      rcases Nat.lt_or_ge z 200 with h9 | h9
      · exact h9
      · exact absurd (by rw [show z = 200 by omega]; rfl) hne
    refine lv_aload_n hx hb d_Pile_add_8 rfl (lv_at hl 0 rfl) ?_
    refine va_get (D := (dC, dI)) (ci := 2) (v := .ref (ad 1)) (C := R_Pile) (T := F_Pile) (N := 5) hx hb hts (fun q hq => List.mem_cons_of_mem _ (i_Pile q hq)) hown hK hP 0 rfl rfl 0 (by decide) (hts _ (List.mem_cons_of_mem _ m_1_13)) (fun _ h9 => h9) rfl d_Pile_add_9 ?_
    refine lv_aload_n hx hb d_Pile_add_12 rfl (lv_at hl 0 rfl) ?_
    refine va_get (D := (dC, dI)) (ci := 2) (v := .int (nI z)) (C := R_Pile) (T := F_Pile) (N := 5) hx hb hts (fun q hq => List.mem_cons_of_mem _ (i_Pile q hq)) hown hK hP 0 rfl rfl 3 (by decide) (hts _ (List.mem_cons_of_mem _ m_1_16)) (fun _ h9 => h9) rfl d_Pile_add_13 ?_
    refine lv_iload_n hx hb d_Pile_add_16 rfl (lv_at hl 1 rfl) ?_
    have hin : vp_in (nI z) 200 := by first | assumption | exact vp_in_nI (by omega) (by decide)
    refine va_iast (f := so) (n := 200) hx hb hK hP hD hS 1 0 rfl rfl hin d_Pile_add_17 (fun H locs hP hD hS => ?_)
    rw [nI_clamp (show z < 2 ^ 31 by omega)] at hP hD
    have hP : va_P (dC, dI) classes (pl_W cA ad ((upd so z y1), fi, se, (nI z), mo)) H := hP
    have hD : va_D A (pl_W cA ad ((upd so z y1), fi, se, (nI z), mo)) := hD
    refine lv_aload_n hx hb d_Pile_add_18 rfl (lv_at hl 0 rfl) ?_
    refine va_get (D := (dC, dI)) (ci := 2) (v := .ref (ad 2)) (C := R_Pile) (T := F_Pile) (N := 5) hx hb hts (fun q hq => List.mem_cons_of_mem _ (i_Pile q hq)) hown hK hP 0 rfl rfl 1 (by decide) (hts _ (List.mem_cons_of_mem _ m_1_14)) (fun _ h9 => h9) rfl d_Pile_add_19 ?_
    refine lv_aload_n hx hb d_Pile_add_22 rfl (lv_at hl 0 rfl) ?_
    refine va_get (D := (dC, dI)) (ci := 2) (v := .int (nI z)) (C := R_Pile) (T := F_Pile) (N := 5) hx hb hts (fun q hq => List.mem_cons_of_mem _ (i_Pile q hq)) hown hK hP 0 rfl rfl 3 (by decide) (hts _ (List.mem_cons_of_mem _ m_1_16)) (fun _ h9 => h9) rfl d_Pile_add_23 ?_
    refine lv_iload_n hx hb d_Pile_add_26 rfl (lv_at hl 2 rfl) ?_
    have hin : vp_in (nI z) 200 := by first | assumption | exact vp_in_nI (by omega) (by decide)
    refine va_iast (f := fi) (n := 200) hx hb hK hP hD hS 2 0 rfl rfl hin d_Pile_add_27 (fun H locs hP hD hS => ?_)
    rw [nI_clamp (show z < 2 ^ 31 by omega)] at hP hD
    have hP : va_P (dC, dI) classes (pl_W cA ad ((upd so z y1), (upd fi z y2), se, (nI z), mo)) H := hP
    have hD : va_D A (pl_W cA ad ((upd so z y1), (upd fi z y2), se, (nI z), mo)) := hD
    refine lv_aload_n hx hb d_Pile_add_28 rfl (lv_at hl 0 rfl) ?_
    refine va_get (D := (dC, dI)) (ci := 2) (v := .ref (ad 3)) (C := R_Pile) (T := F_Pile) (N := 5) hx hb hts (fun q hq => List.mem_cons_of_mem _ (i_Pile q hq)) hown hK hP 0 rfl rfl 2 (by decide) (hts _ (List.mem_cons_of_mem _ m_1_15)) (fun _ h9 => h9) rfl d_Pile_add_29 ?_
    refine lv_aload_n hx hb d_Pile_add_32 rfl (lv_at hl 0 rfl) ?_
    refine va_get (D := (dC, dI)) (ci := 2) (v := .int (nI z)) (C := R_Pile) (T := F_Pile) (N := 5) hx hb hts (fun q hq => List.mem_cons_of_mem _ (i_Pile q hq)) hown hK hP 0 rfl rfl 3 (by decide) (hts _ (List.mem_cons_of_mem _ m_1_16)) (fun _ h9 => h9) rfl d_Pile_add_33 ?_
    refine lv_iload_n hx hb d_Pile_add_36 rfl (lv_at hl 3 rfl) ?_
    have hin : vp_in (nI z) 200 := by first | assumption | exact vp_in_nI (by omega) (by decide)
    refine va_iast (f := se) (n := 200) hx hb hK hP hD hS 3 0 rfl rfl hin d_Pile_add_37 (fun H locs hP hD hS => ?_)
    rw [nI_clamp (show z < 2 ^ 31 by omega)] at hP hD
    have hP : va_P (dC, dI) classes (pl_W cA ad ((upd so z y1), (upd fi z y2), (upd se z y3), (nI z), mo)) H := hP
    have hD : va_D A (pl_W cA ad ((upd so z y1), (upd fi z y2), (upd se z y3), (nI z), mo)) := hD
    refine lv_aload_n hx hb d_Pile_add_38 rfl (lv_at hl 0 rfl) ?_
    refine lv_dup hx hb d_Pile_add_39 rfl ?_
    refine va_get (D := (dC, dI)) (ci := 2) (v := .int (nI z)) (C := R_Pile) (T := F_Pile) (N := 5) hx hb hts (fun q hq => List.mem_cons_of_mem _ (i_Pile q hq)) hown hK hP 0 rfl rfl 3 (by decide) (hts _ (List.mem_cons_of_mem _ m_1_16)) (fun _ h9 => h9) rfl d_Pile_add_40 ?_
    refine lv_iconst (v := 1) hx hb d_Pile_add_43 (by decide) ?_
    refine lv_iadd hx hb d_Pile_add_44 ?_
    refine lv_topi (fun z_ e_ => ?_)
    have e_ : z_ = nI (z + 1) := e_.trans ((nI_succ z).symm)
    subst e_
    refine va_put (D := (dC, dI)) (ci := 2) (v := .int (nI (z + 1))) (ty := .int) (C := R_Pile) (T := F_Pile) (N := 5) hx hb hts (fun q hq => List.mem_cons_of_mem _ (i_Pile q hq)) t_Pile t_Pile_ok n_Pile hown hK hP hD hS 0 rfl rfl 3 (by decide) (hts _ (List.mem_cons_of_mem _ m_1_16)) (fun _ h9 => h9) rfl (by decide +kernel) rfl rfl (Nat.le_of_ble_eq_true rfl) d_Pile_add_45 (fun H locs hP hD hS => ?_)
    have hP : va_P (dC, dI) classes (pl_W cA ad ((upd so z y1), (upd fi z y2), (upd se z y3), (nI (z + 1)), mo)) H := hP
    have hD : va_D A (pl_W cA ad ((upd so z y1), (upd fi z y2), (upd se z y3), (nI (z + 1)), mo)) := hD
    refine lv_aload_n hx hb d_Pile_add_48 rfl (lv_at hl 0 rfl) ?_
    refine lv_aload_n hx hb d_Pile_add_49 rfl (lv_at hl 0 rfl) ?_
    refine va_get (D := (dC, dI)) (ci := 2) (v := .int mo) (C := R_Pile) (T := F_Pile) (N := 5) hx hb hts (fun q hq => List.mem_cons_of_mem _ (i_Pile q hq)) hown hK hP 0 rfl rfl 4 (by decide) (hts _ (List.mem_cons_of_mem _ m_1_17)) (fun _ h9 => h9) rfl d_Pile_add_50 ?_
    refine lv_aload_n hx hb d_Pile_add_53 rfl (lv_at hl 0 rfl) ?_
    refine va_get (D := (dC, dI)) (ci := 2) (v := .int (nI (z + 1))) (C := R_Pile) (T := F_Pile) (N := 5) hx hb hts (fun q hq => List.mem_cons_of_mem _ (i_Pile q hq)) hown hK hP 0 rfl rfl 3 (by decide) (hts _ (List.mem_cons_of_mem _ m_1_16)) (fun _ h9 => h9) rfl d_Pile_add_54 ?_
    refine va_mmax hx hb (by rw [hml]; exact hl.1.symm) hown (hts _ (List.mem_cons_of_mem _ m_9_18)) (hts _ (List.mem_cons_of_mem _ m_9_19)) (hts _ (List.mem_cons_of_mem _ m_0_6)) (hts _ (List.mem_cons_of_mem _ m_9_20)) (Nat.le_of_ble_eq_true rfl) (Nat.le_of_ble_eq_true rfl) (Nat.le_of_ble_eq_true rfl) (Nat.le_of_ble_eq_true rfl) d_Pile_add_57 ?_
    refine va_put (D := (dC, dI)) (ci := 2) (v := .int (if mo < (nI (z + 1)) then (nI (z + 1)) else mo)) (ty := .int) (C := R_Pile) (T := F_Pile) (N := 5) hx hb hts (fun q hq => List.mem_cons_of_mem _ (i_Pile q hq)) t_Pile t_Pile_ok n_Pile hown hK hP hD hS 0 rfl rfl 4 (by decide) (hts _ (List.mem_cons_of_mem _ m_1_17)) (fun _ h9 => h9) rfl (by decide +kernel) rfl rfl (Nat.le_of_ble_eq_true rfl) d_Pile_add_60 (fun H locs hP hD hS => ?_)
    have hP : va_P (dC, dI) classes (pl_W cA ad ((upd so z y1), (upd fi z y2), (upd se z y3), (nI (z + 1)), (if mo < (nI (z + 1)) then (nI (z + 1)) else mo))) H := hP
    have hD : va_D A (pl_W cA ad ((upd so z y1), (upd fi z y2), (upd se z y3), (nI (z + 1)), (if mo < (nI (z + 1)) then (nI (z + 1)) else mo))) := hD
    refine lm_rv hx hb hr hlocks ((upd so z y1), (upd fi z y2), (upd se z y3), (nI (z + 1)), (if mo < (nI (z + 1)) then (nI (z + 1)) else mo)) ?_ hP hK hD hS d_Pile_add_63
    unfold pl_add; rw [if_neg hne]; simp only [p_sz, p_so, p_fi, p_se, p_mo, nI_clamp (show z < 2 ^ 31 by omega), nI_succ]
  · refine lm_rv hx hb hr hlocks (so, fi, se, (nI z), mo) ?_ hP hK hD hS d_Pile_add_7
    have hz2 : (nI z) = 200 := by
      rcases Decidable.em ((nI z) = 200) with h9 | h9
      · exact h9
      · exact absurd (by rw [e_r1]; simp [pl_full, h9]) h4
    unfold pl_add; rw [if_pos hz2]
set_option maxHeartbeats 4000000 in
set_option maxRecDepth 100000 in
theorem c_Pile_drop (l : Launch) (dC : Nat → ClassId) (dI : Nat → Nat → Nat) (cA : ClassId)  (ad : Nat → Nat) (sz : Nat) (S : ZPS)   : Met l y_Pile_drop w_Pile_drop ({ frames := 0, cells := 0, slots := 0, locals := 0 } : Room) (va_Pc [.ref (ad 0)] (lm_pre (dC, dI) classes [(cA, .int)] (pl_W cA ad S) sz lm_no)) (va_Qv (fun (u : ZPS) => u = pl_drop S) (fun u => lm_at (dC, dI) classes [(cA, .int)] (va_A (pl_W cA ad S) sz) (pl_W cA ad u)) (va_A (pl_W cA ad S) sz)) 0 0 (va_A (pl_W cA ad S) sz) := by
  obtain ⟨so, fi, se, zz, mo⟩ := S
  refine lm_met (fun A => va_Qv (fun (u : ZPS) => u = pl_drop (so, fi, se, zz, mo)) (fun u => lm_at (dC, dI) classes [(cA, .int)] A (pl_W cA ad u)) A) (by decide) rfl (Nat.le_of_ble_eq_true rfl) ?_
  intro p e s m below meth c A hx hb hr hts hown hlocks hname hml hK hP hD hA hE hsz hAe hS ls hl
  replace hl : lv_has ls 1 [(0, .ref (ad 0))] := hl
  clear hAe hsz
  refine lv_aload_n hx hb d_Pile_drop_0 rfl (lv_at hl 0 rfl) ?_
  refine va_get (D := (dC, dI)) (ci := 2) (v := .int zz) (C := R_Pile) (T := F_Pile) (N := 5) hx hb hts (fun q hq => List.mem_cons_of_mem _ (i_Pile q hq)) hown hK hP 0 rfl rfl 3 (by decide) (hts _ (List.mem_cons_of_mem _ m_1_16)) (fun _ h9 => h9) rfl d_Pile_drop_1 ?_
  refine lv_if_le hx hb d_Pile_drop_4 rfl (fun h4 => ?_) (fun h4 => ?_)
  · refine lm_rv hx hb hr hlocks (so, fi, se, zz, mo) ?_ hP hK hD hS d_Pile_drop_17
    simp [pl_drop, p_so, p_fi, p_se, p_sz, p_mo, h4]
  · refine lv_aload_n hx hb d_Pile_drop_7 rfl (lv_at hl 0 rfl) ?_
    refine lv_dup hx hb d_Pile_drop_8 rfl ?_
    refine va_get (D := (dC, dI)) (ci := 2) (v := .int zz) (C := R_Pile) (T := F_Pile) (N := 5) hx hb hts (fun q hq => List.mem_cons_of_mem _ (i_Pile q hq)) hown hK hP 0 rfl rfl 3 (by decide) (hts _ (List.mem_cons_of_mem _ m_1_16)) (fun _ h9 => h9) rfl d_Pile_drop_9 ?_
    refine lv_iconst (v := 1) hx hb d_Pile_drop_12 (by decide) ?_
    refine lv_isub hx hb d_Pile_drop_13 ?_
    refine va_put (D := (dC, dI)) (ci := 2) (v := .int (zz - 1)) (ty := .int) (C := R_Pile) (T := F_Pile) (N := 5) hx hb hts (fun q hq => List.mem_cons_of_mem _ (i_Pile q hq)) t_Pile t_Pile_ok n_Pile hown hK hP hD hS 0 rfl rfl 3 (by decide) (hts _ (List.mem_cons_of_mem _ m_1_16)) (fun _ h9 => h9) rfl (by decide +kernel) rfl rfl (Nat.le_of_ble_eq_true rfl) d_Pile_drop_14 (fun H locs hP hD hS => ?_)
    have hP : va_P (dC, dI) classes (pl_W cA ad (so, fi, se, (zz - 1), mo)) H := hP
    have hD : va_D A (pl_W cA ad (so, fi, se, (zz - 1), mo)) := hD
    refine lm_rv hx hb hr hlocks (so, fi, se, (zz - 1), mo) ?_ hP hK hD hS d_Pile_drop_17
    simp [pl_drop, p_so, p_fi, p_se, p_sz, p_mo, h4]
set_option maxHeartbeats 4000000 in
set_option maxRecDepth 100000 in
theorem c_Pile_topSort (l : Launch) (dC : Nat → ClassId) (dI : Nat → Nat → Nat) (cA : ClassId)  (ad : Nat → Nat) (sz : Nat) (S : ZPS)  (hz : pl_ok S) : Met l y_Pile_topSort w_Pile_topSort ({ frames := 0, cells := 0, slots := 0, locals := 0 } : Room) (va_Pc [.ref (ad 0)] (lm_pre (dC, dI) classes [(cA, .int)] (pl_W cA ad S) sz lm_no)) (va_Qi (fun (r : Int32) (u : ZPS) => r = pl_topSort S ∧ u = S) (fun u => lm_at (dC, dI) classes [(cA, .int)] (va_A (pl_W cA ad S) sz) (pl_W cA ad u)) (va_A (pl_W cA ad S) sz)) 0 0 (va_A (pl_W cA ad S) sz) := by
  obtain ⟨so, fi, se, zz, mo⟩ := S
  obtain ⟨z, hz, hzz⟩ := hz
  have hzz : zz = nI z := hzz
  subst hzz
  refine lm_met (fun A => va_Qi (fun (r : Int32) (u : ZPS) => r = pl_topSort (so, fi, se, (nI z), mo) ∧ u = (so, fi, se, (nI z), mo)) (fun u => lm_at (dC, dI) classes [(cA, .int)] A (pl_W cA ad u)) A) (by decide) rfl (Nat.le_of_ble_eq_true rfl) ?_
  intro p e s m below meth c A hx hb hr hts hown hlocks hname hml hK hP hD hA hE hsz hAe hS ls hl
  replace hl : lv_has ls 1 [(0, .ref (ad 0))] := hl
  clear hAe hsz
  refine lv_aload_n hx hb d_Pile_topSort_0 rfl (lv_at hl 0 rfl) ?_
  refine va_get (D := (dC, dI)) (ci := 2) (v := .int (nI z)) (C := R_Pile) (T := F_Pile) (N := 5) hx hb hts (fun q hq => List.mem_cons_of_mem _ (i_Pile q hq)) hown hK hP 0 rfl rfl 3 (by decide) (hts _ (List.mem_cons_of_mem _ m_1_16)) (fun _ h9 => h9) rfl d_Pile_topSort_1 ?_
  refine lv_if_ne hx hb d_Pile_topSort_4 rfl (fun h4 => ?_) (fun h4 => ?_)
  · obtain ⟨g, rfl⟩ : ∃ g, z = g + 1 := by
      rcases z with _ | g
      · exact absurd nI_0 h4
      · exact ⟨g, rfl⟩
    refine lv_aload_n hx hb d_Pile_topSort_11 rfl (lv_at hl 0 rfl) ?_
    refine va_get (D := (dC, dI)) (ci := 2) (v := .ref (ad 1)) (C := R_Pile) (T := F_Pile) (N := 5) hx hb hts (fun q hq => List.mem_cons_of_mem _ (i_Pile q hq)) hown hK hP 0 rfl rfl 0 (by decide) (hts _ (List.mem_cons_of_mem _ m_1_13)) (fun _ h9 => h9) rfl d_Pile_topSort_12 ?_
    refine lv_aload_n hx hb d_Pile_topSort_15 rfl (lv_at hl 0 rfl) ?_
    refine va_get (D := (dC, dI)) (ci := 2) (v := .int (nI (g + 1))) (C := R_Pile) (T := F_Pile) (N := 5) hx hb hts (fun q hq => List.mem_cons_of_mem _ (i_Pile q hq)) hown hK hP 0 rfl rfl 3 (by decide) (hts _ (List.mem_cons_of_mem _ m_1_16)) (fun _ h9 => h9) rfl d_Pile_topSort_16 ?_
    refine lv_iconst (v := 1) hx hb d_Pile_topSort_19 (by decide) ?_
    refine lv_isub hx hb d_Pile_topSort_20 ?_
    refine lv_topi (fun z_ e_ => ?_)
    have e_ : z_ = nI g := e_.trans (nI_pred g)
    subst e_
    have hin : vp_in (nI g) 200 := by first | assumption | exact vp_in_nI (by omega) (by decide)
    refine va_iald (f := so) (n := 200) hx hb hK hP 1 0 rfl rfl hin d_Pile_topSort_21 ?_
    rw [nI_clamp (show g < 2 ^ 31 by omega)]
    refine lm_ri (v := (so g)) hx hb hr hlocks (so, fi, se, (nI (g + 1)), mo) ?_ hP hK hD hS d_Pile_topSort_22
    unfold pl_topSort; first | (rw [if_pos h4]; exact ⟨rfl, rfl⟩) | (rw [if_neg h4]; refine ⟨?_, rfl⟩; simp only [p_sz, nI_pred]; rw [nI_clamp (show g < 2 ^ 31 by omega)])
  · refine lv_iconst (v := -1) hx hb d_Pile_topSort_7 (by decide) ?_
    refine lv_goto hx hb d_Pile_topSort_8 rfl ?_
    refine lm_ri (v := (-1)) hx hb hr hlocks (so, fi, se, (nI z), mo) ?_ hP hK hD hS d_Pile_topSort_22
    unfold pl_topSort; first | (rw [if_pos h4]; exact ⟨rfl, rfl⟩) | (rw [if_neg h4]; refine ⟨?_, rfl⟩; simp only [p_sz, nI_pred]; rw [nI_clamp (show g < 2 ^ 31 by omega)])
set_option maxHeartbeats 4000000 in
set_option maxRecDepth 100000 in
theorem c_Pile_topFirst (l : Launch) (dC : Nat → ClassId) (dI : Nat → Nat → Nat) (cA : ClassId)  (ad : Nat → Nat) (sz : Nat) (S : ZPS)  (hz : pl_ok S) : Met l y_Pile_topFirst w_Pile_topFirst ({ frames := 0, cells := 0, slots := 0, locals := 0 } : Room) (va_Pc [.ref (ad 0)] (lm_pre (dC, dI) classes [(cA, .int)] (pl_W cA ad S) sz lm_no)) (va_Qi (fun (r : Int32) (u : ZPS) => r = pl_topFirst S ∧ u = S) (fun u => lm_at (dC, dI) classes [(cA, .int)] (va_A (pl_W cA ad S) sz) (pl_W cA ad u)) (va_A (pl_W cA ad S) sz)) 0 0 (va_A (pl_W cA ad S) sz) := by
  obtain ⟨so, fi, se, zz, mo⟩ := S
  obtain ⟨z, hz, hzz⟩ := hz
  have hzz : zz = nI z := hzz
  subst hzz
  refine lm_met (fun A => va_Qi (fun (r : Int32) (u : ZPS) => r = pl_topFirst (so, fi, se, (nI z), mo) ∧ u = (so, fi, se, (nI z), mo)) (fun u => lm_at (dC, dI) classes [(cA, .int)] A (pl_W cA ad u)) A) (by decide) rfl (Nat.le_of_ble_eq_true rfl) ?_
  intro p e s m below meth c A hx hb hr hts hown hlocks hname hml hK hP hD hA hE hsz hAe hS ls hl
  replace hl : lv_has ls 1 [(0, .ref (ad 0))] := hl
  clear hAe hsz
  refine lv_aload_n hx hb d_Pile_topFirst_0 rfl (lv_at hl 0 rfl) ?_
  refine va_get (D := (dC, dI)) (ci := 2) (v := .int (nI z)) (C := R_Pile) (T := F_Pile) (N := 5) hx hb hts (fun q hq => List.mem_cons_of_mem _ (i_Pile q hq)) hown hK hP 0 rfl rfl 3 (by decide) (hts _ (List.mem_cons_of_mem _ m_1_16)) (fun _ h9 => h9) rfl d_Pile_topFirst_1 ?_
  refine lv_if_ne hx hb d_Pile_topFirst_4 rfl (fun h4 => ?_) (fun h4 => ?_)
  · obtain ⟨g, rfl⟩ : ∃ g, z = g + 1 := by
      rcases z with _ | g
      · exact absurd nI_0 h4
      · exact ⟨g, rfl⟩
    refine lv_aload_n hx hb d_Pile_topFirst_11 rfl (lv_at hl 0 rfl) ?_
    refine va_get (D := (dC, dI)) (ci := 2) (v := .ref (ad 2)) (C := R_Pile) (T := F_Pile) (N := 5) hx hb hts (fun q hq => List.mem_cons_of_mem _ (i_Pile q hq)) hown hK hP 0 rfl rfl 1 (by decide) (hts _ (List.mem_cons_of_mem _ m_1_14)) (fun _ h9 => h9) rfl d_Pile_topFirst_12 ?_
    refine lv_aload_n hx hb d_Pile_topFirst_15 rfl (lv_at hl 0 rfl) ?_
    refine va_get (D := (dC, dI)) (ci := 2) (v := .int (nI (g + 1))) (C := R_Pile) (T := F_Pile) (N := 5) hx hb hts (fun q hq => List.mem_cons_of_mem _ (i_Pile q hq)) hown hK hP 0 rfl rfl 3 (by decide) (hts _ (List.mem_cons_of_mem _ m_1_16)) (fun _ h9 => h9) rfl d_Pile_topFirst_16 ?_
    refine lv_iconst (v := 1) hx hb d_Pile_topFirst_19 (by decide) ?_
    refine lv_isub hx hb d_Pile_topFirst_20 ?_
    refine lv_topi (fun z_ e_ => ?_)
    have e_ : z_ = nI g := e_.trans (nI_pred g)
    subst e_
    have hin : vp_in (nI g) 200 := by first | assumption | exact vp_in_nI (by omega) (by decide)
    refine va_iald (f := fi) (n := 200) hx hb hK hP 2 0 rfl rfl hin d_Pile_topFirst_21 ?_
    rw [nI_clamp (show g < 2 ^ 31 by omega)]
    refine lm_ri (v := (fi g)) hx hb hr hlocks (so, fi, se, (nI (g + 1)), mo) ?_ hP hK hD hS d_Pile_topFirst_22
    unfold pl_topFirst; first | (rw [if_pos h4]; exact ⟨rfl, rfl⟩) | (rw [if_neg h4]; refine ⟨?_, rfl⟩; simp only [p_sz, nI_pred]; rw [nI_clamp (show g < 2 ^ 31 by omega)])
  · refine lv_iconst (v := -1) hx hb d_Pile_topFirst_7 (by decide) ?_
    refine lv_goto hx hb d_Pile_topFirst_8 rfl ?_
    refine lm_ri (v := (-1)) hx hb hr hlocks (so, fi, se, (nI z), mo) ?_ hP hK hD hS d_Pile_topFirst_22
    unfold pl_topFirst; first | (rw [if_pos h4]; exact ⟨rfl, rfl⟩) | (rw [if_neg h4]; refine ⟨?_, rfl⟩; simp only [p_sz, nI_pred]; rw [nI_clamp (show g < 2 ^ 31 by omega)])
set_option maxHeartbeats 4000000 in
set_option maxRecDepth 100000 in
theorem c_Pile_topSecond (l : Launch) (dC : Nat → ClassId) (dI : Nat → Nat → Nat) (cA : ClassId)  (ad : Nat → Nat) (sz : Nat) (S : ZPS)  (hz : pl_ok S) : Met l y_Pile_topSecond w_Pile_topSecond ({ frames := 0, cells := 0, slots := 0, locals := 0 } : Room) (va_Pc [.ref (ad 0)] (lm_pre (dC, dI) classes [(cA, .int)] (pl_W cA ad S) sz lm_no)) (va_Qi (fun (r : Int32) (u : ZPS) => r = pl_topSecond S ∧ u = S) (fun u => lm_at (dC, dI) classes [(cA, .int)] (va_A (pl_W cA ad S) sz) (pl_W cA ad u)) (va_A (pl_W cA ad S) sz)) 0 0 (va_A (pl_W cA ad S) sz) := by
  obtain ⟨so, fi, se, zz, mo⟩ := S
  obtain ⟨z, hz, hzz⟩ := hz
  have hzz : zz = nI z := hzz
  subst hzz
  refine lm_met (fun A => va_Qi (fun (r : Int32) (u : ZPS) => r = pl_topSecond (so, fi, se, (nI z), mo) ∧ u = (so, fi, se, (nI z), mo)) (fun u => lm_at (dC, dI) classes [(cA, .int)] A (pl_W cA ad u)) A) (by decide) rfl (Nat.le_of_ble_eq_true rfl) ?_
  intro p e s m below meth c A hx hb hr hts hown hlocks hname hml hK hP hD hA hE hsz hAe hS ls hl
  replace hl : lv_has ls 1 [(0, .ref (ad 0))] := hl
  clear hAe hsz
  refine lv_aload_n hx hb d_Pile_topSecond_0 rfl (lv_at hl 0 rfl) ?_
  refine va_get (D := (dC, dI)) (ci := 2) (v := .int (nI z)) (C := R_Pile) (T := F_Pile) (N := 5) hx hb hts (fun q hq => List.mem_cons_of_mem _ (i_Pile q hq)) hown hK hP 0 rfl rfl 3 (by decide) (hts _ (List.mem_cons_of_mem _ m_1_16)) (fun _ h9 => h9) rfl d_Pile_topSecond_1 ?_
  refine lv_if_ne hx hb d_Pile_topSecond_4 rfl (fun h4 => ?_) (fun h4 => ?_)
  · obtain ⟨g, rfl⟩ : ∃ g, z = g + 1 := by
      rcases z with _ | g
      · exact absurd nI_0 h4
      · exact ⟨g, rfl⟩
    refine lv_aload_n hx hb d_Pile_topSecond_11 rfl (lv_at hl 0 rfl) ?_
    refine va_get (D := (dC, dI)) (ci := 2) (v := .ref (ad 3)) (C := R_Pile) (T := F_Pile) (N := 5) hx hb hts (fun q hq => List.mem_cons_of_mem _ (i_Pile q hq)) hown hK hP 0 rfl rfl 2 (by decide) (hts _ (List.mem_cons_of_mem _ m_1_15)) (fun _ h9 => h9) rfl d_Pile_topSecond_12 ?_
    refine lv_aload_n hx hb d_Pile_topSecond_15 rfl (lv_at hl 0 rfl) ?_
    refine va_get (D := (dC, dI)) (ci := 2) (v := .int (nI (g + 1))) (C := R_Pile) (T := F_Pile) (N := 5) hx hb hts (fun q hq => List.mem_cons_of_mem _ (i_Pile q hq)) hown hK hP 0 rfl rfl 3 (by decide) (hts _ (List.mem_cons_of_mem _ m_1_16)) (fun _ h9 => h9) rfl d_Pile_topSecond_16 ?_
    refine lv_iconst (v := 1) hx hb d_Pile_topSecond_19 (by decide) ?_
    refine lv_isub hx hb d_Pile_topSecond_20 ?_
    refine lv_topi (fun z_ e_ => ?_)
    have e_ : z_ = nI g := e_.trans (nI_pred g)
    subst e_
    have hin : vp_in (nI g) 200 := by first | assumption | exact vp_in_nI (by omega) (by decide)
    refine va_iald (f := se) (n := 200) hx hb hK hP 3 0 rfl rfl hin d_Pile_topSecond_21 ?_
    rw [nI_clamp (show g < 2 ^ 31 by omega)]
    refine lm_ri (v := (se g)) hx hb hr hlocks (so, fi, se, (nI (g + 1)), mo) ?_ hP hK hD hS d_Pile_topSecond_22
    unfold pl_topSecond; first | (rw [if_pos h4]; exact ⟨rfl, rfl⟩) | (rw [if_neg h4]; refine ⟨?_, rfl⟩; simp only [p_sz, nI_pred]; rw [nI_clamp (show g < 2 ^ 31 by omega)])
  · refine lv_iconst (v := -1) hx hb d_Pile_topSecond_7 (by decide) ?_
    refine lv_goto hx hb d_Pile_topSecond_8 rfl ?_
    refine lm_ri (v := (-1)) hx hb hr hlocks (so, fi, se, (nI z), mo) ?_ hP hK hD hS d_Pile_topSecond_22
    unfold pl_topSecond; first | (rw [if_pos h4]; exact ⟨rfl, rfl⟩) | (rw [if_neg h4]; refine ⟨?_, rfl⟩; simp only [p_sz, nI_pred]; rw [nI_clamp (show g < 2 ^ 31 by omega)])
set_option maxHeartbeats 4000000 in
set_option maxRecDepth 100000 in
theorem c_Pile_reachAll (l : Launch) (dC : Nat → ClassId) (dI : Nat → Nat → Nat) (cA : ClassId)  (ad : Nat → Nat) (ah : Nat → Nat) (sz : Nat) (S : ZPS) (K : ZHS)  (hz : pl_ok S) (hc : pl_cells S) (hm : hp_mk K) : Met l y_Pile_reachAll w_Pile_reachAll ({ frames := 1, cells := 0, slots := 0, locals := 21 } : Room) (va_Pc [.ref (ad 0), .ref (ah 0)] (lm_pre (dC, dI) classes [(cA, .int)] ((pl_W cA ad S) ++ (hp_W cA ah K)) sz lm_no)) (va_Qv (fun (u : ZHS) => u = pl_reach S K) (fun u => lm_at (dC, dI) classes [(cA, .int)] (va_A ((pl_W cA ad S) ++ (hp_W cA ah K)) sz) ((pl_W cA ad S) ++ (hp_W cA ah u))) (va_A ((pl_W cA ad S) ++ (hp_W cA ah K)) sz)) 0 0 (va_A ((pl_W cA ad S) ++ (hp_W cA ah K)) sz) := by
  obtain ⟨so, fi, se, zz, mo⟩ := S
  obtain ⟨z, hz, hzz⟩ := hz
  have hzz : zz = nI z := hzz
  subst hzz
  have hc : ∀ j, j < z → (so j = 0 ∨ so j = 1 → hp_c (fi j)) ∧ (so j = 2 ∨ so j = 4 → hp_c (se j)) := fun j hj => hc j (by show j < (nI z).toNatClampNeg; rw [nI_clamp (by omega)]; exact hj)
  refine lm_met (fun A => va_Qv (fun (u : ZHS) => u = pl_reach (so, fi, se, (nI z), mo) K) (fun u => lm_at (dC, dI) classes [(cA, .int)] A ((pl_W cA ad (so, fi, se, (nI z), mo)) ++ (hp_W cA ah u))) A) (by decide) rfl (Nat.le_of_ble_eq_true rfl) ?_
  intro p e s m below meth c A hx hb hr hts hown hlocks hname hml hK hP hD hA hE hsz hAe hS ls hl
  replace hl : lv_has ls 3 [(0, .ref (ad 0)), (1, .ref (ah 0))] := hl
  clear hAe hsz
  refine lv_iconst (v := 0) hx hb d_Pile_reachAll_0 (by decide) ?_
  refine lv_istore_n (lv' := [(2, .int 0), (0, .ref (ad 0)), (1, .ref (ah 0))]) hx hb d_Pile_reachAll_1 rfl hl (by decide) rfl (fun ls hl => ?_)
  have loop : ∀ (fu : Nat) (k : Nat) (Z : ZHS) (ls : Array Slot) (H : Heap) (locs : List Loc), (k + fu = z) → (hp_mk Z) → (pl_reach (so, fi, se, (nI z), mo) K = pl_reachN (so, fi, se, (nI z), mo) fu k Z) → lv_has ls 3 [(2, .int (nI k)), (0, .ref (ad 0)), (1, .ref (ah 0))] → va_P (dC, dI) classes ((pl_W cA ad (so, fi, se, (nI z), mo)) ++ (hp_W cA ah Z)) H → va_D A ((pl_W cA ad (so, fi, se, (nI z), mo)) ++ (hp_W cA ah Z)) → va_S A s.heap H locs → W p l e (headSpec w_Pile_reachAll ({ frames := 1, cells := 0, slots := 0, locals := 21 } : Room)).room s m (List.toArray [.ref (ad 0), .ref (ah 0)]) below meth c H locs 0 0 (MQ below (va_Qv (fun (u : ZHS) => u = pl_reach (so, fi, se, (nI z), mo) K) (fun u => lm_at (dC, dI) classes [(cA, .int)] A ((pl_W cA ad (so, fi, se, (nI z), mo)) ++ (hp_W cA ah u))) A) (List.toArray [.ref (ad 0), .ref (ah 0)]) s 0 0 A) (F0 m 2 ls []) := by
    intro fu
    induction fu with
    | zero => 
      intro k Z ls H locs hk hZ hq hl hP hD hS
      refine lv_iload_n hx hb d_Pile_reachAll_2 rfl (lv_at hl 0 rfl) ?_
      refine lv_aload_n hx hb d_Pile_reachAll_3 rfl (lv_at hl 1 rfl) ?_
      refine va_get (D := (dC, dI)) (ci := 2) (v := .int (nI z)) (C := R_Pile) (T := F_Pile) (N := 5) hx hb hts (fun q hq => List.mem_cons_of_mem _ (i_Pile q hq)) hown hK hP 0 rfl rfl 3 (by decide) (hts _ (List.mem_cons_of_mem _ m_1_16)) (fun _ h9 => h9) rfl d_Pile_reachAll_4 ?_
      refine lv_icmp_ge hx hb d_Pile_reachAll_7 rfl (fun h7 => ?_) (fun h7 => by exact absurd (nI_le (by omega) (by omega)) h7)
      refine lm_rv hx hb hr hlocks Z ?_ hP hK hD hS d_Pile_reachAll_78
      rw [hq, pl_reachN]
    | succ fu ih => 
      intro k Z ls H locs hk hZ hq hl hP hD hS
      refine lv_iload_n hx hb d_Pile_reachAll_2 rfl (lv_at hl 0 rfl) ?_
      refine lv_aload_n hx hb d_Pile_reachAll_3 rfl (lv_at hl 1 rfl) ?_
      refine va_get (D := (dC, dI)) (ci := 2) (v := .int (nI z)) (C := R_Pile) (T := F_Pile) (N := 5) hx hb hts (fun q hq => List.mem_cons_of_mem _ (i_Pile q hq)) hown hK hP 0 rfl rfl 3 (by decide) (hts _ (List.mem_cons_of_mem _ m_1_16)) (fun _ h9 => h9) rfl d_Pile_reachAll_4 ?_
      refine lv_icmp_ge hx hb d_Pile_reachAll_7 rfl (fun h7 => by exact absurd h7 (nI_ge (by omega) (by omega))) (fun h7 => ?_)
      refine lv_aload_n hx hb d_Pile_reachAll_10 rfl (lv_at hl 1 rfl) ?_
      refine va_get (D := (dC, dI)) (ci := 2) (v := .ref (ad 1)) (C := R_Pile) (T := F_Pile) (N := 5) hx hb hts (fun q hq => List.mem_cons_of_mem _ (i_Pile q hq)) hown hK hP 0 rfl rfl 0 (by decide) (hts _ (List.mem_cons_of_mem _ m_1_13)) (fun _ h9 => h9) rfl d_Pile_reachAll_11 ?_
      refine lv_iload_n hx hb d_Pile_reachAll_14 rfl (lv_at hl 0 rfl) ?_
      have hin : vp_in (nI k) 200 := by first | assumption | exact vp_in_nI (by omega) (by decide)
      refine va_iald (f := so) (n := 200) hx hb hK hP 1 0 rfl rfl hin d_Pile_reachAll_15 ?_
      rw [nI_clamp (show k < 2 ^ 31 by omega)]
      refine lv_if_eq hx hb d_Pile_reachAll_16 rfl (fun h16 => ?_) (fun h16 => ?_)
      · refine lv_aload_n hx hb d_Pile_reachAll_29 rfl (lv_at hl 2 rfl) ?_
        refine lv_aload_n hx hb d_Pile_reachAll_30 rfl (lv_at hl 1 rfl) ?_
        refine va_get (D := (dC, dI)) (ci := 2) (v := .ref (ad 2)) (C := R_Pile) (T := F_Pile) (N := 5) hx hb hts (fun q hq => List.mem_cons_of_mem _ (i_Pile q hq)) hown hK hP 0 rfl rfl 1 (by decide) (hts _ (List.mem_cons_of_mem _ m_1_14)) (fun _ h9 => h9) rfl d_Pile_reachAll_31 ?_
        refine lv_iload_n hx hb d_Pile_reachAll_34 rfl (lv_at hl 0 rfl) ?_
        have hin : vp_in (nI k) 200 := by first | assumption | exact vp_in_nI (by omega) (by decide)
        refine va_iald (f := fi) (n := 200) hx hb hK hP 2 0 rfl rfl hin d_Pile_reachAll_35 ?_
        rw [nI_clamp (show k < 2 ^ 31 by omega)]
        refine lm_vv (b := ah 0) (As := [.int (fi k)]) (rest := []) (wr := (pl_W cA ad (so, fi, se, (nI z), mo))) ⟨hx, hb, hml, hown, hts⟩ hK hP hD hS hA [4, 5, 6, 7, 8, 9, 10] [0, 1, 2, 3] rfl rfl (by decide) (by decide) (by decide) (c_Heap_reach l dC dI cA ah _ Z (fi k) (by exact (hc k (by omega)).1 (by first | exact Or.inl h16 | exact Or.inr h26)) (by exact hZ)) (cwV 1 hts (lm_gV m_5_17 m_5_9 m_5_10 m_0_2 m_5_11) rfl rfl rfl (by decide +kernel) ⟨Nat.le_of_ble_eq_true rfl, Nat.le_of_ble_eq_true rfl⟩) (va_recv (q0 := 4) hK hP rfl rfl) lm_bl_no (fun _ _ _ => trivial) hl.1 rfl rfl (Nat.le_of_ble_eq_true rfl) d_Pile_reachAll_36 ⟨Nat.le_of_ble_eq_true rfl, Nat.le_of_ble_eq_true rfl⟩ (fun u36 H locs w36 hP hD hS => ?_)
        have hP : va_P (dC, dI) classes ((pl_W cA ad (so, fi, se, (nI z), mo)) ++ (hp_W cA ah u36)) H := hP
        have hD : va_D A ((pl_W cA ad (so, fi, se, (nI z), mo)) ++ (hp_W cA ah u36)) := hD
        refine lv_goto hx hb d_Pile_reachAll_39 rfl ?_
        refine lv_iinc (k := 0) (v := (nI (k + 1))) (lv' := [(2, .int (nI (k + 1))), (0, .ref (ad 0)), (1, .ref (ah 0))]) hx hb d_Pile_reachAll_72 hl rfl ((nI_succ k).symm) (by decide) rfl (fun ls hl => ?_)
        refine lv_goto hx hb d_Pile_reachAll_75 rfl ?_
        exact ih (k + 1) u36 _ _ _ (by omega) (by rw [w36]; exact hp_mk_reach hZ ((hc k (by omega)).1 (by first | exact Or.inl h16 | exact Or.inr h26))) (by rw [hq, pl_reachN]; congr 1; rw [w36]; unfold pl_reach1; (first | rw [if_pos h16] | rw [if_neg h16])) (lv_sub hl [0, 1, 2] rfl) hP hD hS
      · refine lv_aload_n hx hb d_Pile_reachAll_19 rfl (lv_at hl 1 rfl) ?_
        refine va_get (D := (dC, dI)) (ci := 2) (v := .ref (ad 1)) (C := R_Pile) (T := F_Pile) (N := 5) hx hb hts (fun q hq => List.mem_cons_of_mem _ (i_Pile q hq)) hown hK hP 0 rfl rfl 0 (by decide) (hts _ (List.mem_cons_of_mem _ m_1_13)) (fun _ h9 => h9) rfl d_Pile_reachAll_20 ?_
        refine lv_iload_n hx hb d_Pile_reachAll_23 rfl (lv_at hl 0 rfl) ?_
        have hin : vp_in (nI k) 200 := by first | assumption | exact vp_in_nI (by omega) (by decide)
        refine va_iald (f := so) (n := 200) hx hb hK hP 1 0 rfl rfl hin d_Pile_reachAll_24 ?_
        rw [nI_clamp (show k < 2 ^ 31 by omega)]
        refine lv_iconst (v := 1) hx hb d_Pile_reachAll_25 (by decide) ?_
        refine lv_icmp_ne hx hb d_Pile_reachAll_26 rfl (fun h26 => ?_) (fun h26 => ?_)
        · refine lv_aload_n hx hb d_Pile_reachAll_42 rfl (lv_at hl 1 rfl) ?_
          refine va_get (D := (dC, dI)) (ci := 2) (v := .ref (ad 1)) (C := R_Pile) (T := F_Pile) (N := 5) hx hb hts (fun q hq => List.mem_cons_of_mem _ (i_Pile q hq)) hown hK hP 0 rfl rfl 0 (by decide) (hts _ (List.mem_cons_of_mem _ m_1_13)) (fun _ h9 => h9) rfl d_Pile_reachAll_43 ?_
          refine lv_iload_n hx hb d_Pile_reachAll_46 rfl (lv_at hl 0 rfl) ?_
          have hin : vp_in (nI k) 200 := by first | assumption | exact vp_in_nI (by omega) (by decide)
          refine va_iald (f := so) (n := 200) hx hb hK hP 1 0 rfl rfl hin d_Pile_reachAll_47 ?_
          rw [nI_clamp (show k < 2 ^ 31 by omega)]
          refine lv_iconst (v := 2) hx hb d_Pile_reachAll_48 (by decide) ?_
          refine lv_icmp_eq hx hb d_Pile_reachAll_49 rfl (fun h49 => ?_) (fun h49 => ?_)
          · refine lv_aload_n hx hb d_Pile_reachAll_62 rfl (lv_at hl 2 rfl) ?_
            refine lv_aload_n hx hb d_Pile_reachAll_63 rfl (lv_at hl 1 rfl) ?_
            refine va_get (D := (dC, dI)) (ci := 2) (v := .ref (ad 3)) (C := R_Pile) (T := F_Pile) (N := 5) hx hb hts (fun q hq => List.mem_cons_of_mem _ (i_Pile q hq)) hown hK hP 0 rfl rfl 2 (by decide) (hts _ (List.mem_cons_of_mem _ m_1_15)) (fun _ h9 => h9) rfl d_Pile_reachAll_64 ?_
            refine lv_iload_n hx hb d_Pile_reachAll_67 rfl (lv_at hl 0 rfl) ?_
            have hin : vp_in (nI k) 200 := by first | assumption | exact vp_in_nI (by omega) (by decide)
            refine va_iald (f := se) (n := 200) hx hb hK hP 3 0 rfl rfl hin d_Pile_reachAll_68 ?_
            rw [nI_clamp (show k < 2 ^ 31 by omega)]
            refine lm_vv (b := ah 0) (As := [.int (se k)]) (rest := []) (wr := (pl_W cA ad (so, fi, se, (nI z), mo))) ⟨hx, hb, hml, hown, hts⟩ hK hP hD hS hA [4, 5, 6, 7, 8, 9, 10] [0, 1, 2, 3] rfl rfl (by decide) (by decide) (by decide) (c_Heap_reach l dC dI cA ah _ Z (se k) (by exact (hc k (by omega)).2 (by first | exact Or.inl h49 | exact Or.inr h59)) (by exact hZ)) (cwV 1 hts (lm_gV m_5_17 m_5_9 m_5_10 m_0_2 m_5_11) rfl rfl rfl (by decide +kernel) ⟨Nat.le_of_ble_eq_true rfl, Nat.le_of_ble_eq_true rfl⟩) (va_recv (q0 := 4) hK hP rfl rfl) lm_bl_no (fun _ _ _ => trivial) hl.1 rfl rfl (Nat.le_of_ble_eq_true rfl) d_Pile_reachAll_69 ⟨Nat.le_of_ble_eq_true rfl, Nat.le_of_ble_eq_true rfl⟩ (fun u69 H locs w69 hP hD hS => ?_)
            have hP : va_P (dC, dI) classes ((pl_W cA ad (so, fi, se, (nI z), mo)) ++ (hp_W cA ah u69)) H := hP
            have hD : va_D A ((pl_W cA ad (so, fi, se, (nI z), mo)) ++ (hp_W cA ah u69)) := hD
            refine lv_iinc (k := 0) (v := (nI (k + 1))) (lv' := [(2, .int (nI (k + 1))), (0, .ref (ad 0)), (1, .ref (ah 0))]) hx hb d_Pile_reachAll_72 hl rfl ((nI_succ k).symm) (by decide) rfl (fun ls hl => ?_)
            refine lv_goto hx hb d_Pile_reachAll_75 rfl ?_
            exact ih (k + 1) u69 _ _ _ (by omega) (by rw [w69]; exact hp_mk_reach hZ ((hc k (by omega)).2 (by first | exact Or.inl h49 | exact Or.inr h59))) (by rw [hq, pl_reachN]; congr 1; rw [w69]; unfold pl_reach1; (first | rw [if_pos h16] | rw [if_neg h16]); (first | rw [if_pos h26] | rw [if_neg h26]); (first | rw [if_pos h49] | rw [if_neg h49])) (lv_sub hl [0, 1, 2] rfl) hP hD hS
          · refine lv_aload_n hx hb d_Pile_reachAll_52 rfl (lv_at hl 1 rfl) ?_
            refine va_get (D := (dC, dI)) (ci := 2) (v := .ref (ad 1)) (C := R_Pile) (T := F_Pile) (N := 5) hx hb hts (fun q hq => List.mem_cons_of_mem _ (i_Pile q hq)) hown hK hP 0 rfl rfl 0 (by decide) (hts _ (List.mem_cons_of_mem _ m_1_13)) (fun _ h9 => h9) rfl d_Pile_reachAll_53 ?_
            refine lv_iload_n hx hb d_Pile_reachAll_56 rfl (lv_at hl 0 rfl) ?_
            have hin : vp_in (nI k) 200 := by first | assumption | exact vp_in_nI (by omega) (by decide)
            refine va_iald (f := so) (n := 200) hx hb hK hP 1 0 rfl rfl hin d_Pile_reachAll_57 ?_
            rw [nI_clamp (show k < 2 ^ 31 by omega)]
            refine lv_iconst (v := 4) hx hb d_Pile_reachAll_58 (by decide) ?_
            refine lv_icmp_ne hx hb d_Pile_reachAll_59 rfl (fun h59 => ?_) (fun h59 => ?_)
            · refine lv_iinc (k := 0) (v := (nI (k + 1))) (lv' := [(2, .int (nI (k + 1))), (0, .ref (ad 0)), (1, .ref (ah 0))]) hx hb d_Pile_reachAll_72 hl rfl ((nI_succ k).symm) (by decide) rfl (fun ls hl => ?_)
              refine lv_goto hx hb d_Pile_reachAll_75 rfl ?_
              exact ih (k + 1) Z _ _ _ (by omega) (by exact hZ) (by rw [hq, pl_reachN]; congr 1; unfold pl_reach1; (first | rw [if_pos h16] | rw [if_neg h16]); (first | rw [if_pos h26] | rw [if_neg h26]); (first | rw [if_pos h49] | rw [if_neg h49]); (first | rw [if_pos h59] | rw [if_neg h59])) (lv_sub hl [0, 1, 2] rfl) hP hD hS
            · refine lv_aload_n hx hb d_Pile_reachAll_62 rfl (lv_at hl 2 rfl) ?_
              refine lv_aload_n hx hb d_Pile_reachAll_63 rfl (lv_at hl 1 rfl) ?_
              refine va_get (D := (dC, dI)) (ci := 2) (v := .ref (ad 3)) (C := R_Pile) (T := F_Pile) (N := 5) hx hb hts (fun q hq => List.mem_cons_of_mem _ (i_Pile q hq)) hown hK hP 0 rfl rfl 2 (by decide) (hts _ (List.mem_cons_of_mem _ m_1_15)) (fun _ h9 => h9) rfl d_Pile_reachAll_64 ?_
              refine lv_iload_n hx hb d_Pile_reachAll_67 rfl (lv_at hl 0 rfl) ?_
              have hin : vp_in (nI k) 200 := by first | assumption | exact vp_in_nI (by omega) (by decide)
              refine va_iald (f := se) (n := 200) hx hb hK hP 3 0 rfl rfl hin d_Pile_reachAll_68 ?_
              rw [nI_clamp (show k < 2 ^ 31 by omega)]
              refine lm_vv (b := ah 0) (As := [.int (se k)]) (rest := []) (wr := (pl_W cA ad (so, fi, se, (nI z), mo))) ⟨hx, hb, hml, hown, hts⟩ hK hP hD hS hA [4, 5, 6, 7, 8, 9, 10] [0, 1, 2, 3] rfl rfl (by decide) (by decide) (by decide) (c_Heap_reach l dC dI cA ah _ Z (se k) (by exact (hc k (by omega)).2 (by first | exact Or.inl h49 | exact Or.inr h59)) (by exact hZ)) (cwV 1 hts (lm_gV m_5_17 m_5_9 m_5_10 m_0_2 m_5_11) rfl rfl rfl (by decide +kernel) ⟨Nat.le_of_ble_eq_true rfl, Nat.le_of_ble_eq_true rfl⟩) (va_recv (q0 := 4) hK hP rfl rfl) lm_bl_no (fun _ _ _ => trivial) hl.1 rfl rfl (Nat.le_of_ble_eq_true rfl) d_Pile_reachAll_69 ⟨Nat.le_of_ble_eq_true rfl, Nat.le_of_ble_eq_true rfl⟩ (fun u69 H locs w69 hP hD hS => ?_)
              have hP : va_P (dC, dI) classes ((pl_W cA ad (so, fi, se, (nI z), mo)) ++ (hp_W cA ah u69)) H := hP
              have hD : va_D A ((pl_W cA ad (so, fi, se, (nI z), mo)) ++ (hp_W cA ah u69)) := hD
              refine lv_iinc (k := 0) (v := (nI (k + 1))) (lv' := [(2, .int (nI (k + 1))), (0, .ref (ad 0)), (1, .ref (ah 0))]) hx hb d_Pile_reachAll_72 hl rfl ((nI_succ k).symm) (by decide) rfl (fun ls hl => ?_)
              refine lv_goto hx hb d_Pile_reachAll_75 rfl ?_
              exact ih (k + 1) u69 _ _ _ (by omega) (by rw [w69]; exact hp_mk_reach hZ ((hc k (by omega)).2 (by first | exact Or.inl h49 | exact Or.inr h59))) (by rw [hq, pl_reachN]; congr 1; rw [w69]; unfold pl_reach1; (first | rw [if_pos h16] | rw [if_neg h16]); (first | rw [if_pos h26] | rw [if_neg h26]); (first | rw [if_pos h49] | rw [if_neg h49]); (first | rw [if_pos h59] | rw [if_neg h59])) (lv_sub hl [0, 1, 2] rfl) hP hD hS
        · refine lv_aload_n hx hb d_Pile_reachAll_29 rfl (lv_at hl 2 rfl) ?_
          refine lv_aload_n hx hb d_Pile_reachAll_30 rfl (lv_at hl 1 rfl) ?_
          refine va_get (D := (dC, dI)) (ci := 2) (v := .ref (ad 2)) (C := R_Pile) (T := F_Pile) (N := 5) hx hb hts (fun q hq => List.mem_cons_of_mem _ (i_Pile q hq)) hown hK hP 0 rfl rfl 1 (by decide) (hts _ (List.mem_cons_of_mem _ m_1_14)) (fun _ h9 => h9) rfl d_Pile_reachAll_31 ?_
          refine lv_iload_n hx hb d_Pile_reachAll_34 rfl (lv_at hl 0 rfl) ?_
          have hin : vp_in (nI k) 200 := by first | assumption | exact vp_in_nI (by omega) (by decide)
          refine va_iald (f := fi) (n := 200) hx hb hK hP 2 0 rfl rfl hin d_Pile_reachAll_35 ?_
          rw [nI_clamp (show k < 2 ^ 31 by omega)]
          refine lm_vv (b := ah 0) (As := [.int (fi k)]) (rest := []) (wr := (pl_W cA ad (so, fi, se, (nI z), mo))) ⟨hx, hb, hml, hown, hts⟩ hK hP hD hS hA [4, 5, 6, 7, 8, 9, 10] [0, 1, 2, 3] rfl rfl (by decide) (by decide) (by decide) (c_Heap_reach l dC dI cA ah _ Z (fi k) (by exact (hc k (by omega)).1 (by first | exact Or.inl h16 | exact Or.inr h26)) (by exact hZ)) (cwV 1 hts (lm_gV m_5_17 m_5_9 m_5_10 m_0_2 m_5_11) rfl rfl rfl (by decide +kernel) ⟨Nat.le_of_ble_eq_true rfl, Nat.le_of_ble_eq_true rfl⟩) (va_recv (q0 := 4) hK hP rfl rfl) lm_bl_no (fun _ _ _ => trivial) hl.1 rfl rfl (Nat.le_of_ble_eq_true rfl) d_Pile_reachAll_36 ⟨Nat.le_of_ble_eq_true rfl, Nat.le_of_ble_eq_true rfl⟩ (fun u36 H locs w36 hP hD hS => ?_)
          have hP : va_P (dC, dI) classes ((pl_W cA ad (so, fi, se, (nI z), mo)) ++ (hp_W cA ah u36)) H := hP
          have hD : va_D A ((pl_W cA ad (so, fi, se, (nI z), mo)) ++ (hp_W cA ah u36)) := hD
          refine lv_goto hx hb d_Pile_reachAll_39 rfl ?_
          refine lv_iinc (k := 0) (v := (nI (k + 1))) (lv' := [(2, .int (nI (k + 1))), (0, .ref (ad 0)), (1, .ref (ah 0))]) hx hb d_Pile_reachAll_72 hl rfl ((nI_succ k).symm) (by decide) rfl (fun ls hl => ?_)
          refine lv_goto hx hb d_Pile_reachAll_75 rfl ?_
          exact ih (k + 1) u36 _ _ _ (by omega) (by rw [w36]; exact hp_mk_reach hZ ((hc k (by omega)).1 (by first | exact Or.inl h16 | exact Or.inr h26))) (by rw [hq, pl_reachN]; congr 1; rw [w36]; unfold pl_reach1; (first | rw [if_pos h16] | rw [if_neg h16]); (first | rw [if_pos h26] | rw [if_neg h26])) (lv_sub hl [0, 1, 2] rfl) hP hD hS
  exact loop z 0 K _ _ _ (by omega) (by exact hm) (by unfold pl_reach; rw [show (p_sz (so, fi, se, nI z, mo)).toNatClampNeg = z from nI_clamp (by omega)]) hl hP hD hS
