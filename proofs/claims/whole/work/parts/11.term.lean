set_option maxHeartbeats 4000000 in
set_option maxRecDepth 100000 in
theorem c_Term_size (l : Launch) (dC : Nat → ClassId) (dI : Nat → Nat → Nat) (cA : ClassId)  (ad : Nat → Nat) (sz : Nat) (S : ZTS)   : Met l y_Term_size w_Term_size ({ frames := 0, cells := 0, slots := 0, locals := 0 } : Room) (va_Pc [.ref (ad 0)] (lm_pre (dC, dI) classes [(cA, .int)] (tm_W cA ad S) sz lm_no)) (va_Qi (fun (r : Int32) (u : ZTS) => r = t_sz S ∧ u = S) (fun u => lm_at (dC, dI) classes [(cA, .int)] (va_A (tm_W cA ad S) sz) (tm_W cA ad u)) (va_A (tm_W cA ad S) sz)) 0 0 (va_A (tm_W cA ad S) sz) := by
  obtain ⟨so, xs, pa, pm, bi, op, zz⟩ := S
  refine lm_met (fun A => va_Qi (fun (r : Int32) (u : ZTS) => r = t_sz (so, xs, pa, pm, bi, op, zz) ∧ u = (so, xs, pa, pm, bi, op, zz)) (fun u => lm_at (dC, dI) classes [(cA, .int)] A (tm_W cA ad u)) A) (by decide) rfl (Nat.le_of_ble_eq_true rfl) ?_
  intro p e s m below meth c A hx hb hr hts hown hlocks hname hml hK hP hD hA hE hsz hAe hS ls hl
  replace hl : lv_has ls 1 [(0, .ref (ad 0))] := hl
  clear hAe hsz
  refine lv_aload_n hx hb d_Term_size_0 rfl (lv_at hl 0 rfl) ?_
  refine va_get (D := (dC, dI)) (ci := 3) (v := .int zz) (C := R_Term) (T := F_Term) (N := 7) hx hb hts (fun q hq => List.mem_cons_of_mem _ (i_Term q hq)) hown hK hP 0 rfl rfl 6 (by decide) (hts _ (List.mem_cons_of_mem _ m_2_6)) (fun _ h9 => h9) rfl d_Term_size_1 ?_
  refine lm_ri (v := zz) hx hb hr hlocks (so, xs, pa, pm, bi, op, zz) ?_ hP hK hD hS d_Term_size_4
  exact ⟨rfl, rfl⟩
set_option maxHeartbeats 4000000 in
set_option maxRecDepth 100000 in
theorem c_Term_sort (l : Launch) (dC : Nat → ClassId) (dI : Nat → Nat → Nat) (cA : ClassId)  (ad : Nat → Nat) (sz : Nat) (S : ZTS) (x : Int32) (hx1 : vp_in x 200) : Met l y_Term_sort w_Term_sort ({ frames := 0, cells := 0, slots := 0, locals := 0 } : Room) (va_Pc [.ref (ad 0), .int x] (lm_pre (dC, dI) classes [(cA, .int)] (tm_W cA ad S) sz lm_no)) (va_Qi (fun (r : Int32) (u : ZTS) => r = t_so S x.toNatClampNeg ∧ u = S) (fun u => lm_at (dC, dI) classes [(cA, .int)] (va_A (tm_W cA ad S) sz) (tm_W cA ad u)) (va_A (tm_W cA ad S) sz)) 0 0 (va_A (tm_W cA ad S) sz) := by
  obtain ⟨so, xs, pa, pm, bi, op, zz⟩ := S
  refine lm_met (fun A => va_Qi (fun (r : Int32) (u : ZTS) => r = t_so (so, xs, pa, pm, bi, op, zz) x.toNatClampNeg ∧ u = (so, xs, pa, pm, bi, op, zz)) (fun u => lm_at (dC, dI) classes [(cA, .int)] A (tm_W cA ad u)) A) (by decide) rfl (Nat.le_of_ble_eq_true rfl) ?_
  intro p e s m below meth c A hx hb hr hts hown hlocks hname hml hK hP hD hA hE hsz hAe hS ls hl
  replace hl : lv_has ls 2 [(0, .ref (ad 0)), (1, .int x)] := hl
  clear hAe hsz
  refine lv_aload_n hx hb d_Term_sort_0 rfl (lv_at hl 0 rfl) ?_
  refine va_get (D := (dC, dI)) (ci := 3) (v := .ref (ad 1)) (C := R_Term) (T := F_Term) (N := 7) hx hb hts (fun q hq => List.mem_cons_of_mem _ (i_Term q hq)) hown hK hP 0 rfl rfl 0 (by decide) (hts _ (List.mem_cons_of_mem _ m_2_0)) (fun _ h9 => h9) rfl d_Term_sort_1 ?_
  refine lv_iload_n hx hb d_Term_sort_4 rfl (lv_at hl 1 rfl) ?_
  have hin : vp_in x 200 := by first | assumption | exact vp_in_nI (by omega) (by decide)
  refine va_iald (f := so) (n := 200) hx hb hK hP 1 0 rfl rfl hin d_Term_sort_5 ?_
  refine lm_ri (v := (so x.toNatClampNeg)) hx hb hr hlocks (so, xs, pa, pm, bi, op, zz) ?_ hP hK hD hS d_Term_sort_6
  exact ⟨rfl, rfl⟩
set_option maxHeartbeats 4000000 in
set_option maxRecDepth 100000 in
theorem c_Term_x (l : Launch) (dC : Nat → ClassId) (dI : Nat → Nat → Nat) (cA : ClassId)  (ad : Nat → Nat) (sz : Nat) (S : ZTS) (x : Int32) (hx1 : vp_in x 200) : Met l y_Term_x w_Term_x ({ frames := 0, cells := 0, slots := 0, locals := 0 } : Room) (va_Pc [.ref (ad 0), .int x] (lm_pre (dC, dI) classes [(cA, .int)] (tm_W cA ad S) sz lm_no)) (va_Qi (fun (r : Int32) (u : ZTS) => r = t_xs S x.toNatClampNeg ∧ u = S) (fun u => lm_at (dC, dI) classes [(cA, .int)] (va_A (tm_W cA ad S) sz) (tm_W cA ad u)) (va_A (tm_W cA ad S) sz)) 0 0 (va_A (tm_W cA ad S) sz) := by
  obtain ⟨so, xs, pa, pm, bi, op, zz⟩ := S
  refine lm_met (fun A => va_Qi (fun (r : Int32) (u : ZTS) => r = t_xs (so, xs, pa, pm, bi, op, zz) x.toNatClampNeg ∧ u = (so, xs, pa, pm, bi, op, zz)) (fun u => lm_at (dC, dI) classes [(cA, .int)] A (tm_W cA ad u)) A) (by decide) rfl (Nat.le_of_ble_eq_true rfl) ?_
  intro p e s m below meth c A hx hb hr hts hown hlocks hname hml hK hP hD hA hE hsz hAe hS ls hl
  replace hl : lv_has ls 2 [(0, .ref (ad 0)), (1, .int x)] := hl
  clear hAe hsz
  refine lv_aload_n hx hb d_Term_x_0 rfl (lv_at hl 0 rfl) ?_
  refine va_get (D := (dC, dI)) (ci := 3) (v := .ref (ad 2)) (C := R_Term) (T := F_Term) (N := 7) hx hb hts (fun q hq => List.mem_cons_of_mem _ (i_Term q hq)) hown hK hP 0 rfl rfl 1 (by decide) (hts _ (List.mem_cons_of_mem _ m_2_1)) (fun _ h9 => h9) rfl d_Term_x_1 ?_
  refine lv_iload_n hx hb d_Term_x_4 rfl (lv_at hl 1 rfl) ?_
  have hin : vp_in x 200 := by first | assumption | exact vp_in_nI (by omega) (by decide)
  refine va_iald (f := xs) (n := 200) hx hb hK hP 2 0 rfl rfl hin d_Term_x_5 ?_
  refine lm_ri (v := (xs x.toNatClampNeg)) hx hb hr hlocks (so, xs, pa, pm, bi, op, zz) ?_ hP hK hD hS d_Term_x_6
  exact ⟨rfl, rfl⟩
set_option maxHeartbeats 4000000 in
set_option maxRecDepth 100000 in
theorem c_Term_part (l : Launch) (dC : Nat → ClassId) (dI : Nat → Nat → Nat) (cA : ClassId)  (ad : Nat → Nat) (sz : Nat) (S : ZTS) (x y : Int32) (hx1 : vp_in (x * 3 + y) 600) : Met l y_Term_part w_Term_part ({ frames := 0, cells := 0, slots := 0, locals := 0 } : Room) (va_Pc [.ref (ad 0), .int x, .int y] (lm_pre (dC, dI) classes [(cA, .int)] (tm_W cA ad S) sz lm_no)) (va_Qi (fun (r : Int32) (u : ZTS) => r = tm_part S x y ∧ u = S) (fun u => lm_at (dC, dI) classes [(cA, .int)] (va_A (tm_W cA ad S) sz) (tm_W cA ad u)) (va_A (tm_W cA ad S) sz)) 0 0 (va_A (tm_W cA ad S) sz) := by
  obtain ⟨so, xs, pa, pm, bi, op, zz⟩ := S
  refine lm_met (fun A => va_Qi (fun (r : Int32) (u : ZTS) => r = tm_part (so, xs, pa, pm, bi, op, zz) x y ∧ u = (so, xs, pa, pm, bi, op, zz)) (fun u => lm_at (dC, dI) classes [(cA, .int)] A (tm_W cA ad u)) A) (by decide) rfl (Nat.le_of_ble_eq_true rfl) ?_
  intro p e s m below meth c A hx hb hr hts hown hlocks hname hml hK hP hD hA hE hsz hAe hS ls hl
  replace hl : lv_has ls 3 [(0, .ref (ad 0)), (1, .int x), (2, .int y)] := hl
  clear hAe hsz
  refine lv_aload_n hx hb d_Term_part_0 rfl (lv_at hl 0 rfl) ?_
  refine va_get (D := (dC, dI)) (ci := 3) (v := .ref (ad 3)) (C := R_Term) (T := F_Term) (N := 7) hx hb hts (fun q hq => List.mem_cons_of_mem _ (i_Term q hq)) hown hK hP 0 rfl rfl 2 (by decide) (hts _ (List.mem_cons_of_mem _ m_2_2)) (fun _ h9 => h9) rfl d_Term_part_1 ?_
  refine lv_iload_n hx hb d_Term_part_4 rfl (lv_at hl 1 rfl) ?_
  refine lv_iconst (v := 3) hx hb d_Term_part_5 (by decide) ?_
  refine lv_imul hx hb d_Term_part_6 ?_
  refine lv_iload_n hx hb d_Term_part_7 rfl (lv_at hl 2 rfl) ?_
  refine lv_iadd hx hb d_Term_part_8 ?_
  have hin : vp_in ((x * 3) + y) 600 := by first | assumption | exact vp_in_nI (by omega) (by decide)
  refine va_iald (f := pa) (n := 600) hx hb hK hP 3 0 rfl rfl hin d_Term_part_9 ?_
  refine lm_ri (v := (pa ((x * 3) + y).toNatClampNeg)) hx hb hr hlocks (so, xs, pa, pm, bi, op, zz) ?_ hP hK hD hS d_Term_part_10
  exact ⟨rfl, rfl⟩
set_option maxHeartbeats 4000000 in
set_option maxRecDepth 100000 in
theorem c_Term_clear (l : Launch) (dC : Nat → ClassId) (dI : Nat → Nat → Nat) (cA : ClassId)  (ad : Nat → Nat) (sz : Nat) (S : ZTS)   : Met l y_Term_clear w_Term_clear ({ frames := 0, cells := 0, slots := 0, locals := 0 } : Room) (va_Pc [.ref (ad 0)] (lm_pre (dC, dI) classes [(cA, .int)] (tm_W cA ad S) sz lm_no)) (va_Qv (fun (u : ZTS) => u = tm_clear S) (fun u => lm_at (dC, dI) classes [(cA, .int)] (va_A (tm_W cA ad S) sz) (tm_W cA ad u)) (va_A (tm_W cA ad S) sz)) 0 0 (va_A (tm_W cA ad S) sz) := by
  obtain ⟨so, xs, pa, pm, bi, op, zz⟩ := S
  refine lm_met (fun A => va_Qv (fun (u : ZTS) => u = tm_clear (so, xs, pa, pm, bi, op, zz)) (fun u => lm_at (dC, dI) classes [(cA, .int)] A (tm_W cA ad u)) A) (by decide) rfl (Nat.le_of_ble_eq_true rfl) ?_
  intro p e s m below meth c A hx hb hr hts hown hlocks hname hml hK hP hD hA hE hsz hAe hS ls hl
  replace hl : lv_has ls 1 [(0, .ref (ad 0))] := hl
  clear hAe hsz
  refine lv_aload_n hx hb d_Term_clear_0 rfl (lv_at hl 0 rfl) ?_
  refine lv_iconst (v := 0) hx hb d_Term_clear_1 (by decide) ?_
  refine va_put (D := (dC, dI)) (ci := 3) (v := .int 0) (ty := .int) (C := R_Term) (T := F_Term) (N := 7) hx hb hts (fun q hq => List.mem_cons_of_mem _ (i_Term q hq)) t_Term t_Term_ok n_Term hown hK hP hD hS 0 rfl rfl 6 (by decide) (hts _ (List.mem_cons_of_mem _ m_2_6)) (fun _ h9 => h9) rfl (by decide +kernel) rfl rfl (Nat.le_of_ble_eq_true rfl) d_Term_clear_2 (fun H locs hP hD hS => ?_)
  have hP : va_P (dC, dI) classes (tm_W cA ad (so, xs, pa, pm, bi, op, 0)) H := hP
  have hD : va_D A (tm_W cA ad (so, xs, pa, pm, bi, op, 0)) := hD
  refine lm_rv hx hb hr hlocks (so, xs, pa, pm, bi, op, 0) ?_ hP hK hD hS d_Term_clear_5
  rfl
set_option maxHeartbeats 4000000 in
set_option maxRecDepth 100000 in
theorem c_Term_add (l : Launch) (dC : Nat → ClassId) (dI : Nat → Nat → Nat) (cA : ClassId)  (ad : Nat → Nat) (sz : Nat) (S : ZTS) (y1 y2 : Int32) (hz : tm_ok S) : Met l y_Term_add w_Term_add ({ frames := 0, cells := 0, slots := 0, locals := 0 } : Room) (va_Pc [.ref (ad 0), .int y1, .int y2] (lm_pre (dC, dI) classes [(cA, .int)] (tm_W cA ad S) sz lm_no)) (va_Qi (fun (r : Int32) (u : ZTS) => r = (tm_add S y1 y2).1 ∧ u = (tm_add S y1 y2).2) (fun u => lm_at (dC, dI) classes [(cA, .int)] (va_A (tm_W cA ad S) sz) (tm_W cA ad u)) (va_A (tm_W cA ad S) sz)) 0 0 (va_A (tm_W cA ad S) sz) := by
  obtain ⟨so, xs, pa, pm, bi, op, zz⟩ := S
  obtain ⟨z, hz, hzz⟩ := hz
  have hzz : zz = nI z := hzz
  subst hzz
  refine lm_met (fun A => va_Qi (fun (r : Int32) (u : ZTS) => r = (tm_add (so, xs, pa, pm, bi, op, (nI z)) y1 y2).1 ∧ u = (tm_add (so, xs, pa, pm, bi, op, (nI z)) y1 y2).2) (fun u => lm_at (dC, dI) classes [(cA, .int)] A (tm_W cA ad u)) A) (by decide) rfl (Nat.le_of_ble_eq_true rfl) ?_
  intro p e s m below meth c A hx hb hr hts hown hlocks hname hml hK hP hD hA hE hsz hAe hS ls hl
  replace hl : lv_has ls 3 [(0, .ref (ad 0)), (1, .int y1), (2, .int y2)] := hl
  clear hAe hsz
  refine lv_aload_n hx hb d_Term_add_0 rfl (lv_at hl 0 rfl) ?_
  refine va_get (D := (dC, dI)) (ci := 3) (v := .int (nI z)) (C := R_Term) (T := F_Term) (N := 7) hx hb hts (fun q hq => List.mem_cons_of_mem _ (i_Term q hq)) hown hK hP 0 rfl rfl 6 (by decide) (hts _ (List.mem_cons_of_mem _ m_2_6)) (fun _ h9 => h9) rfl d_Term_add_1 ?_
  refine lv_sipush (v := 200) hx hb d_Term_add_4 (by decide) ?_
  refine lv_icmp_ne hx hb d_Term_add_7 rfl (fun h7 => ?_) (fun h7 => ?_)
  · have hlt : z < 200 := by
      rcases Nat.lt_or_ge z 200 with h9 | h9
      · exact h9
      · exact absurd (by rw [show z = 200 by omega]; rfl) h7
    refine lv_aload_n hx hb d_Term_add_12 rfl (lv_at hl 0 rfl) ?_
    refine va_get (D := (dC, dI)) (ci := 3) (v := .ref (ad 1)) (C := R_Term) (T := F_Term) (N := 7) hx hb hts (fun q hq => List.mem_cons_of_mem _ (i_Term q hq)) hown hK hP 0 rfl rfl 0 (by decide) (hts _ (List.mem_cons_of_mem _ m_2_0)) (fun _ h9 => h9) rfl d_Term_add_13 ?_
    refine lv_aload_n hx hb d_Term_add_16 rfl (lv_at hl 0 rfl) ?_
    refine va_get (D := (dC, dI)) (ci := 3) (v := .int (nI z)) (C := R_Term) (T := F_Term) (N := 7) hx hb hts (fun q hq => List.mem_cons_of_mem _ (i_Term q hq)) hown hK hP 0 rfl rfl 6 (by decide) (hts _ (List.mem_cons_of_mem _ m_2_6)) (fun _ h9 => h9) rfl d_Term_add_17 ?_
    refine lv_iload_n hx hb d_Term_add_20 rfl (lv_at hl 1 rfl) ?_
    have hin : vp_in (nI z) 200 := by first | assumption | exact vp_in_nI (by omega) (by decide)
    refine va_iast (f := so) (n := 200) hx hb hK hP hD hS 1 0 rfl rfl hin d_Term_add_21 (fun H locs hP hD hS => ?_)
    rw [nI_clamp (show z < 2 ^ 31 by omega)] at hP hD
    have hP : va_P (dC, dI) classes (tm_W cA ad ((upd so z y1), xs, pa, pm, bi, op, (nI z))) H := hP
    have hD : va_D A (tm_W cA ad ((upd so z y1), xs, pa, pm, bi, op, (nI z))) := hD
    refine lv_aload_n hx hb d_Term_add_22 rfl (lv_at hl 0 rfl) ?_
    refine va_get (D := (dC, dI)) (ci := 3) (v := .ref (ad 2)) (C := R_Term) (T := F_Term) (N := 7) hx hb hts (fun q hq => List.mem_cons_of_mem _ (i_Term q hq)) hown hK hP 0 rfl rfl 1 (by decide) (hts _ (List.mem_cons_of_mem _ m_2_1)) (fun _ h9 => h9) rfl d_Term_add_23 ?_
    refine lv_aload_n hx hb d_Term_add_26 rfl (lv_at hl 0 rfl) ?_
    refine va_get (D := (dC, dI)) (ci := 3) (v := .int (nI z)) (C := R_Term) (T := F_Term) (N := 7) hx hb hts (fun q hq => List.mem_cons_of_mem _ (i_Term q hq)) hown hK hP 0 rfl rfl 6 (by decide) (hts _ (List.mem_cons_of_mem _ m_2_6)) (fun _ h9 => h9) rfl d_Term_add_27 ?_
    refine lv_iload_n hx hb d_Term_add_30 rfl (lv_at hl 2 rfl) ?_
    have hin : vp_in (nI z) 200 := by first | assumption | exact vp_in_nI (by omega) (by decide)
    refine va_iast (f := xs) (n := 200) hx hb hK hP hD hS 2 0 rfl rfl hin d_Term_add_31 (fun H locs hP hD hS => ?_)
    rw [nI_clamp (show z < 2 ^ 31 by omega)] at hP hD
    have hP : va_P (dC, dI) classes (tm_W cA ad ((upd so z y1), (upd xs z y2), pa, pm, bi, op, (nI z))) H := hP
    have hD : va_D A (tm_W cA ad ((upd so z y1), (upd xs z y2), pa, pm, bi, op, (nI z))) := hD
    refine lv_aload_n hx hb d_Term_add_32 rfl (lv_at hl 0 rfl) ?_
    refine lv_dup hx hb d_Term_add_33 rfl ?_
    refine va_get (D := (dC, dI)) (ci := 3) (v := .int (nI z)) (C := R_Term) (T := F_Term) (N := 7) hx hb hts (fun q hq => List.mem_cons_of_mem _ (i_Term q hq)) hown hK hP 0 rfl rfl 6 (by decide) (hts _ (List.mem_cons_of_mem _ m_2_6)) (fun _ h9 => h9) rfl d_Term_add_34 ?_
    refine lv_iconst (v := 1) hx hb d_Term_add_37 (by decide) ?_
    refine lv_iadd hx hb d_Term_add_38 ?_
    refine lv_topi (fun z_ e_ => ?_)
    have e_ : z_ = nI (z + 1) := e_.trans ((nI_succ z).symm)
    subst e_
    refine va_put (D := (dC, dI)) (ci := 3) (v := .int (nI (z + 1))) (ty := .int) (C := R_Term) (T := F_Term) (N := 7) hx hb hts (fun q hq => List.mem_cons_of_mem _ (i_Term q hq)) t_Term t_Term_ok n_Term hown hK hP hD hS 0 rfl rfl 6 (by decide) (hts _ (List.mem_cons_of_mem _ m_2_6)) (fun _ h9 => h9) rfl (by decide +kernel) rfl rfl (Nat.le_of_ble_eq_true rfl) d_Term_add_39 (fun H locs hP hD hS => ?_)
    have hP : va_P (dC, dI) classes (tm_W cA ad ((upd so z y1), (upd xs z y2), pa, pm, bi, op, (nI (z + 1)))) H := hP
    have hD : va_D A (tm_W cA ad ((upd so z y1), (upd xs z y2), pa, pm, bi, op, (nI (z + 1)))) := hD
    refine lv_iconst (v := 1) hx hb d_Term_add_42 (by decide) ?_
    refine lm_rz (v := 1) hx hb hr hlocks (by decide) ((upd so z y1), (upd xs z y2), pa, pm, bi, op, (nI (z + 1))) ?_ hP hK hD hS d_Term_add_43
    unfold tm_add; rw [if_neg h7]; refine ⟨rfl, ?_⟩; simp only [t_sz, t_so, t_xs, nI_clamp (show z < 2 ^ 31 by omega), nI_succ]
  · refine lv_iconst (v := 0) hx hb d_Term_add_10 (by decide) ?_
    refine lm_rz (v := 0) hx hb hr hlocks (by decide) (so, xs, pa, pm, bi, op, (nI z)) ?_ hP hK hD hS d_Term_add_11
    unfold tm_add; rw [if_pos h7]; exact ⟨rfl, rfl⟩
set_option maxHeartbeats 4000000 in
set_option maxRecDepth 100000 in
theorem c_Term_bindsIn (l : Launch) (dC : Nat → ClassId) (dI : Nat → Nat → Nat) (cA : ClassId)   (sz : Nat)  (y1 y2 : Int32)  : Met l y_Term_bindsIn w_Term_bindsIn ({ frames := 0, cells := 0, slots := 0, locals := 0 } : Room) (va_Pc [.int y1, .int y2] (lm_pre (dC, dI) classes [(cA, .int)] (([] : va_W)) sz lm_no)) (va_Qi (fun (r : Int32) (u : Unit) => r = tm_binds y1 y2 ∧ u = ()) (fun u => lm_at (dC, dI) classes [(cA, .int)] (va_A (([] : va_W)) sz) (([] : va_W))) (va_A (([] : va_W)) sz)) 0 0 (va_A (([] : va_W)) sz) := by
  refine lm_met (fun A => va_Qi (fun (r : Int32) (u : Unit) => r = tm_binds y1 y2 ∧ u = ()) (fun u => lm_at (dC, dI) classes [(cA, .int)] A (([] : va_W))) A) (by decide) rfl (Nat.le_of_ble_eq_true rfl) ?_
  intro p e s m below meth c A hx hb hr hts hown hlocks hname hml hK hP hD hA hE hsz hAe hS ls hl
  replace hl : lv_has ls 2 [(0, .int y1), (1, .int y2)] := hl
  clear hAe hsz
  refine lv_iload_n hx hb d_Term_bindsIn_0 rfl (lv_at hl 0 rfl) ?_
  refine lv_iconst (v := 1) hx hb d_Term_bindsIn_1 (by decide) ?_
  refine lv_icmp_eq hx hb d_Term_bindsIn_2 rfl (fun h2 => ?_) (fun h2 => ?_)
  · refine lv_iconst (v := 1) hx hb d_Term_bindsIn_22 (by decide) ?_
    refine lv_goto hx hb d_Term_bindsIn_23 rfl ?_
    refine lm_rz (v := 1) hx hb hr hlocks (by decide) () ?_ hP hK hD hS d_Term_bindsIn_27
    simp [tm_binds, t_so, t_xs, t_pa, t_pm, t_bi, t_op, t_sz, h2]
  · refine lv_iload_n hx hb d_Term_bindsIn_5 rfl (lv_at hl 0 rfl) ?_
    refine lv_bipush (v := 9) hx hb d_Term_bindsIn_6 (by decide) ?_
    refine lv_icmp_eq hx hb d_Term_bindsIn_8 rfl (fun h8 => ?_) (fun h8 => ?_)
    · refine lv_iconst (v := 1) hx hb d_Term_bindsIn_22 (by decide) ?_
      refine lv_goto hx hb d_Term_bindsIn_23 rfl ?_
      refine lm_rz (v := 1) hx hb hr hlocks (by decide) () ?_ hP hK hD hS d_Term_bindsIn_27
      simp [tm_binds, t_so, t_xs, t_pa, t_pm, t_bi, t_op, t_sz, h2, h8]
    · refine lv_iload_n hx hb d_Term_bindsIn_11 rfl (lv_at hl 0 rfl) ?_
      refine lv_bipush (v := 10) hx hb d_Term_bindsIn_12 (by decide) ?_
      refine lv_icmp_ne hx hb d_Term_bindsIn_14 rfl (fun h14 => ?_) (fun h14 => ?_)
      · refine lv_iconst (v := 0) hx hb d_Term_bindsIn_26 (by decide) ?_
        refine lm_rz (v := 0) hx hb hr hlocks (by decide) () ?_ hP hK hD hS d_Term_bindsIn_27
        simp [tm_binds, t_so, t_xs, t_pa, t_pm, t_bi, t_op, t_sz, h2, h8, h14]
      · refine lv_iload_n hx hb d_Term_bindsIn_17 rfl (lv_at hl 1 rfl) ?_
        refine lv_iconst (v := 1) hx hb d_Term_bindsIn_18 (by decide) ?_
        refine lv_icmp_ne hx hb d_Term_bindsIn_19 rfl (fun h19 => ?_) (fun h19 => ?_)
        · refine lv_iconst (v := 0) hx hb d_Term_bindsIn_26 (by decide) ?_
          refine lm_rz (v := 0) hx hb hr hlocks (by decide) () ?_ hP hK hD hS d_Term_bindsIn_27
          simp [tm_binds, t_so, t_xs, t_pa, t_pm, t_bi, t_op, t_sz, h2, h8, h14, h19]
        · refine lv_iconst (v := 1) hx hb d_Term_bindsIn_22 (by decide) ?_
          refine lv_goto hx hb d_Term_bindsIn_23 rfl ?_
          refine lm_rz (v := 1) hx hb hr hlocks (by decide) () ?_ hP hK hD hS d_Term_bindsIn_27
          simp [tm_binds, t_so, t_xs, t_pa, t_pm, t_bi, t_op, t_sz, h2, h8, h14, h19]
