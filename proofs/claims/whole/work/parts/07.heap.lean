set_option maxHeartbeats 4000000 in
set_option maxRecDepth 100000 in
theorem c_Heap_free (l : Launch) (dC : Nat → ClassId) (dI : Nat → Nat → Nat) (cA : ClassId)  (ad : Nat → Nat) (sz : Nat) (S : ZHS)   : Met l y_Heap_free w_Heap_free ({ frames := 0, cells := 0, slots := 0, locals := 0 } : Room) (va_Pc [.ref (ad 0)] (lm_pre (dC, dI) classes [(cA, .int)] (hp_W cA ad S) sz lm_no)) (va_Qi (fun (r : Int32) (u : ZHS) => r = h_fr S ∧ u = S) (fun u => lm_at (dC, dI) classes [(cA, .int)] (va_A (hp_W cA ad S) sz) (hp_W cA ad u)) (va_A (hp_W cA ad S) sz)) 0 0 (va_A (hp_W cA ad S) sz) := by
  obtain ⟨st, fi, se, fc, mk, re, fr, rd, rc⟩ := S
  refine lm_met (fun A => va_Qi (fun (r : Int32) (u : ZHS) => r = h_fr (st, fi, se, fc, mk, re, fr, rd, rc) ∧ u = (st, fi, se, fc, mk, re, fr, rd, rc)) (fun u => lm_at (dC, dI) classes [(cA, .int)] A (hp_W cA ad u)) A) (by decide) rfl (Nat.le_of_ble_eq_true rfl) ?_
  intro p e s m below meth c A hx hb hr hts hown hlocks hname hml hK hP hD hA hE hsz hAe hS ls hl
  replace hl : lv_has ls 1 [(0, .ref (ad 0))] := hl
  clear hAe hsz
  refine lv_aload_n hx hb d_Heap_free_0 rfl (lv_at hl 0 rfl) ?_
  refine va_get (D := (dC, dI)) (ci := 1) (v := .int fr) (C := R_Heap) (T := F_Heap) (N := 9) hx hb hts (fun q hq => List.mem_cons_of_mem _ (i_Heap q hq)) hown hK hP 0 rfl rfl 6 (by decide) (hts _ (List.mem_cons_of_mem _ m_1_3)) (fun _ h9 => h9) rfl d_Heap_free_1 ?_
  refine lm_ri (v := fr) hx hb hr hlocks (st, fi, se, fc, mk, re, fr, rd, rc) ?_ hP hK hD hS d_Heap_free_4
  exact ⟨rfl, rfl⟩
set_option maxHeartbeats 4000000 in
set_option maxRecDepth 100000 in
theorem c_Heap_state (l : Launch) (dC : Nat → ClassId) (dI : Nat → Nat → Nat) (cA : ClassId)  (ad : Nat → Nat) (sz : Nat) (S : ZHS) (x : Int32) (hx1 : hp_c x) : Met l y_Heap_state w_Heap_state ({ frames := 0, cells := 0, slots := 0, locals := 0 } : Room) (va_Pc [.ref (ad 0), .int x] (lm_pre (dC, dI) classes [(cA, .int)] (hp_W cA ad S) sz lm_no)) (va_Qi (fun (r : Int32) (u : ZHS) => r = hp_state S x ∧ u = S) (fun u => lm_at (dC, dI) classes [(cA, .int)] (va_A (hp_W cA ad S) sz) (hp_W cA ad u)) (va_A (hp_W cA ad S) sz)) 0 0 (va_A (hp_W cA ad S) sz) := by
  obtain ⟨st, fi, se, fc, mk, re, fr, rd, rc⟩ := S
  refine lm_met (fun A => va_Qi (fun (r : Int32) (u : ZHS) => r = hp_state (st, fi, se, fc, mk, re, fr, rd, rc) x ∧ u = (st, fi, se, fc, mk, re, fr, rd, rc)) (fun u => lm_at (dC, dI) classes [(cA, .int)] A (hp_W cA ad u)) A) (by decide) rfl (Nat.le_of_ble_eq_true rfl) ?_
  intro p e s m below meth c A hx hb hr hts hown hlocks hname hml hK hP hD hA hE hsz hAe hS ls hl
  replace hl : lv_has ls 2 [(0, .ref (ad 0)), (1, .int x)] := hl
  clear hAe hsz
  refine lv_iload_n hx hb d_Heap_state_0 rfl (lv_at hl 1 rfl) ?_
  refine lv_iconst (v := -1) hx hb d_Heap_state_1 (by decide) ?_
  refine lv_icmp_ne hx hb d_Heap_state_2 rfl (fun h2 => ?_) (fun h2 => ?_)
  · refine lv_aload_n hx hb d_Heap_state_9 rfl (lv_at hl 0 rfl) ?_
    refine va_get (D := (dC, dI)) (ci := 1) (v := .ref (ad 1)) (C := R_Heap) (T := F_Heap) (N := 9) hx hb hts (fun q hq => List.mem_cons_of_mem _ (i_Heap q hq)) hown hK hP 0 rfl rfl 0 (by decide) (hts _ (List.mem_cons_of_mem _ m_0_21)) (fun _ h9 => h9) rfl d_Heap_state_10 ?_
    refine lv_iload_n hx hb d_Heap_state_13 rfl (lv_at hl 1 rfl) ?_
    have hin : vp_in x 256 := by exact hx1.resolve_left h2
    refine va_iald (f := st) (n := 256) hx hb hK hP 1 0 rfl rfl hin d_Heap_state_14 ?_
    refine lm_ri (v := (st x.toNatClampNeg)) hx hb hr hlocks (st, fi, se, fc, mk, re, fr, rd, rc) ?_ hP hK hD hS d_Heap_state_15
    simp [hp_state, h_st, h_fi, h_se, h_fc, h_mk, h_re, h_fr, h_rd, h_rc, h2]
  · refine lv_iconst (v := 4) hx hb d_Heap_state_5 (by decide) ?_
    refine lv_goto hx hb d_Heap_state_6 rfl ?_
    refine lm_ri (v := 4) hx hb hr hlocks (st, fi, se, fc, mk, re, fr, rd, rc) ?_ hP hK hD hS d_Heap_state_15
    simp [hp_state, h_st, h_fi, h_se, h_fc, h_mk, h_re, h_fr, h_rd, h_rc, h2]
set_option maxHeartbeats 4000000 in
set_option maxRecDepth 100000 in
theorem c_Heap_first (l : Launch) (dC : Nat → ClassId) (dI : Nat → Nat → Nat) (cA : ClassId)  (ad : Nat → Nat) (sz : Nat) (S : ZHS) (x : Int32) (hx1 : hp_c x) : Met l y_Heap_first w_Heap_first ({ frames := 0, cells := 0, slots := 0, locals := 0 } : Room) (va_Pc [.ref (ad 0), .int x] (lm_pre (dC, dI) classes [(cA, .int)] (hp_W cA ad S) sz lm_no)) (va_Qi (fun (r : Int32) (u : ZHS) => r = hp_first S x ∧ u = S) (fun u => lm_at (dC, dI) classes [(cA, .int)] (va_A (hp_W cA ad S) sz) (hp_W cA ad u)) (va_A (hp_W cA ad S) sz)) 0 0 (va_A (hp_W cA ad S) sz) := by
  obtain ⟨st, fi, se, fc, mk, re, fr, rd, rc⟩ := S
  refine lm_met (fun A => va_Qi (fun (r : Int32) (u : ZHS) => r = hp_first (st, fi, se, fc, mk, re, fr, rd, rc) x ∧ u = (st, fi, se, fc, mk, re, fr, rd, rc)) (fun u => lm_at (dC, dI) classes [(cA, .int)] A (hp_W cA ad u)) A) (by decide) rfl (Nat.le_of_ble_eq_true rfl) ?_
  intro p e s m below meth c A hx hb hr hts hown hlocks hname hml hK hP hD hA hE hsz hAe hS ls hl
  replace hl : lv_has ls 2 [(0, .ref (ad 0)), (1, .int x)] := hl
  clear hAe hsz
  refine lv_iload_n hx hb d_Heap_first_0 rfl (lv_at hl 1 rfl) ?_
  refine lv_iconst (v := -1) hx hb d_Heap_first_1 (by decide) ?_
  refine lv_icmp_ne hx hb d_Heap_first_2 rfl (fun h2 => ?_) (fun h2 => ?_)
  · refine lv_aload_n hx hb d_Heap_first_9 rfl (lv_at hl 0 rfl) ?_
    refine va_get (D := (dC, dI)) (ci := 1) (v := .ref (ad 2)) (C := R_Heap) (T := F_Heap) (N := 9) hx hb hts (fun q hq => List.mem_cons_of_mem _ (i_Heap q hq)) hown hK hP 0 rfl rfl 1 (by decide) (hts _ (List.mem_cons_of_mem _ m_0_22)) (fun _ h9 => h9) rfl d_Heap_first_10 ?_
    refine lv_iload_n hx hb d_Heap_first_13 rfl (lv_at hl 1 rfl) ?_
    have hin : vp_in x 256 := by exact hx1.resolve_left h2
    refine va_iald (f := fi) (n := 256) hx hb hK hP 2 0 rfl rfl hin d_Heap_first_14 ?_
    refine lm_ri (v := (fi x.toNatClampNeg)) hx hb hr hlocks (st, fi, se, fc, mk, re, fr, rd, rc) ?_ hP hK hD hS d_Heap_first_15
    simp [hp_first, h_st, h_fi, h_se, h_fc, h_mk, h_re, h_fr, h_rd, h_rc, h2]
  · refine lv_iconst (v := -1) hx hb d_Heap_first_5 (by decide) ?_
    refine lv_goto hx hb d_Heap_first_6 rfl ?_
    refine lm_ri (v := (-1)) hx hb hr hlocks (st, fi, se, fc, mk, re, fr, rd, rc) ?_ hP hK hD hS d_Heap_first_15
    simp [hp_first, h_st, h_fi, h_se, h_fc, h_mk, h_re, h_fr, h_rd, h_rc, h2]
set_option maxHeartbeats 4000000 in
set_option maxRecDepth 100000 in
theorem c_Heap_second (l : Launch) (dC : Nat → ClassId) (dI : Nat → Nat → Nat) (cA : ClassId)  (ad : Nat → Nat) (sz : Nat) (S : ZHS) (x : Int32) (hx1 : hp_c x) : Met l y_Heap_second w_Heap_second ({ frames := 0, cells := 0, slots := 0, locals := 0 } : Room) (va_Pc [.ref (ad 0), .int x] (lm_pre (dC, dI) classes [(cA, .int)] (hp_W cA ad S) sz lm_no)) (va_Qi (fun (r : Int32) (u : ZHS) => r = hp_second S x ∧ u = S) (fun u => lm_at (dC, dI) classes [(cA, .int)] (va_A (hp_W cA ad S) sz) (hp_W cA ad u)) (va_A (hp_W cA ad S) sz)) 0 0 (va_A (hp_W cA ad S) sz) := by
  obtain ⟨st, fi, se, fc, mk, re, fr, rd, rc⟩ := S
  refine lm_met (fun A => va_Qi (fun (r : Int32) (u : ZHS) => r = hp_second (st, fi, se, fc, mk, re, fr, rd, rc) x ∧ u = (st, fi, se, fc, mk, re, fr, rd, rc)) (fun u => lm_at (dC, dI) classes [(cA, .int)] A (hp_W cA ad u)) A) (by decide) rfl (Nat.le_of_ble_eq_true rfl) ?_
  intro p e s m below meth c A hx hb hr hts hown hlocks hname hml hK hP hD hA hE hsz hAe hS ls hl
  replace hl : lv_has ls 2 [(0, .ref (ad 0)), (1, .int x)] := hl
  clear hAe hsz
  refine lv_iload_n hx hb d_Heap_second_0 rfl (lv_at hl 1 rfl) ?_
  refine lv_iconst (v := -1) hx hb d_Heap_second_1 (by decide) ?_
  refine lv_icmp_ne hx hb d_Heap_second_2 rfl (fun h2 => ?_) (fun h2 => ?_)
  · refine lv_aload_n hx hb d_Heap_second_9 rfl (lv_at hl 0 rfl) ?_
    refine va_get (D := (dC, dI)) (ci := 1) (v := .ref (ad 3)) (C := R_Heap) (T := F_Heap) (N := 9) hx hb hts (fun q hq => List.mem_cons_of_mem _ (i_Heap q hq)) hown hK hP 0 rfl rfl 2 (by decide) (hts _ (List.mem_cons_of_mem _ m_0_23)) (fun _ h9 => h9) rfl d_Heap_second_10 ?_
    refine lv_iload_n hx hb d_Heap_second_13 rfl (lv_at hl 1 rfl) ?_
    have hin : vp_in x 256 := by exact hx1.resolve_left h2
    refine va_iald (f := se) (n := 256) hx hb hK hP 3 0 rfl rfl hin d_Heap_second_14 ?_
    refine lm_ri (v := (se x.toNatClampNeg)) hx hb hr hlocks (st, fi, se, fc, mk, re, fr, rd, rc) ?_ hP hK hD hS d_Heap_second_15
    simp [hp_second, h_st, h_fi, h_se, h_fc, h_mk, h_re, h_fr, h_rd, h_rc, h2]
  · refine lv_iconst (v := -1) hx hb d_Heap_second_5 (by decide) ?_
    refine lv_goto hx hb d_Heap_second_6 rfl ?_
    refine lm_ri (v := (-1)) hx hb hr hlocks (st, fi, se, fc, mk, re, fr, rd, rc) ?_ hP hK hD hS d_Heap_second_15
    simp [hp_second, h_st, h_fi, h_se, h_fc, h_mk, h_re, h_fr, h_rd, h_rc, h2]
set_option maxHeartbeats 4000000 in
set_option maxRecDepth 100000 in
theorem c_Heap_become (l : Launch) (dC : Nat → ClassId) (dI : Nat → Nat → Nat) (cA : ClassId)  (ad : Nat → Nat) (sz : Nat) (S : ZHS) (x y1 y2 y3 : Int32) (hx1 : hp_c x) : Met l y_Heap_become w_Heap_become ({ frames := 0, cells := 0, slots := 0, locals := 0 } : Room) (va_Pc [.ref (ad 0), .int x, .int y1, .int y2, .int y3] (lm_pre (dC, dI) classes [(cA, .int)] (hp_W cA ad S) sz lm_no)) (va_Qv (fun (u : ZHS) => u = hp_become S x y1 y2 y3) (fun u => lm_at (dC, dI) classes [(cA, .int)] (va_A (hp_W cA ad S) sz) (hp_W cA ad u)) (va_A (hp_W cA ad S) sz)) 0 0 (va_A (hp_W cA ad S) sz) := by
  obtain ⟨st, fi, se, fc, mk, re, fr, rd, rc⟩ := S
  refine lm_met (fun A => va_Qv (fun (u : ZHS) => u = hp_become (st, fi, se, fc, mk, re, fr, rd, rc) x y1 y2 y3) (fun u => lm_at (dC, dI) classes [(cA, .int)] A (hp_W cA ad u)) A) (by decide) rfl (Nat.le_of_ble_eq_true rfl) ?_
  intro p e s m below meth c A hx hb hr hts hown hlocks hname hml hK hP hD hA hE hsz hAe hS ls hl
  replace hl : lv_has ls 5 [(0, .ref (ad 0)), (1, .int x), (2, .int y1), (3, .int y2), (4, .int y3)] := hl
  clear hAe hsz
  refine lv_iload_n hx hb d_Heap_become_0 rfl (lv_at hl 1 rfl) ?_
  refine lv_iconst (v := -1) hx hb d_Heap_become_1 (by decide) ?_
  refine lv_icmp_ne hx hb d_Heap_become_2 rfl (fun h2 => ?_) (fun h2 => ?_)
  · refine lv_aload_n hx hb d_Heap_become_6 rfl (lv_at hl 0 rfl) ?_
    refine va_get (D := (dC, dI)) (ci := 1) (v := .ref (ad 1)) (C := R_Heap) (T := F_Heap) (N := 9) hx hb hts (fun q hq => List.mem_cons_of_mem _ (i_Heap q hq)) hown hK hP 0 rfl rfl 0 (by decide) (hts _ (List.mem_cons_of_mem _ m_0_21)) (fun _ h9 => h9) rfl d_Heap_become_7 ?_
    refine lv_iload_n hx hb d_Heap_become_10 rfl (lv_at hl 1 rfl) ?_
    refine lv_iload_n hx hb d_Heap_become_11 rfl (lv_at hl 2 rfl) ?_
    have hin : vp_in x 256 := by exact hx1.resolve_left h2
    refine va_iast (f := st) (n := 256) hx hb hK hP hD hS 1 0 rfl rfl hin d_Heap_become_12 (fun H locs hP hD hS => ?_)
    have hP : va_P (dC, dI) classes (hp_W cA ad ((upd st x.toNatClampNeg y1), fi, se, fc, mk, re, fr, rd, rc)) H := hP
    have hD : va_D A (hp_W cA ad ((upd st x.toNatClampNeg y1), fi, se, fc, mk, re, fr, rd, rc)) := hD
    refine lv_aload_n hx hb d_Heap_become_13 rfl (lv_at hl 0 rfl) ?_
    refine va_get (D := (dC, dI)) (ci := 1) (v := .ref (ad 2)) (C := R_Heap) (T := F_Heap) (N := 9) hx hb hts (fun q hq => List.mem_cons_of_mem _ (i_Heap q hq)) hown hK hP 0 rfl rfl 1 (by decide) (hts _ (List.mem_cons_of_mem _ m_0_22)) (fun _ h9 => h9) rfl d_Heap_become_14 ?_
    refine lv_iload_n hx hb d_Heap_become_17 rfl (lv_at hl 1 rfl) ?_
    refine lv_iload_n hx hb d_Heap_become_18 rfl (lv_at hl 3 rfl) ?_
    have hin : vp_in x 256 := by exact hx1.resolve_left h2
    refine va_iast (f := fi) (n := 256) hx hb hK hP hD hS 2 0 rfl rfl hin d_Heap_become_19 (fun H locs hP hD hS => ?_)
    have hP : va_P (dC, dI) classes (hp_W cA ad ((upd st x.toNatClampNeg y1), (upd fi x.toNatClampNeg y2), se, fc, mk, re, fr, rd, rc)) H := hP
    have hD : va_D A (hp_W cA ad ((upd st x.toNatClampNeg y1), (upd fi x.toNatClampNeg y2), se, fc, mk, re, fr, rd, rc)) := hD
    refine lv_aload_n hx hb d_Heap_become_20 rfl (lv_at hl 0 rfl) ?_
    refine va_get (D := (dC, dI)) (ci := 1) (v := .ref (ad 3)) (C := R_Heap) (T := F_Heap) (N := 9) hx hb hts (fun q hq => List.mem_cons_of_mem _ (i_Heap q hq)) hown hK hP 0 rfl rfl 2 (by decide) (hts _ (List.mem_cons_of_mem _ m_0_23)) (fun _ h9 => h9) rfl d_Heap_become_21 ?_
    refine lv_iload_n hx hb d_Heap_become_24 rfl (lv_at hl 1 rfl) ?_
    refine lv_iload hx hb d_Heap_become_25 (lv_at hl 4 rfl) ?_
    have hin : vp_in x 256 := by exact hx1.resolve_left h2
    refine va_iast (f := se) (n := 256) hx hb hK hP hD hS 3 0 rfl rfl hin d_Heap_become_27 (fun H locs hP hD hS => ?_)
    have hP : va_P (dC, dI) classes (hp_W cA ad ((upd st x.toNatClampNeg y1), (upd fi x.toNatClampNeg y2), (upd se x.toNatClampNeg y3), fc, mk, re, fr, rd, rc)) H := hP
    have hD : va_D A (hp_W cA ad ((upd st x.toNatClampNeg y1), (upd fi x.toNatClampNeg y2), (upd se x.toNatClampNeg y3), fc, mk, re, fr, rd, rc)) := hD
    refine lm_rv hx hb hr hlocks ((upd st x.toNatClampNeg y1), (upd fi x.toNatClampNeg y2), (upd se x.toNatClampNeg y3), fc, mk, re, fr, rd, rc) ?_ hP hK hD hS d_Heap_become_28
    simp [hp_become, h_st, h_fi, h_se, h_fc, h_mk, h_re, h_fr, h_rd, h_rc, h2]
  · refine lm_rv hx hb hr hlocks (st, fi, se, fc, mk, re, fr, rd, rc) ?_ hP hK hD hS d_Heap_become_5
    simp [hp_become, h_st, h_fi, h_se, h_fc, h_mk, h_re, h_fr, h_rd, h_rc, h2]
set_option maxHeartbeats 4000000 in
set_option maxRecDepth 100000 in
theorem c_Heap_beginMarks (l : Launch) (dC : Nat → ClassId) (dI : Nat → Nat → Nat) (cA : ClassId)  (ad : Nat → Nat) (sz : Nat) (S : ZHS)   : Met l y_Heap_beginMarks w_Heap_beginMarks ({ frames := 0, cells := 0, slots := 0, locals := 0 } : Room) (va_Pc [.ref (ad 0)] (lm_pre (dC, dI) classes [(cA, .int)] (hp_W cA ad S) sz lm_no)) (va_Qv (fun (u : ZHS) => u = hp_begin S) (fun u => lm_at (dC, dI) classes [(cA, .int)] (va_A (hp_W cA ad S) sz) (hp_W cA ad u)) (va_A (hp_W cA ad S) sz)) 0 0 (va_A (hp_W cA ad S) sz) := by
  obtain ⟨st, fi, se, fc, mk, re, fr, rd, rc⟩ := S
  refine lm_met (fun A => va_Qv (fun (u : ZHS) => u = hp_begin (st, fi, se, fc, mk, re, fr, rd, rc)) (fun u => lm_at (dC, dI) classes [(cA, .int)] A (hp_W cA ad u)) A) (by decide) rfl (Nat.le_of_ble_eq_true rfl) ?_
  intro p e s m below meth c A hx hb hr hts hown hlocks hname hml hK hP hD hA hE hsz hAe hS ls hl
  replace hl : lv_has ls 1 [(0, .ref (ad 0))] := hl
  clear hAe hsz
  refine lv_aload_n hx hb d_Heap_beginMarks_0 rfl (lv_at hl 0 rfl) ?_
  refine lv_dup hx hb d_Heap_beginMarks_1 rfl ?_
  refine va_get (D := (dC, dI)) (ci := 1) (v := .int rd) (C := R_Heap) (T := F_Heap) (N := 9) hx hb hts (fun q hq => List.mem_cons_of_mem _ (i_Heap q hq)) hown hK hP 0 rfl rfl 7 (by decide) (hts _ (List.mem_cons_of_mem _ m_1_4)) (fun _ h9 => h9) rfl d_Heap_beginMarks_2 ?_
  refine lv_iconst (v := 1) hx hb d_Heap_beginMarks_5 (by decide) ?_
  refine lv_iadd hx hb d_Heap_beginMarks_6 ?_
  refine va_put (D := (dC, dI)) (ci := 1) (v := .int (rd + 1)) (ty := .int) (C := R_Heap) (T := F_Heap) (N := 9) hx hb hts (fun q hq => List.mem_cons_of_mem _ (i_Heap q hq)) t_Heap t_Heap_ok n_Heap hown hK hP hD hS 0 rfl rfl 7 (by decide) (hts _ (List.mem_cons_of_mem _ m_1_4)) (fun _ h9 => h9) rfl (by decide +kernel) rfl rfl (Nat.le_of_ble_eq_true rfl) d_Heap_beginMarks_7 (fun H locs hP hD hS => ?_)
  have hP : va_P (dC, dI) classes (hp_W cA ad (st, fi, se, fc, mk, re, fr, (rd + 1), rc)) H := hP
  have hD : va_D A (hp_W cA ad (st, fi, se, fc, mk, re, fr, (rd + 1), rc)) := hD
  refine lv_aload_n hx hb d_Heap_beginMarks_10 rfl (lv_at hl 0 rfl) ?_
  refine lv_iconst (v := 0) hx hb d_Heap_beginMarks_11 (by decide) ?_
  refine va_put (D := (dC, dI)) (ci := 1) (v := .int 0) (ty := .int) (C := R_Heap) (T := F_Heap) (N := 9) hx hb hts (fun q hq => List.mem_cons_of_mem _ (i_Heap q hq)) t_Heap t_Heap_ok n_Heap hown hK hP hD hS 0 rfl rfl 8 (by decide) (hts _ (List.mem_cons_of_mem _ m_1_5)) (fun _ h9 => h9) rfl (by decide +kernel) rfl rfl (Nat.le_of_ble_eq_true rfl) d_Heap_beginMarks_12 (fun H locs hP hD hS => ?_)
  have hP : va_P (dC, dI) classes (hp_W cA ad (st, fi, se, fc, mk, re, fr, (rd + 1), 0)) H := hP
  have hD : va_D A (hp_W cA ad (st, fi, se, fc, mk, re, fr, (rd + 1), 0)) := hD
  refine lm_rv hx hb hr hlocks (st, fi, se, fc, mk, re, fr, (rd + 1), 0) ?_ hP hK hD hS d_Heap_beginMarks_15
  rfl
set_option maxHeartbeats 4000000 in
set_option maxRecDepth 100000 in
theorem c_Heap_take (l : Launch) (dC : Nat → ClassId) (dI : Nat → Nat → Nat) (cA : ClassId)  (ad : Nat → Nat) (sz : Nat) (S : ZHS) (y1 y2 y3 : Int32) (hf : hp_fok S) : Met l y_Heap_take w_Heap_take ({ frames := 1, cells := 0, slots := 0, locals := 24 } : Room) (va_Pc [.ref (ad 0), .int y1, .int y2, .int y3] (lm_pre (dC, dI) classes [(cA, .int)] (hp_W cA ad S) sz lm_no)) (va_Qi (fun (r : Int32) (u : ZHS) => r = (hp_take S y1 y2 y3).1 ∧ u = (hp_take S y1 y2 y3).2) (fun u => lm_at (dC, dI) classes [(cA, .int)] (va_A (hp_W cA ad S) sz) (hp_W cA ad u)) (va_A (hp_W cA ad S) sz)) 0 0 (va_A (hp_W cA ad S) sz) := by
  obtain ⟨st, fi, se, fc, mk, re, fr, rd, rc⟩ := S
  obtain ⟨f, hf, hfr, hfc⟩ := hf
  have hfr : fr = nI f := hfr
  have hfc : ∀ j, j < f → vp_in (fc j) 256 := hfc
  subst hfr
  refine lm_met (fun A => va_Qi (fun (r : Int32) (u : ZHS) => r = (hp_take (st, fi, se, fc, mk, re, (nI f), rd, rc) y1 y2 y3).1 ∧ u = (hp_take (st, fi, se, fc, mk, re, (nI f), rd, rc) y1 y2 y3).2) (fun u => lm_at (dC, dI) classes [(cA, .int)] A (hp_W cA ad u)) A) (by decide) rfl (Nat.le_of_ble_eq_true rfl) ?_
  intro p e s m below meth c A hx hb hr hts hown hlocks hname hml hK hP hD hA hE hsz hAe hS ls hl
  replace hl : lv_has ls 5 [(0, .ref (ad 0)), (1, .int y1), (2, .int y2), (3, .int y3)] := hl
  clear hAe hsz
  refine lv_aload_n hx hb d_Heap_take_0 rfl (lv_at hl 0 rfl) ?_
  refine va_get (D := (dC, dI)) (ci := 1) (v := .int (nI f)) (C := R_Heap) (T := F_Heap) (N := 9) hx hb hts (fun q hq => List.mem_cons_of_mem _ (i_Heap q hq)) hown hK hP 0 rfl rfl 6 (by decide) (hts _ (List.mem_cons_of_mem _ m_1_3)) (fun _ h9 => h9) rfl d_Heap_take_1 ?_
  refine lv_if_ne hx hb d_Heap_take_4 rfl (fun h4 => ?_) (fun h4 => ?_)
  · obtain ⟨g, rfl⟩ : ∃ g, f = g + 1 := by
      rcases f with _ | g
      · exact absurd nI_0 h4
      · exact ⟨g, rfl⟩
    refine lv_aload_n hx hb d_Heap_take_9 rfl (lv_at hl 0 rfl) ?_
    refine lv_dup hx hb d_Heap_take_10 rfl ?_
    refine va_get (D := (dC, dI)) (ci := 1) (v := .int (nI (g + 1))) (C := R_Heap) (T := F_Heap) (N := 9) hx hb hts (fun q hq => List.mem_cons_of_mem _ (i_Heap q hq)) hown hK hP 0 rfl rfl 6 (by decide) (hts _ (List.mem_cons_of_mem _ m_1_3)) (fun _ h9 => h9) rfl d_Heap_take_11 ?_
    refine lv_iconst (v := 1) hx hb d_Heap_take_14 (by decide) ?_
    refine lv_isub hx hb d_Heap_take_15 ?_
    refine lv_topi (fun z_ e_ => ?_)
    have e_ : z_ = nI g := e_.trans (nI_pred g)
    subst e_
    refine va_put (D := (dC, dI)) (ci := 1) (v := .int (nI g)) (ty := .int) (C := R_Heap) (T := F_Heap) (N := 9) hx hb hts (fun q hq => List.mem_cons_of_mem _ (i_Heap q hq)) t_Heap t_Heap_ok n_Heap hown hK hP hD hS 0 rfl rfl 6 (by decide) (hts _ (List.mem_cons_of_mem _ m_1_3)) (fun _ h9 => h9) rfl (by decide +kernel) rfl rfl (Nat.le_of_ble_eq_true rfl) d_Heap_take_16 (fun H locs hP hD hS => ?_)
    have hP : va_P (dC, dI) classes (hp_W cA ad (st, fi, se, fc, mk, re, (nI g), rd, rc)) H := hP
    have hD : va_D A (hp_W cA ad (st, fi, se, fc, mk, re, (nI g), rd, rc)) := hD
    refine lv_aload_n hx hb d_Heap_take_19 rfl (lv_at hl 0 rfl) ?_
    refine va_get (D := (dC, dI)) (ci := 1) (v := .ref (ad 4)) (C := R_Heap) (T := F_Heap) (N := 9) hx hb hts (fun q hq => List.mem_cons_of_mem _ (i_Heap q hq)) hown hK hP 0 rfl rfl 3 (by decide) (hts _ (List.mem_cons_of_mem _ m_1_0)) (fun _ h9 => h9) rfl d_Heap_take_20 ?_
    refine lv_aload_n hx hb d_Heap_take_23 rfl (lv_at hl 0 rfl) ?_
    refine va_get (D := (dC, dI)) (ci := 1) (v := .int (nI g)) (C := R_Heap) (T := F_Heap) (N := 9) hx hb hts (fun q hq => List.mem_cons_of_mem _ (i_Heap q hq)) hown hK hP 0 rfl rfl 6 (by decide) (hts _ (List.mem_cons_of_mem _ m_1_3)) (fun _ h9 => h9) rfl d_Heap_take_24 ?_
    have hin : vp_in (nI g) 256 := by first | assumption | exact vp_in_nI (by omega) (by decide)
    refine va_iald (f := fc) (n := 256) hx hb hK hP 4 0 rfl rfl hin d_Heap_take_27 ?_
    rw [nI_clamp (show g < 2 ^ 31 by omega)]
    refine lv_istore (lv' := [(4, .int (fc g)), (0, .ref (ad 0)), (1, .int y1), (2, .int y2), (3, .int y3)]) hx hb d_Heap_take_28 hl (by decide) rfl (fun ls hl => ?_)
    refine lv_aload_n hx hb d_Heap_take_30 rfl (lv_at hl 1 rfl) ?_
    refine lv_iload hx hb d_Heap_take_31 (lv_at hl 0 rfl) ?_
    refine lv_iload_n hx hb d_Heap_take_33 rfl (lv_at hl 2 rfl) ?_
    refine lv_iload_n hx hb d_Heap_take_34 rfl (lv_at hl 3 rfl) ?_
    refine lv_iload_n hx hb d_Heap_take_35 rfl (lv_at hl 4 rfl) ?_
    refine lm_vv (b := ad 0) (As := [.int (fc g), .int y1, .int y2, .int y3]) (rest := []) (wr := ([] : va_W)) ⟨hx, hb, hml, hown, hts⟩ hK hP hD hS hA [0, 1, 2, 3, 4, 5, 6] [] rfl rfl (by decide) (by decide) (by decide) (c_Heap_become l dC dI cA ad _ (st, fi, se, fc, mk, re, (nI g), rd, rc) (fc g) y1 y2 y3 (by exact Or.inr (hfc g (by omega)))) (cwV 4 hts (lm_gV m_9_2 m_8_1 m_8_2 m_0_2 m_8_3) rfl rfl rfl (by decide +kernel) ⟨Nat.le_of_ble_eq_true rfl, Nat.le_of_ble_eq_true rfl⟩) (va_recv (q0 := 0) hK hP rfl rfl) lm_bl_no (fun _ _ _ => trivial) hl.1 rfl rfl (Nat.le_of_ble_eq_true rfl) d_Heap_take_36 ⟨Nat.le_of_ble_eq_true rfl, Nat.le_of_ble_eq_true rfl⟩ (fun u36 H locs w36 hP hD hS => ?_)
    have hP : va_P (dC, dI) classes (hp_W cA ad u36) H := hP
    have hD : va_D A (hp_W cA ad u36) := hD
    refine lv_iload hx hb d_Heap_take_39 (lv_at hl 0 rfl) ?_
    refine lm_ri (v := (fc g)) hx hb hr hlocks u36 ?_ hP hK hD hS d_Heap_take_41
    subst w36; unfold hp_take; rw [if_neg h4]; simp only [h_fr, h_fc, nI_pred]; rw [nI_clamp (show g < 2 ^ 31 by omega)]; exact ⟨rfl, rfl⟩
  · refine lv_iconst (v := -1) hx hb d_Heap_take_7 (by decide) ?_
    refine lm_ri (v := (-1)) hx hb hr hlocks (st, fi, se, fc, mk, re, (nI f), rd, rc) ?_ hP hK hD hS d_Heap_take_8
    unfold hp_take; rw [if_pos h4]; exact ⟨rfl, rfl⟩
set_option maxHeartbeats 4000000 in
set_option maxRecDepth 100000 in
theorem c_Heap_reach (l : Launch) (dC : Nat → ClassId) (dI : Nat → Nat → Nat) (cA : ClassId)  (ad : Nat → Nat) (sz : Nat) (S : ZHS) (x : Int32) (hx1 : hp_c x) (hm : hp_mk S) : Met l y_Heap_reach w_Heap_reach ({ frames := 0, cells := 0, slots := 0, locals := 0 } : Room) (va_Pc [.ref (ad 0), .int x] (lm_pre (dC, dI) classes [(cA, .int)] (hp_W cA ad S) sz lm_no)) (va_Qv (fun (u : ZHS) => u = hp_reach S x) (fun u => lm_at (dC, dI) classes [(cA, .int)] (va_A (hp_W cA ad S) sz) (hp_W cA ad u)) (va_A (hp_W cA ad S) sz)) 0 0 (va_A (hp_W cA ad S) sz) := by
  obtain ⟨st, fi, se, fc, mk, re, fr, rd, rc⟩ := S
  refine lm_met (fun A => va_Qv (fun (u : ZHS) => u = hp_reach (st, fi, se, fc, mk, re, fr, rd, rc) x) (fun u => lm_at (dC, dI) classes [(cA, .int)] A (hp_W cA ad u)) A) (by decide) rfl (Nat.le_of_ble_eq_true rfl) ?_
  intro p e s m below meth c A hx hb hr hts hown hlocks hname hml hK hP hD hA hE hsz hAe hS ls hl
  replace hl : lv_has ls 2 [(0, .ref (ad 0)), (1, .int x)] := hl
  clear hAe hsz
  refine lv_iload_n hx hb d_Heap_reach_0 rfl (lv_at hl 1 rfl) ?_
  refine lv_iconst (v := -1) hx hb d_Heap_reach_1 (by decide) ?_
  refine lv_icmp_eq hx hb d_Heap_reach_2 rfl (fun h2 => ?_) (fun h2 => ?_)
  · refine lm_rv hx hb hr hlocks (st, fi, se, fc, mk, re, fr, rd, rc) ?_ hP hK hD hS d_Heap_reach_18
    simp [hp_reach, h_st, h_fi, h_se, h_fc, h_mk, h_re, h_fr, h_rd, h_rc, h2]
  · refine lv_aload_n hx hb d_Heap_reach_5 rfl (lv_at hl 0 rfl) ?_
    refine va_get (D := (dC, dI)) (ci := 1) (v := .ref (ad 5)) (C := R_Heap) (T := F_Heap) (N := 9) hx hb hts (fun q hq => List.mem_cons_of_mem _ (i_Heap q hq)) hown hK hP 0 rfl rfl 4 (by decide) (hts _ (List.mem_cons_of_mem _ m_1_1)) (fun _ h9 => h9) rfl d_Heap_reach_6 ?_
    refine lv_iload_n hx hb d_Heap_reach_9 rfl (lv_at hl 1 rfl) ?_
    have hin : vp_in x 256 := by exact hx1.resolve_left h2
    refine va_iald (f := mk) (n := 256) hx hb hK hP 5 0 rfl rfl hin d_Heap_reach_10 ?_
    refine lv_aload_n hx hb d_Heap_reach_11 rfl (lv_at hl 0 rfl) ?_
    refine va_get (D := (dC, dI)) (ci := 1) (v := .int rd) (C := R_Heap) (T := F_Heap) (N := 9) hx hb hts (fun q hq => List.mem_cons_of_mem _ (i_Heap q hq)) hown hK hP 0 rfl rfl 7 (by decide) (hts _ (List.mem_cons_of_mem _ m_1_4)) (fun _ h9 => h9) rfl d_Heap_reach_12 ?_
    refine lv_icmp_ne hx hb d_Heap_reach_15 rfl (fun h15 => ?_) (fun h15 => ?_)
    · refine lv_aload_n hx hb d_Heap_reach_19 rfl (lv_at hl 0 rfl) ?_
      refine va_get (D := (dC, dI)) (ci := 1) (v := .ref (ad 5)) (C := R_Heap) (T := F_Heap) (N := 9) hx hb hts (fun q hq => List.mem_cons_of_mem _ (i_Heap q hq)) hown hK hP 0 rfl rfl 4 (by decide) (hts _ (List.mem_cons_of_mem _ m_1_1)) (fun _ h9 => h9) rfl d_Heap_reach_20 ?_
      refine lv_iload_n hx hb d_Heap_reach_23 rfl (lv_at hl 1 rfl) ?_
      refine lv_aload_n hx hb d_Heap_reach_24 rfl (lv_at hl 0 rfl) ?_
      refine va_get (D := (dC, dI)) (ci := 1) (v := .int rd) (C := R_Heap) (T := F_Heap) (N := 9) hx hb hts (fun q hq => List.mem_cons_of_mem _ (i_Heap q hq)) hown hK hP 0 rfl rfl 7 (by decide) (hts _ (List.mem_cons_of_mem _ m_1_4)) (fun _ h9 => h9) rfl d_Heap_reach_25 ?_
      have hin : vp_in x 256 := by exact hx1.resolve_left h2
      refine va_iast (f := mk) (n := 256) hx hb hK hP hD hS 5 0 rfl rfl hin d_Heap_reach_28 (fun H locs hP hD hS => ?_)
      have hP : va_P (dC, dI) classes (hp_W cA ad (st, fi, se, fc, (upd mk x.toNatClampNeg rd), re, fr, rd, rc)) H := hP
      have hD : va_D A (hp_W cA ad (st, fi, se, fc, (upd mk x.toNatClampNeg rd), re, fr, rd, rc)) := hD
      refine lv_aload_n hx hb d_Heap_reach_29 rfl (lv_at hl 0 rfl) ?_
      refine va_get (D := (dC, dI)) (ci := 1) (v := .ref (ad 6)) (C := R_Heap) (T := F_Heap) (N := 9) hx hb hts (fun q hq => List.mem_cons_of_mem _ (i_Heap q hq)) hown hK hP 0 rfl rfl 5 (by decide) (hts _ (List.mem_cons_of_mem _ m_1_2)) (fun _ h9 => h9) rfl d_Heap_reach_30 ?_
      refine lv_aload_n hx hb d_Heap_reach_33 rfl (lv_at hl 0 rfl) ?_
      refine va_get (D := (dC, dI)) (ci := 1) (v := .int rc) (C := R_Heap) (T := F_Heap) (N := 9) hx hb hts (fun q hq => List.mem_cons_of_mem _ (i_Heap q hq)) hown hK hP 0 rfl rfl 8 (by decide) (hts _ (List.mem_cons_of_mem _ m_1_5)) (fun _ h9 => h9) rfl d_Heap_reach_34 ?_
      refine lv_iload_n hx hb d_Heap_reach_37 rfl (lv_at hl 1 rfl) ?_
      have hin : vp_in rc 256 := by obtain ⟨k, hk, hrc⟩ := hp_roomy hm (hx1.resolve_left h2) h15; have hrc : rc = nI k := hrc; rw [hrc]; exact vp_in_nI hk (by decide)
      refine va_iast (f := re) (n := 256) hx hb hK hP hD hS 6 0 rfl rfl hin d_Heap_reach_38 (fun H locs hP hD hS => ?_)
      have hP : va_P (dC, dI) classes (hp_W cA ad (st, fi, se, fc, (upd mk x.toNatClampNeg rd), (upd re rc.toNatClampNeg x), fr, rd, rc)) H := hP
      have hD : va_D A (hp_W cA ad (st, fi, se, fc, (upd mk x.toNatClampNeg rd), (upd re rc.toNatClampNeg x), fr, rd, rc)) := hD
      refine lv_aload_n hx hb d_Heap_reach_39 rfl (lv_at hl 0 rfl) ?_
      refine lv_dup hx hb d_Heap_reach_40 rfl ?_
      refine va_get (D := (dC, dI)) (ci := 1) (v := .int rc) (C := R_Heap) (T := F_Heap) (N := 9) hx hb hts (fun q hq => List.mem_cons_of_mem _ (i_Heap q hq)) hown hK hP 0 rfl rfl 8 (by decide) (hts _ (List.mem_cons_of_mem _ m_1_5)) (fun _ h9 => h9) rfl d_Heap_reach_41 ?_
      refine lv_iconst (v := 1) hx hb d_Heap_reach_44 (by decide) ?_
      refine lv_iadd hx hb d_Heap_reach_45 ?_
      refine va_put (D := (dC, dI)) (ci := 1) (v := .int (rc + 1)) (ty := .int) (C := R_Heap) (T := F_Heap) (N := 9) hx hb hts (fun q hq => List.mem_cons_of_mem _ (i_Heap q hq)) t_Heap t_Heap_ok n_Heap hown hK hP hD hS 0 rfl rfl 8 (by decide) (hts _ (List.mem_cons_of_mem _ m_1_5)) (fun _ h9 => h9) rfl (by decide +kernel) rfl rfl (Nat.le_of_ble_eq_true rfl) d_Heap_reach_46 (fun H locs hP hD hS => ?_)
      have hP : va_P (dC, dI) classes (hp_W cA ad (st, fi, se, fc, (upd mk x.toNatClampNeg rd), (upd re rc.toNatClampNeg x), fr, rd, (rc + 1))) H := hP
      have hD : va_D A (hp_W cA ad (st, fi, se, fc, (upd mk x.toNatClampNeg rd), (upd re rc.toNatClampNeg x), fr, rd, (rc + 1))) := hD
      refine lm_rv hx hb hr hlocks (st, fi, se, fc, (upd mk x.toNatClampNeg rd), (upd re rc.toNatClampNeg x), fr, rd, (rc + 1)) ?_ hP hK hD hS d_Heap_reach_49
      simp [hp_reach, h_st, h_fi, h_se, h_fc, h_mk, h_re, h_fr, h_rd, h_rc, h2, h15]
    · refine lm_rv hx hb hr hlocks (st, fi, se, fc, mk, re, fr, rd, rc) ?_ hP hK hD hS d_Heap_reach_18
      simp [hp_reach, h_st, h_fi, h_se, h_fc, h_mk, h_re, h_fr, h_rd, h_rc, h2, h15]
set_option maxHeartbeats 4000000 in
set_option maxRecDepth 100000 in
theorem c_Heap_reachFrom (l : Launch) (dC : Nat → ClassId) (dI : Nat → Nat → Nat) (cA : ClassId)  (ad : Nat → Nat) (sz : Nat) (S : ZHS) (y1 y2 y3 : Int32) (hb1 : y1 = 5 ∨ y1 = 2 → hp_c y2) (hc1 : hp_c y3) (hm : hp_mk S) : Met l y_Heap_reachFrom w_Heap_reachFrom ({ frames := 1, cells := 0, slots := 0, locals := 21 } : Room) (va_Pc [.ref (ad 0), .int y1, .int y2, .int y3] (lm_pre (dC, dI) classes [(cA, .int)] (hp_W cA ad S) sz lm_no)) (va_Qv (fun (u : ZHS) => u = hp_from S y1 y2 y3) (fun u => lm_at (dC, dI) classes [(cA, .int)] (va_A (hp_W cA ad S) sz) (hp_W cA ad u)) (va_A (hp_W cA ad S) sz)) 0 0 (va_A (hp_W cA ad S) sz) := by
  obtain ⟨st, fi, se, fc, mk, re, fr, rd, rc⟩ := S
  refine lm_met (fun A => va_Qv (fun (u : ZHS) => u = hp_from (st, fi, se, fc, mk, re, fr, rd, rc) y1 y2 y3) (fun u => lm_at (dC, dI) classes [(cA, .int)] A (hp_W cA ad u)) A) (by decide) rfl (Nat.le_of_ble_eq_true rfl) ?_
  intro p e s m below meth c A hx hb hr hts hown hlocks hname hml hK hP hD hA hE hsz hAe hS ls hl
  replace hl : lv_has ls 4 [(0, .ref (ad 0)), (1, .int y1), (2, .int y2), (3, .int y3)] := hl
  clear hAe hsz
  refine lv_iload_n hx hb d_Heap_reachFrom_0 rfl (lv_at hl 1 rfl) ?_
  refine lv_iconst (v := 5) hx hb d_Heap_reachFrom_1 (by decide) ?_
  refine lv_icmp_eq hx hb d_Heap_reachFrom_2 rfl (fun h2 => ?_) (fun h2 => ?_)
  · refine lv_aload_n hx hb d_Heap_reachFrom_10 rfl (lv_at hl 0 rfl) ?_
    refine lv_iload_n hx hb d_Heap_reachFrom_11 rfl (lv_at hl 2 rfl) ?_
    refine lm_vv (b := ad 0) (As := [.int y2]) (rest := []) (wr := ([] : va_W)) ⟨hx, hb, hml, hown, hts⟩ hK hP hD hS hA [0, 1, 2, 3, 4, 5, 6] [] rfl rfl (by decide) (by decide) (by decide) (c_Heap_reach l dC dI cA ad _ (st, fi, se, fc, mk, re, fr, rd, rc) y2 (by first | exact hb1 (Or.inl h2) | exact hb1 (Or.inr h7)) (by exact hm)) (cwV 1 hts (lm_gV m_5_8 m_5_9 m_5_10 m_0_2 m_5_11) rfl rfl rfl (by decide +kernel) ⟨Nat.le_of_ble_eq_true rfl, Nat.le_of_ble_eq_true rfl⟩) (va_recv (q0 := 0) hK hP rfl rfl) lm_bl_no (fun _ _ _ => trivial) hl.1 rfl rfl (Nat.le_of_ble_eq_true rfl) d_Heap_reachFrom_12 ⟨Nat.le_of_ble_eq_true rfl, Nat.le_of_ble_eq_true rfl⟩ (fun u12 H locs w12 hP hD hS => ?_)
    have hP : va_P (dC, dI) classes (hp_W cA ad u12) H := hP
    have hD : va_D A (hp_W cA ad u12) := hD
    refine lv_aload_n hx hb d_Heap_reachFrom_15 rfl (lv_at hl 0 rfl) ?_
    refine lv_iload_n hx hb d_Heap_reachFrom_16 rfl (lv_at hl 3 rfl) ?_
    refine lm_vv (b := ad 0) (As := [.int y3]) (rest := []) (wr := ([] : va_W)) ⟨hx, hb, hml, hown, hts⟩ hK hP hD hS hA [0, 1, 2, 3, 4, 5, 6] [] rfl rfl (by decide) (by decide) (by decide) (c_Heap_reach l dC dI cA ad _ u12 y3 (by exact hc1) (by rw [w12]; exact hp_mk_reach hm (by first | exact hb1 (Or.inl h2) | exact hb1 (Or.inr h7)))) (cwV 1 hts (lm_gV m_5_8 m_5_9 m_5_10 m_0_2 m_5_11) rfl rfl rfl (by decide +kernel) ⟨Nat.le_of_ble_eq_true rfl, Nat.le_of_ble_eq_true rfl⟩) (va_recv (q0 := 0) hK hP rfl rfl) lm_bl_no (fun _ _ _ => trivial) hl.1 rfl rfl (Nat.le_of_ble_eq_true rfl) d_Heap_reachFrom_17 ⟨Nat.le_of_ble_eq_true rfl, Nat.le_of_ble_eq_true rfl⟩ (fun u17 H locs w17 hP hD hS => ?_)
    have hP : va_P (dC, dI) classes (hp_W cA ad u17) H := hP
    have hD : va_D A (hp_W cA ad u17) := hD
    refine lv_goto hx hb d_Heap_reachFrom_20 rfl ?_
    refine lm_rv hx hb hr hlocks u17 ?_ hP hK hD hS d_Heap_reachFrom_38
    subst w12 w17; simp [hp_from, h_st, h_fi, h_se, h_fc, h_mk, h_re, h_fr, h_rd, h_rc, h2]
  · refine lv_iload_n hx hb d_Heap_reachFrom_5 rfl (lv_at hl 1 rfl) ?_
    refine lv_iconst (v := 2) hx hb d_Heap_reachFrom_6 (by decide) ?_
    refine lv_icmp_ne hx hb d_Heap_reachFrom_7 rfl (fun h7 => ?_) (fun h7 => ?_)
    · refine lv_iload_n hx hb d_Heap_reachFrom_23 rfl (lv_at hl 1 rfl) ?_
      refine lv_iconst (v := 3) hx hb d_Heap_reachFrom_24 (by decide) ?_
      refine lv_icmp_eq hx hb d_Heap_reachFrom_25 rfl (fun h25 => ?_) (fun h25 => ?_)
      · refine lv_aload_n hx hb d_Heap_reachFrom_33 rfl (lv_at hl 0 rfl) ?_
        refine lv_iload_n hx hb d_Heap_reachFrom_34 rfl (lv_at hl 3 rfl) ?_
        refine lm_vv (b := ad 0) (As := [.int y3]) (rest := []) (wr := ([] : va_W)) ⟨hx, hb, hml, hown, hts⟩ hK hP hD hS hA [0, 1, 2, 3, 4, 5, 6] [] rfl rfl (by decide) (by decide) (by decide) (c_Heap_reach l dC dI cA ad _ (st, fi, se, fc, mk, re, fr, rd, rc) y3 (by exact hc1) (by exact hm)) (cwV 1 hts (lm_gV m_5_8 m_5_9 m_5_10 m_0_2 m_5_11) rfl rfl rfl (by decide +kernel) ⟨Nat.le_of_ble_eq_true rfl, Nat.le_of_ble_eq_true rfl⟩) (va_recv (q0 := 0) hK hP rfl rfl) lm_bl_no (fun _ _ _ => trivial) hl.1 rfl rfl (Nat.le_of_ble_eq_true rfl) d_Heap_reachFrom_35 ⟨Nat.le_of_ble_eq_true rfl, Nat.le_of_ble_eq_true rfl⟩ (fun u35 H locs w35 hP hD hS => ?_)
        have hP : va_P (dC, dI) classes (hp_W cA ad u35) H := hP
        have hD : va_D A (hp_W cA ad u35) := hD
        refine lm_rv hx hb hr hlocks u35 ?_ hP hK hD hS d_Heap_reachFrom_38
        subst w35; simp [hp_from, h_st, h_fi, h_se, h_fc, h_mk, h_re, h_fr, h_rd, h_rc, h2, h7, h25]
      · refine lv_iload_n hx hb d_Heap_reachFrom_28 rfl (lv_at hl 1 rfl) ?_
        refine lv_iconst (v := 1) hx hb d_Heap_reachFrom_29 (by decide) ?_
        refine lv_icmp_ne hx hb d_Heap_reachFrom_30 rfl (fun h30 => ?_) (fun h30 => ?_)
        · refine lm_rv hx hb hr hlocks (st, fi, se, fc, mk, re, fr, rd, rc) ?_ hP hK hD hS d_Heap_reachFrom_38
          simp [hp_from, h_st, h_fi, h_se, h_fc, h_mk, h_re, h_fr, h_rd, h_rc, h2, h7, h25, h30]
        · refine lv_aload_n hx hb d_Heap_reachFrom_33 rfl (lv_at hl 0 rfl) ?_
          refine lv_iload_n hx hb d_Heap_reachFrom_34 rfl (lv_at hl 3 rfl) ?_
          refine lm_vv (b := ad 0) (As := [.int y3]) (rest := []) (wr := ([] : va_W)) ⟨hx, hb, hml, hown, hts⟩ hK hP hD hS hA [0, 1, 2, 3, 4, 5, 6] [] rfl rfl (by decide) (by decide) (by decide) (c_Heap_reach l dC dI cA ad _ (st, fi, se, fc, mk, re, fr, rd, rc) y3 (by exact hc1) (by exact hm)) (cwV 1 hts (lm_gV m_5_8 m_5_9 m_5_10 m_0_2 m_5_11) rfl rfl rfl (by decide +kernel) ⟨Nat.le_of_ble_eq_true rfl, Nat.le_of_ble_eq_true rfl⟩) (va_recv (q0 := 0) hK hP rfl rfl) lm_bl_no (fun _ _ _ => trivial) hl.1 rfl rfl (Nat.le_of_ble_eq_true rfl) d_Heap_reachFrom_35 ⟨Nat.le_of_ble_eq_true rfl, Nat.le_of_ble_eq_true rfl⟩ (fun u35 H locs w35 hP hD hS => ?_)
          have hP : va_P (dC, dI) classes (hp_W cA ad u35) H := hP
          have hD : va_D A (hp_W cA ad u35) := hD
          refine lm_rv hx hb hr hlocks u35 ?_ hP hK hD hS d_Heap_reachFrom_38
          subst w35; simp [hp_from, h_st, h_fi, h_se, h_fc, h_mk, h_re, h_fr, h_rd, h_rc, h2, h7, h25, h30]
    · refine lv_aload_n hx hb d_Heap_reachFrom_10 rfl (lv_at hl 0 rfl) ?_
      refine lv_iload_n hx hb d_Heap_reachFrom_11 rfl (lv_at hl 2 rfl) ?_
      refine lm_vv (b := ad 0) (As := [.int y2]) (rest := []) (wr := ([] : va_W)) ⟨hx, hb, hml, hown, hts⟩ hK hP hD hS hA [0, 1, 2, 3, 4, 5, 6] [] rfl rfl (by decide) (by decide) (by decide) (c_Heap_reach l dC dI cA ad _ (st, fi, se, fc, mk, re, fr, rd, rc) y2 (by first | exact hb1 (Or.inl h2) | exact hb1 (Or.inr h7)) (by exact hm)) (cwV 1 hts (lm_gV m_5_8 m_5_9 m_5_10 m_0_2 m_5_11) rfl rfl rfl (by decide +kernel) ⟨Nat.le_of_ble_eq_true rfl, Nat.le_of_ble_eq_true rfl⟩) (va_recv (q0 := 0) hK hP rfl rfl) lm_bl_no (fun _ _ _ => trivial) hl.1 rfl rfl (Nat.le_of_ble_eq_true rfl) d_Heap_reachFrom_12 ⟨Nat.le_of_ble_eq_true rfl, Nat.le_of_ble_eq_true rfl⟩ (fun u12 H locs w12 hP hD hS => ?_)
      have hP : va_P (dC, dI) classes (hp_W cA ad u12) H := hP
      have hD : va_D A (hp_W cA ad u12) := hD
      refine lv_aload_n hx hb d_Heap_reachFrom_15 rfl (lv_at hl 0 rfl) ?_
      refine lv_iload_n hx hb d_Heap_reachFrom_16 rfl (lv_at hl 3 rfl) ?_
      refine lm_vv (b := ad 0) (As := [.int y3]) (rest := []) (wr := ([] : va_W)) ⟨hx, hb, hml, hown, hts⟩ hK hP hD hS hA [0, 1, 2, 3, 4, 5, 6] [] rfl rfl (by decide) (by decide) (by decide) (c_Heap_reach l dC dI cA ad _ u12 y3 (by exact hc1) (by rw [w12]; exact hp_mk_reach hm (by first | exact hb1 (Or.inl h2) | exact hb1 (Or.inr h7)))) (cwV 1 hts (lm_gV m_5_8 m_5_9 m_5_10 m_0_2 m_5_11) rfl rfl rfl (by decide +kernel) ⟨Nat.le_of_ble_eq_true rfl, Nat.le_of_ble_eq_true rfl⟩) (va_recv (q0 := 0) hK hP rfl rfl) lm_bl_no (fun _ _ _ => trivial) hl.1 rfl rfl (Nat.le_of_ble_eq_true rfl) d_Heap_reachFrom_17 ⟨Nat.le_of_ble_eq_true rfl, Nat.le_of_ble_eq_true rfl⟩ (fun u17 H locs w17 hP hD hS => ?_)
      have hP : va_P (dC, dI) classes (hp_W cA ad u17) H := hP
      have hD : va_D A (hp_W cA ad u17) := hD
      refine lv_goto hx hb d_Heap_reachFrom_20 rfl ?_
      refine lm_rv hx hb hr hlocks u17 ?_ hP hK hD hS d_Heap_reachFrom_38
      subst w12 w17; simp [hp_from, h_st, h_fi, h_se, h_fc, h_mk, h_re, h_fr, h_rd, h_rc, h2, h7]
set_option maxHeartbeats 4000000 in
set_option maxRecDepth 100000 in
theorem c_Heap_spreadMarks (l : Launch) (dC : Nat → ClassId) (dI : Nat → Nat → Nat) (cA : ClassId)  (ad : Nat → Nat) (sz : Nat) (S : ZHS)  (hm : hp_mk S) (ho : hp_ok S) : Met l y_Heap_spreadMarks w_Heap_spreadMarks ({ frames := 2, cells := 0, slots := 0, locals := 44 } : Room) (va_Pc [.ref (ad 0)] (lm_pre (dC, dI) classes [(cA, .int)] (hp_W cA ad S) sz lm_no)) (va_Qi (fun (r : Int32) (u : ZHS) => r = h_rc (hp_spread S) ∧ u = hp_spread S) (fun u => lm_at (dC, dI) classes [(cA, .int)] (va_A (hp_W cA ad S) sz) (hp_W cA ad u)) (va_A (hp_W cA ad S) sz)) 0 0 (va_A (hp_W cA ad S) sz) := by
  obtain ⟨st, fi, se, fc, mk, re, fr, rd, rc⟩ := S
  refine lm_met (fun A => va_Qi (fun (r : Int32) (u : ZHS) => r = h_rc (hp_spread (st, fi, se, fc, mk, re, fr, rd, rc)) ∧ u = hp_spread (st, fi, se, fc, mk, re, fr, rd, rc)) (fun u => lm_at (dC, dI) classes [(cA, .int)] A (hp_W cA ad u)) A) (by decide) rfl (Nat.le_of_ble_eq_true rfl) ?_
  intro p e s m below meth c A hx hb hr hts hown hlocks hname hml hK hP hD hA hE hsz hAe hS ls hl
  replace hl : lv_has ls 3 [(0, .ref (ad 0))] := hl
  clear hAe hsz
  refine lv_iconst (v := 0) hx hb d_Heap_spreadMarks_0 (by decide) ?_
  refine lv_istore_n (lv' := [(1, .int 0), (0, .ref (ad 0))]) hx hb d_Heap_spreadMarks_1 rfl hl (by decide) rfl (fun ls hl => ?_)
  have loop : ∀ (fu : Nat) (k : Nat) (Z : ZHS) (ls : Array Slot) (H : Heap) (locs : List Loc), (k + fu = 256) → (hp_mk Z) → (hp_ok Z) → (hp_spread (st, fi, se, fc, mk, re, fr, rd, rc) = hp_spreadN fu k Z) → lv_has ls 3 [(1, .int (nI k)), (0, .ref (ad 0))] → va_P (dC, dI) classes (hp_W cA ad Z) H → va_D A (hp_W cA ad Z) → va_S A s.heap H locs → W p l e (headSpec w_Heap_spreadMarks ({ frames := 2, cells := 0, slots := 0, locals := 44 } : Room)).room s m (List.toArray [.ref (ad 0)]) below meth c H locs 0 0 (MQ below (va_Qi (fun (r : Int32) (u : ZHS) => r = h_rc (hp_spread (st, fi, se, fc, mk, re, fr, rd, rc)) ∧ u = hp_spread (st, fi, se, fc, mk, re, fr, rd, rc)) (fun u => lm_at (dC, dI) classes [(cA, .int)] A (hp_W cA ad u)) A) (List.toArray [.ref (ad 0)]) s 0 0 A) (F0 m 2 ls []) := by
    intro fu
    induction fu with
    | zero => 
      intro k Z ls H locs hk hZ hZ2 hq hl hP hD hS
      refine lv_iload_n hx hb d_Heap_spreadMarks_2 rfl (lv_at hl 0 rfl) ?_
      refine lv_aload_n hx hb d_Heap_spreadMarks_3 rfl (lv_at hl 1 rfl) ?_
      refine va_get (D := (dC, dI)) (ci := 1) (v := .int Z.2.2.2.2.2.2.2.2) (C := R_Heap) (T := F_Heap) (N := 9) hx hb hts (fun q hq => List.mem_cons_of_mem _ (i_Heap q hq)) hown hK hP 0 rfl rfl 8 (by decide) (hts _ (List.mem_cons_of_mem _ m_1_5)) (fun _ h9 => h9) rfl d_Heap_spreadMarks_4 ?_
      refine lv_icmp_ge hx hb d_Heap_spreadMarks_7 rfl (fun h7 => ?_) (fun h7 => ?_)
      · refine lv_aload_n hx hb d_Heap_spreadMarks_52 rfl (lv_at hl 1 rfl) ?_
        refine va_get (D := (dC, dI)) (ci := 1) (v := .int Z.2.2.2.2.2.2.2.2) (C := R_Heap) (T := F_Heap) (N := 9) hx hb hts (fun q hq => List.mem_cons_of_mem _ (i_Heap q hq)) hown hK hP 0 rfl rfl 8 (by decide) (hts _ (List.mem_cons_of_mem _ m_1_5)) (fun _ h9 => h9) rfl d_Heap_spreadMarks_53 ?_
        refine lm_ri (v := Z.2.2.2.2.2.2.2.2) hx hb hr hlocks Z ?_ hP hK hD hS d_Heap_spreadMarks_56
        first | (rw [hq, hp_spreadN, if_pos h7]; exact ⟨rfl, rfl⟩) | (rw [hq, hp_spreadN]; exact ⟨rfl, rfl⟩)
      · refine lv_iload_n hx hb d_Heap_spreadMarks_10 rfl (lv_at hl 0 rfl) ?_
        refine lv_sipush (v := 256) hx hb d_Heap_spreadMarks_11 (by decide) ?_
        refine lv_icmp_ge hx hb d_Heap_spreadMarks_14 rfl (fun h14 => ?_) (fun h14 => by exact absurd (show (256 : Int32) ≤ nI k from nI_le (a := 256) (by omega) (by omega)) h14)
        refine lv_aload_n hx hb d_Heap_spreadMarks_52 rfl (lv_at hl 1 rfl) ?_
        refine va_get (D := (dC, dI)) (ci := 1) (v := .int Z.2.2.2.2.2.2.2.2) (C := R_Heap) (T := F_Heap) (N := 9) hx hb hts (fun q hq => List.mem_cons_of_mem _ (i_Heap q hq)) hown hK hP 0 rfl rfl 8 (by decide) (hts _ (List.mem_cons_of_mem _ m_1_5)) (fun _ h9 => h9) rfl d_Heap_spreadMarks_53 ?_
        refine lm_ri (v := Z.2.2.2.2.2.2.2.2) hx hb hr hlocks Z ?_ hP hK hD hS d_Heap_spreadMarks_56
        first | (rw [hq, hp_spreadN, if_pos h7]; exact ⟨rfl, rfl⟩) | (rw [hq, hp_spreadN]; exact ⟨rfl, rfl⟩)
    | succ fu ih => 
      intro k Z ls H locs hk hZ hZ2 hq hl hP hD hS
      refine lv_iload_n hx hb d_Heap_spreadMarks_2 rfl (lv_at hl 0 rfl) ?_
      refine lv_aload_n hx hb d_Heap_spreadMarks_3 rfl (lv_at hl 1 rfl) ?_
      refine va_get (D := (dC, dI)) (ci := 1) (v := .int Z.2.2.2.2.2.2.2.2) (C := R_Heap) (T := F_Heap) (N := 9) hx hb hts (fun q hq => List.mem_cons_of_mem _ (i_Heap q hq)) hown hK hP 0 rfl rfl 8 (by decide) (hts _ (List.mem_cons_of_mem _ m_1_5)) (fun _ h9 => h9) rfl d_Heap_spreadMarks_4 ?_
      refine lv_icmp_ge hx hb d_Heap_spreadMarks_7 rfl (fun h7 => ?_) (fun h7 => ?_)
      · refine lv_aload_n hx hb d_Heap_spreadMarks_52 rfl (lv_at hl 1 rfl) ?_
        refine va_get (D := (dC, dI)) (ci := 1) (v := .int Z.2.2.2.2.2.2.2.2) (C := R_Heap) (T := F_Heap) (N := 9) hx hb hts (fun q hq => List.mem_cons_of_mem _ (i_Heap q hq)) hown hK hP 0 rfl rfl 8 (by decide) (hts _ (List.mem_cons_of_mem _ m_1_5)) (fun _ h9 => h9) rfl d_Heap_spreadMarks_53 ?_
        refine lm_ri (v := Z.2.2.2.2.2.2.2.2) hx hb hr hlocks Z ?_ hP hK hD hS d_Heap_spreadMarks_56
        first | (rw [hq, hp_spreadN, if_pos h7]; exact ⟨rfl, rfl⟩) | (rw [hq, hp_spreadN]; exact ⟨rfl, rfl⟩)
      · refine lv_iload_n hx hb d_Heap_spreadMarks_10 rfl (lv_at hl 0 rfl) ?_
        refine lv_sipush (v := 256) hx hb d_Heap_spreadMarks_11 (by decide) ?_
        refine lv_icmp_ge hx hb d_Heap_spreadMarks_14 rfl (fun h14 => by exact absurd h14 (nI_ge (b := 256) (by omega) (by decide))) (fun h14 => ?_)
        refine lv_aload_n hx hb d_Heap_spreadMarks_17 rfl (lv_at hl 1 rfl) ?_
        refine va_get (D := (dC, dI)) (ci := 1) (v := .ref (ad 6)) (C := R_Heap) (T := F_Heap) (N := 9) hx hb hts (fun q hq => List.mem_cons_of_mem _ (i_Heap q hq)) hown hK hP 0 rfl rfl 5 (by decide) (hts _ (List.mem_cons_of_mem _ m_1_2)) (fun _ h9 => h9) rfl d_Heap_spreadMarks_18 ?_
        refine lv_iload_n hx hb d_Heap_spreadMarks_21 rfl (lv_at hl 0 rfl) ?_
        have hin : vp_in (nI k) 256 := by exact vp_in_nI (by omega) (by decide)
        refine va_iald (f := Z.2.2.2.2.2.1) (n := 256) hx hb hK hP 6 0 rfl rfl hin d_Heap_spreadMarks_22 ?_
        rw [nI_clamp (show k < 2 ^ 31 by omega)]
        refine lv_istore_n (lv' := [(2, .int (Z.2.2.2.2.2.1 k)), (1, .int (nI k)), (0, .ref (ad 0))]) hx hb d_Heap_spreadMarks_23 rfl hl (by decide) rfl (fun ls hl => ?_)
        have hin : vp_in (h_re Z k) 256 := by
          obtain ⟨n, hn, hrc, hre, _⟩ := hZ
          exact (hre k (by
            rcases Nat.lt_or_ge k n with h9 | h9
            · exact h9
            · exact absurd (by show h_rc Z ≤ nI k; rw [hrc]; exact nI_le h9 (by omega)) h7)).1
        refine lv_aload_n hx hb d_Heap_spreadMarks_24 rfl (lv_at hl 2 rfl) ?_
        refine lv_aload_n hx hb d_Heap_spreadMarks_25 rfl (lv_at hl 2 rfl) ?_
        refine va_get (D := (dC, dI)) (ci := 1) (v := .ref (ad 1)) (C := R_Heap) (T := F_Heap) (N := 9) hx hb hts (fun q hq => List.mem_cons_of_mem _ (i_Heap q hq)) hown hK hP 0 rfl rfl 0 (by decide) (hts _ (List.mem_cons_of_mem _ m_0_21)) (fun _ h9 => h9) rfl d_Heap_spreadMarks_26 ?_
        refine lv_iload_n hx hb d_Heap_spreadMarks_29 rfl (lv_at hl 0 rfl) ?_
        have hin : vp_in (Z.2.2.2.2.2.1 k) 256 := by exact hin
        refine va_iald (f := Z.1) (n := 256) hx hb hK hP 1 0 rfl rfl hin d_Heap_spreadMarks_30 ?_
        refine lv_aload_n hx hb d_Heap_spreadMarks_31 rfl (lv_at hl 2 rfl) ?_
        refine va_get (D := (dC, dI)) (ci := 1) (v := .ref (ad 2)) (C := R_Heap) (T := F_Heap) (N := 9) hx hb hts (fun q hq => List.mem_cons_of_mem _ (i_Heap q hq)) hown hK hP 0 rfl rfl 1 (by decide) (hts _ (List.mem_cons_of_mem _ m_0_22)) (fun _ h9 => h9) rfl d_Heap_spreadMarks_32 ?_
        refine lv_iload_n hx hb d_Heap_spreadMarks_35 rfl (lv_at hl 0 rfl) ?_
        have hin : vp_in (Z.2.2.2.2.2.1 k) 256 := by exact hin
        refine va_iald (f := Z.2.1) (n := 256) hx hb hK hP 2 0 rfl rfl hin d_Heap_spreadMarks_36 ?_
        refine lv_aload_n hx hb d_Heap_spreadMarks_37 rfl (lv_at hl 2 rfl) ?_
        refine va_get (D := (dC, dI)) (ci := 1) (v := .ref (ad 3)) (C := R_Heap) (T := F_Heap) (N := 9) hx hb hts (fun q hq => List.mem_cons_of_mem _ (i_Heap q hq)) hown hK hP 0 rfl rfl 2 (by decide) (hts _ (List.mem_cons_of_mem _ m_0_23)) (fun _ h9 => h9) rfl d_Heap_spreadMarks_38 ?_
        refine lv_iload_n hx hb d_Heap_spreadMarks_41 rfl (lv_at hl 0 rfl) ?_
        have hin : vp_in (Z.2.2.2.2.2.1 k) 256 := by exact hin
        refine va_iald (f := Z.2.2.1) (n := 256) hx hb hK hP 3 0 rfl rfl hin d_Heap_spreadMarks_42 ?_
        refine lm_vv (b := ad 0) (As := [.int (Z.1 (Z.2.2.2.2.2.1 k).toNatClampNeg), .int (Z.2.1 (Z.2.2.2.2.2.1 k).toNatClampNeg), .int (Z.2.2.1 (Z.2.2.2.2.2.1 k).toNatClampNeg)]) (rest := []) (wr := ([] : va_W)) ⟨hx, hb, hml, hown, hts⟩ hK hP hD hS hA [0, 1, 2, 3, 4, 5, 6] [] rfl rfl (by decide) (by decide) (by decide) (c_Heap_reachFrom l dC dI cA ad _ Z (Z.1 (Z.2.2.2.2.2.1 k).toNatClampNeg) (Z.2.1 (Z.2.2.2.2.2.1 k).toNatClampNeg) (Z.2.2.1 (Z.2.2.2.2.2.1 k).toNatClampNeg) (by exact fun q => (hZ2 _ (hp_in_lt hin (by decide))).1 q) (by exact (hZ2 _ (hp_in_lt hin (by decide))).2) (by exact hZ)) (cwV 3 hts (lm_gV m_5_22 m_5_5 m_5_6 m_0_2 m_5_7) rfl rfl rfl (by decide +kernel) ⟨Nat.le_of_ble_eq_true rfl, Nat.le_of_ble_eq_true rfl⟩) (va_recv (q0 := 0) hK hP rfl rfl) lm_bl_no (fun _ _ _ => trivial) hl.1 rfl rfl (Nat.le_of_ble_eq_true rfl) d_Heap_spreadMarks_43 ⟨Nat.le_of_ble_eq_true rfl, Nat.le_of_ble_eq_true rfl⟩ (fun u43 H locs w43 hP hD hS => ?_)
        have hP : va_P (dC, dI) classes (hp_W cA ad u43) H := hP
        have hD : va_D A (hp_W cA ad u43) := hD
        refine lv_iinc (k := 1) (v := (nI (k + 1))) (lv' := [(1, .int (nI (k + 1))), (2, .int (Z.2.2.2.2.2.1 k)), (0, .ref (ad 0))]) hx hb d_Heap_spreadMarks_46 hl rfl ((nI_succ k).symm) (by decide) rfl (fun ls hl => ?_)
        refine lv_goto hx hb d_Heap_spreadMarks_49 rfl ?_
        exact ih (k + 1) u43 _ _ _ (by omega) (by rw [w43]; exact hp_mk_from hZ (fun q => (hZ2 _ (hp_in_lt hin (by decide))).1 q) (hZ2 _ (hp_in_lt hin (by decide))).2) (by rw [w43]; exact hp_ok_from hZ2) (by rw [hq, w43, hp_spreadN, if_neg h7]) (lv_sub hl [0, 2] rfl) hP hD hS
  exact loop 256 0 (st, fi, se, fc, mk, re, fr, rd, rc) _ _ _ (by omega) (by exact hm) (by exact ho) (by rfl) hl hP hD hS
set_option maxHeartbeats 4000000 in
set_option maxRecDepth 100000 in
theorem c_Heap_freeUnreached (l : Launch) (dC : Nat → ClassId) (dI : Nat → Nat → Nat) (cA : ClassId)  (ad : Nat → Nat) (sz : Nat) (S : ZHS)   : Met l y_Heap_freeUnreached w_Heap_freeUnreached ({ frames := 0, cells := 0, slots := 0, locals := 0 } : Room) (va_Pc [.ref (ad 0)] (lm_pre (dC, dI) classes [(cA, .int)] (hp_W cA ad S) sz lm_no)) (va_Qv (fun (u : ZHS) => u = hp_sweep S) (fun u => lm_at (dC, dI) classes [(cA, .int)] (va_A (hp_W cA ad S) sz) (hp_W cA ad u)) (va_A (hp_W cA ad S) sz)) 0 0 (va_A (hp_W cA ad S) sz) := by
  obtain ⟨st, fi, se, fc, mk, re, fr, rd, rc⟩ := S
  refine lm_met (fun A => va_Qv (fun (u : ZHS) => u = hp_sweep (st, fi, se, fc, mk, re, fr, rd, rc)) (fun u => lm_at (dC, dI) classes [(cA, .int)] A (hp_W cA ad u)) A) (by decide) rfl (Nat.le_of_ble_eq_true rfl) ?_
  intro p e s m below meth c A hx hb hr hts hown hlocks hname hml hK hP hD hA hE hsz hAe hS ls hl
  replace hl : lv_has ls 2 [(0, .ref (ad 0))] := hl
  clear hAe hsz
  refine lv_aload_n hx hb d_Heap_freeUnreached_0 rfl (lv_at hl 0 rfl) ?_
  refine lv_iconst (v := 0) hx hb d_Heap_freeUnreached_1 (by decide) ?_
  refine va_put (D := (dC, dI)) (ci := 1) (v := .int 0) (ty := .int) (C := R_Heap) (T := F_Heap) (N := 9) hx hb hts (fun q hq => List.mem_cons_of_mem _ (i_Heap q hq)) t_Heap t_Heap_ok n_Heap hown hK hP hD hS 0 rfl rfl 6 (by decide) (hts _ (List.mem_cons_of_mem _ m_1_3)) (fun _ h9 => h9) rfl (by decide +kernel) rfl rfl (Nat.le_of_ble_eq_true rfl) d_Heap_freeUnreached_2 (fun H locs hP hD hS => ?_)
  have hP : va_P (dC, dI) classes (hp_W cA ad (st, fi, se, fc, mk, re, 0, rd, rc)) H := hP
  have hD : va_D A (hp_W cA ad (st, fi, se, fc, mk, re, 0, rd, rc)) := hD
  refine lv_iconst (v := 0) hx hb d_Heap_freeUnreached_5 (by decide) ?_
  refine lv_istore_n (lv' := [(1, .int 0), (0, .ref (ad 0))]) hx hb d_Heap_freeUnreached_6 rfl hl (by decide) rfl (fun ls hl => ?_)
  have loop : ∀ (fu : Nat) (k f : Nat) (Z : ZHS) (ls : Array Slot) (H : Heap) (locs : List Loc), (k + fu = 256) → (f ≤ k) → (h_fr Z = nI f) → (hp_sweep (st, fi, se, fc, mk, re, fr, rd, rc) = hp_sweepN fu k Z) → lv_has ls 2 [(1, .int (nI k)), (0, .ref (ad 0))] → va_P (dC, dI) classes (hp_W cA ad Z) H → va_D A (hp_W cA ad Z) → va_S A s.heap H locs → W p l e (headSpec w_Heap_freeUnreached ({ frames := 0, cells := 0, slots := 0, locals := 0 } : Room)).room s m (List.toArray [.ref (ad 0)]) below meth c H locs 0 0 (MQ below (va_Qv (fun (u : ZHS) => u = hp_sweep (st, fi, se, fc, mk, re, fr, rd, rc)) (fun u => lm_at (dC, dI) classes [(cA, .int)] A (hp_W cA ad u)) A) (List.toArray [.ref (ad 0)]) s 0 0 A) (F0 m 7 ls []) := by
    intro fu
    induction fu with
    | zero => 
      intro k f Z ls H locs hk hf hfr hq hl hP hD hS
      refine lv_iload_n hx hb d_Heap_freeUnreached_7 rfl (lv_at hl 0 rfl) ?_
      refine lv_sipush (v := 256) hx hb d_Heap_freeUnreached_8 (by decide) ?_
      refine lv_icmp_ge hx hb d_Heap_freeUnreached_11 rfl (fun h11 => ?_) (fun h11 => by exact absurd (show (256 : Int32) ≤ nI k from nI_le (a := 256) (by omega) (by omega)) h11)
      refine lm_rv hx hb hr hlocks Z ?_ hP hK hD hS d_Heap_freeUnreached_53
      rw [hq, hp_sweepN]
    | succ fu ih => 
      intro k f Z ls H locs hk hf hfr hq hl hP hD hS
      refine lv_iload_n hx hb d_Heap_freeUnreached_7 rfl (lv_at hl 0 rfl) ?_
      refine lv_sipush (v := 256) hx hb d_Heap_freeUnreached_8 (by decide) ?_
      refine lv_icmp_ge hx hb d_Heap_freeUnreached_11 rfl (fun h11 => by exact absurd h11 (nI_ge (b := 256) (by omega) (by decide))) (fun h11 => ?_)
      refine lv_aload_n hx hb d_Heap_freeUnreached_14 rfl (lv_at hl 1 rfl) ?_
      refine va_get (D := (dC, dI)) (ci := 1) (v := .ref (ad 5)) (C := R_Heap) (T := F_Heap) (N := 9) hx hb hts (fun q hq => List.mem_cons_of_mem _ (i_Heap q hq)) hown hK hP 0 rfl rfl 4 (by decide) (hts _ (List.mem_cons_of_mem _ m_1_1)) (fun _ h9 => h9) rfl d_Heap_freeUnreached_15 ?_
      refine lv_iload_n hx hb d_Heap_freeUnreached_18 rfl (lv_at hl 0 rfl) ?_
      have hin : vp_in (nI k) 256 := by exact vp_in_nI (by omega) (by decide)
      refine va_iald (f := Z.2.2.2.2.1) (n := 256) hx hb hK hP 5 0 rfl rfl hin d_Heap_freeUnreached_19 ?_
      rw [nI_clamp (show k < 2 ^ 31 by omega)]
      refine lv_aload_n hx hb d_Heap_freeUnreached_20 rfl (lv_at hl 1 rfl) ?_
      refine va_get (D := (dC, dI)) (ci := 1) (v := .int Z.2.2.2.2.2.2.2.1) (C := R_Heap) (T := F_Heap) (N := 9) hx hb hts (fun q hq => List.mem_cons_of_mem _ (i_Heap q hq)) hown hK hP 0 rfl rfl 7 (by decide) (hts _ (List.mem_cons_of_mem _ m_1_4)) (fun _ h9 => h9) rfl d_Heap_freeUnreached_21 ?_
      refine lv_icmp_eq hx hb d_Heap_freeUnreached_24 rfl (fun h24 => ?_) (fun h24 => ?_)
      · refine lv_iinc (k := 0) (v := (nI (k + 1))) (lv' := [(1, .int (nI (k + 1))), (0, .ref (ad 0))]) hx hb d_Heap_freeUnreached_47 hl rfl ((nI_succ k).symm) (by decide) rfl (fun ls hl => ?_)
        refine lv_goto hx hb d_Heap_freeUnreached_50 rfl ?_
        exact ih (k + 1) f Z _ _ _ (by omega) (by omega) (by exact hfr) (by rw [hq, hp_sweepN, if_pos h24]) (lv_sub hl [0, 1] rfl) hP hD hS
      · refine lv_aload_n hx hb d_Heap_freeUnreached_27 rfl (lv_at hl 1 rfl) ?_
        refine va_get (D := (dC, dI)) (ci := 1) (v := .ref (ad 4)) (C := R_Heap) (T := F_Heap) (N := 9) hx hb hts (fun q hq => List.mem_cons_of_mem _ (i_Heap q hq)) hown hK hP 0 rfl rfl 3 (by decide) (hts _ (List.mem_cons_of_mem _ m_1_0)) (fun _ h9 => h9) rfl d_Heap_freeUnreached_28 ?_
        refine lv_aload_n hx hb d_Heap_freeUnreached_31 rfl (lv_at hl 1 rfl) ?_
        refine va_get (D := (dC, dI)) (ci := 1) (v := .int Z.2.2.2.2.2.2.1) (C := R_Heap) (T := F_Heap) (N := 9) hx hb hts (fun q hq => List.mem_cons_of_mem _ (i_Heap q hq)) hown hK hP 0 rfl rfl 6 (by decide) (hts _ (List.mem_cons_of_mem _ m_1_3)) (fun _ h9 => h9) rfl d_Heap_freeUnreached_32 ?_
        refine lv_iload_n hx hb d_Heap_freeUnreached_35 rfl (lv_at hl 0 rfl) ?_
        have hin : vp_in Z.2.2.2.2.2.2.1 256 := by rw [show Z.2.2.2.2.2.2.1 = nI f from hfr]; exact vp_in_nI (by omega) (by decide)
        refine va_iast (f := Z.2.2.2.1) (n := 256) hx hb hK hP hD hS 4 0 rfl rfl hin d_Heap_freeUnreached_36 (fun H locs hP hD hS => ?_)
        have hP : va_P (dC, dI) classes (hp_W cA ad (Z.1, Z.2.1, Z.2.2.1, (upd Z.2.2.2.1 Z.2.2.2.2.2.2.1.toNatClampNeg (nI k)), Z.2.2.2.2.1, Z.2.2.2.2.2.1, Z.2.2.2.2.2.2.1, Z.2.2.2.2.2.2.2.1, Z.2.2.2.2.2.2.2.2)) H := hP
        have hD : va_D A (hp_W cA ad (Z.1, Z.2.1, Z.2.2.1, (upd Z.2.2.2.1 Z.2.2.2.2.2.2.1.toNatClampNeg (nI k)), Z.2.2.2.2.1, Z.2.2.2.2.2.1, Z.2.2.2.2.2.2.1, Z.2.2.2.2.2.2.2.1, Z.2.2.2.2.2.2.2.2)) := hD
        refine lv_aload_n hx hb d_Heap_freeUnreached_37 rfl (lv_at hl 1 rfl) ?_
        refine lv_dup hx hb d_Heap_freeUnreached_38 rfl ?_
        refine va_get (D := (dC, dI)) (ci := 1) (v := .int Z.2.2.2.2.2.2.1) (C := R_Heap) (T := F_Heap) (N := 9) hx hb hts (fun q hq => List.mem_cons_of_mem _ (i_Heap q hq)) hown hK hP 0 rfl rfl 6 (by decide) (hts _ (List.mem_cons_of_mem _ m_1_3)) (fun _ h9 => h9) rfl d_Heap_freeUnreached_39 ?_
        refine lv_iconst (v := 1) hx hb d_Heap_freeUnreached_42 (by decide) ?_
        refine lv_iadd hx hb d_Heap_freeUnreached_43 ?_
        refine va_put (D := (dC, dI)) (ci := 1) (v := .int (Z.2.2.2.2.2.2.1 + 1)) (ty := .int) (C := R_Heap) (T := F_Heap) (N := 9) hx hb hts (fun q hq => List.mem_cons_of_mem _ (i_Heap q hq)) t_Heap t_Heap_ok n_Heap hown hK hP hD hS 0 rfl rfl 6 (by decide) (hts _ (List.mem_cons_of_mem _ m_1_3)) (fun _ h9 => h9) rfl (by decide +kernel) rfl rfl (Nat.le_of_ble_eq_true rfl) d_Heap_freeUnreached_44 (fun H locs hP hD hS => ?_)
        have hP : va_P (dC, dI) classes (hp_W cA ad (Z.1, Z.2.1, Z.2.2.1, (upd Z.2.2.2.1 Z.2.2.2.2.2.2.1.toNatClampNeg (nI k)), Z.2.2.2.2.1, Z.2.2.2.2.2.1, (Z.2.2.2.2.2.2.1 + 1), Z.2.2.2.2.2.2.2.1, Z.2.2.2.2.2.2.2.2)) H := hP
        have hD : va_D A (hp_W cA ad (Z.1, Z.2.1, Z.2.2.1, (upd Z.2.2.2.1 Z.2.2.2.2.2.2.1.toNatClampNeg (nI k)), Z.2.2.2.2.1, Z.2.2.2.2.2.1, (Z.2.2.2.2.2.2.1 + 1), Z.2.2.2.2.2.2.2.1, Z.2.2.2.2.2.2.2.2)) := hD
        refine lv_iinc (k := 0) (v := (nI (k + 1))) (lv' := [(1, .int (nI (k + 1))), (0, .ref (ad 0))]) hx hb d_Heap_freeUnreached_47 hl rfl ((nI_succ k).symm) (by decide) rfl (fun ls hl => ?_)
        refine lv_goto hx hb d_Heap_freeUnreached_50 rfl ?_
        exact ih (k + 1) (f + 1) (Z.1, Z.2.1, Z.2.2.1, (upd Z.2.2.2.1 Z.2.2.2.2.2.2.1.toNatClampNeg (nI k)), Z.2.2.2.2.1, Z.2.2.2.2.2.1, (Z.2.2.2.2.2.2.1 + 1), Z.2.2.2.2.2.2.2.1, Z.2.2.2.2.2.2.2.2) _ _ _ (by omega) (by omega) (by show h_fr Z + 1 = nI (f + 1); rw [hfr]; exact (nI_succ f).symm) (by rw [hq, hp_sweepN, if_neg h24]) (lv_sub hl [0, 1] rfl) hP hD hS
  exact loop 256 0 0 (st, fi, se, fc, mk, re, 0, rd, rc) _ _ _ (by omega) (by omega) (by rfl) (by rfl) hl hP hD hS
set_option maxHeartbeats 4000000 in
set_option maxRecDepth 100000 in
theorem c_Heap_empty (l : Launch) (dC : Nat → ClassId) (dI : Nat → Nat → Nat) (cA : ClassId)  (ad : Nat → Nat) (sz : Nat) (S : ZHS)   : Met l y_Heap_empty w_Heap_empty ({ frames := 1, cells := 0, slots := 0, locals := 21 } : Room) (va_Pc [.ref (ad 0)] (lm_pre (dC, dI) classes [(cA, .int)] (hp_W cA ad S) sz lm_no)) (va_Qv (fun (u : ZHS) => u = hp_sweep (hp_begin S)) (fun u => lm_at (dC, dI) classes [(cA, .int)] (va_A (hp_W cA ad S) sz) (hp_W cA ad u)) (va_A (hp_W cA ad S) sz)) 0 0 (va_A (hp_W cA ad S) sz) := by
  obtain ⟨st, fi, se, fc, mk, re, fr, rd, rc⟩ := S
  refine lm_met (fun A => va_Qv (fun (u : ZHS) => u = hp_sweep (hp_begin (st, fi, se, fc, mk, re, fr, rd, rc))) (fun u => lm_at (dC, dI) classes [(cA, .int)] A (hp_W cA ad u)) A) (by decide) rfl (Nat.le_of_ble_eq_true rfl) ?_
  intro p e s m below meth c A hx hb hr hts hown hlocks hname hml hK hP hD hA hE hsz hAe hS ls hl
  replace hl : lv_has ls 1 [(0, .ref (ad 0))] := hl
  clear hAe hsz
  refine lv_aload_n hx hb d_Heap_empty_0 rfl (lv_at hl 0 rfl) ?_
  refine lm_vv (b := ad 0) (As := []) (rest := []) (wr := ([] : va_W)) ⟨hx, hb, hml, hown, hts⟩ hK hP hD hS hA [0, 1, 2, 3, 4, 5, 6] [] rfl rfl (by decide) (by decide) (by decide) (c_Heap_beginMarks l dC dI cA ad _ (st, fi, se, fc, mk, re, fr, rd, rc)  ) (cwV 0 hts (lm_gV m_3_21 m_3_22 m_3_23 m_0_2 m_4_0) rfl rfl rfl (by decide +kernel) ⟨Nat.le_of_ble_eq_true rfl, Nat.le_of_ble_eq_true rfl⟩) (va_recv (q0 := 0) hK hP rfl rfl) lm_bl_no (fun _ _ _ => trivial) hl.1 rfl rfl (Nat.le_of_ble_eq_true rfl) d_Heap_empty_1 ⟨Nat.le_of_ble_eq_true rfl, Nat.le_of_ble_eq_true rfl⟩ (fun u1 H locs w1 hP hD hS => ?_)
  have hP : va_P (dC, dI) classes (hp_W cA ad u1) H := hP
  have hD : va_D A (hp_W cA ad u1) := hD
  refine lv_aload_n hx hb d_Heap_empty_4 rfl (lv_at hl 0 rfl) ?_
  refine lm_vv (b := ad 0) (As := []) (rest := []) (wr := ([] : va_W)) ⟨hx, hb, hml, hown, hts⟩ hK hP hD hS hA [0, 1, 2, 3, 4, 5, 6] [] rfl rfl (by decide) (by decide) (by decide) (c_Heap_freeUnreached l dC dI cA ad _ u1  ) (cwV 0 hts (lm_gV m_4_1 m_4_2 m_4_3 m_0_2 m_4_4) rfl rfl rfl (by decide +kernel) ⟨Nat.le_of_ble_eq_true rfl, Nat.le_of_ble_eq_true rfl⟩) (va_recv (q0 := 0) hK hP rfl rfl) lm_bl_no (fun _ _ _ => trivial) hl.1 rfl rfl (Nat.le_of_ble_eq_true rfl) d_Heap_empty_5 ⟨Nat.le_of_ble_eq_true rfl, Nat.le_of_ble_eq_true rfl⟩ (fun u5 H locs w5 hP hD hS => ?_)
  have hP : va_P (dC, dI) classes (hp_W cA ad u5) H := hP
  have hD : va_D A (hp_W cA ad u5) := hD
  refine lm_rv hx hb hr hlocks u5 ?_ hP hK hD hS d_Heap_empty_8
  rw [w5, w1]
set_option maxHeartbeats 4000000 in
set_option maxRecDepth 100000 in
theorem c_Heap_boundTo (l : Launch) (dC : Nat → ClassId) (dI : Nat → Nat → Nat) (cA : ClassId)  (ad : Nat → Nat) (sz : Nat) (S : ZHS) (x1 x2 : Int32) (hx1 : hp_c x1) (hx2 : ∃ n : Nat, n < 1000 ∧ x2 = nI n) (hs : ∀ j, j < 256 → hp_c (h_se S j)) : Met l y_Heap_boundTo w_Heap_boundTo ({ frames := 1, cells := 0, slots := 0, locals := 21 } : Room) (va_Pc [.ref (ad 0), .int x1, .int x2] (lm_pre (dC, dI) classes [(cA, .int)] (hp_W cA ad S) sz lm_no)) (va_Qi (fun (r : Int32) (u : ZHS) => r = hp_bound S x1 x2 ∧ u = S) (fun u => lm_at (dC, dI) classes [(cA, .int)] (va_A (hp_W cA ad S) sz) (hp_W cA ad u)) (va_A (hp_W cA ad S) sz)) 0 0 (va_A (hp_W cA ad S) sz) := by
  obtain ⟨st, fi, se, fc, mk, re, fr, rd, rc⟩ := S
  obtain ⟨n, hn, rfl⟩ := hx2
  have hs : ∀ j, j < 256 → hp_c (se j) := hs
  refine lm_met (fun A => va_Qi (fun (r : Int32) (u : ZHS) => r = hp_bound (st, fi, se, fc, mk, re, fr, rd, rc) x1 (nI n) ∧ u = (st, fi, se, fc, mk, re, fr, rd, rc)) (fun u => lm_at (dC, dI) classes [(cA, .int)] A (hp_W cA ad u)) A) (by decide) rfl (Nat.le_of_ble_eq_true rfl) ?_
  intro p e s m below meth c A hx hb hr hts hown hlocks hname hml hK hP hD hA hE hsz hAe hS ls hl
  replace hl : lv_has ls 5 [(0, .ref (ad 0)), (1, .int x1), (2, .int (nI n))] := hl
  clear hAe hsz
  refine lv_iload_n hx hb d_Heap_boundTo_0 rfl (lv_at hl 1 rfl) ?_
  refine lv_istore_n (lv' := [(3, .int x1), (0, .ref (ad 0)), (1, .int x1), (2, .int (nI n))]) hx hb d_Heap_boundTo_1 rfl hl (by decide) rfl (fun ls hl => ?_)
  refine lv_iconst (v := 0) hx hb d_Heap_boundTo_2 (by decide) ?_
  refine lv_istore (lv' := [(4, .int 0), (3, .int x1), (0, .ref (ad 0)), (1, .int x1), (2, .int (nI n))]) hx hb d_Heap_boundTo_3 hl (by decide) rfl (fun ls hl => ?_)
  have loop : ∀ (fu : Nat) (k : Nat) (y : Int32) (ls : Array Slot) (H : Heap) (locs : List Loc), (k + fu = n) → (hp_c y) → (hp_walk se n x1 = hp_walk se fu y) → lv_has ls 5 [(4, .int (nI k)), (3, .int y), (0, .ref (ad 0)), (1, .int x1), (2, .int (nI n))] → va_P (dC, dI) classes (hp_W cA ad (st, fi, se, fc, mk, re, fr, rd, rc)) H → va_D A (hp_W cA ad (st, fi, se, fc, mk, re, fr, rd, rc)) → va_S A s.heap H locs → W p l e (headSpec w_Heap_boundTo ({ frames := 1, cells := 0, slots := 0, locals := 21 } : Room)).room s m (List.toArray [.ref (ad 0), .int x1, .int (nI n)]) below meth c H locs 0 0 (MQ below (va_Qi (fun (r : Int32) (u : ZHS) => r = hp_bound (st, fi, se, fc, mk, re, fr, rd, rc) x1 (nI n) ∧ u = (st, fi, se, fc, mk, re, fr, rd, rc)) (fun u => lm_at (dC, dI) classes [(cA, .int)] A (hp_W cA ad u)) A) (List.toArray [.ref (ad 0), .int x1, .int (nI n)]) s 0 0 A) (F0 m 5 ls []) := by
    intro fu
    induction fu with
    | zero => 
      intro k y ls H locs hk hy hq hl hP hD hS
      refine lv_iload hx hb d_Heap_boundTo_5 (lv_at hl 0 rfl) ?_
      refine lv_iload_n hx hb d_Heap_boundTo_7 rfl (lv_at hl 4 rfl) ?_
      refine lv_icmp_ge hx hb d_Heap_boundTo_8 rfl (fun h8 => ?_) (fun h8 => by exact absurd (nI_le (by omega) (by omega)) h8)
      refine lv_aload_n hx hb d_Heap_boundTo_29 rfl (lv_at hl 2 rfl) ?_
      refine lv_iload_n hx hb d_Heap_boundTo_30 rfl (lv_at hl 1 rfl) ?_
      refine lm_vi (b := ad 0) (As := [.int y]) (rest := []) (wr := ([] : va_W)) ⟨hx, hb, hml, hown, hts⟩ hK hP hD hS hA [0, 1, 2, 3, 4, 5, 6] [] rfl rfl (by decide) (by decide) (by decide) (c_Heap_first l dC dI cA ad _ (st, fi, se, fc, mk, re, fr, rd, rc) y (by exact hy)) (cwV 1 hts (lm_gV m_11_19 m_11_0 m_11_1 m_0_2 m_11_2) rfl rfl rfl (by decide +kernel) ⟨Nat.le_of_ble_eq_true rfl, Nat.le_of_ble_eq_true rfl⟩) (va_recv (q0 := 0) hK hP rfl rfl) lm_bl_no (fun _ _ _ => trivial) hl.1 rfl rfl (Nat.le_of_ble_eq_true rfl) d_Heap_boundTo_31 ⟨Nat.le_of_ble_eq_true rfl, Nat.le_of_ble_eq_true rfl⟩ (fun r31 u31 H locs w31 hP hD hS => ?_)
      obtain ⟨e_r31, w31⟩ := w31
      replace w31 := w31.symm
      subst w31
      have hP : va_P (dC, dI) classes (hp_W cA ad (st, fi, se, fc, mk, re, fr, rd, rc)) H := hP
      have hD : va_D A (hp_W cA ad (st, fi, se, fc, mk, re, fr, rd, rc)) := hD
      refine lm_ri (v := r31) hx hb hr hlocks (st, fi, se, fc, mk, re, fr, rd, rc) ?_ hP hK hD hS d_Heap_boundTo_34
      refine ⟨?_, rfl⟩; rw [e_r31]; unfold hp_bound; rw [nI_clamp (by omega)]; show _ = hp_first _ (hp_walk se n x1); rw [hq]; first | (rw [hp_walk, if_pos h13]) | rfl
    | succ fu ih => 
      intro k y ls H locs hk hy hq hl hP hD hS
      refine lv_iload hx hb d_Heap_boundTo_5 (lv_at hl 0 rfl) ?_
      refine lv_iload_n hx hb d_Heap_boundTo_7 rfl (lv_at hl 4 rfl) ?_
      refine lv_icmp_ge hx hb d_Heap_boundTo_8 rfl (fun h8 => by exact absurd h8 (nI_ge (by omega) (by omega))) (fun h8 => ?_)
      refine lv_iload_n hx hb d_Heap_boundTo_11 rfl (lv_at hl 1 rfl) ?_
      refine lv_iconst (v := -1) hx hb d_Heap_boundTo_12 (by decide) ?_
      refine lv_icmp_eq hx hb d_Heap_boundTo_13 rfl (fun h13 => ?_) (fun h13 => ?_)
      · refine lv_aload_n hx hb d_Heap_boundTo_29 rfl (lv_at hl 2 rfl) ?_
        refine lv_iload_n hx hb d_Heap_boundTo_30 rfl (lv_at hl 1 rfl) ?_
        refine lm_vi (b := ad 0) (As := [.int y]) (rest := []) (wr := ([] : va_W)) ⟨hx, hb, hml, hown, hts⟩ hK hP hD hS hA [0, 1, 2, 3, 4, 5, 6] [] rfl rfl (by decide) (by decide) (by decide) (c_Heap_first l dC dI cA ad _ (st, fi, se, fc, mk, re, fr, rd, rc) y (by exact hy)) (cwV 1 hts (lm_gV m_11_19 m_11_0 m_11_1 m_0_2 m_11_2) rfl rfl rfl (by decide +kernel) ⟨Nat.le_of_ble_eq_true rfl, Nat.le_of_ble_eq_true rfl⟩) (va_recv (q0 := 0) hK hP rfl rfl) lm_bl_no (fun _ _ _ => trivial) hl.1 rfl rfl (Nat.le_of_ble_eq_true rfl) d_Heap_boundTo_31 ⟨Nat.le_of_ble_eq_true rfl, Nat.le_of_ble_eq_true rfl⟩ (fun r31 u31 H locs w31 hP hD hS => ?_)
        obtain ⟨e_r31, w31⟩ := w31
        replace w31 := w31.symm
        subst w31
        have hP : va_P (dC, dI) classes (hp_W cA ad (st, fi, se, fc, mk, re, fr, rd, rc)) H := hP
        have hD : va_D A (hp_W cA ad (st, fi, se, fc, mk, re, fr, rd, rc)) := hD
        refine lm_ri (v := r31) hx hb hr hlocks (st, fi, se, fc, mk, re, fr, rd, rc) ?_ hP hK hD hS d_Heap_boundTo_34
        refine ⟨?_, rfl⟩; rw [e_r31]; unfold hp_bound; rw [nI_clamp (by omega)]; show _ = hp_first _ (hp_walk se n x1); rw [hq]; first | (rw [hp_walk, if_pos h13]) | rfl
      · refine lv_aload_n hx hb d_Heap_boundTo_16 rfl (lv_at hl 2 rfl) ?_
        refine va_get (D := (dC, dI)) (ci := 1) (v := .ref (ad 3)) (C := R_Heap) (T := F_Heap) (N := 9) hx hb hts (fun q hq => List.mem_cons_of_mem _ (i_Heap q hq)) hown hK hP 0 rfl rfl 2 (by decide) (hts _ (List.mem_cons_of_mem _ m_0_23)) (fun _ h9 => h9) rfl d_Heap_boundTo_17 ?_
        refine lv_iload_n hx hb d_Heap_boundTo_20 rfl (lv_at hl 1 rfl) ?_
        have hin : vp_in y 256 := by exact hy.resolve_left h13
        refine va_iald (f := se) (n := 256) hx hb hK hP 3 0 rfl rfl hin d_Heap_boundTo_21 ?_
        refine lv_istore_n (lv' := [(3, .int (se y.toNatClampNeg)), (4, .int (nI k)), (0, .ref (ad 0)), (1, .int x1), (2, .int (nI n))]) hx hb d_Heap_boundTo_22 rfl hl (by decide) rfl (fun ls hl => ?_)
        refine lv_iinc (k := 1) (v := (nI (k + 1))) (lv' := [(4, .int (nI (k + 1))), (3, .int (se y.toNatClampNeg)), (0, .ref (ad 0)), (1, .int x1), (2, .int (nI n))]) hx hb d_Heap_boundTo_23 hl rfl ((nI_succ k).symm) (by decide) rfl (fun ls hl => ?_)
        refine lv_goto hx hb d_Heap_boundTo_26 rfl ?_
        exact ih (k + 1) (se y.toNatClampNeg) _ _ _ (by omega) (by exact hs _ (hp_in_lt (hy.resolve_left h13) (by decide))) (by rw [hq, hp_walk, if_neg h13]) (lv_sub hl [0, 1, 2, 3, 4] rfl) hP hD hS
  exact loop n 0 x1 _ _ _ (by omega) (by exact hx1) (by rfl) hl hP hD hS
