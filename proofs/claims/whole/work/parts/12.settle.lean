set_option maxHeartbeats 4000000 in
set_option maxRecDepth 100000 in
theorem c_Term_givePart (l : Launch) (dC : Nat → ClassId) (dI : Nat → Nat → Nat) (cA : ClassId) (tp : Nat) (ad : Nat → Nat) (sz : Nat) (S : ZTS) (x1 x2 : Int32) (hx1 : vp_in x1 200) (hx2 : vp_in x2 200) (hw : vp_in (x1 * 3 + t_pm S x1.toNatClampNeg) 600) (hs : vp_in (t_so S x1.toNatClampNeg) 14) : Met l y_Term_givePart w_Term_givePart ({ frames := 1, cells := 0, slots := 0, locals := 21 } : Room) (va_Pc [.ref (ad 0), .int x1, .int x2] (lm_pre (dC, dI) classes [(cA, .int)] (tm_W cA ad S) sz (tm_E tp (va_A (tm_W cA ad S) sz)))) (va_Qi (fun (r : Int32) (u : ZTS) => r = (tm_give S x1 x2).1 ∧ u = (tm_give S x1 x2).2) (fun u => lm_at (dC, dI) classes [(cA, .int)] (va_A (tm_W cA ad S) sz) (tm_W cA ad u)) (va_A (tm_W cA ad S) sz)) 0 0 (va_A (tm_W cA ad S) sz) := by
  obtain ⟨so, xs, pa, pm, bi, op, zz⟩ := S
  refine lm_met (fun A => va_Qi (fun (r : Int32) (u : ZTS) => r = (tm_give (so, xs, pa, pm, bi, op, zz) x1 x2).1 ∧ u = (tm_give (so, xs, pa, pm, bi, op, zz) x1 x2).2) (fun u => lm_at (dC, dI) classes [(cA, .int)] A (tm_W cA ad u)) A) (by decide) rfl (Nat.le_of_ble_eq_true rfl) ?_
  intro p e s m below meth c A hx hb hr hts hown hlocks hname hml hK hP hD hA hE hsz hAe hS ls hl
  replace hl : lv_has ls 4 [(0, .ref (ad 0)), (1, .int x1), (2, .int x2)] := hl
  subst hsz
  rw [← hAe] at hE
  clear hAe
  have hN := hE.1
  have hZ := hE.2.1
  have hT := hE.2.2
  refine lv_aload_n hx hb d_Term_givePart_0 rfl (lv_at hl 0 rfl) ?_
  refine va_get (D := (dC, dI)) (ci := 3) (v := .ref (ad 4)) (C := R_Term) (T := F_Term) (N := 7) hx hb hts (fun q hq => List.mem_cons_of_mem _ (i_Term q hq)) hown hK hP 0 rfl rfl 3 (by decide) (hts _ (List.mem_cons_of_mem _ m_2_3)) (fun _ h9 => h9) rfl d_Term_givePart_1 ?_
  refine lv_iload_n hx hb d_Term_givePart_4 rfl (lv_at hl 1 rfl) ?_
  have hin : vp_in x1 200 := by first | assumption | exact vp_in_nI (by omega) (by decide)
  refine va_iald (f := pm) (n := 200) hx hb hK hP 4 0 rfl rfl hin d_Term_givePart_5 ?_
  refine lv_topi (fun wh e_wh => ?_)
  refine lv_istore_n (lv' := [(3, .int wh), (0, .ref (ad 0)), (1, .int x1), (2, .int x2)]) hx hb d_Term_givePart_6 rfl hl (by decide) rfl (fun ls hl => ?_)
  refine lv_aload_n hx hb d_Term_givePart_7 rfl (lv_at hl 1 rfl) ?_
  refine va_get (D := (dC, dI)) (ci := 3) (v := .ref (ad 3)) (C := R_Term) (T := F_Term) (N := 7) hx hb hts (fun q hq => List.mem_cons_of_mem _ (i_Term q hq)) hown hK hP 0 rfl rfl 2 (by decide) (hts _ (List.mem_cons_of_mem _ m_2_2)) (fun _ h9 => h9) rfl d_Term_givePart_8 ?_
  refine lv_iload_n hx hb d_Term_givePart_11 rfl (lv_at hl 2 rfl) ?_
  refine lv_iconst (v := 3) hx hb d_Term_givePart_12 (by decide) ?_
  refine lv_imul hx hb d_Term_givePart_13 ?_
  refine lv_iload_n hx hb d_Term_givePart_14 rfl (lv_at hl 0 rfl) ?_
  refine lv_iadd hx hb d_Term_givePart_15 ?_
  refine lv_iload_n hx hb d_Term_givePart_16 rfl (lv_at hl 3 rfl) ?_
  have hin : vp_in ((x1 * 3) + wh) 600 := by rw [e_wh]; exact hw
  refine va_iast (f := pa) (n := 600) hx hb hK hP hD hS 3 0 rfl rfl hin d_Term_givePart_17 (fun H locs hP hD hS => ?_)
  have hP : va_P (dC, dI) classes (tm_W cA ad (so, xs, (upd pa ((x1 * 3) + wh).toNatClampNeg x2), pm, bi, op, zz)) H := hP
  have hD : va_D A (tm_W cA ad (so, xs, (upd pa ((x1 * 3) + wh).toNatClampNeg x2), pm, bi, op, zz)) := hD
  refine lv_aload_n hx hb d_Term_givePart_18 rfl (lv_at hl 1 rfl) ?_
  refine va_get (D := (dC, dI)) (ci := 3) (v := .ref (ad 4)) (C := R_Term) (T := F_Term) (N := 7) hx hb hts (fun q hq => List.mem_cons_of_mem _ (i_Term q hq)) hown hK hP 0 rfl rfl 3 (by decide) (hts _ (List.mem_cons_of_mem _ m_2_3)) (fun _ h9 => h9) rfl d_Term_givePart_19 ?_
  refine lv_iload_n hx hb d_Term_givePart_22 rfl (lv_at hl 2 rfl) ?_
  refine lv_iload_n hx hb d_Term_givePart_23 rfl (lv_at hl 0 rfl) ?_
  refine lv_iconst (v := 1) hx hb d_Term_givePart_24 (by decide) ?_
  refine lv_iadd hx hb d_Term_givePart_25 ?_
  have hin : vp_in x1 200 := by first | assumption | exact vp_in_nI (by omega) (by decide)
  refine va_iast (f := pm) (n := 200) hx hb hK hP hD hS 4 0 rfl rfl hin d_Term_givePart_26 (fun H locs hP hD hS => ?_)
  have hP : va_P (dC, dI) classes (tm_W cA ad (so, xs, (upd pa ((x1 * 3) + wh).toNatClampNeg x2), (upd pm x1.toNatClampNeg (wh + 1)), bi, op, zz)) H := hP
  have hD : va_D A (tm_W cA ad (so, xs, (upd pa ((x1 * 3) + wh).toNatClampNeg x2), (upd pm x1.toNatClampNeg (wh + 1)), bi, op, zz)) := hD
  refine lv_aload_n hx hb d_Term_givePart_27 rfl (lv_at hl 1 rfl) ?_
  refine va_get (D := (dC, dI)) (ci := 3) (v := .ref (ad 5)) (C := R_Term) (T := F_Term) (N := 7) hx hb hts (fun q hq => List.mem_cons_of_mem _ (i_Term q hq)) hown hK hP 0 rfl rfl 4 (by decide) (hts _ (List.mem_cons_of_mem _ m_2_4)) (fun _ h9 => h9) rfl d_Term_givePart_28 ?_
  refine lv_iload_n hx hb d_Term_givePart_31 rfl (lv_at hl 3 rfl) ?_
  refine lv_aload_n hx hb d_Term_givePart_32 rfl (lv_at hl 1 rfl) ?_
  refine va_get (D := (dC, dI)) (ci := 3) (v := .ref (ad 5)) (C := R_Term) (T := F_Term) (N := 7) hx hb hts (fun q hq => List.mem_cons_of_mem _ (i_Term q hq)) hown hK hP 0 rfl rfl 4 (by decide) (hts _ (List.mem_cons_of_mem _ m_2_4)) (fun _ h9 => h9) rfl d_Term_givePart_33 ?_
  refine lv_iload_n hx hb d_Term_givePart_36 rfl (lv_at hl 2 rfl) ?_
  have hin : vp_in x1 200 := by first | assumption | exact vp_in_nI (by omega) (by decide)
  refine va_iald (f := bi) (n := 200) hx hb hK hP 5 0 rfl rfl hin d_Term_givePart_37 ?_
  refine lv_aload_n hx hb d_Term_givePart_38 rfl (lv_at hl 1 rfl) ?_
  refine va_get (D := (dC, dI)) (ci := 3) (v := .ref (ad 1)) (C := R_Term) (T := F_Term) (N := 7) hx hb hts (fun q hq => List.mem_cons_of_mem _ (i_Term q hq)) hown hK hP 0 rfl rfl 0 (by decide) (hts _ (List.mem_cons_of_mem _ m_2_0)) (fun _ h9 => h9) rfl d_Term_givePart_39 ?_
  refine lv_iload_n hx hb d_Term_givePart_42 rfl (lv_at hl 2 rfl) ?_
  have hin : vp_in x1 200 := by first | assumption | exact vp_in_nI (by omega) (by decide)
  refine va_iald (f := so) (n := 200) hx hb hK hP 1 0 rfl rfl hin d_Term_givePart_43 ?_
  refine lv_iload_n hx hb d_Term_givePart_44 rfl (lv_at hl 0 rfl) ?_
  refine lm_si (As := [.int (so x1.toNatClampNeg), .int wh]) (rest := [.int (bi x1.toNatClampNeg), .int x2, .ref (ad 5)]) (wr := (tm_W cA ad (so, xs, (upd pa ((x1 * 3) + wh).toNatClampNeg x2), (upd pm x1.toNatClampNeg (wh + 1)), bi, op, zz))) ⟨hx, hb, hml, hown, hts⟩ hK hP hD hS hA [] [0, 1, 2, 3, 4, 5, 6] rfl rfl (by decide) (by decide) (by decide) (c_Term_bindsIn l dC dI cA  _  (so x1.toNatClampNeg) wh ) (cwS 2 hts (lm_gS m_3_7 m_3_8 m_0_4 m_3_9) rfl rfl rfl (by decide +kernel) ⟨Nat.le_of_ble_eq_true rfl, Nat.le_of_ble_eq_true rfl⟩) lm_bl_no (fun _ _ _ => trivial) hl.1 rfl rfl (Nat.le_of_ble_eq_true rfl) d_Term_givePart_45 ⟨Nat.le_of_ble_eq_true rfl, Nat.le_of_ble_eq_true rfl⟩ (fun r45 u45 H locs w45 hP hD hS => ?_)
  obtain ⟨e_r45, w45⟩ := w45
  have hP : va_P (dC, dI) classes (tm_W cA ad (so, xs, (upd pa ((x1 * 3) + wh).toNatClampNeg x2), (upd pm x1.toNatClampNeg (wh + 1)), bi, op, zz)) H := hP
  have hD : va_D A (tm_W cA ad (so, xs, (upd pa ((x1 * 3) + wh).toNatClampNeg x2), (upd pm x1.toNatClampNeg (wh + 1)), bi, op, zz)) := hD
  refine lv_if_eq hx hb d_Term_givePart_48 rfl (fun h48 => ?_) (fun h48 => ?_)
  · refine lv_iconst (v := 0) hx hb d_Term_givePart_55 (by decide) ?_
    refine lv_iadd hx hb d_Term_givePart_56 ?_
    have hin : vp_in x2 200 := by first | assumption | exact vp_in_nI (by omega) (by decide)
    refine va_iast (f := bi) (n := 200) hx hb hK hP hD hS 5 0 rfl rfl hin d_Term_givePart_57 (fun H locs hP hD hS => ?_)
    have hP : va_P (dC, dI) classes (tm_W cA ad (so, xs, (upd pa ((x1 * 3) + wh).toNatClampNeg x2), (upd pm x1.toNatClampNeg (wh + 1)), (upd bi x2.toNatClampNeg ((bi x1.toNatClampNeg) + 0)), op, zz)) H := hP
    have hD : va_D A (tm_W cA ad (so, xs, (upd pa ((x1 * 3) + wh).toNatClampNeg x2), (upd pm x1.toNatClampNeg (wh + 1)), (upd bi x2.toNatClampNeg ((bi x1.toNatClampNeg) + 0)), op, zz)) := hD
    refine lv_iload_n hx hb d_Term_givePart_58 rfl (lv_at hl 0 rfl) ?_
    refine lv_iconst (v := 1) hx hb d_Term_givePart_59 (by decide) ?_
    refine lv_iadd hx hb d_Term_givePart_60 ?_
    refine va_getsN hx hb hZ hS hown (va_Nw.use rfl hN) (fun _ h9 => h9) d_Term_givePart_61 ?_
    refine lv_aload_n hx hb d_Term_givePart_64 rfl (lv_at hl 1 rfl) ?_
    refine va_get (D := (dC, dI)) (ci := 3) (v := .ref (ad 1)) (C := R_Term) (T := F_Term) (N := 7) hx hb hts (fun q hq => List.mem_cons_of_mem _ (i_Term q hq)) hown hK hP 0 rfl rfl 0 (by decide) (hts _ (List.mem_cons_of_mem _ m_2_0)) (fun _ h9 => h9) rfl d_Term_givePart_65 ?_
    refine lv_iload_n hx hb d_Term_givePart_68 rfl (lv_at hl 2 rfl) ?_
    have hin : vp_in x1 200 := by first | assumption | exact vp_in_nI (by omega) (by decide)
    refine va_iald (f := so) (n := 200) hx hb hK hP 1 0 rfl rfl hin d_Term_givePart_69 ?_
    refine va_ti (v := .int (tm_pt (so x1.toNatClampNeg).toNatClampNeg)) hx hb hT hS (by exact hs) rfl d_Term_givePart_70 ?_
    refine lv_icmp_ne hx hb d_Term_givePart_71 rfl (fun h71 => ?_) (fun h71 => ?_)
    · refine lv_iconst (v := 0) hx hb d_Term_givePart_78 (by decide) ?_
      refine lm_rz (v := 0) hx hb hr hlocks (by decide) (so, xs, (upd pa ((x1 * 3) + wh).toNatClampNeg x2), (upd pm x1.toNatClampNeg (wh + 1)), (upd bi x2.toNatClampNeg ((bi x1.toNatClampNeg) + 0)), op, zz) ?_ hP hK hD hS d_Term_givePart_79
      subst e_wh e_r45; unfold tm_give; simp [t_so, t_pm, t_bi, t_pa, t_xs, t_op, t_sz, h48, h71]
    · refine lv_iconst (v := 1) hx hb d_Term_givePart_74 (by decide) ?_
      refine lv_goto hx hb d_Term_givePart_75 rfl ?_
      refine lm_rz (v := 1) hx hb hr hlocks (by decide) (so, xs, (upd pa ((x1 * 3) + wh).toNatClampNeg x2), (upd pm x1.toNatClampNeg (wh + 1)), (upd bi x2.toNatClampNeg ((bi x1.toNatClampNeg) + 0)), op, zz) ?_ hP hK hD hS d_Term_givePart_79
      subst e_wh e_r45; unfold tm_give; simp [t_so, t_pm, t_bi, t_pa, t_xs, t_op, t_sz, h48, h71]
  · refine lv_iconst (v := 1) hx hb d_Term_givePart_51 (by decide) ?_
    refine lv_goto hx hb d_Term_givePart_52 rfl ?_
    refine lv_iadd hx hb d_Term_givePart_56 ?_
    have hin : vp_in x2 200 := by first | assumption | exact vp_in_nI (by omega) (by decide)
    refine va_iast (f := bi) (n := 200) hx hb hK hP hD hS 5 0 rfl rfl hin d_Term_givePart_57 (fun H locs hP hD hS => ?_)
    have hP : va_P (dC, dI) classes (tm_W cA ad (so, xs, (upd pa ((x1 * 3) + wh).toNatClampNeg x2), (upd pm x1.toNatClampNeg (wh + 1)), (upd bi x2.toNatClampNeg ((bi x1.toNatClampNeg) + 1)), op, zz)) H := hP
    have hD : va_D A (tm_W cA ad (so, xs, (upd pa ((x1 * 3) + wh).toNatClampNeg x2), (upd pm x1.toNatClampNeg (wh + 1)), (upd bi x2.toNatClampNeg ((bi x1.toNatClampNeg) + 1)), op, zz)) := hD
    refine lv_iload_n hx hb d_Term_givePart_58 rfl (lv_at hl 0 rfl) ?_
    refine lv_iconst (v := 1) hx hb d_Term_givePart_59 (by decide) ?_
    refine lv_iadd hx hb d_Term_givePart_60 ?_
    refine va_getsN hx hb hZ hS hown (va_Nw.use rfl hN) (fun _ h9 => h9) d_Term_givePart_61 ?_
    refine lv_aload_n hx hb d_Term_givePart_64 rfl (lv_at hl 1 rfl) ?_
    refine va_get (D := (dC, dI)) (ci := 3) (v := .ref (ad 1)) (C := R_Term) (T := F_Term) (N := 7) hx hb hts (fun q hq => List.mem_cons_of_mem _ (i_Term q hq)) hown hK hP 0 rfl rfl 0 (by decide) (hts _ (List.mem_cons_of_mem _ m_2_0)) (fun _ h9 => h9) rfl d_Term_givePart_65 ?_
    refine lv_iload_n hx hb d_Term_givePart_68 rfl (lv_at hl 2 rfl) ?_
    have hin : vp_in x1 200 := by first | assumption | exact vp_in_nI (by omega) (by decide)
    refine va_iald (f := so) (n := 200) hx hb hK hP 1 0 rfl rfl hin d_Term_givePart_69 ?_
    refine va_ti (v := .int (tm_pt (so x1.toNatClampNeg).toNatClampNeg)) hx hb hT hS (by exact hs) rfl d_Term_givePart_70 ?_
    refine lv_icmp_ne hx hb d_Term_givePart_71 rfl (fun h71 => ?_) (fun h71 => ?_)
    · refine lv_iconst (v := 0) hx hb d_Term_givePart_78 (by decide) ?_
      refine lm_rz (v := 0) hx hb hr hlocks (by decide) (so, xs, (upd pa ((x1 * 3) + wh).toNatClampNeg x2), (upd pm x1.toNatClampNeg (wh + 1)), (upd bi x2.toNatClampNeg ((bi x1.toNatClampNeg) + 1)), op, zz) ?_ hP hK hD hS d_Term_givePart_79
      subst e_wh e_r45; unfold tm_give; simp [t_so, t_pm, t_bi, t_pa, t_xs, t_op, t_sz, h48, h71]
    · refine lv_iconst (v := 1) hx hb d_Term_givePart_74 (by decide) ?_
      refine lv_goto hx hb d_Term_givePart_75 rfl ?_
      refine lm_rz (v := 1) hx hb hr hlocks (by decide) (so, xs, (upd pa ((x1 * 3) + wh).toNatClampNeg x2), (upd pm x1.toNatClampNeg (wh + 1)), (upd bi x2.toNatClampNeg ((bi x1.toNatClampNeg) + 1)), op, zz) ?_ hP hK hD hS d_Term_givePart_79
      subst e_wh e_r45; unfold tm_give; simp [t_so, t_pm, t_bi, t_pa, t_xs, t_op, t_sz, h48, h71]
set_option maxHeartbeats 4000000 in
set_option maxRecDepth 100000 in
theorem c_Term_settle (l : Launch) (dC : Nat → ClassId) (dI : Nat → Nat → Nat) (cA : ClassId) (tp : Nat) (ad : Nat → Nat) (sz : Nat) (S : ZTS)  (hz : tm_ok S) (hso : tm_so S) : Met l y_Term_settle w_Term_settle ({ frames := 2, cells := 0, slots := 0, locals := 44 } : Room) (va_Pc [.ref (ad 0)] (lm_pre (dC, dI) classes [(cA, .int)] (tm_W cA ad S) sz (tm_E tp (va_A (tm_W cA ad S) sz)))) (va_Qi (fun (r : Int32) (u : ZTS) => r = (tm_settle S).1 ∧ u = (tm_settle S).2) (fun u => lm_at (dC, dI) classes [(cA, .int)] (va_A (tm_W cA ad S) sz) (tm_W cA ad u)) (va_A (tm_W cA ad S) sz)) 0 0 (va_A (tm_W cA ad S) sz) := by
  obtain ⟨so, xs, pa, pm, bi, op, zz⟩ := S
  obtain ⟨z, hz, hzz⟩ := hz
  have hzz : zz = nI z := hzz
  subst hzz
  refine lm_met (fun A => va_Qi (fun (r : Int32) (u : ZTS) => r = (tm_settle (so, xs, pa, pm, bi, op, (nI z))).1 ∧ u = (tm_settle (so, xs, pa, pm, bi, op, (nI z))).2) (fun u => lm_at (dC, dI) classes [(cA, .int)] A (tm_W cA ad u)) A) (by decide) rfl (Nat.le_of_ble_eq_true rfl) ?_
  intro p e s m below meth c A hx hb hr hts hown hlocks hname hml hK hP hD hA hE hsz hAe hS ls hl
  replace hl : lv_has ls 3 [(0, .ref (ad 0))] := hl
  subst hsz
  rw [← hAe] at hE
  clear hAe
  have hN := hE.1
  have hZ := hE.2.1
  have hT := hE.2.2
  refine lv_iconst (v := 0) hx hb d_Term_settle_0 (by decide) ?_
  refine lv_istore_n (lv' := [(1, .int 0), (0, .ref (ad 0))]) hx hb d_Term_settle_1 rfl hl (by decide) rfl (fun ls hl => ?_)
  refine lv_iconst (v := 0) hx hb d_Term_settle_2 (by decide) ?_
  refine lv_istore_n (lv' := [(2, .int 0), (1, .int 0), (0, .ref (ad 0))]) hx hb d_Term_settle_3 rfl hl (by decide) rfl (fun ls hl => ?_)
  have loop : ∀ (fu : Nat) (i o : Nat) (Z : ZTS) (ls : Array Slot) (H : Heap) (locs : List Loc), (i + fu = z) → (tm_inv Z i o) → (tm_so Z) → (t_sz Z = nI z) → (tm_settle (so, xs, pa, pm, bi, op, (nI z)) = tm_settleN fu i o Z) → lv_has ls 3 [(2, .int (nI i)), (1, .int (nI o)), (0, .ref (ad 0))] → va_P (dC, dI) classes (tm_W cA ad Z) H → va_D A (tm_W cA ad Z) → va_S A s.heap H locs → W p l e (headSpec w_Term_settle ({ frames := 2, cells := 0, slots := 0, locals := 44 } : Room)).room s m (List.toArray [.ref (ad 0)]) below meth c H locs 0 0 (MQ below (va_Qi (fun (r : Int32) (u : ZTS) => r = (tm_settle (so, xs, pa, pm, bi, op, (nI z))).1 ∧ u = (tm_settle (so, xs, pa, pm, bi, op, (nI z))).2) (fun u => lm_at (dC, dI) classes [(cA, .int)] A (tm_W cA ad u)) A) (List.toArray [.ref (ad 0)]) s 0 0 A) (F0 m 4 ls []) := by
    intro fu
    induction fu with
    | zero => 
      intro i o Z ls H locs hk hI hso hsz hq hl hP hD hS
      refine lv_iload_n hx hb d_Term_settle_4 rfl (lv_at hl 0 rfl) ?_
      refine lv_aload_n hx hb d_Term_settle_5 rfl (lv_at hl 2 rfl) ?_
      refine va_get (D := (dC, dI)) (ci := 3) (v := .int Z.2.2.2.2.2.2) (C := R_Term) (T := F_Term) (N := 7) hx hb hts (fun q hq => List.mem_cons_of_mem _ (i_Term q hq)) hown hK hP 0 rfl rfl 6 (by decide) (hts _ (List.mem_cons_of_mem _ m_2_6)) (fun _ h9 => h9) rfl d_Term_settle_6 ?_
      refine lv_icmp_ge hx hb d_Term_settle_9 rfl (fun h9 => ?_) (fun h9 => by exact absurd (by rw [show Z.2.2.2.2.2.2 = nI z from hsz]; exact nI_le (by omega) (by omega)) h9)
      refine lv_aload_n hx hb d_Term_settle_118 rfl (lv_at hl 2 rfl) ?_
      refine va_get (D := (dC, dI)) (ci := 3) (v := .int Z.2.2.2.2.2.2) (C := R_Term) (T := F_Term) (N := 7) hx hb hts (fun q hq => List.mem_cons_of_mem _ (i_Term q hq)) hown hK hP 0 rfl rfl 6 (by decide) (hts _ (List.mem_cons_of_mem _ m_2_6)) (fun _ h9 => h9) rfl d_Term_settle_119 ?_
      refine lv_if_eq hx hb d_Term_settle_122 rfl (fun h122 => ?_) (fun h122 => ?_)
      · refine lv_iconst (v := 1) hx hb d_Term_settle_129 (by decide) ?_
        refine lv_aload_n hx hb d_Term_settle_130 rfl (lv_at hl 2 rfl) ?_
        refine va_get (D := (dC, dI)) (ci := 3) (v := .int Z.2.2.2.2.2.2) (C := R_Term) (T := F_Term) (N := 7) hx hb hts (fun q hq => List.mem_cons_of_mem _ (i_Term q hq)) hown hK hP 0 rfl rfl 6 (by decide) (hts _ (List.mem_cons_of_mem _ m_2_6)) (fun _ h9 => h9) rfl d_Term_settle_131 ?_
        refine lv_iadd hx hb d_Term_settle_134 ?_
        refine lv_goto hx hb d_Term_settle_135 rfl ?_
        refine lm_ri (v := (1 + Z.2.2.2.2.2.2)) hx hb hr hlocks Z ?_ hP hK hD hS d_Term_settle_139
        rw [hq, tm_settleN]; first | (rw [if_pos h122]; exact ⟨rfl, rfl⟩) | (rw [if_neg h122, if_pos (tm_o0 h126 (by have := hI.1; omega))]; exact ⟨rfl, rfl⟩) | (rw [if_neg h122, if_neg (fun q => h126 (by rw [q]; decide))]; exact ⟨rfl, rfl⟩)
      · refine lv_iload_n hx hb d_Term_settle_125 rfl (lv_at hl 1 rfl) ?_
        refine lv_if_le hx hb d_Term_settle_126 rfl (fun h126 => ?_) (fun h126 => ?_)
        · refine lv_iconst (v := 0) hx hb d_Term_settle_138 (by decide) ?_
          refine lm_ri (v := 0) hx hb hr hlocks Z ?_ hP hK hD hS d_Term_settle_139
          rw [hq, tm_settleN]; first | (rw [if_pos h122]; exact ⟨rfl, rfl⟩) | (rw [if_neg h122, if_pos (tm_o0 h126 (by have := hI.1; omega))]; exact ⟨rfl, rfl⟩) | (rw [if_neg h122, if_neg (fun q => h126 (by rw [q]; decide))]; exact ⟨rfl, rfl⟩)
        · refine lv_iconst (v := 1) hx hb d_Term_settle_129 (by decide) ?_
          refine lv_aload_n hx hb d_Term_settle_130 rfl (lv_at hl 2 rfl) ?_
          refine va_get (D := (dC, dI)) (ci := 3) (v := .int Z.2.2.2.2.2.2) (C := R_Term) (T := F_Term) (N := 7) hx hb hts (fun q hq => List.mem_cons_of_mem _ (i_Term q hq)) hown hK hP 0 rfl rfl 6 (by decide) (hts _ (List.mem_cons_of_mem _ m_2_6)) (fun _ h9 => h9) rfl d_Term_settle_131 ?_
          refine lv_iadd hx hb d_Term_settle_134 ?_
          refine lv_goto hx hb d_Term_settle_135 rfl ?_
          refine lm_ri (v := (1 + Z.2.2.2.2.2.2)) hx hb hr hlocks Z ?_ hP hK hD hS d_Term_settle_139
          rw [hq, tm_settleN]; first | (rw [if_pos h122]; exact ⟨rfl, rfl⟩) | (rw [if_neg h122, if_pos (tm_o0 h126 (by have := hI.1; omega))]; exact ⟨rfl, rfl⟩) | (rw [if_neg h122, if_neg (fun q => h126 (by rw [q]; decide))]; exact ⟨rfl, rfl⟩)
    | succ fu ih => 
      intro i o Z ls H locs hk hI hso hsz hq hl hP hD hS
      refine lv_iload_n hx hb d_Term_settle_4 rfl (lv_at hl 0 rfl) ?_
      refine lv_aload_n hx hb d_Term_settle_5 rfl (lv_at hl 2 rfl) ?_
      refine va_get (D := (dC, dI)) (ci := 3) (v := .int Z.2.2.2.2.2.2) (C := R_Term) (T := F_Term) (N := 7) hx hb hts (fun q hq => List.mem_cons_of_mem _ (i_Term q hq)) hown hK hP 0 rfl rfl 6 (by decide) (hts _ (List.mem_cons_of_mem _ m_2_6)) (fun _ h9 => h9) rfl d_Term_settle_6 ?_
      refine lv_icmp_ge hx hb d_Term_settle_9 rfl (fun h9 => by exact absurd h9 (by rw [show Z.2.2.2.2.2.2 = nI z from hsz]; exact nI_ge (by omega) (by omega))) (fun h9 => ?_)
      have cut112 : ∀ (o : Nat) (Z : ZTS) (ls : Array Slot) (H : Heap) (locs : List Loc), (tm_inv Z (i + 1) o) → (tm_so Z) → (t_sz Z = nI z) → (tm_settle (so, xs, pa, pm, bi, op, (nI z)) = tm_settleN fu (i + 1) o Z) → lv_has ls 3 [(2, .int (nI i)), (1, .int (nI o)), (0, .ref (ad 0))] → va_P (dC, dI) classes (tm_W cA ad Z) H → va_D A (tm_W cA ad Z) → va_S A s.heap H locs → W p l e (headSpec w_Term_settle ({ frames := 2, cells := 0, slots := 0, locals := 44 } : Room)).room s m (List.toArray [.ref (ad 0)]) below meth c H locs 0 0 (MQ below (va_Qi (fun (r : Int32) (u : ZTS) => r = (tm_settle (so, xs, pa, pm, bi, op, (nI z))).1 ∧ u = (tm_settle (so, xs, pa, pm, bi, op, (nI z))).2) (fun u => lm_at (dC, dI) classes [(cA, .int)] A (tm_W cA ad u)) A) (List.toArray [.ref (ad 0)]) s 0 0 A) (F0 m 112 ls []) := by
        intro o Z ls H locs hI hso hsz hq hl hP hD hS
        refine lv_iinc (k := 0) (v := (nI (i + 1))) (lv' := [(2, .int (nI (i + 1))), (1, .int (nI o)), (0, .ref (ad 0))]) hx hb d_Term_settle_112 hl rfl ((nI_succ i).symm) (by decide) rfl (fun ls hl => ?_)
        refine lv_goto hx hb d_Term_settle_115 rfl ?_
        exact ih (i + 1) o Z _ _ _ (by omega) (by exact hI) (by exact hso) (by exact hsz) (by exact hq) (lv_sub hl [0, 1, 2] rfl) hP hD hS
      have cut82 : ∀ (o : Nat) (Z : ZTS) (ls : Array Slot) (H : Heap) (locs : List Loc), (tm_inv Z i o) → (tm_so Z) → (t_sz Z = nI z) → (tm_settle (so, xs, pa, pm, bi, op, (nI z)) = tm_settleN fu (i + 1) (tm_s4 Z i o).1 (tm_s4 Z i o).2) → lv_has ls 3 [(2, .int (nI i)), (1, .int (nI o)), (0, .ref (ad 0))] → va_P (dC, dI) classes (tm_W cA ad Z) H → va_D A (tm_W cA ad Z) → va_S A s.heap H locs → W p l e (headSpec w_Term_settle ({ frames := 2, cells := 0, slots := 0, locals := 44 } : Room)).room s m (List.toArray [.ref (ad 0)]) below meth c H locs 0 0 (MQ below (va_Qi (fun (r : Int32) (u : ZTS) => r = (tm_settle (so, xs, pa, pm, bi, op, (nI z))).1 ∧ u = (tm_settle (so, xs, pa, pm, bi, op, (nI z))).2) (fun u => lm_at (dC, dI) classes [(cA, .int)] A (tm_W cA ad u)) A) (List.toArray [.ref (ad 0)]) s 0 0 A) (F0 m 82 ls []) := by
        intro o Z ls H locs hI hso hsz hq hl hP hD hS
        refine lv_aload_n hx hb d_Term_settle_82 rfl (lv_at hl 2 rfl) ?_
        refine va_get (D := (dC, dI)) (ci := 3) (v := .ref (ad 4)) (C := R_Term) (T := F_Term) (N := 7) hx hb hts (fun q hq => List.mem_cons_of_mem _ (i_Term q hq)) hown hK hP 0 rfl rfl 3 (by decide) (hts _ (List.mem_cons_of_mem _ m_2_3)) (fun _ h9 => h9) rfl d_Term_settle_83 ?_
        refine lv_iload_n hx hb d_Term_settle_86 rfl (lv_at hl 0 rfl) ?_
        refine lv_iconst (v := 0) hx hb d_Term_settle_87 (by decide) ?_
        have hin : vp_in (nI i) 200 := by first | assumption | exact vp_in_nI (by omega) (by decide)
        refine va_iast (f := Z.2.2.2.1) (n := 200) hx hb hK hP hD hS 4 0 rfl rfl hin d_Term_settle_88 (fun H locs hP hD hS => ?_)
        rw [nI_clamp (show i < 2 ^ 31 by omega)] at hP hD
        have hP : va_P (dC, dI) classes (tm_W cA ad (Z.1, Z.2.1, Z.2.2.1, (upd Z.2.2.2.1 i 0), Z.2.2.2.2.1, Z.2.2.2.2.2.1, Z.2.2.2.2.2.2)) H := hP
        have hD : va_D A (tm_W cA ad (Z.1, Z.2.1, Z.2.2.1, (upd Z.2.2.2.1 i 0), Z.2.2.2.2.1, Z.2.2.2.2.2.1, Z.2.2.2.2.2.2)) := hD
        refine va_getsN hx hb hZ hS hown (va_Nw.use rfl hN) (fun _ h9 => h9) d_Term_settle_89 ?_
        refine lv_aload_n hx hb d_Term_settle_92 rfl (lv_at hl 2 rfl) ?_
        refine va_get (D := (dC, dI)) (ci := 3) (v := .ref (ad 1)) (C := R_Term) (T := F_Term) (N := 7) hx hb hts (fun q hq => List.mem_cons_of_mem _ (i_Term q hq)) hown hK hP 0 rfl rfl 0 (by decide) (hts _ (List.mem_cons_of_mem _ m_2_0)) (fun _ h9 => h9) rfl d_Term_settle_93 ?_
        refine lv_iload_n hx hb d_Term_settle_96 rfl (lv_at hl 0 rfl) ?_
        have hin : vp_in (nI i) 200 := by first | assumption | exact vp_in_nI (by omega) (by decide)
        refine va_iald (f := Z.1) (n := 200) hx hb hK hP 1 0 rfl rfl hin d_Term_settle_97 ?_
        rw [nI_clamp (show i < 2 ^ 31 by omega)]
        refine va_ti (v := .int (tm_pt (Z.1 i).toNatClampNeg)) hx hb hT hS (by exact hso i (by omega)) rfl d_Term_settle_98 ?_
        refine lv_if_le hx hb d_Term_settle_99 rfl (fun h99 => ?_) (fun h99 => ?_)
        · exact cut112 o (tm_setpm Z i 0) _ _ _ (by exact tm_inv_pm hI 0) (by exact hso) (by exact hsz) (by rw [hq, tm_s4, if_pos h99]) (lv_sub hl [0, 1, 2] rfl) hP hD hS
        · refine lv_aload_n hx hb d_Term_settle_102 rfl (lv_at hl 2 rfl) ?_
          refine va_get (D := (dC, dI)) (ci := 3) (v := .ref (ad 6)) (C := R_Term) (T := F_Term) (N := 7) hx hb hts (fun q hq => List.mem_cons_of_mem _ (i_Term q hq)) hown hK hP 0 rfl rfl 5 (by decide) (hts _ (List.mem_cons_of_mem _ m_2_5)) (fun _ h9 => h9) rfl d_Term_settle_103 ?_
          refine lv_iload_n hx hb d_Term_settle_106 rfl (lv_at hl 1 rfl) ?_
          refine lv_iload_n hx hb d_Term_settle_107 rfl (lv_at hl 0 rfl) ?_
          have hoi := hI.1
          have hin : vp_in (nI o) 200 := by first | assumption | exact vp_in_nI (by omega) (by decide)
          refine va_iast (f := Z.2.2.2.2.2.1) (n := 200) hx hb hK hP hD hS 6 0 rfl rfl hin d_Term_settle_108 (fun H locs hP hD hS => ?_)
          rw [nI_clamp (show o < 2 ^ 31 by omega)] at hP hD
          have hP : va_P (dC, dI) classes (tm_W cA ad (Z.1, Z.2.1, Z.2.2.1, (upd Z.2.2.2.1 i 0), Z.2.2.2.2.1, (upd Z.2.2.2.2.2.1 o (nI i)), Z.2.2.2.2.2.2)) H := hP
          have hD : va_D A (tm_W cA ad (Z.1, Z.2.1, Z.2.2.1, (upd Z.2.2.2.1 i 0), Z.2.2.2.2.1, (upd Z.2.2.2.2.2.1 o (nI i)), Z.2.2.2.2.2.2)) := hD
          refine lv_iinc (k := 1) (v := (nI (o + 1))) (lv' := [(1, .int (nI (o + 1))), (2, .int (nI i)), (0, .ref (ad 0))]) hx hb d_Term_settle_109 hl rfl ((nI_succ o).symm) (by decide) rfl (fun ls hl => ?_)
          exact cut112 (o + 1) (tm_setop (tm_setpm Z i 0) o (nI i)) _ _ _ (by exact tm_inv_op hI h99) (by exact hso) (by exact hsz) (by rw [hq, tm_s4, if_neg h99]) (lv_sub hl [1, 0, 2] rfl) hP hD hS
      have cut54 : ∀ (o : Nat) (Z : ZTS) (ls : Array Slot) (H : Heap) (locs : List Loc), (tm_inv Z i o) → (tm_so Z) → (t_sz Z = nI z) → (tm_settle (so, xs, pa, pm, bi, op, (nI z)) = (if t_so Z i = 0 ∧ t_bi Z i ≤ t_xs Z i then (1 + nI i, Z) else tm_settleN fu (i + 1) (tm_s4 Z i o).1 (tm_s4 Z i o).2)) → lv_has ls 3 [(2, .int (nI i)), (1, .int (nI o)), (0, .ref (ad 0))] → va_P (dC, dI) classes (tm_W cA ad Z) H → va_D A (tm_W cA ad Z) → va_S A s.heap H locs → W p l e (headSpec w_Term_settle ({ frames := 2, cells := 0, slots := 0, locals := 44 } : Room)).room s m (List.toArray [.ref (ad 0)]) below meth c H locs 0 0 (MQ below (va_Qi (fun (r : Int32) (u : ZTS) => r = (tm_settle (so, xs, pa, pm, bi, op, (nI z))).1 ∧ u = (tm_settle (so, xs, pa, pm, bi, op, (nI z))).2) (fun u => lm_at (dC, dI) classes [(cA, .int)] A (tm_W cA ad u)) A) (List.toArray [.ref (ad 0)]) s 0 0 A) (F0 m 54 ls []) := by
        intro o Z ls H locs hI hso hsz hq hl hP hD hS
        refine lv_aload_n hx hb d_Term_settle_54 rfl (lv_at hl 2 rfl) ?_
        refine va_get (D := (dC, dI)) (ci := 3) (v := .ref (ad 1)) (C := R_Term) (T := F_Term) (N := 7) hx hb hts (fun q hq => List.mem_cons_of_mem _ (i_Term q hq)) hown hK hP 0 rfl rfl 0 (by decide) (hts _ (List.mem_cons_of_mem _ m_2_0)) (fun _ h9 => h9) rfl d_Term_settle_55 ?_
        refine lv_iload_n hx hb d_Term_settle_58 rfl (lv_at hl 0 rfl) ?_
        have hin : vp_in (nI i) 200 := by first | assumption | exact vp_in_nI (by omega) (by decide)
        refine va_iald (f := Z.1) (n := 200) hx hb hK hP 1 0 rfl rfl hin d_Term_settle_59 ?_
        rw [nI_clamp (show i < 2 ^ 31 by omega)]
        refine lv_if_ne hx hb d_Term_settle_60 rfl (fun h60 => ?_) (fun h60 => ?_)
        · exact cut82 o Z _ _ _ (by exact hI) (by exact hso) (by exact hsz) (by rw [hq, if_neg (fun q => h60 q.1)]) (lv_sub hl [0, 1, 2] rfl) hP hD hS
        · refine lv_aload_n hx hb d_Term_settle_63 rfl (lv_at hl 2 rfl) ?_
          refine va_get (D := (dC, dI)) (ci := 3) (v := .ref (ad 2)) (C := R_Term) (T := F_Term) (N := 7) hx hb hts (fun q hq => List.mem_cons_of_mem _ (i_Term q hq)) hown hK hP 0 rfl rfl 1 (by decide) (hts _ (List.mem_cons_of_mem _ m_2_1)) (fun _ h9 => h9) rfl d_Term_settle_64 ?_
          refine lv_iload_n hx hb d_Term_settle_67 rfl (lv_at hl 0 rfl) ?_
          have hin : vp_in (nI i) 200 := by first | assumption | exact vp_in_nI (by omega) (by decide)
          refine va_iald (f := Z.2.1) (n := 200) hx hb hK hP 2 0 rfl rfl hin d_Term_settle_68 ?_
          rw [nI_clamp (show i < 2 ^ 31 by omega)]
          refine lv_aload_n hx hb d_Term_settle_69 rfl (lv_at hl 2 rfl) ?_
          refine va_get (D := (dC, dI)) (ci := 3) (v := .ref (ad 5)) (C := R_Term) (T := F_Term) (N := 7) hx hb hts (fun q hq => List.mem_cons_of_mem _ (i_Term q hq)) hown hK hP 0 rfl rfl 4 (by decide) (hts _ (List.mem_cons_of_mem _ m_2_4)) (fun _ h9 => h9) rfl d_Term_settle_70 ?_
          refine lv_iload_n hx hb d_Term_settle_73 rfl (lv_at hl 0 rfl) ?_
          have hin : vp_in (nI i) 200 := by first | assumption | exact vp_in_nI (by omega) (by decide)
          refine va_iald (f := Z.2.2.2.2.1) (n := 200) hx hb hK hP 5 0 rfl rfl hin d_Term_settle_74 ?_
          rw [nI_clamp (show i < 2 ^ 31 by omega)]
          refine lv_icmp_lt hx hb d_Term_settle_75 rfl (fun h75 => ?_) (fun h75 => ?_)
          · exact cut82 o Z _ _ _ (by exact hI) (by exact hso) (by exact hsz) (by rw [hq, if_neg (fun q => (by have h1 := q.2; have h2 : t_xs Z i < t_bi Z i := h75; rw [Int32.le_iff_toInt_le] at h1; rw [Int32.lt_iff_toInt_lt] at h2; omega))]) (lv_sub hl [0, 1, 2] rfl) hP hD hS
          · refine lv_iconst (v := 1) hx hb d_Term_settle_78 (by decide) ?_
            refine lv_iload_n hx hb d_Term_settle_79 rfl (lv_at hl 0 rfl) ?_
            refine lv_iadd hx hb d_Term_settle_80 ?_
            refine lm_ri (v := (1 + (nI i))) hx hb hr hlocks Z ?_ hP hK hD hS d_Term_settle_81
            rw [hq, if_pos ⟨h60, by have h2 : ¬ t_xs Z i < t_bi Z i := h75; rw [Int32.lt_iff_toInt_lt] at h2; rw [Int32.le_iff_toInt_le]; omega⟩]; exact ⟨rfl, rfl⟩
      have cut24 : ∀ (o : Nat) (Z : ZTS) (ls : Array Slot) (H : Heap) (locs : List Loc), (tm_inv Z i o) → (tm_so Z) → (t_sz Z = nI z) → (tm_settle (so, xs, pa, pm, bi, op, (nI z)) = (if t_so (tm_s2 Z i o).2 i = 0 ∧ t_bi (tm_s2 Z i o).2 i ≤ t_xs (tm_s2 Z i o).2 i then (1 + nI i, (tm_s2 Z i o).2) else tm_settleN fu (i + 1) (tm_s4 (tm_s2 Z i o).2 i (tm_s2 Z i o).1).1 (tm_s4 (tm_s2 Z i o).2 i (tm_s2 Z i o).1).2)) → lv_has ls 3 [(2, .int (nI i)), (1, .int (nI o)), (0, .ref (ad 0))] → va_P (dC, dI) classes (tm_W cA ad Z) H → va_D A (tm_W cA ad Z) → va_S A s.heap H locs → W p l e (headSpec w_Term_settle ({ frames := 2, cells := 0, slots := 0, locals := 44 } : Room)).room s m (List.toArray [.ref (ad 0)]) below meth c H locs 0 0 (MQ below (va_Qi (fun (r : Int32) (u : ZTS) => r = (tm_settle (so, xs, pa, pm, bi, op, (nI z))).1 ∧ u = (tm_settle (so, xs, pa, pm, bi, op, (nI z))).2) (fun u => lm_at (dC, dI) classes [(cA, .int)] A (tm_W cA ad u)) A) (List.toArray [.ref (ad 0)]) s 0 0 A) (F0 m 24 ls []) := by
        intro o Z ls H locs hI hso hsz hq hl hP hD hS
        refine lv_aload_n hx hb d_Term_settle_24 rfl (lv_at hl 2 rfl) ?_
        refine va_get (D := (dC, dI)) (ci := 3) (v := .ref (ad 5)) (C := R_Term) (T := F_Term) (N := 7) hx hb hts (fun q hq => List.mem_cons_of_mem _ (i_Term q hq)) hown hK hP 0 rfl rfl 4 (by decide) (hts _ (List.mem_cons_of_mem _ m_2_4)) (fun _ h9 => h9) rfl d_Term_settle_25 ?_
        refine lv_iload_n hx hb d_Term_settle_28 rfl (lv_at hl 0 rfl) ?_
        refine lv_iconst (v := 0) hx hb d_Term_settle_29 (by decide) ?_
        have hin : vp_in (nI i) 200 := by first | assumption | exact vp_in_nI (by omega) (by decide)
        refine va_iast (f := Z.2.2.2.2.1) (n := 200) hx hb hK hP hD hS 5 0 rfl rfl hin d_Term_settle_30 (fun H locs hP hD hS => ?_)
        rw [nI_clamp (show i < 2 ^ 31 by omega)] at hP hD
        have hP : va_P (dC, dI) classes (tm_W cA ad (Z.1, Z.2.1, Z.2.2.1, Z.2.2.2.1, (upd Z.2.2.2.2.1 i 0), Z.2.2.2.2.2.1, Z.2.2.2.2.2.2)) H := hP
        have hD : va_D A (tm_W cA ad (Z.1, Z.2.1, Z.2.2.1, Z.2.2.2.1, (upd Z.2.2.2.2.1 i 0), Z.2.2.2.2.2.1, Z.2.2.2.2.2.2)) := hD
        refine lv_iload_n hx hb d_Term_settle_31 rfl (lv_at hl 1 rfl) ?_
        refine lv_if_le hx hb d_Term_settle_32 rfl (fun h32 => ?_) (fun h32 => ?_)
        · exact cut54 o (tm_setbi Z i 0) _ _ _ (by exact hI) (by exact hso) (by exact hsz) (by rw [hq, tm_s2, if_pos (tm_o0 h32 (by have := hI.1; omega))]) (lv_sub hl [0, 1, 2] rfl) hP hD hS
        · obtain ⟨o, rfl⟩ : ∃ k, o = k + 1 := by
            rcases o with _ | k
            · exact absurd (Int32.le_refl _) h32
            · exact ⟨k, rfl⟩
          have hoi := hI.1
          refine lv_aload_n hx hb d_Term_settle_35 rfl (lv_at hl 2 rfl) ?_
          refine lv_aload_n hx hb d_Term_settle_36 rfl (lv_at hl 2 rfl) ?_
          refine va_get (D := (dC, dI)) (ci := 3) (v := .ref (ad 6)) (C := R_Term) (T := F_Term) (N := 7) hx hb hts (fun q hq => List.mem_cons_of_mem _ (i_Term q hq)) hown hK hP 0 rfl rfl 5 (by decide) (hts _ (List.mem_cons_of_mem _ m_2_5)) (fun _ h9 => h9) rfl d_Term_settle_37 ?_
          refine lv_iload_n hx hb d_Term_settle_40 rfl (lv_at hl 1 rfl) ?_
          refine lv_iconst (v := 1) hx hb d_Term_settle_41 (by decide) ?_
          refine lv_isub hx hb d_Term_settle_42 ?_
          refine lv_topi (fun z_ e_ => ?_)
          have e_ : z_ = nI o := e_.trans (nI_pred o)
          subst e_
          have hin : vp_in (nI o) 200 := by first | assumption | exact vp_in_nI (by omega) (by decide)
          refine va_iald (f := Z.2.2.2.2.2.1) (n := 200) hx hb hK hP 6 0 rfl rfl hin d_Term_settle_43 ?_
          rw [nI_clamp (show o < 2 ^ 31 by omega)]
          refine lv_iload_n hx hb d_Term_settle_44 rfl (lv_at hl 0 rfl) ?_
          refine lm_vi (b := ad 0) (As := [.int (Z.2.2.2.2.2.1 o), .int (nI i)]) (rest := []) (wr := ([] : va_W)) ⟨hx, hb, hml, hown, hts⟩ hK hP hD hS hA [0, 1, 2, 3, 4, 5, 6] [] rfl rfl (by decide) (by decide) (by decide) (c_Term_givePart l dC dI cA tp ad _ (Z.1, Z.2.1, Z.2.2.1, Z.2.2.2.1, (upd Z.2.2.2.2.1 i 0), Z.2.2.2.2.2.1, Z.2.2.2.2.2.2) (Z.2.2.2.2.2.1 o) (nI i) (by obtain ⟨q, h2, _⟩ := hI.2; rw [show Z.2.2.2.2.2.1 o = nI (q o) from (h2 o (by omega)).1]; exact vp_in_nI (by have := (h2 o (by omega)).2.1; omega) (by decide)) (by exact vp_in_nI (by omega) (by decide)) (by exact tm_inv_ix hI (by omega)) (by exact hso _ (tm_inv_lt hI (by omega)))) (cwV 2 hts (lm_gV m_3_4 m_3_5 m_19_4 m_0_4 m_3_6) rfl rfl rfl (by decide +kernel) ⟨Nat.le_of_ble_eq_true rfl, Nat.le_of_ble_eq_true rfl⟩) (va_recv (q0 := 0) hK hP rfl rfl) tm_E_bl (tm_E_use hE hS (va_free (wc := tm_W cA ad (Z.1, Z.2.1, Z.2.2.1, Z.2.2.2.1, (upd Z.2.2.2.2.1 i 0), Z.2.2.2.2.2.1, Z.2.2.2.2.2.2)) hD hS hA [0, 1, 2, 3, 4, 5, 6] rfl)) hl.1 rfl rfl (Nat.le_of_ble_eq_true rfl) d_Term_settle_45 ⟨Nat.le_of_ble_eq_true rfl, Nat.le_of_ble_eq_true rfl⟩ (fun r45 u45 H locs w45 hP hD hS => ?_)
          obtain ⟨e_r45, w45⟩ := w45
          have hP : va_P (dC, dI) classes (tm_W cA ad u45) H := hP
          have hD : va_D A (tm_W cA ad u45) := hD
          have g1 : r45 = (tm_give (tm_setbi Z i 0) (t_op Z o) (nI i)).1 := e_r45
          have g2 : u45 = (tm_give (tm_setbi Z i 0) (t_op Z o) (nI i)).2 := w45
          refine lv_if_eq hx hb d_Term_settle_48 rfl (fun h48 => ?_) (fun h48 => ?_)
          · exact cut54 (o + 1) u45 _ _ _ (by rw [g2]; exact (tm_inv_give hI (by omega)).2 (by rw [← g1]; exact h48)) (by rw [g2]; exact hso) (by rw [g2]; exact hsz) (by rw [hq, tm_s2_0 (by rw [← g1]; exact h48), g2]) (lv_sub hl [0, 1, 2] rfl) hP hD hS
          · refine lv_iinc (k := 1) (v := (nI o)) (lv' := [(1, .int (nI o)), (2, .int (nI i)), (0, .ref (ad 0))]) hx hb d_Term_settle_51 hl rfl (pk_m1 o) (by decide) rfl (fun ls hl => ?_)
            exact cut54 o u45 _ _ _ (by rw [g2]; exact (tm_inv_give hI (by omega)).1 (by rw [← g1]; exact h48)) (by rw [g2]; exact hso) (by rw [g2]; exact hsz) (by rw [hq, tm_s2_1 (by rw [← g1]; exact h48), g2]) (lv_sub hl [1, 0, 2] rfl) hP hD hS
      refine lv_iload_n hx hb d_Term_settle_12 rfl (lv_at hl 0 rfl) ?_
      refine lv_if_le hx hb d_Term_settle_13 rfl (fun h13 => ?_) (fun h13 => ?_)
      · exact cut24 o Z _ _ _ (by exact hI) (by exact hso) (by exact hsz) (by rw [hq, tm_settleN, if_neg (fun q => q.1 (tm_o0 h13 (by omega)))]) (lv_sub hl [0, 1, 2] rfl) hP hD hS
      · refine lv_iload_n hx hb d_Term_settle_16 rfl (lv_at hl 1 rfl) ?_
        refine lv_if_ne hx hb d_Term_settle_17 rfl (fun h17 => ?_) (fun h17 => ?_)
        · exact cut24 o Z _ _ _ (by exact hI) (by exact hso) (by exact hsz) (by rw [hq, tm_settleN, if_neg (fun q => h17 (by rw [q.2]; rfl))]) (lv_sub hl [0, 1, 2] rfl) hP hD hS
        · refine lv_iconst (v := 1) hx hb d_Term_settle_20 (by decide) ?_
          refine lv_iload_n hx hb d_Term_settle_21 rfl (lv_at hl 0 rfl) ?_
          refine lv_iadd hx hb d_Term_settle_22 ?_
          refine lm_ri (v := (1 + (nI i))) hx hb hr hlocks Z ?_ hP hK hD hS d_Term_settle_23
          rw [hq, tm_settleN, if_pos ⟨fun q => h13 (by rw [q]; decide), tm_oz h17 (by have := hI.1; omega)⟩]; exact ⟨rfl, rfl⟩
  exact loop z 0 0 (so, xs, pa, pm, bi, op, (nI z)) _ _ _ (by omega) (by exact ⟨by omega, fun _ => 0, fun j hj => by omega, fun j k _ hk => by omega⟩) (by exact hso) (by rfl) (by unfold tm_settle; rw [show (t_sz (so, xs, pa, pm, bi, op, (nI z))).toNatClampNeg = z from nI_clamp (by omega)]) hl hP hD hS
