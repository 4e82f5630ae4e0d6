set_option maxHeartbeats 4000000 in
set_option maxRecDepth 100000 in
/-- from the entry, for every script of at most 1536 ints, the law comes to its end with true -/
theorem whole_start {p : Program} {e : Env} {s : State} {m : MethodId} {below : List Frame} {meth : Method} {c : Code} (l : Launch) (hl0 : l.stackTraces = false) {b L : Nat} {xs : Nat → Int32} (hL : L ≤ 1536) (C0 : lw_At p s m meth c b L xs) : W p l e room_1 s m #[Value.ref b] below meth c s.heap [] 0 0 (lw_Z below #[Value.ref b] s) (entryFrame m ([Value.ref b] : List Value).toArray 7) := by
  obtain ⟨hx, hb, hr, hml, hown, hts, hX, hbl, hlocks, hgv⟩ := C0
  have hown : s.vm.findClass R_Law = some m.cls := hown
  obtain ⟨dC, dI, hK0⟩ := lw_kn hts
  have hcur : s.vm.findClass R_LazyMachine = some (dC 0) := (hK0.1 0 _ rfl).2.1
  obtain ⟨sa, tp, hE, hT⟩ := lw_env hts hcur hgv
  obtain ⟨cA, hcA⟩ := lx_arrI (hts _ (wd_tbl _ m_1_6))
  obtain ⟨cZ, hcZ⟩ := lx_arrZ (hts _ (wd_tbl _ m_14_23))
  have hK := lw_tys hK0 hcA hcZ
  have hK1 : va_K (dC, dI) classes [(cA, .int)] s := hK.sub [0] rfl
  have hA : ∀ q, s.heap.size ≤ q → lw_A s q := fun q h => h
  have hS : va_S (lw_A s) s.heap s.heap [] := va_S.rf
  have hP : va_P (dC, dI) classes [] s.heap := lw_P0
  have hD : va_D (lw_A s) [] := lw_D0
  have hl := lv_entry ([.ref b]) (n := 7) (Nat.le_of_ble_eq_true rfl)
  rw [lg_entry_eq]
  generalize (lg_sl ([.ref b]) ++ List.replicate (7 - (lg_sl ([.ref b])).length) Slot.unset).toArray = ls at hl ⊢
  have hl : lv_has ls 7 [(0, .ref b)] := hl
  refine va_new (ci := 0) (fs := [.null, .null, .null, .null, .int 0, .int 0, .int 0, .int 0, .int 0, .int 0, .int 0, .int 0, .int 0]) (C := R_LazyMachine) (T := F_LazyMachine) (N := 13) hx hb hts (fun q hq => wd_tbl _ (i_LazyMachine q hq)) t_LazyMachine t_LazyMachine_ok hown (hts _ (wd_tbl _ m_0_7)) (hts _ (wd_tbl _ m_0_8)) (hts _ (wd_tbl _ m_0_1)) hK hP hD hS hA rfl z_LazyMachine (Nat.le_of_ble_eq_true rfl) (Nat.le_of_ble_eq_true rfl) d_law_0 (fun q0 H hP hD hS => ?_)
  refine W.widen (k := 1) (n := 13) (by omega) (by omega) ?_
  refine lv_dup hx hb d_law_3 rfl ?_
  refine lm_iv (b := q0) (As := []) (rest := [.ref q0]) (wr := ([] : va_W)) (wf := fun ad => lz_W cA ad lm_new) ⟨hx, hb, hml, hown, hts⟩ hK1 hP hD hS hA [0] [] rfl rfl (by decide) (by decide) (by decide) (c_LazyMachine_init l dC dI cA q0 _) (fun _ _ h => h) (cwI 0 hts (lx_gLI m_0_11) rfl rfl rfl (hts _ (wd_tbl _ m_0_1)) (hts _ (wd_tbl _ m_0_9)) (hts _ (wd_tbl _ m_0_10)) rfl (by decide +kernel) ⟨Nat.le_of_ble_eq_true rfl, Nat.le_of_ble_eq_true rfl⟩) lm_bl_no (fun _ _ _ => trivial) hl.1 rfl rfl (Nat.le_of_ble_eq_true rfl) d_law_4 ⟨Nat.le_of_ble_eq_true rfl, Nat.le_of_ble_eq_true rfl⟩ (fun ad H9 locs9 e9 hP9 hD9 hS9 => ?_)
  subst e9
  have hP : va_P (dC, dI) classes (lz_W cA ad lm_new) H9 := hP9
  have hD : va_D (lw_A s) (lz_W cA ad lm_new) := hD9
  have hS := hS9
  refine W.widen (k := 26) (n := 5377) (by omega) (by omega) ?_
  refine lv_astore_n (lv' := [(1, .ref (ad 0)), (0, .ref b)]) hx hb d_law_7 rfl hl (by decide) rfl (fun ls hl => ?_)
  refine va_new (ci := 4) (fs := [.int 0, .null, .null, .int 0, .null, .null, .null, .int 0, .null, .null, .null, .null, .null, .null, .null, .int 0, .null, .null, .null, .int 0, .int 0, .int 0, .int 0, .int 0, .int 0, .int 0, .int 0, .int 0, .int 0, .int 0]) (C := R_Model) (T := F_Model) (N := 30) hx hb hts (fun q hq => wd_tbl _ (i_Model q hq)) t_Model t_Model_ok hown (hts _ (wd_tbl _ m_13_11)) (hts _ (wd_tbl _ m_13_12)) (hts _ (wd_tbl _ m_0_5)) hK hP hD hS hA rfl z_Model (Nat.le_of_ble_eq_true rfl) (Nat.le_of_ble_eq_true rfl) d_law_8 (fun q8 H hP hD hS => ?_)
  refine W.widen (k := 27) (n := 5407) (by omega) (by omega) ?_
  refine lv_dup hx hb d_law_11 rfl ?_
  refine lm_iv (b := q8) (As := []) (rest := [.ref q8]) (wr := lz_W cA ad lm_new) (wf := fun am => mr_W cA cZ am md_new) ⟨hx, hb, hml, hown, hts⟩ hK hP hD hS hA [26] [0, 1, 2, 3, 4, 5, 6, 7, 8, 9, 10, 11, 12, 13, 14, 15, 16, 17, 18, 19, 20, 21, 22, 23, 24, 25] rfl rfl (by decide) (by decide) (by decide) (c_Model_init l dC dI cA cZ q8 _) (fun _ _ h => h) (cwI 0 hts (lx_gLI m_13_15) rfl rfl rfl (hts _ (wd_tbl _ m_0_5)) (hts _ (wd_tbl _ m_13_13)) (hts _ (wd_tbl _ m_13_14)) rfl (by decide +kernel) ⟨Nat.le_of_ble_eq_true rfl, Nat.le_of_ble_eq_true rfl⟩) lm_bl_no (fun _ _ _ => trivial) hl.1 rfl rfl (Nat.le_of_ble_eq_true rfl) d_law_12 ⟨Nat.le_of_ble_eq_true rfl, Nat.le_of_ble_eq_true rfl⟩ (fun am H9 locs9 e9 hP9 hD9 hS9 => ?_)
  subst e9
  have hP : va_P (dC, dI) classes (lz_W cA ad lm_new ++ mr_W cA cZ am md_new) H9 := hP9
  have hD : va_D (lw_A s) (lz_W cA ad lm_new ++ mr_W cA cZ am md_new) := hD9
  have hS := hS9
  refine W.widen (k := 42) (n := 10087) (by omega) (by omega) ?_
  refine lv_astore_n (lv' := [(2, .ref (am 0)), (1, .ref (ad 0)), (0, .ref b)]) hx hb d_law_15 rfl hl (by decide) rfl (fun ls hl => ?_)
  refine lv_iconst (v := 1) hx hb d_law_16 (by decide) ?_
  refine va_newa (N' := 1) (a0 := (1, .inr (.inl (fun _ => 0)))) (atype := .long) (ty := .long) hx hb (hts _ lw_long) rfl hK hP hD hS hA (fun _ => rfl) (by decide) (by decide) (by decide) (Nat.le_of_ble_eq_true rfl) (Nat.le_of_ble_eq_true rfl) d_law_17 (fun ao cL H hK hP hD hS => ?_)
  have hK : va_K (dC, dI) classes [(cA, .int), (cZ, .boolean), (cL, .long)] s := hK
  have hP : va_P (dC, dI) classes (lw_W cA cZ cL am ad ao lm_new md_new (fun _ => 0)) H := hP.sub [26, 27, 28, 29, 30, 31, 32, 33, 34, 35, 36, 37, 38, 39, 40, 41, 42, 0, 1, 2, 3, 4, 5, 6, 7, 8, 9, 10, 11, 12, 13, 14, 15, 16, 17, 18, 19, 20, 21, 22, 23, 24, 25] rfl
  have hD : va_D (lw_A s) (lw_W cA cZ cL am ad ao lm_new md_new (fun _ => 0)) := hD.sub [26, 27, 28, 29, 30, 31, 32, 33, 34, 35, 36, 37, 38, 39, 40, 41, 42, 0, 1, 2, 3, 4, 5, 6, 7, 8, 9, 10, 11, 12, 13, 14, 15, 16, 17, 18, 19, 20, 21, 22, 23, 24, 25] (by decide) rfl
  refine lv_astore_n (lv' := [(3, .ref ao), (2, .ref (am 0)), (1, .ref (ad 0)), (0, .ref b)]) hx hb d_law_19 rfl hl (by decide) rfl (fun ls hl => ?_)
  refine lv_iconst (v := 0) hx hb d_law_20 (by decide) ?_
  refine lv_istore (lv' := [(4, .int 0), (3, .ref ao), (2, .ref (am 0)), (1, .ref (ad 0)), (0, .ref b)]) hx hb d_law_21 hl (by decide) rfl (fun ls hl => ?_)
  have hl : lv_has ls 7 (lw_ls b am ad ao 0) := lv_sub hl [4, 3, 2, 1, 0] rfl
  exact lw_loop (sa := sa) (tp := tp) ⟨⟨hx, hb, hr, hml, hown, hlocks⟩, hts, ⟨hX, hbl, hL⟩, hK, hl0, hE, hT⟩ (L / 3) 0 (by omega) ad lm_new md_new (fun _ => 0) ls H _ hl hP hD hS z_new
