/-! The law's helpers: what they hold, how they end. -/
abbrev lo_W (cL : ClassId) (ao : Nat) (g : Nat → Int64) : va_W := [(ao, .inl (cL, 1, .inr (.inl g)))]
abbrev lh_W (cA cL : ClassId) (ad : Nat → Nat) (ao : Nat) (u : ZMS × (Nat → Int64)) : va_W := lo_W cL ao u.2 ++ lz_W cA ad u.1
/-- the answer is written where nothing was thrown -/
def lo_set (g : Nat → Int64) (h : Int32 × Int32 × ZMS) : Nat → Int64 := if h.1 = 0 then vp_updL g 0 h.2.1.toInt64 else g
theorem lo_0 (g : Nat → Int64) (x : Int32) (M : ZMS) : lo_set g (0, x, M) = vp_updL g 0 x.toInt64 := by
  unfold lo_set
  rw [if_pos rfl]
theorem lo_n (g : Nat → Int64) {k : Int32} (x : Int32) (M : ZMS) (hk : ¬ k = 0) : lo_set g (k, x, M) = g := by
  unfold lo_set
  rw [if_neg hk]
abbrev lh_rm : Room := { frames := 7, cells := 1, slots := 6, locals := 160 }
theorem lx_widen {p : Program} {l : Launch} {e : Env} {R : Room} {s : State} {m : MethodId} {args : Array Value} {below : List Frame} {meth : Method} {c : Code} {H : Heap} {locs : List Loc} {cells slots : Nat} {Q : State → Prop} {g : JFrame} (k n : Nat) (h1 : cells ≤ k) (h2 : slots ≤ n) (kk : W p l e R s m args below meth c H locs k n Q g) : W p l e R s m args below meth c H locs cells slots Q g := fun T hT X => kk T hT (stand_widen X h1 h2)
theorem lx_lcmp {p : Program} {l : Launch} {e : Env} {R : Room} {s : State} {m : MethodId} {args : Array Value} {below : List Frame} {meth : Method} {c : Code} {H : Heap} {locs : List Loc} {cells slots : Nat} {Q : State → Prop} {cc : ByteArray} {pc : Nat} {ls : Array Slot} {rest : List Value} (hexec : p.tables.exec = Jvm.exec) (hb : c.code = cc) {x y : Int64} (hxy : x = y) (hdg : decode cc pc = .ok (.lcmp, 1))
    (k : W p l e R s m args below meth c H locs cells slots Q (F0 m (pc + 1) ls (.int 0 :: rest))) : W p l e R s m args below meth c H locs cells slots Q (F0 m pc ls (.long y :: .long x :: rest)) := by
  subst hxy
  intro T hT X
  obtain ⟨t, a, b⟩ := k T hT X
  refine ⟨t, ?_, b⟩
  jvm_step X.here [X.here.top, hexec, hb, hdg]
  exact a
abbrev cw_Law_put : Cond := Cond.codeWith y_Law_put b_Law_put 5 (some .int) [(0, 10, 13, 13)]
theorem cw_Law_put_in : cw_Law_put ∈ lw_tbl := by decide +kernel
abbrev cw_Law_restart : Cond := Cond.codeWith y_Law_restart b_Law_restart 2 (some .int) [(0, 4, 7, 18)]
theorem cw_Law_restart_in : cw_Law_restart ∈ lw_tbl := by decide +kernel
abbrev cw_Law_run : Cond := Cond.codeWith y_Law_run b_Law_run 4 (some .int) [(0, 9, 12, 18), (0, 9, 15, 13)]
theorem cw_Law_run_in : cw_Law_run ∈ lw_tbl := by decide +kernel
abbrev cw_Law_result : Cond := Cond.codeWith y_Law_result b_Law_result 4 (some .int) [(0, 9, 12, 18)]
theorem cw_Law_result_in : cw_Law_result ∈ lw_tbl := by decide +kernel
abbrev cw_Law_into : Cond := Cond.codeWith y_Law_into b_Law_into 4 (some .int) [(0, 9, 12, 18), (0, 9, 15, 13)]
theorem cw_Law_into_in : cw_Law_into ∈ lw_tbl := by decide +kernel
abbrev cw_Law_apply : Cond := Cond.codeWith y_Law_apply b_Law_apply 4 (some .int) [(0, 9, 12, 18)]
theorem cw_Law_apply_in : cw_Law_apply ∈ lw_tbl := by decide +kernel
set_option maxHeartbeats 4000000 in
set_option maxRecDepth 100000 in
theorem h_Law_restart (l : Launch) (hl0 : l.stackTraces = false) (dC : Nat → ClassId) (dI : Nat → Nat → Nat) (cA : ClassId) (sa ad : Nat → Nat) (sz : Nat) (M : ZMS) : vx_Met l y_Law_restart (cw_Law_restart :: wx) lh_rm (va_Pc [.ref (ad 0)] (lm_pre (dC, dI) classes [(cA, .int)] (lz_W cA ad M) sz (lx_E sa (va_A (lz_W cA ad M) sz)))) (va_Qi (fun (r : Int32) (u : ZMS) => r = (hl_restart M).1 ∧ u = (hl_restart M).2) (fun u => lm_at (dC, dI) classes [(cA, .int)] (va_A (lz_W cA ad M) sz) (lz_W cA ad u)) (va_A (lz_W cA ad M) sz)) (vx_X (fun _ : Unit => False) (fun _ _ _ => True) (va_A (lz_W cA ad M) sz)) 1 6 (va_A (lz_W cA ad M) sz) := by
  refine lx_metH (hh := [(0, 4, 7, 18)]) (fun A => va_Qi (fun (r : Int32) (u : ZMS) => r = (hl_restart M).1 ∧ u = (hl_restart M).2) (fun u => lm_at (dC, dI) classes [(cA, .int)] A (lz_W cA ad u)) A) (fun A => vx_X (fun _ : Unit => False) (fun _ _ _ => True) A) (by decide) rfl (Nat.le_of_ble_eq_true rfl) ?_
  intro p e s m below meth c A hx hb hr hts hown hlocks hname hml htb hK hP hD hA hE hsz hAe hS ls hl
  replace hl : lv_has ls 2 [(0, .ref (ad 0))] := hl
  rw [← hsz, ← hAe] at hE
  clear hAe hsz
  refine lv_aload_n hx hb d_Law_restart_0 rfl (lv_at hl 0 rfl) ?_
  by_cases hs : l_ss M = 0
  · have hq : hl_restart M = (1, M) := by unfold hl_restart; rw [if_pos hs]
    refine lx_vv (Ex := X_ISE) (b := ad 0) (As := []) (rest := []) (wr := ([] : va_W)) ⟨hx, hb, hml, hown, hts⟩ hK hP hD hS hA [0, 1, 2, 3, 4, 5, 6, 7, 8, 9, 10, 11, 12, 13, 14, 15, 16, 17, 18, 19, 20, 21, 22, 23, 24, 25] [] rfl rfl (by decide) (by decide) (by decide) (x_LazyMachine_restart l hl0 dC dI cA sa ad _ M hs) (cwV 0 hts (lx_gV (fun _ h => h) (wx_wd _ m_6_22) (wx_wd _ m_6_23) (wx_wd _ m_7_0) (wx_wd _ m_0_1) (wx_wd _ m_7_1)) rfl rfl rfl (by decide +kernel) ⟨Nat.le_of_ble_eq_true rfl, Nat.le_of_ble_eq_true rfl⟩) (va_recv (q0 := 0) hK hP rfl rfl) lx_E_bl (lx_E_use hE hS (va_free (wc := lz_W cA ad M) hD hS hA [0, 1, 2, 3, 4, 5, 6, 7, 8, 9, 10, 11, 12, 13, 14, 15, 16, 17, 18, 19, 20, 21, 22, 23, 24, 25] rfl)) hl.1 rfl rfl (Nat.le_of_ble_eq_true rfl) d_Law_restart_1 ⟨Nat.le_of_ble_eq_true rfl, Nat.le_of_ble_eq_true rfl⟩ (fun ce q9 H locs hP hD hS hce hcv hcl => ?_)
    have hP : va_P (dC, dI) classes (lz_W cA ad M) H := hP
    have hD : va_D A (lz_W cA ad M) := hD
    refine vx_catch (own := R_Law) (name := X_ISE) (E := X_ISE) hown [] ⟨0, 4, 7, 18⟩ [] htb (fun z h9 => absurd h9 List.not_mem_nil) (by decide) (by decide) (hts _ (List.mem_cons_of_mem _ (wx_wd _ m_6_21))) (va_Nw.use rfl hE.2.1.2.1) hce hcv hcl ?_
    refine lv_astore_n (lv' := [(1, .ref q9), (0, .ref (ad 0))]) hx hb d_Law_restart_7 rfl hl (by decide) rfl (fun ls hl => ?_)
    refine lv_iconst (v := 1) hx hb d_Law_restart_8 (by decide) ?_
    refine vx_ret ?_
    refine lm_ri (v := 1) hx hb hr hlocks M ?_ hP hK hD hS d_Law_restart_9
    rw [hq]
    exact ⟨rfl, rfl⟩
  · have hq : hl_restart M = (0, ma_begin M 1) := by unfold hl_restart; rw [if_neg hs]
    refine lm_vv (b := ad 0) (As := []) (rest := []) (wr := ([] : va_W)) ⟨hx, hb, hml, hown, hts⟩ hK hP hD hS hA [0, 1, 2, 3, 4, 5, 6, 7, 8, 9, 10, 11, 12, 13, 14, 15, 16, 17, 18, 19, 20, 21, 22, 23, 24, 25] [] rfl rfl (by decide) (by decide) (by decide) (c_LazyMachine_restart l dC dI cA ad _ M hs) (cwV 0 hts (lx_gV wx_wd (wx_wd _ m_6_22) (wx_wd _ m_6_23) (wx_wd _ m_7_0) (wx_wd _ m_0_1) (wx_wd _ m_7_1)) rfl rfl rfl (by decide +kernel) ⟨Nat.le_of_ble_eq_true rfl, Nat.le_of_ble_eq_true rfl⟩) (va_recv (q0 := 0) hK hP rfl rfl) lm_bl_no (fun _ _ _ => trivial) hl.1 rfl rfl (Nat.le_of_ble_eq_true rfl) d_Law_restart_1 ⟨Nat.le_of_ble_eq_true rfl, Nat.le_of_ble_eq_true rfl⟩ (fun u9 H locs w9 hP hD hS => ?_)
    have hP : va_P (dC, dI) classes (lz_W cA ad u9) H := hP
    have hD : va_D A (lz_W cA ad u9) := hD
    refine lv_goto hx hb d_Law_restart_4 rfl ?_
    refine lv_iconst (v := 0) hx hb d_Law_restart_10 (by decide) ?_
    refine lx_widen 1 6 (Nat.le_of_ble_eq_true rfl) (Nat.le_of_ble_eq_true rfl) ?_
    refine vx_ret ?_
    refine lm_ri (v := 0) hx hb hr hlocks u9 ?_ hP hK hD hS d_Law_restart_11
    rw [hq, w9]
    exact ⟨rfl, rfl⟩
set_option maxHeartbeats 4000000 in
set_option maxRecDepth 100000 in
theorem h_Law_put (l : Launch) (hl0 : l.stackTraces = false) (dC : Nat → ClassId) (dI : Nat → Nat → Nat) (cA cL : ClassId) (sa ad : Nat → Nat) (ao sz : Nat) (M : ZMS) (g : Nat → Int64) (S : ZNS) (n : Nat) (x1 x2 : Int32) (hz : k_z n M S) (hn : n + 5001 < 2 ^ 31) : vx_Met l y_Law_put (cw_Law_put :: wx) lh_rm (va_Pc [.ref (ad 0), .int x1, .int x2, .ref ao] (lm_pre (dC, dI) classes [(cA, .int), (cL, .long)] (lh_W cA cL ad ao (M, g)) sz (lx_E sa (va_A (lh_W cA cL ad ao (M, g)) sz)))) (va_Qi (fun (r : Int32) (u : ZMS × (Nat → Int64)) => r = (hl_put M x1 x2).1 ∧ u = ((hl_put M x1 x2).2.2, lo_set g (hl_put M x1 x2))) (fun u => lm_at (dC, dI) classes [(cA, .int), (cL, .long)] (va_A (lh_W cA cL ad ao (M, g)) sz) (lh_W cA cL ad ao u)) (va_A (lh_W cA cL ad ao (M, g)) sz)) (vx_X (fun _ : Unit => False) (fun _ _ _ => True) (va_A (lh_W cA cL ad ao (M, g)) sz)) 1 6 (va_A (lh_W cA cL ad ao (M, g)) sz) := by
  refine lx_metH (hh := [(0, 10, 13, 13)]) (fun A => va_Qi (fun (r : Int32) (u : ZMS × (Nat → Int64)) => r = (hl_put M x1 x2).1 ∧ u = ((hl_put M x1 x2).2.2, lo_set g (hl_put M x1 x2))) (fun u => lm_at (dC, dI) classes [(cA, .int), (cL, .long)] A (lh_W cA cL ad ao u)) A) (fun A => vx_X (fun _ : Unit => False) (fun _ _ _ => True) A) (by decide) rfl (Nat.le_of_ble_eq_true rfl) ?_
  intro p e s m below meth c A hx hb hr hts hown hlocks hname hml htb hK hP hD hA hE hsz hAe hS ls hl
  replace hl : lv_has ls 5 [(0, .ref (ad 0)), (1, .int x1), (2, .int x2), (3, .ref ao)] := hl
  rw [← hsz, ← hAe] at hE
  clear hAe hsz
  have hK1 : va_K (dC, dI) classes [(cA, .int)] s := hK.sub [0] rfl
  have hss := k_z_ss hz
  refine lv_aload_n hx hb d_Law_put_0 rfl (lv_at hl 3 rfl) ?_
  refine lv_iconst (v := 0) hx hb d_Law_put_1 (by decide) ?_
  refine lv_aload_n hx hb d_Law_put_2 rfl (lv_at hl 0 rfl) ?_
  refine lv_iload_n hx hb d_Law_put_3 rfl (lv_at hl 1 rfl) ?_
  refine lv_iload_n hx hb d_Law_put_4 rfl (lv_at hl 2 rfl) ?_
  by_cases hg : md_good x1 x2 = 0
  · have hq : hl_put M x1 x2 = (1, 0, M) := by unfold hl_put; rw [if_pos hg]
    refine lx_vi (Ex := X_IAE) (b := ad 0) (As := [.int x1, .int x2]) (rest := [.int 0, .ref ao]) (wr := lo_W cL ao g) ⟨hx, hb, hml, hown, hts⟩ hK1 hP hD hS hA [1, 2, 3, 4, 5, 6, 7, 8, 9, 10, 11, 12, 13, 14, 15, 16, 17, 18, 19, 20, 21, 22, 23, 24, 25, 26] [0] rfl rfl (by decide) (by decide) (by decide) (x_LazyMachine_put l hl0 dC dI cA sa ad _ M x1 x2 (z_bad hg)) (cwV 2 hts (lx_gV (fun _ h => h) (wx_wd _ m_6_6) (wx_wd _ m_6_7) (wx_wd _ m_6_8) (wx_wd _ m_0_1) (wx_wd _ m_6_9)) rfl rfl rfl (by decide +kernel) ⟨Nat.le_of_ble_eq_true rfl, Nat.le_of_ble_eq_true rfl⟩) (va_recv (q0 := 1) hK hP rfl rfl) lx_E_bl (lx_E_use hE hS (va_free (wc := lz_W cA ad M) hD hS hA [1, 2, 3, 4, 5, 6, 7, 8, 9, 10, 11, 12, 13, 14, 15, 16, 17, 18, 19, 20, 21, 22, 23, 24, 25, 26] rfl)) hl.1 rfl rfl (Nat.le_of_ble_eq_true rfl) d_Law_put_5 ⟨Nat.le_of_ble_eq_true rfl, Nat.le_of_ble_eq_true rfl⟩ (fun ce q9 H locs hP hD hS hce hcv hcl => ?_)
    refine vx_catch (own := R_Law) (name := X_IAE) (E := X_IAE) hown [] ⟨0, 10, 13, 13⟩ [] htb (fun z h9 => absurd h9 List.not_mem_nil) (by decide) (by decide) (hts _ (List.mem_cons_of_mem _ (wx_wd _ m_6_5))) (va_Nw.use rfl hE.2.1.2.2.1) hce hcv hcl ?_
    refine lv_astore (lv' := [(4, .ref q9), (0, .ref (ad 0)), (1, .int x1), (2, .int x2), (3, .ref ao)]) hx hb d_Law_put_13 hl (by decide) rfl (fun ls hl => ?_)
    refine lv_iconst (v := 1) hx hb d_Law_put_15 (by decide) ?_
    refine vx_ret ?_
    refine lm_ri (v := 1) hx hb hr hlocks (M, g) ?_ hP hK hD hS d_Law_put_16
    rw [hq]
    exact ⟨rfl, by rw [lo_n g 0 M (by decide)]⟩
  · have hq : hl_put M x1 x2 = (0, (ma_put M x1 x2).1, (ma_put M x1 x2).2) := by unfold hl_put; rw [if_neg hg]
    refine lm_vi (b := ad 0) (As := [.int x1, .int x2]) (rest := [.int 0, .ref ao]) (wr := lo_W cL ao g) ⟨hx, hb, hml, hown, hts⟩ hK1 hP hD hS hA [1, 2, 3, 4, 5, 6, 7, 8, 9, 10, 11, 12, 13, 14, 15, 16, 17, 18, 19, 20, 21, 22, 23, 24, 25, 26] [0] rfl rfl (by decide) (by decide) (by decide) (c_LazyMachine_put l dC dI cA ad _ M x1 x2 (z_good hg).1 (z_good hg).2 (k_z_X hz).1) (cwV 2 hts (lx_gV wx_wd (wx_wd _ m_6_6) (wx_wd _ m_6_7) (wx_wd _ m_6_8) (wx_wd _ m_0_1) (wx_wd _ m_6_9)) rfl rfl rfl (by decide +kernel) ⟨Nat.le_of_ble_eq_true rfl, Nat.le_of_ble_eq_true rfl⟩) (va_recv (q0 := 1) hK hP rfl rfl) lm_bl_no (fun _ _ _ => trivial) hl.1 rfl rfl (Nat.le_of_ble_eq_true rfl) d_Law_put_5 ⟨Nat.le_of_ble_eq_true rfl, Nat.le_of_ble_eq_true rfl⟩ (fun r9 u9 H locs w9 hP hD hS => ?_)
    obtain ⟨e9, w9⟩ := w9
    refine lv_i2l hx hb d_Law_put_8 rfl ?_
    refine va_last (cA := cL) (n := 1) (f := g) hx hb hK hP hD hS 0 1 rfl rfl (vp_in_nI (n := 0) (by decide) (by decide)) d_Law_put_9 (fun H locs hP hD hS => ?_)
    have hP : va_P (dC, dI) classes (lh_W cA cL ad ao (u9, vp_updL g 0 r9.toInt64)) H := hP
    have hD : va_D A (lh_W cA cL ad ao (u9, vp_updL g 0 r9.toInt64)) := hD
    refine lv_goto hx hb d_Law_put_10 rfl ?_
    refine lv_iconst (v := 0) hx hb d_Law_put_17 (by decide) ?_
    refine lx_widen 1 6 (Nat.le_of_ble_eq_true rfl) (Nat.le_of_ble_eq_true rfl) ?_
    refine vx_ret ?_
    refine lm_ri (v := 0) hx hb hr hlocks (u9, vp_updL g 0 r9.toInt64) ?_ hP hK hD hS d_Law_put_18
    rw [hq, e9, w9]
    exact ⟨rfl, by rw [lo_0]⟩
set_option maxHeartbeats 4000000 in
set_option maxRecDepth 100000 in
theorem h_Law_run (l : Launch) (hl0 : l.stackTraces = false) (dC : Nat → ClassId) (dI : Nat → Nat → Nat) (cA cL : ClassId) (sa ad : Nat → Nat) (ao sz : Nat) (M : ZMS) (g : Nat → Int64) (S : ZNS) (n : Nat) (x : Int32) (hz : k_z n M S) (hn : n + 5001 < 2 ^ 31) : vx_Met l y_Law_run (cw_Law_run :: wx) lh_rm (va_Pc [.ref (ad 0), .int x, .ref ao] (lm_pre (dC, dI) classes [(cA, .int), (cL, .long)] (lh_W cA cL ad ao (M, g)) sz (lx_E sa (va_A (lh_W cA cL ad ao (M, g)) sz)))) (va_Qi (fun (r : Int32) (u : ZMS × (Nat → Int64)) => r = (hl_run M x).1 ∧ u = ((hl_run M x).2.2, lo_set g (hl_run M x))) (fun u => lm_at (dC, dI) classes [(cA, .int), (cL, .long)] (va_A (lh_W cA cL ad ao (M, g)) sz) (lh_W cA cL ad ao u)) (va_A (lh_W cA cL ad ao (M, g)) sz)) (vx_X (fun _ : Unit => False) (fun _ _ _ => True) (va_A (lh_W cA cL ad ao (M, g)) sz)) 1 6 (va_A (lh_W cA cL ad ao (M, g)) sz) := by
  refine lx_metH (hh := [(0, 9, 12, 18), (0, 9, 15, 13)]) (fun A => va_Qi (fun (r : Int32) (u : ZMS × (Nat → Int64)) => r = (hl_run M x).1 ∧ u = ((hl_run M x).2.2, lo_set g (hl_run M x))) (fun u => lm_at (dC, dI) classes [(cA, .int), (cL, .long)] A (lh_W cA cL ad ao u)) A) (fun A => vx_X (fun _ : Unit => False) (fun _ _ _ => True) A) (by decide) rfl (Nat.le_of_ble_eq_true rfl) ?_
  intro p e s m below meth c A hx hb hr hts hown hlocks hname hml htb hK hP hD hA hE hsz hAe hS ls hl
  replace hl : lv_has ls 4 [(0, .ref (ad 0)), (1, .int x), (2, .ref ao)] := hl
  rw [← hsz, ← hAe] at hE
  clear hAe hsz
  have hK1 : va_K (dC, dI) classes [(cA, .int)] s := hK.sub [0] rfl
  have hss := k_z_ss hz
  refine lv_aload_n hx hb d_Law_run_0 rfl (lv_at hl 2 rfl) ?_
  refine lv_iconst (v := 0) hx hb d_Law_run_1 (by decide) ?_
  refine lv_aload_n hx hb d_Law_run_2 rfl (lv_at hl 0 rfl) ?_
  refine lv_iload_n hx hb d_Law_run_3 rfl (lv_at hl 1 rfl) ?_
  by_cases hs : l_ss M = 0
  · have hq : hl_run M x = (1, 0, M) := by unfold hl_run; rw [if_pos hs]
    refine lx_vi (Ex := X_ISE) (b := ad 0) (As := [.int x]) (rest := [.int 0, .ref ao]) (wr := lo_W cL ao g) ⟨hx, hb, hml, hown, hts⟩ hK1 hP hD hS hA [1, 2, 3, 4, 5, 6, 7, 8, 9, 10, 11, 12, 13, 14, 15, 16, 17, 18, 19, 20, 21, 22, 23, 24, 25, 26] [0] rfl rfl (by decide) (by decide) (by decide) (x_LazyMachine_run1 l hl0 dC dI cA sa ad _ M x hs) (cwV 1 hts (lx_gV (fun _ h => h) (wx_wd _ m_7_5) (wx_wd _ m_7_6) (wx_wd _ m_7_7) (wx_wd _ m_0_1) (wx_wd _ m_7_8)) rfl rfl rfl (by decide +kernel) ⟨Nat.le_of_ble_eq_true rfl, Nat.le_of_ble_eq_true rfl⟩) (va_recv (q0 := 1) hK hP rfl rfl) lx_E_bl (lx_E_use hE hS (va_free (wc := lz_W cA ad M) hD hS hA [1, 2, 3, 4, 5, 6, 7, 8, 9, 10, 11, 12, 13, 14, 15, 16, 17, 18, 19, 20, 21, 22, 23, 24, 25, 26] rfl)) hl.1 rfl rfl (Nat.le_of_ble_eq_true rfl) d_Law_run_4 ⟨Nat.le_of_ble_eq_true rfl, Nat.le_of_ble_eq_true rfl⟩ (fun ce q9 H locs hP hD hS hce hcv hcl => ?_)
    refine vx_catch (own := R_Law) (name := X_ISE) (E := X_ISE) hown [] ⟨0, 9, 12, 18⟩ [⟨0, 9, 15, 13⟩] htb (fun z h9 => absurd h9 List.not_mem_nil) (by decide) (by decide) (hts _ (List.mem_cons_of_mem _ (wx_wd _ m_6_21))) (va_Nw.use rfl hE.2.1.2.1) hce hcv hcl ?_
    refine lv_astore_n (lv' := [(3, .ref q9), (0, .ref (ad 0)), (1, .int x), (2, .ref ao)]) hx hb d_Law_run_12 rfl hl (by decide) rfl (fun ls hl => ?_)
    refine lv_iconst (v := 1) hx hb d_Law_run_13 (by decide) ?_
    refine vx_ret ?_
    refine lm_ri (v := 1) hx hb hr hlocks (M, g) ?_ hP hK hD hS d_Law_run_14
    rw [hq]
    exact ⟨rfl, by rw [lo_n g 0 M (by decide)]⟩
  · by_cases h1 : x < 0 ∨ ¬ x ≤ 5000
    · have hq : hl_run M x = (2, 0, M) := by unfold hl_run; rw [if_neg hs]; rcases h1 with h1 | h1; (rw [if_pos h1]); (by_cases h2 : x < 0; (rw [if_pos h2]); (rw [if_neg h2, if_neg h1]))
      refine lx_vi (Ex := X_IAE) (b := ad 0) (As := [.int x]) (rest := [.int 0, .ref ao]) (wr := lo_W cL ao g) ⟨hx, hb, hml, hown, hts⟩ hK1 hP hD hS hA [1, 2, 3, 4, 5, 6, 7, 8, 9, 10, 11, 12, 13, 14, 15, 16, 17, 18, 19, 20, 21, 22, 23, 24, 25, 26] [0] rfl rfl (by decide) (by decide) (by decide) (x_LazyMachine_run2 l hl0 dC dI cA sa ad _ M x hs h1) (cwV 1 hts (lx_gV (fun _ h => h) (wx_wd _ m_7_5) (wx_wd _ m_7_6) (wx_wd _ m_7_7) (wx_wd _ m_0_1) (wx_wd _ m_7_8)) rfl rfl rfl (by decide +kernel) ⟨Nat.le_of_ble_eq_true rfl, Nat.le_of_ble_eq_true rfl⟩) (va_recv (q0 := 1) hK hP rfl rfl) lx_E_bl (lx_E_use hE hS (va_free (wc := lz_W cA ad M) hD hS hA [1, 2, 3, 4, 5, 6, 7, 8, 9, 10, 11, 12, 13, 14, 15, 16, 17, 18, 19, 20, 21, 22, 23, 24, 25, 26] rfl)) hl.1 rfl rfl (Nat.le_of_ble_eq_true rfl) d_Law_run_4 ⟨Nat.le_of_ble_eq_true rfl, Nat.le_of_ble_eq_true rfl⟩ (fun ce q9 H locs hP hD hS hce hcv hcl => ?_)
      refine vx_catch (own := R_Law) (name := X_IAE) (E := X_IAE) hown [⟨0, 9, 12, 18⟩] ⟨0, 9, 15, 13⟩ [] htb (fun z h9 => by rw [List.mem_singleton.mp h9]; exact Or.inr ⟨by decide, X_ISE, hts _ (List.mem_cons_of_mem _ (wx_wd _ m_6_21)), hE.2.1.2.2.2⟩) (by decide) (by decide) (hts _ (List.mem_cons_of_mem _ (wx_wd _ m_6_5))) (va_Nw.use rfl hE.2.1.2.2.1) hce hcv hcl ?_
      refine lv_astore_n (lv' := [(3, .ref q9), (0, .ref (ad 0)), (1, .int x), (2, .ref ao)]) hx hb d_Law_run_15 rfl hl (by decide) rfl (fun ls hl => ?_)
      refine lv_iconst (v := 2) hx hb d_Law_run_16 (by decide) ?_
      refine vx_ret ?_
      refine lm_ri (v := 2) hx hb hr hlocks (M, g) ?_ hP hK hD hS d_Law_run_17
      rw [hq]
      exact ⟨rfl, by rw [lo_n g 0 M (by decide)]⟩
    · have h2 : ¬ x < 0 := fun q => h1 (Or.inl q)
      have h3 : x ≤ 5000 := Decidable.not_not.mp (fun q => h1 (Or.inr q))
      obtain ⟨T, hx0⟩ := k_z_x hz (fun q => hs (hss.1.trans q))
      have hq : hl_run M x = (0, l_ss (ma_runN x.toNatClampNeg M), ma_runN x.toNatClampNeg M) := by unfold hl_run; rw [if_neg hs, if_neg h2, if_pos h3]
      refine lm_vi (b := ad 0) (As := [.int x]) (rest := [.int 0, .ref ao]) (wr := lo_W cL ao g) ⟨hx, hb, hml, hown, hts⟩ hK1 hP hD hS hA [1, 2, 3, 4, 5, 6, 7, 8, 9, 10, 11, 12, 13, 14, 15, 16, 17, 18, 19, 20, 21, 22, 23, 24, 25, 26] [0] rfl rfl (by decide) (by decide) (by decide) (c_LazyMachine_run l dC dI cA ad _ M x hs (k_5000 h2 h3) (fun j N => ∃ S1, k_x T (n + j) N S1) ⟨S, hx0⟩ (fun j N _ hI _ => by obtain ⟨S1, h9⟩ := hI; exact k_sf h9) (fun j N hj hI hs1 => by obtain ⟨S1, h9⟩ := hI; exact ⟨_, k_step h9 (show n + j + 1 < 2 ^ 31 by omega) hs1⟩)) (cwV 1 hts (lx_gV wx_wd (wx_wd _ m_7_5) (wx_wd _ m_7_6) (wx_wd _ m_7_7) (wx_wd _ m_0_1) (wx_wd _ m_7_8)) rfl rfl rfl (by decide +kernel) ⟨Nat.le_of_ble_eq_true rfl, Nat.le_of_ble_eq_true rfl⟩) (va_recv (q0 := 1) hK hP rfl rfl) lm_bl_no (fun _ _ _ => trivial) hl.1 rfl rfl (Nat.le_of_ble_eq_true rfl) d_Law_run_4 ⟨Nat.le_of_ble_eq_true rfl, Nat.le_of_ble_eq_true rfl⟩ (fun r9 u9 H locs w9 hP hD hS => ?_)
      obtain ⟨e9, w9⟩ := w9
      refine lv_i2l hx hb d_Law_run_7 rfl ?_
      refine va_last (cA := cL) (n := 1) (f := g) hx hb hK hP hD hS 0 1 rfl rfl (vp_in_nI (n := 0) (by decide) (by decide)) d_Law_run_8 (fun H locs hP hD hS => ?_)
      have hP : va_P (dC, dI) classes (lh_W cA cL ad ao (u9, vp_updL g 0 r9.toInt64)) H := hP
      have hD : va_D A (lh_W cA cL ad ao (u9, vp_updL g 0 r9.toInt64)) := hD
      refine lv_goto hx hb d_Law_run_9 rfl ?_
      refine lv_iconst (v := 0) hx hb d_Law_run_18 (by decide) ?_
      refine lx_widen 1 6 (Nat.le_of_ble_eq_true rfl) (Nat.le_of_ble_eq_true rfl) ?_
      refine vx_ret ?_
      refine lm_ri (v := 0) hx hb hr hlocks (u9, vp_updL g 0 r9.toInt64) ?_ hP hK hD hS d_Law_run_19
      rw [hq, e9, w9]
      exact ⟨rfl, by rw [lo_0]⟩
set_option maxHeartbeats 4000000 in
set_option maxRecDepth 100000 in
theorem h_Law_result (l : Launch) (hl0 : l.stackTraces = false) (dC : Nat → ClassId) (dI : Nat → Nat → Nat) (cA cL : ClassId) (sa ad : Nat → Nat) (ao sz : Nat) (M : ZMS) (g : Nat → Int64) (S : ZNS) (n : Nat) (x : Int32) (hz : k_z n M S) (hn : n + 5001 < 2 ^ 31) : vx_Met l y_Law_result (cw_Law_result :: wx) lh_rm (va_Pc [.ref (ad 0), .int x, .ref ao] (lm_pre (dC, dI) classes [(cA, .int), (cL, .long)] (lh_W cA cL ad ao (M, g)) sz (lx_E sa (va_A (lh_W cA cL ad ao (M, g)) sz)))) (va_Qi (fun (r : Int32) (u : ZMS × (Nat → Int64)) => r = (hl_result M x).1 ∧ u = ((hl_result M x).2.2, lo_set g (hl_result M x))) (fun u => lm_at (dC, dI) classes [(cA, .int), (cL, .long)] (va_A (lh_W cA cL ad ao (M, g)) sz) (lh_W cA cL ad ao u)) (va_A (lh_W cA cL ad ao (M, g)) sz)) (vx_X (fun _ : Unit => False) (fun _ _ _ => True) (va_A (lh_W cA cL ad ao (M, g)) sz)) 1 6 (va_A (lh_W cA cL ad ao (M, g)) sz) := by
  refine lx_metH (hh := [(0, 9, 12, 18)]) (fun A => va_Qi (fun (r : Int32) (u : ZMS × (Nat → Int64)) => r = (hl_result M x).1 ∧ u = ((hl_result M x).2.2, lo_set g (hl_result M x))) (fun u => lm_at (dC, dI) classes [(cA, .int), (cL, .long)] A (lh_W cA cL ad ao u)) A) (fun A => vx_X (fun _ : Unit => False) (fun _ _ _ => True) A) (by decide) rfl (Nat.le_of_ble_eq_true rfl) ?_
  intro p e s m below meth c A hx hb hr hts hown hlocks hname hml htb hK hP hD hA hE hsz hAe hS ls hl
  replace hl : lv_has ls 4 [(0, .ref (ad 0)), (1, .int x), (2, .ref ao)] := hl
  rw [← hsz, ← hAe] at hE
  clear hAe hsz
  have hK1 : va_K (dC, dI) classes [(cA, .int)] s := hK.sub [0] rfl
  have hss := k_z_ss hz
  refine lv_aload_n hx hb d_Law_result_0 rfl (lv_at hl 2 rfl) ?_
  refine lv_iconst (v := 0) hx hb d_Law_result_1 (by decide) ?_
  refine lv_aload_n hx hb d_Law_result_2 rfl (lv_at hl 0 rfl) ?_
  refine lv_iload_n hx hb d_Law_result_3 rfl (lv_at hl 1 rfl) ?_
  by_cases hs : l_ss M = 2
  · have hq : hl_result M x = (0, ma_result M x, M) := by unfold hl_result; rw [if_pos hs]
    refine lm_vi (b := ad 0) (As := [.int x]) (rest := [.int 0, .ref ao]) (wr := lo_W cL ao g) ⟨hx, hb, hml, hown, hts⟩ hK1 hP hD hS hA [1, 2, 3, 4, 5, 6, 7, 8, 9, 10, 11, 12, 13, 14, 15, 16, 17, 18, 19, 20, 21, 22, 23, 24, 25, 26] [0] rfl rfl (by decide) (by decide) (by decide) (c_LazyMachine_result l dC dI cA ad _ M x hs) (cwV 1 hts (lx_gV wx_wd (wx_wd _ m_12_19) (wx_wd _ m_12_20) (wx_wd _ m_12_21) (wx_wd _ m_0_1) (wx_wd _ m_12_22)) rfl rfl rfl (by decide +kernel) ⟨Nat.le_of_ble_eq_true rfl, Nat.le_of_ble_eq_true rfl⟩) (va_recv (q0 := 1) hK hP rfl rfl) lm_bl_no (fun _ _ _ => trivial) hl.1 rfl rfl (Nat.le_of_ble_eq_true rfl) d_Law_result_4 ⟨Nat.le_of_ble_eq_true rfl, Nat.le_of_ble_eq_true rfl⟩ (fun r9 u9 H locs w9 hP hD hS => ?_)
    obtain ⟨e9, w9⟩ := w9
    refine lv_i2l hx hb d_Law_result_7 rfl ?_
    refine va_last (cA := cL) (n := 1) (f := g) hx hb hK hP hD hS 0 1 rfl rfl (vp_in_nI (n := 0) (by decide) (by decide)) d_Law_result_8 (fun H locs hP hD hS => ?_)
    have hP : va_P (dC, dI) classes (lh_W cA cL ad ao (u9, vp_updL g 0 r9.toInt64)) H := hP
    have hD : va_D A (lh_W cA cL ad ao (u9, vp_updL g 0 r9.toInt64)) := hD
    refine lv_goto hx hb d_Law_result_9 rfl ?_
    refine lv_iconst (v := 0) hx hb d_Law_result_15 (by decide) ?_
    refine lx_widen 1 6 (Nat.le_of_ble_eq_true rfl) (Nat.le_of_ble_eq_true rfl) ?_
    refine vx_ret ?_
    refine lm_ri (v := 0) hx hb hr hlocks (u9, vp_updL g 0 r9.toInt64) ?_ hP hK hD hS d_Law_result_16
    rw [hq, e9, w9]
    exact ⟨rfl, by rw [lo_0]⟩
  · have hq : hl_result M x = (1, 0, M) := by unfold hl_result; rw [if_neg hs]
    refine lx_vi (Ex := X_ISE) (b := ad 0) (As := [.int x]) (rest := [.int 0, .ref ao]) (wr := lo_W cL ao g) ⟨hx, hb, hml, hown, hts⟩ hK1 hP hD hS hA [1, 2, 3, 4, 5, 6, 7, 8, 9, 10, 11, 12, 13, 14, 15, 16, 17, 18, 19, 20, 21, 22, 23, 24, 25, 26] [0] rfl rfl (by decide) (by decide) (by decide) (x_LazyMachine_result l hl0 dC dI cA sa ad _ M x hs) (cwV 1 hts (lx_gV (fun _ h => h) (wx_wd _ m_12_19) (wx_wd _ m_12_20) (wx_wd _ m_12_21) (wx_wd _ m_0_1) (wx_wd _ m_12_22)) rfl rfl rfl (by decide +kernel) ⟨Nat.le_of_ble_eq_true rfl, Nat.le_of_ble_eq_true rfl⟩) (va_recv (q0 := 1) hK hP rfl rfl) lx_E_bl (lx_E_use hE hS (va_free (wc := lz_W cA ad M) hD hS hA [1, 2, 3, 4, 5, 6, 7, 8, 9, 10, 11, 12, 13, 14, 15, 16, 17, 18, 19, 20, 21, 22, 23, 24, 25, 26] rfl)) hl.1 rfl rfl (Nat.le_of_ble_eq_true rfl) d_Law_result_4 ⟨Nat.le_of_ble_eq_true rfl, Nat.le_of_ble_eq_true rfl⟩ (fun ce q9 H locs hP hD hS hce hcv hcl => ?_)
    refine vx_catch (own := R_Law) (name := X_ISE) (E := X_ISE) hown [] ⟨0, 9, 12, 18⟩ [] htb (fun z h9 => absurd h9 List.not_mem_nil) (by decide) (by decide) (hts _ (List.mem_cons_of_mem _ (wx_wd _ m_6_21))) (va_Nw.use rfl hE.2.1.2.1) hce hcv hcl ?_
    refine lv_astore_n (lv' := [(3, .ref q9), (0, .ref (ad 0)), (1, .int x), (2, .ref ao)]) hx hb d_Law_result_12 rfl hl (by decide) rfl (fun ls hl => ?_)
    refine lv_iconst (v := 1) hx hb d_Law_result_13 (by decide) ?_
    refine vx_ret ?_
    refine lm_ri (v := 1) hx hb hr hlocks (M, g) ?_ hP hK hD hS d_Law_result_14
    rw [hq]
    exact ⟨rfl, by rw [lo_n g 0 M (by decide)]⟩
set_option maxHeartbeats 4000000 in
set_option maxRecDepth 100000 in
theorem h_Law_into (l : Launch) (hl0 : l.stackTraces = false) (dC : Nat → ClassId) (dI : Nat → Nat → Nat) (cA cL : ClassId) (sa ad : Nat → Nat) (ao sz : Nat) (M : ZMS) (g : Nat → Int64) (S : ZNS) (n : Nat) (x : Int32) (hz : k_z n M S) (hn : n + 5001 < 2 ^ 31) : vx_Met l y_Law_into (cw_Law_into :: wx) lh_rm (va_Pc [.ref (ad 0), .int x, .ref ao] (lm_pre (dC, dI) classes [(cA, .int), (cL, .long)] (lh_W cA cL ad ao (M, g)) sz (lx_E sa (va_A (lh_W cA cL ad ao (M, g)) sz)))) (va_Qi (fun (r : Int32) (u : ZMS × (Nat → Int64)) => r = (hl_into M x).1 ∧ u = ((hl_into M x).2.2, lo_set g (hl_into M x))) (fun u => lm_at (dC, dI) classes [(cA, .int), (cL, .long)] (va_A (lh_W cA cL ad ao (M, g)) sz) (lh_W cA cL ad ao u)) (va_A (lh_W cA cL ad ao (M, g)) sz)) (vx_X (fun _ : Unit => False) (fun _ _ _ => True) (va_A (lh_W cA cL ad ao (M, g)) sz)) 1 6 (va_A (lh_W cA cL ad ao (M, g)) sz) := by
  refine lx_metH (hh := [(0, 9, 12, 18), (0, 9, 15, 13)]) (fun A => va_Qi (fun (r : Int32) (u : ZMS × (Nat → Int64)) => r = (hl_into M x).1 ∧ u = ((hl_into M x).2.2, lo_set g (hl_into M x))) (fun u => lm_at (dC, dI) classes [(cA, .int), (cL, .long)] A (lh_W cA cL ad ao u)) A) (fun A => vx_X (fun _ : Unit => False) (fun _ _ _ => True) A) (by decide) rfl (Nat.le_of_ble_eq_true rfl) ?_
  intro p e s m below meth c A hx hb hr hts hown hlocks hname hml htb hK hP hD hA hE hsz hAe hS ls hl
  replace hl : lv_has ls 4 [(0, .ref (ad 0)), (1, .int x), (2, .ref ao)] := hl
  rw [← hsz, ← hAe] at hE
  clear hAe hsz
  have hK1 : va_K (dC, dI) classes [(cA, .int)] s := hK.sub [0] rfl
  have hss := k_z_ss hz
  refine lv_aload_n hx hb d_Law_into_0 rfl (lv_at hl 2 rfl) ?_
  refine lv_iconst (v := 0) hx hb d_Law_into_1 (by decide) ?_
  refine lv_aload_n hx hb d_Law_into_2 rfl (lv_at hl 0 rfl) ?_
  refine lv_iload_n hx hb d_Law_into_3 rfl (lv_at hl 1 rfl) ?_
  by_cases hs : l_ss M = 2 ∧ l_vs M = 2
  · by_cases h1 : x = 0 ∨ x = 1
    · have h9 := k_z_pair hz (hss.1.symm.trans hs.1) ((k_z_vs hz (hss.1.symm.trans hs.1)).trans hs.2)
      have hq : hl_into M x = (0, (ma_into M x).1, (ma_into M x).2) := by unfold hl_into; rw [if_pos hs, if_neg (show ¬ x < 0 by rcases h1 with h1 | h1 <;> rw [h1] <;> decide), if_pos (show x ≤ 1 by rcases h1 with h1 | h1 <;> rw [h1] <;> decide)]
      refine lm_vi (b := ad 0) (As := [.int x]) (rest := [.int 0, .ref ao]) (wr := lo_W cL ao g) ⟨hx, hb, hml, hown, hts⟩ hK1 hP hD hS hA [1, 2, 3, 4, 5, 6, 7, 8, 9, 10, 11, 12, 13, 14, 15, 16, 17, 18, 19, 20, 21, 22, 23, 24, 25, 26] [0] rfl rfl (by decide) (by decide) (by decide) (c_LazyMachine_into l dC dI cA ad _ M x hs.1 hs.2 h1 (z_lo hz).1.2.2.1 h9.1) (cwV 1 hts (lx_gV wx_wd (wx_wd _ m_13_1) (wx_wd _ m_13_2) (wx_wd _ m_13_3) (wx_wd _ m_0_1) (wx_wd _ m_13_4)) rfl rfl rfl (by decide +kernel) ⟨Nat.le_of_ble_eq_true rfl, Nat.le_of_ble_eq_true rfl⟩) (va_recv (q0 := 1) hK hP rfl rfl) lm_bl_no (fun _ _ _ => trivial) hl.1 rfl rfl (Nat.le_of_ble_eq_true rfl) d_Law_into_4 ⟨Nat.le_of_ble_eq_true rfl, Nat.le_of_ble_eq_true rfl⟩ (fun r9 u9 H locs w9 hP hD hS => ?_)
      obtain ⟨e9, w9⟩ := w9
      refine lv_i2l hx hb d_Law_into_7 rfl ?_
      refine va_last (cA := cL) (n := 1) (f := g) hx hb hK hP hD hS 0 1 rfl rfl (vp_in_nI (n := 0) (by decide) (by decide)) d_Law_into_8 (fun H locs hP hD hS => ?_)
      have hP : va_P (dC, dI) classes (lh_W cA cL ad ao (u9, vp_updL g 0 r9.toInt64)) H := hP
      have hD : va_D A (lh_W cA cL ad ao (u9, vp_updL g 0 r9.toInt64)) := hD
      refine lv_goto hx hb d_Law_into_9 rfl ?_
      refine lv_iconst (v := 0) hx hb d_Law_into_18 (by decide) ?_
      refine lx_widen 1 6 (Nat.le_of_ble_eq_true rfl) (Nat.le_of_ble_eq_true rfl) ?_
      refine vx_ret ?_
      refine lm_ri (v := 0) hx hb hr hlocks (u9, vp_updL g 0 r9.toInt64) ?_ hP hK hD hS d_Law_into_19
      rw [hq, e9, w9]
      exact ⟨rfl, by rw [lo_0]⟩
    · have hq : hl_into M x = (2, 0, M) := by unfold hl_into; rw [if_pos hs]; by_cases h2 : x < 0; (rw [if_pos h2]); (rw [if_neg h2, if_neg (fun q => h1 (k_01 h2 q))])
      refine lx_vi (Ex := X_IAE) (b := ad 0) (As := [.int x]) (rest := [.int 0, .ref ao]) (wr := lo_W cL ao g) ⟨hx, hb, hml, hown, hts⟩ hK1 hP hD hS hA [1, 2, 3, 4, 5, 6, 7, 8, 9, 10, 11, 12, 13, 14, 15, 16, 17, 18, 19, 20, 21, 22, 23, 24, 25, 26] [0] rfl rfl (by decide) (by decide) (by decide) (x_LazyMachine_into2 l hl0 dC dI cA sa ad _ M x hs.1 hs.2 h1) (cwV 1 hts (lx_gV (fun _ h => h) (wx_wd _ m_13_1) (wx_wd _ m_13_2) (wx_wd _ m_13_3) (wx_wd _ m_0_1) (wx_wd _ m_13_4)) rfl rfl rfl (by decide +kernel) ⟨Nat.le_of_ble_eq_true rfl, Nat.le_of_ble_eq_true rfl⟩) (va_recv (q0 := 1) hK hP rfl rfl) lx_E_bl (lx_E_use hE hS (va_free (wc := lz_W cA ad M) hD hS hA [1, 2, 3, 4, 5, 6, 7, 8, 9, 10, 11, 12, 13, 14, 15, 16, 17, 18, 19, 20, 21, 22, 23, 24, 25, 26] rfl)) hl.1 rfl rfl (Nat.le_of_ble_eq_true rfl) d_Law_into_4 ⟨Nat.le_of_ble_eq_true rfl, Nat.le_of_ble_eq_true rfl⟩ (fun ce q9 H locs hP hD hS hce hcv hcl => ?_)
      refine vx_catch (own := R_Law) (name := X_IAE) (E := X_IAE) hown [⟨0, 9, 12, 18⟩] ⟨0, 9, 15, 13⟩ [] htb (fun z h9 => by rw [List.mem_singleton.mp h9]; exact Or.inr ⟨by decide, X_ISE, hts _ (List.mem_cons_of_mem _ (wx_wd _ m_6_21)), hE.2.1.2.2.2⟩) (by decide) (by decide) (hts _ (List.mem_cons_of_mem _ (wx_wd _ m_6_5))) (va_Nw.use rfl hE.2.1.2.2.1) hce hcv hcl ?_
      refine lv_astore_n (lv' := [(3, .ref q9), (0, .ref (ad 0)), (1, .int x), (2, .ref ao)]) hx hb d_Law_into_15 rfl hl (by decide) rfl (fun ls hl => ?_)
      refine lv_iconst (v := 2) hx hb d_Law_into_16 (by decide) ?_
      refine vx_ret ?_
      refine lm_ri (v := 2) hx hb hr hlocks (M, g) ?_ hP hK hD hS d_Law_into_17
      rw [hq]
      exact ⟨rfl, by rw [lo_n g 0 M (by decide)]⟩
  · have hq : hl_into M x = (1, 0, M) := by unfold hl_into; rw [if_neg hs]
    refine lx_vi (Ex := X_ISE) (b := ad 0) (As := [.int x]) (rest := [.int 0, .ref ao]) (wr := lo_W cL ao g) ⟨hx, hb, hml, hown, hts⟩ hK1 hP hD hS hA [1, 2, 3, 4, 5, 6, 7, 8, 9, 10, 11, 12, 13, 14, 15, 16, 17, 18, 19, 20, 21, 22, 23, 24, 25, 26] [0] rfl rfl (by decide) (by decide) (by decide) (x_LazyMachine_into1 l hl0 dC dI cA sa ad _ M x hs) (cwV 1 hts (lx_gV (fun _ h => h) (wx_wd _ m_13_1) (wx_wd _ m_13_2) (wx_wd _ m_13_3) (wx_wd _ m_0_1) (wx_wd _ m_13_4)) rfl rfl rfl (by decide +kernel) ⟨Nat.le_of_ble_eq_true rfl, Nat.le_of_ble_eq_true rfl⟩) (va_recv (q0 := 1) hK hP rfl rfl) lx_E_bl (lx_E_use hE hS (va_free (wc := lz_W cA ad M) hD hS hA [1, 2, 3, 4, 5, 6, 7, 8, 9, 10, 11, 12, 13, 14, 15, 16, 17, 18, 19, 20, 21, 22, 23, 24, 25, 26] rfl)) hl.1 rfl rfl (Nat.le_of_ble_eq_true rfl) d_Law_into_4 ⟨Nat.le_of_ble_eq_true rfl, Nat.le_of_ble_eq_true rfl⟩ (fun ce q9 H locs hP hD hS hce hcv hcl => ?_)
    refine vx_catch (own := R_Law) (name := X_ISE) (E := X_ISE) hown [] ⟨0, 9, 12, 18⟩ [⟨0, 9, 15, 13⟩] htb (fun z h9 => absurd h9 List.not_mem_nil) (by decide) (by decide) (hts _ (List.mem_cons_of_mem _ (wx_wd _ m_6_21))) (va_Nw.use rfl hE.2.1.2.1) hce hcv hcl ?_
    refine lv_astore_n (lv' := [(3, .ref q9), (0, .ref (ad 0)), (1, .int x), (2, .ref ao)]) hx hb d_Law_into_12 rfl hl (by decide) rfl (fun ls hl => ?_)
    refine lv_iconst (v := 1) hx hb d_Law_into_13 (by decide) ?_
    refine vx_ret ?_
    refine lm_ri (v := 1) hx hb hr hlocks (M, g) ?_ hP hK hD hS d_Law_into_14
    rw [hq]
    exact ⟨rfl, by rw [lo_n g 0 M (by decide)]⟩
set_option maxHeartbeats 4000000 in
set_option maxRecDepth 100000 in
theorem h_Law_apply (l : Launch) (hl0 : l.stackTraces = false) (dC : Nat → ClassId) (dI : Nat → Nat → Nat) (cA cL : ClassId) (sa ad : Nat → Nat) (ao sz : Nat) (M : ZMS) (g : Nat → Int64) (S : ZNS) (n : Nat) (x : Int32) (hz : k_z n M S) (hn : n + 5001 < 2 ^ 31) : vx_Met l y_Law_apply (cw_Law_apply :: wx) lh_rm (va_Pc [.ref (ad 0), .int x, .ref ao] (lm_pre (dC, dI) classes [(cA, .int), (cL, .long)] (lh_W cA cL ad ao (M, g)) sz (lx_E sa (va_A (lh_W cA cL ad ao (M, g)) sz)))) (va_Qi (fun (r : Int32) (u : ZMS × (Nat → Int64)) => r = (hl_apply M x).1 ∧ u = ((hl_apply M x).2.2, lo_set g (hl_apply M x))) (fun u => lm_at (dC, dI) classes [(cA, .int), (cL, .long)] (va_A (lh_W cA cL ad ao (M, g)) sz) (lh_W cA cL ad ao u)) (va_A (lh_W cA cL ad ao (M, g)) sz)) (vx_X (fun _ : Unit => False) (fun _ _ _ => True) (va_A (lh_W cA cL ad ao (M, g)) sz)) 1 6 (va_A (lh_W cA cL ad ao (M, g)) sz) := by
  refine lx_metH (hh := [(0, 9, 12, 18)]) (fun A => va_Qi (fun (r : Int32) (u : ZMS × (Nat → Int64)) => r = (hl_apply M x).1 ∧ u = ((hl_apply M x).2.2, lo_set g (hl_apply M x))) (fun u => lm_at (dC, dI) classes [(cA, .int), (cL, .long)] A (lh_W cA cL ad ao u)) A) (fun A => vx_X (fun _ : Unit => False) (fun _ _ _ => True) A) (by decide) rfl (Nat.le_of_ble_eq_true rfl) ?_
  intro p e s m below meth c A hx hb hr hts hown hlocks hname hml htb hK hP hD hA hE hsz hAe hS ls hl
  replace hl : lv_has ls 4 [(0, .ref (ad 0)), (1, .int x), (2, .ref ao)] := hl
  rw [← hsz, ← hAe] at hE
  clear hAe hsz
  have hK1 : va_K (dC, dI) classes [(cA, .int)] s := hK.sub [0] rfl
  have hss := k_z_ss hz
  refine lv_aload_n hx hb d_Law_apply_0 rfl (lv_at hl 2 rfl) ?_
  refine lv_iconst (v := 0) hx hb d_Law_apply_1 (by decide) ?_
  refine lv_aload_n hx hb d_Law_apply_2 rfl (lv_at hl 0 rfl) ?_
  refine lv_iload_n hx hb d_Law_apply_3 rfl (lv_at hl 1 rfl) ?_
  by_cases hs : l_ss M = 2 ∧ l_vs M = 1
  · have hq : hl_apply M x = (0, (ma_app M x).1, (ma_app M x).2) := by unfold hl_apply; rw [if_pos hs]
    refine lm_vi (b := ad 0) (As := [.int x]) (rest := [.int 0, .ref ao]) (wr := lo_W cL ao g) ⟨hx, hb, hml, hown, hts⟩ hK1 hP hD hS hA [1, 2, 3, 4, 5, 6, 7, 8, 9, 10, 11, 12, 13, 14, 15, 16, 17, 18, 19, 20, 21, 22, 23, 24, 25, 26] [0] rfl rfl (by decide) (by decide) (by decide) (c_LazyMachine_apply l dC dI cA ad _ M x (z_lo hz).1 hs.1 hs.2 (k_z_fun hz (hss.1.symm.trans hs.1) ((k_z_vs hz (hss.1.symm.trans hs.1)).trans hs.2)).1) (cwV 1 hts (lx_gV wx_wd (wx_wd _ m_13_7) (wx_wd _ m_13_8) (wx_wd _ m_13_9) (wx_wd _ m_0_1) (wx_wd _ m_13_10)) rfl rfl rfl (by decide +kernel) ⟨Nat.le_of_ble_eq_true rfl, Nat.le_of_ble_eq_true rfl⟩) (va_recv (q0 := 1) hK hP rfl rfl) lm_bl_no (fun _ _ _ => trivial) hl.1 rfl rfl (Nat.le_of_ble_eq_true rfl) d_Law_apply_4 ⟨Nat.le_of_ble_eq_true rfl, Nat.le_of_ble_eq_true rfl⟩ (fun r9 u9 H locs w9 hP hD hS => ?_)
    obtain ⟨e9, w9⟩ := w9
    refine lv_i2l hx hb d_Law_apply_7 rfl ?_
    refine va_last (cA := cL) (n := 1) (f := g) hx hb hK hP hD hS 0 1 rfl rfl (vp_in_nI (n := 0) (by decide) (by decide)) d_Law_apply_8 (fun H locs hP hD hS => ?_)
    have hP : va_P (dC, dI) classes (lh_W cA cL ad ao (u9, vp_updL g 0 r9.toInt64)) H := hP
    have hD : va_D A (lh_W cA cL ad ao (u9, vp_updL g 0 r9.toInt64)) := hD
    refine lv_goto hx hb d_Law_apply_9 rfl ?_
    refine lv_iconst (v := 0) hx hb d_Law_apply_15 (by decide) ?_
    refine lx_widen 1 6 (Nat.le_of_ble_eq_true rfl) (Nat.le_of_ble_eq_true rfl) ?_
    refine vx_ret ?_
    refine lm_ri (v := 0) hx hb hr hlocks (u9, vp_updL g 0 r9.toInt64) ?_ hP hK hD hS d_Law_apply_16
    rw [hq, e9, w9]
    exact ⟨rfl, by rw [lo_0]⟩
  · have hq : hl_apply M x = (1, 0, M) := by unfold hl_apply; rw [if_neg hs]
    refine lx_vi (Ex := X_ISE) (b := ad 0) (As := [.int x]) (rest := [.int 0, .ref ao]) (wr := lo_W cL ao g) ⟨hx, hb, hml, hown, hts⟩ hK1 hP hD hS hA [1, 2, 3, 4, 5, 6, 7, 8, 9, 10, 11, 12, 13, 14, 15, 16, 17, 18, 19, 20, 21, 22, 23, 24, 25, 26] [0] rfl rfl (by decide) (by decide) (by decide) (x_LazyMachine_apply l hl0 dC dI cA sa ad _ M x hs) (cwV 1 hts (lx_gV (fun _ h => h) (wx_wd _ m_13_7) (wx_wd _ m_13_8) (wx_wd _ m_13_9) (wx_wd _ m_0_1) (wx_wd _ m_13_10)) rfl rfl rfl (by decide +kernel) ⟨Nat.le_of_ble_eq_true rfl, Nat.le_of_ble_eq_true rfl⟩) (va_recv (q0 := 1) hK hP rfl rfl) lx_E_bl (lx_E_use hE hS (va_free (wc := lz_W cA ad M) hD hS hA [1, 2, 3, 4, 5, 6, 7, 8, 9, 10, 11, 12, 13, 14, 15, 16, 17, 18, 19, 20, 21, 22, 23, 24, 25, 26] rfl)) hl.1 rfl rfl (Nat.le_of_ble_eq_true rfl) d_Law_apply_4 ⟨Nat.le_of_ble_eq_true rfl, Nat.le_of_ble_eq_true rfl⟩ (fun ce q9 H locs hP hD hS hce hcv hcl => ?_)
    refine vx_catch (own := R_Law) (name := X_ISE) (E := X_ISE) hown [] ⟨0, 9, 12, 18⟩ [] htb (fun z h9 => absurd h9 List.not_mem_nil) (by decide) (by decide) (hts _ (List.mem_cons_of_mem _ (wx_wd _ m_6_21))) (va_Nw.use rfl hE.2.1.2.1) hce hcv hcl ?_
    refine lv_astore_n (lv' := [(3, .ref q9), (0, .ref (ad 0)), (1, .int x), (2, .ref ao)]) hx hb d_Law_apply_12 rfl hl (by decide) rfl (fun ls hl => ?_)
    refine lv_iconst (v := 1) hx hb d_Law_apply_13 (by decide) ?_
    refine vx_ret ?_
    refine lm_ri (v := 1) hx hb hr hlocks (M, g) ?_ hP hK hD hS d_Law_apply_14
    rw [hq]
    exact ⟨rfl, by rw [lo_n g 0 M (by decide)]⟩
