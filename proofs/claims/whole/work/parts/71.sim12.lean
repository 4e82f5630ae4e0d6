/-! What the law's helpers answer (how it was thrown, the answer, the machine), beside the reference. -/
def hl_put (M : ZMS) (s x : Int32) : Int32 × Int32 × ZMS := if md_good s x = 0 then (1, 0, M) else (0, (ma_put M s x).1, (ma_put M s x).2)
def hl_restart (M : ZMS) : Int32 × ZMS := if l_ss M = 0 then (1, M) else (0, ma_begin M 1)
def hl_run (M : ZMS) (x : Int32) : Int32 × Int32 × ZMS := if l_ss M = 0 then (1, 0, M) else if x < 0 then (2, 0, M) else if x ≤ 5000 then (0, l_ss (ma_runN x.toNatClampNeg M), ma_runN x.toNatClampNeg M) else (2, 0, M)
def hl_result (M : ZMS) (x : Int32) : Int32 × Int32 × ZMS := if l_ss M = 2 then (0, ma_result M x, M) else (1, 0, M)
def hl_into (M : ZMS) (k : Int32) : Int32 × Int32 × ZMS := if l_ss M = 2 ∧ l_vs M = 2 then if k < 0 then (2, 0, M) else if k ≤ 1 then (0, (ma_into M k).1, (ma_into M k).2) else (2, 0, M) else (1, 0, M)
def hl_apply (M : ZMS) (v : Int32) : Int32 × Int32 × ZMS := if l_ss M = 2 ∧ l_vs M = 1 then (0, (ma_app M v).1, (ma_app M v).2) else (1, 0, M)
/-- the two answered alike -/
def k_al (n : Nat) (h : Int32 × Int32 × ZMS) (q : Int32 × ZNS) : Prop := r_th q.2 = h.1 ∧ (h.1 = 0 → h.2.1 = q.1) ∧ k_z (n + 5001) h.2.2 q.2
theorem k_01 {x : Int32} (h : ¬ x < 0) (g : x ≤ 1) : x = 0 ∨ x = 1 := by
  have h3' : ¬ x.toInt < 0 := fun w => h (Int32.lt_iff_toInt_lt.mpr w)
  rw [Int32.le_iff_toInt_le] at g
  have h5 : (1 : Int32).toInt = 1 := by decide
  have h6 : (0 : Int32).toInt = 0 := by decide
  have : x.toInt = 0 ∨ x.toInt = 1 := by omega
  rcases this with q | q
  · exact Or.inl (Int32.toInt_inj.mp (q.trans h6.symm))
  · exact Or.inr (Int32.toInt_inj.mp (q.trans h5.symm))
theorem k_5000 {x : Int32} (h : ¬ x < 0) (g : x ≤ 5000) : ∃ k : Nat, k ≤ 5000 ∧ x = nI k := by
  have h3' : ¬ x.toInt < 0 := fun w => h (Int32.lt_iff_toInt_lt.mpr w)
  rw [Int32.le_iff_toInt_le] at g
  have h5 : (5000 : Int32).toInt = 5000 := by decide
  have hin : vp_in x 5001 := by
    intro q
    rcases q with q | q
    · exact h q
    · have h4 : x.toNatClampNeg = x.toInt.toNat := rfl
      omega
  obtain ⟨j, h1, h2⟩ := vp_in_of hin (by decide)
  exact ⟨j, by omega, h2⟩
theorem al_put {n : Nat} {M : ZMS} {S : ZNS} {s x : Int32} (h : k_z n M S) : k_al n (hl_put M s x) (md_put S s x) := by
  unfold hl_put
  by_cases hg : md_good s x = 0
  · rw [if_pos hg]
    unfold md_put
    rw [if_pos hg]
    exact ⟨rfl, fun q => absurd q (show ¬ (1 : Int32) = 0 by decide), k_z_le h (by omega)⟩
  · rw [if_neg hg]
    obtain ⟨h1, h2⟩ := z_put h hg
    refine ⟨?_, fun _ => h1, k_z_le h2 (by omega)⟩
    unfold md_put
    rw [if_neg hg]
    by_cases hz : r_to S = 200
    · rw [if_pos hz]; rfl
    · rw [if_neg hz]; rfl
theorem al_restart {n : Nat} {M : ZMS} {S : ZNS} (h : k_z n M S) : r_th (md_restart S) = (hl_restart M).1 ∧ k_z (n + 5001) (hl_restart M).2 (md_restart S) := by
  obtain ⟨e, _⟩ := k_z_ss h
  unfold hl_restart
  by_cases hs : r_ss S = 0
  · rw [if_pos (e.trans hs)]
    unfold md_restart
    rw [if_pos hs]
    exact ⟨rfl, k_z_le h (by omega)⟩
  · rw [if_neg (fun q => hs (e.symm.trans q))]
    have := z_restart h hs
    refine ⟨?_, k_z_le this (by omega)⟩
    unfold md_restart
    rw [if_neg hs]; rfl
theorem md_th_at (S : ZNS) : r_th (md_mark S) = r_th S := by
  have h1 : ∀ (n k : Nat) (Z : ZNS), md_eq (md_frN n k Z) Z := by
    intro n
    induction n with
    | zero => intro k Z; exact md_eq_rf Z
    | succ n ih => intro k Z; exact md_eq_tr (ih (k + 1) (md_fr1 Z k)) (md_eq_fr1 Z k)
  have h2 : ∀ (n k : Nat) (Z : ZNS), md_eq (md_tdN n k Z) Z := by
    intro n
    induction n with
    | zero => intro k Z; rw [md_tdN]; exact md_eq_rf Z
    | succ n ih =>
      intro k Z
      rw [md_tdN]
      by_cases h1 : r_le Z ≤ nI k
      · rw [if_pos h1]; exact md_eq_rf Z
      · rw [if_neg h1]; exact md_eq_tr (ih (k + 1) _) (md_eq_td1 Z _)
  have h3' : md_eq (md_mark S) S := by
    unfold md_mark
    exact md_eq_tr (h2 _ _ _) (md_eq_tr (h1 _ _ _) (md_eq_tr (md_eq_root _) (md_eq_tr (md_eq_clrN 256 0 (s_le S 0)).1 (md_eq_le S 0))))
  exact me_th h3'
theorem md_th_full (S : ZNS) (x : Int32) : r_th (md_full S x).2 = r_th S := by
  unfold md_full
  by_cases h : r_le (md_mark S) + x ≤ 256
  · rw [if_pos h]; exact md_th_at S
  · rw [if_neg h]; exact md_th_at S
theorem md_th_high (S : ZNS) : r_th (md_high S).2 = r_th S := by
  unfold md_high
  by_cases h : r_fr S = 200
  · rw [if_pos h]; rfl
  · rw [if_neg h]
theorem md_th_thunk (S : ZNS) (p : Int32) : r_th (md_thunk S p).2 = r_th S := by
  unfold md_thunk
  by_cases h1 : r_sr S p.toNatClampNeg = 0
  · rw [if_pos h1]
  · rw [if_neg h1]; rfl
theorem md_th_go (S : ZNS) (a b : Int32) : r_th (md_go S a b) = r_th S := rfl
theorem md_th_cell (S : ZNS) (a b c : Int32) : r_th (md_cell S a b c).2 = r_th S := rfl
theorem md_th_give (S : ZNS) (a b c : Int32) : r_th (md_give S a b c) = r_th S := rfl
theorem md_th_push (S : ZNS) (a b c : Int32) : r_th (md_push S a b c) = r_th S := rfl
theorem md_th_fo (S : ZNS) (v : Int32) : r_th (s_fo S v) = r_th S := rfl
theorem md_th_p9 (F : ZNS) : r_th (md_p9 F) = r_th F := by
  unfold md_p9
  exact (md_th_push _ _ _ _).trans ((md_th_fo _ _).trans (md_th_cell _ _ _ _))
theorem md_th_app2 (F : ZNS) (v : Int32) : r_th (md_app2 F v) = r_th F := by
  unfold md_app2
  exact (md_th_go _ _ _).trans ((md_th_cell _ _ _ _).trans (md_th_cell _ _ _ _))
theorem md_th_asks (S : ZNS) (t rm : Int32) : r_th (md_asks S t rm).2 = r_th S := by
  unfold md_asks
  by_cases h1 : r_is S t.toNatClampNeg = 4
  · rw [if_pos h1]; rfl
  · rw [if_neg h1]
    by_cases h2 : r_is S t.toNatClampNeg = 3
    · rw [if_pos h2]
      by_cases h3' : rm = 0
      · rw [if_pos h3']
        by_cases h4 : (md_high S).1 = 0
        · rw [if_pos h4]; exact md_th_high S
        · rw [if_neg h4]; exact md_th_high S
      · rw [if_neg h3']; rfl
    · rw [if_neg h2]; rfl
theorem md_th_step_at (S : ZNS) : r_th (md_at S).2 = r_th S := by
  unfold md_at
  by_cases q0 : r_sr S (r_no S).toNatClampNeg = 0
  · rw [if_pos q0]; exact md_th_asks _ _ _
  · rw [if_neg q0]
    by_cases q1 : r_sr S (r_no S).toNatClampNeg = 1
    · rw [if_pos q1]; rfl
    · rw [if_neg q1]
      by_cases q2 : r_sr S (r_no S).toNatClampNeg = 2
      · rw [if_pos q2]
        unfold md_at2
        have hf : r_th (md_f2 S).2 = r_th S := (md_th_full _ _).trans (md_th_high S)
        by_cases h1 : (md_high S).1 = 0
        · rw [if_pos h1]
          by_cases h2 : (md_f2 S).1 = 0
          · rw [if_pos h2]
            have h4 := (md_th_thunk (md_f2 S).2 (md_b S)).trans hf
            generalize md_thunk (md_f2 S).2 (md_b S) = Z1 at h4 ⊢
            exact h4
          · rw [if_neg h2]; exact hf
        · rw [if_neg h1]; exact md_th_high S
      · rw [if_neg q2]
        by_cases q3 : r_sr S (r_no S).toNatClampNeg = 3
        · rw [if_pos q3]; rfl
        · rw [if_neg q3]
          by_cases q9 : r_sr S (r_no S).toNatClampNeg = 9
          · rw [if_pos q9]
            unfold md_at9
            have hf : r_th (md_f9 S).2 = r_th S := (md_th_full _ _).trans (md_th_high S)
            by_cases h1 : (md_high S).1 = 0
            · rw [if_pos h1]
              by_cases h2 : (md_f9 S).1 = 0
              · rw [if_pos h2]
                have h4 := (md_th_p9 (md_f9 S).2).trans hf
                generalize md_p9 (md_f9 S).2 = P at h4 ⊢
                exact h4
              · rw [if_neg h2]; exact hf
            · rw [if_neg h1]; exact md_th_high S
          · rw [if_neg q9]
            by_cases q10 : r_sr S (r_no S).toNatClampNeg = 10
            · rw [if_pos q10]
              unfold md_at10
              have hf : r_th (md_f10 S).2 = r_th S := md_th_full _ _
              by_cases h2 : (md_f10 S).1 = 0
              · rw [if_pos h2]
                have h4 := (md_th_thunk (md_f10 S).2 (md_a S)).trans hf
                generalize md_thunk (md_f10 S).2 (md_a S) = Z1 at h4 ⊢
                exact h4
              · rw [if_neg h2]; exact hf
            · rw [if_neg q10]
              by_cases q11 : r_sr S (r_no S).toNatClampNeg = 11
              · rw [if_pos q11]
                unfold md_at11
                have hf : r_th (md_f11 S).2 = r_th S := md_th_full _ _
                by_cases h2 : (md_f11 S).1 = 0
                · rw [if_pos h2]
                  have h3' := (md_th_thunk (md_f11 S).2 (md_a S)).trans hf
                  generalize md_thunk (md_f11 S).2 (md_a S) = Z1 at h3' ⊢
                  have h4 := (md_th_thunk Z1.2 (md_b S)).trans h3'
                  generalize md_thunk Z1.2 (md_b S) = Z2 at h4 ⊢
                  exact h4
                · rw [if_neg h2]; exact hf
              · rw [if_neg q11]
                unfold md_atd
                by_cases h1 : (md_high S).1 = 0
                · rw [if_pos h1]; exact md_th_high S
                · rw [if_neg h1]; exact md_th_high S
theorem md_th_step_bk (S : ZNS) : r_th (md_ret S).2 = r_th S := by
  unfold md_ret
  by_cases h0 : r_fr S = 0
  · rw [if_pos h0]; rfl
  · rw [if_neg h0]
    generalize (r_fr S - 1).toNatClampNeg = g
    unfold md_ret1
    by_cases q0 : r_wh S g = 0
    · rw [if_pos q0]; rfl
    · rw [if_neg q0]
      by_cases q1 : r_wh S g = 1
      · rw [if_pos q1]
        by_cases h1 : r_vs S = 1
        · rw [if_pos h1]
          unfold md_arg
          by_cases h2 : (md_full S 1).1 = 0
          · rw [if_pos h2]; exact md_th_full S 1
          · rw [if_neg h2]; exact md_th_full S 1
        · rw [if_neg h1]; rfl
      · rw [if_neg q1]
        by_cases q5 : r_wh S g = 5
        · rw [if_pos q5]
          by_cases h1 : r_vs S = 2
          · rw [if_pos h1]
            unfold md_part
            by_cases h2 : r_is S (md_pt S (r_fi S g)).toNatClampNeg = 4
            · rw [if_pos h2]; rfl
            · rw [if_neg h2]; exact md_th_asks _ _ _
          · rw [if_neg h1]; rfl
        · rw [if_neg q5]
          by_cases h1 : r_vs S = 0
          · rw [if_pos h1]
            by_cases q2 : r_wh S g = 2
            · rw [if_pos q2]; rfl
            · rw [if_neg q2]
              by_cases q3 : r_wh S g = 3
              · rw [if_pos q3]; rfl
              · rw [if_neg q3]; rfl
          · rw [if_neg h1]; rfl
theorem md_th_fin (q : Int32 × ZNS) : r_th (md_fin q) = r_th q.2 := by
  unfold md_fin
  by_cases h : q.1 = 0
  · rw [if_pos h]; rfl
  · rw [if_neg h]; rfl
theorem md_th_run : ∀ (m : Nat) (S : ZNS), r_th (md_runN m S) = r_th S := by
  intro m
  induction m with
  | zero => intro S; rfl
  | succ m ih =>
    intro S
    rw [md_runN]
    by_cases h : r_ss S = 1
    · rw [if_pos h, ih]
      unfold md_step
      by_cases hb : r_ba S = 0
      · rw [if_pos hb]; exact (md_th_fin _).trans (md_th_step_at S)
      · rw [if_neg hb]; exact (md_th_fin _).trans (md_th_step_bk S)
    · rw [if_neg h]
theorem al_run {n : Nat} {M : ZMS} {S : ZNS} {x : Int32} (h : k_z n M S) (hn : n + 5001 < 2 ^ 31) : k_al n (hl_run M x) (md_run S x) := by
  obtain ⟨e, _⟩ := k_z_ss h
  unfold hl_run md_run
  by_cases hs : r_ss S = 0
  · rw [if_pos (e.trans hs), if_pos hs]
    exact ⟨rfl, fun q => absurd q (show ¬ (1 : Int32) = 0 by decide), k_z_le h (by omega)⟩
  · rw [if_neg (fun q => hs (e.symm.trans q)), if_neg hs]
    by_cases h1 : x < 0
    · rw [if_pos h1, if_pos h1]
      exact ⟨rfl, fun q => absurd q (show ¬ (2 : Int32) = 0 by decide), k_z_le h (by omega)⟩
    · rw [if_neg h1, if_neg h1]
      by_cases h2 : x ≤ 5000
      · rw [if_pos h2, if_pos h2]
        obtain ⟨k, k1, rfl⟩ := k_5000 h1 h2
        rw [nI_clamp (by omega)]
        obtain ⟨r1, r2⟩ := z_run (m := k) h (by omega) hs
        exact ⟨md_th_run k (s_th S 0), fun _ => r1, k_z_le r2 (by omega)⟩
      · rw [if_neg h2, if_neg h2]
        exact ⟨rfl, fun q => absurd q (show ¬ (2 : Int32) = 0 by decide), k_z_le h (by omega)⟩
theorem al_result {n : Nat} {M : ZMS} {S : ZNS} {x : Int32} (h : k_z n M S) : k_al n (hl_result M x) (md_result S x) := by
  obtain ⟨e, _⟩ := k_z_ss h
  unfold hl_result
  by_cases hs : r_ss S = 2
  · rw [if_pos (e.trans hs)]
    obtain ⟨r1, r2⟩ := z_result (w := x) h hs
    refine ⟨?_, fun _ => r1, k_z_le r2 (by omega)⟩
    unfold md_result
    rw [if_pos hs]; rfl
  · rw [if_neg (fun q => hs (e.symm.trans q))]
    unfold md_result
    rw [if_neg hs]
    exact ⟨rfl, fun q => absurd q (show ¬ (1 : Int32) = 0 by decide), k_z_le h (by omega)⟩
/-- over with a value: the value's sort is the same -/
theorem k_z_vs {n : Nat} {M : ZMS} {S : ZNS} (h : k_z n M S) (hs : r_ss S = 2) : r_vs S = l_vs M := by
  obtain ⟨T, B, hc, _, _, _, hv⟩ := z_over h hs
  exact (k_val_c hc.1.1.2 hv).2.1
theorem al_into {n : Nat} {M : ZMS} {S : ZNS} {x : Int32} (h : k_z n M S) : k_al n (hl_into M x) (md_into S x) := by
  obtain ⟨e, _⟩ := k_z_ss h
  unfold hl_into
  by_cases hs : r_ss S = 2 ∧ r_vs S = 2
  · rw [if_pos (show l_ss M = 2 ∧ l_vs M = 2 from ⟨e.trans hs.1, (k_z_vs h hs.1).symm.trans hs.2⟩)]
    by_cases h1 : x < 0
    · rw [if_pos h1]
      unfold md_into
      rw [if_pos hs, if_pos h1]
      exact ⟨rfl, fun q => absurd q (show ¬ (2 : Int32) = 0 by decide), k_z_le h (by omega)⟩
    · rw [if_neg h1]
      by_cases h2 : x ≤ 1
      · rw [if_pos h2]
        obtain ⟨r1, r2⟩ := z_into h hs.1 hs.2 (k_01 h1 h2)
        refine ⟨?_, fun _ => r1, k_z_le r2 (by omega)⟩
        unfold md_into
        rw [if_pos hs, if_neg h1, if_pos h2]
        exact md_th_asks _ _ _
      · rw [if_neg h2]
        unfold md_into
        rw [if_pos hs, if_neg h1, if_neg h2]
        exact ⟨rfl, fun q => absurd q (show ¬ (2 : Int32) = 0 by decide), k_z_le h (by omega)⟩
  · rw [if_neg (show ¬ (l_ss M = 2 ∧ l_vs M = 2) from fun q => hs ⟨e.symm.trans q.1, (k_z_vs h (e.symm.trans q.1)).trans q.2⟩)]
    unfold md_into
    rw [if_neg hs]
    exact ⟨rfl, fun q => absurd q (show ¬ (1 : Int32) = 0 by decide), k_z_le h (by omega)⟩
theorem al_apply {n : Nat} {M : ZMS} {S : ZNS} {x : Int32} (h : k_z n M S) (hn : n + 5001 < 2 ^ 31) : k_al n (hl_apply M x) (md_app S x) := by
  obtain ⟨e, _⟩ := k_z_ss h
  unfold hl_apply
  by_cases hs : r_ss S = 2 ∧ r_vs S = 1
  · rw [if_pos (show l_ss M = 2 ∧ l_vs M = 1 from ⟨e.trans hs.1, (k_z_vs h hs.1).symm.trans hs.2⟩)]
    obtain ⟨r1, r2⟩ := z_app (v := x) h (by omega) hs.1 hs.2
    refine ⟨?_, fun _ => r1, k_z_le r2 (by omega)⟩
    unfold md_app
    rw [if_pos hs]
    by_cases h2 : (md_full (s_ss (s_th S 0) 1) 2).1 = 0
    · rw [if_pos h2]; exact (md_th_app2 _ _).trans (md_th_full (s_ss (s_th S 0) 1) 2)
    · rw [if_neg h2]; exact md_th_full (s_ss (s_th S 0) 1) 2
  · rw [if_neg (show ¬ (l_ss M = 2 ∧ l_vs M = 1) from fun q => hs ⟨e.symm.trans q.1, (k_z_vs h (e.symm.trans q.1)).trans q.2⟩)]
    unfold md_app
    rw [if_neg hs]
    exact ⟨rfl, fun q => absurd q (show ¬ (1 : Int32) = 0 by decide), k_z_le h (by omega)⟩
/-! What the contracts ask, out of the two's being alike. -/
theorem k_z_X {n : Nat} {M : ZMS} {S : ZNS} (h : k_z n M S) : tm_ok (m_X M) ∧ tm_so (m_X M) ∧ ∃ z : Nat, z ≤ 200 ∧ r_to S = nI z := by
  obtain ⟨⟨⟨z, z1, z2, z3, _⟩, _⟩, ⟨w1, _⟩, _⟩ := k_z_wt h
  exact ⟨⟨z, z1, z2⟩, w1, z, z1, z3⟩
theorem k_z_pair {n : Nat} {M : ZMS} {S : ZNS} (h : k_z n M S) (hs : r_ss S = 2) (hv2 : r_vs S = 2) : (hp_c (l_vf M) ∧ hp_c (l_vg M)) ∧ vp_in (r_vo S) 256 ∧ vp_in (r_vt S) 256 ∧ r_fr S = 0 := by
  obtain ⟨T, B, hc, hb, hrb, hfr, hv⟩ := z_over h hs
  obtain ⟨w1, w2⟩ := k_val_2 hv ((k_z_vs h hs).symm.trans hv2)
  obtain ⟨a, b, ha, hb', ea, eb, _⟩ := k_th_c hc.1.1.2 w1
  obtain ⟨a', b', ha', hb'', ea', eb', _⟩ := k_th_c hc.1.1.2 w2
  exact ⟨⟨(k_th_cc hc.1.1.2 w1).1, (k_th_cc hc.1.1.2 w2).1⟩, by rw [eb]; exact vp_in_nI hb' (by decide), by rw [eb']; exact vp_in_nI hb'' (by decide), hfr⟩
theorem k_z_fun {n : Nat} {M : ZMS} {S : ZNS} (h : k_z n M S) (hs : r_ss S = 2) (hv1 : r_vs S = 1) : vp_in (l_vf M) 200 ∧ vp_in (r_vo S) 200 := by
  obtain ⟨T, B, hc, hb, hrb, hfr, hv⟩ := z_over h hs
  have hsz := hc.1.1.1.1.2.1
  obtain ⟨j, j1, j2, j3, _⟩ := k_val_1 hv ((k_z_vs h hs).symm.trans hv1)
  exact ⟨by rw [j2]; exact vp_in_nI (by omega) (by decide), by rw [j3]; exact vp_in_nI (by omega) (by decide)⟩
theorem k_z_md1 {n : Nat} {M : ZMS} {S : ZNS} (h : k_z n M S) (hs : r_ss S = 2) : md_lo (s_ss (s_th S 0) 1) := by
  obtain ⟨T, B, hc, _⟩ := z_over h hs
  have hc1 : k_c T B n M (s_th S 0) := hc
  exact k_md_lo hc1 1 (fun _ => by decide)
