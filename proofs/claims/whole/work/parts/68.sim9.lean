/-! The two machines' calls, but load. -/
/-- nothing is loaded -/
def k_0 (n : Nat) (M : ZMS) (S : ZNS) : Prop := (l_ss M = 0 ∧ r_ss S = 0) ∧ (l_sp M = 0 ∧ l_fo M = 0 ∧ l_ba M = 0 ∧ l_en M = -1) ∧ (p_sz (m_P M) = 0 ∧ p_mo (m_P M) = 0) ∧ t_sz (m_Y M) = 0 ∧ (hp_ok (m_H M) ∧ hp_fok (m_H M) ∧ k_rd n (m_H M)) ∧ k_wt M S ∧ md_lo S
/-- the two are alike -/
def k_z (n : Nat) (M : ZMS) (S : ZNS) : Prop := k_0 n M S ∨ ∃ T, k_x T n M S
theorem k_z_le {n m : Nat} {M : ZMS} {S : ZNS} (h : k_z n M S) (hm : n ≤ m) : k_z m M S := by
  rcases h with ⟨h1, h2, h3', h4, ⟨h5, h6, h7⟩, h8⟩ | ⟨T, h⟩
  · exact Or.inl ⟨h1, h2, h3', h4, ⟨h5, h6, k_rd_le h7 hm⟩, h8⟩
  · exact Or.inr ⟨T, k_x_le h hm⟩
theorem k_z_wt {n : Nat} {M : ZMS} {S : ZNS} (h : k_z n M S) : k_wt M S := by
  rcases h with ⟨_, _, _, _, _, h, _⟩ | ⟨T, B, h, _⟩
  · exact h
  · exact h.1.2.2.2.2.2.1
theorem k_z_ss {n : Nat} {M : ZMS} {S : ZNS} (h : k_z n M S) : l_ss M = r_ss S ∧ (r_ss S = 0 ∨ r_ss S = 1 ∨ r_ss S = 2 ∨ r_ss S = 3 ∨ r_ss S = 4 ∨ r_ss S = 5 ∨ r_ss S = 6) := by
  rcases h with ⟨⟨h1, h2⟩, _⟩ | ⟨T, B, _, h1, h2⟩
  · exact ⟨by rw [h1, h2], Or.inl h2⟩
  · refine ⟨h1, Or.inr ?_⟩
    rcases h2 with q | ⟨q, _⟩ | q | q | q | q
    · exact Or.inl q
    · exact Or.inr (Or.inl q)
    · exact Or.inr (Or.inr (Or.inl q))
    · exact Or.inr (Or.inr (Or.inr (Or.inl q)))
    · exact Or.inr (Or.inr (Or.inr (Or.inr (Or.inl q))))
    · exact Or.inr (Or.inr (Or.inr (Or.inr (Or.inr q))))
theorem k_z_x {n : Nat} {M : ZMS} {S : ZNS} (h : k_z n M S) (hs : ¬ r_ss S = 0) : ∃ T, k_x T n M S := by
  rcases h with ⟨⟨_, h2⟩, _⟩ | h
  · exact absurd h2 hs
  · exact h
/-- other waiting nodes -/
theorem k_x_wt {T : ZT} {n : Nat} {M : ZMS} {S : ZNS} {X : ZTS} {f g : Nat → Int32} {v : Int32} (h : k_x T n M S) (hw : k_wt (ma_setX M X) (s_to (s_xs (s_so S f) g) v)) : k_x T n (ma_setX M X) (s_to (s_xs (s_so S f) g) v) := by
  obtain ⟨B, ⟨⟨q1, q2, q3, q4, q5, q6, q7, q8⟩, hat⟩, hs1, hs2⟩ := h
  exact ⟨B, ⟨⟨q1, q2, q3, q4, q5, hw, q7, q8⟩, hat⟩, hs1, hs2⟩
theorem z_good {s x : Int32} (h : ¬ md_good s x = 0) : (∃ k : Nat, k < 14 ∧ s = nI k) ∧ ¬ ma_may s x = 0 := by
  unfold md_good at h
  by_cases h1 : s < 0
  · rw [if_pos h1] at h; exact absurd rfl h
  · rw [if_neg h1] at h
    by_cases h2 : 14 ≤ s
    · rw [if_pos h2] at h; exact absurd rfl h
    · rw [if_neg h2] at h
      have hin : vp_in s 14 := by
        intro q
        rcases q with q | q
        · exact h1 q
        · apply h2
          rw [Int32.le_iff_toInt_le]
          have h3' : ¬ s.toInt < 0 := fun w => h1 (Int32.lt_iff_toInt_lt.mpr w)
          have h4 : s.toNatClampNeg = s.toInt.toNat := rfl
          have h5 : (14 : Int32).toInt = 14 := by decide
          omega
      refine ⟨vp_in_of hin (by decide), ?_⟩
      unfold ma_may
      by_cases h3' : s = 0
      · subst h3'
        rw [if_neg (by decide), if_pos rfl] at h
        rw [if_pos rfl]; exact h
      · rw [if_neg h3']
        by_cases h4 : s = 3
        · rw [if_pos h4]; decide
        · rw [if_neg h4] at h ⊢
          rw [if_neg h3'] at h
          exact h
theorem z_bad {s x : Int32} (h : md_good s x = 0) : ¬ vp_in s 14 ∨ ma_may s x = 0 := by
  unfold md_good at h
  by_cases h1 : s < 0
  · exact Or.inl (fun q => q (Or.inl h1))
  · rw [if_neg h1] at h
    by_cases h2 : 14 ≤ s
    · refine Or.inl (fun q => q (Or.inr ?_))
      rw [Int32.le_iff_toInt_le] at h2
      have h4 : s.toNatClampNeg = s.toInt.toNat := rfl
      have h5 : (14 : Int32).toInt = 14 := by decide
      omega
    · rw [if_neg h2] at h
      right
      unfold ma_may
      by_cases h3' : s = 0
      · subst h3'
        rw [if_neg (by decide), if_pos rfl] at h
        rw [if_pos rfl]; exact h
      · rw [if_neg h3']
        by_cases h4 : s = 3
        · rw [if_pos h4] at h; exact absurd h (by decide)
        · rw [if_neg h4] at h ⊢
          rw [if_neg h3'] at h
          exact h
theorem z_40 {x : Int32} (h : ¬ ma_may 0 x = 0) : ∃ m : Nat, m < 1000 ∧ x = nI m := by
  unfold ma_may at h
  rw [if_pos rfl] at h
  by_cases h1 : x < 0
  · rw [if_pos h1] at h; exact absurd rfl h
  · rw [if_neg h1] at h
    by_cases h2 : 40 < x
    · rw [if_pos h2] at h; exact absurd rfl h
    · refine vp_in_of ?_ (by decide)
      intro q
      rcases q with q | q
      · exact h1 q
      · apply h2
        rw [Int32.lt_iff_toInt_lt]
        have h3' : ¬ x.toInt < 0 := fun w => h1 (Int32.lt_iff_toInt_lt.mpr w)
        have h4 : x.toNatClampNeg = x.toInt.toNat := rfl
        have h5 : (40 : Int32).toInt = 40 := by decide
        omega
theorem z_put {n : Nat} {M : ZMS} {S : ZNS} {s x : Int32} (h : k_z n M S) (hg : ¬ md_good s x = 0) : (ma_put M s x).1 = (md_put S s x).1 ∧ k_z n (ma_put M s x).2 (md_put S s x).2 := by
  obtain ⟨⟨⟨z, z1, z2, z3, z4⟩, hy⟩, ⟨w1, w2⟩, ⟨w3, w4⟩, w5⟩ := k_z_wt h
  obtain ⟨⟨k, k1, k2⟩, hmay⟩ := z_good hg
  unfold ma_put md_put tm_add
  rw [if_neg hg, z2, z3]
  by_cases hz : z = 200
  · subst hz
    rw [if_pos (show nI 200 = 200 from rfl), if_pos (show nI 200 = 200 from rfl), if_pos (show ((0 : Int32), m_X M).1 = 0 from rfl)]
    exact ⟨rfl, h⟩
  · have hz2 : ¬ nI z = 200 := fun q => hz ((nI_eq (b := 200) (by omega) (by omega)).mp q)
    have h10 : ¬ (1 : Int32) = 0 := by decide
    rw [if_neg hz2, if_neg hz2, nI_clamp (by omega)]
    refine ⟨?_, ?_⟩
    · show (if (1 : Int32) = 0 then (-1 : Int32) else nI z + 1) = nI z + 1
      rw [if_neg h10]
    · show k_z n (if (1 : Int32) = 0 then _ else (_, ma_setX M (upd (t_so (m_X M)) z s, upd (t_xs (m_X M)) z x, t_pa (m_X M), t_pm (m_X M), t_bi (m_X M), t_op (m_X M), nI z + 1))).2 (s_to (s_xs (s_so (s_th S 0) (upd (r_so S) z s)) (upd (r_xs S) z x)) (nI z + 1))
      rw [if_neg h10]
      have hw : k_wt (ma_setX M (upd (t_so (m_X M)) z s, upd (t_xs (m_X M)) z x, t_pa (m_X M), t_pm (m_X M), t_bi (m_X M), t_op (m_X M), nI z + 1)) (s_to (s_xs (s_so (s_th S 0) (upd (r_so S) z s)) (upd (r_xs S) z x)) (nI z + 1)) := by
        refine ⟨⟨⟨z + 1, by omega, (nI_succ z).symm, (nI_succ z).symm, fun j hj => ?_⟩, hy⟩, ⟨fun j hj => ?_, w2⟩, ⟨⟨w3.1, fun j hj => ?_⟩, w4⟩, w5⟩
        · show upd (t_so (m_X M)) z s j = upd (r_so S) z s j ∧ upd (t_xs (m_X M)) z x j = upd (r_xs S) z x j
          by_cases hjz : j = z
          · subst hjz; rw [pk_us, pk_us, pk_us, pk_us]; exact ⟨rfl, rfl⟩
          · rw [pk_un hjz, pk_un hjz, pk_un hjz, pk_un hjz]; exact z4 j (by omega)
        · show vp_in (upd (t_so (m_X M)) z s j) 14
          by_cases hjz : j = z
          · subst hjz; rw [pk_us, k2]; exact vp_in_nI k1 (by decide)
          · rw [pk_un hjz]; exact w1 j hj
        · show upd (t_so (m_X M)) z s j = 0 → ∃ m : Nat, m < 1000 ∧ upd (t_xs (m_X M)) z x j = nI m
          by_cases hjz : j = z
          · subst hjz
            rw [pk_us, pk_us]
            intro q
            subst q
            exact z_40 hmay
          · rw [pk_un hjz, pk_un hjz]; exact w3.2 j hj
      rcases h with ⟨h1, h2, h3', h4, h5, h6, h7⟩ | ⟨T, h⟩
      · exact Or.inl ⟨h1, h2, h3', h4, h5, hw, h7⟩
      · exact Or.inr ⟨T, k_x_wt (S := s_th S 0) h hw⟩
/-- both begin anew -/
theorem k_start {T : ZT} {n : Nat} {M : ZMS} {S : ZNS} (hT : a_ok T) (ht : k_tm T (m_Y M) S) (hw : k_wt M S) (ho : hp_ok (m_H M)) (hm : md_ok S) (hr : k_rd n (m_H M)) : k_x T (n + 1) (ma_begin M 1) (md_begin S) := by
  obtain ⟨g, ⟨g1, g2⟩, ⟨g3, g4, g5⟩, g6, g7⟩ := k_sweep (hp_begin (m_H M))
  refine ⟨fun _ _ => False, ⟨⟨⟨hT, ?_⟩, ⟨?_, hm⟩, ⟨⟨g, by omega, g2, ?_, g7⟩, ?_⟩, ⟨rfl, 0, by omega, rfl, rfl, fun j hj => absurd hj (Nat.not_lt_zero _)⟩, ht, hw, rfl, rfl⟩, Or.inl ⟨rfl, rfl, 0, hT.1.1, rfl, rfl, ?_⟩⟩, rfl, Or.inl rfl⟩
  · exact ⟨fun a b q => False.elim q, fun a b c q => False.elim q, fun a b c q => False.elim q⟩
  · exact hp_ok_eq (hp_eq_tr g3 (hp_eq_begin _)) ho
  · intro j hj
    obtain ⟨a, a1, a2, _⟩ := g6 j hj
    exact ⟨a, a1, a2, fun b q => q⟩
  · show k_rd (n + 1) (hp_sweep (hp_begin (m_H M)))
    have := k_rd_begin hr
    unfold k_rd at this ⊢
    rw [g4, g5]
    exact this
  · rw [hT.1.2.2]
    exact Or.inl ⟨rfl, rfl⟩
theorem z_restart {n : Nat} {M : ZMS} {S : ZNS} (h : k_z n M S) (hs : ¬ r_ss S = 0) : k_z (n + 1) (ma_begin M 1) (md_restart S) := by
  obtain ⟨T, B, hc, _⟩ := k_z_x h hs
  unfold md_restart
  rw [if_neg hs]
  exact Or.inr ⟨T, k_start (S := s_th S 0) hc.1.1.1 hc.1.2.2.2.2.1 hc.1.2.2.2.2.2.1 hc.1.2.1.1 hc.1.2.1.2 hc.1.2.2.1.2⟩
theorem z_over {n : Nat} {M : ZMS} {S : ZNS} (h : k_z n M S) (hs : r_ss S = 2) : ∃ T B, k_c T B n M S ∧ l_ba M = 1 ∧ r_ba S = 1 ∧ r_fr S = 0 ∧ k_val T B (h3 M) (r3 S) (l_vs M) (l_vf M) (l_vg M) (r_vs S) (r_vo S) (r_vt S) := by
  obtain ⟨T, B, hc, _, h2⟩ := k_z_x h (by rw [hs]; decide)
  have h3' : r_ba S = 1 ∧ r_fr S = 0 := by
    rcases h2 with q | ⟨_, q⟩ | q | q | q | q
    · rw [hs] at q; exact absurd q (by decide)
    · exact q
    all_goals rw [hs] at q; exact absurd q (by decide)
  have hb : l_ba M = 1 := (k_c_ba hc).1.symm.trans h3'.1
  exact ⟨T, B, hc, hb, h3'.1, h3'.2, (k_c_bk hc hb).2⟩
theorem z_result {n : Nat} {M : ZMS} {S : ZNS} {w : Int32} (h : k_z n M S) (hs : r_ss S = 2) : ma_result M w = (md_result S w).1 ∧ k_z n M (md_result S w).2 := by
  obtain ⟨T, B, hc, _, _, _, hv⟩ := z_over h hs
  obtain ⟨_, v2, v3⟩ := k_val_c hc.1.1.2 hv
  unfold md_result ma_result
  rw [if_pos hs]
  refine ⟨?_, h⟩
  show _ = md_res S w
  unfold md_res
  rw [v2]
  by_cases h0 : w = 0
  · rw [if_pos h0, if_pos h0]
  · rw [if_neg h0, if_neg h0]
    by_cases h1 : w = 1 ∧ l_vs M = 0 ∨ w = 2 ∧ l_vs M = 1
    · rw [if_pos h1, if_pos h1]
      rcases h1 with ⟨_, q⟩ | ⟨_, q⟩
      · exact k_val_0 hv q
      · obtain ⟨j, _, j2, j3, _⟩ := k_val_1 hv q
        rw [j2, j3]
    · rw [if_neg h1, if_neg h1]
theorem k_out_x {T : ZT} {n : Nat} {q : Int32 × ZMS} {q' : Int32 × ZNS} (h : k_out T n q q') : q.1 = r_ss q'.2 ∧ k_x T n (ma_stat q.2 q.1) q'.2 := by
  obtain ⟨B, h1, h2⟩ := h
  have he : q.1 = r_ss q'.2 := by
    rcases h2 with ⟨a1, a2, a3⟩ | ⟨a1, a2, a3, _⟩ | ⟨a1, a2, a3⟩
    · rw [a1, a3]
    · rw [a1, a3]
    · rw [a3]
  refine ⟨he, B, h1, he, ?_⟩
  rcases h2 with ⟨a1, a2, a3⟩ | ⟨a1, a2, a3, a4, a5⟩ | ⟨a1, a2, a3⟩
  · exact Or.inl a3
  · exact Or.inr (Or.inl ⟨a3, a4, a5⟩)
  · rw [a3]; exact Or.inr (Or.inr a1)
theorem z_into {n : Nat} {M : ZMS} {S : ZNS} {k : Int32} (h : k_z n M S) (hs : r_ss S = 2) (hv2 : r_vs S = 2) (hk : k = 0 ∨ k = 1) : (ma_into M k).1 = (md_into S k).1 ∧ k_z n (ma_into M k).2 (md_into S k).2 := by
  obtain ⟨T, B, hc, hb, hrb, hfr, hv⟩ := z_over h hs
  obtain ⟨_, v2, v3⟩ := k_val_c hc.1.1.2 hv
  obtain ⟨w1, w2⟩ := k_val_2 hv (v2.symm.trans hv2)
  have ht : k_th B (h3 M) (if k = 0 then l_vf M else l_vg M) (if k = 0 then r_vo S else r_vt S) := by
    by_cases h0 : k = 0
    · rw [if_pos h0, if_pos h0]; exact w1
    · rw [if_neg h0, if_neg h0]; exact w2
  have ho := k_ask (S := s_ss (s_th S 0) 1) (rm := 1) hc rfl ht (Or.inr ⟨by decide, by show ¬ r_fr S = 200; rw [hfr]; decide⟩)
  obtain ⟨o1, o2⟩ := k_out_x ho
  unfold ma_into md_into
  rw [if_pos (show r_ss S = 2 ∧ r_vs S = 2 from ⟨hs, hv2⟩), if_neg (show ¬ k < 0 by rcases hk with hk | hk <;> rw [hk] <;> decide), if_pos (show k ≤ 1 by rcases hk with hk | hk <;> rw [hk] <;> decide)]
  exact ⟨o1, Or.inr ⟨T, o2⟩⟩
theorem z_app {n : Nat} {M : ZMS} {S : ZNS} {v : Int32} (h : k_z n M S) (hn : n + 1 < 2 ^ 31) (hs : r_ss S = 2) (hv1 : r_vs S = 1) : (ma_app M v).1 = (md_app S v).1 ∧ k_z (n + 1) (ma_app M v).2 (md_app S v).2 := by
  obtain ⟨T, B, hc, hb, hrb, hfr, hv⟩ := z_over h hs
  obtain ⟨_, v2, v3⟩ := k_val_c hc.1.1.2 hv
  unfold ma_app md_app
  rw [if_pos (show r_ss S = 2 ∧ r_vs S = 1 from ⟨hs, hv1⟩)]
  have hc1 : k_c T B n M (s_ss (s_th S 0) 1) := hc
  obtain ⟨B1, q1, q2, q3, q4⟩ := k_room hc1 hn (fun q => absurd (hrb.symm.trans q) (by decide)) (c := 2) (by omega)
  have q1 : k_c T B1 (n + 1) (ma_room M 2).2 (md_mark (s_ss (s_th S 0) 1)) := q1
  rcases q4 with ⟨p1, p2⟩ | ⟨p1, p2, p3, p4⟩
  · have p1 : (ma_room M 2).1 = 0 := p1
    have p2 : md_full (s_ss (s_th S 0) 1) 2 = (1, s_ss (md_mark (s_ss (s_th S 0) 1)) 6) := p2
    rw [p1, if_pos rfl, p2, if_neg (show ¬ ((1 : Int32), s_ss (md_mark (s_ss (s_th S 0) 1)) 6).1 = 0 from (by decide : ¬ (1 : Int32) = 0))]
    exact ⟨rfl, Or.inr ⟨T, B1, q1, rfl, Or.inr (Or.inr (Or.inr (Or.inr (Or.inr rfl))))⟩⟩
  · have p1 : (ma_room M 2).1 = 1 := p1
    have p2 : md_full (s_ss (s_th S 0) 1) 2 = (0, md_mark (s_ss (s_th S 0) 1)) := p2
    have p3 : ∃ f, 2 ≤ f ∧ f ≤ 256 ∧ h_fr (m_H (ma_room M 2).2) = nI f := p3
    rw [p1, if_neg (by decide), p2, if_pos (show ((0 : Int32), md_mark (s_ss (s_th S 0) 1)).1 = 0 from rfl)]
    have hb1 := (ma_room_ba M 2).trans hb
    obtain ⟨x1, x2, x3⟩ := ma_room_vs M 2
    have hss : r_ss (md_mark (s_ss (s_th S 0) 1)) = 1 := me_ss q3
    have hvs : l_vs (ma_room M 2).2 = 1 := x1.trans (v2.symm.trans hv1)
    generalize (ma_room M 2).2 = M1 at *
    generalize md_mark (s_ss (s_th S 0) 1) = F at *
    obtain ⟨d1, d2⟩ := k_c_bk q1 hb1
    obtain ⟨j, j1, j2, j3, j4, j5⟩ := k_val_1 d2 hvs
    obtain ⟨a, b, h1, h2, h3', h4, h5, h6, h7, h8⟩ := k_take2 (c := 1) (s := 0) (x := v) (y := -1) (s' := 0) (x' := v) (y' := 0) q1.1 ⟨p3, p4, q2⟩ (Or.inr (Or.inr (Or.inr (Or.inl ⟨rfl, rfl, rfl, Or.inl rfl, Or.inr (vp_in_nI (n := 0) (by decide) (by decide))⟩)))) ⟨Or.inl rfl, Or.inr (vp_in_nI (n := 0) (by decide) (by decide))⟩
    have hth : k_th (k_ad B1 a b) (h3 (ma_setH M1 (hp_take (m_H M1) 0 v (-1)).2)) (hp_take (m_H M1) 0 v (-1)).1 (md_cell F 0 v 0).1 := ⟨a, b, h3', h4, Or.inr ⟨rfl, rfl⟩, by rw [h7]; decide⟩
    obtain ⟨B2, hc2⟩ := k_fun (c := 0) h5 h8 hth j1 (show l_vf M1 = nI j from j2) j4 (k_en_ex h6 _ j5)
    have hap : md_app2 F v = md_arg2 (md_cell F 0 v 0).2 (md_cell F 0 v 0).1 (nI j) := by
      have hvo : r_vo (md_cell F 0 v 0).2 = nI j := j3
      unfold md_app2 md_arg2
      rw [hvo]
    rw [hap]
    have hs1 : r_ss (md_arg2 (md_cell F 0 v 0).2 (md_cell F 0 v 0).1 (nI j)) = 1 := hss
    exact ⟨hs1.symm, Or.inr ⟨T, B2, hc2, hs1.symm, Or.inl hs1⟩⟩
theorem z_lo {n : Nat} {M : ZMS} {S : ZNS} (h : k_z n M S) : ma_lo M ∧ md_lo S := by
  rcases h with ⟨h1, ⟨_, _, h2, h2'⟩, ⟨h3', _⟩, h4, ⟨h5, h6, h7⟩, h8, h9⟩ | ⟨T, B, h, h1, h2⟩
  · refine ⟨⟨h5, h6, ⟨0, by omega, h3'⟩, ?_, fun _ => Or.inl h2', fun q => absurd h2 q⟩, h9⟩
    intro j hj
    rw [h3'] at hj
    exact absurd hj (Nat.not_lt_zero _)
  · refine ⟨k_ma_lo h, ?_⟩
    have := k_md_lo h (r_ss S) (fun q w => by
      rcases h2 with p | ⟨_, p, _⟩ | p | p | p | p
      · rw [w] at p; exact absurd p (by decide)
      · exact absurd (p.symm.trans q) (by decide)
      all_goals rw [w] at p; exact absurd p (by decide))
    exact this
theorem z_count {n : Nat} {M : ZMS} {S : ZNS} {w : Int32} (h : k_z n M S) (hn : n + 1 < 2 ^ 31) : (ma_count M w).1 = (md_count S w).1 ∧ k_z (n + 1) (ma_count M w).2 (md_count S w).2 := by
  have hle := k_z_le h (m := n + 1) (by omega)
  have hw := k_z_wt h
  obtain ⟨⟨⟨z, _, z2, z3, _⟩, _⟩, _⟩ := hw
  unfold ma_count md_count
  rcases h with h | ⟨T, B, hc, h1, h2⟩
  · obtain ⟨⟨s1, s2⟩, ⟨a1, a2, a3, a4⟩, ⟨b1, b2⟩, c1, ⟨d1, d2, d3⟩, e1, e2⟩ := h
    rw [if_pos (show r_ss S ≤ 0 by rw [s2]; decide), z2, c1, s1, a1, a2, b1, b2]
    unfold md_c0
    show _ = (if w = 0 then (r_to S, s_th S 0) else if w = 1 then (0, s_th S 0) else if w = 2 then (r_ss S, s_th S 0) else _).1 ∧ k_z (n + 1) _ (if w = 0 then (r_to S, s_th S 0) else if w = 1 then (0, s_th S 0) else if w = 2 then (r_ss S, s_th S 0) else _).2
    rw [z3, s2]
    by_cases w0 : w = 0
    · rw [if_pos w0, if_pos w0]; exact ⟨rfl, hle⟩
    · rw [if_neg w0, if_neg w0]
      by_cases w1 : w = 1
      · rw [if_pos w1, if_pos w1]; exact ⟨rfl, hle⟩
      · rw [if_neg w1, if_neg w1]
        by_cases w2 : w = 2
        · rw [if_pos w2, if_pos w2]; exact ⟨rfl, hle⟩
        · rw [if_neg w2, if_neg w2]
          by_cases w3 : w = 3
          · rw [if_pos w3, if_pos w3]; exact ⟨rfl, hle⟩
          · rw [if_neg w3, if_neg w3]
            by_cases w4 : w = 4
            · rw [if_pos w4, if_pos w4]; exact ⟨rfl, hle⟩
            · rw [if_neg w4, if_neg w4]
              by_cases w5 : w = 5
              · rw [if_pos w5, if_pos w5]; exact ⟨rfl, hle⟩
              · rw [if_neg w5, if_neg w5]
                by_cases w6 : w = 6
                · rw [if_pos w6, if_pos w6]
                  have hsp : hp_spread (ma_roots M) = hp_begin (m_H M) := by
                    have hr : ma_roots M = hp_begin (m_H M) := by
                      unfold ma_roots pl_reach
                      rw [if_pos a3, b1, a4]
                      unfold hp_reach
                      rw [if_pos rfl]
                      rfl
                    rw [hr]
                    unfold hp_spread
                    rw [hp_spreadN, if_pos (show h_rc (hp_begin (m_H M)) ≤ nI 0 from by show (0 : Int32) ≤ nI 0; decide)]
                  rw [hsp]
                  exact ⟨rfl, Or.inl ⟨⟨s1, s2⟩, ⟨a1, a2, a3, a4⟩, ⟨b1, b2⟩, c1, ⟨d1, d2, k_rd_begin d3⟩, e1, e2⟩⟩
                · rw [if_neg w6, if_neg w6]
                  by_cases w7 : w = 7
                  · rw [if_pos w7, if_pos w7, if_pos rfl]; exact ⟨rfl, hle⟩
                  · rw [if_neg w7, if_neg w7]
                    by_cases w8 : w = 8
                    · rw [if_pos w8, if_pos w8]; exact ⟨rfl, hle⟩
                    · rw [if_neg w8, if_neg w8]; exact ⟨rfl, hle⟩
  · have hss : ¬ r_ss S ≤ 0 := by
      rcases h2 with p | ⟨p, _⟩ | p | p | p | p <;> rw [p] <;> decide
    have hss0 : ¬ l_ss M = 0 := by
      rw [h1]
      rcases h2 with p | ⟨p, _⟩ | p | p | p | p <;> rw [p] <;> decide
    have hq := hc.1
    obtain ⟨_, _, _, ⟨g0, y, g1, g2, g3, _⟩, ⟨⟨t1, t2⟩, _⟩, _, q7, q8⟩ := hq
    rw [if_neg hss, z2, t1, h1, q7, q8, g2, g0]
    unfold md_c1
    show _ = (if w = 0 then (r_to S, s_th S 0) else if w = 1 then (r_si S, s_th S 0) else if w = 2 then (r_ss S, s_th S 0) else if w = 3 then (r_sp S, s_th S 0) else if w = 4 then (r_fo S, s_th S 0) else if w = 5 then (r_fr S, s_th S 0) else _).1 ∧ k_z (n + 1) _ (if w = 0 then (r_to S, s_th S 0) else if w = 1 then (r_si S, s_th S 0) else if w = 2 then (r_ss S, s_th S 0) else if w = 3 then (r_sp S, s_th S 0) else if w = 4 then (r_fo S, s_th S 0) else if w = 5 then (r_fr S, s_th S 0) else _).2
    rw [z3, t2, g3]
    by_cases w0 : w = 0
    · rw [if_pos w0, if_pos w0]; exact ⟨rfl, hle⟩
    · rw [if_neg w0, if_neg w0]
      by_cases w1 : w = 1
      · rw [if_pos w1, if_pos w1]; exact ⟨rfl, hle⟩
      · rw [if_neg w1, if_neg w1]
        by_cases w2 : w = 2
        · rw [if_pos w2, if_pos w2]; exact ⟨rfl, hle⟩
        · rw [if_neg w2, if_neg w2]
          by_cases w3 : w = 3
          · rw [if_pos w3, if_pos w3]; exact ⟨rfl, hle⟩
          · rw [if_neg w3, if_neg w3]
            by_cases w4 : w = 4
            · rw [if_pos w4, if_pos w4]; exact ⟨rfl, hle⟩
            · rw [if_neg w4, if_neg w4]
              by_cases w5 : w = 5
              · rw [if_pos w5, if_pos w5]; exact ⟨rfl, hle⟩
              · rw [if_neg w5, if_neg w5]
                by_cases w6 : w = 6
                · rw [if_pos w6, if_pos w6]
                  have hc0 : k_c T B n M (s_th S 0) := hc
                  have hs2 : r_ba (s_th S 0) = 0 → ¬ r_ss (s_th S 0) = 2 := by
                    intro q w
                    have q : r_ba S = 0 := q
                    have w : r_ss S = 2 := w
                    rcases h2 with p | ⟨_, p, _⟩ | p | p | p | p
                    · rw [w] at p; exact absurd p (by decide)
                    · exact absurd (p.symm.trans q) (by decide)
                    all_goals rw [w] at p; exact absurd p (by decide)
                  obtain ⟨k, hk, eH, eW, hfx, hrd, hal⟩ := k_mark hc0 hn hs2
                  refine ⟨hk.1.2.1.trans hk.1.2.2.symm, Or.inr ⟨T, _, k_restrict hc0 hal eH eW (k_free_re hc0.1.2.2.1.1 ⟨hfx.1.1, hfx.1.2.1⟩) hrd, ?_, ?_⟩⟩
                  · exact h1.trans (me_ss eW).symm
                  · have e1 : r_ss (md_mark (s_th S 0)) = r_ss S := by have := me_ss eW; exact this
                    have e2 : r_ba (md_mark (s_th S 0)) = r_ba S := by have := me_ba eW; exact this
                    have e3 : r_fr (md_mark (s_th S 0)) = r_fr S := by have := me_fr eW; exact this
                    show r_ss (md_mark (s_th S 0)) = 1 ∨ r_ss (md_mark (s_th S 0)) = 2 ∧ r_ba (md_mark (s_th S 0)) = 1 ∧ r_fr (md_mark (s_th S 0)) = 0 ∨ _
                    rw [e1, e2, e3]; exact h2
                · rw [if_neg w6, if_neg w6]
                  by_cases w7 : w = 7
                  · rw [if_pos w7, if_pos w7, if_neg (by rw [← h1]; exact hss0)]
                    by_cases hb : l_ba M = 0
                    · rw [if_pos hb, if_pos (show r_ba (s_th S 0) = 0 from (k_c_ba hc).1.trans hb)]
                      refine ⟨?_, hle⟩
                      rcases hc.2 with ⟨_, _, j, _, j2, j3, _⟩ | ⟨q, _⟩
                      · exact j2.trans j3.symm
                      · exact absurd (q.symm.trans hb) (by decide)
                    · rw [if_neg hb, if_neg (show ¬ r_ba (s_th S 0) = 0 from fun q => hb ((k_c_ba hc).1.symm.trans q))]
                      exact ⟨rfl, hle⟩
                  · rw [if_neg w7, if_neg w7]
                    by_cases w8 : w = 8
                    · rw [if_pos w8, if_pos w8]; exact ⟨rfl, hle⟩
                    · rw [if_neg w8, if_neg w8]; exact ⟨rfl, hle⟩
theorem z_run {n m : Nat} {M : ZMS} {S : ZNS} (h : k_z n M S) (hn : n + m < 2 ^ 31) (hs : ¬ r_ss S = 0) : l_ss (ma_runN m M) = r_ss (md_runN m (s_th S 0)) ∧ k_z (n + m) (ma_runN m M) (md_runN m (s_th S 0)) := by
  obtain ⟨T, hx⟩ := k_z_x h hs
  have hx : k_x T n M (s_th S 0) := hx
  have := k_runN m n M (s_th S 0) hn hx
  refine ⟨?_, Or.inr ⟨T, this⟩⟩
  obtain ⟨B, _, q, _⟩ := this
  exact q
