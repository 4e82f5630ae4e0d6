/-! The two machines' steps, all of them. -/
theorem k_14 {x : Int32} (h : vp_in x 14) : x = 0 ∨ x = 1 ∨ x = 2 ∨ x = 3 ∨ x = 4 ∨ x = 5 ∨ x = 6 ∨ x = 7 ∨ x = 8 ∨ x = 9 ∨ x = 10 ∨ x = 11 ∨ x = 12 ∨ x = 13 := by
  obtain ⟨s, h1, h2⟩ := vp_in_of h (by decide)
  have h3' : s = 0 ∨ s = 1 ∨ s = 2 ∨ s = 3 ∨ s = 4 ∨ s = 5 ∨ s = 6 ∨ s = 7 ∨ s = 8 ∨ s = 9 ∨ s = 10 ∨ s = 11 ∨ s = 12 ∨ s = 13 := by omega
  subst h2
  rcases h3' with h | h | h | h | h | h | h | h | h | h | h | h | h | h <;> subst h <;> decide
theorem k_val_c {T : ZT} {B : KB} {C D : K3} {s x y s' x' y' : Int32} (h : k_hr T B C D) (g : k_val T B C D s x y s' x' y') : (hp_c y ∧ md_c y') ∧ s' = s ∧ (s = 0 ∨ s = 1 ∨ s = 2) := by
  rcases g with ⟨g1, g2, g3, g4, g5⟩ | ⟨g1, g2, j, g3, g4, g5, g6, g7⟩ | ⟨g1, g2, g3, g4⟩
  · exact ⟨⟨g4, g5⟩, by rw [g1, g2], Or.inl g1⟩
  · exact ⟨k_en_c h g7, by rw [g1, g2], Or.inr (Or.inl g1)⟩
  · exact ⟨k_th_cc h g4, by rw [g1, g2], Or.inr (Or.inr g1)⟩
theorem k_val_0 {T : ZT} {B : KB} {C D : K3} {s x y s' x' y' : Int32} (g : k_val T B C D s x y s' x' y') (hs : s = 0) : x = x' := by
  subst hs
  rcases g with ⟨_, _, g, _⟩ | ⟨q, _⟩ | ⟨q, _⟩
  · exact g
  · exact absurd q (by decide)
  · exact absurd q (by decide)
theorem k_val_1 {T : ZT} {B : KB} {C D : K3} {s x y s' x' y' : Int32} (g : k_val T B C D s x y s' x' y') (hs : s = 1) : ∃ j, j < a_sz T ∧ x = nI j ∧ x' = nI j ∧ a_so T j = 1 ∧ k_en B C D (a_bi T j) y y' := by
  subst hs
  rcases g with ⟨q, _⟩ | ⟨_, _, g⟩ | ⟨q, _⟩
  · exact absurd q (by decide)
  · exact g
  · exact absurd q (by decide)
theorem k_val_2 {T : ZT} {B : KB} {C D : K3} {s x y s' x' y' : Int32} (g : k_val T B C D s x y s' x' y') (hs : s = 2) : k_th B C x x' ∧ k_th B C y y' := by
  subst hs
  rcases g with ⟨q, _⟩ | ⟨q, _⟩ | ⟨_, _, g⟩
  · exact absurd q (by decide)
  · exact absurd q (by decide)
  · exact g
theorem k_at_step {T : ZT} {B : KB} {n : Nat} {M : ZMS} {S : ZNS} (h : k_c T B n M S) (hn : n + 1 < 2 ^ 31) (hs : r_ss S = 1) (hb : l_ba M = 0) : k_out T (n + 1) (ma_at M) (md_at S) := by
  obtain ⟨j, hj, hsz⟩ : ∃ j, l_no M = nI j ∧ j < 2 ^ 31 := by
    rcases h.2 with ⟨b1, b2, i, b3, b4, b5, b6⟩ | ⟨b1, _⟩
    · exact ⟨i, b4, by have := h.1.1.1.1.2.1; omega⟩
    · exact absurd (b1.symm.trans hb) (by decide)
  obtain ⟨c1, c2, c3, c4⟩ := k_c_at h hb hj hsz
  obtain ⟨⟨t1, t2⟩, ⟨t3, t4⟩, _⟩ := h.1.2.2.2.2.1.2 j c2
  obtain ⟨o1, o2, o3, _⟩ := h.1.1.1.2 j c2
  have e1 : t_so (m_Y M) (l_no M).toNatClampNeg = a_so T j := by rw [hj, nI_clamp hsz, t1]
  have e2 : t_xs (m_Y M) (l_no M).toNatClampNeg = a_xs T j := by rw [hj, nI_clamp hsz, t2]
  have e3 : r_sr S (r_no S).toNatClampNeg = a_so T j := by rw [c3, nI_clamp hsz, t3]
  have e4 : r_nu S (r_no S).toNatClampNeg = a_xs T j := by rw [c3, nI_clamp hsz, t4]
  unfold ma_at md_at md_atd
  rw [e1, e2, e3, e4]
  rcases k_14 o1 with q | q | q | q | q | q | q | q | q | q | q | q | q | q <;> rw [q] <;> simp (decide := true) only [reduceIte]
  · obtain ⟨m, m1, m2⟩ := o3 q
    exact k_out_le (k_ask h hs (k_bd h.1.1.2 c4 m1 m2 (by omega)).1 (Or.inl rfl)) (by omega)
  · rw [hj, c3]
    exact k_out_le (k_o1 (k_back h.1 (Or.inr (Or.inl ⟨rfl, rfl, j, c2, rfl, rfl, q, c4⟩))) hs) (by omega)
  · exact k_apply h hn hs hb hj hsz q
  · exact k_out_le (k_o1 (k_back h.1 (Or.inl ⟨rfl, rfl, rfl, Or.inl rfl, Or.inr (vp_in_nI (n := 0) (by decide) (by decide))⟩)) hs) (by omega)
  · exact k_out_le (k_under h hs hb hj hsz (by rw [q]; decide) (by rw [q]; decide) ⟨by decide, Or.inr (Or.inl ⟨Or.inl rfl, j, c2, hj, c3, c4, fun _ => Or.inl q, fun w => absurd w (by decide)⟩)⟩) (by omega)
  · exact k_out_le (k_under h hs hb hj hsz (by rw [q]; decide) (by rw [q]; decide) ⟨by decide, Or.inr (Or.inl ⟨Or.inl rfl, j, c2, hj, c3, c4, fun _ => Or.inr (Or.inl q), fun w => absurd w (by decide)⟩)⟩) (by omega)
  · exact k_out_le (k_under h hs hb hj hsz (by rw [q]; decide) (by rw [q]; decide) ⟨by decide, Or.inr (Or.inl ⟨Or.inl rfl, j, c2, hj, c3, c4, fun _ => Or.inr (Or.inr (Or.inl q)), fun w => absurd w (by decide)⟩)⟩) (by omega)
  · exact k_out_le (k_under h hs hb hj hsz (by rw [q]; decide) (by rw [q]; decide) ⟨by decide, Or.inr (Or.inl ⟨Or.inl rfl, j, c2, hj, c3, c4, fun _ => Or.inr (Or.inr (Or.inr q)), fun w => absurd w (by decide)⟩)⟩) (by omega)
  · exact k_out_le (k_under h hs hb hj hsz (by rw [q]; decide) (by rw [q]; decide) ⟨by decide, Or.inr (Or.inl ⟨Or.inr rfl, j, c2, hj, c3, c4, fun w => absurd w (by decide), fun _ => q⟩)⟩) (by omega)
  · exact k_fix h hn hs hb hj hsz q
  · exact k_let h hn hs hb hj hsz q
  · exact k_pair h hn hs hb hj hsz q
  · exact k_out_le (k_under h hs hb hj hsz (by rw [q]; decide) (by rw [q]; decide) ⟨by decide, Or.inr (Or.inr (Or.inr ⟨rfl, j, c2, c3, Or.inl ⟨rfl, q⟩⟩))⟩) (by omega)
  · exact k_out_le (k_under h hs hb hj hsz (by rw [q]; decide) (by rw [q]; decide) ⟨by decide, Or.inr (Or.inr (Or.inr ⟨rfl, j, c2, c3, Or.inr ⟨rfl, q⟩⟩))⟩) (by omega)
theorem ma_room_vs (M : ZMS) (n : Int32) : l_vs (ma_room M n).2 = l_vs M ∧ l_vf (ma_room M n).2 = l_vf M ∧ l_vg (ma_room M n).2 = l_vg M := by
  refine ⟨?_, ?_, ?_⟩
  · show (ma_room M n).2.1.2.2.2.2.2.2.1 = _; rw [ma_room_l]
  · show (ma_room M n).2.1.2.2.2.2.2.2.2.1 = _; rw [ma_room_l]
  · show (ma_room M n).2.1.2.2.2.2.2.2.2.2 = _; rw [ma_room_l]
/-- a function is entered with a thunk -/
theorem k_fun {T : ZT} {B : KB} {n c j : Nat} {M : ZMS} {S : ZNS} {t t' : Int32} (h : k_q T B n M S) (hr : k_rm B (c + 1) M S) (ht : k_th B (h3 M) t t') (hj : j < a_sz T) (hf : l_vf M = nI j) (hso : a_so T j = 1) (he : k_en B (h3 M) (r3 S) (a_bi T j) (l_vg M) (r_vt S)) :
    ∃ B', k_c T B' n (ma_fun M t) (md_arg2 S t' (nI j)) := by
  obtain ⟨B', e1, e2, e3, e4⟩ := k_link h hr ht he
  obtain ⟨i, i1, i2, i3, i4⟩ := k_part0 h.1.1 h.2.2.2.2.1 hj (by rw [hso]; decide)
  rw [hso, show a_binds 1 0 = 1 by decide] at i4
  refine ⟨B', ?_⟩
  unfold ma_fun md_arg2 ma_link
  rw [hf, i2, i3]
  exact k_enter e1 i1 (by rw [i4]; exact e4)
theorem k_bk_step {T : ZT} {B : KB} {n : Nat} {M : ZMS} {S : ZNS} (h : k_c T B n M S) (hn : n + 1 < 2 ^ 31) (hs : r_ss S = 1) (hb : l_ba M = 1) : k_out T (n + 1) (ma_bk M) (md_ret S) := by
  obtain ⟨c1, c2⟩ := k_c_bk h hb
  obtain ⟨vc1, vc2, vc3⟩ := k_val_c h.1.1.2 c2
  obtain ⟨_, _, _, ⟨g0, z, g1, g2, g3, g4⟩, hrest⟩ := h.1
  rcases z with _ | g
  · have hts : pl_topSort (m_P M) = -1 := by unfold pl_topSort; rw [if_pos (show p_sz (m_P M) = 0 from g2)]
    unfold ma_bk md_ret
    rw [if_pos (show r_fr S = 0 from g3), hts]
    simp (decide := true) only [reduceIte]
    exact ⟨B, ⟨k_q_le (m := n + 1) h.1 (by omega), h.2⟩, Or.inr (Or.inl ⟨rfl, rfl, rfl, c1, g3⟩)⟩
  · have hf0 : ¬ r_fr S = 0 := by rw [g3]; exact nI_ne0 (by omega) (by omega)
    have hcl : (r_fr S - 1).toNatClampNeg = g := by rw [g3, nI_pred, nI_clamp (by omega)]
    have ht := k_top h.1 g3 (by omega)
    obtain ⟨hd1, hd2⟩ := k_drop h.1 g3 (by omega)
    unfold ma_bk md_ret
    rw [if_neg hf0, hcl]
    unfold md_ret1
    obtain ⟨e0, ht⟩ := ht
    rw [e0]
    rcases ht with ⟨g5 | g5, g6⟩ | ⟨g5 | g5, j, g6, g7, g8, g9, g10, g11⟩ | ⟨g5, j, g6, g7, g8, g9⟩ | ⟨g5, j, g6, g7, g8⟩
    · -- update
      rw [g5]
      simp (decide := true) only [reduceIte]
      obtain ⟨a, b, ha, hb', ea, eb, hab, h5⟩ := k_th_c h.1.1.2 g6
      have hm : ¬ l_vs M = 5 := by rcases vc3 with q | q | q <;> rw [q] <;> decide
      obtain ⟨w1, w2⟩ := k_write (S' := md_upd S (r_fi S g)) (s := l_vs M) (x := l_vf M) (y := l_vg M) (s' := r_vs S) (x' := r_vo S) (y' := r_vt S) hd1 hab h5 hm (Or.inr (Or.inr (Or.inr c2))) vc1
        (by unfold md_upd; rw [eb, k_clamp hb']; rfl) ⟨⟨rfl, rfl, rfl, rfl, rfl⟩, ⟨rfl, rfl, rfl, rfl⟩, ⟨rfl, rfl, rfl⟩, rfl, rfl⟩
      rw [ea]
      exact k_out_le (k_o1 (n := n) ⟨w1, Or.inr (k_bk_ex (M := ma_setP M (pl_drop (m_P M))) (S := s_fr S (r_fr S - 1)) w2 ⟨hb, c1, c2⟩ rfl ⟨rfl, rfl, rfl, rfl⟩)⟩ hs) (by omega)
    · -- argument
      rw [g5]
      simp (decide := true) only [reduceIte]
      unfold ma_arg
      rw [vc2]
      by_cases hv : l_vs M = 1
      · rw [if_pos hv, if_pos hv]
        unfold md_arg
        obtain ⟨B1, q1, q2, q3, q4⟩ := k_room h hn (fun q => absurd (c1.symm.trans q) (by decide)) (c := 1) (by omega)
        have q1 : k_c T B1 (n + 1) (ma_room M 1).2 (md_mark S) := q1
        rcases q4 with ⟨p1, p2⟩ | ⟨p1, p2, p3, p4⟩
        · have p1 : (ma_room M 1).1 = 0 := p1
          have p2 : md_full S 1 = (1, s_ss (md_mark S) 6) := p2
          rw [p1, if_pos rfl, p2, if_neg (show ¬ ((1 : Int32), s_ss (md_mark S) 6).1 = 0 from (by decide : ¬ (1 : Int32) = 0))]
          exact k_ox q1 (by decide)
        · have p1 : (ma_room M 1).1 = 1 := p1
          have p2 : md_full S 1 = (0, md_mark S) := p2
          have p3 : ∃ f, 1 ≤ f ∧ f ≤ 256 ∧ h_fr (m_H (ma_room M 1).2) = nI f := p3
          rw [p1, if_neg (by decide), p2, if_pos (show ((0 : Int32), md_mark S).1 = 0 from rfl)]
          have hb1 := (ma_room_ba M 1).trans hb
          have hP1 := ma_room_P M 1
          obtain ⟨v1, v2, v3⟩ := ma_room_vs M 1
          have hss : r_ss (md_mark S) = 1 := (me_ss q3).trans hs
          have hfr : r_fr (md_mark S) = nI (g + 1) := (me_fr q3).trans g3
          have hfi : r_fi (md_mark S) = r_fi S := me_fi q3
          have hwh : r_wh (md_mark S) = r_wh S := me_wh q3
          have hvo : r_vo (md_mark S) = r_vo S := me_vo q3
          have hvt : r_vt (md_mark S) = r_vt S := me_vt q3
          generalize (ma_room M 1).2 = M1 at *
          generalize md_mark S = F at *
          obtain ⟨d1, d2⟩ := k_c_bk q1 hb1
          obtain ⟨j, j1, j2, j3, j4, j5⟩ := k_val_1 d2 (v1.trans hv)
          have ht1 := k_top q1.1 hfr (by omega)
          obtain ⟨D1, D2⟩ := k_drop q1.1 hfr (by omega)
          have hth : k_th B1 (h3 M1) (pl_topFirst (m_P M)) (r_fi S g) := by
            obtain ⟨_, ht1⟩ := ht1
            rw [hP1, hfi, g5] at ht1
            rcases ht1 with ⟨_, q⟩ | ⟨q, _⟩ | ⟨q, _⟩ | ⟨q, _⟩
            · exact q
            all_goals exact absurd q (by decide)
          obtain ⟨B2, hc⟩ := k_fun (c := 0) (M := ma_setP M1 (pl_drop (m_P M1))) (S := s_fr F (r_fr F - 1)) D1 ⟨p3, p4, q2⟩ hth j1 j2 j4 j5
          rw [← hvo, j3]
          exact k_o1 hc hss
      · rw [if_neg hv, if_neg hv]
        exact k_out_le (k_ox h (by decide)) (by omega)
    · -- left
      rw [g5]
      simp (decide := true) only [reduceIte]
      unfold ma_left
      rw [vc2]
      by_cases hv : l_vs M = 0
      · rw [if_pos hv, if_pos hv]
        have hsz := h.1.1.1.1.2.1
        have hso := g10 g5
        obtain ⟨i, i1, i2, i3, i4⟩ := k_part1 h.1.1.1 h.1.2.2.2.2.1 g6 (by rcases hso with q | q | q | q <;> rw [q] <;> decide)
        have hb0 : a_binds (a_so T j) 1 = 0 := by rcases hso with q | q | q | q <;> rw [q] <;> decide
        obtain ⟨_, ⟨t3, _⟩, _⟩ := h.1.2.2.2.2.1.2 j g6
        have hp := k_push (s := 3) (x := pl_topFirst (m_P M)) (y := l_vf M) (s' := 3) (x' := r_sr S (r_fi S g).toNatClampNeg) (y' := r_vo S) hd1 hd2 ⟨rfl, Or.inr (Or.inr (Or.inl ⟨rfl, j, g6, g7, by rw [g8, nI_clamp (by omega), t3], k_val_0 c2 hv⟩))⟩
        unfold md_left md_left2
        have hch : r_ch (md_push (s_fr S (r_fr S - 1)) 3 (r_sr S (r_fi S g).toNatClampNeg) (r_vo S)) (3 * r_fi S g + 1).toNatClampNeg = nI i := by
          show r_ch S (3 * r_fi S g + 1).toNatClampNeg = nI i
          rw [g8]; exact i3
        rw [hch]
        have hpt : tm_part (m_Y M) (pl_topFirst (m_P M)) 1 = nI i := by rw [g7]; exact i2
        rw [hpt]
        exact k_out_le (k_o1 (k_enter hp i1 (by rw [i4, hb0]; exact g9)) hs) (by omega)
      · rw [if_neg hv, if_neg hv]
        exact k_out_le (k_ox h (by decide)) (by omega)
    · -- test
      rw [g5]
      simp (decide := true) only [reduceIte]
      unfold ma_test
      rw [vc2]
      by_cases hv : l_vs M = 0
      · rw [if_pos hv, if_pos hv]
        have hso := g11 g5
        have hve := k_val_0 c2 hv
        unfold md_test
        rw [g7, g8, ← hve]
        by_cases h0 : l_vf M = 0
        · rw [if_pos h0]
          obtain ⟨i, i1, i2, i3, i4⟩ := k_part1 h.1.1.1 h.1.2.2.2.2.1 g6 (by rw [hso]; decide)
          rw [hso, show a_binds 8 1 = 0 by decide] at i4
          rw [i2, i3]
          exact k_out_le (k_o1 (k_enter hd1 i1 (by rw [i4]; exact g9)) hs) (by omega)
        · rw [if_neg h0]
          obtain ⟨i, i1, i2, i3, i4⟩ := k_part2 h.1.1.1 h.1.2.2.2.2.1 g6 (by rw [hso]; decide)
          rw [hso, show a_binds 8 2 = 0 by decide] at i4
          rw [i2, i3]
          exact k_out_le (k_o1 (k_enter hd1 i1 (by rw [i4]; exact g9)) hs) (by omega)
      · rw [if_neg hv, if_neg hv]
        exact k_out_le (k_ox h (by decide)) (by omega)
    · -- right
      rw [g5]
      simp (decide := true) only [reduceIte]
      unfold ma_right
      rw [vc2]
      by_cases hv : l_vs M = 0
      · rw [if_pos hv, if_pos hv]
        have hsz := h.1.1.1.1.2.1
        obtain ⟨⟨t1, _⟩, _⟩ := h.1.2.2.2.2.1.2 j g6
        unfold md_right
        rw [g7, nI_clamp (by omega), t1, g8, g9, ← k_val_0 c2 hv]
        exact k_out_le (k_o1 (k_back hd1 (Or.inl ⟨rfl, rfl, rfl, Or.inl rfl, Or.inr (vp_in_nI (n := 0) (by decide) (by decide))⟩)) hs) (by omega)
      · rw [if_neg hv, if_neg hv]
        exact k_out_le (k_ox h (by decide)) (by omega)
    · -- part
      rw [g5]
      simp (decide := true) only [reduceIte]
      unfold ma_part
      rw [vc2]
      by_cases hv : l_vs M = 2
      · rw [if_pos hv, if_pos hv]
        have hsz := h.1.1.1.1.2.1
        obtain ⟨_, ⟨t3, _⟩, _⟩ := h.1.2.2.2.2.1.2 j g6
        obtain ⟨v1, v2⟩ := k_val_2 c2 hv
        have hpt : k_th B (h3 M) (if pl_topFirst (m_P M) = 0 then l_vf M else l_vg M) (md_pt S (r_fi S g)) := by
          unfold md_pt
          rw [g7, nI_clamp (by omega), t3]
          rcases g8 with ⟨w1, w2⟩ | ⟨w1, w2⟩
          · rw [if_pos w1, if_pos w2]; exact v1
          · rw [w1, w2, if_neg (by decide), if_neg (by decide)]; exact v2
        unfold md_part
        generalize (if pl_topFirst (m_P M) = 0 then l_vf M else l_vg M) = x at *
        generalize md_pt S (r_fi S g) = y at *
        obtain ⟨a, b, ha, hb', ea, eb, hab, h5⟩ := k_th_c h.1.1.2 hpt
        have hst : r_is S b = h_st (m_H M) a := k_hr_st h.1.1.2 hab
        rw [ea, eb, hs_st _ ha, k_clamp hb', hst]
        by_cases h4 : h_st (m_H M) a = 4
        · rw [if_pos h4, if_pos h4]
          exact k_out_le (k_ox h (by decide)) (by omega)
        · rw [if_neg h4, if_neg h4]
          exact k_out_le (k_ask (n := n) (M := ma_setP M (pl_drop (m_P M))) (S := s_fr S (r_fr S - 1)) ⟨hd1, Or.inr ⟨hb, c1, c2⟩⟩ hs ⟨a, b, rfl, rfl, hab, h5⟩ (Or.inr ⟨by decide, hd2⟩)) (by omega)
      · rw [if_neg hv, if_neg hv]
        exact k_out_le (k_ox h (by decide)) (by omega)
/-- the two, loaded: the same status -/
def k_x (T : ZT) (n : Nat) (M : ZMS) (S : ZNS) : Prop := ∃ B, k_c T B n M S ∧ l_ss M = r_ss S ∧ (r_ss S = 1 ∨ r_ss S = 2 ∧ r_ba S = 1 ∧ r_fr S = 0 ∨ r_ss S = 3 ∨ r_ss S = 4 ∨ r_ss S = 5 ∨ r_ss S = 6)
theorem k_tick {T : ZT} {B : KB} {n : Nat} {M : ZMS} {S : ZNS} (h : k_c T B n M S) : k_c T B n (ma_tick M) (s_sp S (r_sp S + 1)) := by
  obtain ⟨⟨q1, q2, q3, q4, q5, q6, q7, q8⟩, h2⟩ := h
  exact ⟨⟨q1, q2, q3, q4, q5, q6, by show l_sp M + 1 = r_sp S + 1; rw [q7], q8⟩, h2⟩
theorem k_tick0 {T : ZT} {B : KB} {n : Nat} {M : ZMS} {S : ZNS} (h : k_c T B n M S) : k_c T B n M (s_sp S (r_sp S + 0)) := by
  obtain ⟨⟨q1, q2, q3, q4, q5, q6, q7, q8⟩, h2⟩ := h
  exact ⟨⟨q1, q2, q3, q4, q5, q6, by show l_sp M = r_sp S + 0; rw [q7, Int32.add_zero], q8⟩, h2⟩
theorem k_fin {T : ZT} {n : Nat} {q : Int32 × ZMS} {q' : Int32 × ZNS} (h : k_out T n q q') : k_x T n (ma_fin q) (md_fin q') := by
  obtain ⟨B, h1, h2⟩ := h
  unfold ma_fin md_fin
  rcases h2 with ⟨a1, a2, a3⟩ | ⟨a1, a2, a3, a4, a5⟩ | ⟨a1, a2, a3⟩
  · rw [if_pos a1, if_pos a2]
    exact ⟨B, k_tick (M := ma_stat q.2 q.1) h1, by show q.1 = r_ss q'.2; rw [a1, a3], Or.inl a3⟩
  · rw [if_neg (by rw [a1]; decide), if_pos a1, if_pos a2]
    exact ⟨B, k_tick (M := ma_stat q.2 q.1) h1, by show q.1 = r_ss q'.2; rw [a1, a3], Or.inr (Or.inl ⟨a3, a4, a5⟩)⟩
  · rw [if_neg (by rcases a1 with w | w | w | w <;> rw [w] <;> decide), if_neg (by rcases a1 with w | w | w | w <;> rw [w] <;> decide), if_neg (by rw [a2]; decide)]
    refine ⟨B, k_tick0 (M := ma_stat q.2 q.1) h1, by show q.1 = r_ss q'.2; rw [a3], Or.inr (Or.inr ?_)⟩
    show r_ss q'.2 = 3 ∨ r_ss q'.2 = 4 ∨ r_ss q'.2 = 5 ∨ r_ss q'.2 = 6
    rw [a3]; exact a1
theorem k_c_ba {T : ZT} {B : KB} {n : Nat} {M : ZMS} {S : ZNS} (h : k_c T B n M S) : r_ba S = l_ba M ∧ (l_ba M = 0 ∨ l_ba M = 1) := by
  rcases h.2 with ⟨q1, q2, _⟩ | ⟨q1, q2, _⟩
  · exact ⟨by rw [q1, q2], Or.inl q1⟩
  · exact ⟨by rw [q1, q2], Or.inr q1⟩
theorem k_step {T : ZT} {n : Nat} {M : ZMS} {S : ZNS} (h : k_x T n M S) (hn : n + 1 < 2 ^ 31) (hs : l_ss M = 1) : k_x T (n + 1) (ma_step M) (md_step S) := by
  obtain ⟨B, h1, h2, _⟩ := h
  have hs2 : r_ss S = 1 := h2.symm.trans hs
  unfold ma_step md_step
  by_cases hb : l_ba M = 0
  · rw [if_pos hb, if_pos ((k_c_ba h1).1.trans hb)]
    exact k_fin (k_at_step h1 hn hs2 hb)
  · have hb1 : l_ba M = 1 := (k_c_ba h1).2.resolve_left hb
    rw [if_neg hb, if_neg (by rw [(k_c_bk h1 hb1).1]; decide)]
    exact k_fin (k_bk_step h1 hn hs2 hb1)
theorem k_x_le {T : ZT} {n m : Nat} {M : ZMS} {S : ZNS} (h : k_x T n M S) (hm : n ≤ m) : k_x T m M S := by
  obtain ⟨B, ⟨h1, h2⟩, h3'⟩ := h
  exact ⟨B, ⟨k_q_le h1 hm, h2⟩, h3'⟩
theorem k_runN {T : ZT} : ∀ (m n : Nat) (M : ZMS) (S : ZNS), n + m < 2 ^ 31 → k_x T n M S → k_x T (n + m) (ma_runN m M) (md_runN m S) := by
  intro m
  induction m with
  | zero => intro n M S _ h; exact h
  | succ m ih =>
    intro n M S hn h
    rw [ma_runN, md_runN]
    have he : l_ss M = r_ss S := by obtain ⟨B, _, q, _⟩ := h; exact q
    by_cases hs : l_ss M = 1
    · rw [if_pos hs, if_pos (he.symm.trans hs)]
      have := ih (n + 1) _ _ (by omega) (k_step h (by omega) hs)
      rw [show n + (m + 1) = n + 1 + m by omega]
      exact this
    · rw [if_neg hs, if_neg (fun q => hs (he.trans q))]
      exact k_x_le h (by omega)
