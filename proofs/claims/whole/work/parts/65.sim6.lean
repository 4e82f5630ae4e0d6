/-! The two machines' steps at a node. -/
theorem k_part1 {T : ZT} {Y : ZTS} {S : ZNS} {j : Nat} (hT : a_ok T) (h : k_tm T Y S) (hj : j < a_sz T) (hw : 1 < a_many (a_so T j)) : ∃ i, i < a_sz T ∧ tm_part Y (nI j) 1 = nI i ∧ r_ch S (3 * nI j + 1).toNatClampNeg = nI i ∧ a_bi T i = a_bi T j + a_binds (a_so T j) 1 := k_part hT h hj hw
theorem k_part2 {T : ZT} {Y : ZTS} {S : ZNS} {j : Nat} (hT : a_ok T) (h : k_tm T Y S) (hj : j < a_sz T) (hw : 2 < a_many (a_so T j)) : ∃ i, i < a_sz T ∧ tm_part Y (nI j) 2 = nI i ∧ r_ch S (3 * nI j + 2).toNatClampNeg = nI i ∧ a_bi T i = a_bi T j + a_binds (a_so T j) 2 := k_part hT h hj hw
/-- where the two are, if at a node -/
theorem k_c_at {T : ZT} {B : KB} {n j : Nat} {M : ZMS} {S : ZNS} (h : k_c T B n M S) (hb : l_ba M = 0) (hj : l_no M = nI j) (hj2 : j < 2 ^ 31) : r_ba S = 0 ∧ j < a_sz T ∧ r_no S = nI j ∧ k_en B (h3 M) (r3 S) (a_bi T j) (l_en M) (r_en S) := by
  rcases h.2 with ⟨b1, b2, i, b3, b4, b5, b6⟩ | ⟨b1, _⟩
  · have hsz := h.1.1.1.1.2.1
    have : i = j := (nI_eq (by omega) hj2).mp (b4.symm.trans hj)
    subst this
    exact ⟨b2, b3, b5, b6⟩
  · exact absurd (b1.symm.trans hb) (by decide)
theorem k_c_bk {T : ZT} {B : KB} {n : Nat} {M : ZMS} {S : ZNS} (h : k_c T B n M S) (hb : l_ba M = 1) : r_ba S = 1 ∧ k_val T B (h3 M) (r3 S) (l_vs M) (l_vf M) (l_vg M) (r_vs S) (r_vo S) (r_vt S) := by
  rcases h.2 with ⟨b1, _⟩ | ⟨b1, b2, b3⟩
  · exact absurd (hb.symm.trans b1) (by decide)
  · exact ⟨b2, b3⟩
/-- the cells for a node -/
def a_c (T : ZT) (i : Nat) : Nat := if a_so T i = 0 then 0 else 1
theorem a_c_le (T : ZT) (i : Nat) : a_c T i ≤ 1 := by
  unfold a_c
  by_cases h : a_so T i = 0
  · rw [if_pos h]; omega
  · rw [if_neg h]; omega
theorem k_cells {T : ZT} {B : KB} {n i : Nat} {M : ZMS} {S : ZNS} (h : k_q T B n M S) (hi : i < a_sz T) : ma_cells M (nI i) = nI (a_c T i) ∧ md_costs S (nI i) = nI (a_c T i) := by
  have hsz := h.1.1.1.2.1
  obtain ⟨⟨t1, _⟩, ⟨t3, _⟩, _⟩ := h.2.2.2.2.1.2 i hi
  unfold ma_cells md_costs a_c
  rw [nI_clamp (by omega), t1, t3]
  by_cases hv : a_so T i = 0
  · rw [if_pos hv, if_pos hv]; exact ⟨rfl, rfl⟩
  · rw [if_neg hv, if_neg hv]; exact ⟨rfl, rfl⟩
theorem md_thunk_fx (S : ZNS) (p : Int32) : (r_ch (md_thunk S p).2 = r_ch S ∧ r_en (md_thunk S p).2 = r_en S ∧ r_no (md_thunk S p).2 = r_no S) ∧ r_ss (md_thunk S p).2 = r_ss S ∧ r_fr (md_thunk S p).2 = r_fr S := by
  unfold md_thunk
  by_cases h1 : r_sr S p.toNatClampNeg = 0
  · rw [if_pos h1]; exact ⟨⟨rfl, rfl, rfl⟩, rfl, rfl⟩
  · rw [if_neg h1]; exact ⟨⟨rfl, rfl, rfl⟩, rfl, rfl⟩
theorem ma_room_l (M : ZMS) (x : Int32) : (ma_room M x).2.1 = M.1 := (ma_room_fix M x).1
theorem ma_room_ba (M : ZMS) (n : Int32) : l_ba (ma_room M n).2 = l_ba M := by show (ma_room M n).2.1.2.2.2.1 = _; rw [ma_room_l]
/-- a frame is laid and the first part is next -/
theorem k_under {T : ZT} {B : KB} {n j : Nat} {M : ZMS} {S : ZNS} {f a b f' a' b' : Int32} (h : k_c T B n M S) (hs : r_ss S = 1) (hb : l_ba M = 0) (hj : l_no M = nI j) (hj2 : j < 2 ^ 31) (hm : 0 < a_many (a_so T j)) (hb0 : a_binds (a_so T j) 0 = 0) (hf : k_frame T B (h3 M) (r3 S) f a b f' a' b') :
    k_out T n (ma_under M f a b) (if (md_high S).1 = 0 then (0, md_go (md_push (md_high S).2 f' a' b') (md_a S) (r_en S)) else (1, (md_high S).2)) := by
  obtain ⟨c1, c2, c3, c4⟩ := k_c_at h hb hj hj2
  obtain ⟨i, i1, i2, i3, i4⟩ := k_part0 h.1.1.1 h.1.2.2.2.2.1 c2 hm
  obtain ⟨f1, f2⟩ := k_full h.1
  unfold ma_under md_a
  rw [hj, i2, c3, i3]
  rcases f2 with ⟨p1, p2, p3⟩ | ⟨p1, p2, p3⟩
  · rw [← f1, p2, if_neg (by decide), if_neg (by decide), p3]
    exact k_ox h (by decide)
  · rw [← f1, p2, if_pos rfl, if_pos rfl, p3]
    exact k_o1 (k_enter (k_push h.1 p1 hf) i1 (by rw [i4, hb0]; exact c4)) hs
theorem k_apply {T : ZT} {B : KB} {n j : Nat} {M : ZMS} {S : ZNS} (h : k_c T B n M S) (hn : n + 1 < 2 ^ 31) (hs : r_ss S = 1) (hb : l_ba M = 0) (hj : l_no M = nI j) (hj2 : j < 2 ^ 31) (hso : a_so T j = 2) : k_out T (n + 1) (ma_apply1 M) (md_at2 S) := by
  obtain ⟨c1, c2, c3, c4⟩ := k_c_at h hb hj hj2
  obtain ⟨i0, _, i2, i3, i4⟩ := k_part0 h.1.1.1 h.1.2.2.2.2.1 c2 (by rw [hso]; decide)
  obtain ⟨i, k1, k2, k3, k4⟩ := k_part1 h.1.1.1 h.1.2.2.2.2.1 c2 (by rw [hso]; decide)
  rw [hso, show a_binds 2 1 = 0 by decide] at k4
  obtain ⟨f1, f2⟩ := k_full h.1
  unfold ma_apply1 md_at2 md_f2 md_b
  rw [hj, k2, c3, k3]
  rcases f2 with ⟨p1, p2, p3⟩ | ⟨p1, p2, p3⟩
  · rw [← f1, p2, if_neg (by decide), if_neg (by decide), p3]
    exact k_out_le (k_ox h (by decide)) (by omega)
  · rw [← f1, p2, if_pos rfl, if_pos rfl, p3, (k_cells h.1 k1).1, (k_cells h.1 k1).2]
    obtain ⟨B1, q1, q2, q3, q4⟩ := k_room h hn (fun _ => by rw [hs]; decide) (c := a_c T i) (by have := a_c_le T i; omega)
    rcases q4 with ⟨g1, g2⟩ | ⟨g1, g2, g3, g4⟩
    · rw [g1, if_pos rfl, g2, if_neg (show ¬ ((1 : Int32), s_ss (md_mark S) 6).1 = 0 from (by decide : ¬ (1 : Int32) = 0))]
      exact k_ox q1 (by decide)
    · rw [g1, if_neg (by decide), g2, if_pos (show ((0 : Int32), md_mark S).1 = 0 from rfl)]
      have hb1 := ma_room_ba M (nI (a_c T i))
      have hno1 := (ma_room_no M (nI (a_c T i))).trans hj
      generalize (ma_room M (nI (a_c T i))).2 = M1 at *
      generalize md_mark S = F at *
      obtain ⟨d1, d2, d3, d4⟩ := k_c_at q1 (hb1.trans hb) hno1 hj2
      obtain ⟨B2, r1, r2, r3', r4⟩ := k_thunk (c := 0) q1.1 k1 (by rw [k4]; exact d4) ⟨by rw [Nat.zero_add]; exact g3, by rw [Nat.zero_add]; exact g4, q2⟩
      obtain ⟨⟨x1, x2, x3⟩, x4, x5⟩ := md_thunk_fx F (nI i)
      have hfr : ¬ r_fr (md_thunk F (nI i)).2 = 200 := by rw [x5, me_fr q3]; exact p1
      have hc2 : k_c T B2 (n + 1) (ma_thunk M1 (nI i)).2 (md_thunk F (nI i)).2 := by
        refine ⟨r1, Or.inl ?_⟩
        have e1 := (ma_thunk_fix M1 (nI i)).1
        refine k_at_ex (M := M1) (S := F) r2 ?_ e1 ⟨?_, x3, x2⟩
        · rcases q1.2 with q | ⟨q, _⟩
          · exact q
          · exact absurd (q.symm.trans (hb1.trans hb)) (by decide)
        · unfold md_thunk
          by_cases hh : r_sr F (nI i).toNatClampNeg = 0
          · rw [if_pos hh]
          · rw [if_neg hh]; rfl
      have hu := k_under (f := 1) (a := (ma_thunk M1 (nI i)).1) (b := -1) (f' := 1) (a' := (md_thunk F (nI i)).1) (b' := 0) hc2 (by rw [x4, me_ss q3]; exact hs) (by show (ma_thunk M1 (nI i)).2.1.2.2.2.1 = 0; rw [(ma_thunk_fix M1 (nI i)).1]; exact hb1.trans hb) ((ma_thunk_no M1 (nI i)).trans hno1) hj2 (by rw [hso]; decide) (by rw [hso]; decide) ⟨rfl, Or.inl ⟨Or.inr rfl, r4⟩⟩
      have hh := (k_full r1)
      rcases hh.2 with ⟨y1, _⟩ | ⟨y1, y2, y3⟩
      · exact absurd y1 hfr
      · rw [← hh.1, y2, if_pos rfl, y3] at hu
        unfold md_a at hu
        rw [x1, x2, x3, me_ch q3, me_en q3, me_no q3, c3] at hu
        unfold md_a
        rw [c3]
        exact hu
theorem md_comm (Z : ZNS) (v a b c s x y : Int32) : md_cell (md_push (s_fo Z v) a b c) s x y = ((md_cell Z s x y).1, md_push (s_fo (md_cell Z s x y).2 v) a b c) := rfl
theorem k_fix {T : ZT} {B : KB} {n j : Nat} {M : ZMS} {S : ZNS} (h : k_c T B n M S) (hn : n + 1 < 2 ^ 31) (hs : r_ss S = 1) (hb : l_ba M = 0) (hj : l_no M = nI j) (hj2 : j < 2 ^ 31) (hso : a_so T j = 9) : k_out T (n + 1) (ma_fix M) (md_at9 S) := by
  obtain ⟨c1, c2, c3, c4⟩ := k_c_at h hb hj hj2
  obtain ⟨i, i1, i2, i3, i4⟩ := k_part0 h.1.1.1 h.1.2.2.2.2.1 c2 (by rw [hso]; decide)
  rw [hso, show a_binds 9 0 = 1 by decide] at i4
  obtain ⟨f1, f2⟩ := k_full h.1
  unfold ma_fix md_at9 md_f9 md_a
  rw [c3, i3]
  rcases f2 with ⟨p1, p2, p3⟩ | ⟨p1, p2, p3⟩
  · rw [← f1, p2, if_neg (by decide), if_neg (by decide), p3]
    exact k_out_le (k_ox h (by decide)) (by omega)
  · rw [← f1, p2, if_pos rfl, if_pos rfl, p3]
    obtain ⟨B1, q1, q2, q3, q4⟩ := k_room h hn (fun _ => by rw [hs]; decide) (c := 2) (by omega)
    have q1 : k_c T B1 (n + 1) (ma_room M 2).2 (md_mark S) := q1
    rcases q4 with ⟨g1, g2⟩ | ⟨g1, g2, g3, g4⟩
    · have g1 : (ma_room M 2).1 = 0 := g1
      have g2 : md_full S 2 = (1, s_ss (md_mark S) 6) := g2
      rw [g1, if_pos rfl, g2, if_neg (show ¬ ((1 : Int32), s_ss (md_mark S) 6).1 = 0 from (by decide : ¬ (1 : Int32) = 0))]
      exact k_ox q1 (by decide)
    · have g1 : (ma_room M 2).1 = 1 := g1
      have g2 : md_full S 2 = (0, md_mark S) := g2
      have g3 : ∃ f, 2 ≤ f ∧ f ≤ 256 ∧ h_fr (m_H (ma_room M 2).2) = nI f := g3
      rw [g1, if_neg (by decide), g2, if_pos (show ((0 : Int32), md_mark S).1 = 0 from rfl)]
      have hb1 := ma_room_ba M 2
      have hno1 := (ma_room_no M 2).trans hj
      have hY1 := ma_room_Y M 2
      have hfr : r_fr (md_mark S) = r_fr S := me_fr q3
      have hss : r_ss (md_mark S) = 1 := (me_ss q3).trans hs
      have hen : r_en (md_mark S) = r_en S := me_en q3
      unfold ma_fix2 md_p9
      generalize (ma_room M 2).2 = M1 at *
      generalize md_mark S = F at *
      obtain ⟨d1, d2, d3, d4⟩ := k_c_at q1 (hb1.trans hb) hno1 hj2
      show k_out T (n + 1) (1, ma_enter _ (tm_part (m_Y M1) (l_no M1) 0) _) (0, md_go (md_cell (md_push (s_fo (md_cell F 4 0 0).2 (r_fo (md_cell F 4 0 0).2 + 1)) 0 (md_cell F 4 0 0).1 0) 5 (md_cell F 4 0 0).1 (r_en S)).2 (nI i) (md_cell (md_push (s_fo (md_cell F 4 0 0).2 (r_fo (md_cell F 4 0 0).2 + 1)) 0 (md_cell F 4 0 0).1 0) 5 (md_cell F 4 0 0).1 (r_en S)).1)
      rw [md_comm, hY1, hno1, i2, ← hen]
      obtain ⟨a, b, h1, h2, h3', h4, h5, h6, h7, h8⟩ := k_take2 (c := 1) (s := 4) (x := -1) (y := -1) (s' := 4) (x' := 0) (y' := 0) q1.1 ⟨g3, g4, q2⟩ (Or.inr (Or.inr (Or.inl ⟨rfl, rfl⟩))) ⟨Or.inl rfl, Or.inr (vp_in_nI (n := 0) (by decide) (by decide))⟩
      have hth : k_th (k_ad B1 a b) (h3 (ma_setH M1 (hp_take (m_H M1) 4 (-1) (-1)).2)) (hp_take (m_H M1) 4 (-1) (-1)).1 (md_cell F 4 0 0).1 := ⟨a, b, h3', h4, Or.inr ⟨rfl, rfl⟩, by rw [h7]; decide⟩
      obtain ⟨B2, e1, e2, e3, e4⟩ := k_link (c := 0) (k := a_bi T j) h5 h8 hth (k_en_ex h6 _ d4)
      have hp := k_push (s := 0) (x := (hp_take (m_H M1) 4 (-1) (-1)).1) (y := -1) (s' := 0) (x' := (md_cell F 4 0 0).1) (y' := 0) (k_force e1) (show ¬ r_fr F = 200 by rw [hfr]; exact p1) ⟨rfl, Or.inl ⟨Or.inl rfl, k_th_ex e2 hth⟩⟩
      exact k_o1 (k_enter hp i1 (by rw [i4]; exact e4)) hss
theorem k_let {T : ZT} {B : KB} {n j : Nat} {M : ZMS} {S : ZNS} (h : k_c T B n M S) (hn : n + 1 < 2 ^ 31) (hs : r_ss S = 1) (hb : l_ba M = 0) (hj : l_no M = nI j) (hj2 : j < 2 ^ 31) (hso : a_so T j = 10) : k_out T (n + 1) (ma_let M) (md_at10 S) := by
  obtain ⟨c1, c2, c3, c4⟩ := k_c_at h hb hj hj2
  obtain ⟨i0, i1, i2, i3, i4⟩ := k_part0 h.1.1.1 h.1.2.2.2.2.1 c2 (by rw [hso]; decide)
  obtain ⟨i, k1, k2, k3, k4⟩ := k_part1 h.1.1.1 h.1.2.2.2.2.1 c2 (by rw [hso]; decide)
  rw [hso, show a_binds 10 0 = 0 by decide] at i4
  rw [hso, show a_binds 10 1 = 1 by decide] at k4
  unfold ma_let md_at10 md_f10 md_a md_b
  rw [hj, i2, c3, i3, k3, (k_cells h.1 i1).1, (k_cells h.1 i1).2, ← nI_succ]
  obtain ⟨B1, q1, q2, q3, q4⟩ := k_room h hn (fun _ => by rw [hs]; decide) (c := a_c T i0 + 1) (by have := a_c_le T i0; omega)
  rcases q4 with ⟨g1, g2⟩ | ⟨g1, g2, g3, g4⟩
  · rw [g1, if_pos rfl, g2, if_neg (show ¬ ((1 : Int32), s_ss (md_mark S) 6).1 = 0 from (by decide : ¬ (1 : Int32) = 0))]
    exact k_ox q1 (by decide)
  · rw [g1, if_neg (by decide), g2, if_pos (show ((0 : Int32), md_mark S).1 = 0 from rfl)]
    have hb1 := ma_room_ba M (nI (a_c T i0 + 1))
    have hno1 := (ma_room_no M (nI (a_c T i0 + 1))).trans hj
    have hY1 := ma_room_Y M (nI (a_c T i0 + 1))
    have hss : r_ss (md_mark S) = 1 := (me_ss q3).trans hs
    have hen : r_en (md_mark S) = r_en S := me_en q3
    unfold ma_let2
    generalize (ma_room M (nI (a_c T i0 + 1))).2 = M1 at *
    generalize md_mark S = F at *
    obtain ⟨d1, d2, d3, d4⟩ := k_c_at q1 (hb1.trans hb) hno1 hj2
    obtain ⟨B2, r1, r2, r3', r4⟩ := k_thunk (c := 1) q1.1 i1 (by rw [i4]; exact d4) ⟨by rw [Nat.add_comm]; exact g3, by rw [Nat.add_comm 1]; exact g4, q2⟩
    obtain ⟨⟨x1, x2, x3⟩, x4, x5⟩ := md_thunk_fx F (nI i0)
    show k_out T (n + 1) (1, ma_enter (ma_setH (ma_thunk M1 (nI i0)).2 (hp_take (m_H (ma_thunk M1 (nI i0)).2) 5 (ma_thunk M1 (nI i0)).1 (l_en (ma_thunk M1 (nI i0)).2)).2) (tm_part (m_Y (ma_thunk M1 (nI i0)).2) (l_no (ma_thunk M1 (nI i0)).2) 1) (hp_take (m_H (ma_thunk M1 (nI i0)).2) 5 (ma_thunk M1 (nI i0)).1 (l_en (ma_thunk M1 (nI i0)).2)).1)
      (0, md_go (md_cell (md_thunk F (nI i0)).2 5 (md_thunk F (nI i0)).1 (r_en S)).2 (nI i) (md_cell (md_thunk F (nI i0)).2 5 (md_thunk F (nI i0)).1 (r_en S)).1)
    rw [ma_thunk_Y, ma_thunk_no, ma_thunk_en, hY1, hno1, k2, ← hen]
    obtain ⟨B3, e1, e2, e3, e4⟩ := k_link (c := 0) (k := a_bi T j) r1 r3' r4 (k_en_ex r2 _ d4)
    exact k_o1 (k_enter e1 k1 (by rw [k4]; exact e4)) (x4.trans hss)
theorem k_pair {T : ZT} {B : KB} {n j : Nat} {M : ZMS} {S : ZNS} (h : k_c T B n M S) (hn : n + 1 < 2 ^ 31) (hs : r_ss S = 1) (hb : l_ba M = 0) (hj : l_no M = nI j) (hj2 : j < 2 ^ 31) (hso : a_so T j = 11) : k_out T (n + 1) (ma_pair M) (md_at11 S) := by
  obtain ⟨c1, c2, c3, c4⟩ := k_c_at h hb hj hj2
  obtain ⟨i0, i1, i2, i3, i4⟩ := k_part0 h.1.1.1 h.1.2.2.2.2.1 c2 (by rw [hso]; decide)
  obtain ⟨i, k1, k2, k3, k4⟩ := k_part1 h.1.1.1 h.1.2.2.2.2.1 c2 (by rw [hso]; decide)
  rw [hso, show a_binds 11 0 = 0 by decide] at i4
  rw [hso, show a_binds 11 1 = 0 by decide] at k4
  unfold ma_pair ma_pairM md_at11 md_f11 md_a md_b
  rw [hj, i2, k2, c3, i3, k3, (k_cells h.1 i1).1, (k_cells h.1 i1).2, (k_cells h.1 k1).1, (k_cells h.1 k1).2, nI_add]
  obtain ⟨B1, q1, q2, q3, q4⟩ := k_room h hn (fun _ => by rw [hs]; decide) (c := a_c T i0 + a_c T i) (by have := a_c_le T i0; have := a_c_le T i; omega)
  rcases q4 with ⟨g1, g2⟩ | ⟨g1, g2, g3, g4⟩
  · rw [g1, if_pos rfl, g2, if_neg (show ¬ ((1 : Int32), s_ss (md_mark S) 6).1 = 0 from (by decide : ¬ (1 : Int32) = 0))]
    exact k_ox q1 (by decide)
  · rw [g1, if_neg (by decide), g2, if_pos (show ((0 : Int32), md_mark S).1 = 0 from rfl)]
    have hb1 := ma_room_ba M (nI (a_c T i0 + a_c T i))
    have hno1 := (ma_room_no M (nI (a_c T i0 + a_c T i))).trans hj
    have hss : r_ss (md_mark S) = 1 := (me_ss q3).trans hs
    generalize (ma_room M (nI (a_c T i0 + a_c T i))).2 = M1 at *
    generalize md_mark S = F at *
    obtain ⟨d1, d2, d3, d4⟩ := k_c_at q1 (hb1.trans hb) hno1 hj2
    obtain ⟨B2, r1, r2, r3', r4⟩ := k_thunk (c := a_c T i) q1.1 i1 (by rw [i4]; exact d4) ⟨by rw [Nat.add_comm]; exact g3, by rw [Nat.add_comm (a_c T i)]; exact g4, q2⟩
    obtain ⟨⟨x1, x2, x3⟩, x4, x5⟩ := md_thunk_fx F (nI i0)
    obtain ⟨B3, s1, s2, s3, s4⟩ := k_thunk (c := 0) (i := i) r1 k1 (by rw [k4, ma_thunk_en, x2]; exact k_en_ex r2 _ d4) (by rw [Nat.zero_add]; exact r3')
    obtain ⟨⟨_, _, _⟩, y4, _⟩ := md_thunk_fx (md_thunk F (nI i0)).2 (nI i)
    exact k_o1 (k_back s1 (Or.inr (Or.inr ⟨rfl, rfl, k_th_ex s2 r4, s4⟩))) (y4.trans (x4.trans hss))
