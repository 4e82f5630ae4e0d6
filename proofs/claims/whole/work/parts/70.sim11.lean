/-! The two machines' load: the whole row. -/
/-- what load leaves of the rows, however it ends -/
def k_le (X X' : ZTS) (S S' : ZNS) : Prop := (t_so X' = t_so X ∧ t_xs X' = t_xs X ∧ t_sz X' = t_sz X ∧ ∀ j, j < 600 → vp_in (t_pa X' j) 200) ∧ S'.2.2 = S.2.2 ∧ S'.1 = S.1 ∧ ∀ j, j < 600 → vp_in (r_ch S' j) 200
theorem k_le_tr {X Y Z : ZTS} {S U V : ZNS} (h : k_le X Y S U) (g : k_le Y Z U V) : k_le X Z S V :=
  ⟨⟨g.1.1.trans h.1.1, g.1.2.1.trans h.1.2.1, g.1.2.2.1.trans h.1.2.2.1, g.1.2.2.2⟩, g.2.1.trans h.2.1, g.2.2.1.trans h.2.2.1, g.2.2.2⟩
theorem k_s2_sz (X : ZTS) (i o : Nat) : t_sz (tm_s2 X i o).2 = t_sz X ∧ t_so (tm_s2 X i o).2 = t_so X ∧ t_xs (tm_s2 X i o).2 = t_xs X := by
  unfold tm_s2
  by_cases h : o = 0
  · rw [if_pos h]; exact ⟨rfl, rfl, rfl⟩
  · rw [if_neg h]
    by_cases h1 : (tm_give (tm_setbi X i 0) (t_op X (o - 1)) (nI i)).1 = 0
    · rw [if_pos h1]; exact ⟨rfl, rfl, rfl⟩
    · rw [if_neg h1]; exact ⟨rfl, rfl, rfl⟩
theorem k_s4_sz (X : ZTS) (i o : Nat) : t_sz (tm_s4 X i o).2 = t_sz X ∧ t_so (tm_s4 X i o).2 = t_so X ∧ t_xs (tm_s4 X i o).2 = t_xs X := by
  unfold tm_s4
  by_cases h : tm_pt (t_so X i).toNatClampNeg ≤ 0
  · rw [if_pos h]; exact ⟨rfl, rfl, rfl⟩
  · rw [if_neg h]; exact ⟨rfl, rfl, rfl⟩
theorem k_l1_fix (S : ZNS) (k q : Nat) : (md_l1 S k q).2.2 = S.2.2 ∧ (md_l1 S k q).1 = S.1 := by
  unfold md_l1
  by_cases h : r_ow S q = -1
  · rw [if_pos h]; exact ⟨rfl, rfl⟩
  · rw [if_neg h]; exact ⟨rfl, rfl⟩
/-- no node is open: no slot is -/
theorem k_sl_0 {z i c o p : Nat} {L : List (Nat × Nat)} {X : ZTS} {S : ZNS} (h : k_ld z i c L o p X S) : (o = 0 ↔ p = 0) ∧ (o = 0 → L = []) := by
  obtain ⟨_, _, _, _, ho, hs, _⟩ := h
  cases L with
  | nil => exact ⟨⟨fun _ => hs, fun _ => ho⟩, fun _ => rfl⟩
  | cons a L =>
    obtain ⟨q, w⟩ := a
    obtain ⟨o2, e1, e2, e3, e4, e5, e6⟩ := ho
    obtain ⟨p2, g1, _⟩ := hs
    exact ⟨⟨fun r => by omega, fun r => by omega⟩, fun r => by omega⟩
/-- the node that has its place: what follows -/
theorem k_ld_var {z i c o p b : Nat} {L : List (Nat × Nat)} {X : ZTS} {S : ZNS} (h : k_ld z i c L o p X S) (hi : i < z) (hlo : tm_lo X) (hb : b ≤ i) (hbi : t_bi X i = nI b) : (t_so X i = 0 ∧ t_bi X i ≤ t_xs X i) ∧ (r_so S i = 0 ∧ nI b ≤ r_xs S i) ∨ ¬ (t_so X i = 0 ∧ t_bi X i ≤ t_xs X i) ∧ ¬ (r_so S i = 0 ∧ nI b ≤ r_xs S i) ∧ (t_so X i = 0 → ∃ n, n < b ∧ t_xs X i = nI n) := by
  obtain ⟨s1, s2, _⟩ := h.2.1 i hi
  have hz := h.1.2.1
  rw [← s1, ← s2, hbi]
  by_cases hc : t_so X i = 0 ∧ nI b ≤ t_xs X i
  · exact Or.inl ⟨hc, hc⟩
  · refine Or.inr ⟨hc, hc, fun h0 => ?_⟩
    obtain ⟨n, n1, n2⟩ := hlo.2 i (by omega) h0
    refine ⟨n, ?_, n2⟩
    rcases Nat.lt_or_ge n b with w | w
    · exact w
    · exact absurd ⟨h0, by rw [n2]; exact nI_le w (by omega)⟩ hc
/-- how load ends -/
def k_end (z : Nat) (X : ZTS) (S : ZNS) (r : Int32 × ZTS) (r' : Int32 × ZNS) : Prop := r.1 = r'.1 ∧ (¬ r.1 = 0 ∧ k_le X r.2 S r'.2 ∨ r.1 = 0 ∧ ∃ S', r'.2 = md_begin (s_si S' (nI z)) ∧ k_le X r.2 S S' ∧ k_ld z z z [] 0 0 r.2 S')
theorem k_one {i : Nat} (h : i ≤ 200) : ¬ 1 + nI i = 0 := by
  rw [show (1 : Int32) = nI 1 from rfl, nI_add]
  exact nI_ne0 (by omega) (by omega)
theorem tm_lo_c {X X' : ZTS} (h : tm_lo X) (h1 : t_so X' = t_so X) (h2 : t_xs X' = t_xs X) (h3' : ∀ j, j < 600 → vp_in (t_pa X' j) 200) : tm_lo X' := ⟨h3', by rw [h1, h2]; exact h.2⟩
theorem k_loadN {z : Nat} : ∀ (f i o p : Nat) (L : List (Nat × Nat)) (X : ZTS) (S : ZNS), i + f = z → 0 < i → tm_lo X → k_ld z i i L o p X S → k_end z X S (tm_settleN f i o X) (md_loadN z f i p S) := by
  intro f
  induction f with
  | zero =>
    intro i o p L X S hz hi hlo h
    obtain ⟨h1, h2⟩ := k_sl_0 h
    obtain ⟨⟨a1, a2, a3⟩, _, _, _, _, _, l1, l2⟩ := id h
    have hiz : i = z := by omega
    subst hiz
    rw [tm_settleN, md_loadN, a3, if_neg (nI_ne0 hi (by omega))]
    have hle : k_le X X S S := ⟨⟨rfl, rfl, rfl, l1⟩, rfl, rfl, l2⟩
    by_cases ho : o = 0
    · rw [if_pos ho, if_pos (h1.mp ho)]
      refine ⟨rfl, Or.inr ⟨rfl, S, rfl, hle, ?_⟩⟩
      have hp := h1.mp ho
      rw [← h2 ho, ← ho]
      have : k_ld i i i L o o X S := by
        have h' := h
        rw [hp] at h'
        rw [ho] at h' ⊢
        exact h'
      exact this
    · rw [if_neg ho, if_neg (fun q => ho (h1.mpr q))]
      exact ⟨rfl, Or.inl ⟨k_one (by omega), hle⟩⟩
  | succ f ih =>
    intro i o p L X S hz hi hlo h
    obtain ⟨h1, h2⟩ := k_sl_0 h
    have hle : k_le X X S S := ⟨⟨rfl, rfl, rfl, h.2.2.2.2.2.2.1⟩, rfl, rfl, h.2.2.2.2.2.2.2⟩
    have h200 := h.1.2.1
    rw [tm_settleN, md_loadN]
    by_cases ho : o = 0
    · rw [if_pos (show i ≠ 0 ∧ o = 0 from ⟨by omega, ho⟩), if_pos (h1.mp ho)]
      exact ⟨rfl, Or.inl ⟨k_one (by omega), hle⟩⟩
    · rw [if_neg (show ¬ (i ≠ 0 ∧ o = 0) from fun q => ho q.2), if_neg (fun q => ho (h1.mpr q))]
      have hL : ∃ q w L', L = (q, w) :: L' := by
        cases L with
        | nil => exact absurd h.2.2.2.2.1 ho
        | cons a L => exact ⟨a.1, a.2, L, rfl⟩
      obtain ⟨q, w, L', rfl⟩ := hL
      obtain ⟨L1, b, g1, g2, g3, g4, g5, g6, g7⟩ := k_ld_give h (by omega)
      obtain ⟨f1, f2⟩ := k_l1_fix S i (p - 1)
      have hX1 : k_le X (tm_s2 X i o).2 S (md_l1 S i (p - 1)) := ⟨⟨g6, g7, (k_s2_sz X i o).1, g5.2.2.2.2.2.2.1⟩, f1, f2, g5.2.2.2.2.2.2.2⟩
      have hlo1 := tm_lo_c hlo g6 g7 g5.2.2.2.2.2.2.1
      rw [g3]
      generalize hX : (tm_s2 X i o).2 = X1 at *
      generalize (tm_s2 X i o).1 = o1 at *
      generalize md_l1 S i (p - 1) = S1 at *
      rcases k_ld_var g5 (by omega) hlo1 g2 g4 with ⟨v1, v2⟩ | ⟨v1, v2, v3⟩
      · rw [if_pos v1, if_pos v2]
        exact ⟨rfl, Or.inl ⟨k_one (by omega), hX1⟩⟩
      · rw [if_neg v1, if_neg v2]
        obtain ⟨L2, n1⟩ := k_ld_next g5 (by omega) g2 g4 v3
        obtain ⟨x1, x2, x3⟩ := k_s4_sz X1 i o1
        have hX2 : k_le X1 (tm_s4 X1 i o1).2 S1 (md_inN (md_many (r_so (md_l2 S1 i) i)).toNatClampNeg i (nI b) (p - 1) (md_l2 S1 i)).2 := by
          obtain ⟨_, ⟨y1, y2, _⟩, _⟩ := k_inN (i := i) (b := nI b) (md_many (r_so (md_l2 S1 i) i)).toNatClampNeg (p - 1) (md_l2 S1 i)
          exact ⟨⟨x2, x3, x1, n1.2.2.2.2.2.2.1⟩, y2, y1, n1.2.2.2.2.2.2.2⟩
        have hr := ih (i + 1) _ _ L2 _ _ (by omega) (by omega) (tm_lo_c hlo1 x2 x3 n1.2.2.2.2.2.2.1) n1
        obtain ⟨r1, r2⟩ := hr
        refine ⟨r1, ?_⟩
        rcases r2 with ⟨r2, r3⟩ | ⟨r2, S', r3, r4, r5⟩
        · exact Or.inl ⟨r2, k_le_tr hX1 (k_le_tr hX2 r3)⟩
        · exact Or.inr ⟨r2, S', r3, k_le_tr hX1 (k_le_tr hX2 r4), r5⟩
/-- settle beside the reference's load, from the start -/
theorem k_load {M : ZMS} {S : ZNS} {z : Nat} (hw : k_wt M S) (hz : z ≤ 200) (hz1 : t_sz (m_X M) = nI z) (hz2 : r_to S = nI z) : k_end z (m_X M) (md_l0 S) (tm_settle (m_X M)) (md_load S) := by
  obtain ⟨⟨⟨z', z1, z2, z3, z4⟩, _⟩, ⟨w1, _⟩, ⟨w3, _⟩, w5⟩ := hw
  have hzz : z' = z := (nI_eq (by omega) (by omega)).mp (z3.symm.trans hz2)
  subst hzz
  unfold tm_settle md_load
  rw [hz1, hz2, nI_clamp (by omega)]
  have hle : k_le (m_X M) (m_X M) (md_l0 S) (md_l0 S) := ⟨⟨rfl, rfl, rfl, w3.1⟩, rfl, rfl, w5⟩
  cases z' with
  | zero =>
    rw [tm_settleN, md_loadN, hz1, if_pos (show nI 0 = 0 from rfl), if_neg (by decide)]
    exact ⟨rfl, Or.inl ⟨k_one (by omega), hle⟩⟩
  | succ f =>
    have hrow : ∀ j, j < f + 1 → t_so (m_X M) j = r_so S j ∧ t_xs (m_X M) j = r_xs S j ∧ vp_in (t_so (m_X M) j) 14 := fun j hj => ⟨(z4 j hj).1, (z4 j hj).2, w1 j (by omega)⟩
    rw [tm_settleN, md_loadN, if_neg (show ¬ ((0 : Nat) ≠ 0 ∧ (0 : Nat) = 0) from fun q => q.1 rfl), if_neg (show ¬ (1 : Nat) = 0 by decide)]
    have h2 : tm_s2 (m_X M) 0 0 = (0, tm_setbi (m_X M) 0 0) := by unfold tm_s2; rw [if_pos rfl]
    have h1 : md_l1 (md_l0 S) 0 (1 - 1) = md_l0 S := by
      unfold md_l1
      rw [if_pos]
      show upd (r_ow S) 0 (-1) 0 = -1
      exact pk_us
    have har : r_ar (md_l0 S) (1 - 1) = nI 0 := by
      show upd (r_ar S) 0 0 0 = nI 0
      rw [pk_us]; rfl
    rw [h2, h1, har]
    have hb0' : t_bi (tm_setbi (m_X M) 0 0) 0 = 0 := by show upd (t_bi (m_X M)) 0 0 0 = 0; rw [pk_us]
    have hk : k_ld (f + 1) 0 (0 + 1) [] 0 0 (tm_setbi (m_X M) 0 0) (md_l0 S) := ⟨⟨by omega, hz, hz1⟩, hrow, fun j hj => absurd hj (Nat.not_lt_zero _), fun _ => hb0', rfl, rfl, w3.1, w5⟩
    have hlo1 : tm_lo (tm_setbi (m_X M) 0 0) := w3
    have hX1 : k_le (m_X M) (tm_setbi (m_X M) 0 0) (md_l0 S) (md_l0 S) := hle
    have hb0 : t_bi (tm_setbi (m_X M) 0 0) 0 = nI 0 := by show upd (t_bi (m_X M)) 0 0 0 = nI 0; rw [pk_us]; rfl
    show k_end (f + 1) (m_X M) (md_l0 S) (if t_so (tm_setbi (m_X M) 0 0) 0 = 0 ∧ t_bi (tm_setbi (m_X M) 0 0) 0 ≤ t_xs (tm_setbi (m_X M) 0 0) 0 then (1 + nI 0, tm_setbi (m_X M) 0 0) else tm_settleN f (0 + 1) (tm_s4 (tm_setbi (m_X M) 0 0) 0 0).1 (tm_s4 (tm_setbi (m_X M) 0 0) 0 0).2) _
    generalize tm_setbi (m_X M) 0 0 = X1 at *
    generalize md_l0 S = S1 at *
    rcases k_ld_var hk (by omega) hlo1 (Nat.le_refl 0) hb0 with ⟨v1, v2⟩ | ⟨v1, v2, v3⟩
    · rw [if_pos v1, if_pos v2]
      exact ⟨rfl, Or.inl ⟨k_one (by omega), hX1⟩⟩
    · rw [if_neg v1, if_neg v2]
      obtain ⟨L2, n1⟩ := k_ld_next hk (by omega) (Nat.le_refl 0) hb0 v3
      obtain ⟨x1, x2, x3⟩ := k_s4_sz X1 0 0
      have hX2 : k_le X1 (tm_s4 X1 0 0).2 S1 (md_inN (md_many (r_so (md_l2 S1 0) 0)).toNatClampNeg 0 (nI 0) 0 (md_l2 S1 0)).2 := by
        obtain ⟨_, ⟨y1, y2, _⟩, _⟩ := k_inN (i := 0) (b := nI 0) (md_many (r_so (md_l2 S1 0) 0)).toNatClampNeg 0 (md_l2 S1 0)
        exact ⟨⟨x2, x3, x1, n1.2.2.2.2.2.2.1⟩, y2, y1, n1.2.2.2.2.2.2.2⟩
      have hr := k_loadN f (0 + 1) _ _ L2 _ _ (by omega) (by omega) (tm_lo_c hlo1 x2 x3 n1.2.2.2.2.2.2.1) n1
      obtain ⟨r1, r2⟩ := hr
      refine ⟨r1, ?_⟩
      rcases r2 with ⟨r2, r3⟩ | ⟨r2, S', r3, r4, r5⟩
      · exact Or.inl ⟨r2, k_le_tr hX1 (k_le_tr hX2 r3)⟩
      · exact Or.inr ⟨r2, S', r3, k_le_tr hX1 (k_le_tr hX2 r4), r5⟩
/-- the term that was loaded -/
def k_T (z : Nat) (X : ZTS) : ZT := (t_so X, t_xs X, t_pa X, fun j => (t_bi X j).toNatClampNeg, z)
theorem k_T_ok {z : Nat} {X : ZTS} {S : ZNS} (h : k_ld z z z [] 0 0 X S) (hz : 0 < z) : a_ok (k_T z X) ∧ k_tm (k_T z X) X (s_si S (nI z)) := by
  obtain ⟨⟨_, a2, a3⟩, b1, c1, d1, _⟩ := h
  have hpart : ∀ j, j < z → ∀ w, w < a_many (t_so X j) → ∃ d, d < z ∧ t_pa X (3 * j + w) = nI d ∧ r_ch S (3 * j + w) = nI d ∧ t_bi X d = t_bi X j + tm_binds (t_so X j) (nI w) := by
    intro j hj w hw
    obtain ⟨_, _, m, m1, m2, m3, m4⟩ := c1 j hj
    rcases m3 with r | ⟨_, r⟩
    · exact m4 w (by omega)
    · exact absurd r (by simp)
  refine ⟨⟨⟨hz, a2, ?_⟩, fun j hj => ⟨(b1 j hj).2.2, ?_, ?_, ?_⟩⟩, ⟨a3, rfl⟩, fun j hj => ⟨⟨rfl, rfl⟩, (c1 j hj).1, fun w hw => ?_⟩⟩
  · show (t_bi X 0).toNatClampNeg = 0
    rw [d1 hz]; decide
  · obtain ⟨_, ⟨b, b2, b3, _⟩, _⟩ := c1 j hj
    have hj : j < z := hj
    show (t_bi X j).toNatClampNeg ≤ 200
    rw [b3, nI_clamp (by omega)]; omega
  · intro h0
    obtain ⟨_, ⟨b, b2, b3, b4⟩, _⟩ := c1 j hj
    have hj : j < z := hj
    obtain ⟨n, n1, n2⟩ := b4 h0
    refine ⟨n, ?_, n2⟩
    show n < (t_bi X j).toNatClampNeg
    rw [b3, nI_clamp (by omega)]; exact n1
  · intro w hw
    have hj : j < z := hj
    obtain ⟨d, d2, d3, _, d5⟩ := hpart j hj w hw
    refine ⟨d, d2, d3, ?_⟩
    obtain ⟨_, ⟨b, b2, b3, _⟩, _⟩ := c1 j hj
    obtain ⟨_, ⟨b', b2', b3', _⟩, _⟩ := c1 d d2
    obtain ⟨bn1, bn2⟩ := a_binds_n (t_so X j) w
    show (t_bi X d).toNatClampNeg = (t_bi X j).toNatClampNeg + a_binds (t_so X j) w
    rw [b3, bn1, nI_add] at d5
    rw [d5, b3, nI_clamp (by omega), nI_clamp (by omega)]
  · obtain ⟨d, _, d3, d4, _⟩ := hpart j hj w hw
    exact ⟨rfl, d4.trans d3.symm⟩
theorem z_load {n : Nat} {M : ZMS} {S : ZNS} (h : k_z n M S) : (ma_load M).1 = (md_load S).1 ∧ k_z (n + 1) (ma_load M).2 (md_load S).2 := by
  have hw := k_z_wt h
  obtain ⟨⟨⟨z, z1, z2, z3, z4⟩, hyz⟩, ⟨w1, w2⟩, ⟨w3, w4⟩, w5⟩ := id hw
  obtain ⟨hlo, hmlo⟩ := z_lo h
  have hrd : k_rd n (m_H M) := by
    rcases h with ⟨_, _, _, _, ⟨_, _, q⟩, _⟩ | ⟨T, B, q, _⟩
    · exact q
    · exact q.1.2.2.1.2
  have hend := k_load hw z1 z2 z3
  obtain ⟨e1, e2⟩ := hend
  unfold ma_load
  refine ⟨e1, ?_⟩
  show k_z (n + 1) (ma_begin (M.1, M.2.1, M.2.2.1, tm_clear (m_Y M), if (tm_settle (m_X M)).1 = 0 then (tm_settle (m_X M)).2 else tm_clear (tm_settle (m_X M)).2) (if (tm_settle (m_X M)).1 = 0 then 1 else 0)) (md_load S).2
  have hso : ∀ X', t_so X' = t_so (m_X M) → tm_so X' := fun X' q j hj => by rw [q]; exact w1 j hj
  rcases e2 with ⟨e2, e3⟩ | ⟨e2, S', e3, e4, e5⟩
  · rw [if_neg e2, if_neg e2]
    obtain ⟨⟨x1, x2, x3, x4⟩, x5, x6, x7⟩ := e3
    have y1 : r_ss (md_load S).2 = 0 := congrArg (fun t => t.2.1.2.2.2.1) x5
    have y2 : r_to (md_load S).2 = 0 := congrArg (fun t => t.2.2.1) x6
    refine Or.inl ⟨⟨rfl, y1⟩, ⟨rfl, rfl, rfl, rfl⟩, ⟨rfl, rfl⟩, rfl, ⟨hp_ok_eq (hp_eq_tr (hp_eq_sweep _) (hp_eq_begin _)) hlo.1, hp_fok_sweep _, ?_⟩, ⟨⟨⟨0, by omega, rfl, y2, fun j hj => absurd hj (Nat.not_lt_zero _)⟩, 0, by omega, rfl⟩, ⟨w2, hso _ x1⟩, ⟨w4, tm_lo_c w3 x1 x2 x4⟩, x7⟩, ?_⟩
    · obtain ⟨g, _, ⟨_, g4, g5⟩, _⟩ := k_sweep (hp_begin (m_H M))
      have := k_rd_begin hrd
      show k_rd (n + 1) (hp_sweep (hp_begin (m_H M)))
      unfold k_rd at this ⊢
      rw [g4, g5]; exact this
    · obtain ⟨m1, m2, m3, m4⟩ := hmlo
      have u1 : r_is (md_load S).2 = r_is S ∧ r_on (md_load S).2 = r_on S ∧ r_tw (md_load S).2 = r_tw S := ⟨congrArg (fun t => t.1.1) x5, congrArg (fun t => t.1.2.1) x5, congrArg (fun t => t.1.2.2.1) x5⟩
      have u2 : r_wh (md_load S).2 = r_wh S ∧ r_fi (md_load S).2 = r_fi S ∧ r_se (md_load S).2 = r_se S ∧ r_fr (md_load S).2 = r_fr S := ⟨congrArg (fun t => t.1.2.2.2.1) x5, congrArg (fun t => t.1.2.2.2.2) x5, congrArg (fun t => t.2.1.1) x5, congrArg (fun t => t.2.1.2.1) x5⟩
      have u3' : r_ba (md_load S).2 = r_ba S ∧ r_vs (md_load S).2 = r_vs S ∧ r_vo (md_load S).2 = r_vo S ∧ r_vt (md_load S).2 = r_vt S ∧ r_en (md_load S).2 = r_en S := ⟨congrArg (fun t => t.2.2.1.2.1) x5, congrArg (fun t => t.2.2.1.2.2.2.2) x5, congrArg (fun t => t.2.2.2.1) x5, congrArg (fun t => t.2.2.2.2.1) x5, congrArg (fun t => t.2.2.1.2.2.2.1) x5⟩
      refine ⟨?_, ?_, ?_, ?_⟩
      · unfold md_ok
        rw [u1.1, u1.2.1, u1.2.2]; exact m1
      · unfold md_fok
        rw [u2.1, u2.2.1, u2.2.2.1, u2.2.2.2]; exact m2
      · rw [u3'.1, u3'.2.1, u3'.2.2.1, u3'.2.2.2.1, y1]
        intro q
        rcases q with q | q
        · exact m3 (Or.inl q)
        · exact absurd q (by decide)
      · rw [u3'.1, u3'.2.2.2.2, y1]
        intro q _
        by_cases hs : r_ss S = 2
        · -- over: the reference is on the way back
          obtain ⟨T, B, _, _, q2, _⟩ := z_over h hs
          exact absurd (q2.symm.trans q) (by decide)
        · exact m4 q hs
  · rw [if_pos e2, if_pos e2, e3]
    obtain ⟨⟨x1, x2, x3, x4⟩, x5, x6, x7⟩ := e4
    have y2 : r_to S' = 0 := congrArg (fun t => t.2.2.1) x6
    have hz0 : 0 < z := by
      rcases Nat.eq_zero_or_pos z with q | q
      · subst q
        have hset : tm_settle (m_X M) = (1, m_X M) := by
          unfold tm_settle
          rw [z2, show (nI 0).toNatClampNeg = 0 from by decide, tm_settleN, z2]
          rfl
        rw [hset] at e2
        exact absurd e2 (show ¬ (1 : Int32) = 0 by decide)
      · exact q
    obtain ⟨t1, t2⟩ := k_T_ok e5 hz0
    refine Or.inr ⟨k_T z (tm_settle (m_X M)).2, ?_⟩
    refine k_start (M := (M.1, M.2.1, M.2.2.1, tm_clear (m_Y M), (tm_settle (m_X M)).2)) (S := s_si S' (nI z)) t1 t2 ⟨⟨⟨0, by omega, rfl, y2, fun j hj => absurd hj (Nat.not_lt_zero _)⟩, z, z1, x3.trans z2⟩, ⟨w2, hso _ x1⟩, ⟨w4, tm_lo_c w3 x1 x2 x4⟩, x7⟩ hlo.1 ?_ hrd
    have u1 : r_is S' = r_is S ∧ r_on S' = r_on S ∧ r_tw S' = r_tw S := ⟨congrArg (fun t => t.1.1) x5, congrArg (fun t => t.1.2.1) x5, congrArg (fun t => t.1.2.2.1) x5⟩
    intro j hj
    show (r_is S' j = 5 ∨ r_is S' j = 2 → md_c (r_on S' j)) ∧ md_c (r_tw S' j)
    rw [u1.1, u1.2.1, u1.2.2]
    exact hmlo.1 j hj
/-- the reference, new -/
def md_new : ZNS := (((fun _ => 0), (fun _ => 0), 0, 0, 0), ((fun _ => 0), (fun _ => 0), (fun _ => 0), (fun _ => 0), (fun _ => 0)), ((fun _ => 0), (fun _ => 0), (fun _ => 0), (fun _ => 0), (fun _ => 0)), ((fun _ => 0), 0, 0, 0, 0), (0, 0, 0, 0, 0), (0, 0, (fun _ => 0), (fun _ => 0), 0))
theorem z_new : k_z 0 lm_new md_new := by
  have c0 : hp_c 0 := Or.inr (vp_in_nI (n := 0) (by decide) (by decide))
  have m0 : md_c 0 := Or.inr (vp_in_nI (n := 0) (by decide) (by decide))
  have v14 : vp_in 0 14 := vp_in_nI (n := 0) (by decide) (by decide)
  have v200 : vp_in 0 200 := vp_in_nI (n := 0) (by decide) (by decide)
  have ht : tm_lo ((fun _ => 0), (fun _ => 0), (fun _ => 0), (fun _ => 0), (fun _ => 0), (fun _ => 0), 0) := ⟨fun j _ => v200, fun j _ _ => ⟨0, by omega, rfl⟩⟩
  refine Or.inl ⟨⟨rfl, rfl⟩, ⟨rfl, rfl, rfl, rfl⟩, ⟨rfl, rfl⟩, rfl, ⟨fun j _ => ⟨fun _ => c0, c0⟩, ⟨0, by omega, rfl, fun j hj => absurd hj (Nat.not_lt_zero _)⟩, 0, by omega, rfl, fun j _ => ⟨0, by omega, rfl⟩⟩, ⟨⟨⟨0, by omega, rfl, rfl, fun j hj => absurd hj (Nat.not_lt_zero _)⟩, 0, by omega, rfl⟩, ⟨fun j _ => v14, fun j _ => v14⟩, ⟨ht, ht⟩, fun j _ => v200⟩, fun j _ => ⟨fun _ => m0, m0⟩, ⟨0, by omega, rfl, fun j hj => absurd hj (Nat.not_lt_zero _)⟩, fun _ => ⟨fun _ => m0, fun _ => m0⟩, fun _ _ => m0⟩
