/-! What is marked, what is freed, and whether there is room. -/
/-- the free row and the round stay -/
def k_fx (Z Y : ZHS) : Prop := (h_fc Z = h_fc Y ∧ h_fr Z = h_fr Y ∧ h_rd Z = h_rd Y) ∧ ∀ n, k_rd n Y → k_rd n Z
theorem k_fx_rf (Z : ZHS) : k_fx Z Z := ⟨⟨rfl, rfl, rfl⟩, fun _ h => h⟩
theorem k_fx_tr {X Y Z : ZHS} (h : k_fx X Y) (g : k_fx Y Z) : k_fx X Z := ⟨⟨h.1.1.trans g.1.1, h.1.2.1.trans g.1.2.1, h.1.2.2.trans g.1.2.2⟩, fun n q => h.2 n (g.2 n q)⟩
theorem k_fx_reach (Z : ZHS) (x : Int32) : k_fx (hp_reach Z x) Z := by
  obtain ⟨_, _, _, h1, h2, h3⟩ := hp_reach_fix Z x
  refine ⟨⟨h1, h2, h3⟩, ?_⟩
  intro n h
  unfold hp_reach
  by_cases q1 : x = -1
  · rw [if_pos q1]; exact h
  · rw [if_neg q1]
    by_cases q2 : h_mk Z x.toNatClampNeg = h_rd Z
    · rw [if_pos q2]; exact h
    · rw [if_neg q2]
      obtain ⟨r, r1, r2, r3'⟩ := h
      refine ⟨r, r1, r2, ?_⟩
      intro j hj
      show ∃ m, m ≤ r ∧ upd (h_mk Z) x.toNatClampNeg (h_rd Z) j = nI m
      by_cases hja : j = x.toNatClampNeg
      · subst hja; rw [pk_us]; exact ⟨r, Nat.le_refl _, r2⟩
      · rw [pk_un hja]; exact r3' j hj
theorem k_fx_from (Z : ZHS) (a b c : Int32) : k_fx (hp_from Z a b c) Z := by
  unfold hp_from
  have h2 := k_fx_tr (k_fx_reach (hp_reach Z b) c) (k_fx_reach Z b)
  by_cases q1 : a = 5
  · rw [if_pos q1]; exact h2
  · rw [if_neg q1]
    by_cases q2 : a = 2
    · rw [if_pos q2]; exact h2
    · rw [if_neg q2]
      by_cases q3 : a = 3
      · rw [if_pos q3]; exact k_fx_reach _ _
      · rw [if_neg q3]
        by_cases q4 : a = 1
        · rw [if_pos q4]; exact k_fx_reach _ _
        · rw [if_neg q4]; exact k_fx_rf _
theorem k_fx_pl1 (P : ZPS) (S : ZHS) (k : Nat) : k_fx (pl_reach1 P S k) S := by
  unfold pl_reach1
  by_cases h1 : p_so P k = 0
  · rw [if_pos h1]; exact k_fx_reach _ _
  · rw [if_neg h1]
    by_cases h2 : p_so P k = 1
    · rw [if_pos h2]; exact k_fx_reach _ _
    · rw [if_neg h2]
      by_cases h3 : p_so P k = 2
      · rw [if_pos h3]; exact k_fx_reach _ _
      · rw [if_neg h3]
        by_cases h4 : p_so P k = 4
        · rw [if_pos h4]; exact k_fx_reach _ _
        · rw [if_neg h4]; exact k_fx_rf _
theorem k_fx_plN (P : ZPS) : ∀ (n k : Nat) (S : ZHS), k_fx (pl_reachN P n k S) S := by
  intro n
  induction n with
  | zero => intro k S; exact k_fx_rf _
  | succ n ih => intro k S; exact k_fx_tr (ih (k + 1) (pl_reach1 P S k)) (k_fx_pl1 P S k)
theorem k_fx_spN : ∀ (n k : Nat) (S : ZHS), k_fx (hp_spreadN n k S) S := by
  intro n
  induction n with
  | zero => intro k S; rw [hp_spreadN]; exact k_fx_rf _
  | succ n ih =>
    intro k S
    rw [hp_spreadN]
    by_cases h : h_rc S ≤ nI k
    · rw [if_pos h]; exact k_fx_rf _
    · rw [if_neg h]; exact k_fx_tr (ih _ _) (k_fx_from _ _ _ _)
theorem k_rd_begin {n : Nat} {H : ZHS} (h : k_rd n H) : k_rd (n + 1) (hp_begin H) := by
  obtain ⟨r, r1, r2, r3'⟩ := h
  refine ⟨r + 1, by omega, ?_, ?_⟩
  · show h_rd H + 1 = nI (r + 1)
    rw [r2]; exact (nI_succ r).symm
  · intro j hj
    obtain ⟨m, m1, m2⟩ := r3' j hj
    exact ⟨m, by omega, m2⟩
theorem k_begin {B : KB} {n : Nat} {H : ZHS} {S : ZNS} (hB : k_in B) (h : k_rd n H) (hn : n + 1 < 2 ^ 31) : k_mk B 0 (hp_begin H) (md_clrN 256 0 (s_le S 0)) := by
  obtain ⟨r, r1, r2, r3'⟩ := h
  have hno : ∀ a, a < 256 → ¬ k_m (hp_begin H) a := by
    intro a ha q
    obtain ⟨m, m1, m2⟩ := r3' a ha
    have q : h_mk H a = h_rd H + 1 := q
    rw [m2, r2, ← nI_succ] at q
    have := (nI_eq (by omega) (by omega)).mp q
    omega
  have hre := md_clr0 256 0 (s_le S 0) rfl (fun j hj => absurd hj (Nat.not_lt_zero _))
  refine ⟨⟨by omega, rfl, (md_eq_clrN 256 0 (s_le S 0)).2⟩, ⟨zc_zero 256 (fun j hj => ?_), zc_zero 256 hre⟩, fun i hi => absurd hi (Nat.not_lt_zero _), ?_, fun a ha q => absurd q (hno a ha)⟩
  · unfold k_mkf
    rw [if_neg (show ¬ h_mk (hp_begin H) j = h_rd (hp_begin H) from hno j hj)]
  · intro a b hab
    exact ⟨fun q => absurd q (hno a (hB.1 a b hab).1), fun q => absurd (hre b (hB.1 a b hab).2) q⟩
/-- what marking has reached: closed, from where the machine is and from the frames -/
def k_all (Z : ZHS) (M : ZMS) : Prop := (∀ a, a < 256 → k_m Z a → k_cl Z (h_st (m_H M) a) (h_fi (m_H M) a) (h_se (m_H M) a)) ∧ ((l_ba M = 0 → k_mx Z (l_en M)) ∧ (¬ l_ba M = 0 → k_cl Z (l_vs M) (l_vf M) (l_vg M))) ∧ ∀ j, j < (p_sz (m_P M)).toNatClampNeg → k_fm Z (p_so (m_P M) j) (p_fi (m_P M) j) (p_se (m_P M) j)
theorem k_mark {T : ZT} {B : KB} {n : Nat} {M : ZMS} {S : ZNS} (h : k_c T B n M S) (hn : n + 1 < 2 ^ 31) (hs : r_ba S = 0 → ¬ r_ss S = 2) :
    ∃ k, k_mk B k (hp_spread (ma_roots M)) (md_mark S) ∧ hp_eq (hp_spread (ma_roots M)) (m_H M) ∧ md_eq (md_mark S) S ∧ k_fx (hp_spread (ma_roots M)) (hp_begin (m_H M)) ∧ k_rd (n + 1) (hp_spread (ma_roots M)) ∧ k_all (hp_spread (ma_roots M)) M := by
  obtain ⟨⟨⟨q0, hr⟩, q2, ⟨q3, q4⟩, ⟨g0, z, g1, g2, g3, g4⟩, q6⟩, hat⟩ := h
  have hB := k_in_hr hr
  have e0 : md_eq (md_clrN 256 0 (s_le S 0)) S := md_eq_tr (md_eq_clrN 256 0 (s_le S 0)).1 (md_eq_le S 0)
  have h0 := k_begin (S := S) hB q4 hn
  have hpz : (p_sz (m_P M)).toNatClampNeg = z := by rw [g2]; exact nI_clamp (by omega)
  have hfz : (r_fr S).toNatClampNeg = z := by rw [g3]; exact nI_clamp (by omega)
  -- the root
  have h1 : ∃ k1, k_mk B k1 (if l_ba M = 0 then hp_reach (hp_begin (m_H M)) (l_en M) else hp_from (hp_begin (m_H M)) (l_vs M) (l_vf M) (l_vg M)) (md_root (md_clrN 256 0 (s_le S 0))) ∧
      ((l_ba M = 0 → k_mx (if l_ba M = 0 then hp_reach (hp_begin (m_H M)) (l_en M) else hp_from (hp_begin (m_H M)) (l_vs M) (l_vf M) (l_vg M)) (l_en M)) ∧ (¬ l_ba M = 0 → k_cl (if l_ba M = 0 then hp_reach (hp_begin (m_H M)) (l_en M) else hp_from (hp_begin (m_H M)) (l_vs M) (l_vf M) (l_vg M)) (l_vs M) (l_vf M) (l_vg M))) := by
    unfold md_root
    rw [me_ba e0, me_ss e0, me_vs e0, me_vo e0, me_vt e0, me_en e0]
    rcases hat with ⟨b1, b2, j, b3, b4, b5, b6⟩ | ⟨b1, b2, b3⟩
    · rw [if_pos b1, if_pos b2, if_neg (hs b2)]
      obtain ⟨k', _, p1, _, p3⟩ := k_reach hB h0 (k_px_en b6)
      exact ⟨k', p1, fun _ => p3, fun q => absurd b1 q⟩
    · rw [if_neg (show ¬ l_ba M = 0 by rw [b1]; decide), if_neg (show ¬ r_ba S = 0 by rw [b2]; decide)]
      obtain ⟨k', _, p1, _, p3⟩ := k_fromV hB h0 b3
      exact ⟨k', p1, fun q => absurd (b1.symm.trans q) (by decide), fun _ => p3⟩
  have heq1 : hp_eq (if l_ba M = 0 then hp_reach (hp_begin (m_H M)) (l_en M) else hp_from (hp_begin (m_H M)) (l_vs M) (l_vf M) (l_vg M)) (m_H M) := by
    by_cases hb : l_ba M = 0
    · rw [if_pos hb]; exact hp_eq_tr (hp_eq_reach _ _) (hp_eq_begin _)
    · rw [if_neg hb]; exact hp_eq_tr (hp_eq_from _ _ _ _) (hp_eq_begin _)
  have hfx1 : k_fx (if l_ba M = 0 then hp_reach (hp_begin (m_H M)) (l_en M) else hp_from (hp_begin (m_H M)) (l_vs M) (l_vf M) (l_vg M)) (hp_begin (m_H M)) := by
    by_cases hb : l_ba M = 0
    · rw [if_pos hb]; exact k_fx_reach _ _
    · rw [if_neg hb]; exact k_fx_from _ _ _ _
  have e1 : md_eq (md_root (md_clrN 256 0 (s_le S 0))) S := md_eq_tr (md_eq_root _) e0
  unfold hp_spread ma_roots md_mark pl_reach
  rw [hfz, hpz]
  generalize (if l_ba M = 0 then hp_reach (hp_begin (m_H M)) (l_en M) else hp_from (hp_begin (m_H M)) (l_vs M) (l_vf M) (l_vg M)) = Z1 at *
  generalize md_root (md_clrN 256 0 (s_le S 0)) = W1 at *
  obtain ⟨k1, m1, o1, o2⟩ := h1
  have hw := md_wh_eq e1
  obtain ⟨k2, _, m2, s2, f2⟩ := k_frN (T := T) (C := h3 M) (D := r3 S) (P := m_P M) (z := z) hB z 0 k1 Z1 W1 (by omega) m1 (by rw [hw.1, hw.2.1, hw.2.2.1]; exact g4) (fun j hj => absurd hj (Nat.not_lt_zero _))
  have heq2 : hp_eq (pl_reachN (m_P M) z 0 Z1) (m_H M) := hp_eq_tr (pl_eqN _ _ _ _) heq1
  have hfx2 := k_fx_tr (k_fx_plN (m_P M) z 0 Z1) hfx1
  have e2 : md_eq (md_frN z 0 W1) S := by
    have he : ∀ (n k : Nat) (Z : ZNS), md_eq (md_frN n k Z) Z := by
      intro n
      induction n with
      | zero => intro k Z; exact md_eq_rf Z
      | succ n ih => intro k Z; exact md_eq_tr (ih (k + 1) (md_fr1 Z k)) (md_eq_fr1 Z k)
    exact md_eq_tr (he z 0 W1) e1
  generalize pl_reachN (m_P M) z 0 Z1 = Z2 at *
  generalize md_frN z 0 W1 = W2 at *
  obtain ⟨k3, _, m3, s3, c3⟩ := k_tdN hr 256 0 k2 Z2 W2 rfl m2 (by rw [heq2.1, heq2.2.1, heq2.2.2]; rfl) (by unfold r3; rw [me_is e2, me_on e2, me_tw e2]) (fun j hj => absurd hj (Nat.not_lt_zero _))
  have e3 : md_eq (md_tdN 256 0 W2) S := by
    have he : ∀ (n k : Nat) (Z : ZNS), md_eq (md_tdN n k Z) Z := by
      intro n
      induction n with
      | zero => intro k Z; rw [md_tdN]; exact md_eq_rf Z
      | succ n ih =>
        intro k Z
        rw [md_tdN]
        by_cases h1 : r_le Z ≤ nI k
        · rw [if_pos h1]; exact md_eq_rf Z
        · rw [if_neg h1]; exact md_eq_tr (ih (k + 1) _) (md_eq_td1 Z _)
    exact md_eq_tr (he 256 0 W2) e2
  have hfx3 := k_fx_tr (k_fx_spN 256 0 Z2) hfx2
  refine ⟨k3, m3, hp_eq_tr (hp_eq_spreadN 256 0 Z2) heq2, e3, hfx3, hfx3.2 (n + 1) (k_rd_begin q4), ?_, ?_, ?_⟩
  · intro a ha hm
    obtain ⟨i, i1, i2⟩ := m3.2.2.2.2 a ha hm
    have := c3 i i1
    unfold k_rc at this
    rw [i2, k_clamp ha] at this
    exact this
  · have s23 := k_st_tr (k := 0) (k' := 0) ⟨s2.1, s2.2.1, fun i hi => absurd hi (Nat.not_lt_zero _)⟩ ⟨s3.1, s3.2.1, fun i hi => absurd hi (Nat.not_lt_zero _)⟩ (Nat.le_refl _)
    exact ⟨fun q => k_mx_st s23 (o1 q), fun q => k_cl_st s23 (o2 q)⟩
  · intro j hj
    rw [hpz] at hj
    exact k_fm_st s3 (f2 j hj)
/-- the pairs that are marked -/
def k_re (B : KB) (Z : ZHS) : KB := fun a b => B a b ∧ k_m Z a
theorem k_mx_nI {Z : ZHS} {a : Nat} (ha : a < 256) (h : k_mx Z (nI a)) : k_m Z a := by
  rcases h with h | ⟨b, hb, h1, h2⟩
  · exact absurd h (k_nI_ne (by omega))
  · rw [(nI_eq (by omega) (by omega)).mp h1]; exact h2
theorem k_th_re {B : KB} {C : K3} {Z : ZHS} {x y : Int32} (hB : k_in B) (h : k_th B C x y) (g : k_mx Z x) : k_th (k_re B Z) C x y := by
  obtain ⟨a, b, h1, h2, h3, h4⟩ := h
  subst h1
  exact ⟨a, b, rfl, h2, ⟨h3, k_mx_nI (hB.1 a b h3).1 g⟩, h4⟩
theorem k_en_re {B : KB} {C D : K3} {Z : ZHS} (hB : k_in B) (hc : ∀ a, a < 256 → k_m Z a → k_cl Z (C.1 a) (C.2.1 a) (C.2.2 a)) : ∀ (k : Nat) {x y : Int32}, k_en B C D k x y → k_mx Z x → k_en (k_re B Z) C D k x y := by
  intro k
  induction k with
  | zero =>
    intro x y h g
    rcases h with h | ⟨a, b, h1, h2, h3, h4⟩
    · exact Or.inl h
    · subst h1
      exact Or.inr ⟨a, b, rfl, h2, ⟨h3, k_mx_nI (hB.1 a b h3).1 g⟩, h4⟩
  | succ k ih =>
    intro x y h g
    obtain ⟨a, b, h1, h2, h3, h4, h5⟩ := h
    subst h1
    have hm := k_mx_nI (hB.1 a b h3).1 g
    exact ⟨a, b, rfl, h2, ⟨h3, hm⟩, h4, ih h5 (((hc a (hB.1 a b h3).1 hm).1 (Or.inl h4)).2)⟩
theorem k_val_re {T : ZT} {B : KB} {C D : K3} {Z : ZHS} (hB : k_in B) (hc : ∀ a, a < 256 → k_m Z a → k_cl Z (C.1 a) (C.2.1 a) (C.2.2 a)) {s x y s' x' y' : Int32} (h : k_val T B C D s x y s' x' y') (g : k_cl Z s x y) : k_val T (k_re B Z) C D s x y s' x' y' := by
  rcases h with h | ⟨g1, g2, j, g3, g4, g5, g6, g7⟩ | ⟨g1, g2, g3, g4⟩
  · exact Or.inl h
  · exact Or.inr (Or.inl ⟨g1, g2, j, g3, g4, g5, g6, k_en_re hB hc _ g7 (g.2 (Or.inr g1))⟩)
  · exact Or.inr (Or.inr ⟨g1, g2, k_th_re hB g3 (g.1 (Or.inr g1)).1, k_th_re hB g4 (g.1 (Or.inr g1)).2⟩)
theorem k_ct_re {T : ZT} {B : KB} {C D : K3} {Z : ZHS} (hB : k_in B) (hc : ∀ a, a < 256 → k_m Z a → k_cl Z (C.1 a) (C.2.1 a) (C.2.2 a)) {s x y s' x' y' : Int32} (h : k_ct T B C D s x y s' x' y') (g : k_cl Z s x y) : k_ct T (k_re B Z) C D s x y s' x' y' := by
  rcases h with ⟨g1, g2, g3, g4⟩ | ⟨g1, g2, j, g3, g4, g5, g6⟩ | h | h
  · exact Or.inl ⟨g1, g2, k_th_re hB g3 (g.1 (Or.inl g1)).1, k_en_re hB hc _ g4 (g.1 (Or.inl g1)).2⟩
  · exact Or.inr (Or.inl ⟨g1, g2, j, g3, g4, g5, k_en_re hB hc _ g6 (g.2 (Or.inl g1))⟩)
  · exact Or.inr (Or.inr (Or.inl h))
  · exact Or.inr (Or.inr (Or.inr (k_val_re hB hc h g)))
theorem k_frame_re {T : ZT} {B : KB} {C D : K3} {Z : ZHS} (hB : k_in B) (hc : ∀ a, a < 256 → k_m Z a → k_cl Z (C.1 a) (C.2.1 a) (C.2.2 a)) {s x y s' x' y' : Int32} (h : k_frame T B C D s x y s' x' y') (g : k_fm Z s x y) : k_frame T (k_re B Z) C D s x y s' x' y' := by
  obtain ⟨h0, h⟩ := h
  refine ⟨h0, ?_⟩
  rcases h with ⟨g1, g2⟩ | ⟨g1, j, g2, g3, g4, g5, g6⟩ | h | h
  · exact Or.inl ⟨g1, k_th_re hB g2 (g.1 g1)⟩
  · exact Or.inr (Or.inl ⟨g1, j, g2, g3, g4, k_en_re hB hc _ g5 (g.2 g1), g6⟩)
  · exact Or.inr (Or.inr (Or.inl h))
  · exact Or.inr (Or.inr (Or.inr h))
/-- only the marked pairs, another heap row beside, other marks -/
theorem k_restrict {T : ZT} {B : KB} {n n' : Nat} {M : ZMS} {S W : ZNS} {Z H : ZHS} (h : k_c T B n M S) (ha : k_all Z M) (eH : hp_eq H (m_H M)) (eW : md_eq W S) (hf : k_free (k_re B Z) H) (hd : k_rd n' H) : k_c T (k_re B Z) n' (ma_setH M H) W := by
  obtain ⟨⟨⟨q0, hr⟩, ⟨q1, q2⟩, ⟨q3, q4⟩, ⟨g0, z, g1, g2, g3, g4⟩, q6, q7, q8, q9⟩, hat⟩ := h
  have hB := k_in_hr hr
  obtain ⟨hc, ⟨ho1, ho2⟩, hfm⟩ := ha
  have e3 : h3 (ma_setH M H) = h3 M := by
    unfold h3
    show (h_st H, h_fi H, h_se H) = _
    rw [eH.1, eH.2.1, eH.2.2]
  have e4 : r3 W = r3 S := by unfold r3; rw [me_is eW, me_on eW, me_tw eW]
  obtain ⟨s1, s2, s3, s4, s5⟩ := k_same_eq eW
  refine ⟨⟨⟨q0, ?_⟩, ⟨hp_ok_eq eH q1, md_ok_eq eW q2⟩, ⟨hf, hd⟩, ⟨g0.trans s1.1.symm, z, g1, g2, s1.2.1.trans g3, ?_⟩, k_tm_same s2 q6, k_wt_same ⟨rfl, rfl⟩ s3 s2.2.2.2 q7, q8.trans s4.symm, q9.trans s5.symm⟩, ?_⟩
  · rw [e3, e4]
    refine ⟨fun a b hab => ?_, fun a b c h1 h2 => hr.2.1 a b c h1.1 h2.1, fun a b c h1 h2 => hr.2.2 a b c h1.1 h2.1⟩
    obtain ⟨p1, p2, p3⟩ := hr.1 a b hab.1
    exact ⟨p1, p2, k_ct_re hB hc p3 (hc a p1 hab.2)⟩
  · rw [e3, e4, s1.2.2.1, s1.2.2.2.1, s1.2.2.2.2]
    intro j hj
    exact k_frame_re hB hc (g4 j hj) (hfm j (by rw [g2, nI_clamp (by omega)]; exact hj))
  · rcases hat with ⟨b1, b2, j, b3, b4, b5, b6⟩ | ⟨b1, b2, b3⟩
    · refine Or.inl ⟨b1, (me_ba eW).trans b2, j, b3, b4, (me_no eW).trans b5, ?_⟩
      rw [e3, e4, me_en eW]
      exact k_en_re hB hc _ b6 (ho1 b1)
    · refine Or.inr ⟨b1, (me_ba eW).trans b2, ?_⟩
      rw [e3, e4, me_vs eW, me_vo eW, me_vt eW]
      exact k_val_re hB hc b3 (ho2 (by rw [b1]; decide))
/-- what is freed -/
def k_swp (Z H : ZHS) (k f : Nat) : Prop := (f + zc (k_mkf Z) k = k ∧ h_fr H = nI f) ∧ (hp_eq H Z ∧ h_mk H = h_mk Z ∧ h_rd H = h_rd Z) ∧ (∀ j, j < f → ∃ a, a < k ∧ h_fc H j = nI a ∧ ¬ k_m Z a) ∧ ∀ i j, i < f → j < f → h_fc H i = h_fc H j → i = j
theorem k_sw1 {Z H : ZHS} {k f : Nat} (hk : k < 256) (h : k_swp Z H k f) : ∃ g, k_swp Z (hp_sw1 H k) (k + 1) g := by
  obtain ⟨⟨h1, h2⟩, ⟨h3', h4, h5⟩, h6, h7⟩ := h
  unfold hp_sw1
  rw [h4, h5]
  by_cases hm : h_mk Z k = h_rd Z
  · rw [if_pos hm]
    refine ⟨f, ⟨?_, h2⟩, ⟨h3', h4, h5⟩, fun j hj => ?_, h7⟩
    · rw [zc]; unfold k_mkf; rw [if_pos hm, if_neg (by decide)]
      have : zc (k_mkf Z) k = zc (fun j => if h_mk Z j = h_rd Z then (1 : Int32) else 0) k := rfl
      omega
    · obtain ⟨a, a1, a2, a3⟩ := h6 j hj
      exact ⟨a, by omega, a2, a3⟩
  · rw [if_neg hm]
    have hcl : (h_fr H).toNatClampNeg = f := by rw [h2, nI_clamp (by omega)]
    rw [hcl]
    refine ⟨f + 1, ⟨?_, ?_⟩, ⟨⟨h3'.1, h3'.2.1, h3'.2.2⟩, rfl, rfl⟩, fun j hj => ?_, fun i j hi hj => ?_⟩
    · rw [zc]; unfold k_mkf; rw [if_neg hm, if_pos rfl]
      have : zc (k_mkf Z) k = zc (fun j => if h_mk Z j = h_rd Z then (1 : Int32) else 0) k := rfl
      omega
    · show h_fr H + 1 = nI (f + 1)
      rw [h2]; exact (nI_succ f).symm
    · show ∃ a, a < k + 1 ∧ upd (h_fc H) f (nI k) j = nI a ∧ ¬ k_m Z a
      by_cases hjf : j = f
      · subst hjf; rw [pk_us]; exact ⟨k, by omega, rfl, hm⟩
      · rw [pk_un hjf]
        obtain ⟨a, a1, a2, a3⟩ := h6 j (by omega)
        exact ⟨a, by omega, a2, a3⟩
    · show upd (h_fc H) f (nI k) i = upd (h_fc H) f (nI k) j → i = j
      have hlt : ∀ j, j < f → ¬ h_fc H j = nI k := by
        intro j hj q
        obtain ⟨a, a1, a2, a3⟩ := h6 j hj
        have := (nI_eq (by omega) (by omega)).mp (a2.symm.trans q)
        omega
      intro e
      by_cases hif : i = f <;> by_cases hjf : j = f
      · omega
      · subst hif; rw [pk_us, pk_un hjf] at e; exact absurd e.symm (hlt j (by omega))
      · subst hjf; rw [pk_us, pk_un hif] at e; exact absurd e (hlt i (by omega))
      · rw [pk_un hif, pk_un hjf] at e; exact h7 i j (by omega) (by omega) e
theorem k_swN {Z : ZHS} : ∀ (n k f : Nat) (H : ZHS), k + n = 256 → k_swp Z H k f → ∃ g, k_swp Z (hp_sweepN n k H) 256 g := by
  intro n
  induction n with
  | zero => intro k f H hk h; rw [hp_sweepN]; exact ⟨f, by rw [show k = 256 by omega] at h; exact h⟩
  | succ n ih =>
    intro k f H hk h
    obtain ⟨g, hg⟩ := k_sw1 (by omega) h
    rw [hp_sweepN]
    exact ih (k + 1) g (hp_sw1 H k) (by omega) hg
theorem k_sweep (Z : ZHS) : ∃ f, k_swp Z (hp_sweep Z) 256 f :=
  k_swN 256 0 0 (hp_setfr Z 0) rfl ⟨⟨by rw [zc], rfl⟩, ⟨⟨rfl, rfl, rfl⟩, rfl, rfl⟩, fun j hj => absurd hj (Nat.not_lt_zero _), fun i j hi => absurd hi (Nat.not_lt_zero _)⟩
/-- different cells that are not counted: there is room for them beside -/
theorem zc_room : ∀ (f : Nat) (e : Nat → Nat) (F : Nat → Int32), (∀ j, j < f → e j < 256 ∧ F (e j) = 0) → (∀ i j, i < f → j < f → e i = e j → i = j) → zc F 256 + f ≤ 256 := by
  intro f
  induction f with
  | zero => intro e F _ _; exact zc_le F 256
  | succ f ih =>
    intro e F h1 h2
    have h3' := ih e (upd F (e f) 1) (fun j hj => ⟨(h1 j (by omega)).1, by
      rw [pk_un (fun q => by have := h2 j f (by omega) (by omega) q; omega)]
      exact (h1 j (by omega)).2⟩) (fun i j hi hj => h2 i j (by omega) (by omega))
    rw [zc_upd (by decide) (h1 f (by omega)).2 256 (h1 f (by omega)).1] at h3'
    omega
theorem k_free_re {B : KB} {Z H H' : ZHS} (h : k_free B H) (e : h_fc H' = h_fc H ∧ h_fr H' = h_fr H) : k_free (k_re B Z) H' := by
  obtain ⟨f, f1, f2, f3, f4⟩ := h
  refine ⟨f, f1, e.2.trans f2, ?_, ?_⟩
  · rw [e.1]
    intro j hj
    obtain ⟨a, a1, a2, a3⟩ := f3 j hj
    exact ⟨a, a1, a2, fun b q => a3 b q.1⟩
  · rw [e.1]; exact f4
/-- room for c cells: the two say the same -/
theorem k_room {T : ZT} {B : KB} {n c : Nat} {M : ZMS} {S : ZNS} (h : k_c T B n M S) (hn : n + 1 < 2 ^ 31) (hs : r_ba S = 0 → ¬ r_ss S = 2) (hc : c ≤ 2) :
    ∃ B', k_c T B' (n + 1) (ma_room M (nI c)).2 (md_mark S) ∧ (∀ a b, B' a b → ¬ r_re (md_mark S) b = 0) ∧ md_eq (md_mark S) S ∧
      ((ma_room M (nI c)).1 = 0 ∧ md_full S (nI c) = (1, s_ss (md_mark S) 6) ∨
       (ma_room M (nI c)).1 = 1 ∧ md_full S (nI c) = (0, md_mark S) ∧ (∃ f, c ≤ f ∧ f ≤ 256 ∧ h_fr (m_H (ma_room M (nI c)).2) = nI f) ∧ zc (r_re (md_mark S)) 256 + c ≤ 256) := by
  obtain ⟨k, hk, eH, eW, hfx, hrd, hal⟩ := k_mark h hn hs
  have hkr : ∀ a b, k_re B (hp_spread (ma_roots M)) a b → ¬ r_re (md_mark S) b = 0 := fun a b q => (hk.2.2.2.1 a b q.1).mp q.2
  have hk1 := hk.1.1
  have hfull : md_full S (nI c) = if k + c ≤ 256 then (0, md_mark S) else (1, s_ss (md_mark S) 6) := by
    unfold md_full
    rw [hk.1.2.2, nI_add, show (256 : Int32) = nI 256 from rfl]
    by_cases h1 : k + c ≤ 256
    · rw [if_pos h1, if_pos ((nI_leI (b := 256) (by omega) (by decide)).mpr h1)]
    · rw [if_neg h1, if_neg (fun q => h1 ((nI_leI (b := 256) (by omega) (by decide)).mp q))]
  refine ⟨k_re B (hp_spread (ma_roots M)), ?_⟩
  obtain ⟨f, f1, f2, f3, f4⟩ := h.1.2.2.1.1
  unfold ma_room
  by_cases h1 : c ≤ f
  · have hM : ma_roomM M (nI c) = M := by unfold ma_roomM; rw [if_pos (by rw [f2]; exact nI_le h1 (by omega))]
    rw [hM]
    have hroom : k + f ≤ 256 := by
      rw [← hk.2.1.1]
      refine zc_room f (fun j => (h_fc (m_H M) j).toNatClampNeg) (k_mkf (hp_spread (ma_roots M))) ?_ ?_
      · intro j hj
        obtain ⟨a, a1, a2, a3⟩ := f3 j hj
        show (h_fc (m_H M) j).toNatClampNeg < 256 ∧ k_mkf (hp_spread (ma_roots M)) (h_fc (m_H M) j).toNatClampNeg = 0
        rw [a2, k_clamp a1]
        refine ⟨a1, ?_⟩
        unfold k_mkf
        rw [if_neg]
        intro q
        obtain ⟨i, i1, i2⟩ := hk.2.2.2.2 a a1 q
        obtain ⟨a', b', p1, p2, p3, p4⟩ := hk.2.2.1 i i1
        have ha' := (k_in_hr h.1.1.2).1 a' b' p3
        have he : a = a' := (nI_eq (by omega) (by omega)).mp (i2.symm.trans p1)
        subst he
        exact a3 b' p3
      · intro i j hi hj e
        obtain ⟨a, a1, a2, a3⟩ := f3 i hi
        obtain ⟨b, b1, b2, b3⟩ := f3 j hj
        have e : (h_fc (m_H M) i).toNatClampNeg = (h_fc (m_H M) j).toNatClampNeg := e
        rw [a2, b2, k_clamp a1, k_clamp b1] at e
        exact f4 i j hi hj (by rw [a2, b2, e])
    refine ⟨?_, hkr, eW, Or.inr ⟨?_, ?_, ⟨f, h1, f1, f2⟩, ?_⟩⟩
    · have := k_restrict (H := m_H M) (n' := n + 1) h hal (hp_eq_rf _) eW (k_free_re h.1.2.2.1.1 ⟨rfl, rfl⟩) (k_rd_le h.1.2.2.1.2 (by omega))
      exact this
    · rw [f2, if_neg (nI_nlt h1 (by omega))]
    · rw [hfull, if_pos (by omega)]
    · rw [hk.2.1.2]; omega
  · have hM : ma_roomM M (nI c) = ma_gc M := by unfold ma_roomM; rw [if_neg (by rw [f2]; exact nI_ge (by omega) (by omega))]
    rw [hM]
    obtain ⟨g, ⟨g1, g2⟩, ⟨g3, g4, g5⟩, g6, g7⟩ := k_sweep (hp_spread (ma_roots M))
    rw [hk.2.1.1] at g1
    have hfr : h_fr (m_H (ma_gc M)) = nI g := by rw [ma_gc_H]; exact g2
    refine ⟨?_, hkr, eW, ?_⟩
    · refine k_restrict (H := hp_sweep (hp_spread (ma_roots M))) h hal (hp_eq_tr g3 eH) eW ⟨g, by omega, g2, fun j hj => ?_, g7⟩ ?_
      · obtain ⟨a, a1, a2, a3⟩ := g6 j hj
        exact ⟨a, a1, a2, fun b q => a3 q.2⟩
      · unfold k_rd
        rw [g4, g5]
        exact hrd
    · rw [hfr, hfull, hk.2.1.2]
      by_cases h2 : k + c ≤ 256
      · exact Or.inr ⟨by rw [if_neg (nI_nlt (by omega) (by omega))], by rw [if_pos h2], ⟨g, by omega, by omega, rfl⟩, h2⟩
      · exact Or.inl ⟨by rw [if_pos (nI_lt (by omega) (by omega))], by rw [if_neg h2]⟩
