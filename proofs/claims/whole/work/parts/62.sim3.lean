/-! Marking in lock-step. -/
/-- a cell is marked -/
def k_m (Z : ZHS) (a : Nat) : Prop := h_mk Z a = h_rd Z
def k_mkf (Z : ZHS) : Nat → Int32 := fun j => if h_mk Z j = h_rd Z then 1 else 0
/-- the two rows, pair by pair -/
def k_mk (B : KB) (k : Nat) (Z : ZHS) (W : ZNS) : Prop := (k ≤ 256 ∧ h_rc Z = nI k ∧ r_le W = nI k) ∧ (zc (k_mkf Z) 256 = k ∧ zc (r_re W) 256 = k) ∧ (∀ i, i < k → ∃ a b, h_re Z i = nI a ∧ r_td W i = nI b ∧ B a b ∧ k_m Z a) ∧
  (∀ a b, B a b → (k_m Z a ↔ ¬ r_re W b = 0)) ∧ (∀ a, a < 256 → k_m Z a → ∃ i, i < k ∧ h_re Z i = nI a)
/-- marked, or none -/
def k_mx (Z : ZHS) (x : Int32) : Prop := x = -1 ∨ ∃ a, a < 256 ∧ x = nI a ∧ k_m Z a
/-- some more marked -/
def k_st (k : Nat) (Z Z' : ZHS) : Prop := h_rd Z' = h_rd Z ∧ (∀ a, k_m Z a → k_m Z' a) ∧ ∀ i, i < k → h_re Z' i = h_re Z i
theorem k_st_rf (k : Nat) (Z : ZHS) : k_st k Z Z := ⟨rfl, fun _ h => h, fun _ _ => rfl⟩
theorem k_st_tr {k k' : Nat} {Z Y X : ZHS} (h : k_st k Z Y) (g : k_st k' Y X) (hk : k ≤ k') : k_st k Z X :=
  ⟨g.1.trans h.1, fun a q => g.2.1 a (h.2.1 a q), fun i hi => (g.2.2 i (by omega)).trans (h.2.2 i hi)⟩
theorem k_mx_st {k : Nat} {Z Y : ZHS} {x : Int32} (h : k_st k Z Y) (g : k_mx Z x) : k_mx Y x := by
  rcases g with g | ⟨a, g0, g1, g2⟩
  · exact Or.inl g
  · exact Or.inr ⟨a, g0, g1, h.2.1 a g2⟩
/-- a pair, or none -/
def k_px (B : KB) (x y : Int32) : Prop := x = -1 ∧ y = -1 ∨ ∃ a b, x = nI a ∧ y = nI b ∧ B a b
theorem k_px_th {B : KB} {C : K3} {x y : Int32} (h : k_th B C x y) : k_px B x y := by
  obtain ⟨a, b, h1, h2, h3, _⟩ := h
  exact Or.inr ⟨a, b, h1, h2, h3⟩
theorem k_px_en {B : KB} {C D : K3} {k : Nat} {x y : Int32} (h : k_en B C D k x y) : k_px B x y := by
  rcases k_en_0 h with h | ⟨a, b, h1, h2, h3, _⟩
  · exact Or.inl h
  · exact Or.inr ⟨a, b, h1, h2, h3⟩
/-- pairs, one to one -/
def k_in (B : KB) : Prop := (∀ a b, B a b → a < 256 ∧ b < 256) ∧ (∀ a b c, B a b → B a c → b = c) ∧ ∀ a b c, B a c → B b c → a = b
theorem k_in_hr {T : ZT} {B : KB} {C D : K3} (h : k_hr T B C D) : k_in B := ⟨fun a b q => ⟨(h.1 a b q).1, (h.1 a b q).2.1⟩, h.2.1, h.2.2⟩
theorem k_reach {B : KB} {k : Nat} {Z : ZHS} {W : ZNS} {x y : Int32} (hB : k_in B) (h : k_mk B k Z W) (hx : k_px B x y) : ∃ k', k ≤ k' ∧ k_mk B k' (hp_reach Z x) (md_meet W y) ∧ k_st k Z (hp_reach Z x) ∧ k_mx (hp_reach Z x) x := by
  rcases hx with ⟨h1, h2⟩ | ⟨a, b, h1, h2, h3⟩
  · refine ⟨k, Nat.le_refl _, ?_⟩
    unfold hp_reach md_meet
    rw [if_pos h1, h2, if_pos (by decide)]
    exact ⟨h, k_st_rf _ _, Or.inl h1⟩
  · obtain ⟨ha, hb⟩ := hB.1 a b h3
    obtain ⟨⟨m1, m2, m3⟩, ⟨m4, m5⟩, m6, m7, m8⟩ := h
    have hxn : ¬ x = -1 := by rw [h1]; exact k_nI_ne (by omega)
    have hyn : ¬ y < 0 := by rw [h2]; exact nI_pos (by omega)
    have hxc : x.toNatClampNeg = a := by rw [h1, k_clamp ha]
    have hyc : y.toNatClampNeg = b := by rw [h2, k_clamp hb]
    unfold hp_reach md_meet
    rw [if_neg hxn, if_neg hyn, hxc, hyc]
    by_cases hm : h_mk Z a = h_rd Z
    · rw [if_pos hm, if_neg ((m7 a b h3).mp hm)]
      exact ⟨k, Nat.le_refl _, ⟨⟨m1, m2, m3⟩, ⟨m4, m5⟩, m6, m7, m8⟩, k_st_rf _ _, Or.inr ⟨a, ha, h1, hm⟩⟩
    · have hr0 : r_re W b = 0 := by
        by_cases q : r_re W b = 0
        · exact q
        · exact absurd ((m7 a b h3).mpr q) hm
      rw [if_neg hm, if_pos hr0]
      have hz1 : zc (upd (k_mkf Z) a 1) 256 = k + 1 := by rw [zc_upd (by decide) (by unfold k_mkf; rw [if_neg hm]) 256 ha, m4]
      have hz2 : zc (upd (r_re W) b 1) 256 = k + 1 := by rw [zc_upd (by decide) hr0 256 hb, m5]
      have hk : k < 256 := by have := zc_le (upd (k_mkf Z) a 1) 256; omega
      have hcl : (h_rc Z).toNatClampNeg = k := by rw [m2, nI_clamp (by omega)]
      have hcl2 : (r_le W).toNatClampNeg = k := by rw [m3, nI_clamp (by omega)]
      rw [hcl, hcl2]
      have hmk : ∀ i, upd (h_mk Z) a (h_rd Z) i = h_rd Z ↔ i = a ∨ k_m Z i := by
        intro i
        by_cases hi : i = a
        · subst hi; rw [pk_us]; exact ⟨fun _ => Or.inl rfl, fun _ => rfl⟩
        · rw [pk_un hi]; exact ⟨fun q => Or.inr q, fun q => q.resolve_left hi⟩
      refine ⟨k + 1, by omega, ⟨⟨by omega, ?_, ?_⟩, ⟨?_, hz2⟩, ?_, ?_, ?_⟩, ⟨rfl, fun i q => (hmk i).mpr (Or.inr q), fun i hi => pk_un (by omega)⟩, Or.inr ⟨a, ha, h1, (hmk a).mpr (Or.inl rfl)⟩⟩
      · show h_rc Z + 1 = nI (k + 1)
        rw [m2]; exact (nI_succ k).symm
      · show r_le W + 1 = nI (k + 1)
        rw [m3]; exact (nI_succ k).symm
      · rw [← hz1]
        refine zc_same 256 ?_
        intro j hj
        show (if upd (h_mk Z) a (h_rd Z) j = h_rd Z then (1 : Int32) else 0) = 0 ↔ _
        by_cases hja : j = a
        · subst hja; rw [pk_us, pk_us, if_pos rfl]
        · rw [pk_un hja, pk_un hja]; exact Iff.rfl
      · intro i hi
        by_cases hik : i = k
        · subst hik
          exact ⟨a, b, by show upd (h_re Z) i x i = nI a; rw [pk_us]; exact h1, by show upd (r_td W) i y i = nI b; rw [pk_us]; exact h2, h3, (hmk a).mpr (Or.inl rfl)⟩
        · obtain ⟨a', b', q1, q2, q3, q4⟩ := m6 i (by omega)
          exact ⟨a', b', by show upd (h_re Z) k x i = nI a'; rw [pk_un hik]; exact q1, by show upd (r_td W) k y i = nI b'; rw [pk_un hik]; exact q2, q3, (hmk a').mpr (Or.inr q4)⟩
      · intro i j hij
        show upd (h_mk Z) a (h_rd Z) i = h_rd Z ↔ ¬ upd (r_re W) b 1 j = 0
        by_cases hi : i = a
        · subst hi
          have hj := hB.2.1 _ _ _ hij h3
          subst hj
          rw [pk_us, pk_us]
          exact ⟨fun _ => by decide, fun _ => rfl⟩
        · have hj : j ≠ b := fun q => hi (hB.2.2 _ _ _ (by rw [q] at hij; exact hij) h3)
          rw [pk_un hi, pk_un hj]
          exact m7 i j hij
      · intro i hi hq
        show ∃ j, j < k + 1 ∧ upd (h_re Z) k x j = nI i
        rcases (hmk i).mp hq with rfl | hq
        · exact ⟨k, by omega, by rw [pk_us]; exact h1⟩
        · obtain ⟨j, q1, q2⟩ := m8 i hi hq
          exact ⟨j, by omega, by rw [pk_un (by omega)]; exact q2⟩
/-- what leads on from a cell is marked -/
def k_cl (Z : ZHS) (s x y : Int32) : Prop := (s = 5 ∨ s = 2 → k_mx Z x ∧ k_mx Z y) ∧ (s = 3 ∨ s = 1 → k_mx Z y)
theorem k_cl_st {k : Nat} {Z Y : ZHS} {s x y : Int32} (h : k_st k Z Y) (g : k_cl Z s x y) : k_cl Y s x y :=
  ⟨fun q => ⟨k_mx_st h (g.1 q).1, k_mx_st h (g.1 q).2⟩, fun q => k_mx_st h (g.2 q)⟩
def md_ct (W : ZNS) (s x y : Int32) : ZNS := if s = 5 then md_meet (md_meet W x) y else if s = 3 then md_meet W y else md_meetV W s x y
theorem md_td1_ct (W : ZNS) (c : Int32) : md_td1 W c = md_ct W (r_is W c.toNatClampNeg) (r_on W c.toNatClampNeg) (r_tw W c.toNatClampNeg) := by
  unfold md_td1 md_ct
  rw [me_tw (md_eq_meet W _)]
theorem k_reach2 {B : KB} {k : Nat} {Z : ZHS} {W : ZNS} {x y x' y' : Int32} (hB : k_in B) (h : k_mk B k Z W) (hx : k_px B x x') (hy : k_px B y y') : ∃ k', k ≤ k' ∧ k_mk B k' (hp_reach (hp_reach Z x) y) (md_meet (md_meet W x') y') ∧ k_st k Z (hp_reach (hp_reach Z x) y) ∧ k_mx (hp_reach (hp_reach Z x) y) x ∧ k_mx (hp_reach (hp_reach Z x) y) y := by
  obtain ⟨k1, e1, h1, s1, m1⟩ := k_reach hB h hx
  obtain ⟨k2, e2, h2, s2, m2⟩ := k_reach hB h1 hy
  exact ⟨k2, by omega, h2, k_st_tr s1 s2 e1, k_mx_st s2 m1, m2⟩
theorem hf_5 (Z : ZHS) (x y : Int32) : hp_from Z 5 x y = hp_reach (hp_reach Z x) y := by unfold hp_from; rw [if_pos rfl]
theorem hf_2 (Z : ZHS) (x y : Int32) : hp_from Z 2 x y = hp_reach (hp_reach Z x) y := by unfold hp_from; rw [if_neg (by decide), if_pos rfl]
theorem hf_3 (Z : ZHS) (x y : Int32) : hp_from Z 3 x y = hp_reach Z y := by unfold hp_from; rw [if_neg (by decide), if_neg (by decide), if_pos rfl]
theorem hf_1 (Z : ZHS) (x y : Int32) : hp_from Z 1 x y = hp_reach Z y := by unfold hp_from; rw [if_neg (by decide), if_neg (by decide), if_neg (by decide), if_pos rfl]
theorem hf_0 (Z : ZHS) (x y : Int32) : hp_from Z 0 x y = Z := by unfold hp_from; rw [if_neg (by decide), if_neg (by decide), if_neg (by decide), if_neg (by decide)]
theorem hf_4 (Z : ZHS) (x y : Int32) : hp_from Z 4 x y = Z := by unfold hp_from; rw [if_neg (by decide), if_neg (by decide), if_neg (by decide), if_neg (by decide)]
theorem mv_0 (W : ZNS) (x y : Int32) : md_meetV W 0 x y = W := by unfold md_meetV md_mv1; rw [if_neg (by decide), if_neg (by decide)]
theorem mv_4 (W : ZNS) (x y : Int32) : md_meetV W 4 x y = W := by unfold md_meetV md_mv1; rw [if_neg (by decide), if_neg (by decide)]
theorem mv_1 (W : ZNS) (x y : Int32) : md_meetV W 1 x y = md_meet W y := by unfold md_meetV md_mv1; rw [if_neg (by decide), if_pos rfl]
theorem mv_2 (W : ZNS) (x y : Int32) : md_meetV W 2 x y = md_meet (md_meet W x) y := by unfold md_meetV md_mv1; rw [if_pos rfl, if_neg (by decide)]
theorem mc_5 (W : ZNS) (x y : Int32) : md_ct W 5 x y = md_meet (md_meet W x) y := by unfold md_ct; rw [if_pos rfl]
theorem mc_3 (W : ZNS) (x y : Int32) : md_ct W 3 x y = md_meet W y := by unfold md_ct; rw [if_neg (by decide), if_pos rfl]
theorem mc_v (W : ZNS) {s : Int32} (x y : Int32) (h : ¬ s = 5) (g : ¬ s = 3) : md_ct W s x y = md_meetV W s x y := by unfold md_ct; rw [if_neg h, if_neg g]
theorem k_fromV {T : ZT} {B : KB} {C D : K3} {k : Nat} {Z : ZHS} {W : ZNS} {s x y s' x' y' : Int32} (hB : k_in B) (h : k_mk B k Z W) (hc : k_val T B C D s x y s' x' y') : ∃ k', k ≤ k' ∧ k_mk B k' (hp_from Z s x y) (md_meetV W s' x' y') ∧ k_st k Z (hp_from Z s x y) ∧ k_cl (hp_from Z s x y) s x y := by
  rcases hc with ⟨g1, g2, g3⟩ | ⟨g1, g2, j, g3, g4, g5, g6, g7⟩ | ⟨g1, g2, g3, g4⟩ <;> subst g1 <;> subst g2
  · rw [hf_0, mv_0]
    exact ⟨k, Nat.le_refl _, h, k_st_rf _ _, fun q => absurd q (by decide), fun q => absurd q (by decide)⟩
  · rw [hf_1, mv_1]
    obtain ⟨k', e, q1, q2, q3⟩ := k_reach hB h (k_px_en g7)
    exact ⟨k', e, q1, q2, fun q => absurd q (by decide), fun _ => q3⟩
  · rw [hf_2, mv_2]
    obtain ⟨k', e, q1, q2, q3, q4⟩ := k_reach2 hB h (k_px_th g3) (k_px_th g4)
    exact ⟨k', e, q1, q2, fun _ => ⟨q3, q4⟩, fun q => absurd q (by decide)⟩
theorem k_from {T : ZT} {B : KB} {C D : K3} {k : Nat} {Z : ZHS} {W : ZNS} {s x y s' x' y' : Int32} (hB : k_in B) (h : k_mk B k Z W) (hc : k_ct T B C D s x y s' x' y') : ∃ k', k ≤ k' ∧ k_mk B k' (hp_from Z s x y) (md_ct W s' x' y') ∧ k_st k Z (hp_from Z s x y) ∧ k_cl (hp_from Z s x y) s x y := by
  rcases hc with ⟨g1, g2, g3, g4⟩ | ⟨g1, g2, j, g3, g4, g5, g6⟩ | ⟨g1, g2⟩ | hc
  · subst g1; subst g2
    rw [hf_5, mc_5]
    obtain ⟨k', e, q1, q2, q3, q4⟩ := k_reach2 hB h (k_px_th g3) (k_px_en g4)
    exact ⟨k', e, q1, q2, fun _ => ⟨q3, q4⟩, fun q => absurd q (by decide)⟩
  · subst g1; subst g2
    rw [hf_3, mc_3]
    obtain ⟨k', e, q1, q2, q3⟩ := k_reach hB h (k_px_en g6)
    exact ⟨k', e, q1, q2, fun q => absurd q (by decide), fun _ => q3⟩
  · subst g1; subst g2
    rw [hf_4, mc_v _ _ _ (by decide) (by decide), mv_4]
    exact ⟨k, Nat.le_refl _, h, k_st_rf _ _, fun q => absurd q (by decide), fun q => absurd q (by decide)⟩
  · have h5 : ¬ s' = 5 ∧ ¬ s' = 3 := by
      rcases hc with ⟨_, g2, _⟩ | ⟨_, g2, _⟩ | ⟨_, g2, _⟩ <;> rw [g2] <;> decide
    rw [mc_v _ _ _ h5.1 h5.2]
    exact k_fromV hB h hc
/-- what a frame leads to is marked -/
def k_fm (Z : ZHS) (s x y : Int32) : Prop := (s = 0 ∨ s = 1 → k_mx Z x) ∧ (s = 2 ∨ s = 4 → k_mx Z y)
theorem k_fm_st {k : Nat} {Z Y : ZHS} {s x y : Int32} (h : k_st k Z Y) (g : k_fm Z s x y) : k_fm Y s x y :=
  ⟨fun q => k_mx_st h (g.1 q), fun q => k_mx_st h (g.2 q)⟩
theorem k_fr1 {T : ZT} {B : KB} {C D : K3} {k i : Nat} {Z : ZHS} {W : ZNS} {P : ZPS} (hB : k_in B) (h : k_mk B k Z W) (hc : k_frame T B C D (p_so P i) (p_fi P i) (p_se P i) (r_wh W i) (r_fi W i) (r_se W i)) : ∃ k', k ≤ k' ∧ k_mk B k' (pl_reach1 P Z i) (md_fr1 W i) ∧ k_st k Z (pl_reach1 P Z i) ∧ k_fm (pl_reach1 P Z i) (p_so P i) (p_fi P i) (p_se P i) := by
  unfold md_fr1 md_fb
  rw [me_wh (md_eq_fa W i), me_se (md_eq_fa W i)]
  unfold md_fa pl_reach1
  obtain ⟨e, hc⟩ := hc
  rw [e]
  generalize p_so P i = s at *
  generalize p_fi P i = x at *
  generalize p_se P i = y at *
  generalize r_fi W i = x' at *
  generalize r_se W i = y' at *
  rcases hc with ⟨rfl | rfl, g2⟩ | ⟨rfl | rfl, j, g2, g3, g4, g5, g6⟩ | ⟨rfl, g⟩ | ⟨rfl, g⟩
  · rw [if_pos rfl, if_neg (show ¬ (0 : Int32) = 2 by decide), if_neg (show ¬ (0 : Int32) = 4 by decide), if_pos rfl]
    obtain ⟨k', e, q1, q2, q3⟩ := k_reach hB h (k_px_th g2)
    exact ⟨k', e, q1, q2, fun _ => q3, fun q => absurd q (by decide)⟩
  · rw [if_neg (show ¬ (1 : Int32) = 0 by decide), if_pos rfl, if_neg (show ¬ (1 : Int32) = 2 by decide), if_neg (show ¬ (1 : Int32) = 4 by decide), if_neg (show ¬ (1 : Int32) = 0 by decide), if_pos rfl]
    obtain ⟨k', e, q1, q2, q3⟩ := k_reach hB h (k_px_th g2)
    exact ⟨k', e, q1, q2, fun _ => q3, fun q => absurd q (by decide)⟩
  · simp (decide := true) only [reduceIte]
    obtain ⟨k', e, q1, q2, q3⟩ := k_reach hB h (k_px_en g5)
    exact ⟨k', e, q1, q2, fun q => absurd q (by decide), fun _ => q3⟩
  · simp (decide := true) only [reduceIte]
    obtain ⟨k', e, q1, q2, q3⟩ := k_reach hB h (k_px_en g5)
    exact ⟨k', e, q1, q2, fun q => absurd q (by decide), fun _ => q3⟩
  · simp (decide := true) only [reduceIte]
    exact ⟨k, Nat.le_refl _, h, k_st_rf _ _, fun q => absurd q (by decide), fun q => absurd q (by decide)⟩
  · simp (decide := true) only [reduceIte]
    exact ⟨k, Nat.le_refl _, h, k_st_rf _ _, fun q => absurd q (by decide), fun q => absurd q (by decide)⟩
theorem k_frN {T : ZT} {B : KB} {C D : K3} {z : Nat} {P : ZPS} (hB : k_in B) : ∀ (n i k : Nat) (Z : ZHS) (W : ZNS), i + n = z → k_mk B k Z W → (∀ j, j < z → k_frame T B C D (p_so P j) (p_fi P j) (p_se P j) (r_wh W j) (r_fi W j) (r_se W j)) → (∀ j, j < i → k_fm Z (p_so P j) (p_fi P j) (p_se P j)) →
    ∃ k', k ≤ k' ∧ k_mk B k' (pl_reachN P n i Z) (md_frN n i W) ∧ k_st k Z (pl_reachN P n i Z) ∧ ∀ j, j < z → k_fm (pl_reachN P n i Z) (p_so P j) (p_fi P j) (p_se P j) := by
  intro n
  induction n with
  | zero => intro i k Z W hi h _ hm; exact ⟨k, Nat.le_refl _, h, k_st_rf _ _, fun j hj => hm j (by omega)⟩
  | succ n ih =>
    intro i k Z W hi h hf hm
    obtain ⟨k1, e1, h1, s1, m1⟩ := k_fr1 hB h (hf i (by omega))
    have he := md_wh_eq (md_eq_fr1 W i)
    obtain ⟨k2, e2, h2, s2, m2⟩ := ih (i + 1) k1 (pl_reach1 P Z i) (md_fr1 W i) (by omega) h1 (by rw [he.1, he.2.1, he.2.2.1]; exact hf) (fun j hj => by
      by_cases hji : j = i
      · subst hji; exact m1
      · exact k_fm_st s1 (hm j (by omega)))
    exact ⟨k2, by omega, h2, k_st_tr s1 s2 e1, m2⟩
/-- what leads on from the i-th cell of the row is marked -/
def k_rc (C : K3) (Z : ZHS) (i : Nat) : Prop := k_cl Z (C.1 (h_re Z i).toNatClampNeg) (C.2.1 (h_re Z i).toNatClampNeg) (C.2.2 (h_re Z i).toNatClampNeg)
theorem k_rc_st {C : K3} {k : Nat} {Z Y : ZHS} {i : Nat} (h : k_st k Z Y) (hi : i < k) (g : k_rc C Z i) : k_rc C Y i := by
  unfold k_rc
  rw [h.2.2 i hi]
  exact k_cl_st h g
theorem k_tdN {T : ZT} {B : KB} {C D : K3} (hr : k_hr T B C D) : ∀ (n i k : Nat) (Z : ZHS) (W : ZNS), i + n = 256 → k_mk B k Z W → (h_st Z, h_fi Z, h_se Z) = C → r3 W = D → (∀ j, j < i → j < k → k_rc C Z j) →
    ∃ k', k ≤ k' ∧ k_mk B k' (hp_spreadN n i Z) (md_tdN n i W) ∧ k_st k Z (hp_spreadN n i Z) ∧ ∀ j, j < k' → k_rc C (hp_spreadN n i Z) j := by
  intro n
  induction n with
  | zero => intro i k Z W hi h _ _ hm; rw [hp_spreadN, md_tdN]; exact ⟨k, Nat.le_refl _, h, k_st_rf _ _, fun j hj => hm j (by have := h.1.1; omega) hj⟩
  | succ n ih =>
    intro i k Z W hi h hC hD hm
    rw [hp_spreadN, md_tdN, h.1.2.1, h.1.2.2]
    by_cases hk : k ≤ i
    · rw [if_pos (nI_le hk (by omega)), if_pos (nI_le hk (by omega))]
      exact ⟨k, Nat.le_refl _, h, k_st_rf _ _, fun j hj => hm j (by omega) hj⟩
    · have hk2 : ¬ nI k ≤ nI i := nI_ge (by omega) (by have := h.1.1; omega)
      rw [if_neg hk2, if_neg hk2, md_td1_ct]
      obtain ⟨a, b, a1, a2, a3, a4⟩ := h.2.2.1 i (by omega)
      obtain ⟨ha, hb, hc⟩ := hr.1 a b a3
      have hca : (h_re Z i).toNatClampNeg = a := by rw [a1, k_clamp ha]
      rw [a2, k_clamp hb, hca]
      subst hC; subst hD
      obtain ⟨k1, e1, h1, s1, m1⟩ := k_from (k_in_hr hr) h hc
      obtain ⟨f1, f2, f3⟩ := hp_eq_from Z (h_st Z a) (h_fi Z a) (h_se Z a)
      have he : md_eq (md_ct W (r_is W b) (r_on W b) (r_tw W b)) W := by
        have := md_eq_td1 W (nI b)
        rw [md_td1_ct, k_clamp hb] at this
        exact this
      obtain ⟨k2, e2, h2, s2, m2⟩ := ih (i + 1) k1 _ _ (by omega) h1 (by rw [f1, f2, f3]) (by unfold r3; rw [me_is he, me_on he, me_tw he]) (fun j hj hj1 => by
        by_cases hji : j = i
        · subst hji
          unfold k_rc
          rw [s1.2.2 j (by omega), hca]
          exact m1
        · exact k_rc_st s1 (by omega) (hm j (by omega) (by omega)))
      exact ⟨k2, by omega, h2, k_st_tr s1 s2 e1, m2⟩
