/-! The two machines side by side: pairs of cells. -/
abbrev K3 : Type := (Nat → Int32) × (Nat → Int32) × (Nat → Int32)
abbrev KB : Type := Nat → Nat → Prop
/-- a loaded term: sorts, numbers, parts, binders around, how many nodes -/
abbrev ZT : Type := (Nat → Int32) × (Nat → Int32) × (Nat → Int32) × (Nat → Nat) × Nat
abbrev a_so (T : ZT) : Nat → Int32 := T.1
abbrev a_xs (T : ZT) : Nat → Int32 := T.2.1
abbrev a_pa (T : ZT) : Nat → Int32 := T.2.2.1
abbrev a_bi (T : ZT) : Nat → Nat := T.2.2.2.1
abbrev a_sz (T : ZT) : Nat := T.2.2.2.2
def a_many (s : Int32) : Nat := (md_many s).toNatClampNeg
def a_binds (s : Int32) (w : Nat) : Nat := (tm_binds s (nI w)).toNatClampNeg
def a_ok (T : ZT) : Prop := (0 < a_sz T ∧ a_sz T ≤ 200 ∧ a_bi T 0 = 0) ∧ ∀ j, j < a_sz T → vp_in (a_so T j) 14 ∧ a_bi T j ≤ 200 ∧ (a_so T j = 0 → ∃ n, n < a_bi T j ∧ a_xs T j = nI n) ∧
  ∀ w, w < a_many (a_so T j) → ∃ i, i < a_sz T ∧ a_pa T (3 * j + w) = nI i ∧ a_bi T i = a_bi T j + a_binds (a_so T j) w
/-- the term as the two hold it -/
def k_tm (T : ZT) (Y : ZTS) (S : ZNS) : Prop := (t_sz Y = nI (a_sz T) ∧ r_si S = nI (a_sz T)) ∧ ∀ j, j < a_sz T → (t_so Y j = a_so T j ∧ t_xs Y j = a_xs T j) ∧ (r_sr S j = a_so T j ∧ r_nu S j = a_xs T j) ∧
  ∀ w, w < a_many (a_so T j) → t_pa Y (3 * j + w) = a_pa T (3 * j + w) ∧ r_ch S (3 * j + w) = a_pa T (3 * j + w)
/-- two thunks -/
def k_th (B : KB) (C : K3) (x y : Int32) : Prop := ∃ a b, x = nI a ∧ y = nI b ∧ B a b ∧ ¬ C.1 a = 5
/-- two environments, at least so long -/
def k_en (B : KB) (C D : K3) : Nat → Int32 → Int32 → Prop
  | 0, x, y => x = -1 ∧ y = -1 ∨ ∃ a b, x = nI a ∧ y = nI b ∧ B a b ∧ C.1 a = 5
  | k + 1, x, y => ∃ a b, x = nI a ∧ y = nI b ∧ B a b ∧ C.1 a = 5 ∧ k_en B C D k (C.2.2 a) (D.2.2 b)
/-- two values -/
def k_val (T : ZT) (B : KB) (C D : K3) (s x y s' x' y' : Int32) : Prop :=
  s = 0 ∧ s' = 0 ∧ x = x' ∧ hp_c y ∧ md_c y' ∨ s = 1 ∧ s' = 1 ∧ (∃ j, j < a_sz T ∧ x = nI j ∧ x' = nI j ∧ a_so T j = 1 ∧ k_en B C D (a_bi T j) y y') ∨ s = 2 ∧ s' = 2 ∧ k_th B C x x' ∧ k_th B C y y'
/-- what two cells hold -/
def k_ct (T : ZT) (B : KB) (C D : K3) (s x y s' x' y' : Int32) : Prop :=
  s = 5 ∧ s' = 5 ∧ k_th B C x x' ∧ k_en B C D 0 y y' ∨ s = 3 ∧ s' = 3 ∧ (∃ j, j < a_sz T ∧ x = nI j ∧ x' = nI j ∧ k_en B C D (a_bi T j) y y') ∨ s = 4 ∧ s' = 4 ∨ k_val T B C D s x y s' x' y'
def k_hr (T : ZT) (B : KB) (C D : K3) : Prop := (∀ a b, B a b → a < 256 ∧ b < 256 ∧ k_ct T B C D (C.1 a) (C.2.1 a) (C.2.2 a) (D.1 b) (D.2.1 b) (D.2.2 b)) ∧ (∀ a b c, B a b → B a c → b = c) ∧ ∀ a b c, B a c → B b c → a = b
/-- a later state of the same pairs -/
def k_ex (B : KB) (C D : K3) (B' : KB) (C' D' : K3) : Prop := ∀ a b, B a b → B' a b ∧ (C.1 a = 5 → C'.1 a = 5 ∧ C'.2.2 a = C.2.2 a ∧ D'.2.2 b = D.2.2 b) ∧ (¬ C.1 a = 5 → ¬ C'.1 a = 5)
theorem k_ex_rf (B : KB) (C D : K3) : k_ex B C D B C D := fun _ _ h => ⟨h, fun q => ⟨q, rfl, rfl⟩, fun q => q⟩
theorem k_ex_tr {B B1 B2 : KB} {C C1 C2 D D1 D2 : K3} (h : k_ex B C D B1 C1 D1) (g : k_ex B1 C1 D1 B2 C2 D2) : k_ex B C D B2 C2 D2 := by
  intro a b hab
  obtain ⟨h1, h2, h3⟩ := h a b hab
  obtain ⟨g1, g2, g3⟩ := g a b h1
  refine ⟨g1, fun q => ?_, fun q => g3 (h3 q)⟩
  obtain ⟨p1, p2, p3⟩ := h2 q
  obtain ⟨q1, q2, q3⟩ := g2 p1
  exact ⟨q1, q2.trans p2, q3.trans p3⟩
theorem k_th_ex {B B' : KB} {C D C' D' : K3} {x y : Int32} (h : k_ex B C D B' C' D') (g : k_th B C x y) : k_th B' C' x y := by
  obtain ⟨a, b, h1, h2, h3, h4⟩ := g
  exact ⟨a, b, h1, h2, (h a b h3).1, (h a b h3).2.2 h4⟩
theorem k_en_ex {B B' : KB} {C D C' D' : K3} (h : k_ex B C D B' C' D') : ∀ (k : Nat) {x y : Int32}, k_en B C D k x y → k_en B' C' D' k x y := by
  intro k
  induction k with
  | zero =>
    intro x y g
    rcases g with g | ⟨a, b, h1, h2, h3, h4⟩
    · exact Or.inl g
    · exact Or.inr ⟨a, b, h1, h2, (h a b h3).1, ((h a b h3).2.1 h4).1⟩
  | succ k ih =>
    intro x y g
    obtain ⟨a, b, h1, h2, h3, h4, h5⟩ := g
    obtain ⟨q1, q2, q3⟩ := (h a b h3).2.1 h4
    exact ⟨a, b, h1, h2, (h a b h3).1, q1, by rw [q2, q3]; exact ih h5⟩
theorem k_val_ex {T : ZT} {B B' : KB} {C D C' D' : K3} {s x y s' x' y' : Int32} (h : k_ex B C D B' C' D') (g : k_val T B C D s x y s' x' y') : k_val T B' C' D' s x y s' x' y' := by
  rcases g with g | ⟨g1, g2, j, g3, g4, g5, g6, g7⟩ | ⟨g1, g2, g3, g4⟩
  · exact Or.inl g
  · exact Or.inr (Or.inl ⟨g1, g2, j, g3, g4, g5, g6, k_en_ex h _ g7⟩)
  · exact Or.inr (Or.inr ⟨g1, g2, k_th_ex h g3, k_th_ex h g4⟩)
theorem k_ct_ex {T : ZT} {B B' : KB} {C D C' D' : K3} {s x y s' x' y' : Int32} (h : k_ex B C D B' C' D') (g : k_ct T B C D s x y s' x' y') : k_ct T B' C' D' s x y s' x' y' := by
  rcases g with ⟨g1, g2, g3, g4⟩ | ⟨g1, g2, j, g3, g4, g5, g6⟩ | g | g
  · exact Or.inl ⟨g1, g2, k_th_ex h g3, k_en_ex h _ g4⟩
  · exact Or.inr (Or.inl ⟨g1, g2, j, g3, g4, g5, k_en_ex h _ g6⟩)
  · exact Or.inr (Or.inr (Or.inl g))
  · exact Or.inr (Or.inr (Or.inr (k_val_ex h g)))
/-- what two cells hold: the states are the same -/
theorem k_ct_st {T : ZT} {B : KB} {C D : K3} {s x y s' x' y' : Int32} (g : k_ct T B C D s x y s' x' y') : s' = s := by
  rcases g with ⟨g1, g2, _⟩ | ⟨g1, g2, _⟩ | ⟨g1, g2⟩ | ⟨g1, g2, _⟩ | ⟨g1, g2, _⟩ | ⟨g1, g2, _⟩ <;> rw [g1, g2]
theorem k_hr_st {T : ZT} {B : KB} {C D : K3} (h : k_hr T B C D) {a b : Nat} (hab : B a b) : D.1 b = C.1 a := k_ct_st (h.1 a b hab).2.2
/-- one pair more -/
def k_ad (B : KB) (a b : Nat) : KB := fun i j => B i j ∨ i = a ∧ j = b
def u3 (C : K3) (a : Nat) (s x y : Int32) : K3 := (upd C.1 a s, upd C.2.1 a x, upd C.2.2 a y)
/-- a pair of cells may be written: both are new, or thunks that stay thunks -/
def k_may (B : KB) (C : K3) (a b : Nat) (s : Int32) : Prop := (∀ j, ¬ B a j) ∧ (∀ i, ¬ B i b) ∨ B a b ∧ ¬ C.1 a = 5 ∧ ¬ s = 5
theorem k_may_1 {T : ZT} {B : KB} {C D : K3} {a b : Nat} {s : Int32} (h : k_hr T B C D) (hm : k_may B C a b s) {i j : Nat} (hij : B i j) : (i = a ↔ j = b) := by
  rcases hm with ⟨h1, h2⟩ | ⟨h1, _⟩
  · exact ⟨fun q => absurd (q ▸ hij) (h1 j), fun q => absurd (q ▸ hij) (h2 i)⟩
  · exact ⟨fun q => by subst q; exact h.2.1 _ _ _ hij h1, fun q => by subst q; exact h.2.2 _ _ _ hij h1⟩
theorem k_wr_ex {T : ZT} {B : KB} {C D : K3} {a b : Nat} {s x y s' x' y' : Int32} (h : k_hr T B C D) (hm : k_may B C a b s) : k_ex B C D (k_ad B a b) (u3 C a s x y) (u3 D b s' x' y') := by
  intro i j hij
  have h1 := k_may_1 h hm hij
  refine ⟨Or.inl hij, ?_⟩
  by_cases hi : i = a
  · have hj := h1.mp hi
    subst hi; subst hj
    rcases hm with ⟨h2, _⟩ | ⟨_, h2, h3⟩
    · exact absurd hij (h2 j)
    · exact ⟨fun q => absurd q h2, fun _ => by show ¬ upd C.1 i s i = 5; rw [pk_us]; exact h3⟩
  · have hj : ¬ j = b := fun q => hi (h1.mpr q)
    show (C.1 i = 5 → upd C.1 a s i = 5 ∧ upd C.2.2 a y i = C.2.2 i ∧ upd D.2.2 b y' j = D.2.2 j) ∧ (¬ C.1 i = 5 → ¬ upd C.1 a s i = 5)
    rw [pk_un hi, pk_un hi, pk_un hj]
    exact ⟨fun q => ⟨q, rfl, rfl⟩, fun q => q⟩
/-- the heaps with the pair written -/
theorem k_wr {T : ZT} {B : KB} {C D : K3} {a b : Nat} {s x y s' x' y' : Int32} (h : k_hr T B C D) (ha : a < 256) (hb : b < 256) (hm : k_may B C a b s) (hc : k_ct T B C D s x y s' x' y') : k_hr T (k_ad B a b) (u3 C a s x y) (u3 D b s' x' y') := by
  have hx := k_wr_ex (x := x) (y := y) (s' := s') (x' := x') (y' := y') h hm
  refine ⟨?_, ?_, ?_⟩
  · intro i j hij
    show i < 256 ∧ j < 256 ∧ k_ct T _ _ _ (upd C.1 a s i) (upd C.2.1 a x i) (upd C.2.2 a y i) (upd D.1 b s' j) (upd D.2.1 b x' j) (upd D.2.2 b y' j)
    have he : i = a ∧ j = b ∨ ¬ i = a ∧ ¬ j = b ∧ B i j := by
      rcases hij with hij | hij
      · have h1 := k_may_1 h hm hij
        by_cases hi : i = a
        · exact Or.inl ⟨hi, h1.mp hi⟩
        · exact Or.inr ⟨hi, fun q => hi (h1.mpr q), hij⟩
      · exact Or.inl hij
    rcases he with ⟨rfl, rfl⟩ | ⟨hi, hj, hij⟩
    · rw [pk_us, pk_us, pk_us, pk_us, pk_us, pk_us]
      exact ⟨ha, hb, k_ct_ex hx hc⟩
    · rw [pk_un hi, pk_un hi, pk_un hi, pk_un hj, pk_un hj, pk_un hj]
      obtain ⟨h1, h2, h3⟩ := h.1 i j hij
      exact ⟨h1, h2, k_ct_ex hx h3⟩
  · intro i j c h1 h2
    rcases h1 with h1 | ⟨rfl, rfl⟩ <;> rcases h2 with h2 | ⟨h2, rfl⟩
    · exact h.2.1 _ _ _ h1 h2
    · exact (k_may_1 h hm h1).mp h2
    · exact ((k_may_1 h hm h2).mp rfl).symm
    · rfl
  · intro i j c h1 h2
    rcases h1 with h1 | ⟨rfl, rfl⟩ <;> rcases h2 with h2 | ⟨rfl, h2⟩
    · exact h.2.2 _ _ _ h1 h2
    · exact (k_may_1 h hm h1).mpr h2
    · exact ((k_may_1 h hm h2).mpr rfl).symm
    · rfl
/-- two frames -/
def k_frame (T : ZT) (B : KB) (C D : K3) (s x y s' x' y' : Int32) : Prop := s' = s ∧ ((s = 0 ∨ s = 1) ∧ k_th B C x x' ∨
  (s = 2 ∨ s = 4) ∧ (∃ j, j < a_sz T ∧ x = nI j ∧ x' = nI j ∧ k_en B C D (a_bi T j) y y' ∧ (s = 2 → a_so T j = 4 ∨ a_so T j = 5 ∨ a_so T j = 6 ∨ a_so T j = 7) ∧ (s = 4 → a_so T j = 8)) ∨
  s = 3 ∧ (∃ j, j < a_sz T ∧ x = nI j ∧ x' = a_so T j ∧ y = y') ∨ s = 5 ∧ (∃ j, j < a_sz T ∧ x' = nI j ∧ (x = 0 ∧ a_so T j = 12 ∨ x = 1 ∧ a_so T j = 13)))
def k_pl (T : ZT) (B : KB) (C D : K3) (P : ZPS) (S : ZNS) : Prop := p_mo P = r_mo S ∧ ∃ z : Nat, z ≤ 200 ∧ p_sz P = nI z ∧ r_fr S = nI z ∧ ∀ j, j < z → k_frame T B C D (p_so P j) (p_fi P j) (p_se P j) (r_wh S j) (r_fi S j) (r_se S j)
theorem k_frame_ex {T : ZT} {B B' : KB} {C D C' D' : K3} {s x y s' x' y' : Int32} (h : k_ex B C D B' C' D') (g : k_frame T B C D s x y s' x' y') : k_frame T B' C' D' s x y s' x' y' := by
  obtain ⟨g0, g⟩ := g
  refine ⟨g0, ?_⟩
  rcases g with ⟨g1, g2⟩ | ⟨g1, j, g2, g3, g4, g5, g6⟩ | g | g
  · exact Or.inl ⟨g1, k_th_ex h g2⟩
  · exact Or.inr (Or.inl ⟨g1, j, g2, g3, g4, k_en_ex h _ g5, g6⟩)
  · exact Or.inr (Or.inr (Or.inl g))
  · exact Or.inr (Or.inr (Or.inr g))
theorem k_pl_ex {T : ZT} {B B' : KB} {C D C' D' : K3} {P : ZPS} {S S' : ZNS} (h : k_ex B C D B' C' D') (g : k_pl T B C D P S) (e : r_mo S' = r_mo S ∧ r_fr S' = r_fr S ∧ r_wh S' = r_wh S ∧ r_fi S' = r_fi S ∧ r_se S' = r_se S) : k_pl T B' C' D' P S' := by
  obtain ⟨g0, z, g1, g2, g3, g4⟩ := g
  obtain ⟨e1, e2, e3, e4, e5⟩ := e
  exact ⟨g0.trans e1.symm, z, g1, g2, e2.trans g3, fun j hj => by rw [e3, e4, e5]; exact k_frame_ex h (g4 j hj)⟩
/-- the free cells: different ones, none of them in a pair -/
def k_free (B : KB) (H : ZHS) : Prop := ∃ f : Nat, f ≤ 256 ∧ h_fr H = nI f ∧ (∀ j, j < f → ∃ a, a < 256 ∧ h_fc H j = nI a ∧ ∀ b, ¬ B a b) ∧ ∀ i j, i < f → j < f → h_fc H i = h_fc H j → i = j
/-- no mark is ahead of the round -/
def k_rd (n : Nat) (H : ZHS) : Prop := ∃ r : Nat, r ≤ n ∧ h_rd H = nI r ∧ ∀ j, j < 256 → ∃ m : Nat, m ≤ r ∧ h_mk H j = nI m
def h3 (M : ZMS) : K3 := (h_st (m_H M), h_fi (m_H M), h_se (m_H M))
def r3 (S : ZNS) : K3 := (r_is S, r_on S, r_tw S)
/-- the nodes that wait, and what no index of either term leaves -/
def k_wt (M : ZMS) (S : ZNS) : Prop := ((∃ z : Nat, z ≤ 200 ∧ t_sz (m_X M) = nI z ∧ r_to S = nI z ∧ ∀ j, j < z → t_so (m_X M) j = r_so S j ∧ t_xs (m_X M) j = r_xs S j) ∧ (∃ z : Nat, z ≤ 200 ∧ t_sz (m_Y M) = nI z)) ∧ (tm_so (m_X M) ∧ tm_so (m_Y M)) ∧ (tm_lo (m_X M) ∧ tm_lo (m_Y M)) ∧ ∀ j, j < 600 → vp_in (r_ch S j) 200
/-- all but where the two are -/
def k_q (T : ZT) (B : KB) (n : Nat) (M : ZMS) (S : ZNS) : Prop := (a_ok T ∧ k_hr T B (h3 M) (r3 S)) ∧ (hp_ok (m_H M) ∧ md_ok S) ∧ (k_free B (m_H M) ∧ k_rd n (m_H M)) ∧ k_pl T B (h3 M) (r3 S) (m_P M) S ∧ k_tm T (m_Y M) S ∧ k_wt M S ∧ l_sp M = r_sp S ∧ l_fo M = r_fo S
/-- both at a node -/
def k_at (T : ZT) (B : KB) (M : ZMS) (S : ZNS) : Prop := l_ba M = 0 ∧ r_ba S = 0 ∧ ∃ j, j < a_sz T ∧ l_no M = nI j ∧ r_no S = nI j ∧ k_en B (h3 M) (r3 S) (a_bi T j) (l_en M) (r_en S)
/-- both on the way back with a value -/
def k_bk (T : ZT) (B : KB) (M : ZMS) (S : ZNS) : Prop := l_ba M = 1 ∧ r_ba S = 1 ∧ k_val T B (h3 M) (r3 S) (l_vs M) (l_vf M) (l_vg M) (r_vs S) (r_vo S) (r_vt S)
def k_c (T : ZT) (B : KB) (n : Nat) (M : ZMS) (S : ZNS) : Prop := k_q T B n M S ∧ (k_at T B M S ∨ k_bk T B M S)
theorem k_at_ex {T : ZT} {B B' : KB} {M M' : ZMS} {S S' : ZNS} (h : k_ex B (h3 M) (r3 S) B' (h3 M') (r3 S')) (g : k_at T B M S) (e : M'.1 = M.1) (e' : r_ba S' = r_ba S ∧ r_no S' = r_no S ∧ r_en S' = r_en S) : k_at T B' M' S' := by
  obtain ⟨g1, g2, j, g3, g4, g5, g6⟩ := g
  obtain ⟨e1, e2, e3⟩ := e'
  exact ⟨by show M'.1.2.2.2.1 = 0; rw [e]; exact g1, e1.trans g2, j, g3, by show M'.1.2.2.2.2.1 = nI j; rw [e]; exact g4, e2.trans g5, by show k_en B' _ _ _ M'.1.2.2.2.2.2.1 _; rw [e, e3]; exact k_en_ex h _ g6⟩
theorem k_bk_ex {T : ZT} {B B' : KB} {M M' : ZMS} {S S' : ZNS} (h : k_ex B (h3 M) (r3 S) B' (h3 M') (r3 S')) (g : k_bk T B M S) (e : M'.1 = M.1) (e' : r_ba S' = r_ba S ∧ r_vs S' = r_vs S ∧ r_vo S' = r_vo S ∧ r_vt S' = r_vt S) : k_bk T B' M' S' := by
  obtain ⟨g1, g2, g3⟩ := g
  obtain ⟨e1, e2, e3, e4⟩ := e'
  exact ⟨by show M'.1.2.2.2.1 = 1; rw [e]; exact g1, e1.trans g2, by show k_val T B' _ _ M'.1.2.2.2.2.2.2.1 M'.1.2.2.2.2.2.2.2.1 M'.1.2.2.2.2.2.2.2.2 _ _ _; rw [e, e2, e3, e4]; exact k_val_ex h g3⟩
theorem k_nI_ne {a : Nat} (h : a < 2 ^ 31) : ¬ nI a = -1 := fun q => nI_pos h (by rw [q]; decide)
theorem k_clamp {a : Nat} (h : a < 256) : (nI a).toNatClampNeg = a := nI_clamp (by omega)
theorem k_th_c {T : ZT} {B : KB} {C D : K3} {x y : Int32} (h : k_hr T B C D) (g : k_th B C x y) : ∃ a b, a < 256 ∧ b < 256 ∧ x = nI a ∧ y = nI b ∧ B a b ∧ ¬ C.1 a = 5 := by
  obtain ⟨a, b, g1, g2, g3, g4⟩ := g
  exact ⟨a, b, (h.1 a b g3).1, (h.1 a b g3).2.1, g1, g2, g3, g4⟩
theorem k_en_0 {B : KB} {C D : K3} : ∀ {k : Nat} {x y : Int32}, k_en B C D k x y → k_en B C D 0 x y := by
  intro k x y g
  cases k with
  | zero => exact g
  | succ k =>
    obtain ⟨a, b, g1, g2, g3, g4, _⟩ := g
    exact Or.inr ⟨a, b, g1, g2, g3, g4⟩
theorem k_en_le {B : KB} {C D : K3} : ∀ {k m : Nat} {x y : Int32}, m ≤ k → k_en B C D k x y → k_en B C D m x y := by
  intro k
  induction k with
  | zero => intro m x y hm g; rw [show m = 0 by omega]; exact g
  | succ k ih =>
    intro m x y hm g
    cases m with
    | zero => exact k_en_0 g
    | succ m =>
      obtain ⟨a, b, g1, g2, g3, g4, g5⟩ := g
      exact ⟨a, b, g1, g2, g3, g4, ih (by omega) g5⟩
theorem k_en_c {T : ZT} {B : KB} {C D : K3} {k : Nat} {x y : Int32} (h : k_hr T B C D) (g : k_en B C D k x y) : hp_c x ∧ md_c y := by
  rcases k_en_0 g with ⟨g1, g2⟩ | ⟨a, b, g1, g2, g3, g4⟩
  · exact ⟨Or.inl g1, Or.inl (by rw [g2]; decide)⟩
  · rw [g1, g2]
    exact ⟨Or.inr (vp_in_nI (h.1 a b g3).1 (by decide)), Or.inr (vp_in_nI (h.1 a b g3).2.1 (by decide))⟩
theorem k_th_cc {T : ZT} {B : KB} {C D : K3} {x y : Int32} (h : k_hr T B C D) (g : k_th B C x y) : hp_c x ∧ md_c y := by
  obtain ⟨a, b, h1, h2, g1, g2, _⟩ := k_th_c h g
  rw [g1, g2]
  exact ⟨Or.inr (vp_in_nI h1 (by decide)), Or.inr (vp_in_nI h2 (by decide))⟩
/-- the cell of a longer environment -/
theorem k_en_s {T : ZT} {B : KB} {C D : K3} {k : Nat} {x y : Int32} (h : k_hr T B C D) (g : k_en B C D (k + 1) x y) : ∃ a b, a < 256 ∧ b < 256 ∧ x = nI a ∧ y = nI b ∧ k_th B C (C.2.1 a) (D.2.1 b) ∧ k_en B C D k (C.2.2 a) (D.2.2 b) := by
  obtain ⟨a, b, g1, g2, g3, g4, g5⟩ := g
  obtain ⟨h1, h2, h3⟩ := h.1 a b g3
  refine ⟨a, b, h1, h2, g1, g2, ?_, g5⟩
  rw [g4] at h3
  rcases h3 with ⟨_, _, q, _⟩ | ⟨q, _⟩ | ⟨q, _⟩ | ⟨q, _⟩ | ⟨q, _⟩ | ⟨q, _⟩
  · exact q
  all_goals exact absurd q (by decide)
/-- what is bound -/
theorem k_bound {T : ZT} {B : KB} {C D : K3} (h : k_hr T B C D) : ∀ (n k : Nat) (x y : Int32), n < k → k_en B C D k x y →
    ∃ a b, a < 256 ∧ b < 256 ∧ hp_walk C.2.2 n x = nI a ∧ md_walk D.2.2 n y = nI b ∧ k_th B C (C.2.1 a) (D.2.1 b) ∧ md_chain D.2.2 y n := by
  intro n
  induction n with
  | zero =>
    intro k x y hk g
    obtain ⟨k, rfl⟩ : ∃ m, k = m + 1 := ⟨k - 1, by omega⟩
    obtain ⟨a, b, h1, h2, h3, h4, h5, h6⟩ := k_en_s h g
    exact ⟨a, b, h1, h2, h3, h4, h5, fun i hi => by rw [show i = 0 by omega, md_walk, h4]; exact vp_in_nI h2 (by decide)⟩
  | succ n ih =>
    intro k x y hk g
    obtain ⟨k, rfl⟩ : ∃ m, k = m + 1 := ⟨k - 1, by omega⟩
    obtain ⟨a, b, h1, h2, h3, h4, h5, h6⟩ := k_en_s h g
    obtain ⟨a', b', q1, q2, q3, q4, q5, q6⟩ := ih k _ _ (by omega) h6
    have hx : ¬ x = -1 := by rw [h3]; exact k_nI_ne (by omega)
    refine ⟨a', b', q1, q2, ?_, ?_, q5, ?_⟩
    · rw [hp_walk, if_neg hx, h3, k_clamp h1]; exact q3
    · rw [md_walk, h4, k_clamp h2]; exact q4
    · intro i hi
      cases i with
      | zero => rw [md_walk, h4]; exact vp_in_nI h2 (by decide)
      | succ i => rw [md_walk, h4, k_clamp h2]; exact q6 i (by omega)
