/-! The two machines' load. -/
theorem a_many_14 {s : Int32} (h : vp_in s 14) : tm_pt s.toNatClampNeg = nI (a_many s) ∧ a_many s ≤ 3 := by
  rcases k_14 h with q | q | q | q | q | q | q | q | q | q | q | q | q | q <;> subst q <;> decide
theorem a_binds_01 (s x : Int32) : tm_binds s x = 0 ∨ tm_binds s x = 1 := by
  unfold tm_binds
  by_cases h1 : s = 1
  · rw [if_pos h1]; exact Or.inr rfl
  · rw [if_neg h1]
    by_cases h2 : s = 9
    · rw [if_pos h2]; exact Or.inr rfl
    · rw [if_neg h2]
      by_cases h3' : s = 10
      · rw [if_pos h3']
        by_cases h4 : x = 1
        · rw [if_pos h4]; exact Or.inr rfl
        · rw [if_neg h4]; exact Or.inl rfl
      · rw [if_neg h3']; exact Or.inl rfl
theorem a_binds_n (s : Int32) (w : Nat) : tm_binds s (nI w) = nI (a_binds s w) ∧ a_binds s w ≤ 1 := by
  unfold a_binds
  rcases a_binds_01 s (nI w) with h | h <;> rw [h] <;> decide
theorem a_binds_if (s x : Int32) : (if tm_binds s x = 0 then (0 : Int32) else 1) = tm_binds s x := by
  rcases a_binds_01 s x with h | h <;> rw [h] <;> decide
/-- the open nodes, the innermost first, and how many of their parts have come -/
def k_opn (X : ZTS) : List (Nat × Nat) → Nat → Nat → Prop
  | [], _, o => o = 0
  | (q, w) :: L, i, o => ∃ o2, o = o2 + 1 ∧ t_op X o2 = nI q ∧ q < i ∧ t_pm X q = nI w ∧ w < a_many (t_so X q) ∧ k_opn X L q o2
/-- the slots for the parts that haven't come -/
def k_sl (X : ZTS) (S : ZNS) : List (Nat × Nat) → Nat → Prop
  | [], p => p = 0
  | (q, w) :: L, p => ∃ p2, p = p2 + (a_many (t_so X q) - w) ∧ k_sl X S L p2 ∧ ∀ t, w ≤ t → t < a_many (t_so X q) → r_ow S (p2 + (a_many (t_so X q) - 1 - t)) = nI (3 * q + t) ∧ r_ar S (p2 + (a_many (t_so X q) - 1 - t)) = t_bi X q + tm_binds (t_so X q) (nI t)
theorem k_opn_c {X X' : ZTS} (hs : t_so X' = t_so X) : ∀ (L : List (Nat × Nat)) (i o : Nat), (∀ k, k < o → t_op X' k = t_op X k) → (∀ k, k < i → t_pm X' k = t_pm X k) → k_opn X L i o → k_opn X' L i o := by
  intro L
  induction L with
  | nil => intro i o _ _ h; exact h
  | cons a L ih =>
    intro i o h1 h2 h
    obtain ⟨q, w⟩ := a
    obtain ⟨o2, e1, e2, e3, e4, e5, e6⟩ := h
    refine ⟨o2, e1, (h1 o2 (by omega)).trans e2, e3, (h2 q e3).trans e4, by rw [hs]; exact e5, ih q o2 (fun k hk => h1 k (by omega)) (fun k hk => h2 k (by omega)) e6⟩
theorem k_sl_c {X X' : ZTS} {S S' : ZNS} (hs : t_so X' = t_so X) : ∀ (L : List (Nat × Nat)) (i o p : Nat), k_opn X L i o → (∀ k, k < i → t_bi X' k = t_bi X k) → (∀ k, k < p → r_ow S' k = r_ow S k ∧ r_ar S' k = r_ar S k) → k_sl X S L p → k_sl X' S' L p := by
  intro L
  induction L with
  | nil => intro i o p _ _ _ h; exact h
  | cons a L ih =>
    intro i o p ho h1 h2 h
    obtain ⟨q, w⟩ := a
    obtain ⟨o2, _, _, e3, _, e5, e6⟩ := ho
    obtain ⟨p2, g1, g2, g3⟩ := h
    refine ⟨p2, by rw [hs]; exact g1, ih q o2 p2 e6 (fun k hk => h1 k (by omega)) (fun k hk => h2 k (by omega)) g2, ?_⟩
    rw [hs]
    intro t t1 t2
    obtain ⟨x1, x2⟩ := g3 t t1 t2
    obtain ⟨y1, y2⟩ := h2 (p2 + (a_many (t_so X q) - 1 - t)) (by omega)
    exact ⟨y1.trans x1, by rw [y2, x2, h1 q e3]⟩
theorem k_opn_up {X : ZTS} : ∀ (L : List (Nat × Nat)) (i j o : Nat), i ≤ j → k_opn X L i o → k_opn X L j o := by
  intro L i j o hij h
  cases L with
  | nil => exact h
  | cons a L =>
    obtain ⟨q, w⟩ := a
    obtain ⟨o2, e1, e2, e3, e⟩ := h
    exact ⟨o2, e1, e2, by omega, e⟩
/-- the two, before node i: the parts that have come are below c -/
def k_ld (z i c : Nat) (L : List (Nat × Nat)) (o p : Nat) (X : ZTS) (S : ZNS) : Prop := (i ≤ z ∧ z ≤ 200 ∧ t_sz X = nI z) ∧ (∀ j, j < z → t_so X j = r_so S j ∧ t_xs X j = r_xs S j ∧ vp_in (t_so X j) 14) ∧
  (∀ j, j < i → (r_sr S j = t_so X j ∧ r_nu S j = t_xs X j) ∧ (∃ b, b ≤ j ∧ t_bi X j = nI b ∧ (t_so X j = 0 → ∃ n, n < b ∧ t_xs X j = nI n)) ∧ ∃ m, t_pm X j = nI m ∧ m ≤ a_many (t_so X j) ∧ (m = a_many (t_so X j) ∨ ∃ w, (j, w) ∈ L) ∧ ∀ w, w < m → ∃ d, d < c ∧ t_pa X (3 * j + w) = nI d ∧ r_ch S (3 * j + w) = nI d ∧ t_bi X d = t_bi X j + tm_binds (t_so X j) (nI w)) ∧
  (0 < c → t_bi X 0 = 0) ∧ k_opn X L i o ∧ k_sl X S L p ∧ ((∀ j, j < 600 → vp_in (t_pa X j) 200) ∧ ∀ j, j < 600 → vp_in (r_ch S j) 200)
/-- node i is given to the innermost open one -/
theorem k_ld_give {z i q w o p : Nat} {L : List (Nat × Nat)} {X : ZTS} {S : ZNS} (h : k_ld z i i ((q, w) :: L) o p X S) (hi : i < z) :
    ∃ (L1 : List (Nat × Nat)) (b : Nat), 0 < p ∧ b ≤ i ∧ r_ar S (p - 1) = nI b ∧ t_bi (tm_s2 X i o).2 i = nI b ∧ k_ld z i (i + 1) L1 (tm_s2 X i o).1 (p - 1) (tm_s2 X i o).2 (md_l1 S i (p - 1)) ∧ t_so (tm_s2 X i o).2 = t_so X ∧ t_xs (tm_s2 X i o).2 = t_xs X := by
  obtain ⟨⟨a1, a2, a3⟩, b1, c1, d1, ho, hsl, l1, l2⟩ := h
  obtain ⟨o2, e1, e2, e3, e4, e5, e6⟩ := ho
  obtain ⟨p2, g1, g2, g3⟩ := hsl
  obtain ⟨⟨_, _⟩, ⟨bq, bq1, bq2, _⟩, m, m1, m2, m3, m4⟩ := c1 q e3
  have hso14 := (b1 q (by omega)).2.2
  obtain ⟨hpt, hm3⟩ := a_many_14 hso14
  have hmw : m = w := (nI_eq (by omega) (by omega)).mp (m1.symm.trans e4)
  subst hmw
  have hp : p2 + (a_many (t_so X q) - 1 - m) = p - 1 := by omega
  obtain ⟨x1, x2⟩ := g3 m (Nat.le_refl _) e5
  rw [hp] at x1 x2
  obtain ⟨bn1, bn2⟩ := a_binds_n (t_so X q) m
  have hb : t_bi X q + tm_binds (t_so X q) (nI m) = nI (bq + a_binds (t_so X q) m) := by rw [bq2, bn1, nI_add]
  subst e1
  -- the class
  have hcl : (t_op X o2).toNatClampNeg = q := by rw [e2, nI_clamp (by omega)]
  have hix : (nI q * 3 + nI m).toNatClampNeg = 3 * q + m := by rw [show (3 : Int32) = nI 3 from rfl, pk_mul, nI_add, nI_clamp (by omega)]; omega
  have hg2 : (tm_give (tm_setbi X i 0) (t_op X o2) (nI i)).2 = (t_so X, t_xs X, upd (t_pa X) (3 * q + m) (nI i), upd (t_pm X) q (nI (m + 1)), upd (upd (t_bi X) i 0) i (nI (bq + a_binds (t_so X q) m)), t_op X, t_sz X) := by
    unfold tm_give
    show (t_so X, t_xs X, upd (t_pa X) (t_op X o2 * 3 + t_pm X (t_op X o2).toNatClampNeg).toNatClampNeg (nI i), upd (t_pm X) (t_op X o2).toNatClampNeg (t_pm X (t_op X o2).toNatClampNeg + 1), upd (upd (t_bi X) i 0) (nI i).toNatClampNeg (upd (t_bi X) i 0 (t_op X o2).toNatClampNeg + (if tm_binds (t_so X (t_op X o2).toNatClampNeg) (t_pm X (t_op X o2).toNatClampNeg) = 0 then 0 else 1)), t_op X, t_sz X) = _
    rw [hcl, e4, e2, hix, nI_clamp (by omega), a_binds_if, pk_un (by omega), ← nI_succ, hb]
  have hg1 : (tm_give (tm_setbi X i 0) (t_op X o2) (nI i)).1 = if m + 1 = a_many (t_so X q) then 1 else 0 := by
    unfold tm_give
    show (if t_pm X (t_op X o2).toNatClampNeg + 1 = tm_pt (t_so X (t_op X o2).toNatClampNeg).toNatClampNeg then (1 : Int32) else 0) = _
    rw [hcl, e4, hpt, ← nI_succ]
    by_cases w : m + 1 = a_many (t_so X q)
    · rw [if_pos w, if_pos (by rw [w])]
    · rw [if_neg w, if_neg (fun r => w ((nI_eq (by omega) (by omega)).mp r))]
  -- the reference
  have hl1 : md_l1 S i (p - 1) = s_ch S (upd (r_ch S) (3 * q + m) (nI i)) := by
    unfold md_l1
    rw [x1, if_neg (k_nI_ne (by omega)), nI_clamp (by omega)]
  have hbi : ∀ k, k < i → upd (upd (t_bi X) i 0) i (nI (bq + a_binds (t_so X q) m)) k = t_bi X k := fun k hk => by rw [pk_un (by omega), pk_un (by omega)]
  have hbii : upd (upd (t_bi X) i 0) i (nI (bq + a_binds (t_so X q) m)) i = nI (bq + a_binds (t_so X q) m) := pk_us
  -- what stays
  have hopn : k_opn (tm_give (tm_setbi X i 0) (t_op X o2) (nI i)).2 L q o2 := by
    rw [hg2]
    refine k_opn_c (X := X) (by rfl) L q o2 (fun k _ => by rfl) (fun k hk => ?_) e6
    show upd (t_pm X) q (nI (m + 1)) k = t_pm X k
    rw [pk_un (by omega)]
  have hsl2 : k_sl (tm_give (tm_setbi X i 0) (t_op X o2) (nI i)).2 (md_l1 S i (p - 1)) L p2 := by
    rw [hg2, hl1]
    exact k_sl_c (X := X) (S := S) (by rfl) L q o2 p2 e6 (fun k hk => hbi k (by omega)) (fun k _ => ⟨by rfl, by rfl⟩) g2
  have main : ∀ (L1 : List (Nat × Nat)), (∀ j w, (j, w) ∈ (q, m) :: L → j ≠ q → (j, w) ∈ L1) → (m + 1 = a_many (t_so X q) ∨ (q, m + 1) ∈ L1) → ∀ o1, k_opn (tm_give (tm_setbi X i 0) (t_op X o2) (nI i)).2 L1 i o1 → k_sl (tm_give (tm_setbi X i 0) (t_op X o2) (nI i)).2 (md_l1 S i (p - 1)) L1 (p - 1) →
      k_ld z i (i + 1) L1 o1 (p - 1) (tm_give (tm_setbi X i 0) (t_op X o2) (nI i)).2 (md_l1 S i (p - 1)) := by
    intro L1 hL hq o1 w1 w2
    refine ⟨⟨a1, a2, ?_⟩, ?_, ?_, ?_, w1, w2, ?_, ?_⟩
    · rw [hg2]; exact a3
    · rw [hg2, hl1]; exact b1
    · rw [hg2, hl1]
      intro j hj
      obtain ⟨j1, ⟨bj, bj1, bj2, bj3⟩, mj, mj1, mj2, mj3, mj4⟩ := c1 j hj
      refine ⟨j1, ⟨bj, bj1, (hbi j hj).trans bj2, bj3⟩, ?_⟩
      show ∃ m', upd (t_pm X) q (nI (m + 1)) j = nI m' ∧ m' ≤ a_many (t_so X j) ∧ (m' = a_many (t_so X j) ∨ ∃ w, (j, w) ∈ L1) ∧ ∀ w, w < m' → ∃ d, d < i + 1 ∧ upd (t_pa X) (3 * q + m) (nI i) (3 * j + w) = nI d ∧ upd (r_ch S) (3 * q + m) (nI i) (3 * j + w) = nI d ∧ upd (upd (t_bi X) i 0) i (nI (bq + a_binds (t_so X q) m)) d = upd (upd (t_bi X) i 0) i (nI (bq + a_binds (t_so X q) m)) j + tm_binds (t_so X j) (nI w)
      have hold : ∀ w, w < mj → ¬ (j = q ∧ w = m) → ∃ d, d < i + 1 ∧ upd (t_pa X) (3 * q + m) (nI i) (3 * j + w) = nI d ∧ upd (r_ch S) (3 * q + m) (nI i) (3 * j + w) = nI d ∧ upd (upd (t_bi X) i 0) i (nI (bq + a_binds (t_so X q) m)) d = upd (upd (t_bi X) i 0) i (nI (bq + a_binds (t_so X q) m)) j + tm_binds (t_so X j) (nI w) := by
        intro w hw hne
        have hw3 : w < 3 := by have := (a_many_14 (b1 j (by omega)).2.2).2; omega
        obtain ⟨d, y1, y2, y3, y4⟩ := mj4 w hw
        refine ⟨d, by omega, ?_, ?_, ?_⟩
        · rw [pk_un (by omega)]; exact y2
        · rw [pk_un (by omega)]; exact y3
        · rw [hbi d y1, hbi j hj]; exact y4
      by_cases hjq : j = q
      · subst hjq
        have : mj = m := (nI_eq (by have := (a_many_14 (b1 j (by omega)).2.2).2; omega) (by omega)).mp (mj1.symm.trans m1)
        subst this
        refine ⟨mj + 1, pk_us, by omega, ?_, ?_⟩
        · rcases hq with hq | hq
          · exact Or.inl hq
          · exact Or.inr ⟨_, hq⟩
        · intro w hw
          by_cases hwm : w = mj
          · subst hwm
            refine ⟨i, by omega, pk_us, pk_us, ?_⟩
            rw [hbii, hbi j hj, hb]
          · exact hold w (by omega) (fun r => hwm r.2)
      · refine ⟨mj, by rw [pk_un hjq]; exact mj1, mj2, ?_, fun w hw => hold w hw (fun r => hjq r.1)⟩
        rcases mj3 with r | ⟨w, r⟩
        · exact Or.inl r
        · exact Or.inr ⟨w, hL j w r hjq⟩
    · intro _
      rw [hg2]
      show upd (upd (t_bi X) i 0) i (nI (bq + a_binds (t_so X q) m)) 0 = 0
      rw [hbi 0 (by omega)]
      exact d1 (by omega)
    · rw [hg2]
      intro j hj
      show vp_in (upd (t_pa X) (3 * q + m) (nI i) j) 200
      by_cases hjk : j = 3 * q + m
      · subst hjk; rw [pk_us]; exact vp_in_nI (by omega) (by decide)
      · rw [pk_un hjk]; exact l1 j hj
    · rw [hl1]
      intro j hj
      show vp_in (upd (r_ch S) (3 * q + m) (nI i) j) 200
      by_cases hjk : j = 3 * q + m
      · subst hjk; rw [pk_us]; exact vp_in_nI (by omega) (by decide)
      · rw [pk_un hjk]; exact l2 j hj
  have hfin : t_bi (tm_give (tm_setbi X i 0) (t_op X o2) (nI i)).2 i = nI (bq + a_binds (t_so X q) m) := by rw [hg2]; exact pk_us
  have hsx : t_so (tm_give (tm_setbi X i 0) (t_op X o2) (nI i)).2 = t_so X ∧ t_xs (tm_give (tm_setbi X i 0) (t_op X o2) (nI i)).2 = t_xs X := by rw [hg2]; exact ⟨rfl, rfl⟩
  by_cases hm : m + 1 = a_many (t_so X q)
  · have h0 : ¬ (tm_give (tm_setbi X i 0) (t_op X o2) (nI i)).1 = 0 := by rw [hg1, if_pos hm]; decide
    rw [tm_s2_1 h0]
    refine ⟨L, bq + a_binds (t_so X q) m, by omega, by omega, x2.trans hb, hfin, main L ?_ (Or.inl hm) o2 (k_opn_up L q i o2 (by omega) hopn) ?_, hsx⟩
    · intro j w hjw hne
      rcases List.mem_cons.mp hjw with r | r
      · exact absurd (congrArg Prod.fst r) hne
      · exact r
    · rw [show p - 1 = p2 by omega]
      rw [show p - 1 = p2 by omega] at hsl2
      exact hsl2
  · have h0 : (tm_give (tm_setbi X i 0) (t_op X o2) (nI i)).1 = 0 := by rw [hg1, if_neg hm]
    rw [tm_s2_0 h0]
    refine ⟨(q, m + 1) :: L, bq + a_binds (t_so X q) m, by omega, by omega, x2.trans hb, hfin, main ((q, m + 1) :: L) ?_ (Or.inr (List.mem_cons_self ..)) (o2 + 1) ⟨o2, rfl, ?_, e3, ?_, ?_, hopn⟩ ⟨p2, ?_, hsl2, ?_⟩, hsx⟩
    · intro j w hjw hne
      rcases List.mem_cons.mp hjw with r | r
      · exact absurd (congrArg Prod.fst r) hne
      · exact List.mem_cons_of_mem _ r
    · rw [hg2]; exact e2
    · rw [hg2]; exact pk_us
    · rw [hg2]; show m + 1 < a_many (t_so X q); omega
    · rw [hg2]; show p - 1 = p2 + (a_many (t_so X q) - (m + 1)); omega
    · rw [hg2, hl1]
      intro t t1 t2
      obtain ⟨y1, y2⟩ := g3 t (by omega) t2
      refine ⟨y1, ?_⟩
      show r_ar S _ = upd (upd (t_bi X) i 0) i (nI (bq + a_binds (t_so X q) m)) q + _
      rw [hbi q e3]
      exact y2
/-- the slots of a node -/
theorem k_inN {i : Nat} {b : Int32} : ∀ (c o : Nat) (S : ZNS), (md_inN c i b o S).1 = o + c ∧ ((md_inN c i b o S).2.1 = S.1 ∧ (md_inN c i b o S).2.2.2 = S.2.2 ∧ r_sr (md_inN c i b o S).2 = r_sr S ∧ r_nu (md_inN c i b o S).2 = r_nu S ∧ r_ch (md_inN c i b o S).2 = r_ch S) ∧ (∀ k, k < o → r_ow (md_inN c i b o S).2 k = r_ow S k ∧ r_ar (md_inN c i b o S).2 k = r_ar S k) ∧
    ∀ t, t < c → r_ow (md_inN c i b o S).2 (o + (c - 1 - t)) = 3 * nI i + nI t ∧ r_ar (md_inN c i b o S).2 (o + (c - 1 - t)) = b + tm_binds (r_so S i) (nI t) := by
  intro c
  induction c with
  | zero => intro o S; exact ⟨rfl, ⟨rfl, rfl, rfl, rfl, rfl⟩, fun k _ => ⟨rfl, rfl⟩, fun t ht => absurd ht (Nat.not_lt_zero _)⟩
  | succ c ih =>
    intro o S
    rw [md_inN]
    obtain ⟨h1, ⟨h2, h3', h4, h5, h6⟩, h7, h8⟩ := ih (o + 1) (s_ar (s_ow S (upd (r_ow S) o (3 * nI i + nI c))) (upd (r_ar S) o (b + tm_binds (r_so S i) (nI c))))
    refine ⟨by rw [h1]; omega, ⟨h2, h3', h4, h5, h6⟩, fun k hk => ?_, fun t ht => ?_⟩
    · obtain ⟨y1, y2⟩ := h7 k (by omega)
      refine ⟨y1.trans ?_, y2.trans ?_⟩
      · show upd (r_ow S) o _ k = _
        rw [pk_un (by omega)]
      · show upd (r_ar S) o _ k = _
        rw [pk_un (by omega)]
    · by_cases htc : t = c
      · subst htc
        obtain ⟨y1, y2⟩ := h7 (o + (t + 1 - 1 - t)) (by omega)
        refine ⟨y1.trans ?_, y2.trans ?_⟩
        · show upd (r_ow S) o _ _ = _
          rw [show o + (t + 1 - 1 - t) = o by omega, pk_us]
        · show upd (r_ar S) o _ _ = _
          rw [show o + (t + 1 - 1 - t) = o by omega, pk_us]
      · have := h8 t (by omega)
        rw [show o + (c + 1 - 1 - t) = o + 1 + (c - 1 - t) by omega]
        exact this
/-- and is opened itself -/
theorem k_ld_next {z i o p b : Nat} {L : List (Nat × Nat)} {X : ZTS} {S : ZNS} (h : k_ld z i (i + 1) L o p X S) (hi : i < z) (hb : b ≤ i) (hbi : t_bi X i = nI b) (hv : t_so X i = 0 → ∃ n, n < b ∧ t_xs X i = nI n) :
    ∃ L1, k_ld z (i + 1) (i + 1) L1 (tm_s4 X i o).1 (md_inN (md_many (r_so (md_l2 S i) i)).toNatClampNeg i (nI b) p (md_l2 S i)).1 (tm_s4 X i o).2 (md_inN (md_many (r_so (md_l2 S i) i)).toNatClampNeg i (nI b) p (md_l2 S i)).2 := by
  obtain ⟨⟨a1, a2, a3⟩, b1, c1, d1, ho, hsl, l1, l2⟩ := h
  obtain ⟨s1, s2, s3⟩ := b1 i hi
  obtain ⟨hpt, hm3⟩ := a_many_14 s3
  have hmany : (md_many (r_so (md_l2 S i) i)).toNatClampNeg = a_many (t_so X i) := by
    show (md_many (r_so S i)).toNatClampNeg = _
    rw [← s1]; rfl
  rw [hmany]
  obtain ⟨n1, ⟨n2, n3, n4, n5, n6⟩, n7, n8⟩ := k_inN (i := i) (b := nI b) (a_many (t_so X i)) p (md_l2 S i)
  have n3 : (md_inN (a_many (t_so X i)) i (nI b) p (md_l2 S i)).2.2.2 = S.2.2 := n3
  have n2 : (md_inN (a_many (t_so X i)) i (nI b) p (md_l2 S i)).2.1 = S.1 := n2
  have n4 : r_sr (md_inN (a_many (t_so X i)) i (nI b) p (md_l2 S i)).2 = upd (r_sr S) i (r_so S i) := n4
  have n5 : r_nu (md_inN (a_many (t_so X i)) i (nI b) p (md_l2 S i)).2 = upd (r_nu S) i (r_xs S i) := n5
  have n6 : r_ch (md_inN (a_many (t_so X i)) i (nI b) p (md_l2 S i)).2 = r_ch S := n6
  have n7 : ∀ k, k < p → r_ow (md_inN (a_many (t_so X i)) i (nI b) p (md_l2 S i)).2 k = r_ow S k ∧ r_ar (md_inN (a_many (t_so X i)) i (nI b) p (md_l2 S i)).2 k = r_ar S k := n7
  have n8 : ∀ t, t < a_many (t_so X i) → r_ow (md_inN (a_many (t_so X i)) i (nI b) p (md_l2 S i)).2 (p + (a_many (t_so X i) - 1 - t)) = 3 * nI i + nI t ∧ r_ar (md_inN (a_many (t_so X i)) i (nI b) p (md_l2 S i)).2 (p + (a_many (t_so X i) - 1 - t)) = nI b + tm_binds (r_so S i) (nI t) := n8
  rw [n1]
  generalize (md_inN (a_many (t_so X i)) i (nI b) p (md_l2 S i)).2 = S2 at *
  have hso : r_so S2 = r_so S := congrArg (fun t => t.1) n2
  have hxs : r_xs S2 = r_xs S := congrArg (fun t => t.2.1) n2
  have main : ∀ (X2 : ZTS) (L1 : List (Nat × Nat)) (o1 : Nat), t_so X2 = t_so X → t_xs X2 = t_xs X → t_pa X2 = t_pa X → t_pm X2 = upd (t_pm X) i 0 → t_bi X2 = t_bi X → t_sz X2 = t_sz X → (∀ j w, (j, w) ∈ L → (j, w) ∈ L1) → (a_many (t_so X i) = 0 ∨ (i, 0) ∈ L1) → k_opn X2 L1 (i + 1) o1 → k_sl X2 S2 L1 (p + a_many (t_so X i)) → k_ld z (i + 1) (i + 1) L1 o1 (p + a_many (t_so X i)) X2 S2 := by
    intro X2 L1 o1 x1 x2 x3 x4 x5 x6 hL hL2 w1 w2
    refine ⟨⟨by omega, a2, x6.trans a3⟩, ?_, ?_, ?_, w1, w2, ?_, ?_⟩
    · rw [x1, x2, hso, hxs]; exact b1
    · intro j hj
      rw [x1, x2, x3, x4, x5, n4, n5, n6]
      by_cases hji : j = i
      · subst hji
        refine ⟨⟨by rw [pk_us]; exact s1.symm, by rw [pk_us]; exact s2.symm⟩, ⟨b, hb, hbi, hv⟩, 0, by rw [pk_us]; rfl, by omega, ?_, fun w hw => absurd hw (Nat.not_lt_zero _)⟩
        rcases hL2 with r | r
        · exact Or.inl r.symm
        · exact Or.inr ⟨0, r⟩
      · rw [pk_un hji, pk_un hji, pk_un hji]
        obtain ⟨y1, y2, m, y3, y4, y5, y6⟩ := c1 j (by omega)
        refine ⟨y1, y2, m, y3, y4, ?_, y6⟩
        rcases y5 with r | ⟨w, r⟩
        · exact Or.inl r
        · exact Or.inr ⟨w, hL j w r⟩
    · intro _
      rw [x5]; exact d1 (by omega)
    · rw [x3]; exact l1
    · rw [n6]; exact l2
  have hopn : ∀ X2 : ZTS, t_so X2 = t_so X → t_pm X2 = upd (t_pm X) i 0 → (∀ k, k < o → t_op X2 k = t_op X k) → k_opn X2 L i o := fun X2 x1 x2 x3 => k_opn_c x1 L i o x3 (fun k hk => by rw [x2, pk_un (by omega)]) ho
  have hslL : ∀ X2 : ZTS, t_so X2 = t_so X → t_bi X2 = t_bi X → k_sl X2 S2 L p := fun X2 x1 x2 => k_sl_c x1 L i o p ho (fun k _ => by rw [x2]) n7 hsl
  unfold tm_s4
  by_cases h0 : a_many (t_so X i) = 0
  · rw [if_pos (by rw [hpt, h0]; decide)]
    refine ⟨L, main (tm_setpm X i 0) L o rfl rfl rfl rfl rfl rfl (fun j w r => r) (Or.inl h0) (k_opn_up L i (i + 1) o (by omega) (hopn (tm_setpm X i 0) rfl rfl (fun k _ => rfl))) ?_⟩
    rw [h0]
    exact hslL (tm_setpm X i 0) rfl rfl
  · have hle : ¬ tm_pt (t_so X i).toNatClampNeg ≤ 0 := by rw [hpt]; exact nI_nle (by omega) (by omega)
    rw [if_neg hle]
    refine ⟨(i, 0) :: L, main (tm_setop (tm_setpm X i 0) o (nI i)) ((i, 0) :: L) (o + 1) rfl rfl rfl rfl rfl rfl (fun j w r => List.mem_cons_of_mem _ r) (Or.inr (List.mem_cons_self ..)) ⟨o, rfl, pk_us, by omega, pk_us, by show 0 < a_many (t_so X i); omega, hopn _ rfl rfl (fun k hk => pk_un (by omega))⟩ ⟨p, rfl, hslL _ rfl rfl, ?_⟩⟩
    intro t _ ht
    have ht : t < a_many (t_so X i) := ht
    obtain ⟨y1, y2⟩ := n8 t ht
    refine ⟨?_, ?_⟩
    · show r_ow S2 (p + (a_many (t_so X i) - 1 - t)) = _
      rw [y1, show (3 : Int32) = nI 3 from rfl, pk_mul, nI_add]
    · show r_ar S2 (p + (a_many (t_so X i) - 1 - t)) = t_bi X i + tm_binds (t_so X i) (nI t)
      rw [y2, hbi, s1]
