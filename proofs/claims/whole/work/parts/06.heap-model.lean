/-! What the class's own rows do, as functions of their contents: the heap. -/
/-- a cell, or none -/
def hp_c (x : Int32) : Prop := x = -1 ∨ vp_in x 256
abbrev h_st (S : ZHS) : Nat → Int32 := S.1
abbrev h_fi (S : ZHS) : Nat → Int32 := S.2.1
abbrev h_se (S : ZHS) : Nat → Int32 := S.2.2.1
abbrev h_fc (S : ZHS) : Nat → Int32 := S.2.2.2.1
abbrev h_mk (S : ZHS) : Nat → Int32 := S.2.2.2.2.1
abbrev h_re (S : ZHS) : Nat → Int32 := S.2.2.2.2.2.1
abbrev h_fr (S : ZHS) : Int32 := S.2.2.2.2.2.2.1
abbrev h_rd (S : ZHS) : Int32 := S.2.2.2.2.2.2.2.1
abbrev h_rc (S : ZHS) : Int32 := S.2.2.2.2.2.2.2.2
def hp_state (S : ZHS) (x : Int32) : Int32 := if x = -1 then 4 else h_st S x.toNatClampNeg
def hp_first (S : ZHS) (x : Int32) : Int32 := if x = -1 then -1 else h_fi S x.toNatClampNeg
def hp_second (S : ZHS) (x : Int32) : Int32 := if x = -1 then -1 else h_se S x.toNatClampNeg
def hp_become (S : ZHS) (x a b c : Int32) : ZHS := if x = -1 then S else (upd (h_st S) x.toNatClampNeg a, upd (h_fi S) x.toNatClampNeg b, upd (h_se S) x.toNatClampNeg c, S.2.2.2)
def hp_setfr (S : ZHS) (f : Int32) : ZHS := (h_st S, h_fi S, h_se S, h_fc S, h_mk S, h_re S, f, h_rd S, h_rc S)
def hp_take (S : ZHS) (a b c : Int32) : Int32 × ZHS := if h_fr S = 0 then (-1, S) else (h_fc S (h_fr S - 1).toNatClampNeg, hp_become (hp_setfr S (h_fr S - 1)) (h_fc S (h_fr S - 1).toNatClampNeg) a b c)
def hp_begin (S : ZHS) : ZHS := (h_st S, h_fi S, h_se S, h_fc S, h_mk S, h_re S, h_fr S, h_rd S + 1, 0)
def hp_reach (S : ZHS) (x : Int32) : ZHS := if x = -1 then S else if h_mk S x.toNatClampNeg = h_rd S then S else (h_st S, h_fi S, h_se S, h_fc S, upd (h_mk S) x.toNatClampNeg (h_rd S), upd (h_re S) (h_rc S).toNatClampNeg x, h_fr S, h_rd S, h_rc S + 1)
def hp_from (S : ZHS) (a b c : Int32) : ZHS := if a = 5 then hp_reach (hp_reach S b) c else if a = 2 then hp_reach (hp_reach S b) c else if a = 3 then hp_reach S c else if a = 1 then hp_reach S c else S
def hp_spreadN : Nat → Nat → ZHS → ZHS
  | 0, _, Z => Z
  | n + 1, k, Z => if h_rc Z ≤ nI k then Z else hp_spreadN n (k + 1) (hp_from Z (h_st Z (h_re Z k).toNatClampNeg) (h_fi Z (h_re Z k).toNatClampNeg) (h_se Z (h_re Z k).toNatClampNeg))
termination_by n => n
def hp_spread (S : ZHS) : ZHS := hp_spreadN 256 0 S
def hp_sweepN : Nat → Nat → ZHS → ZHS
  | 0, _, Z => Z
  | n + 1, k, Z => hp_sweepN n (k + 1) (if h_mk Z k = h_rd Z then Z else (h_st Z, h_fi Z, h_se Z, upd (h_fc Z) (h_fr Z).toNatClampNeg (nI k), h_mk Z, h_re Z, h_fr Z + 1, h_rd Z, h_rc Z))
termination_by n => n
def hp_sweep (S : ZHS) : ZHS := hp_sweepN 256 0 (hp_setfr S 0)
def hp_walk (se : Nat → Int32) : Nat → Int32 → Int32
  | 0, k => k
  | n + 1, k => if k = -1 then k else hp_walk se n (se k.toNatClampNeg)
def hp_bound (S : ZHS) (env x : Int32) : Int32 := hp_first S (hp_walk (h_se S) x.toNatClampNeg env)
/-- the row of reached cells: different ones, all marked -/
def hp_mk (Z : ZHS) : Prop := ∃ k : Nat, k ≤ 256 ∧ h_rc Z = nI k ∧ (∀ i, i < k → vp_in (h_re Z i) 256 ∧ h_mk Z (h_re Z i).toNatClampNeg = h_rd Z) ∧ ∀ i j, i < k → j < k → h_re Z i = h_re Z j → i = j
/-- what leads on from a cell is a cell or none -/
def hp_ok (Z : ZHS) : Prop := ∀ j, j < 256 → (h_st Z j = 5 ∨ h_st Z j = 2 → hp_c (h_fi Z j)) ∧ hp_c (h_se Z j)
/-- the free cells -/
def hp_fok (Z : ZHS) : Prop := ∃ f : Nat, f ≤ 256 ∧ h_fr Z = nI f ∧ ∀ j, j < f → vp_in (h_fc Z j) 256
theorem hp_pigeon : ∀ (n : Nat) (f : Nat → Nat), (∀ i, i < n → f i < n) → (∀ i j, i < n → j < n → f i = f j → i = j) → ∀ y, y < n → ∃ i, i < n ∧ f i = y := by
  intro n
  induction n with
  | zero => intro f _ _ y hy; omega
  | succ n ih =>
    intro f hf hi y hy
    have hg1 : ∀ i, i < n → (if f i = n then f n else f i) < n := by
      intro i h
      by_cases h1 : f i = n
      · rw [if_pos h1]
        have h2 := hf n (by omega)
        have h3 : f n ≠ n := fun q => by
          have := hi i n (by omega) (by omega) (h1.trans q.symm)
          omega
        omega
      · rw [if_neg h1]
        have h2 := hf i (by omega)
        omega
    have hg2 : ∀ i j, i < n → j < n → (if f i = n then f n else f i) = (if f j = n then f n else f j) → i = j := by
      intro i j h1 h2 h3
      by_cases h4 : f i = n <;> by_cases h5 : f j = n
      · exact hi i j (by omega) (by omega) (h4.trans h5.symm)
      · rw [if_pos h4, if_neg h5] at h3
        have := hi n j (by omega) (by omega) h3
        omega
      · rw [if_neg h4, if_pos h5] at h3
        have := hi i n (by omega) (by omega) h3
        omega
      · rw [if_neg h4, if_neg h5] at h3
        exact hi i j (by omega) (by omega) h3
    have hs := ih (fun i => if f i = n then f n else f i) hg1 hg2
    by_cases hyn : y = n
    · by_cases h1 : f n = n
      · exact ⟨n, by omega, by omega⟩
      · have h2 := hf n (by omega)
        obtain ⟨i, hin, hie⟩ := hs (f n) (by omega)
        by_cases h3 : f i = n
        · exact ⟨i, by omega, by omega⟩
        · simp only [if_neg h3] at hie
          have := hi i n (by omega) (by omega) hie
          omega
    · obtain ⟨i, hin, hie⟩ := hs y (by omega)
      by_cases h3 : f i = n
      · simp only [if_pos h3] at hie
        exact ⟨n, by omega, hie⟩
      · simp only [if_neg h3] at hie
        exact ⟨i, by omega, hie⟩
theorem hp_in_lt {x : Int32} {n : Nat} (h : vp_in x n) (hn : n < 2 ^ 31) : x.toNatClampNeg < n := by
  obtain ⟨j, hj, rfl⟩ := vp_in_of h hn
  rw [nI_clamp (by omega)]
  exact hj
theorem hp_in_inj {x y : Int32} {n : Nat} (hx : vp_in x n) (hy : vp_in y n) (hn : n < 2 ^ 31) (h : x.toNatClampNeg = y.toNatClampNeg) : x = y := by
  obtain ⟨i, hi, rfl⟩ := vp_in_of hx hn
  obtain ⟨j, hj, rfl⟩ := vp_in_of hy hn
  rw [nI_clamp (by omega), nI_clamp (by omega)] at h
  rw [h]
/-- a cell that isn't marked yet: there is room in the row -/
theorem hp_roomy {Z : ZHS} {x : Int32} (h : hp_mk Z) (hx : vp_in x 256) (hm : ¬ h_mk Z x.toNatClampNeg = h_rd Z) : ∃ k : Nat, k < 256 ∧ h_rc Z = nI k := by
  obtain ⟨k, hk, hrc, hre, hinj⟩ := h
  rcases Nat.lt_or_ge k 256 with h1 | h1
  · exact ⟨k, h1, hrc⟩
  · have hk6 : k = 256 := by omega
    subst hk6
    obtain ⟨i, hi, he⟩ := hp_pigeon 256 (fun i => (h_re Z i).toNatClampNeg) (fun i hi => hp_in_lt (hre i hi).1 (by decide)) (fun i j hi hj e => hinj i j hi hj (hp_in_inj (hre i hi).1 (hre j hj).1 (by decide) e)) x.toNatClampNeg (hp_in_lt hx (by decide))
    exact absurd (by have := (hre i hi).2; rw [show (h_re Z i).toNatClampNeg = x.toNatClampNeg from he] at this; exact this) hm
theorem hp_mk_reach {Z : ZHS} {x : Int32} (h : hp_mk Z) (hx : hp_c x) : hp_mk (hp_reach Z x) := by
  unfold hp_reach
  by_cases h1 : x = -1
  · rw [if_pos h1]; exact h
  · rw [if_neg h1]
    by_cases h2 : h_mk Z x.toNatClampNeg = h_rd Z
    · rw [if_pos h2]; exact h
    · rw [if_neg h2]
      have hx := hx.resolve_left h1
      obtain ⟨k0, hk0, hrc0⟩ := hp_roomy h hx h2
      obtain ⟨k, hk, hrc, hre, hinj⟩ := h
      have hkk : k = k0 := (nI_eq (by omega) (by omega)).mp (hrc.symm.trans hrc0)
      subst hkk
      refine ⟨k + 1, by omega, ?_, ?_, ?_⟩
      · show h_rc Z + 1 = nI (k + 1)
        rw [hrc]; exact (nI_succ k).symm
      · intro i hi
        show vp_in (upd (h_re Z) (h_rc Z).toNatClampNeg x i) 256 ∧ upd (h_mk Z) x.toNatClampNeg (h_rd Z) (upd (h_re Z) (h_rc Z).toNatClampNeg x i).toNatClampNeg = h_rd Z
        rw [hrc, nI_clamp (by omega)]
        by_cases hik : i = k
        · subst hik; rw [pk_us]; exact ⟨hx, pk_us⟩
        · rw [pk_un hik]
          refine ⟨(hre i (by omega)).1, ?_⟩
          unfold upd
          by_cases h3 : (h_re Z i).toNatClampNeg = x.toNatClampNeg
          · rw [if_pos h3]
          · rw [if_neg h3]; exact (hre i (by omega)).2
      · intro i j hi hj
        show upd (h_re Z) (h_rc Z).toNatClampNeg x i = upd (h_re Z) (h_rc Z).toNatClampNeg x j → i = j
        rw [hrc, nI_clamp (by omega)]
        intro e
        by_cases hik : i = k <;> by_cases hjk : j = k
        · omega
        · subst hik; rw [pk_us, pk_un hjk] at e
          exact absurd (by rw [e]; exact (hre j (by omega)).2) h2
        · subst hjk; rw [pk_us, pk_un hik] at e
          exact absurd (by rw [← e]; exact (hre i (by omega)).2) h2
        · rw [pk_un hik, pk_un hjk] at e
          exact hinj i j (by omega) (by omega) e
theorem hp_mk_from {Z : ZHS} {a b c : Int32} (h : hp_mk Z) (hb : a = 5 ∨ a = 2 → hp_c b) (hc : hp_c c) : hp_mk (hp_from Z a b c) := by
  unfold hp_from
  by_cases h1 : a = 5
  · rw [if_pos h1]; exact hp_mk_reach (hp_mk_reach h (hb (Or.inl h1))) hc
  · rw [if_neg h1]
    by_cases h2 : a = 2
    · rw [if_pos h2]; exact hp_mk_reach (hp_mk_reach h (hb (Or.inr h2))) hc
    · rw [if_neg h2]
      by_cases h3 : a = 3
      · rw [if_pos h3]; exact hp_mk_reach h hc
      · rw [if_neg h3]
        by_cases h4 : a = 1
        · rw [if_pos h4]; exact hp_mk_reach h hc
        · rw [if_neg h4]; exact h
/-- marking changes the marks and the row alone -/
theorem hp_reach_fix (Z : ZHS) (x : Int32) : h_st (hp_reach Z x) = h_st Z ∧ h_fi (hp_reach Z x) = h_fi Z ∧ h_se (hp_reach Z x) = h_se Z ∧ h_fc (hp_reach Z x) = h_fc Z ∧ h_fr (hp_reach Z x) = h_fr Z ∧ h_rd (hp_reach Z x) = h_rd Z := by
  unfold hp_reach
  by_cases h1 : x = -1
  · rw [if_pos h1]; exact ⟨rfl, rfl, rfl, rfl, rfl, rfl⟩
  · rw [if_neg h1]
    by_cases h2 : h_mk Z x.toNatClampNeg = h_rd Z
    · rw [if_pos h2]; exact ⟨rfl, rfl, rfl, rfl, rfl, rfl⟩
    · rw [if_neg h2]; exact ⟨rfl, rfl, rfl, rfl, rfl, rfl⟩
theorem hp_from_fix (Z : ZHS) (a b c : Int32) : h_st (hp_from Z a b c) = h_st Z ∧ h_fi (hp_from Z a b c) = h_fi Z ∧ h_se (hp_from Z a b c) = h_se Z ∧ h_fc (hp_from Z a b c) = h_fc Z ∧ h_fr (hp_from Z a b c) = h_fr Z ∧ h_rd (hp_from Z a b c) = h_rd Z := by
  have h1 := hp_reach_fix Z c
  have h2 := hp_reach_fix (hp_reach Z b) c
  have h3 := hp_reach_fix Z b
  have h4 : h_st (hp_reach (hp_reach Z b) c) = h_st Z ∧ h_fi (hp_reach (hp_reach Z b) c) = h_fi Z ∧ h_se (hp_reach (hp_reach Z b) c) = h_se Z ∧ h_fc (hp_reach (hp_reach Z b) c) = h_fc Z ∧ h_fr (hp_reach (hp_reach Z b) c) = h_fr Z ∧ h_rd (hp_reach (hp_reach Z b) c) = h_rd Z :=
    ⟨h2.1.trans h3.1, h2.2.1.trans h3.2.1, h2.2.2.1.trans h3.2.2.1, h2.2.2.2.1.trans h3.2.2.2.1, h2.2.2.2.2.1.trans h3.2.2.2.2.1, h2.2.2.2.2.2.trans h3.2.2.2.2.2⟩
  unfold hp_from
  by_cases q1 : a = 5
  · rw [if_pos q1]; exact h4
  · rw [if_neg q1]
    by_cases q2 : a = 2
    · rw [if_pos q2]; exact h4
    · rw [if_neg q2]
      by_cases q3 : a = 3
      · rw [if_pos q3]; exact h1
      · rw [if_neg q3]
        by_cases q4 : a = 1
        · rw [if_pos q4]; exact h1
        · rw [if_neg q4]; exact ⟨rfl, rfl, rfl, rfl, rfl, rfl⟩
theorem hp_ok_from {Z : ZHS} {a b c : Int32} (h : hp_ok Z) : hp_ok (hp_from Z a b c) := by
  obtain ⟨h1, h2, h3, -⟩ := hp_from_fix Z a b c
  intro j hj
  rw [h1, h2, h3]
  exact h j hj
