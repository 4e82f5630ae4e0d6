/-! The reference's rows, as functions of their contents: marking. -/
def md_c (x : Int32) : Prop := x < 0 ∨ vp_in x 256
def md_fails (S : ZNS) (a b : Int32) : Int32 × ZNS := if a = 0 then (if b = 0 then (0, s_th S 0) else (1, s_th S 2)) else (1, s_th S 1)
def md_many (s : Int32) : Int32 := if s = 0 then 0 else if s = 3 then 0 else if s = 1 then 1 else if s = 9 then 1 else if s ≤ 11 then (if s = 8 then 3 else 2) else 1
def md_meet (S : ZNS) (c : Int32) : ZNS := if c < 0 then S else if r_re S c.toNatClampNeg = 0 then s_le (s_td (s_re S (upd (r_re S) c.toNatClampNeg 1)) (upd (r_td S) (r_le S).toNatClampNeg c)) (r_le S + 1) else S
def md_mv1 (S : ZNS) (a c : Int32) : ZNS := if a = 1 then md_meet S c else S
def md_meetV (S : ZNS) (a b c : Int32) : ZNS := if a = 2 then md_meet (md_meet (md_mv1 S a c) b) c else md_mv1 S a c
def md_clrN : Nat → Nat → ZNS → ZNS
  | 0, _, Z => Z
  | n + 1, k, Z => md_clrN n (k + 1) (s_re Z (upd (r_re Z) k 0))
termination_by n => n
def md_fa (S : ZNS) (k : Nat) : ZNS := if r_wh S k = 0 then md_meet S (r_fi S k) else if r_wh S k = 1 then md_meet S (r_fi S k) else S
def md_fb (S : ZNS) (k : Nat) : ZNS := if r_wh S k = 2 then md_meet S (r_se S k) else if r_wh S k = 4 then md_meet S (r_se S k) else S
def md_fr1 (S : ZNS) (k : Nat) : ZNS := md_fb (md_fa S k) k
def md_frN : Nat → Nat → ZNS → ZNS
  | 0, _, Z => Z
  | n + 1, k, Z => md_frN n (k + 1) (md_fr1 Z k)
def md_td1 (S : ZNS) (c : Int32) : ZNS := if r_is S c.toNatClampNeg = 5 then md_meet (md_meet S (r_on S c.toNatClampNeg)) (r_tw (md_meet S (r_on S c.toNatClampNeg)) c.toNatClampNeg)
  else if r_is S c.toNatClampNeg = 3 then md_meet S (r_tw S c.toNatClampNeg) else md_meetV S (r_is S c.toNatClampNeg) (r_on S c.toNatClampNeg) (r_tw S c.toNatClampNeg)
def md_tdN : Nat → Nat → ZNS → ZNS
  | 0, _, Z => Z
  | n + 1, k, Z => if r_le Z ≤ nI k then Z else md_tdN n (k + 1) (md_td1 Z (r_td Z k))
termination_by n => n
def md_root (S : ZNS) : ZNS := if r_ba S = 0 then (if r_ss S = 2 then md_meetV S (r_vs S) (r_vo S) (r_vt S) else md_meet S (r_en S)) else md_meetV S (r_vs S) (r_vo S) (r_vt S)
def md_mark (S : ZNS) : ZNS := md_tdN 256 0 (md_frN (r_fr S).toNatClampNeg 0 (md_root (md_clrN 256 0 (s_le S 0))))
/-- the row of met cells: different ones, all reached -/
def md_mk (Z : ZNS) : Prop := ∃ k : Nat, k ≤ 256 ∧ r_le Z = nI k ∧ (∀ i, i < k → vp_in (r_td Z i) 256 ∧ ¬ r_re Z (r_td Z i).toNatClampNeg = 0) ∧ ∀ i j, i < k → j < k → r_td Z i = r_td Z j → i = j
def md_ok (Z : ZNS) : Prop := ∀ j, j < 256 → (r_is Z j = 5 ∨ r_is Z j = 2 → md_c (r_on Z j)) ∧ md_c (r_tw Z j)
theorem md_roomy {Z : ZNS} {x : Int32} (h : md_mk Z) (hx : vp_in x 256) (hm : r_re Z x.toNatClampNeg = 0) : ∃ k : Nat, k < 256 ∧ r_le Z = nI k := by
  obtain ⟨k, hk, hrc, hre, hinj⟩ := h
  rcases Nat.lt_or_ge k 256 with h1 | h1
  · exact ⟨k, h1, hrc⟩
  · have hk6 : k = 256 := by omega
    subst hk6
    obtain ⟨i, hi, he⟩ := hp_pigeon 256 (fun i => (r_td Z i).toNatClampNeg) (fun i hi => hp_in_lt (hre i hi).1 (by decide)) (fun i j hi hj e => hinj i j hi hj (hp_in_inj (hre i hi).1 (hre j hj).1 (by decide) e)) x.toNatClampNeg (hp_in_lt hx (by decide))
    have h2 := (hre i hi).2
    rw [show (r_td Z i).toNatClampNeg = x.toNatClampNeg from he] at h2
    exact absurd hm h2
theorem md_mk_meet {Z : ZNS} {x : Int32} (h : md_mk Z) (hx : md_c x) : md_mk (md_meet Z x) := by
  unfold md_meet
  by_cases h1 : x < 0
  · rw [if_pos h1]; exact h
  · rw [if_neg h1]
    by_cases h2 : r_re Z x.toNatClampNeg = 0
    · rw [if_pos h2]
      have hx := hx.resolve_left h1
      obtain ⟨k0, hk0, hrc0⟩ := md_roomy h hx h2
      obtain ⟨k, hk, hrc, hre, hinj⟩ := h
      have hkk : k = k0 := (nI_eq (by omega) (by omega)).mp (hrc.symm.trans hrc0)
      subst hkk
      refine ⟨k + 1, by omega, ?_, ?_, ?_⟩
      · show r_le Z + 1 = nI (k + 1)
        rw [hrc]; exact (nI_succ k).symm
      · intro i hi
        show vp_in (upd (r_td Z) (r_le Z).toNatClampNeg x i) 256 ∧ ¬ upd (r_re Z) x.toNatClampNeg 1 (upd (r_td Z) (r_le Z).toNatClampNeg x i).toNatClampNeg = 0
        rw [hrc, nI_clamp (by omega)]
        by_cases hik : i = k
        · subst hik; rw [pk_us]; exact ⟨hx, by rw [pk_us]; decide⟩
        · rw [pk_un hik]
          refine ⟨(hre i (by omega)).1, ?_⟩
          unfold upd
          by_cases h3 : (r_td Z i).toNatClampNeg = x.toNatClampNeg
          · rw [if_pos h3]; decide
          · rw [if_neg h3]; exact (hre i (by omega)).2
      · intro i j hi hj
        show upd (r_td Z) (r_le Z).toNatClampNeg x i = upd (r_td Z) (r_le Z).toNatClampNeg x j → i = j
        rw [hrc, nI_clamp (by omega)]
        intro e
        by_cases hik : i = k <;> by_cases hjk : j = k
        · omega
        · subst hik; rw [pk_us, pk_un hjk] at e
          exact absurd (by rw [e] at h2; exact h2) (hre j (by omega)).2
        · subst hjk; rw [pk_us, pk_un hik] at e
          exact absurd (by rw [← e] at h2; exact h2) (hre i (by omega)).2
        · rw [pk_un hik, pk_un hjk] at e
          exact hinj i j (by omega) (by omega) e
    · rw [if_neg h2]; exact h
theorem md_mk_meetV {Z : ZNS} {a b c : Int32} (h : md_mk Z) (hb : a = 2 → md_c b) (hc : a = 1 ∨ a = 2 → md_c c) : md_mk (md_meetV Z a b c) := by
  have h9 : md_mk (md_mv1 Z a c) := by
    unfold md_mv1
    by_cases h1 : a = 1
    · rw [if_pos h1]; exact md_mk_meet h (hc (Or.inl h1))
    · rw [if_neg h1]; exact h
  unfold md_meetV
  by_cases h2 : a = 2
  · rw [if_pos h2]; exact md_mk_meet (md_mk_meet h9 (hb h2)) (hc (Or.inr h2))
  · rw [if_neg h2]; exact h9
theorem md_eq_rf (S : ZNS) : md_eq S S := rfl
theorem md_eq_re (S : ZNS) (f : Nat → Int32) : md_eq (s_re S f) S := rfl
theorem md_eq_td (S : ZNS) (f : Nat → Int32) : md_eq (s_td S f) S := rfl
theorem md_eq_le (S : ZNS) (x : Int32) : md_eq (s_le S x) S := rfl
theorem md_eq_tr {A B C : ZNS} (h : md_eq A B) (g : md_eq B C) : md_eq A C := Eq.trans h g
theorem md_eq_meet (S : ZNS) (x : Int32) : md_eq (md_meet S x) S := by
  unfold md_meet
  by_cases h1 : x < 0
  · rw [if_pos h1]; exact md_eq_rf S
  · rw [if_neg h1]
    by_cases h2 : r_re S x.toNatClampNeg = 0
    · rw [if_pos h2]; exact md_eq_tr (md_eq_le _ _) (md_eq_tr (md_eq_td _ _) (md_eq_re S _))
    · rw [if_neg h2]; exact md_eq_rf S
theorem md_eq_mv1 (S : ZNS) (a c : Int32) : md_eq (md_mv1 S a c) S := by
  unfold md_mv1
  by_cases h1 : a = 1
  · rw [if_pos h1]; exact md_eq_meet S c
  · rw [if_neg h1]; exact md_eq_rf S
theorem md_eq_meetV (S : ZNS) (a b c : Int32) : md_eq (md_meetV S a b c) S := by
  unfold md_meetV
  by_cases h2 : a = 2
  · rw [if_pos h2]; exact md_eq_tr (md_eq_meet _ _) (md_eq_tr (md_eq_meet _ _) (md_eq_mv1 S a c))
  · rw [if_neg h2]; exact md_eq_mv1 S a c
theorem md_eq_fa (S : ZNS) (k : Nat) : md_eq (md_fa S k) S := by
  unfold md_fa
  by_cases h1 : r_wh S k = 0
  · rw [if_pos h1]; exact md_eq_meet _ _
  · rw [if_neg h1]
    by_cases h2 : r_wh S k = 1
    · rw [if_pos h2]; exact md_eq_meet _ _
    · rw [if_neg h2]; exact md_eq_rf S
theorem md_eq_fb (S : ZNS) (k : Nat) : md_eq (md_fb S k) S := by
  unfold md_fb
  by_cases h1 : r_wh S k = 2
  · rw [if_pos h1]; exact md_eq_meet _ _
  · rw [if_neg h1]
    by_cases h2 : r_wh S k = 4
    · rw [if_pos h2]; exact md_eq_meet _ _
    · rw [if_neg h2]; exact md_eq_rf S
theorem md_eq_fr1 (S : ZNS) (k : Nat) : md_eq (md_fr1 S k) S := md_eq_tr (md_eq_fb _ k) (md_eq_fa S k)
theorem md_eq_td1 (S : ZNS) (c : Int32) : md_eq (md_td1 S c) S := by
  unfold md_td1
  by_cases h1 : r_is S c.toNatClampNeg = 5
  · rw [if_pos h1]; exact md_eq_tr (md_eq_meet _ _) (md_eq_meet _ _)
  · rw [if_neg h1]
    by_cases h2 : r_is S c.toNatClampNeg = 3
    · rw [if_pos h2]; exact md_eq_meet _ _
    · rw [if_neg h2]; exact md_eq_meetV _ _ _ _
/-- what the frames lead to -/
def md_fok (Z : ZNS) : Prop := ∃ z : Nat, z ≤ 200 ∧ r_fr Z = nI z ∧ ∀ j, j < z → (r_wh Z j = 0 ∨ r_wh Z j = 1 → md_c (r_fi Z j)) ∧ (r_wh Z j = 2 ∨ r_wh Z j = 4 → md_c (r_se Z j))
theorem md_ok_eq {Z S : ZNS} (h : md_eq Z S) (g : md_ok S) : md_ok Z := by
  intro j hj
  rw [me_is h, me_on h, me_tw h]
  exact g j hj
theorem md_wh_eq {Z S : ZNS} (h : md_eq Z S) : r_wh Z = r_wh S ∧ r_fi Z = r_fi S ∧ r_se Z = r_se S ∧ r_fr Z = r_fr S := ⟨me_wh h, me_fi h, me_se h, me_fr h⟩
theorem md_fok_eq {Z S : ZNS} (h : md_eq Z S) (g : md_fok S) : md_fok Z := by
  unfold md_fok
  rw [me_wh h, me_fi h, me_se h, me_fr h]
  exact g
theorem md_mk_fa {Z : ZNS} {k : Nat} (h : md_mk Z) (hc : r_wh Z k = 0 ∨ r_wh Z k = 1 → md_c (r_fi Z k)) : md_mk (md_fa Z k) := by
  unfold md_fa
  by_cases h1 : r_wh Z k = 0
  · rw [if_pos h1]; exact md_mk_meet h (hc (Or.inl h1))
  · rw [if_neg h1]
    by_cases h2 : r_wh Z k = 1
    · rw [if_pos h2]; exact md_mk_meet h (hc (Or.inr h2))
    · rw [if_neg h2]; exact h
theorem md_mk_fb {Z : ZNS} {k : Nat} (h : md_mk Z) (hc : r_wh Z k = 2 ∨ r_wh Z k = 4 → md_c (r_se Z k)) : md_mk (md_fb Z k) := by
  unfold md_fb
  by_cases h1 : r_wh Z k = 2
  · rw [if_pos h1]; exact md_mk_meet h (hc (Or.inl h1))
  · rw [if_neg h1]
    by_cases h2 : r_wh Z k = 4
    · rw [if_pos h2]; exact md_mk_meet h (hc (Or.inr h2))
    · rw [if_neg h2]; exact h
theorem md_mk_td1 {Z : ZNS} {c : Int32} (h : md_mk Z) (ho : md_ok Z) (hc : vp_in c 256) : md_mk (md_td1 Z c) := by
  have hj := hp_in_lt hc (by decide)
  unfold md_td1
  by_cases h1 : r_is Z c.toNatClampNeg = 5
  · rw [if_pos h1]
    refine md_mk_meet (md_mk_meet h ((ho _ hj).1 (Or.inl h1))) ?_
    exact (md_ok_eq (md_eq_meet Z _) ho _ hj).2
  · rw [if_neg h1]
    by_cases h2 : r_is Z c.toNatClampNeg = 3
    · rw [if_pos h2]; exact md_mk_meet h (ho _ hj).2
    · rw [if_neg h2]; exact md_mk_meetV h (fun q => (ho _ hj).1 (Or.inr q)) (fun _ => (ho _ hj).2)
theorem md_mk_clr {Z : ZNS} (h : r_le Z = 0) : md_mk Z := ⟨0, by omega, h, fun i hi => absurd hi (Nat.not_lt_zero _), fun i j hi => absurd hi (Nat.not_lt_zero _)⟩
theorem md_eq_clrN : ∀ (n k : Nat) (S : ZNS), md_eq (md_clrN n k S) S ∧ r_le (md_clrN n k S) = r_le S := by
  intro n
  induction n with
  | zero => intro k S; rw [md_clrN]; exact ⟨md_eq_rf S, rfl⟩
  | succ n ih =>
    intro k S
    rw [md_clrN]
    have h := ih (k + 1) (s_re S (upd (r_re S) k 0))
    exact ⟨md_eq_tr h.1 (md_eq_re S _), h.2⟩
/-- what the reference's marking starts from -/
def md_rok (S : ZNS) : Prop := (¬ r_ba S = 0 ∨ r_ss S = 2 → (r_vs S = 2 → md_c (r_vo S)) ∧ (r_vs S = 1 ∨ r_vs S = 2 → md_c (r_vt S))) ∧ (r_ba S = 0 → ¬ r_ss S = 2 → md_c (r_en S))
theorem md_rok_eq {Z S : ZNS} (h : md_eq Z S) (g : md_rok S) : md_rok Z := by
  unfold md_rok
  rw [me_ba h, me_ss h, me_vs h, me_vo h, me_vt h, me_en h]
  exact g
def md_lo (S : ZNS) : Prop := md_ok S ∧ md_fok S ∧ md_rok S
theorem md_mk_root {Z : ZNS} (h : md_mk Z) (g : md_rok Z) : md_mk (md_root Z) := by
  unfold md_root
  by_cases h1 : r_ba Z = 0
  · rw [if_pos h1]
    by_cases h2 : r_ss Z = 2
    · rw [if_pos h2]; exact md_mk_meetV h (g.1 (Or.inr h2)).1 (g.1 (Or.inr h2)).2
    · rw [if_neg h2]; exact md_mk_meet h (g.2 h1 h2)
  · rw [if_neg h1]; exact md_mk_meetV h (g.1 (Or.inl h1)).1 (g.1 (Or.inl h1)).2
theorem md_eq_root (Z : ZNS) : md_eq (md_root Z) Z := by
  unfold md_root
  by_cases h1 : r_ba Z = 0
  · rw [if_pos h1]
    by_cases h2 : r_ss Z = 2
    · rw [if_pos h2]; exact md_eq_meetV _ _ _ _
    · rw [if_neg h2]; exact md_eq_meet _ _
  · rw [if_neg h1]; exact md_eq_meetV _ _ _ _
def md_find (f : Nat → Int32) : Nat → Nat → Nat
  | 0, k => k
  | n + 1, k => if f k = 0 then k else md_find f n (k + 1)
termination_by n => n
def md_put4 (S : ZNS) (n : Nat) (a b c : Int32) : ZNS := s_tw (s_on (s_is (s_re S (upd (r_re S) n 1)) (upd (r_is S) n a)) (upd (r_on S) n b)) (upd (r_tw S) n c)
def md_cell (S : ZNS) (a b c : Int32) : Int32 × ZNS := (nI (md_find (r_re S) 256 0), md_put4 S (md_find (r_re S) 256 0) a b c)
def md_costs (S : ZNS) (n : Int32) : Int32 := if r_sr S n.toNatClampNeg = 0 then 0 else 1
def md_walk (f : Nat → Int32) : Nat → Int32 → Int32
  | 0, e => e
  | n + 1, e => md_walk f n (f e.toNatClampNeg)
def md_bound (S : ZNS) (x : Int32) : Int32 := r_on S (md_walk (r_tw S) x.toNatClampNeg (r_en S)).toNatClampNeg
/-- the chain of links is long enough -/
def md_chain (f : Nat → Int32) (e : Int32) (n : Nat) : Prop := ∀ i, i ≤ n → vp_in (md_walk f i e) 256
def md_thunk (S : ZNS) (n : Int32) : Int32 × ZNS := if r_sr S n.toNatClampNeg = 0 then (md_bound S (r_nu S n.toNatClampNeg), S) else md_cell S 3 n (r_en S)
def md_high (S : ZNS) : Int32 × ZNS := if r_fr S = 200 then (1, s_ss S 5) else (0, S)
def md_full (S : ZNS) (n : Int32) : Int32 × ZNS := if r_le (md_mark S) + n ≤ 256 then (0, md_mark S) else (1, s_ss (md_mark S) 6)
def md_push (S : ZNS) (a b c : Int32) : ZNS := s_mo (s_fr (s_se (s_fi (s_wh S (upd (r_wh S) (r_fr S).toNatClampNeg a)) (upd (r_fi S) (r_fr S).toNatClampNeg b)) (upd (r_se S) (r_fr S).toNatClampNeg c)) (r_fr S + 1)) (if r_fr S + 1 ≤ r_mo S then r_mo S else r_fr S + 1)
def md_give (S : ZNS) (a b c : Int32) : ZNS := s_vt (s_vo (s_vs (s_ba S 1) a) b) c
def md_go (S : ZNS) (n e : Int32) : ZNS := s_en (s_no (s_ba S 0) n) e
def md_busy (S : ZNS) (t : Int32) : ZNS := md_go (md_push (s_fo (s_is S (upd (r_is S) t.toNatClampNeg 4)) (r_fo S + 1)) 0 t 0) (r_on S t.toNatClampNeg) (r_tw S t.toNatClampNeg)
def md_asks (S : ZNS) (t rm : Int32) : Int32 × ZNS := if r_is S t.toNatClampNeg = 4 then (1, s_ss S 4)
  else if r_is S t.toNatClampNeg = 3 then (if rm = 0 then (if (md_high S).1 = 0 then (0, md_busy (md_high S).2 t) else (1, (md_high S).2)) else (0, md_busy S t))
  else (0, md_give S (r_is S t.toNatClampNeg) (r_on S t.toNatClampNeg) (r_tw S t.toNatClampNeg))
theorem md_walk_s (f : Nat → Int32) : ∀ (n : Nat) (e : Int32), f (md_walk f n e).toNatClampNeg = md_walk f (n + 1) e := by
  intro n
  induction n with
  | zero => intro e; rfl
  | succ n ih => intro e; exact ih (f e.toNatClampNeg)
theorem md_hi_lt {S u : ZNS} (hz : ∃ z : Nat, z ≤ 200 ∧ r_fr S = nI z) (h : (md_high S).1 = 0) (hu : u = (md_high S).2) : ∃ z : Nat, z < 200 ∧ r_fr u = nI z := by
  obtain ⟨z, h1, h2⟩ := hz
  unfold md_high at h hu
  by_cases h3 : r_fr S = 200
  · rw [if_pos h3] at h; exact absurd h (show ¬ (1 : Int32) = 0 by decide)
  · rw [if_neg h3] at hu
    subst hu
    refine ⟨z, ?_, h2⟩
    rcases Nat.lt_or_ge z 200 with h9 | h9
    · exact h9
    · exact absurd (by rw [h2, show z = 200 by omega]; rfl) h3
