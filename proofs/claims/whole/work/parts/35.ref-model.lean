/-! How many cells are reached; room for new ones. -/
/-- how many of the first n are not 0 -/
def zc (f : Nat → Int32) : Nat → Nat
  | 0 => 0
  | n + 1 => zc f n + (if f n = 0 then 0 else 1)
termination_by n => n
theorem zc_le (f : Nat → Int32) : ∀ n, zc f n ≤ n := by
  intro n
  induction n with
  | zero => rw [zc]; exact Nat.le_refl _
  | succ n ih =>
    rw [zc]
    by_cases h : f n = 0
    · rw [if_pos h]; omega
    · rw [if_neg h]; omega
theorem zc_free (f : Nat → Int32) : ∀ n, zc f n < n → ∃ j, j < n ∧ f j = 0 := by
  intro n
  induction n with
  | zero => intro h; omega
  | succ n ih =>
    intro h
    rw [zc] at h
    by_cases h1 : f n = 0
    · exact ⟨n, by omega, h1⟩
    · rw [if_neg h1] at h
      obtain ⟨j, hj, hz⟩ := ih (by omega)
      exact ⟨j, by omega, hz⟩
theorem zc_same {f g : Nat → Int32} : ∀ n, (∀ j, j < n → (f j = 0 ↔ g j = 0)) → zc f n = zc g n := by
  intro n
  induction n with
  | zero => intro _; rw [zc, zc]
  | succ n ih =>
    intro h
    rw [zc, zc, ih (fun j hj => h j (by omega))]
    have h1 := h n (by omega)
    by_cases h2 : f n = 0
    · rw [if_pos h2, if_pos (h1.mp h2)]
    · rw [if_neg h2, if_neg (fun q => h2 (h1.mpr q))]
theorem zc_upd {f : Nat → Int32} {k : Nat} {x : Int32} (hx : ¬ x = 0) (h0 : f k = 0) : ∀ n, k < n → zc (upd f k x) n = zc f n + 1 := by
  intro n
  induction n with
  | zero => intro h; omega
  | succ n ih =>
    intro h
    rw [zc, zc]
    by_cases h1 : k = n
    · subst h1
      rw [pk_us, if_neg hx, if_pos h0, zc_same (f := upd f k x) (g := f) k (fun j hj => by rw [pk_un (by omega)])]
    · rw [ih (by omega), pk_un (fun q => h1 q.symm)]
      omega
/-- the row of met cells is as long as there are reached ones -/
def md_zk (Z : ZNS) : Prop := ∃ k : Nat, r_le Z = nI k ∧ zc (r_re Z) 256 = k
theorem md_zk_meet {Z : ZNS} {x : Int32} (h : md_zk Z) (hx : md_c x) : md_zk (md_meet Z x) := by
  unfold md_meet
  by_cases h1 : x < 0
  · rw [if_pos h1]; exact h
  · rw [if_neg h1]
    by_cases h2 : r_re Z x.toNatClampNeg = 0
    · rw [if_pos h2]
      obtain ⟨k, hl, hz⟩ := h
      refine ⟨k + 1, ?_, ?_⟩
      · show r_le Z + 1 = nI (k + 1)
        rw [hl]; exact (nI_succ k).symm
      · show zc (upd (r_re Z) x.toNatClampNeg 1) 256 = k + 1
        rw [zc_upd (by decide) h2 256 (hp_in_lt (hx.resolve_left h1) (by decide)), hz]
    · rw [if_neg h2]; exact h
theorem md_zk_meetV {Z : ZNS} {a b c : Int32} (h : md_zk Z) (hb : a = 2 → md_c b) (hc : a = 1 ∨ a = 2 → md_c c) : md_zk (md_meetV Z a b c) := by
  have h9 : md_zk (md_mv1 Z a c) := by
    unfold md_mv1
    by_cases h1 : a = 1
    · rw [if_pos h1]; exact md_zk_meet h (hc (Or.inl h1))
    · rw [if_neg h1]; exact h
  unfold md_meetV
  by_cases h2 : a = 2
  · rw [if_pos h2]; exact md_zk_meet (md_zk_meet h9 (hb h2)) (hc (Or.inr h2))
  · rw [if_neg h2]; exact h9
theorem md_zk_root {Z : ZNS} (h : md_zk Z) (g : md_rok Z) : md_zk (md_root Z) := by
  unfold md_root
  by_cases h1 : r_ba Z = 0
  · rw [if_pos h1]
    by_cases h2 : r_ss Z = 2
    · rw [if_pos h2]; exact md_zk_meetV h (g.1 (Or.inr h2)).1 (g.1 (Or.inr h2)).2
    · rw [if_neg h2]; exact md_zk_meet h (g.2 h1 h2)
  · rw [if_neg h1]; exact md_zk_meetV h (g.1 (Or.inl h1)).1 (g.1 (Or.inl h1)).2
theorem md_zk_fr1 {Z : ZNS} {k : Nat} (h : md_zk Z) (hc : (r_wh Z k = 0 ∨ r_wh Z k = 1 → md_c (r_fi Z k)) ∧ (r_wh Z k = 2 ∨ r_wh Z k = 4 → md_c (r_se Z k))) : md_zk (md_fr1 Z k) := by
  have ha : md_zk (md_fa Z k) := by
    unfold md_fa
    by_cases h1 : r_wh Z k = 0
    · rw [if_pos h1]; exact md_zk_meet h (hc.1 (Or.inl h1))
    · rw [if_neg h1]
      by_cases h2 : r_wh Z k = 1
      · rw [if_pos h2]; exact md_zk_meet h (hc.1 (Or.inr h2))
      · rw [if_neg h2]; exact h
  have he := md_wh_eq (md_eq_fa Z k)
  unfold md_fr1 md_fb
  rw [he.1, he.2.2.1]
  by_cases h1 : r_wh Z k = 2
  · rw [if_pos h1]; exact md_zk_meet ha (hc.2 (Or.inl h1))
  · rw [if_neg h1]
    by_cases h2 : r_wh Z k = 4
    · rw [if_pos h2]; exact md_zk_meet ha (hc.2 (Or.inr h2))
    · rw [if_neg h2]; exact ha
theorem md_zk_frN {z : Nat} : ∀ (n k : Nat) (Z : ZNS), k + n ≤ z → (∀ j, j < z → (r_wh Z j = 0 ∨ r_wh Z j = 1 → md_c (r_fi Z j)) ∧ (r_wh Z j = 2 ∨ r_wh Z j = 4 → md_c (r_se Z j))) → md_zk Z ∧ md_mk Z → (md_zk (md_frN n k Z) ∧ md_mk (md_frN n k Z)) ∧ md_eq (md_frN n k Z) Z := by
  intro n
  induction n with
  | zero => intro k Z _ _ h; exact ⟨h, md_eq_rf Z⟩
  | succ n ih =>
    intro k Z hk hc h
    have he := md_wh_eq (md_eq_fr1 Z k)
    have ha := md_wh_eq (md_eq_fa Z k)
    have h2 := ih (k + 1) (md_fr1 Z k) (by omega) (by rw [he.1, he.2.1, he.2.2.1]; exact hc)
      ⟨md_zk_fr1 h.1 (hc k (by omega)), md_mk_fb (md_mk_fa h.2 (hc k (by omega)).1) (by rw [ha.1, ha.2.2.1]; exact (hc k (by omega)).2)⟩
    exact ⟨h2.1, md_eq_tr h2.2 (md_eq_fr1 Z k)⟩
theorem md_zk_td1 {Z : ZNS} {c : Int32} (h : md_zk Z) (ho : md_ok Z) (hc : vp_in c 256) : md_zk (md_td1 Z c) := by
  have hj := hp_in_lt hc (by decide)
  unfold md_td1
  by_cases h1 : r_is Z c.toNatClampNeg = 5
  · rw [if_pos h1]
    refine md_zk_meet (md_zk_meet h ((ho _ hj).1 (Or.inl h1))) ?_
    exact (md_ok_eq (md_eq_meet Z _) ho _ hj).2
  · rw [if_neg h1]
    by_cases h2 : r_is Z c.toNatClampNeg = 3
    · rw [if_pos h2]; exact md_zk_meet h (ho _ hj).2
    · rw [if_neg h2]; exact md_zk_meetV h (fun q => (ho _ hj).1 (Or.inr q)) (fun _ => (ho _ hj).2)
theorem md_td_in {Z : ZNS} {k : Nat} (h : md_mk Z) (hk : k < 256) (h1 : ¬ r_le Z ≤ nI k) : vp_in (r_td Z k) 256 := by
  obtain ⟨n, hn, hrc, hre, _⟩ := h
  refine (hre k ?_).1
  rcases Nat.lt_or_ge k n with h9 | h9
  · exact h9
  · exact absurd (by rw [hrc]; exact nI_le h9 (by omega)) h1
theorem md_zk_tdN : ∀ (n k : Nat) (Z : ZNS), k + n = 256 → md_ok Z → md_zk Z ∧ md_mk Z → (md_zk (md_tdN n k Z) ∧ md_mk (md_tdN n k Z)) ∧ md_eq (md_tdN n k Z) Z := by
  intro n
  induction n with
  | zero => intro k Z _ _ h; rw [md_tdN]; exact ⟨h, md_eq_rf Z⟩
  | succ n ih =>
    intro k Z hk ho h
    rw [md_tdN]
    by_cases h1 : r_le Z ≤ nI k
    · rw [if_pos h1]; exact ⟨h, md_eq_rf Z⟩
    · rw [if_neg h1]
      have hin := md_td_in h.2 (by omega) h1
      have h2 := ih (k + 1) (md_td1 Z (r_td Z k)) (by omega) (md_ok_eq (md_eq_td1 Z _) ho) ⟨md_zk_td1 h.1 ho hin, md_mk_td1 h.2 ho hin⟩
      exact ⟨h2.1, md_eq_tr h2.2 (md_eq_td1 Z _)⟩
theorem zc_zero {f : Nat → Int32} : ∀ n, (∀ j, j < n → f j = 0) → zc f n = 0 := by
  intro n
  induction n with
  | zero => intro _; rw [zc]
  | succ n ih => intro h; rw [zc, ih (fun j hj => h j (by omega)), if_pos (h n (by omega))]
theorem md_clr0 : ∀ (n k : Nat) (Z : ZNS), k + n = 256 → (∀ j, j < k → r_re Z j = 0) → ∀ j, j < 256 → r_re (md_clrN n k Z) j = 0 := by
  intro n
  induction n with
  | zero => intro k Z hk h j hj; rw [md_clrN]; exact h j (by omega)
  | succ n ih =>
    intro k Z hk h
    rw [md_clrN]
    refine ih (k + 1) _ (by omega) ?_
    intro j hj
    show upd (r_re Z) k 0 j = 0
    by_cases h1 : j = k
    · subst h1; exact pk_us
    · rw [pk_un h1]; exact h j (by omega)
/-- the reference's marking: the number is that of the reached cells; nothing but marks changes -/
theorem md_mark_zk {S : ZNS} (h : md_lo S) : md_zk (md_mark S) ∧ md_mk (md_mark S) ∧ md_eq (md_mark S) S := by
  obtain ⟨ho, hf, hr⟩ := h
  obtain ⟨z, hz, hfr, hfc⟩ := hf
  have e0 : md_eq (md_clrN 256 0 (s_le S 0)) S := md_eq_tr (md_eq_clrN 256 0 (s_le S 0)).1 (md_eq_le S 0)
  have z0 : md_zk (md_clrN 256 0 (s_le S 0)) := ⟨0, (md_eq_clrN 256 0 (s_le S 0)).2, zc_zero 256 (md_clr0 256 0 (s_le S 0) rfl (fun j hj => by omega))⟩
  have m0 : md_mk (md_clrN 256 0 (s_le S 0)) := md_mk_clr (md_eq_clrN 256 0 (s_le S 0)).2
  have r0 := md_rok_eq e0 hr
  generalize hZ : md_clrN 256 0 (s_le S 0) = Z at e0 z0 m0 r0
  have e1 : md_eq (md_root Z) S := md_eq_tr (md_eq_root Z) e0
  have hw := md_wh_eq e1
  have h1 := md_zk_frN (z := z) z 0 (md_root Z) (by omega) (by rw [hw.1, hw.2.1, hw.2.2.1]; exact hfc) ⟨md_zk_root z0 r0, md_mk_root m0 r0⟩
  have e2 : md_eq (md_frN z 0 (md_root Z)) S := md_eq_tr h1.2 e1
  have h2 := md_zk_tdN 256 0 (md_frN z 0 (md_root Z)) rfl (md_ok_eq e2 ho) h1.1
  unfold md_mark
  rw [hZ, show (r_fr S).toNatClampNeg = z by rw [hfr]; exact nI_clamp (by omega)]
  exact ⟨h2.1.1, h2.1.2, md_eq_tr h2.2 e2⟩
theorem md_full_zc {S : ZNS} {c : Nat} (h : md_lo S) (hc : c ≤ 2) (h0 : (md_full S (nI c)).1 = 0) : (md_full S (nI c)).2 = md_mark S ∧ zc (r_re (md_mark S)) 256 + c ≤ 256 := by
  unfold md_full at *
  by_cases h1 : r_le (md_mark S) + nI c ≤ 256
  · rw [if_pos h1]
    refine ⟨rfl, ?_⟩
    obtain ⟨k, hk, hz⟩ := (md_mark_zk h).1
    have hk2 := zc_le (r_re (md_mark S)) 256
    rw [hk, nI_add] at h1
    have h3 := (nI_leI (b := 256) (by omega) (by decide)).mp h1
    omega
  · rw [if_neg h1] at h0
    exact absurd h0 (show ¬ (1 : Int32) = 0 by decide)
theorem md_find_ok (f : Nat → Int32) : ∀ (n k : Nat), k + n = 256 → (∃ j, k ≤ j ∧ j < 256 ∧ f j = 0) → md_find f n k < 256 ∧ f (md_find f n k) = 0 := by
  intro n
  induction n with
  | zero => intro k hk h; obtain ⟨j, h1, h2, _⟩ := h; omega
  | succ n ih =>
    intro k hk h
    rw [md_find]
    by_cases h1 : f k = 0
    · rw [if_pos h1]; exact ⟨by omega, h1⟩
    · rw [if_neg h1]
      obtain ⟨j, h2, h3, h4⟩ := h
      refine ih (k + 1) (by omega) ⟨j, ?_, h3, h4⟩
      rcases Nat.lt_or_ge k j with h9 | h9
      · exact h9
      · exact absurd (by rw [show k = j by omega]; exact h4) h1
theorem md_cell_zc {S : ZNS} {a b c : Int32} (h : zc (r_re S) 256 < 256) : zc (r_re (md_cell S a b c).2) 256 = zc (r_re S) 256 + 1 := by
  obtain ⟨j, hj, h0⟩ := zc_free _ _ h
  have hf := md_find_ok (r_re S) 256 0 rfl ⟨j, by omega, hj, h0⟩
  show zc (upd (r_re S) (md_find (r_re S) 256 0) 1) 256 = _
  exact zc_upd (by decide) hf.2 256 hf.1
def md_begin (S : ZNS) : ZNS := s_en (s_no (s_ba (s_mo (s_fr (s_fo (s_sp (s_ss S 1) 0) 0) 0) 0) 0) 0) (-1)
def md_restart (S : ZNS) : ZNS := if r_ss S = 0 then s_th S 1 else md_begin (s_th S 0)
def md_good (s x : Int32) : Int32 := if s < 0 then 0 else if 14 ≤ s then 0 else if s = 3 then 1 else if s = 0 then (if x < 0 then 0 else if 40 < x then 0 else 1) else if x = 0 then 1 else 0
def md_put (S : ZNS) (s x : Int32) : Int32 × ZNS := if md_good s x = 0 then (0, s_th S 1) else if r_to S = 200 then (-1, s_th S 0)
  else (r_to S + 1, s_to (s_xs (s_so (s_th S 0) (upd (r_so S) (r_to S).toNatClampNeg s)) (upd (r_xs S) (r_to S).toNatClampNeg x)) (r_to S + 1))
def md_c0 (S : ZNS) (w : Int32) : Int32 × ZNS := if w = 0 then (r_to S, S) else if w = 1 then (0, S) else if w = 2 then (r_ss S, S) else if w = 3 then (0, S) else if w = 4 then (0, S) else if w = 5 then (0, S) else if w = 6 then (0, S) else if w = 7 then (-1, S) else if w = 8 then (0, S) else (-1, S)
def md_c1 (S : ZNS) (w : Int32) : Int32 × ZNS := if w = 0 then (r_to S, S) else if w = 1 then (r_si S, S) else if w = 2 then (r_ss S, S) else if w = 3 then (r_sp S, S) else if w = 4 then (r_fo S, S) else if w = 5 then (r_fr S, S) else if w = 6 then (r_le (md_mark S), md_mark S)
  else if w = 7 then (if r_ba S = 0 then (r_no S, S) else (-1, S)) else if w = 8 then (r_mo S, S) else (-1, S)
def md_count (S : ZNS) (w : Int32) : Int32 × ZNS := if r_ss S ≤ 0 then md_c0 (s_th S 0) w else md_c1 (s_th S 0) w
def md_res (S : ZNS) (w : Int32) : Int32 := if w = 0 then r_vs S else if w = 1 ∧ r_vs S = 0 ∨ w = 2 ∧ r_vs S = 1 then r_vo S else -1
def md_result (S : ZNS) (w : Int32) : Int32 × ZNS := if r_ss S = 2 then (md_res S w, s_th S 0) else (0, s_th S 1)
