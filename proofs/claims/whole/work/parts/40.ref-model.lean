/-! The reference's steps, as functions of its contents. -/
abbrev md_a (S : ZNS) : Int32 := r_ch S (3 * r_no S).toNatClampNeg
abbrev md_b (S : ZNS) : Int32 := r_ch S (3 * r_no S + 1).toNatClampNeg
def md_f2 (S : ZNS) : Int32 × ZNS := md_full (md_high S).2 (md_costs (md_high S).2 (md_b S))
def md_at2 (S : ZNS) : Int32 × ZNS := if (md_high S).1 = 0 then
    if (md_f2 S).1 = 0 then (0, md_go (md_push (md_thunk (md_f2 S).2 (md_b S)).2 1 (md_thunk (md_f2 S).2 (md_b S)).1 0) (md_a S) (r_en S)) else (1, (md_f2 S).2)
  else (1, (md_high S).2)
def md_f9 (S : ZNS) : Int32 × ZNS := md_full (md_high S).2 2
def md_p9 (F : ZNS) : ZNS := md_push (s_fo (md_cell F 4 0 0).2 (r_fo (md_cell F 4 0 0).2 + 1)) 0 (md_cell F 4 0 0).1 0
def md_at9 (S : ZNS) : Int32 × ZNS := if (md_high S).1 = 0 then
    if (md_f9 S).1 = 0 then (0, md_go (md_cell (md_p9 (md_f9 S).2) 5 (md_cell (md_f9 S).2 4 0 0).1 (r_en S)).2 (md_a S) (md_cell (md_p9 (md_f9 S).2) 5 (md_cell (md_f9 S).2 4 0 0).1 (r_en S)).1) else (1, (md_f9 S).2)
  else (1, (md_high S).2)
def md_f10 (S : ZNS) : Int32 × ZNS := md_full S (md_costs S (md_a S) + 1)
def md_at10 (S : ZNS) : Int32 × ZNS := if (md_f10 S).1 = 0 then
    (0, md_go (md_cell (md_thunk (md_f10 S).2 (md_a S)).2 5 (md_thunk (md_f10 S).2 (md_a S)).1 (r_en S)).2 (md_b S) (md_cell (md_thunk (md_f10 S).2 (md_a S)).2 5 (md_thunk (md_f10 S).2 (md_a S)).1 (r_en S)).1) else (1, (md_f10 S).2)
def md_f11 (S : ZNS) : Int32 × ZNS := md_full S (md_costs S (md_a S) + md_costs S (md_b S))
def md_at11 (S : ZNS) : Int32 × ZNS := if (md_f11 S).1 = 0 then
    (0, md_give (md_thunk (md_thunk (md_f11 S).2 (md_a S)).2 (md_b S)).2 2 (md_thunk (md_f11 S).2 (md_a S)).1 (md_thunk (md_thunk (md_f11 S).2 (md_a S)).2 (md_b S)).1) else (1, (md_f11 S).2)
def md_wt (s : Int32) : Int32 := if s ≤ 11 then (if s = 8 then 4 else 2) else 5
def md_atd (S : ZNS) : Int32 × ZNS := if (md_high S).1 = 0 then (0, md_go (md_push (md_high S).2 (md_wt (r_sr S (r_no S).toNatClampNeg)) (r_no S) (r_en S)) (md_a S) (r_en S)) else (1, (md_high S).2)
def md_at (S : ZNS) : Int32 × ZNS :=
  if r_sr S (r_no S).toNatClampNeg = 0 then md_asks S (md_bound S (r_nu S (r_no S).toNatClampNeg)) 0
  else if r_sr S (r_no S).toNatClampNeg = 1 then (0, md_give S 1 (r_no S) (r_en S))
  else if r_sr S (r_no S).toNatClampNeg = 2 then md_at2 S
  else if r_sr S (r_no S).toNatClampNeg = 3 then (0, md_give S 0 (r_nu S (r_no S).toNatClampNeg) 0)
  else if r_sr S (r_no S).toNatClampNeg = 9 then md_at9 S
  else if r_sr S (r_no S).toNatClampNeg = 10 then md_at10 S
  else if r_sr S (r_no S).toNatClampNeg = 11 then md_at11 S
  else md_atd S
/-- the variable p is bound -/
def md_tc (S : ZNS) (p : Int32) : Prop := ∃ n : Nat, n < 1000 ∧ r_nu S p.toNatClampNeg = nI n ∧ md_chain (r_tw S) (r_en S) n
/-- what a step at a node asks of the reference -/
def sr_at (S : ZNS) : Prop := md_lo S ∧ vp_in (r_no S) 200 ∧ (∀ j, j < 600 → vp_in (r_ch S j) 200) ∧
  (r_sr S (r_no S).toNatClampNeg = 0 → md_tc S (r_no S) ∧ vp_in (md_bound S (r_nu S (r_no S).toNatClampNeg)) 256) ∧
  (r_sr S (r_no S).toNatClampNeg = 2 → r_sr (md_f2 S).2 (md_b S).toNatClampNeg = 0 → md_tc (md_f2 S).2 (md_b S)) ∧
  (r_sr S (r_no S).toNatClampNeg = 10 → r_sr (md_f10 S).2 (md_a S).toNatClampNeg = 0 → md_tc (md_f10 S).2 (md_a S)) ∧
  (r_sr S (r_no S).toNatClampNeg = 11 → (r_sr (md_f11 S).2 (md_a S).toNatClampNeg = 0 → md_tc (md_f11 S).2 (md_a S)) ∧ (r_sr (md_thunk (md_f11 S).2 (md_a S)).2 (md_b S).toNatClampNeg = 0 → md_tc (md_thunk (md_f11 S).2 (md_a S)).2 (md_b S)))
theorem nx_ix {x : Int32} (h : vp_in x 200) : vp_in (3 * x) 600 ∧ vp_in (3 * x + 1) 600 ∧ vp_in (3 * x + 2) 600 := by
  obtain ⟨j, hj, rfl⟩ := vp_in_of h (by decide)
  rw [show (3 : Int32) = nI 3 from rfl, pk_mul, show (1 : Int32) = nI 1 from rfl, show (2 : Int32) = nI 2 from rfl, nI_add, nI_add]
  exact ⟨vp_in_nI (by omega) (by decide), vp_in_nI (by omega) (by decide), vp_in_nI (by omega) (by decide)⟩
theorem md_lo_th {S : ZNS} {x : Int32} (h : md_lo S) : md_lo (s_th S x) := h
theorem md_high_eq (S : ZNS) (h : (md_high S).1 = 0) : (md_high S).2 = S := by
  unfold md_high at *
  by_cases h1 : r_fr S = 200
  · rw [if_pos h1] at h; exact absurd h (show ¬ (1 : Int32) = 0 by decide)
  · rw [if_neg h1]
theorem md_full_fix (S : ZNS) (n : Int32) (h : md_lo S) : r_fr (md_full S n).2 = r_fr S ∧ r_sr (md_full S n).2 = r_sr S ∧ r_nu (md_full S n).2 = r_nu S := by
  have he := (md_mark_zk h).2.2
  unfold md_full
  by_cases h1 : r_le (md_mark S) + n ≤ 256
  · rw [if_pos h1]; exact ⟨me_fr he, me_sr he, me_nu he⟩
  · rw [if_neg h1]
    have q1 := me_fr he
    have q2 := me_sr he
    have q3 := me_nu he
    exact ⟨q1, q2, q3⟩
theorem md_thunk_fix (S : ZNS) (p : Int32) : r_fr (md_thunk S p).2 = r_fr S ∧ r_sr (md_thunk S p).2 = r_sr S := by
  unfold md_thunk
  by_cases h1 : r_sr S p.toNatClampNeg = 0
  · rw [if_pos h1]; exact ⟨rfl, rfl⟩
  · rw [if_neg h1]; exact ⟨rfl, rfl⟩
/-- a new cell or none, for a node -/
def md_n (S : ZNS) (p : Int32) : Nat := if r_sr S p.toNatClampNeg = 0 then 0 else 1
theorem md_costs_n (S : ZNS) (p : Int32) : md_costs S p = nI (md_n S p) := by
  unfold md_costs md_n
  by_cases h : r_sr S p.toNatClampNeg = 0
  · rw [if_pos h, if_pos h]; rfl
  · rw [if_neg h, if_neg h]; rfl
theorem md_n_le (S : ZNS) (p : Int32) : md_n S p ≤ 1 := by
  unfold md_n
  by_cases h : r_sr S p.toNatClampNeg = 0
  · rw [if_pos h]; omega
  · rw [if_neg h]; omega
theorem md_n_1 {S : ZNS} {p : Int32} (h : ¬ r_sr S p.toNatClampNeg = 0) : md_n S p = 1 := by
  unfold md_n; rw [if_neg h]
theorem md_n_sr {S Z : ZNS} {p : Int32} (h : r_sr Z = r_sr S) : md_n Z p = md_n S p := by unfold md_n; rw [h]
theorem md_thunk_zc {F : ZNS} {p : Int32} (h : zc (r_re F) 256 + md_n F p ≤ 256) : zc (r_re (md_thunk F p).2) 256 = zc (r_re F) 256 + md_n F p := by
  unfold md_thunk md_n at *
  by_cases h1 : r_sr F p.toNatClampNeg = 0
  · rw [if_pos h1, if_pos h1, Nat.add_zero]
  · rw [if_neg h1] at h
    rw [if_neg h1, if_neg h1]; exact md_cell_zc (by omega)
theorem md_free_of {F : ZNS} (h : zc (r_re F) 256 < 256) : ∃ j : Nat, j < 256 ∧ r_re F j = 0 := zc_free _ _ h
/-- room for c cells: so many are not reached -/
theorem md_full_n {S : ZNS} {x : Int32} {c : Nat} (h : md_lo S) (hc : c ≤ 2) (hx : x = nI c) (h0 : (md_full S x).1 = 0) : zc (r_re (md_full S x).2) 256 + c ≤ 256 := by
  subst hx
  obtain ⟨h1, h2⟩ := md_full_zc h hc h0
  rw [h1]
  exact h2
theorem md_thunk_hj {F : ZNS} {p : Int32} (h : zc (r_re F) 256 + md_n F p ≤ 256) : ¬ r_sr F p.toNatClampNeg = 0 → ∃ j : Nat, j < 256 ∧ r_re F j = 0 := by
  intro h1
  rw [md_n_1 h1] at h
  exact md_free_of (by omega)
theorem md_asks_b (S : ZNS) (t rm : Int32) : (md_asks S t rm).1 = 0 ∨ (md_asks S t rm).1 = 1 := by
  unfold md_asks
  by_cases h1 : r_is S t.toNatClampNeg = 4
  · rw [if_pos h1]; exact Or.inr rfl
  · rw [if_neg h1]
    by_cases h2 : r_is S t.toNatClampNeg = 3
    · rw [if_pos h2]
      by_cases h3 : rm = 0
      · rw [if_pos h3]
        by_cases h4 : (md_high S).1 = 0
        · rw [if_pos h4]; exact Or.inl rfl
        · rw [if_neg h4]; exact Or.inr rfl
      · rw [if_neg h3]; exact Or.inl rfl
    · rw [if_neg h2]; exact Or.inl rfl
