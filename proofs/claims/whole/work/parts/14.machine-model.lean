/-! The machine, as functions of its contents. -/
abbrev l_ss (M : ZMS) : Int32 := M.1.1
abbrev l_sp (M : ZMS) : Int32 := M.1.2.1
abbrev l_fo (M : ZMS) : Int32 := M.1.2.2.1
abbrev l_ba (M : ZMS) : Int32 := M.1.2.2.2.1
abbrev l_no (M : ZMS) : Int32 := M.1.2.2.2.2.1
abbrev l_en (M : ZMS) : Int32 := M.1.2.2.2.2.2.1
abbrev l_vs (M : ZMS) : Int32 := M.1.2.2.2.2.2.2.1
abbrev l_vf (M : ZMS) : Int32 := M.1.2.2.2.2.2.2.2.1
abbrev l_vg (M : ZMS) : Int32 := M.1.2.2.2.2.2.2.2.2
abbrev m_H (M : ZMS) : ZHS := M.2.1
abbrev m_P (M : ZMS) : ZPS := M.2.2.1
abbrev m_X (M : ZMS) : ZTS := M.2.2.2.1
abbrev m_Y (M : ZMS) : ZTS := M.2.2.2.2
def ma_setH (M : ZMS) (S : ZHS) : ZMS := (M.1, S, M.2.2)
def ma_setP (M : ZMS) (P : ZPS) : ZMS := (M.1, M.2.1, P, M.2.2.2)
def ma_enter (M : ZMS) (a b : Int32) : ZMS := ((l_ss M, l_sp M, l_fo M, 0, a, b, l_vs M, l_vf M, l_vg M), M.2)
def ma_back (M : ZMS) (a b c : Int32) : ZMS := ((l_ss M, l_sp M, l_fo M, 1, l_no M, l_en M, a, b, c), M.2)
def ma_force (M : ZMS) : ZMS := ((l_ss M, l_sp M, l_fo M + 1, l_ba M, l_no M, l_en M, l_vs M, l_vf M, l_vg M), M.2)
def ma_stat (M : ZMS) (x : Int32) : ZMS := ((x, l_sp M, l_fo M, l_ba M, l_no M, l_en M, l_vs M, l_vf M, l_vg M), M.2)
def ma_begin (M : ZMS) (x : Int32) : ZMS := ((x, 0, 0, 0, 0, -1, l_vs M, l_vf M, l_vg M), hp_sweep (hp_begin (m_H M)), pl_empty (m_P M), m_X M, m_Y M)
def ma_roots (M : ZMS) : ZHS := pl_reach (m_P M) (if l_ba M = 0 then hp_reach (hp_begin (m_H M)) (l_en M) else hp_from (hp_begin (m_H M)) (l_vs M) (l_vf M) (l_vg M))
def ma_gc (M : ZMS) : ZMS := ma_setH M (hp_sweep (hp_spread (ma_roots M)))
def ma_roomM (M : ZMS) (n : Int32) : ZMS := if n ≤ h_fr (m_H M) then M else ma_gc M
def ma_room (M : ZMS) (n : Int32) : Int32 × ZMS := (if h_fr (m_H (ma_roomM M n)) < n then 0 else 1, ma_roomM M n)
def ma_cells (M : ZMS) (p : Int32) : Int32 := if t_so (m_Y M) p.toNatClampNeg = 0 then 0 else 1
def ma_thunk (M : ZMS) (p : Int32) : Int32 × ZMS := if t_so (m_Y M) p.toNatClampNeg = 0 then (hp_bound (m_H M) (l_en M) (t_xs (m_Y M) p.toNatClampNeg), M) else ((hp_take (m_H M) 3 p (l_en M)).1, ma_setH M (hp_take (m_H M) 3 p (l_en M)).2)
def ma_under (M : ZMS) (f a b : Int32) : Int32 × ZMS := if pl_full (m_P M) = 0 then (1, ma_enter (ma_setP M (pl_add (m_P M) f a b)) (tm_part (m_Y M) (l_no M) 0) (l_en M)) else (5, M)
def ma_apply1 (M : ZMS) : Int32 × ZMS := if pl_full (m_P M) = 0 then
    if (ma_room M (ma_cells M (tm_part (m_Y M) (l_no M) 1))).1 = 0 then (6, (ma_room M (ma_cells M (tm_part (m_Y M) (l_no M) 1))).2)
    else ma_under (ma_thunk (ma_room M (ma_cells M (tm_part (m_Y M) (l_no M) 1))).2 (tm_part (m_Y M) (l_no M) 1)).2 1 (ma_thunk (ma_room M (ma_cells M (tm_part (m_Y M) (l_no M) 1))).2 (tm_part (m_Y M) (l_no M) 1)).1 (-1)
  else (5, M)
def ma_ask (M : ZMS) (t : Int32) : Int32 × ZMS := if hp_state (m_H M) t = 4 then (4, M) else
    if hp_state (m_H M) t = 3 then
      if pl_full (m_P M) = 0 then (1, ma_enter (ma_setP (ma_force (ma_setH M (hp_become (m_H M) t 4 (-1) (-1)))) (pl_add (m_P M) 0 t (-1))) (hp_first (m_H M) t) (hp_second (m_H M) t)) else (5, M)
    else (1, ma_back M (hp_state (m_H M) t) (hp_first (m_H M) t) (hp_second (m_H M) t))
def ma_link (M : ZMS) (t env : Int32) : Int32 × ZMS := ((hp_take (m_H M) 5 t env).1, ma_setH M (hp_take (m_H M) 5 t env).2)
def ma_fun (M : ZMS) (t : Int32) : ZMS := ma_enter (ma_link M t (l_vg M)).2 (tm_part (m_Y M) (l_vf M) 0) (ma_link M t (l_vg M)).1
def ma_reckon (a b c : Int32) : Int32 := if a = 4 then b + c else if a = 5 then b - c else if a = 6 then b * c else if c ≤ b then 0 else 1
def ma_fix2 (N : ZMS) : Int32 × ZMS :=
  (1, ma_enter (ma_setP (ma_force (ma_setH N (hp_take (hp_take (m_H N) 4 (-1) (-1)).2 5 (hp_take (m_H N) 4 (-1) (-1)).1 (l_en N)).2)) (pl_add (m_P N) 0 (hp_take (m_H N) 4 (-1) (-1)).1 (-1)))
    (tm_part (m_Y N) (l_no N) 0) (hp_take (hp_take (m_H N) 4 (-1) (-1)).2 5 (hp_take (m_H N) 4 (-1) (-1)).1 (l_en N)).1)
def ma_fix (M : ZMS) : Int32 × ZMS := if pl_full (m_P M) = 0 then
    if (ma_room M 2).1 = 0 then (6, (ma_room M 2).2) else ma_fix2 (ma_room M 2).2
  else (5, M)
def ma_let2 (N : ZMS) (t : Int32) : Int32 × ZMS := (1, ma_enter (ma_setH N (hp_take (m_H N) 5 t (l_en N)).2) (tm_part (m_Y N) (l_no N) 1) (hp_take (m_H N) 5 t (l_en N)).1)
def ma_let (M : ZMS) : Int32 × ZMS :=
  if (ma_room M (ma_cells M (tm_part (m_Y M) (l_no M) 0) + 1)).1 = 0 then (6, (ma_room M (ma_cells M (tm_part (m_Y M) (l_no M) 0) + 1)).2)
  else ma_let2 (ma_thunk (ma_room M (ma_cells M (tm_part (m_Y M) (l_no M) 0) + 1)).2 (tm_part (m_Y M) (l_no M) 0)).2 (ma_thunk (ma_room M (ma_cells M (tm_part (m_Y M) (l_no M) 0) + 1)).2 (tm_part (m_Y M) (l_no M) 0)).1
/-- a pair's two parts, room for both -/
def ma_pairM (M : ZMS) : ZMS := (ma_room M (ma_cells M (tm_part (m_Y M) (l_no M) 0) + ma_cells M (tm_part (m_Y M) (l_no M) 1))).2
def ma_pair (M : ZMS) : Int32 × ZMS :=
  if (ma_room M (ma_cells M (tm_part (m_Y M) (l_no M) 0) + ma_cells M (tm_part (m_Y M) (l_no M) 1))).1 = 0 then (6, ma_pairM M)
  else (1, ma_back (ma_thunk (ma_thunk (ma_pairM M) (tm_part (m_Y M) (l_no M) 0)).2 (tm_part (m_Y M) (l_no M) 1)).2 2 (ma_thunk (ma_pairM M) (tm_part (m_Y M) (l_no M) 0)).1 (ma_thunk (ma_thunk (ma_pairM M) (tm_part (m_Y M) (l_no M) 0)).2 (tm_part (m_Y M) (l_no M) 1)).1)
def ma_at (M : ZMS) : Int32 × ZMS :=
  if t_so (m_Y M) (l_no M).toNatClampNeg = 0 then ma_ask M (hp_bound (m_H M) (l_en M) (t_xs (m_Y M) (l_no M).toNatClampNeg))
  else if t_so (m_Y M) (l_no M).toNatClampNeg = 1 then (1, ma_back M 1 (l_no M) (l_en M))
  else if t_so (m_Y M) (l_no M).toNatClampNeg = 2 then ma_apply1 M
  else if t_so (m_Y M) (l_no M).toNatClampNeg = 3 then (1, ma_back M 0 (t_xs (m_Y M) (l_no M).toNatClampNeg) (-1))
  else if t_so (m_Y M) (l_no M).toNatClampNeg = 8 then ma_under M 4 (l_no M) (l_en M)
  else if t_so (m_Y M) (l_no M).toNatClampNeg = 9 then ma_fix M
  else if t_so (m_Y M) (l_no M).toNatClampNeg = 10 then ma_let M
  else if t_so (m_Y M) (l_no M).toNatClampNeg = 11 then ma_pair M
  else if t_so (m_Y M) (l_no M).toNatClampNeg = 12 then ma_under M 5 0 (-1)
  else if t_so (m_Y M) (l_no M).toNatClampNeg = 13 then ma_under M 5 1 (-1)
  else ma_under M 2 (l_no M) (l_en M)
def ma_arg (M : ZMS) (t : Int32) : Int32 × ZMS := if l_vs M = 1 then
    if (ma_room M 1).1 = 0 then (6, (ma_room M 1).2) else (1, ma_fun (ma_setP (ma_room M 1).2 (pl_drop (m_P (ma_room M 1).2))) t)
  else (3, M)
def ma_left (M : ZMS) (n e : Int32) : Int32 × ZMS := if l_vs M = 0 then (1, ma_enter (ma_setP M (pl_add (pl_drop (m_P M)) 3 n (l_vf M))) (tm_part (m_Y M) n 1) e) else (3, M)
def ma_right (M : ZMS) (n x : Int32) : Int32 × ZMS := if l_vs M = 0 then (1, ma_back (ma_setP M (pl_drop (m_P M))) 0 (ma_reckon (t_so (m_Y M) n.toNatClampNeg) x (l_vf M)) (-1)) else (3, M)
def ma_test (M : ZMS) (n e : Int32) : Int32 × ZMS := if l_vs M = 0 then (1, ma_enter (ma_setP M (pl_drop (m_P M))) (tm_part (m_Y M) n (if l_vf M = 0 then 1 else 2)) e) else (3, M)
def ma_part (M : ZMS) (w : Int32) : Int32 × ZMS := if l_vs M = 2 then
    if hp_state (m_H M) (if w = 0 then l_vf M else l_vg M) = 4 then (4, M) else ma_ask (ma_setP M (pl_drop (m_P M))) (if w = 0 then l_vf M else l_vg M)
  else (3, M)
def ma_bk (M : ZMS) : Int32 × ZMS :=
  if pl_topSort (m_P M) = 0 then (1, ma_setH (ma_setP M (pl_drop (m_P M))) (hp_become (m_H M) (pl_topFirst (m_P M)) (l_vs M) (l_vf M) (l_vg M)))
  else if pl_topSort (m_P M) = 1 then ma_arg M (pl_topFirst (m_P M))
  else if pl_topSort (m_P M) = 2 then ma_left M (pl_topFirst (m_P M)) (pl_topSecond (m_P M))
  else if pl_topSort (m_P M) = 3 then ma_right M (pl_topFirst (m_P M)) (pl_topSecond (m_P M))
  else if pl_topSort (m_P M) = 4 then ma_test M (pl_topFirst (m_P M)) (pl_topSecond (m_P M))
  else if pl_topSort (m_P M) = 5 then ma_part M (pl_topFirst (m_P M))
  else (2, M)
def ma_tick (M : ZMS) : ZMS := ((l_ss M, l_sp M + 1, l_fo M, l_ba M, l_no M, l_en M, l_vs M, l_vf M, l_vg M), M.2)
def ma_fin (q : Int32 × ZMS) : ZMS := if q.1 = 1 then ma_tick (ma_stat q.2 q.1) else if q.1 = 2 then ma_tick (ma_stat q.2 q.1) else ma_stat q.2 q.1
/-- one turn of run's loop -/
def ma_step (N : ZMS) : ZMS := if l_ba N = 0 then ma_fin (ma_at N) else ma_fin (ma_bk N)
def ma_runN : Nat → ZMS → ZMS
  | 0, N => N
  | n + 1, N => if l_ss N = 1 then ma_runN n (ma_step N) else N
def ma_may (a b : Int32) : Int32 := if a = 0 then (if b < 0 then 0 else if 40 < b then 0 else 1) else if a = 3 then 1 else if b = 0 then 1 else 0
def ma_setX (M : ZMS) (X : ZTS) : ZMS := (M.1, M.2.1, M.2.2.1, X, M.2.2.2.2)
def ma_put (M : ZMS) (a b : Int32) : Int32 × ZMS := if (tm_add (m_X M) a b).1 = 0 then (-1, ma_setX M (tm_add (m_X M) a b).2) else (t_sz (tm_add (m_X M) a b).2, ma_setX M (tm_add (m_X M) a b).2)
/-- the two terms change places -/
def ma_load (M : ZMS) : Int32 × ZMS := ((tm_settle (m_X M)).1, ma_begin (M.1, M.2.1, M.2.2.1, tm_clear (m_Y M), if (tm_settle (m_X M)).1 = 0 then (tm_settle (m_X M)).2 else tm_clear (tm_settle (m_X M)).2) (if (tm_settle (m_X M)).1 = 0 then 1 else 0))
/-- the addresses behind load -/
def lm_sw (ad : Nat → Nat) : Nat → Nat := fun k => if k < 12 then ad k else if k < 19 then ad (k + 7) else if k < 26 then ad (k - 7) else ad k
def ma_result (M : ZMS) (w : Int32) : Int32 := if w = 0 then l_vs M else if w = 1 ∧ l_vs M = 0 ∨ w = 2 ∧ l_vs M = 1 then l_vf M else -1
def ma_into (M : ZMS) (k : Int32) : Int32 × ZMS := ((ma_ask M (if k = 0 then l_vf M else l_vg M)).1, ma_stat (ma_ask M (if k = 0 then l_vf M else l_vg M)).2 (ma_ask M (if k = 0 then l_vf M else l_vg M)).1)
def ma_app (M : ZMS) (v : Int32) : Int32 × ZMS := if (ma_room M 2).1 = 0 then (6, ma_stat (ma_room M 2).2 6)
  else (1, ma_stat (ma_fun (ma_setH (ma_room M 2).2 (hp_take (m_H (ma_room M 2).2) 0 v (-1)).2) (hp_take (m_H (ma_room M 2).2) 0 v (-1)).1) 1)
def ma_count (M : ZMS) (w : Int32) : Int32 × ZMS :=
  if w = 0 then (t_sz (m_X M), M) else if w = 1 then (t_sz (m_Y M), M) else if w = 2 then (l_ss M, M) else if w = 3 then (l_sp M, M) else if w = 4 then (l_fo M, M)
  else if w = 5 then (p_sz (m_P M), M) else if w = 6 then (h_rc (hp_spread (ma_roots M)), ma_setH M (hp_spread (ma_roots M)))
  else if w = 7 then (if l_ss M = 0 then (-1, M) else if l_ba M = 0 then (l_no M, M) else (-1, M)) else if w = 8 then (p_mo (m_P M), M) else (-1, M)
/-! What marking and freeing leave as it was. -/
/-- the cells' own rows are the same -/
def hp_eq (Z S : ZHS) : Prop := h_st Z = h_st S ∧ h_fi Z = h_fi S ∧ h_se Z = h_se S
theorem hp_eq_rf (S : ZHS) : hp_eq S S := ⟨rfl, rfl, rfl⟩
theorem hp_eq_tr {A B C : ZHS} (h : hp_eq A B) (g : hp_eq B C) : hp_eq A C := ⟨h.1.trans g.1, h.2.1.trans g.2.1, h.2.2.trans g.2.2⟩
theorem hp_eq_reach (S : ZHS) (x : Int32) : hp_eq (hp_reach S x) S := by
  obtain ⟨h1, h2, h3, -⟩ := hp_reach_fix S x
  exact ⟨h1, h2, h3⟩
theorem hp_eq_from (S : ZHS) (a b c : Int32) : hp_eq (hp_from S a b c) S := by
  obtain ⟨h1, h2, h3, -⟩ := hp_from_fix S a b c
  exact ⟨h1, h2, h3⟩
theorem hp_ok_eq {Z S : ZHS} (h : hp_eq Z S) (g : hp_ok S) : hp_ok Z := by
  intro j hj
  rw [h.1, h.2.1, h.2.2]
  exact g j hj
theorem pl_eq1 (P : ZPS) (S : ZHS) (k : Nat) : hp_eq (pl_reach1 P S k) S := by
  unfold pl_reach1
  by_cases h1 : p_so P k = 0
  · rw [if_pos h1]; exact hp_eq_reach _ _
  · rw [if_neg h1]
    by_cases h2 : p_so P k = 1
    · rw [if_pos h2]; exact hp_eq_reach _ _
    · rw [if_neg h2]
      by_cases h3 : p_so P k = 2
      · rw [if_pos h3]; exact hp_eq_reach _ _
      · rw [if_neg h3]
        by_cases h4 : p_so P k = 4
        · rw [if_pos h4]; exact hp_eq_reach _ _
        · rw [if_neg h4]; exact hp_eq_rf _
theorem pl_eqN (P : ZPS) : ∀ (n k : Nat) (S : ZHS), hp_eq (pl_reachN P n k S) S := by
  intro n
  induction n with
  | zero => intro k S; exact hp_eq_rf _
  | succ n ih => intro k S; exact hp_eq_tr (ih (k + 1) (pl_reach1 P S k)) (pl_eq1 P S k)
theorem pl_mkN {P : ZPS} {z : Nat} (hc : ∀ j, j < z → (p_so P j = 0 ∨ p_so P j = 1 → hp_c (p_fi P j)) ∧ (p_so P j = 2 ∨ p_so P j = 4 → hp_c (p_se P j))) : ∀ (n k : Nat) (S : ZHS), k + n ≤ z → hp_mk S → hp_mk (pl_reachN P n k S) := by
  intro n
  induction n with
  | zero => intro k S _ h; exact h
  | succ n ih => intro k S hk h; exact ih (k + 1) (pl_reach1 P S k) (by omega) (pl_mk1 h (hc k (by omega)))
theorem hp_mk_pl {P : ZPS} {S : ZHS} (hc : pl_cells P) (h : hp_mk S) : hp_mk (pl_reach P S) := pl_mkN hc _ 0 S (by omega) h
theorem hp_mk_begin (S : ZHS) : hp_mk (hp_begin S) := ⟨0, by omega, rfl, fun i hi => absurd hi (Nat.not_lt_zero _), fun i j hi => absurd hi (Nat.not_lt_zero _)⟩
theorem hp_eq_begin (S : ZHS) : hp_eq (hp_begin S) S := ⟨rfl, rfl, rfl⟩
theorem hp_eq_spreadN : ∀ (n k : Nat) (S : ZHS), hp_eq (hp_spreadN n k S) S := by
  intro n
  induction n with
  | zero => intro k S; rw [hp_spreadN]; exact hp_eq_rf _
  | succ n ih =>
    intro k S
    rw [hp_spreadN]
    by_cases h : h_rc S ≤ nI k
    · rw [if_pos h]; exact hp_eq_rf _
    · rw [if_neg h]; exact hp_eq_tr (ih _ _) (hp_eq_from _ _ _ _)
theorem hp_eq_spread (S : ZHS) : hp_eq (hp_spread S) S := hp_eq_spreadN 256 0 S
def hp_sw1 (Z : ZHS) (k : Nat) : ZHS := if h_mk Z k = h_rd Z then Z else (h_st Z, h_fi Z, h_se Z, upd (h_fc Z) (h_fr Z).toNatClampNeg (nI k), h_mk Z, h_re Z, h_fr Z + 1, h_rd Z, h_rc Z)
theorem hp_eq_sw1 (S : ZHS) (k : Nat) : hp_eq (hp_sw1 S k) S := by
  unfold hp_sw1
  by_cases h : h_mk S k = h_rd S
  · rw [if_pos h]; exact hp_eq_rf _
  · rw [if_neg h]; exact ⟨rfl, rfl, rfl⟩
theorem hp_eq_sweepN : ∀ (n k : Nat) (S : ZHS), hp_eq (hp_sweepN n k S) S := by
  intro n
  induction n with
  | zero => intro k S; rw [hp_sweepN]; exact hp_eq_rf _
  | succ n ih => intro k S; rw [hp_sweepN]; exact hp_eq_tr (ih (k + 1) (hp_sw1 S k)) (hp_eq_sw1 S k)
theorem hp_eq_sweep (S : ZHS) : hp_eq (hp_sweep S) S := hp_eq_tr (hp_eq_sweepN 256 0 (hp_setfr S 0)) ⟨rfl, rfl, rfl⟩
theorem hp_fok_sw1 {Z : ZHS} {k f : Nat} (hf : f ≤ k) (hk : k < 256) (hr : h_fr Z = nI f) (hc : ∀ j, j < f → vp_in (h_fc Z j) 256) : ∃ g, g ≤ k + 1 ∧ h_fr (hp_sw1 Z k) = nI g ∧ ∀ j, j < g → vp_in (h_fc (hp_sw1 Z k) j) 256 := by
  unfold hp_sw1
  by_cases h : h_mk Z k = h_rd Z
  · rw [if_pos h]; exact ⟨f, by omega, hr, hc⟩
  · rw [if_neg h]
    refine ⟨f + 1, by omega, ?_, ?_⟩
    · show h_fr Z + 1 = nI (f + 1)
      rw [hr]; exact (nI_succ f).symm
    · intro j hj
      show vp_in (upd (h_fc Z) (h_fr Z).toNatClampNeg (nI k) j) 256
      rw [hr, nI_clamp (by omega)]
      by_cases hjf : j = f
      · subst hjf; rw [pk_us]; exact vp_in_nI hk (by decide)
      · rw [pk_un hjf]; exact hc j (by omega)
theorem hp_fok_sweepN : ∀ (n k f : Nat) (Z : ZHS), k + n = 256 → f ≤ k → h_fr Z = nI f → (∀ j, j < f → vp_in (h_fc Z j) 256) → hp_fok (hp_sweepN n k Z) := by
  intro n
  induction n with
  | zero => intro k f Z hk hf hr hc; rw [hp_sweepN]; exact ⟨f, by omega, hr, hc⟩
  | succ n ih =>
    intro k f Z hk hf hr hc
    obtain ⟨g, hg, hr2, hc2⟩ := hp_fok_sw1 hf (by omega) hr hc
    rw [hp_sweepN]
    exact ih (k + 1) g (hp_sw1 Z k) (by omega) hg hr2 hc2
theorem hp_fok_sweep (S : ZHS) : hp_fok (hp_sweep S) := hp_fok_sweepN 256 0 0 (hp_setfr S 0) rfl (by omega) rfl (fun j hj => absurd hj (Nat.not_lt_zero _))
theorem hp_fok_become {S : ZHS} {x a b c : Int32} (h : hp_fok S) : hp_fok (hp_become S x a b c) := by
  unfold hp_become
  by_cases h1 : x = -1
  · rw [if_pos h1]; exact h
  · rw [if_neg h1]; exact h
theorem hp_fok_take {S : ZHS} {a b c : Int32} (h : hp_fok S) : hp_fok (hp_take S a b c).2 := by
  unfold hp_take
  by_cases h1 : h_fr S = 0
  · rw [if_pos h1]; exact h
  · rw [if_neg h1]
    refine hp_fok_become ?_
    obtain ⟨f, hf, hr, hc⟩ := h
    obtain ⟨g, rfl⟩ : ∃ g, f = g + 1 := by
      rcases f with _ | g
      · exact absurd hr h1
      · exact ⟨g, rfl⟩
    refine ⟨g, by omega, ?_, fun j hj => hc j (by omega)⟩
    show h_fr S - 1 = nI g
    rw [hr]; exact nI_pred g
/-- what the machine's methods ask of their rows so that no index is out -/
def ma_lo (M : ZMS) : Prop := hp_ok (m_H M) ∧ hp_fok (m_H M) ∧ pl_ok (m_P M) ∧ pl_cells (m_P M) ∧ (l_ba M = 0 → hp_c (l_en M)) ∧ (¬ l_ba M = 0 → (l_vs M = 5 ∨ l_vs M = 2 → hp_c (l_vf M)) ∧ hp_c (l_vg M))
def tm_lo (Y : ZTS) : Prop := (∀ j, j < 600 → vp_in (t_pa Y j) 200) ∧ ∀ j, j < 200 → t_so Y j = 0 → ∃ n : Nat, n < 1000 ∧ t_xs Y j = nI n
theorem ma_mk_roots {M : ZMS} (h : ma_lo M) : hp_mk (ma_roots M) := by
  obtain ⟨_, _, _, h4, h5, h6⟩ := h
  unfold ma_roots
  refine hp_mk_pl h4 ?_
  by_cases hb : l_ba M = 0
  · rw [if_pos hb]; exact hp_mk_reach (hp_mk_begin _) (h5 hb)
  · rw [if_neg hb]; exact hp_mk_from (hp_mk_begin _) (h6 hb).1 (h6 hb).2
theorem ma_eq_roots (M : ZMS) : hp_eq (ma_roots M) (m_H M) := by
  unfold ma_roots pl_reach
  refine hp_eq_tr (pl_eqN _ _ _ _) ?_
  by_cases hb : l_ba M = 0
  · rw [if_pos hb]; exact hp_eq_tr (hp_eq_reach _ _) (hp_eq_begin _)
  · rw [if_neg hb]; exact hp_eq_tr (hp_eq_from _ _ _ _) (hp_eq_begin _)
theorem ma_gc_H (M : ZMS) : m_H (ma_gc M) = hp_sweep (hp_spread (ma_roots M)) := by
  unfold ma_gc ma_setH
  rfl
theorem ma_lo_gc {M : ZMS} (h : ma_lo M) : ma_lo (ma_gc M) := by
  unfold ma_lo
  rw [ma_gc_H]
  refine ⟨hp_ok_eq (hp_eq_tr (hp_eq_sweep (hp_spread (ma_roots M))) (hp_eq_tr (hp_eq_spread (ma_roots M)) (ma_eq_roots M))) h.1, hp_fok_sweep (hp_spread (ma_roots M)), h.2.2.1, h.2.2.2.1, h.2.2.2.2.1, h.2.2.2.2.2⟩
theorem ma_lo_room {M : ZMS} {n : Int32} (h : ma_lo M) : ma_lo (ma_roomM M n) := by
  unfold ma_roomM
  by_cases h1 : n ≤ h_fr (m_H M)
  · rw [if_pos h1]; exact h
  · rw [if_neg h1]; exact ma_lo_gc h
theorem nd_ix {x : Int32} (h : vp_in x 200) {w : Nat} (hw : w < 3) : vp_in (x * 3 + nI w) 600 := by
  obtain ⟨j, hj, rfl⟩ := vp_in_of h (by decide)
  rw [show (3 : Int32) = nI 3 from rfl, pk_mul, nI_add]
  exact vp_in_nI (by omega) (by decide)
theorem nd_part {Y : ZTS} {x : Int32} (hY : tm_lo Y) (h : vp_in x 200) {w : Nat} (hw : w < 3) : vp_in (tm_part Y x (nI w)) 200 := hY.1 _ (hp_in_lt (nd_ix h hw) (by decide))
theorem ma_room_fix (M : ZMS) (n : Int32) : (ma_room M n).2.1 = M.1 ∧ (ma_room M n).2.2.2 = M.2.2 := by
  show (ma_roomM M n).1 = M.1 ∧ (ma_roomM M n).2.2 = M.2.2
  unfold ma_roomM
  by_cases h1 : n ≤ h_fr (m_H M)
  · rw [if_pos h1]; exact ⟨rfl, rfl⟩
  · rw [if_neg h1]; exact ⟨rfl, rfl⟩
theorem ma_room_P (M : ZMS) (n : Int32) : m_P (ma_room M n).2 = m_P M := by show (ma_room M n).2.2.2.1 = _; rw [(ma_room_fix M n).2]
theorem ma_room_Y (M : ZMS) (n : Int32) : m_Y (ma_room M n).2 = m_Y M := by show (ma_room M n).2.2.2.2.2 = _; rw [(ma_room_fix M n).2]
theorem ma_room_no (M : ZMS) (n : Int32) : l_no (ma_room M n).2 = l_no M := by show (ma_room M n).2.1.2.2.2.2.1 = _; rw [(ma_room_fix M n).1]
theorem ma_room_en (M : ZMS) (n : Int32) : l_en (ma_room M n).2 = l_en M := by show (ma_room M n).2.1.2.2.2.2.2.1 = _; rw [(ma_room_fix M n).1]
theorem ma_room_vf (M : ZMS) (n : Int32) : l_vf (ma_room M n).2 = l_vf M := by show (ma_room M n).2.1.2.2.2.2.2.2.2.1 = _; rw [(ma_room_fix M n).1]
theorem ma_thunk_fix (M : ZMS) (p : Int32) : (ma_thunk M p).2.1 = M.1 ∧ (ma_thunk M p).2.2.2 = M.2.2 := by
  unfold ma_thunk
  by_cases h1 : t_so (m_Y M) p.toNatClampNeg = 0
  · rw [if_pos h1]; exact ⟨rfl, rfl⟩
  · rw [if_neg h1]; exact ⟨rfl, rfl⟩
theorem ma_thunk_P (M : ZMS) (p : Int32) : m_P (ma_thunk M p).2 = m_P M := by show (ma_thunk M p).2.2.2.1 = _; rw [(ma_thunk_fix M p).2]
theorem ma_thunk_Y (M : ZMS) (p : Int32) : m_Y (ma_thunk M p).2 = m_Y M := by show (ma_thunk M p).2.2.2.2.2 = _; rw [(ma_thunk_fix M p).2]
theorem ma_thunk_no (M : ZMS) (p : Int32) : l_no (ma_thunk M p).2 = l_no M := by show (ma_thunk M p).2.1.2.2.2.2.1 = _; rw [(ma_thunk_fix M p).1]
theorem ma_thunk_en (M : ZMS) (p : Int32) : l_en (ma_thunk M p).2 = l_en M := by show (ma_thunk M p).2.1.2.2.2.2.2.1 = _; rw [(ma_thunk_fix M p).1]
theorem th_room {M : ZMS} {n : Int32} (hi : ma_lo M) (ht : tm_lo (m_Y M)) (he : hp_c (l_en M)) : (∀ j, j < 256 → hp_c (h_se (m_H (ma_room M n).2) j)) ∧ hp_fok (m_H (ma_room M n).2) ∧ hp_c (l_en (ma_room M n).2) ∧ tm_lo (m_Y (ma_room M n).2) :=
  ⟨fun j hj => ((ma_lo_room (n := n) hi).1 j hj).2, (ma_lo_room (n := n) hi).2.1, by rw [ma_room_en]; exact he, by rw [ma_room_Y]; exact ht⟩
theorem hp_fok_thunk {M : ZMS} {p : Int32} (h : hp_fok (m_H M)) : hp_fok (m_H (ma_thunk M p).2) := by
  unfold ma_thunk
  by_cases h1 : t_so (m_Y M) p.toNatClampNeg = 0
  · rw [if_pos h1]; exact h
  · rw [if_neg h1]; exact hp_fok_take h
theorem hp_se_become {S : ZHS} {x a b c : Int32} (h : ∀ j, j < 256 → hp_c (h_se S j)) (hc : hp_c c) : ∀ j, j < 256 → hp_c (h_se (hp_become S x a b c) j) := by
  intro j hj
  unfold hp_become
  by_cases h1 : x = -1
  · rw [if_pos h1]; exact h j hj
  · rw [if_neg h1]
    show hp_c (upd (h_se S) x.toNatClampNeg c j)
    unfold upd
    by_cases h2 : j = x.toNatClampNeg
    · rw [if_pos h2]; exact hc
    · rw [if_neg h2]; exact h j hj
theorem hp_se_take {S : ZHS} {a b c : Int32} (h : ∀ j, j < 256 → hp_c (h_se S j)) (hc : hp_c c) : ∀ j, j < 256 → hp_c (h_se (hp_take S a b c).2 j) := by
  unfold hp_take
  by_cases h1 : h_fr S = 0
  · rw [if_pos h1]; exact h
  · rw [if_neg h1]; exact hp_se_become (S := hp_setfr S (h_fr S - 1)) h hc
theorem hp_se_thunk {M : ZMS} {p : Int32} (h : ∀ j, j < 256 → hp_c (h_se (m_H M) j)) (he : hp_c (l_en M)) : ∀ j, j < 256 → hp_c (h_se (m_H (ma_thunk M p).2) j) := by
  unfold ma_thunk
  by_cases h1 : t_so (m_Y M) p.toNatClampNeg = 0
  · rw [if_pos h1]; exact h
  · rw [if_neg h1]; exact hp_se_take h he
theorem pl_ok_drop {P : ZPS} (h : pl_ok P) : pl_ok (pl_drop P) := by
  unfold pl_drop
  by_cases h1 : p_sz P ≤ 0
  · rw [if_pos h1]; exact h
  · rw [if_neg h1]
    obtain ⟨z, hz, hs⟩ := h
    obtain ⟨g, rfl⟩ : ∃ g, z = g + 1 := by
      rcases z with _ | g
      · exact absurd (by rw [hs]; decide) h1
      · exact ⟨g, rfl⟩
    exact ⟨g, by omega, by show p_sz P - 1 = nI g; rw [hs]; exact nI_pred g⟩
/-- what a step at a node asks -/
def sf_at (M : ZMS) : Prop := ma_lo M ∧ tm_lo (m_Y M) ∧ vp_in (l_no M) 200 ∧ hp_c (l_en M) ∧ (t_so (m_Y M) (l_no M).toNatClampNeg = 0 → hp_c (hp_bound (m_H M) (l_en M) (t_xs (m_Y M) (l_no M).toNatClampNeg)))
/-- what a step back with a value asks -/
def sf_bk (M : ZMS) : Prop := ma_lo M ∧ (pl_topSort (m_P M) = 0 → hp_c (pl_topFirst (m_P M))) ∧ (l_vs M = 1 → vp_in (l_vf M) 200) ∧ (l_vs M = 2 → hp_c (l_vf M) ∧ hp_c (l_vg M)) ∧ (pl_topSort (m_P M) = 2 ∨ pl_topSort (m_P M) = 3 ∨ pl_topSort (m_P M) = 4 → vp_in (pl_topFirst (m_P M)) 200)
def sf_step (M : ZMS) : Prop := (l_ba M = 0 → sf_at M) ∧ (¬ l_ba M = 0 → sf_bk M)
