/-! The reference's steps back with a value; run, into, apply. -/
abbrev md_pt (S : ZNS) (n : Int32) : Int32 := if r_sr S n.toNatClampNeg = 12 then r_vo S else r_vt S
def md_part (S : ZNS) (n : Int32) : Int32 × ZNS := if r_is S (md_pt S n).toNatClampNeg = 4 then (1, s_ss S 4) else md_asks (s_fr S (r_fr S - 1)) (md_pt S n) 1
def md_upd (S : ZNS) (t : Int32) : ZNS := s_tw (s_on (s_is (s_fr S (r_fr S - 1)) (upd (r_is S) t.toNatClampNeg (r_vs S))) (upd (r_on S) t.toNatClampNeg (r_vo S))) (upd (r_tw S) t.toNatClampNeg (r_vt S))
def md_arg2 (X : ZNS) (t v : Int32) : ZNS := md_go (md_cell X 5 t (r_vt X)).2 (r_ch X (3 * v).toNatClampNeg) (md_cell X 5 t (r_vt X)).1
def md_arg (S : ZNS) (t : Int32) : Int32 × ZNS := if (md_full S 1).1 = 0 then (0, md_arg2 (s_fr (md_full S 1).2 (r_fr (md_full S 1).2 - 1)) t (r_vo S)) else (1, (md_full S 1).2)
def md_left2 (P : ZNS) (a e : Int32) : ZNS := md_go P (r_ch P (3 * a + 1).toNatClampNeg) e
def md_left (S : ZNS) (a e : Int32) : ZNS := md_left2 (md_push (s_fr S (r_fr S - 1)) 3 (r_sr S a.toNatClampNeg) (r_vo S)) a e
def md_right (S : ZNS) (a e : Int32) : ZNS := md_give (s_fr S (r_fr S - 1)) 0 (ma_reckon a e (r_vo S)) 0
def md_test (S : ZNS) (a e : Int32) : ZNS := md_go (s_fr S (r_fr S - 1)) (r_ch S (3 * a + (if r_vo S = 0 then 1 else 2)).toNatClampNeg) e
def md_ret1 (S : ZNS) (g : Nat) : Int32 × ZNS :=
  if r_wh S g = 0 then (0, md_upd S (r_fi S g))
  else if r_wh S g = 1 then (if r_vs S = 1 then md_arg S (r_fi S g) else (1, s_ss S 3))
  else if r_wh S g = 5 then (if r_vs S = 2 then md_part S (r_fi S g) else (1, s_ss S 3))
  else if r_vs S = 0 then (if r_wh S g = 2 then (0, md_left S (r_fi S g) (r_se S g)) else if r_wh S g = 3 then (0, md_right S (r_fi S g) (r_se S g)) else (0, md_test S (r_fi S g) (r_se S g)))
  else (1, s_ss S 3)
def md_ret (S : ZNS) : Int32 × ZNS := if r_fr S = 0 then (0, s_ss S 2) else md_ret1 S (r_fr S - 1).toNatClampNeg
/-- what a step back with a value asks of the reference -/
def sr_bk (S : ZNS) : Prop := md_lo S ∧ (∀ j, j < 600 → vp_in (r_ch S j) 200) ∧ ∀ g : Nat, r_fr S = nI (g + 1) → g < 200 →
  (r_wh S g = 0 ∨ r_wh S g = 1 ∨ r_wh S g = 2 ∨ r_wh S g = 3 ∨ r_wh S g = 4 ∨ r_wh S g = 5) ∧
  (r_wh S g = 0 → vp_in (r_fi S g) 256) ∧ (r_wh S g = 1 → r_vs S = 1 → vp_in (r_vo S) 200) ∧ (r_wh S g = 2 ∨ r_wh S g = 4 ∨ r_wh S g = 5 → vp_in (r_fi S g) 200) ∧
  (r_wh S g = 5 → r_vs S = 2 → vp_in (md_pt S (r_fi S g)) 256)
theorem md_part_b (S : ZNS) (n : Int32) : (md_part S n).1 = 0 ∨ (md_part S n).1 = 1 := by
  unfold md_part
  by_cases h1 : r_is S (md_pt S n).toNatClampNeg = 4
  · rw [if_pos h1]; exact Or.inr rfl
  · rw [if_neg h1]; exact md_asks_b _ _ _
def md_fin (q : Int32 × ZNS) : ZNS := if q.1 = 0 then s_sp q.2 (r_sp q.2 + 1) else s_sp q.2 (r_sp q.2 + 0)
/-- one turn of the reference's loop -/
def md_step (N : ZNS) : ZNS := if r_ba N = 0 then md_fin (md_at N) else md_fin (md_ret N)
def md_runN : Nat → ZNS → ZNS
  | 0, N => N
  | n + 1, N => if r_ss N = 1 then md_runN n (md_step N) else N
def md_run (S : ZNS) (x : Int32) : Int32 × ZNS := if r_ss S = 0 then (0, s_th S 1) else if x < 0 then (0, s_th S 2) else if x ≤ 5000 then (r_ss (md_runN x.toNatClampNeg (s_th S 0)), md_runN x.toNatClampNeg (s_th S 0)) else (0, s_th S 2)
def md_into (S : ZNS) (k : Int32) : Int32 × ZNS := if r_ss S = 2 ∧ r_vs S = 2 then
    if k < 0 then (0, s_th S 2) else if k ≤ 1 then (r_ss (md_asks (s_ss (s_th S 0) 1) (if k = 0 then r_vo S else r_vt S) 1).2, (md_asks (s_ss (s_th S 0) 1) (if k = 0 then r_vo S else r_vt S) 1).2) else (0, s_th S 2)
  else (0, s_th S 1)
def md_app2 (F : ZNS) (v : Int32) : ZNS := md_go (md_cell (md_cell F 0 v 0).2 5 (md_cell F 0 v 0).1 (r_vt (md_cell F 0 v 0).2)).2 (r_ch (md_cell F 0 v 0).2 (3 * r_vo (md_cell F 0 v 0).2).toNatClampNeg) (md_cell (md_cell F 0 v 0).2 5 (md_cell F 0 v 0).1 (r_vt (md_cell F 0 v 0).2)).1
def md_app (S : ZNS) (v : Int32) : Int32 × ZNS := if r_ss S = 2 ∧ r_vs S = 1 then
    if (md_full (s_ss (s_th S 0) 1) 2).1 = 0 then (r_ss (md_app2 (md_full (s_ss (s_th S 0) 1) 2).2 v), md_app2 (md_full (s_ss (s_th S 0) 1) 2).2 v) else (r_ss (md_full (s_ss (s_th S 0) 1) 2).2, (md_full (s_ss (s_th S 0) 1) 2).2)
  else (0, s_th S 1)
