/-! The pile and the term's rows, as functions of their contents. -/
abbrev p_so (S : ZPS) : Nat → Int32 := S.1
abbrev p_fi (S : ZPS) : Nat → Int32 := S.2.1
abbrev p_se (S : ZPS) : Nat → Int32 := S.2.2.1
abbrev p_sz (S : ZPS) : Int32 := S.2.2.2.1
abbrev p_mo (S : ZPS) : Int32 := S.2.2.2.2
/-- how many frames -/
def pl_ok (S : ZPS) : Prop := ∃ z : Nat, z ≤ 200 ∧ p_sz S = nI z
def pl_empty (S : ZPS) : ZPS := (p_so S, p_fi S, p_se S, 0, 0)
def pl_full (S : ZPS) : Int32 := if p_sz S = 200 then 1 else 0
def pl_add (S : ZPS) (a b c : Int32) : ZPS := if p_sz S = 200 then S else (upd (p_so S) (p_sz S).toNatClampNeg a, upd (p_fi S) (p_sz S).toNatClampNeg b, upd (p_se S) (p_sz S).toNatClampNeg c, p_sz S + 1, if p_mo S < p_sz S + 1 then p_sz S + 1 else p_mo S)
def pl_drop (S : ZPS) : ZPS := if p_sz S ≤ 0 then S else (p_so S, p_fi S, p_se S, p_sz S - 1, p_mo S)
def pl_topSort (S : ZPS) : Int32 := if p_sz S = 0 then -1 else p_so S (p_sz S - 1).toNatClampNeg
def pl_topFirst (S : ZPS) : Int32 := if p_sz S = 0 then -1 else p_fi S (p_sz S - 1).toNatClampNeg
def pl_topSecond (S : ZPS) : Int32 := if p_sz S = 0 then -1 else p_se S (p_sz S - 1).toNatClampNeg
def pl_reach1 (P : ZPS) (S : ZHS) (k : Nat) : ZHS := if p_so P k = 0 then hp_reach S (p_fi P k) else if p_so P k = 1 then hp_reach S (p_fi P k) else if p_so P k = 2 then hp_reach S (p_se P k) else if p_so P k = 4 then hp_reach S (p_se P k) else S
def pl_reachN (P : ZPS) : Nat → Nat → ZHS → ZHS
  | 0, _, S => S
  | n + 1, k, S => pl_reachN P n (k + 1) (pl_reach1 P S k)
def pl_reach (P : ZPS) (S : ZHS) : ZHS := pl_reachN P (p_sz P).toNatClampNeg 0 S
/-- what the frames lead to are cells, or none -/
def pl_cells (P : ZPS) : Prop := ∀ j, j < (p_sz P).toNatClampNeg → (p_so P j = 0 ∨ p_so P j = 1 → hp_c (p_fi P j)) ∧ (p_so P j = 2 ∨ p_so P j = 4 → hp_c (p_se P j))
theorem pl_mk1 {P : ZPS} {S : ZHS} {k : Nat} (h : hp_mk S) (hc : (p_so P k = 0 ∨ p_so P k = 1 → hp_c (p_fi P k)) ∧ (p_so P k = 2 ∨ p_so P k = 4 → hp_c (p_se P k))) : hp_mk (pl_reach1 P S k) := by
  unfold pl_reach1
  by_cases h1 : p_so P k = 0
  · rw [if_pos h1]; exact hp_mk_reach h (hc.1 (Or.inl h1))
  · rw [if_neg h1]
    by_cases h2 : p_so P k = 1
    · rw [if_pos h2]; exact hp_mk_reach h (hc.1 (Or.inr h2))
    · rw [if_neg h2]
      by_cases h3 : p_so P k = 2
      · rw [if_pos h3]; exact hp_mk_reach h (hc.2 (Or.inl h3))
      · rw [if_neg h3]
        by_cases h4 : p_so P k = 4
        · rw [if_pos h4]; exact hp_mk_reach h (hc.2 (Or.inr h4))
        · rw [if_neg h4]; exact h
abbrev t_so (S : ZTS) : Nat → Int32 := S.1
abbrev t_xs (S : ZTS) : Nat → Int32 := S.2.1
abbrev t_pa (S : ZTS) : Nat → Int32 := S.2.2.1
abbrev t_pm (S : ZTS) : Nat → Int32 := S.2.2.2.1
abbrev t_bi (S : ZTS) : Nat → Int32 := S.2.2.2.2.1
abbrev t_op (S : ZTS) : Nat → Int32 := S.2.2.2.2.2.1
abbrev t_sz (S : ZTS) : Int32 := S.2.2.2.2.2.2
def tm_ok (S : ZTS) : Prop := ∃ z : Nat, z ≤ 200 ∧ t_sz S = nI z
def tm_clear (S : ZTS) : ZTS := (t_so S, t_xs S, t_pa S, t_pm S, t_bi S, t_op S, 0)
def tm_part (S : ZTS) (x y : Int32) : Int32 := t_pa S (x * 3 + y).toNatClampNeg
def tm_add (S : ZTS) (a b : Int32) : Int32 × ZTS := if t_sz S = 200 then (0, S) else (1, (upd (t_so S) (t_sz S).toNatClampNeg a, upd (t_xs S) (t_sz S).toNatClampNeg b, t_pa S, t_pm S, t_bi S, t_op S, t_sz S + 1))
def tm_binds (a b : Int32) : Int32 := if a = 1 then 1 else if a = 9 then 1 else if a = 10 then (if b = 1 then 1 else 0) else 0
/-- how many parts a node of a sort has -/
def tm_pt (k : Nat) : Int32 := ([0, 1, 2, 0, 2, 2, 2, 2, 3, 1, 2, 2, 1, 1] : List Int32).getD k 0
def tm_give (S : ZTS) (n p : Int32) : Int32 × ZTS :=
  (if t_pm S n.toNatClampNeg + 1 = tm_pt (t_so S n.toNatClampNeg).toNatClampNeg then 1 else 0,
   (t_so S, t_xs S, upd (t_pa S) (n * 3 + t_pm S n.toNatClampNeg).toNatClampNeg p, upd (t_pm S) n.toNatClampNeg (t_pm S n.toNatClampNeg + 1), upd (t_bi S) p.toNatClampNeg (t_bi S n.toNatClampNeg + (if tm_binds (t_so S n.toNatClampNeg) (t_pm S n.toNatClampNeg) = 0 then 0 else 1)), t_op S, t_sz S))
def tm_setbi (S : ZTS) (i : Nat) (x : Int32) : ZTS := (t_so S, t_xs S, t_pa S, t_pm S, upd (t_bi S) i x, t_op S, t_sz S)
def tm_setpm (S : ZTS) (i : Nat) (x : Int32) : ZTS := (t_so S, t_xs S, t_pa S, upd (t_pm S) i x, t_bi S, t_op S, t_sz S)
def tm_setop (S : ZTS) (i : Nat) (x : Int32) : ZTS := (t_so S, t_xs S, t_pa S, t_pm S, t_bi S, upd (t_op S) i x, t_sz S)
/-- node i is given to the innermost open one -/
def tm_s2 (S : ZTS) (i o : Nat) : Nat × ZTS := if o = 0 then (o, tm_setbi S i 0) else if (tm_give (tm_setbi S i 0) (t_op S (o - 1)) (nI i)).1 = 0 then (o, (tm_give (tm_setbi S i 0) (t_op S (o - 1)) (nI i)).2) else (o - 1, (tm_give (tm_setbi S i 0) (t_op S (o - 1)) (nI i)).2)
/-- and is opened itself -/
def tm_s4 (S : ZTS) (i o : Nat) : Nat × ZTS := if tm_pt (t_so S i).toNatClampNeg ≤ 0 then (o, tm_setpm S i 0) else (o + 1, tm_setop (tm_setpm S i 0) o (nI i))
theorem tm_s2_0 {S : ZTS} {i o : Nat} (h : (tm_give (tm_setbi S i 0) (t_op S o) (nI i)).1 = 0) : tm_s2 S i (o + 1) = (o + 1, (tm_give (tm_setbi S i 0) (t_op S o) (nI i)).2) := by
  unfold tm_s2
  rw [if_neg (by omega), show o + 1 - 1 = o from rfl, if_pos h]
theorem tm_s2_1 {S : ZTS} {i o : Nat} (h : ¬ (tm_give (tm_setbi S i 0) (t_op S o) (nI i)).1 = 0) : tm_s2 S i (o + 1) = (o, (tm_give (tm_setbi S i 0) (t_op S o) (nI i)).2) := by
  unfold tm_s2
  rw [if_neg (by omega), show o + 1 - 1 = o from rfl, if_neg h]
def tm_settleN : Nat → Nat → Nat → ZTS → Int32 × ZTS
  | 0, _, o, S => (if t_sz S = 0 then 1 + t_sz S else if o = 0 then 0 else 1 + t_sz S, S)
  | n + 1, i, o, S => if i ≠ 0 ∧ o = 0 then (1 + nI i, S) else
      if t_so (tm_s2 S i o).2 i = 0 ∧ t_bi (tm_s2 S i o).2 i ≤ t_xs (tm_s2 S i o).2 i then (1 + nI i, (tm_s2 S i o).2)
      else tm_settleN n (i + 1) (tm_s4 (tm_s2 S i o).2 i (tm_s2 S i o).1).1 (tm_s4 (tm_s2 S i o).2 i (tm_s2 S i o).1).2
def tm_settle (S : ZTS) : Int32 × ZTS := tm_settleN (t_sz S).toNatClampNeg 0 0 S
/-- the open nodes: ascending, each with a part that hasn't come -/
def tm_inv (S : ZTS) (i o : Nat) : Prop := o ≤ i ∧ ∃ q : Nat → Nat, (∀ j, j < o → t_op S j = nI (q j) ∧ q j < i ∧ ∃ w : Nat, t_pm S (q j) = nI w ∧ nI (w + 1) ≤ tm_pt (t_so S (q j)).toNatClampNeg ∧ w < 3) ∧ ∀ j k, j < k → k < o → q j < q k
/-- sorts are sorts -/
def tm_so (S : ZTS) : Prop := ∀ j, j < 200 → vp_in (t_so S j) 14
theorem tm_inv_pm {S : ZTS} {i o : Nat} (h : tm_inv S i o) (x : Int32) : tm_inv (tm_setpm S i x) (i + 1) o := by
  obtain ⟨h1, q, h2, h3⟩ := h
  refine ⟨by omega, q, fun j hj => ?_, h3⟩
  obtain ⟨a, b, w, c, d, e⟩ := h2 j hj
  refine ⟨a, by omega, w, ?_, d, e⟩
  show upd (t_pm S) i x (q j) = nI w
  rw [pk_un (by omega)]
  exact c
theorem tm_inv_op {S : ZTS} {i o : Nat} (h : tm_inv S i o) (hp : ¬ tm_pt (t_so S i).toNatClampNeg ≤ 0) : tm_inv (tm_setop (tm_setpm S i 0) o (nI i)) (i + 1) (o + 1) := by
  obtain ⟨h1, q, h2, h3⟩ := h
  refine ⟨by omega, fun j => if j = o then i else q j, fun j hj => ?_, fun j k hjk hk => ?_⟩
  · by_cases hjo : j = o
    · subst hjo
      refine ⟨?_, ?_, 0, ?_, ?_, by omega⟩
      · show upd (t_op S) j (nI i) j = nI (if j = j then i else q j)
        rw [pk_us, if_pos rfl]
      · simp
      · show upd (t_pm S) i 0 (if j = j then i else q j) = nI 0
        rw [if_pos rfl, pk_us]; rfl
      · show nI (0 + 1) ≤ tm_pt (t_so S (if j = j then i else q j)).toNatClampNeg
        rw [if_pos rfl]
        rw [Int32.le_iff_toInt_le] at hp ⊢
        have e1 : (nI (0 + 1)).toInt = 1 := by decide
        have e2 : (0 : Int32).toInt = 0 := by decide
        omega
    · obtain ⟨a, b, w, c, d, e⟩ := h2 j (by omega)
      simp only [if_neg hjo]
      refine ⟨?_, by omega, w, ?_, d, e⟩
      · show upd (t_op S) o (nI i) j = nI (q j)
        rw [pk_un hjo]; exact a
      · show upd (t_pm S) i 0 (q j) = nI w
        rw [pk_un (by omega)]; exact c
  · by_cases hko : k = o
    · subst hko
      show (if j = k then i else q j) < (if k = k then i else q k)
      rw [if_neg (by omega), if_pos rfl]
      exact (h2 j (by omega)).2.1
    · show (if j = o then i else q j) < (if k = o then i else q k)
      rw [if_neg (by omega), if_neg hko]
      exact h3 j k hjk (by omega)
/-- the innermost open node gets node i: what is left open -/
theorem tm_inv_give {S : ZTS} {i o : Nat} (h : tm_inv S i (o + 1)) (hi : i < 200) :
    (¬ (tm_give (tm_setbi S i 0) (t_op S o) (nI i)).1 = 0 → tm_inv (tm_give (tm_setbi S i 0) (t_op S o) (nI i)).2 i o) ∧
    ((tm_give (tm_setbi S i 0) (t_op S o) (nI i)).1 = 0 → tm_inv (tm_give (tm_setbi S i 0) (t_op S o) (nI i)).2 i (o + 1)) := by
  obtain ⟨h1, q, h2, h3⟩ := h
  obtain ⟨a, b, w, c, d, e⟩ := h2 o (by omega)
  have hcl : (t_op S o).toNatClampNeg = q o := by rw [a, nI_clamp (by omega)]
  have hold : ∀ j, j < o → (tm_give (tm_setbi S i 0) (t_op S o) (nI i)).2.2.2.2.1 (q j) = t_pm S (q j) := by
    intro j hj
    show upd (t_pm S) (t_op S o).toNatClampNeg _ (q j) = _
    rw [hcl, pk_un (by have := h3 j o hj (by omega); omega)]
  have hnew : (tm_give (tm_setbi S i 0) (t_op S o) (nI i)).2.2.2.2.1 (q o) = nI (w + 1) := by
    show upd (t_pm S) (t_op S o).toNatClampNeg (t_pm S (t_op S o).toNatClampNeg + 1) (q o) = _
    rw [hcl, pk_us, c]; exact (nI_succ w).symm
  refine ⟨fun _ => ⟨by omega, q, fun j hj => ?_, fun j k hjk hk => h3 j k hjk (by omega)⟩, fun h0 => ⟨h1, q, fun j hj => ?_, h3⟩⟩
  · obtain ⟨a', b', w', c', d', e'⟩ := h2 j (by omega)
    exact ⟨a', b', w', (hold j hj).trans c', d', e'⟩
  · rcases Nat.lt_or_ge j o with hjo | hjo
    · obtain ⟨a', b', w', c', d', e'⟩ := h2 j (by omega)
      exact ⟨a', b', w', (hold j hjo).trans c', d', e'⟩
    · have hjo : j = o := by omega
      subst hjo
      have hne : ¬ nI (w + 1) = tm_pt (t_so S (q j)).toNatClampNeg := by
        intro hq
        have : (tm_give (tm_setbi S i 0) (t_op S j) (nI i)).1 = 1 := by
          show (if t_pm S (t_op S j).toNatClampNeg + 1 = tm_pt (t_so S (t_op S j).toNatClampNeg).toNatClampNeg then (1 : Int32) else 0) = 1
          rw [hcl, c, ← nI_succ, if_pos hq]
        rw [this] at h0
        exact absurd h0 (by decide)
      have hpt : (tm_pt (t_so S (q j)).toNatClampNeg).toInt ≤ 3 := by
        unfold tm_pt
        generalize (t_so S (q j)).toNatClampNeg = n
        rcases Nat.lt_or_ge n 14 with h9 | h9
        · revert n; decide
        · rw [List.getD_eq_getElem?_getD, List.getElem?_eq_none (by simpa using h9)]; decide
      have hlt : (nI (w + 1)).toInt < (tm_pt (t_so S (q j)).toNatClampNeg).toInt := by
        rw [Int32.le_iff_toInt_le] at d
        rcases Int.lt_or_eq_of_le d with h9 | h9
        · exact h9
        · exact absurd (Int32.toInt_inj.mp h9) hne
      rw [nI_toInt (by omega)] at hlt
      refine ⟨a, b, w + 1, hnew, ?_, by omega⟩
      show nI (w + 1 + 1) ≤ tm_pt (t_so S (q j)).toNatClampNeg
      rw [Int32.le_iff_toInt_le, nI_toInt (by omega)]
      omega
theorem tm_o0 {o : Nat} (h : nI o ≤ 0) (ho : o < 2 ^ 31) : o = 0 := by
  rcases o with _ | o
  · rfl
  · exact absurd h (nI_nle (by omega) ho)
theorem tm_oz {o : Nat} (h : nI o = 0) (ho : o < 2 ^ 31) : o = 0 := by
  rcases o with _ | o
  · rfl
  · exact absurd h (nI_ne0 (by omega) ho)
theorem tm_inv_lt {S : ZTS} {i o : Nat} (h : tm_inv S i (o + 1)) (hi : i < 200) : (t_op S o).toNatClampNeg < 200 := by
  obtain ⟨h1, q, h2, h3⟩ := h
  have h4 := h2 o (by omega)
  rw [h4.1, nI_clamp (by omega)]
  omega
theorem tm_inv_ix {S : ZTS} {i o : Nat} (h : tm_inv S i (o + 1)) (hi : i < 200) : vp_in (t_op S o * 3 + t_pm S (t_op S o).toNatClampNeg) 600 := by
  obtain ⟨h1, q, h2, h3⟩ := h
  obtain ⟨a, b, w, c, d, e⟩ := h2 o (by omega)
  rw [a, nI_clamp (by omega), c, show (3 : Int32) = nI 3 from rfl, pk_mul, nI_add]
  exact vp_in_nI (by omega) (by decide)
/-- the row PARTS, outside of what a method writes -/
def tm_E (tp : Nat) (A : Nat → Prop) (U : State) : Prop := va_Nw (.fieldLinkNest R_Term 38 "LazyMachine" "PARTS" "[I" "LazyMachine") U ∧ va_Z "LazyMachine" "PARTS" "[I" (.ref tp) A U U.heap ∧ va_T .int tp 14 (fun k => .int (tm_pt k)) A U U.heap
theorem tm_E_bl {tp : Nat} {A : Nat → Prop} : lm_bl (tm_E tp A) := fun U g mk a h =>
  ⟨va_Nw.same rfl rfl h.1, va_Z.moved (u := U) (U := U.calling g mk a) (Vm.Alike.refl U.vm) h.2.1, va_T.moved (u := U) (U := U.calling g mk a) (Vm.Alike.refl U.vm) h.2.2⟩
theorem tm_E_use {tp : Nat} {A B : Nat → Prop} {s : State} {H : Heap} {locs : List Loc} (hE : tm_E tp A s) (hS : va_S A s.heap H locs) (hB : ∀ q, B q → A q) : ∀ U : State, U.heap = H → s.WarmedH U.vm → tm_E tp B U := fun U hU hW => by
  unfold tm_E
  rw [hU]
  exact ⟨va_Nw.warmF hW hE.1, ((hE.2.1.kept hS.2.1).moved hW.alike).narrow hB, ((hE.2.2.kept hS.2.1).moved hW.alike).narrow hB⟩
