/-! The reference's load. -/
/-- the slots for the parts of node k, the last first -/
def md_inN : Nat → Nat → Int32 → Nat → ZNS → Nat × ZNS
  | 0, _, _, o, S => (o, S)
  | c + 1, k, b, o, S => md_inN c k b (o + 1) (s_ar (s_ow S (upd (r_ow S) o (3 * nI k + nI c))) (upd (r_ar S) o (b + tm_binds (r_so S k) (nI c))))
def md_l1 (S : ZNS) (k q : Nat) : ZNS := if r_ow S q = -1 then S else s_ch S (upd (r_ch S) (r_ow S q).toNatClampNeg (nI k))
def md_l2 (S : ZNS) (k : Nat) : ZNS := s_nu (s_sr S (upd (r_sr S) k (r_so S k))) (upd (r_nu S) k (r_xs S k))
def md_loadN (n : Nat) : Nat → Nat → Nat → ZNS → Int32 × ZNS
  | 0, _, o, S => if o = 0 then (0, md_begin (s_si S (nI n))) else (1 + nI n, S)
  | f + 1, k, o, S => if o = 0 then (1 + nI k, S) else
      if r_so (md_l1 S k (o - 1)) k = 0 ∧ r_ar S (o - 1) ≤ r_xs (md_l1 S k (o - 1)) k then (1 + nI k, md_l1 S k (o - 1))
      else md_loadN n f (k + 1) (md_inN (md_many (r_so (md_l2 (md_l1 S k (o - 1)) k) k)).toNatClampNeg k (r_ar S (o - 1)) (o - 1) (md_l2 (md_l1 S k (o - 1)) k)).1 (md_inN (md_many (r_so (md_l2 (md_l1 S k (o - 1)) k) k)).toNatClampNeg k (r_ar S (o - 1)) (o - 1) (md_l2 (md_l1 S k (o - 1)) k)).2
def md_l0 (S : ZNS) : ZNS := s_ar (s_ow (s_ss (s_si (s_to (s_th S 0) 0) 0) 0) (upd (r_ow S) 0 (-1))) (upd (r_ar S) 0 0)
def md_load (S : ZNS) : Int32 × ZNS := md_loadN (r_to S).toNatClampNeg (r_to S).toNatClampNeg 0 1 (md_l0 S)
theorem md_many_n (s : Int32) : ∃ m : Nat, m ≤ 3 ∧ md_many s = nI m := by
  unfold md_many
  by_cases h1 : s = 0
  · rw [if_pos h1]; exact ⟨0, by omega, rfl⟩
  · rw [if_neg h1]
    by_cases h2 : s = 3
    · rw [if_pos h2]; exact ⟨0, by omega, rfl⟩
    · rw [if_neg h2]
      by_cases h3 : s = 1
      · rw [if_pos h3]; exact ⟨1, by omega, rfl⟩
      · rw [if_neg h3]
        by_cases h4 : s = 9
        · rw [if_pos h4]; exact ⟨1, by omega, rfl⟩
        · rw [if_neg h4]
          by_cases h5 : s ≤ 11
          · rw [if_pos h5]
            by_cases h6 : s = 8
            · rw [if_pos h6]; exact ⟨3, by omega, rfl⟩
            · rw [if_neg h6]; exact ⟨2, by omega, rfl⟩
          · rw [if_neg h5]; exact ⟨1, by omega, rfl⟩
/-- a slot's owner: none, or the place of a part -/
def md_ows (S : ZNS) (o : Nat) : Prop := ∀ j, j < o → r_ow S j = -1 ∨ vp_in (r_ow S j) 600
theorem md_ows_in {S : ZNS} {o k c : Nat} {y : Int32} (h : md_ows S o) (hk : k < 200) (hc : c < 3) : md_ows (s_ar (s_ow S (upd (r_ow S) o (3 * nI k + nI c))) (upd (r_ar S) o y)) (o + 1) := by
  intro j hj
  show upd (r_ow S) o (3 * nI k + nI c) j = -1 ∨ vp_in (upd (r_ow S) o (3 * nI k + nI c) j) 600
  by_cases h1 : j = o
  · subst h1
    rw [pk_us, show (3 : Int32) = nI 3 from rfl, pk_mul, nI_add]
    exact Or.inr (vp_in_nI (by omega) (by decide))
  · rw [pk_un h1]; exact h j (by omega)
