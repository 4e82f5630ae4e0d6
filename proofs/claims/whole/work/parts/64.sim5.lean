/-! The two machines' steps: parts, thunks, links, asking. -/
theorem hs_st (H : ZHS) {a : Nat} (ha : a < 256) : hp_state H (nI a) = h_st H a := by unfold hp_state; rw [if_neg (k_nI_ne (by omega)), k_clamp ha]
theorem hs_fi (H : ZHS) {a : Nat} (ha : a < 256) : hp_first H (nI a) = h_fi H a := by unfold hp_first; rw [if_neg (k_nI_ne (by omega)), k_clamp ha]
theorem hs_se (H : ZHS) {a : Nat} (ha : a < 256) : hp_second H (nI a) = h_se H a := by unfold hp_second; rw [if_neg (k_nI_ne (by omega)), k_clamp ha]
/-- how the two answer to a step -/
def k_out (T : ZT) (n : Nat) (q : Int32 × ZMS) (q' : Int32 × ZNS) : Prop := ∃ B, k_c T B n q.2 q'.2 ∧ (q.1 = 1 ∧ q'.1 = 0 ∧ r_ss q'.2 = 1 ∨ q.1 = 2 ∧ q'.1 = 0 ∧ r_ss q'.2 = 2 ∧ r_ba q'.2 = 1 ∧ r_fr q'.2 = 0 ∨ (q.1 = 3 ∨ q.1 = 4 ∨ q.1 = 5 ∨ q.1 = 6) ∧ q'.1 = 1 ∧ r_ss q'.2 = q.1)
theorem k_o1 {T : ZT} {B : KB} {n : Nat} {M : ZMS} {S : ZNS} (h : k_c T B n M S) (hs : r_ss S = 1) : k_out T n (1, M) (0, S) := ⟨B, h, Or.inl ⟨rfl, rfl, hs⟩⟩
theorem k_ox {T : ZT} {B : KB} {n : Nat} {M : ZMS} {S : ZNS} {x : Int32} (h : k_c T B n M S) (hx : x = 3 ∨ x = 4 ∨ x = 5 ∨ x = 6) : k_out T n (x, M) (1, s_ss S x) := ⟨B, show k_c T B n M (s_ss S x) from h, Or.inr (Or.inr ⟨hx, rfl, rfl⟩)⟩
theorem k_out_le {T : ZT} {n m : Nat} {q : Int32 × ZMS} {q' : Int32 × ZNS} (h : k_out T n q q') (hm : n ≤ m) : k_out T m q q' := by
  obtain ⟨B, ⟨h1, h2⟩, h3'⟩ := h
  exact ⟨B, ⟨k_q_le h1 hm, h2⟩, h3'⟩
/-- a node's part -/
theorem k_part {T : ZT} {Y : ZTS} {S : ZNS} {j w : Nat} (hT : a_ok T) (h : k_tm T Y S) (hj : j < a_sz T) (hw : w < a_many (a_so T j)) : ∃ i, i < a_sz T ∧ tm_part Y (nI j) (nI w) = nI i ∧ r_ch S (3 * nI j + nI w).toNatClampNeg = nI i ∧ a_bi T i = a_bi T j + a_binds (a_so T j) w := by
  have hw3 : w < 3 := by
    obtain ⟨m, m1, m2⟩ := md_many_n (a_so T j)
    unfold a_many at hw
    rw [m2, nI_clamp (by omega)] at hw
    omega
  have hsz := hT.1.2.1
  obtain ⟨i, i1, i2, i3⟩ := (hT.2 j hj).2.2.2 w hw
  obtain ⟨p1, p2⟩ := (h.2 j hj).2.2 w hw
  refine ⟨i, i1, ?_, ?_, i3⟩
  · unfold tm_part
    rw [show (3 : Int32) = nI 3 from rfl, pk_mul, nI_add, nI_clamp (by omega), show j * 3 + w = 3 * j + w by omega, p1, i2]
  · rw [show (3 : Int32) = nI 3 from rfl, pk_mul, nI_add, nI_clamp (by omega), p2, i2]
theorem k_part0 {T : ZT} {Y : ZTS} {S : ZNS} {j : Nat} (hT : a_ok T) (h : k_tm T Y S) (hj : j < a_sz T) (hw : 0 < a_many (a_so T j)) : ∃ i, i < a_sz T ∧ tm_part Y (nI j) 0 = nI i ∧ r_ch S (3 * nI j).toNatClampNeg = nI i ∧ a_bi T i = a_bi T j + a_binds (a_so T j) 0 := by
  obtain ⟨i, h1, h2, h3', h4⟩ := k_part hT h hj hw
  refine ⟨i, h1, h2, ?_, h4⟩
  rw [show (3 : Int32) * nI j = 3 * nI j + nI 0 from by rw [nI_0]; exact (Int32.add_zero _).symm]
  exact h3'
/-- what a variable is bound to -/
theorem k_bd {T : ZT} {B : KB} {M : ZMS} {S : ZNS} {k m : Nat} {x : Int32} (h : k_hr T B (h3 M) (r3 S)) (he : k_en B (h3 M) (r3 S) k (l_en M) (r_en S)) (hm : m < k) (hx : x = nI m) (hm2 : m < 1000) : k_th B (h3 M) (hp_bound (m_H M) (l_en M) x) (md_bound S x) ∧ md_chain (r_tw S) (r_en S) m := by
  obtain ⟨a, b, a1, b1, q1, q2, q3, q4⟩ := k_bound h m k _ _ hm he
  refine ⟨?_, q4⟩
  have q1 : hp_walk (h_se (m_H M)) m (l_en M) = nI a := q1
  have q2 : md_walk (r_tw S) m (r_en S) = nI b := q2
  unfold hp_bound md_bound
  rw [hx, nI_clamp (by omega), q1, q2, hs_fi _ a1, k_clamp b1]
  exact q3
/-- room for c cells in both -/
def k_rm (B : KB) (c : Nat) (M : ZMS) (S : ZNS) : Prop := (∃ f, c ≤ f ∧ f ≤ 256 ∧ h_fr (m_H M) = nI f) ∧ zc (r_re S) 256 + c ≤ 256 ∧ ∀ a b, B a b → ¬ r_re S b = 0
theorem k_take2 {T : ZT} {B : KB} {n c : Nat} {M : ZMS} {S : ZNS} {s x y s' x' y' : Int32} (h : k_q T B n M S) (hr : k_rm B (c + 1) M S) (hc : k_ct T B (h3 M) (r3 S) s x y s' x' y') (hl : hp_c y ∧ md_c y') :
    ∃ a b, a < 256 ∧ b < 256 ∧ (hp_take (m_H M) s x y).1 = nI a ∧ (md_cell S s' x' y').1 = nI b ∧ k_q T (k_ad B a b) n (ma_setH M (hp_take (m_H M) s x y).2) (md_cell S s' x' y').2 ∧ k_ex B (h3 M) (r3 S) (k_ad B a b) (h3 (ma_setH M (hp_take (m_H M) s x y).2)) (r3 (md_cell S s' x' y').2) ∧
      (h3 (ma_setH M (hp_take (m_H M) s x y).2)).1 a = s ∧ k_rm (k_ad B a b) c (ma_setH M (hp_take (m_H M) s x y).2) (md_cell S s' x' y').2 := by
  obtain ⟨⟨f, f1, f2, f3⟩, r1, r2⟩ := hr
  obtain ⟨g, rfl⟩ : ∃ g, f = g + 1 := ⟨f - 1, by omega⟩
  have hfr : ¬ h_fr (m_H M) = 0 := by rw [f3]; exact nI_ne0 (by omega) (by omega)
  obtain ⟨a, b, h1, h2, h3', h4, h5, h6, h7, h8, h9⟩ := k_take h r2 hfr (zc_free _ _ (by omega)) hc hl
  refine ⟨a, b, h1, h2, h3', h4, h5, h6, h7, ⟨g, by omega, by omega, ?_⟩, ?_, h8⟩
  · show h_fr (hp_take (m_H M) s x y).2 = nI g
    rw [h9, f3, nI_pred]
  · rw [md_cell_zc (by omega)]; omega
/-- a new link -/
theorem k_link {T : ZT} {B : KB} {n c k : Nat} {M : ZMS} {S : ZNS} {t t' e e' : Int32} (h : k_q T B n M S) (hr : k_rm B (c + 1) M S) (ht : k_th B (h3 M) t t') (he : k_en B (h3 M) (r3 S) k e e') :
    ∃ B', k_q T B' n (ma_setH M (hp_take (m_H M) 5 t e).2) (md_cell S 5 t' e').2 ∧ k_ex B (h3 M) (r3 S) B' (h3 (ma_setH M (hp_take (m_H M) 5 t e).2)) (r3 (md_cell S 5 t' e').2) ∧ k_rm B' c (ma_setH M (hp_take (m_H M) 5 t e).2) (md_cell S 5 t' e').2 ∧
      k_en B' (h3 (ma_setH M (hp_take (m_H M) 5 t e).2)) (r3 (md_cell S 5 t' e').2) (k + 1) (hp_take (m_H M) 5 t e).1 (md_cell S 5 t' e').1 := by
  obtain ⟨a, b, h1, h2, h3', h4, h5, h6, h7, h8⟩ := k_take2 h hr (Or.inl ⟨rfl, rfl, ht, k_en_0 he⟩) (k_en_c h.1.2 he)
  refine ⟨k_ad B a b, h5, h6, h8, a, b, h3', h4, Or.inr ⟨rfl, rfl⟩, h7, ?_⟩
  have e1 : (h3 (ma_setH M (hp_take (m_H M) 5 t e).2)).2.2 a = e := by
    show h_se (hp_take (m_H M) 5 t e).2 a = e
    unfold hp_take at h3' ⊢
    by_cases q : h_fr (m_H M) = 0
    · rw [if_pos q] at h3'; exact absurd h3'.symm (k_nI_ne (by omega))
    · rw [if_neg q] at h3' ⊢
      have h3' : h_fc (m_H M) (h_fr (m_H M) - 1).toNatClampNeg = nI a := h3'
      show h_se (hp_become (hp_setfr (m_H M) (h_fr (m_H M) - 1)) (h_fc (m_H M) (h_fr (m_H M) - 1).toNatClampNeg) 5 t e) a = e
      rw [h3', k_become _ h1]
      exact pk_us
  have e2 : (r3 (md_cell S 5 t' e').2).2.2 b = e' := by
    have h4 : nI (md_find (r_re S) 256 0) = nI b := h4
    have hlt : md_find (r_re S) 256 0 < 256 := (md_find_ok (r_re S) 256 0 rfl (by obtain ⟨j, j1, j2⟩ := zc_free (r_re S) 256 (by have := hr.2.1; omega); exact ⟨j, by omega, j1, j2⟩)).1
    have := (nI_eq (by omega) (by omega)).mp h4
    show upd (r_tw S) (md_find (r_re S) 256 0) e' b = e'
    rw [this, pk_us]
  rw [e1, e2]
  exact k_en_ex h6 _ he
/-- a thunk for a node, or what it is bound to -/
theorem k_thunk {T : ZT} {B : KB} {n c i : Nat} {M : ZMS} {S : ZNS} (h : k_q T B n M S) (hi : i < a_sz T) (he : k_en B (h3 M) (r3 S) (a_bi T i) (l_en M) (r_en S)) (hr : k_rm B (c + (if a_so T i = 0 then 0 else 1)) M S) :
    ∃ B', k_q T B' n (ma_thunk M (nI i)).2 (md_thunk S (nI i)).2 ∧ k_ex B (h3 M) (r3 S) B' (h3 (ma_thunk M (nI i)).2) (r3 (md_thunk S (nI i)).2) ∧ k_rm B' c (ma_thunk M (nI i)).2 (md_thunk S (nI i)).2 ∧ k_th B' (h3 (ma_thunk M (nI i)).2) (ma_thunk M (nI i)).1 (md_thunk S (nI i)).1 := by
  have hsz := h.1.1.1.2.1
  obtain ⟨⟨t1, t2⟩, ⟨t3, t4⟩, _⟩ := h.2.2.2.2.1.2 i hi
  have hcl : (nI i).toNatClampNeg = i := nI_clamp (by omega)
  unfold ma_thunk md_thunk
  rw [hcl, t1, t2, t3, t4]
  by_cases hv : a_so T i = 0
  · rw [if_pos hv] at hr ⊢
    rw [if_pos hv]
    obtain ⟨a1, a2, a3, _⟩ := h.1.1.2 i hi
    obtain ⟨m, m1, m2⟩ := a3 hv
    exact ⟨B, h, k_ex_rf _ _ _, hr, (k_bd h.1.2 he m1 m2 (by omega)).1⟩
  · rw [if_neg hv] at hr ⊢
    rw [if_neg hv]
    obtain ⟨a, b, h1, h2, h3', h4, h5, h6, h7, h8⟩ := k_take2 h hr (Or.inr (Or.inl ⟨rfl, rfl, i, hi, rfl, rfl, he⟩)) (k_en_c h.1.2 he)
    exact ⟨k_ad B a b, h5, h6, h8, a, b, h3', h4, Or.inr ⟨rfl, rfl⟩, by show ¬ (h3 (ma_setH M (hp_take (m_H M) 3 (nI i) (l_en M)).2)).1 a = 5; rw [h7]; decide⟩
/-- asking for a thunk's value -/
theorem k_ask {T : ZT} {B : KB} {n : Nat} {M : ZMS} {S : ZNS} {x y rm : Int32} (h : k_c T B n M S) (hs : r_ss S = 1) (ht : k_th B (h3 M) x y) (hrm : rm = 0 ∨ ¬ rm = 0 ∧ ¬ r_fr S = 200) : k_out T n (ma_ask M x) (md_asks S y rm) := by
  obtain ⟨hq, hat⟩ := h
  obtain ⟨a, b, ha, hb, rfl, rfl, hab, h5⟩ := k_th_c hq.1.2 ht
  have hst : r_is S b = h_st (m_H M) a := k_hr_st hq.1.2 hab
  have hct : k_ct T B (h3 M) (r3 S) (h_st (m_H M) a) (h_fi (m_H M) a) (h_se (m_H M) a) (r_is S b) (r_on S b) (r_tw S b) := (hq.1.2.1 a b hab).2.2
  have h5 : ¬ h_st (m_H M) a = 5 := h5
  unfold ma_ask md_asks
  rw [hs_st _ ha, hs_fi _ ha, hs_se _ ha, k_clamp hb]
  by_cases h4 : h_st (m_H M) a = 4
  · rw [if_pos h4, if_pos (hst.trans h4)]
    exact k_ox ⟨hq, hat⟩ (by decide)
  · rw [if_neg h4, if_neg (fun q => h4 (hst.symm.trans q))]
    by_cases h3w : h_st (m_H M) a = 3
    · rw [if_pos h3w, if_pos (hst.trans h3w)]
      have hbusy : ¬ r_fr S = 200 → k_out T n (1, ma_enter (ma_setP (ma_force (ma_setH M (hp_become (m_H M) (nI a) 4 (-1) (-1)))) (pl_add (m_P M) 0 (nI a) (-1))) (h_fi (m_H M) a) (h_se (m_H M) a)) (0, md_busy S (nI b)) := by
        intro hfr
        obtain ⟨w1, w2⟩ := k_write (S' := s_is S (upd (r_is S) b 4)) (s := 4) (x := -1) (y := -1) (s' := 4) (x' := r_on S b) (y' := r_tw S b) hq hab h5 (by decide) (Or.inr (Or.inr (Or.inl ⟨rfl, rfl⟩))) ⟨Or.inl rfl, (hq.2.1.2 b hb).2⟩
          (by show (upd (r_is S) b 4, r_on S, r_tw S) = (upd (r_is S) b 4, upd (r_on S) b (r_on S b), upd (r_tw S) b (r_tw S b)); rw [k_upd_self, k_upd_self]) ⟨⟨rfl, rfl, rfl, rfl, rfl⟩, ⟨rfl, rfl, rfl, rfl⟩, ⟨rfl, rfl, rfl⟩, rfl, rfl⟩
        have w3 := k_push (s := 0) (x := nI a) (y := -1) (s' := 0) (x' := nI b) (y' := 0) (k_force w1) hfr ⟨rfl, Or.inl ⟨Or.inl rfl, k_th_ex w2 ⟨a, b, rfl, rfl, hab, h5⟩⟩⟩
        unfold md_busy
        rw [k_clamp hb]
        rcases hct with ⟨g1, _⟩ | ⟨g1, g2, j, j1, j2, j3, j4⟩ | ⟨g1, _⟩ | ⟨g1, _⟩ | ⟨g1, _⟩ | ⟨g1, _⟩
        · exact absurd g1 h5
        · rw [j2, j3]
          exact k_o1 (k_enter w3 j1 (k_en_ex w2 _ j4)) hs
        all_goals exact absurd (h3w.symm.trans g1) (by decide)
      obtain ⟨f1, f2⟩ := k_full hq
      rcases hrm with hrm | ⟨hrm, hfr⟩
      · rw [if_pos hrm]
        rcases f2 with ⟨p1, p2, p3⟩ | ⟨p1, p2, p3⟩
        · rw [← f1, p2, if_neg (by decide), if_neg (by decide), p3]
          exact k_ox ⟨hq, hat⟩ (by decide)
        · rw [← f1, p2, if_pos rfl, if_pos rfl, p3]
          exact hbusy p1
      · rw [if_neg hrm]
        rcases f2 with ⟨p1, p2, p3⟩ | ⟨p1, p2, p3⟩
        · exact absurd p1 hfr
        · rw [p2, if_pos rfl]
          exact hbusy p1
    · rw [if_neg h3w, if_neg (fun q => h3w (hst.symm.trans q))]
      refine k_o1 (k_back hq ?_) hs
      rcases hct with ⟨g1, _⟩ | ⟨g1, _⟩ | ⟨g1, _⟩ | g
      · exact absurd g1 h5
      · exact absurd g1 h3w
      · exact absurd g1 h4
      · exact g
