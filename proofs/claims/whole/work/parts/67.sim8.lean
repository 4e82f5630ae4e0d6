/-! No index is out: what the contracts ask holds beside. -/
theorem k_ma_lo {T : ZT} {B : KB} {n : Nat} {M : ZMS} {S : ZNS} (h : k_c T B n M S) : ma_lo M := by
  obtain ⟨⟨⟨q0, hr⟩, ⟨q1, q2⟩, ⟨⟨f, f1, f2, f3, f4⟩, q4⟩, ⟨g0, z, g1, g2, g3, g4⟩, q6⟩, hat⟩ := h
  refine ⟨q1, ⟨f, f1, f2, fun j hj => ?_⟩, ⟨z, g1, g2⟩, ?_, ?_, ?_⟩
  · obtain ⟨a, a1, a2, _⟩ := f3 j hj
    rw [a2]; exact vp_in_nI a1 (by decide)
  · intro j hj
    rw [g2, nI_clamp (by omega)] at hj
    obtain ⟨_, hf⟩ := g4 j hj
    rcases hf with ⟨w1, w2⟩ | ⟨w1, i, w2, w3, w4, w5, _⟩ | ⟨w1, _⟩ | ⟨w1, _⟩
    · exact ⟨fun _ => (k_th_cc hr w2).1, fun q => by rcases w1 with w1 | w1 <;> rw [w1] at q <;> exact absurd q (by decide)⟩
    · exact ⟨fun q => by rcases w1 with w1 | w1 <;> rw [w1] at q <;> exact absurd q (by decide), fun _ => (k_en_c hr w5).1⟩
    · exact ⟨fun q => by rw [w1] at q; exact absurd q (by decide), fun q => by rw [w1] at q; exact absurd q (by decide)⟩
    · exact ⟨fun q => by rw [w1] at q; exact absurd q (by decide), fun q => by rw [w1] at q; exact absurd q (by decide)⟩
  · intro hb
    rcases hat with ⟨_, _, j, _, _, _, w⟩ | ⟨w, _⟩
    · exact (k_en_c hr w).1
    · exact absurd (w.symm.trans hb) (by decide)
  · intro hb
    rcases hat with ⟨w, _⟩ | ⟨_, _, w⟩
    · exact absurd w hb
    · refine ⟨fun q => ?_, (k_val_c hr w).1.1⟩
      rcases q with q | q
      · rcases (k_val_c hr w).2.2 with p | p | p <;> rw [p] at q <;> exact absurd q (by decide)
      · exact (k_th_cc hr (k_val_2 w q).1).1
theorem k_md_fok {T : ZT} {B : KB} {n : Nat} {M : ZMS} {S : ZNS} (h : k_q T B n M S) : md_fok S := by
  obtain ⟨⟨q0, hr⟩, _, _, ⟨g0, z, g1, g2, g3, g4⟩, _⟩ := h
  refine ⟨z, g1, g3, fun j hj => ?_⟩
  obtain ⟨w0, hf⟩ := g4 j hj
  rw [w0]
  rcases hf with ⟨w1, w2⟩ | ⟨w1, i, w2, w3, w4, w5, _⟩ | ⟨w1, _⟩ | ⟨w1, _⟩
  · exact ⟨fun _ => (k_th_cc hr w2).2, fun q => by rcases w1 with w1 | w1 <;> rw [w1] at q <;> exact absurd q (by decide)⟩
  · exact ⟨fun q => by rcases w1 with w1 | w1 <;> rw [w1] at q <;> exact absurd q (by decide), fun _ => (k_en_c hr w5).2⟩
  · exact ⟨fun q => by rw [w1] at q; exact absurd q (by decide), fun q => by rw [w1] at q; exact absurd q (by decide)⟩
  · exact ⟨fun q => by rw [w1] at q; exact absurd q (by decide), fun q => by rw [w1] at q; exact absurd q (by decide)⟩
theorem k_md_lo {T : ZT} {B : KB} {n : Nat} {M : ZMS} {S : ZNS} (h : k_c T B n M S) (x : Int32) (hs : r_ba S = 0 → ¬ x = 2) : md_lo (s_ss S x) := by
  have hr := h.1.1.2
  refine ⟨h.1.2.1.2, k_md_fok h.1, ?_, ?_⟩
  · intro hb
    have hb2 : ¬ r_ba S = 0 := by
      intro q
      rcases hb with hb | hb
      · exact hb q
      · exact hs q hb
    rcases h.2 with ⟨_, w, _⟩ | ⟨_, _, w⟩
    · exact absurd w hb2
    · obtain ⟨⟨_, w1⟩, w2, _⟩ := k_val_c hr w
      exact ⟨fun q => (k_th_cc hr (k_val_2 w (w2.symm.trans q)).1).2, fun _ => w1⟩
  · intro hb _
    rcases h.2 with ⟨_, _, j, _, _, _, w⟩ | ⟨_, w, _⟩
    · exact (k_en_c hr w).2
    · exact absurd (w.symm.trans hb) (by decide)
theorem k_sf_at {T : ZT} {B : KB} {n : Nat} {M : ZMS} {S : ZNS} (h : k_c T B n M S) (hb : l_ba M = 0) : sf_at M := by
  rcases h.2 with ⟨_, _, j, j1, j2, j3, w⟩ | ⟨w, _⟩
  · have hsz := h.1.1.1.1.2.1
    obtain ⟨⟨t1, t2⟩, _⟩ := h.1.2.2.2.2.1.2 j j1
    refine ⟨k_ma_lo h, h.1.2.2.2.2.2.1.2.2.1.2, by rw [j2]; exact vp_in_nI (by omega) (by decide), (k_en_c h.1.1.2 w).1, ?_⟩
    rw [j2, nI_clamp (by omega), t1, t2]
    intro q
    obtain ⟨_, a2, a3, _⟩ := h.1.1.1.2 j j1
    obtain ⟨m, m1, m2⟩ := a3 q
    exact (k_th_cc h.1.1.2 (k_bd h.1.1.2 w m1 m2 (by omega)).1).1
  · exact absurd (w.symm.trans hb) (by decide)
theorem k_sf_bk {T : ZT} {B : KB} {n : Nat} {M : ZMS} {S : ZNS} (h : k_c T B n M S) (hb : ¬ l_ba M = 0) : sf_bk M := by
  have hr := h.1.1.2
  have hsz := h.1.1.1.1.2.1
  obtain ⟨_, hv⟩ := k_c_bk h ((k_c_ba h).2.resolve_left hb)
  have htop : pl_topSort (m_P M) = -1 ∨ ∃ x y z, k_frame T B (h3 M) (r3 S) (pl_topSort (m_P M)) (pl_topFirst (m_P M)) (pl_topSecond (m_P M)) x y z := by
    obtain ⟨_, _, _, ⟨g0, z, g1, g2, g3, g4⟩, _⟩ := h.1
    rcases z with _ | g
    · left; unfold pl_topSort; rw [if_pos (show p_sz (m_P M) = 0 from g2)]
    · exact Or.inr ⟨_, _, _, k_top h.1 g3 (by omega)⟩
  refine ⟨k_ma_lo h, ?_, ?_, ?_, ?_⟩
  · intro q
    rcases htop with w | ⟨x, y, z, _, w⟩
    · rw [w] at q; exact absurd q (by decide)
    · rw [q] at w
      rcases w with ⟨_, w⟩ | ⟨w, _⟩ | ⟨w, _⟩ | ⟨w, _⟩
      · exact (k_th_cc hr w).1
      all_goals exact absurd w (by decide)
  · intro q
    obtain ⟨j, j1, j2, _⟩ := k_val_1 hv q
    rw [j2]; exact vp_in_nI (by omega) (by decide)
  · intro q
    obtain ⟨w1, w2⟩ := k_val_2 hv q
    exact ⟨(k_th_cc hr w1).1, (k_th_cc hr w2).1⟩
  · intro q
    rcases htop with w | ⟨x, y, z, _, w⟩
    · rw [w] at q; exact absurd q (by decide)
    · rcases w with ⟨w, _⟩ | ⟨w, j, j1, j2, _⟩ | ⟨w, j, j1, j2, _⟩ | ⟨w, _⟩
      · rcases w with w | w <;> rw [w] at q <;> exact absurd q (by decide)
      · rw [j2]; exact vp_in_nI (by omega) (by decide)
      · rw [j2]; exact vp_in_nI (by omega) (by decide)
      · rw [w] at q; exact absurd q (by decide)
theorem k_sf {T : ZT} {n : Nat} {M : ZMS} {S : ZNS} (h : k_x T n M S) : sf_step M := by
  obtain ⟨B, h, _⟩ := h
  exact ⟨k_sf_at h, k_sf_bk h⟩
/-- the chain alone -/
theorem k_chain {B : KB} {C D : K3} (hB : ∀ a b, B a b → b < 256) : ∀ (n k : Nat) (x y : Int32), n < k → k_en B C D k x y → md_chain D.2.2 y n := by
  intro n
  induction n with
  | zero =>
    intro k x y hk g
    obtain ⟨k, rfl⟩ : ∃ m, k = m + 1 := ⟨k - 1, by omega⟩
    obtain ⟨a, b, h1, h2, h3', _⟩ := g
    exact fun i hi => by rw [show i = 0 by omega, md_walk, h2]; exact vp_in_nI (hB a b h3') (by decide)
  | succ n ih =>
    intro k x y hk g
    obtain ⟨k, rfl⟩ : ∃ m, k = m + 1 := ⟨k - 1, by omega⟩
    obtain ⟨a, b, h1, h2, h3', h4, h5⟩ := g
    intro i hi
    cases i with
    | zero => rw [md_walk, h2]; exact vp_in_nI (hB a b h3') (by decide)
    | succ i => rw [md_walk, h2, k_clamp (hB a b h3')]; exact ih k _ _ (by omega) h5 i (by omega)
theorem k_en_upd {B : KB} {C D : K3} {f : Nat → Int32} (hf : ∀ a b, B a b → f b = D.2.2 b) : ∀ (k : Nat) (x y : Int32), k_en B C D k x y → k_en B C (D.1, D.2.1, f) k x y := by
  intro k
  induction k with
  | zero => intro x y g; exact g
  | succ k ih =>
    intro x y g
    obtain ⟨a, b, h1, h2, h3', h4, h5⟩ := g
    exact ⟨a, b, h1, h2, h3', h4, by show k_en _ _ _ _ _ (f b); rw [hf a b h3']; exact ih _ _ h5⟩
/-- a variable is bound, behind the marking -/
theorem k_tc {T : ZT} {B : KB} {n i : Nat} {M : ZMS} {S F : ZNS} (h : k_q T B n M S) (hi : i < a_sz T) (he : k_en B (h3 M) (r3 S) (a_bi T i) (l_en M) (r_en S)) (hv : a_so T i = 0) (e1 : r_nu F = r_nu S) (e2 : r_en F = r_en S) (e3 : ∀ a b, B a b → r_tw F b = r_tw S b) : md_tc F (nI i) := by
  have hsz := h.1.1.1.2.1
  obtain ⟨_, ⟨_, t4⟩, _⟩ := h.2.2.2.2.1.2 i hi
  obtain ⟨_, a2, a3, _⟩ := h.1.1.2 i hi
  obtain ⟨m, m1, m2⟩ := a3 hv
  refine ⟨m, by omega, by rw [e1, nI_clamp (by omega), t4, m2], ?_⟩
  rw [e2]
  exact k_chain (B := B) (C := h3 M) (D := ((r3 S).1, (r3 S).2.1, r_tw F)) (fun a b q => (h.1.2.1 a b q).2.1) m (a_bi T i) (l_en M) (r_en S) m1 (k_en_upd (B := B) (C := h3 M) (D := r3 S) (f := r_tw F) e3 _ _ _ he)
theorem k_full_2 {T : ZT} {B : KB} {n c : Nat} {M : ZMS} {S : ZNS} (h : k_c T B n M S) (hn : n + 1 < 2 ^ 31) (hs : r_ss S = 1) (hc : c ≤ 2) :
    r_nu (md_full S (nI c)).2 = r_nu S ∧ r_en (md_full S (nI c)).2 = r_en S ∧ r_tw (md_full S (nI c)).2 = r_tw S ∧ r_sr (md_full S (nI c)).2 = r_sr S ∧ ∃ B', (∀ a b, B' a b → b < 256 ∧ ¬ r_re (md_full S (nI c)).2 b = 0) ∧ (l_ba M = 0 → ∀ j, l_no M = nI j → j < 2 ^ 31 → k_en B' (h3 (ma_room M (nI c)).2) (r3 (md_full S (nI c)).2) (a_bi T j) (l_en M) (r_en (md_full S (nI c)).2)) := by
  obtain ⟨B1, q1, q2, q3, q4⟩ := k_room h hn (fun _ => by rw [hs]; decide) hc
  have hz : (md_full S (nI c)).2 = md_mark S ∨ (md_full S (nI c)).2 = s_ss (md_mark S) 6 := by
    rcases q4 with ⟨_, p⟩ | ⟨_, p, _⟩
    · exact Or.inr (by rw [p])
    · exact Or.inl (by rw [p])
  have hB : ∀ a b, B1 a b → b < 256 := fun a b q => (q1.1.1.2.1 a b q).2.1
  have key : r_nu (md_mark S) = r_nu S ∧ r_en (md_mark S) = r_en S ∧ r_tw (md_mark S) = r_tw S ∧ r_sr (md_mark S) = r_sr S ∧ ∃ B', (∀ a b, B' a b → b < 256 ∧ ¬ r_re (md_mark S) b = 0) ∧ (l_ba M = 0 → ∀ j, l_no M = nI j → j < 2 ^ 31 → k_en B' (h3 (ma_room M (nI c)).2) (r3 (md_mark S)) (a_bi T j) (l_en M) (r_en (md_mark S))) := by
    refine ⟨me_nu q3, me_en q3, me_tw q3, me_sr q3, B1, fun a b q => ⟨hB a b q, q2 a b q⟩, fun hb j hj hj2 => ?_⟩
    have := (k_c_at q1 ((ma_room_ba M (nI c)).trans hb) ((ma_room_no M (nI c)).trans hj) hj2).2.2.2
    rw [ma_room_en] at this
    exact this
  rcases hz with hz | hz <;> rw [hz] <;> exact key
theorem k_sr_at {T : ZT} {B : KB} {n : Nat} {M : ZMS} {S : ZNS} (h : k_c T B n M S) (hn : n + 1 < 2 ^ 31) (hs : r_ss S = 1) (hb : r_ba S = 0) : sr_at S := by
  have hlb : l_ba M = 0 := (k_c_ba h).1.symm.trans hb
  obtain ⟨j, hj, hsz⟩ : ∃ j, l_no M = nI j ∧ j < 2 ^ 31 := by
    rcases h.2 with ⟨b1, b2, i, b3, b4, b5, b6⟩ | ⟨b1, _⟩
    · exact ⟨i, b4, by have := h.1.1.1.1.2.1; omega⟩
    · exact absurd (b1.symm.trans hlb) (by decide)
  obtain ⟨c1, c2, c3, c4⟩ := k_c_at h hlb hj hsz
  have h200 := h.1.1.1.1.2.1
  obtain ⟨_, ⟨t3, t4⟩, _⟩ := h.1.2.2.2.2.1.2 j c2
  have e3 : r_sr S (r_no S).toNatClampNeg = a_so T j := by rw [c3, nI_clamp hsz, t3]
  have e4 : r_nu S (r_no S).toNatClampNeg = a_xs T j := by rw [c3, nI_clamp hsz, t4]
  have hlo : md_lo S := by
    have := k_md_lo h 1 (fun _ => by decide)
    obtain ⟨p1, p2, p3, p4⟩ := this
    refine ⟨p1, p2, fun q => p3 (q.imp id (fun q => absurd (hs.symm.trans q) (by decide))), fun q _ => p4 q (by show ¬ (1 : Int32) = 2; decide)⟩
  have hsr : ∀ i, i < a_sz T → r_sr S (nI i).toNatClampNeg = a_so T i := by
    intro i hi
    rw [nI_clamp (by omega)]
    exact (h.1.2.2.2.2.1.2 i hi).2.1.1
  -- a part's chain, behind the room for c cells
  have htc : ∀ (F : ZNS) (c i : Nat), c ≤ 2 → F = (md_full S (nI c)).2 → i < a_sz T → a_bi T i = a_bi T j → r_sr F (nI i).toNatClampNeg = 0 → md_tc F (nI i) := by
    intro F c i hc hF hi hbi h0
    subst hF
    obtain ⟨x1, x2, x3, x4, B', x5, x6⟩ := k_full_2 h hn hs hc
    refine k_tc (F := (md_full S (nI c)).2) h.1 hi (by rw [hbi]; exact c4) ?_ x1 x2 (fun a b _ => by rw [x3])
    rw [x4, hsr i hi] at h0
    exact h0
  unfold sr_at
  rw [e3, e4]
  refine ⟨hlo, by rw [c3]; exact vp_in_nI (by omega) (by decide), h.1.2.2.2.2.2.1.2.2.2, ?_, ?_, ?_, ?_⟩
  · intro q
    obtain ⟨_, a2, a3, _⟩ := h.1.1.1.2 j c2
    obtain ⟨m, m1, m2⟩ := a3 q
    obtain ⟨w1, w2⟩ := k_bd h.1.1.2 c4 m1 m2 (by omega)
    refine ⟨⟨m, by omega, e4.trans m2, w2⟩, ?_⟩
    obtain ⟨a, b, _, hb2, _, eb, _⟩ := k_th_c h.1.1.2 w1
    rw [eb]; exact vp_in_nI hb2 (by decide)
  · intro q
    obtain ⟨i, k1, k2, k3, k4⟩ := k_part1 h.1.1.1 h.1.2.2.2.2.1 c2 (by rw [q]; decide)
    rw [q, show a_binds 2 1 = 0 by decide] at k4
    have hbS : md_b S = nI i := by unfold md_b; rw [c3, k3]
    unfold md_f2
    rw [hbS]
    rcases (k_full h.1).2 with ⟨p1, p2, p3⟩ | ⟨p1, p2, p3⟩
    · rw [p3, (show md_costs (s_ss S 5) (nI i) = nI (a_c T i) from (k_cells h.1 k1).2)]
      intro h0
      have hc' : k_c T B n M (s_ss S 5) := h
      -- the marking starts from the same cells
      have hm := k_mark (S := s_ss S 5) hc' hn (fun _ => by show ¬ (5 : Int32) = 2; decide)
      obtain ⟨k, _, _, eW, _⟩ := hm
      have hz : (md_full (s_ss S 5) (nI (a_c T i))).2 = md_mark (s_ss S 5) ∨ (md_full (s_ss S 5) (nI (a_c T i))).2 = s_ss (md_mark (s_ss S 5)) 6 := by
        unfold md_full
        by_cases w : r_le (md_mark (s_ss S 5)) + nI (a_c T i) ≤ 256
        · rw [if_pos w]; exact Or.inl rfl
        · rw [if_neg w]; exact Or.inr rfl
      have hnu : r_nu (md_mark (s_ss S 5)) = r_nu S := by have := me_nu eW; exact this
      have hen : r_en (md_mark (s_ss S 5)) = r_en S := by have := me_en eW; exact this
      have htw : r_tw (md_mark (s_ss S 5)) = r_tw S := by have := me_tw eW; exact this
      have hsr' : r_sr (md_mark (s_ss S 5)) = r_sr S := by have := me_sr eW; exact this
      rcases hz with hz | hz <;> rw [hz] at h0 ⊢
      · refine k_tc (F := md_mark (s_ss S 5)) h.1 k1 (by rw [k4]; exact c4) ?_ hnu hen (fun a b _ => by rw [htw])
        rw [hsr', hsr i k1] at h0; exact h0
      · refine k_tc (F := s_ss (md_mark (s_ss S 5)) 6) h.1 k1 (by rw [k4]; exact c4) ?_ hnu hen (fun a b _ => by show r_tw (md_mark (s_ss S 5)) b = _; rw [htw])
        have h0 : r_sr (md_mark (s_ss S 5)) (nI i).toNatClampNeg = 0 := h0
        rw [hsr', hsr i k1] at h0; exact h0
    · rw [p3, (k_cells h.1 k1).2]
      intro h0
      exact htc _ (a_c T i) i (by have := a_c_le T i; omega) rfl k1 (by omega) h0
  · intro q
    obtain ⟨i, k1, k2, k3, k4⟩ := k_part0 h.1.1.1 h.1.2.2.2.2.1 c2 (by rw [q]; decide)
    rw [q, show a_binds 10 0 = 0 by decide] at k4
    have hbS : md_a S = nI i := by unfold md_a; rw [c3, k3]
    unfold md_f10
    rw [hbS, (k_cells h.1 k1).2, ← nI_succ]
    intro h0
    exact htc _ (a_c T i + 1) i (by have := a_c_le T i; omega) rfl k1 (by omega) h0
  · intro q
    obtain ⟨i, k1, k2, k3, k4⟩ := k_part0 h.1.1.1 h.1.2.2.2.2.1 c2 (by rw [q]; decide)
    obtain ⟨i', l1, l2, l3, l4⟩ := k_part1 h.1.1.1 h.1.2.2.2.2.1 c2 (by rw [q]; decide)
    rw [q, show a_binds 11 0 = 0 by decide] at k4
    rw [q, show a_binds 11 1 = 0 by decide] at l4
    have hbS : md_a S = nI i := by unfold md_a; rw [c3, k3]
    have hbS2 : md_b S = nI i' := by unfold md_b; rw [c3, l3]
    unfold md_f11
    rw [hbS, hbS2, (k_cells h.1 k1).2, (k_cells h.1 l1).2, nI_add]
    have hcc : a_c T i + a_c T i' ≤ 2 := by have := a_c_le T i; have := a_c_le T i'; omega
    refine ⟨fun h0 => htc _ (a_c T i + a_c T i') i hcc rfl k1 (by omega) h0, fun h0 => ?_⟩
    obtain ⟨x1, x2, x3, x4, B', x5, x6⟩ := k_full_2 h hn hs hcc
    have x6 := x6 hlb j hj hsz
    generalize (md_full S (nI (a_c T i + a_c T i'))).2 = F at *
    have hsr2 : r_sr (md_thunk F (nI i)).2 = r_sr F := (md_thunk_fix F (nI i)).2
    have hnu2 : r_nu (md_thunk F (nI i)).2 = r_nu F := by
      unfold md_thunk
      by_cases w : r_sr F (nI i).toNatClampNeg = 0
      · rw [if_pos w]
      · rw [if_neg w]; rfl
    have hen2 := (md_thunk_fx F (nI i)).1.2.1
    rw [hsr2, x4, hsr i' l1] at h0
    obtain ⟨_, a2, a3, _⟩ := h.1.1.1.2 i' l1
    obtain ⟨m, m1, m2⟩ := a3 h0
    obtain ⟨_, ⟨_, t4'⟩, _⟩ := h.1.2.2.2.2.1.2 i' l1
    refine ⟨m, by omega, by rw [hnu2, x1, nI_clamp (by omega), t4', m2], ?_⟩
    rw [hen2]
    refine k_chain (D := ((r3 F).1, (r3 F).2.1, r_tw (md_thunk F (nI i)).2)) (fun a b q => (x5 a b q).1) m _ _ _ (show m < a_bi T j by omega) (k_en_upd ?_ _ _ _ x6)
    intro a b hab
    show r_tw (md_thunk F (nI i)).2 b = r_tw F b
    unfold md_thunk
    by_cases w : r_sr F (nI i).toNatClampNeg = 0
    · rw [if_pos w]
    · rw [if_neg w]
      show upd (r_tw F) (md_find (r_re F) 256 0) _ b = r_tw F b
      rw [pk_un]
      intro e
      obtain ⟨b1, b2⟩ := x5 a b hab
      -- the cell found isn't reached, or is none
      have hfind : ∀ (n k : Nat), k + n = 256 → md_find (r_re F) n k = 256 ∨ r_re F (md_find (r_re F) n k) = 0 := by
        intro n
        induction n with
        | zero => intro k hk; rw [md_find]; exact Or.inl (by omega)
        | succ n ih =>
          intro k hk
          rw [md_find]
          by_cases w : r_re F k = 0
          · rw [if_pos w]; exact Or.inr w
          · rw [if_neg w]; exact ih (k + 1) (by omega)
      rcases hfind 256 0 rfl with w2 | w2
      · omega
      · rw [← e] at w2; exact b2 w2
theorem k_sr_bk {T : ZT} {B : KB} {n : Nat} {M : ZMS} {S : ZNS} (h : k_c T B n M S) (hs : r_ss S = 1) (hb : ¬ r_ba S = 0) : sr_bk S := by
  have hr := h.1.1.2
  have hsz := h.1.1.1.1.2.1
  have hlb : l_ba M = 1 := (k_c_ba h).2.resolve_left (fun q => hb ((k_c_ba h).1.trans q))
  obtain ⟨_, hv⟩ := k_c_bk h hlb
  obtain ⟨_, hvs, _⟩ := k_val_c hr hv
  have hlo : md_lo S := by
    have := k_md_lo h 1 (fun _ => by decide)
    obtain ⟨p1, p2, p3, p4⟩ := this
    refine ⟨p1, p2, fun q => p3 (q.imp id (fun q => absurd (hs.symm.trans q) (by decide))), fun q _ => p4 q (by show ¬ (1 : Int32) = 2; decide)⟩
  refine ⟨hlo, h.1.2.2.2.2.2.1.2.2.2, ?_⟩
  intro g hg hg2
  have ht := k_top h.1 hg hg2
  obtain ⟨e0, ht⟩ := ht
  rw [e0]
  rcases ht with ⟨w, w2⟩ | ⟨w, j, w2, w3, w4, w5, w6⟩ | ⟨w, j, w2, w3, w4, w5⟩ | ⟨w, j, w2, w3, w4⟩
  · obtain ⟨a, b, ha, hb', ea, eb, hab, h5⟩ := k_th_c hr w2
    refine ⟨by rcases w with w | w <;> rw [w] <;> decide, fun _ => by rw [eb]; exact vp_in_nI hb' (by decide), fun _ q => ?_, fun q => by rcases w with w | w <;> rw [w] at q <;> exact absurd q (by decide), fun q => by rcases w with w | w <;> rw [w] at q <;> exact absurd q (by decide)⟩
    obtain ⟨j, j1, _, j3, _⟩ := k_val_1 hv (hvs.symm.trans q)
    rw [j3]; exact vp_in_nI (by omega) (by decide)
  · exact ⟨by rcases w with w | w <;> rw [w] <;> decide, fun q => by rcases w with w | w <;> rw [w] at q <;> exact absurd q (by decide), fun q => by rcases w with w | w <;> rw [w] at q <;> exact absurd q (by decide), fun _ => by rw [w4]; exact vp_in_nI (by omega) (by decide), fun q => by rcases w with w | w <;> rw [w] at q <;> exact absurd q (by decide)⟩
  · rw [w]
    exact ⟨by decide, fun q => absurd q (by decide), fun q => absurd q (by decide), fun q => absurd q (by decide), fun q => absurd q (by decide)⟩
  · rw [w]
    refine ⟨by decide, fun q => absurd q (by decide), fun q => absurd q (by decide), fun _ => by rw [w3]; exact vp_in_nI (by omega) (by decide), fun _ q => ?_⟩
    obtain ⟨v1, v2⟩ := k_val_2 hv (hvs.symm.trans q)
    have hpt : ∀ (c : Prop) [Decidable c], vp_in (if c then r_vo S else r_vt S) 256 := by
      intro c _
      obtain ⟨a, b, ha, hb', ea, eb, _⟩ := k_th_c hr v1
      obtain ⟨a', b', ha', hb'', ea', eb', _⟩ := k_th_c hr v2
      by_cases hc : c
      · rw [if_pos hc, eb]; exact vp_in_nI hb' (by decide)
      · rw [if_neg hc, eb']; exact vp_in_nI hb'' (by decide)
    exact hpt _
theorem k_sr {T : ZT} {n : Nat} {M : ZMS} {S : ZNS} (h : k_x T n M S) (hn : n + 1 < 2 ^ 31) (hs : r_ss S = 1) : (r_ba S = 0 → sr_at S) ∧ (¬ r_ba S = 0 → sr_bk S) := by
  obtain ⟨B, h, _⟩ := h
  exact ⟨k_sr_at h hn hs, k_sr_bk h hs⟩
