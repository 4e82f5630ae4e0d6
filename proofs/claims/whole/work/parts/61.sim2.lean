/-! The two machines side by side: a cell is written, a frame laid and taken off. -/
/-- the reference but for its cells, its marks and where it is -/
def k_same (Z S : ZNS) : Prop := (r_mo Z = r_mo S ∧ r_fr Z = r_fr S ∧ r_wh Z = r_wh S ∧ r_fi Z = r_fi S ∧ r_se Z = r_se S) ∧ (r_si Z = r_si S ∧ r_sr Z = r_sr S ∧ r_nu Z = r_nu S ∧ r_ch Z = r_ch S) ∧ (r_to Z = r_to S ∧ r_so Z = r_so S ∧ r_xs Z = r_xs S) ∧ r_sp Z = r_sp S ∧ r_fo Z = r_fo S
theorem k_same_eq {Z S : ZNS} (h : md_eq Z S) : k_same Z S := ⟨⟨me_mo h, me_fr h, me_wh h, me_fi h, me_se h⟩, ⟨me_si h, me_sr h, me_nu h, me_ch h⟩, ⟨me_to h, me_so h, me_xs h⟩, me_sp h, me_fo h⟩
theorem k_tm_same {T : ZT} {Y : ZTS} {Z S : ZNS} (e : r_si Z = r_si S ∧ r_sr Z = r_sr S ∧ r_nu Z = r_nu S ∧ r_ch Z = r_ch S) (h : k_tm T Y S) : k_tm T Y Z := by
  obtain ⟨e1, e2, e3, e4⟩ := e
  unfold k_tm
  rw [e1, e2, e3, e4]
  exact h
theorem k_wt_same {M M' : ZMS} {Z S : ZNS} (e1 : m_X M' = m_X M ∧ m_Y M' = m_Y M) (e : r_to Z = r_to S ∧ r_so Z = r_so S ∧ r_xs Z = r_xs S) (e4 : r_ch Z = r_ch S) (h : k_wt M S) : k_wt M' Z := by
  unfold k_wt
  rw [e1.1, e1.2, e.1, e.2.1, e.2.2, e4]
  exact h
/-- a new heap beside, with its pairs -/
theorem k_q_hp {T : ZT} {B B' : KB} {n n' : Nat} {M : ZMS} {S S' : ZNS} {H : ZHS} (h : k_q T B n M S) (hr : k_hr T B' (h_st H, h_fi H, h_se H) (r3 S')) (hx : k_ex B (h3 M) (r3 S) B' (h_st H, h_fi H, h_se H) (r3 S')) (ho : hp_ok H ∧ md_ok S') (hf : k_free B' H ∧ k_rd n' H) (hs : k_same S' S) : k_q T B' n' (ma_setH M H) S' := by
  obtain ⟨⟨q0, q1⟩, q2, q3, q4, q5, q6, q7, q8⟩ := h
  obtain ⟨s1, s2, s3, s4, s5⟩ := hs
  exact ⟨⟨q0, hr⟩, ho, hf, k_pl_ex hx q4 s1, k_tm_same s2 q5, k_wt_same ⟨rfl, rfl⟩ s3 s2.2.2.2 q6, q7.trans s4.symm, q8.trans s5.symm⟩
theorem k_ok_u3 {H : ZHS} {a : Nat} {s x y : Int32} {H' : ZHS} (h : hp_ok H) (e : (h_st H', h_fi H', h_se H') = u3 (h_st H, h_fi H, h_se H) a s x y) (hx : s = 5 ∨ s = 2 → hp_c x) (hy : hp_c y) : hp_ok H' := by
  have e1 : h_st H' = upd (h_st H) a s := congrArg (fun t : K3 => t.1) e
  have e2 : h_fi H' = upd (h_fi H) a x := congrArg (fun t : K3 => t.2.1) e
  have e3 : h_se H' = upd (h_se H) a y := congrArg (fun t : K3 => t.2.2) e
  intro j hj
  rw [e1, e2, e3]
  by_cases hja : j = a
  · subst hja; rw [pk_us, pk_us, pk_us]; exact ⟨hx, hy⟩
  · rw [pk_un hja, pk_un hja, pk_un hja]; exact h j hj
theorem k_mok_u3 {S S' : ZNS} {b : Nat} {s x y : Int32} (h : md_ok S) (e : r3 S' = u3 (r3 S) b s x y) (hx : s = 5 ∨ s = 2 → md_c x) (hy : md_c y) : md_ok S' := by
  have e1 : r_is S' = upd (r_is S) b s := congrArg (fun t : K3 => t.1) e
  have e2 : r_on S' = upd (r_on S) b x := congrArg (fun t : K3 => t.2.1) e
  have e3 : r_tw S' = upd (r_tw S) b y := congrArg (fun t : K3 => t.2.2) e
  intro j hj
  rw [e1, e2, e3]
  by_cases hja : j = b
  · subst hja; rw [pk_us, pk_us, pk_us]; exact ⟨hx, hy⟩
  · rw [pk_un hja, pk_un hja, pk_un hja]; exact h j hj
theorem k_ct_c {T : ZT} {B : KB} {C D : K3} {s x y s' x' y' : Int32} (h : k_hr T B C D) (g : k_ct T B C D s x y s' x' y') : (s = 5 ∨ s = 2 → hp_c x) ∧ (s' = 5 ∨ s' = 2 → md_c x') := by
  rcases g with ⟨g1, g2, g3, _⟩ | ⟨g1, g2, _⟩ | ⟨g1, g2⟩ | ⟨g1, g2, _⟩ | ⟨g1, g2, _⟩ | ⟨g1, g2, g3, _⟩
  · exact ⟨fun _ => (k_th_cc h g3).1, fun _ => (k_th_cc h g3).2⟩
  · rw [g1, g2]; exact ⟨fun q => absurd q (by decide), fun q => absurd q (by decide)⟩
  · rw [g1, g2]; exact ⟨fun q => absurd q (by decide), fun q => absurd q (by decide)⟩
  · rw [g1, g2]; exact ⟨fun q => absurd q (by decide), fun q => absurd q (by decide)⟩
  · rw [g1, g2]; exact ⟨fun q => absurd q (by decide), fun q => absurd q (by decide)⟩
  · exact ⟨fun _ => (k_th_cc h g3).1, fun _ => (k_th_cc h g3).2⟩
/-- a pair of cells is written -/
theorem k_q_wr {T : ZT} {B : KB} {n : Nat} {M : ZMS} {S S' : ZNS} {H : ZHS} {a b : Nat} {s x y s' x' y' : Int32} (h : k_q T B n M S) (ha : a < 256) (hb : b < 256) (hm : k_may B (h3 M) a b s) (hc : k_ct T B (h3 M) (r3 S) s x y s' x' y') (hl : hp_c y ∧ md_c y')
    (e : (h_st H, h_fi H, h_se H) = u3 (h3 M) a s x y) (e' : r3 S' = u3 (r3 S) b s' x' y') (hf : k_free (k_ad B a b) H ∧ k_rd n H) (hs : k_same S' S) :
    k_q T (k_ad B a b) n (ma_setH M H) S' ∧ k_ex B (h3 M) (r3 S) (k_ad B a b) (h3 (ma_setH M H)) (r3 S') := by
  have hr := h.1.2
  have hx := k_wr_ex (x := x) (y := y) (s' := s') (x' := x') (y' := y') hr hm
  have hw := k_wr hr ha hb hm hc
  rw [← e, ← e'] at hx hw
  obtain ⟨c1, c2⟩ := k_ct_c hr hc
  exact ⟨k_q_hp h hw hx ⟨k_ok_u3 h.2.1.1 e c1 hl.1, k_mok_u3 h.2.1.2 e' c2 hl.2⟩ hf hs, hx⟩
theorem k_become (H : ZHS) {a : Nat} (ha : a < 256) (s x y : Int32) : hp_become H (nI a) s x y = (upd (h_st H) a s, upd (h_fi H) a x, upd (h_se H) a y, H.2.2.2) := by
  unfold hp_become
  rw [if_neg (k_nI_ne (by omega)), k_clamp ha]
/-- two free cells are taken -/
theorem k_take {T : ZT} {B : KB} {n : Nat} {M : ZMS} {S : ZNS} {s x y s' x' y' : Int32} (h : k_q T B n M S) (hR : ∀ a b, B a b → ¬ r_re S b = 0) (h1 : ¬ h_fr (m_H M) = 0) (h2 : ∃ j, j < 256 ∧ r_re S j = 0) (hc : k_ct T B (h3 M) (r3 S) s x y s' x' y') (hl : hp_c y ∧ md_c y') :
    ∃ a b, a < 256 ∧ b < 256 ∧ (hp_take (m_H M) s x y).1 = nI a ∧ (md_cell S s' x' y').1 = nI b ∧ k_q T (k_ad B a b) n (ma_setH M (hp_take (m_H M) s x y).2) (md_cell S s' x' y').2 ∧ k_ex B (h3 M) (r3 S) (k_ad B a b) (h3 (ma_setH M (hp_take (m_H M) s x y).2)) (r3 (md_cell S s' x' y').2) ∧
      (h3 (ma_setH M (hp_take (m_H M) s x y).2)).1 a = s ∧ (∀ i j, k_ad B a b i j → ¬ r_re (md_cell S s' x' y').2 j = 0) ∧ h_fr (hp_take (m_H M) s x y).2 = h_fr (m_H M) - 1 := by
  obtain ⟨⟨f, f1, f2, f3, f4⟩, r, r1, r2, r3'⟩ := h.2.2.1
  obtain ⟨g, rfl⟩ : ∃ g, f = g + 1 := by
    rcases f with _ | g
    · exact absurd f2 h1
    · exact ⟨g, rfl⟩
  obtain ⟨a, a1, a2, a3⟩ := f3 g (by omega)
  have hfr : h_fr (m_H M) - 1 = nI g := by rw [f2]; exact nI_pred g
  have hcl : (h_fr (m_H M) - 1).toNatClampNeg = g := by rw [hfr, nI_clamp (by omega)]
  obtain ⟨b1, b2⟩ := md_find_ok (r_re S) 256 0 rfl (by obtain ⟨j, j1, j2⟩ := h2; exact ⟨j, by omega, j1, j2⟩)
  have ht : hp_take (m_H M) s x y = (nI a, (upd (h_st (m_H M)) a s, upd (h_fi (m_H M)) a x, upd (h_se (m_H M)) a y, (hp_setfr (m_H M) (nI g)).2.2.2)) := by
    unfold hp_take
    rw [if_neg h1, hcl, a2, k_become _ a1, hfr]
    rfl
  have hB : ∀ i, ¬ B i (md_find (r_re S) 256 0) := fun i q => hR i _ q b2
  refine ⟨a, md_find (r_re S) 256 0, a1, b1, by rw [ht], rfl, ?_⟩
  rw [ht]
  have hq := k_q_wr (S' := (md_cell S s' x' y').2) (H := (upd (h_st (m_H M)) a s, upd (h_fi (m_H M)) a x, upd (h_se (m_H M)) a y, (hp_setfr (m_H M) (nI g)).2.2.2)) h a1 b1 (Or.inl ⟨a3, hB⟩) hc hl rfl rfl
    ⟨⟨g, by omega, rfl, fun j hj => ?_, fun i j hi hj => f4 i j (by omega) (by omega)⟩, r, r1, r2, r3'⟩ ⟨⟨rfl, rfl, rfl, rfl, rfl⟩, ⟨rfl, rfl, rfl, rfl⟩, ⟨rfl, rfl, rfl⟩, rfl, rfl⟩
  · refine ⟨hq.1, hq.2, pk_us, ?_, hfr.symm⟩
    intro i j hij
    show ¬ upd (r_re S) (md_find (r_re S) 256 0) 1 j = 0
    rcases hij with hij | ⟨_, rfl⟩
    · have hne : j ≠ md_find (r_re S) 256 0 := fun q => hB i (by rw [← q]; exact hij)
      rw [pk_un hne]; exact hR i j hij
    · rw [pk_us]; decide
  · obtain ⟨a', p1, p2, p3⟩ := f3 j (by omega)
    refine ⟨a', p1, p2, ?_⟩
    intro b hb
    rcases hb with hb | ⟨rfl, _⟩
    · exact p3 b hb
    · have := f4 j g (by omega) (by omega) (p2.trans a2.symm)
      omega
theorem k_upd_self (f : Nat → Int32) (b : Nat) : upd f b (f b) = f := by
  funext j
  by_cases h : j = b
  · subst h; exact pk_us
  · exact pk_un h
/-- two thunks are written -/
theorem k_write {T : ZT} {B : KB} {n : Nat} {M : ZMS} {S S' : ZNS} {a b : Nat} {s x y s' x' y' : Int32} (h : k_q T B n M S) (hab : B a b) (hth : ¬ h_st (m_H M) a = 5) (hs5 : ¬ s = 5) (hc : k_ct T B (h3 M) (r3 S) s x y s' x' y') (hl : hp_c y ∧ md_c y')
    (e' : r3 S' = u3 (r3 S) b s' x' y') (hs : k_same S' S) :
    k_q T (k_ad B a b) n (ma_setH M (hp_become (m_H M) (nI a) s x y)) S' ∧ k_ex B (h3 M) (r3 S) (k_ad B a b) (h3 (ma_setH M (hp_become (m_H M) (nI a) s x y))) (r3 S') := by
  obtain ⟨ha, hb, _⟩ := h.1.2.1 a b hab
  obtain ⟨⟨f, f1, f2, f3, f4⟩, hrd⟩ := h.2.2.1
  rw [k_become _ ha]
  refine k_q_wr h ha hb (Or.inr ⟨hab, hth, hs5⟩) hc hl rfl e' ⟨⟨f, f1, f2, fun j hj => ?_, f4⟩, hrd⟩ hs
  obtain ⟨a', p1, p2, p3⟩ := f3 j hj
  refine ⟨a', p1, p2, ?_⟩
  intro c hc2
  rcases hc2 with hc2 | ⟨rfl, _⟩
  · exact p3 c hc2
  · exact p3 b hab
/-- a frame is laid -/
theorem k_push {T : ZT} {B : KB} {n : Nat} {M : ZMS} {S : ZNS} {s x y s' x' y' : Int32} (h : k_q T B n M S) (h2 : ¬ r_fr S = 200) (hf : k_frame T B (h3 M) (r3 S) s x y s' x' y') : k_q T B n (ma_setP M (pl_add (m_P M) s x y)) (md_push S s' x' y') := by
  obtain ⟨q1, q2, q3, ⟨g0, z, g1, g2, g3, g4⟩, q5, q6, q7⟩ := h
  have hz : ¬ p_sz (m_P M) = 200 := by rw [g2, ← g3]; exact h2
  have hz2 : z < 200 := by
    rcases Nat.lt_or_ge z 200 with h9 | h9
    · exact h9
    · exact absurd (by rw [g3, show z = 200 by omega]; rfl) h2
  have ha : pl_add (m_P M) s x y = (upd (p_so (m_P M)) z s, upd (p_fi (m_P M)) z x, upd (p_se (m_P M)) z y, p_sz (m_P M) + 1, if p_mo (m_P M) < p_sz (m_P M) + 1 then p_sz (m_P M) + 1 else p_mo (m_P M)) := by
    unfold pl_add
    rw [if_neg hz, g2, nI_clamp (by omega)]
  have hb : md_push S s' x' y' = s_mo (s_fr (s_se (s_fi (s_wh S (upd (r_wh S) z s')) (upd (r_fi S) z x')) (upd (r_se S) z y')) (r_fr S + 1)) (if r_fr S + 1 ≤ r_mo S then r_mo S else r_fr S + 1) := by
    unfold md_push
    rw [g3, nI_clamp (by omega)]
  rw [ha, hb]
  refine ⟨q1, q2, q3, ⟨?_, z + 1, by omega, ?_, ?_, ?_⟩, q5, q6, q7⟩
  · show (if p_mo (m_P M) < p_sz (m_P M) + 1 then p_sz (m_P M) + 1 else p_mo (m_P M)) = if r_fr S + 1 ≤ r_mo S then r_mo S else r_fr S + 1
    rw [g0, g2, g3]
    by_cases h9 : nI z + 1 ≤ r_mo S
    · rw [if_pos h9, if_neg (Int32.not_lt.mpr h9)]
    · rw [if_neg h9, if_pos (Int32.not_le.mp h9)]
  · show p_sz (m_P M) + 1 = nI (z + 1)
    rw [g2]; exact (nI_succ z).symm
  · show r_fr S + 1 = nI (z + 1)
    rw [g3]; exact (nI_succ z).symm
  · intro j hj
    show k_frame T B (h3 M) (r3 S) (upd (p_so (m_P M)) z s j) (upd (p_fi (m_P M)) z x j) (upd (p_se (m_P M)) z y j) (upd (r_wh S) z s' j) (upd (r_fi S) z x' j) (upd (r_se S) z y' j)
    by_cases hjz : j = z
    · subst hjz; rw [pk_us, pk_us, pk_us, pk_us, pk_us, pk_us]; exact hf
    · rw [pk_un hjz, pk_un hjz, pk_un hjz, pk_un hjz, pk_un hjz, pk_un hjz]; exact g4 j (by omega)
/-- and taken off -/
theorem k_drop {T : ZT} {B : KB} {n : Nat} {M : ZMS} {S : ZNS} {g : Nat} (h : k_q T B n M S) (hg : r_fr S = nI (g + 1)) (hg2 : g < 200) : k_q T B n (ma_setP M (pl_drop (m_P M))) (s_fr S (r_fr S - 1)) ∧ ¬ r_fr S - 1 = 200 := by
  obtain ⟨q1, q2, q3, ⟨g0, z, g1, g2, g3, g4⟩, q5, q6, q7⟩ := h
  have hz : z = g + 1 := (nI_eq (by omega) (by omega)).mp (g3.symm.trans hg)
  subst hz
  have ha : pl_drop (m_P M) = (p_so (m_P M), p_fi (m_P M), p_se (m_P M), nI g, p_mo (m_P M)) := by
    unfold pl_drop
    rw [g2, if_neg (nI_nle (by omega) (by omega)), nI_pred]
  rw [ha, g3, nI_pred]
  exact ⟨⟨q1, q2, q3, ⟨g0, g, by omega, rfl, rfl, fun j hj => g4 j (by omega)⟩, q5, q6, q7⟩, fun q => by have := (nI_eq (a := g) (b := 200) (by omega) (by omega)).mp q; omega⟩
/-- the frame on top -/
theorem k_top {T : ZT} {B : KB} {n : Nat} {M : ZMS} {S : ZNS} {g : Nat} (h : k_q T B n M S) (hg : r_fr S = nI (g + 1)) (hg2 : g < 200) : k_frame T B (h3 M) (r3 S) (pl_topSort (m_P M)) (pl_topFirst (m_P M)) (pl_topSecond (m_P M)) (r_wh S g) (r_fi S g) (r_se S g) := by
  obtain ⟨_, _, _, ⟨g0, z, g1, g2, g3, g4⟩, _⟩ := h
  have hz : z = g + 1 := (nI_eq (by omega) (by omega)).mp (g3.symm.trans hg)
  subst hz
  unfold pl_topSort pl_topFirst pl_topSecond
  rw [g2, if_neg (nI_ne0 (by omega) (by omega)), if_neg (nI_ne0 (by omega) (by omega)), if_neg (nI_ne0 (by omega) (by omega)), nI_pred, nI_clamp (by omega)]
  exact g4 g (by omega)
theorem k_full {T : ZT} {B : KB} {n : Nat} {M : ZMS} {S : ZNS} (h : k_q T B n M S) : pl_full (m_P M) = (md_high S).1 ∧ (r_fr S = 200 ∧ pl_full (m_P M) = 1 ∧ (md_high S).2 = s_ss S 5 ∨ ¬ r_fr S = 200 ∧ pl_full (m_P M) = 0 ∧ (md_high S).2 = S) := by
  obtain ⟨_, _, _, ⟨g0, z, g1, g2, g3, g4⟩, _⟩ := h
  have hz : p_sz (m_P M) = r_fr S := by rw [g2, g3]
  unfold pl_full md_high
  rw [hz]
  by_cases h1 : r_fr S = 200
  · rw [if_pos h1, if_pos h1]; exact ⟨rfl, Or.inl ⟨h1, rfl, rfl⟩⟩
  · rw [if_neg h1, if_neg h1]; exact ⟨rfl, Or.inr ⟨h1, rfl, rfl⟩⟩
/-- the other pairs, if they say the same -/
theorem k_force {T : ZT} {B : KB} {n : Nat} {M : ZMS} {S : ZNS} (h : k_q T B n M S) : k_q T B n (ma_force M) (s_fo S (r_fo S + 1)) := by
  obtain ⟨q1, q2, q3, q4, q5, q6, q7, q8⟩ := h
  exact ⟨q1, q2, q3, q4, q5, q6, q7, by show l_fo M + 1 = r_fo S + 1; rw [q8]⟩
theorem k_stat {T : ZT} {B : KB} {n : Nat} {M : ZMS} {S : ZNS} (h : k_q T B n M S) (x y : Int32) : k_q T B n (ma_stat M x) (s_ss S y) := h
theorem k_enter {T : ZT} {B : KB} {n : Nat} {M : ZMS} {S : ZNS} (h : k_q T B n M S) {j : Nat} {x y : Int32} (hj : j < a_sz T) (he : k_en B (h3 M) (r3 S) (a_bi T j) x y) : k_c T B n (ma_enter M (nI j) x) (md_go S (nI j) y) :=
  ⟨h, Or.inl ⟨rfl, rfl, j, hj, rfl, rfl, he⟩⟩
theorem k_back {T : ZT} {B : KB} {n : Nat} {M : ZMS} {S : ZNS} (h : k_q T B n M S) {s x y s' x' y' : Int32} (hv : k_val T B (h3 M) (r3 S) s x y s' x' y') : k_c T B n (ma_back M s x y) (md_give S s' x' y') :=
  ⟨h, Or.inr ⟨rfl, rfl, hv⟩⟩
theorem k_c_stat {T : ZT} {B : KB} {n : Nat} {M : ZMS} {S : ZNS} (h : k_c T B n M S) (x y : Int32) : k_c T B n (ma_stat M x) (s_ss S y) := h
theorem k_rd_le {n m : Nat} {H : ZHS} (h : k_rd n H) (hm : n ≤ m) : k_rd m H := by
  obtain ⟨r, h1, h2, h3⟩ := h
  exact ⟨r, by omega, h2, h3⟩
theorem k_q_le {T : ZT} {B : KB} {n m : Nat} {M : ZMS} {S : ZNS} (h : k_q T B n M S) (hm : n ≤ m) : k_q T B m M S := by
  obtain ⟨q1, q2, ⟨q3, q4⟩, q5⟩ := h
  exact ⟨q1, q2, ⟨q3, k_rd_le q4 hm⟩, q5⟩
