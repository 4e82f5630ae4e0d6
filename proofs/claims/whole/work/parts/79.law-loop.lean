set_option maxHeartbeats 4000000 in
set_option maxRecDepth 100000 in
theorem lw_loop {p : Program} {l : Launch} {e : Env} {s : State} {m : MethodId} {below : List Frame} {meth : Method} {c : Code} {b L : Nat} {xs : Nat → Int32} {dC : Nat → ClassId} {dI : Nat → Nat → Nat} {cA cZ cL : ClassId} {sa : Nat → Nat} {tp : Nat} {am : Nat → Nat} {ao : Nat} (F : lw_F p l s m meth c b L xs dC dI cA cZ cL sa tp) : ∀ (f i : Nat), i + f = L / 3 → ∀ (ad : Nat → Nat) (M : ZMS) (S : ZNS) (g : Nat → Int64) (ls : Array Slot) (H : Heap) (locs : List Loc), lv_has ls 7 (lw_ls b am ad ao i) → va_P (dC, dI) classes (lw_W cA cZ cL am ad ao M S g) H → va_D (lw_A s) (lw_W cA cZ cL am ad ao M S g) → va_S (lw_A s) s.heap H locs → k_z (5001 * i) M S →
    W p l e room_1 s m #[Value.ref b] below meth c H locs (43 + i) (10088 + 6 * i) (lw_Z below #[Value.ref b] s) (F0 m 23 ls []) := by
  intro f
  induction f with
  | zero =>
    intro i hf ad M S g ls H locs hl hP hD hS hz
    have F1 := F
    obtain ⟨⟨hx, hb, hr, hml, hown, hlocks⟩, hts, ⟨hX, hbl, hL⟩, hK, hl0, hE, hT⟩ := F1
    have hbA : ¬ lw_A s b := fun q => absurd hbl (Nat.not_lt.mpr q)
    refine lv_iload hx hb d_law_23 (lv_at hl 4 rfl) ?_
    refine lv_aload_n hx hb d_law_25 rfl (lv_at hl 0 rfl) ?_
    refine va_slen hx hb hX hbl hbA hS d_law_26 ?_
    refine lv_iconst (v := 3) hx hb d_law_27 (by decide) ?_
    refine lv_isub hx hb d_law_28 ?_
    refine lv_icmp_gt hx hb d_law_29 rfl (fun h9 => ?_) (fun h9 => absurd ((lw_cond hL (by omega)).mpr (by omega)) h9)
    refine lv_iconst (v := 1) hx hb d_law_444 (by decide) ?_
    refine va_forget (fun q hq => hS.2.2 q hq) ?_
    refine W.widen (k := 1076) (n := 18334) (by omega) (by omega) ?_
    exact lw_ret hx hb hr hlocks d_law_445
  | succ f ih =>
    intro i hf ad M S g ls H locs hl hP hD hS hz
    have F1 := F
    obtain ⟨⟨hx, hb, hr, hml, hown, hlocks⟩, hts, ⟨hX, hbl, hL⟩, hK, hl0, hE, hT⟩ := F1
    have hbA : ¬ lw_A s b := fun q => absurd hbl (Nat.not_lt.mpr q)
    have hi : 3 * i + 3 ≤ L := by omega
    obtain ⟨i0, i1, i2⟩ := lw_i1 hi hL
    refine lv_iload hx hb d_law_23 (lv_at hl 4 rfl) ?_
    refine lv_aload_n hx hb d_law_25 rfl (lv_at hl 0 rfl) ?_
    refine va_slen hx hb hX hbl hbA hS d_law_26 ?_
    refine lv_iconst (v := 3) hx hb d_law_27 (by decide) ?_
    refine lv_isub hx hb d_law_28 ?_
    refine lv_icmp_gt hx hb d_law_29 rfl (fun h9 => absurd hi ((lw_cond hL (by omega)).mp h9)) (fun h9 => ?_)
    refine lv_aload_n hx hb d_law_32 rfl (lv_at hl 0 rfl) ?_
    refine lv_iload hx hb d_law_33 (lv_at hl 4 rfl) ?_
    refine va_sld hx hb hX hbl hbA hS i0 d_law_35 ?_
    refine lv_bipush (v := 7) hx hb d_law_36 (by decide) ?_
    refine lv_iand hx hb d_law_38 ?_
    have hnx : lw_nx p l e s m below meth c b dC dI cA cZ cL am ao i := by
      intro ad M S g ls H locs hl hP hD hS hz
      refine lv_iinc (k := 4) (v := nI (3 * (i + 1))) (lv' := [(4, .int (nI (3 * (i + 1)))), (0, .ref b), (1, .ref (ad 0)), (2, .ref (am 0)), (3, .ref ao)]) hx hb d_law_438 hl rfl (by rw [show 3 * (i + 1) = 3 * i + 3 by omega, ← nI_add]; rfl) (by decide) rfl (fun ls hl => ?_)
      refine lv_goto hx hb d_law_441 rfl ?_
      exact ih (i + 1) (by omega) ad M S g ls H locs (lv_sub hl [1, 2, 3, 4, 0] rfl) hP hD hS hz
    by_cases q0 : (xs (nI (3 * i)).toNatClampNeg &&& 7) = 0
    · refine lv_tableIn (tgt := 84) hx hb d_law_39 (by rw [q0]; decide) (by rw [q0]; decide) (by rw [q0]; rfl) rfl ?_
      exact lw_case_put F hi hl hP hD hS hz hnx
    by_cases q1 : (xs (nI (3 * i)).toNatClampNeg &&& 7) = 1
    · refine lv_tableIn (tgt := 152) hx hb d_law_39 (by rw [q1]; decide) (by rw [q1]; decide) (by rw [q1]; rfl) rfl ?_
      exact lw_case_load F hi hl hP hD hS hz hnx
    by_cases q2 : (xs (nI (3 * i)).toNatClampNeg &&& 7) = 2
    · refine lv_tableIn (tgt := 165) hx hb d_law_39 (by rw [q2]; decide) (by rw [q2]; decide) (by rw [q2]; rfl) rfl ?_
      exact lw_case_restart F hi hl hP hD hS hz hnx
    by_cases q3 : (xs (nI (3 * i)).toNatClampNeg &&& 7) = 3
    · refine lv_tableIn (tgt := 189) hx hb d_law_39 (by rw [q3]; decide) (by rw [q3]; decide) (by rw [q3]; rfl) rfl ?_
      exact lw_case_run F hi hl hP hD hS hz hnx
    by_cases q4 : (xs (nI (3 * i)).toNatClampNeg &&& 7) = 4
    · refine lv_tableIn (tgt := 245) hx hb d_law_39 (by rw [q4]; decide) (by rw [q4]; decide) (by rw [q4]; rfl) rfl ?_
      exact lw_case_result F hi hl hP hD hS hz hnx
    by_cases q5 : (xs (nI (3 * i)).toNatClampNeg &&& 7) = 5
    · refine lv_tableIn (tgt := 301) hx hb d_law_39 (by rw [q5]; decide) (by rw [q5]; decide) (by rw [q5]; rfl) rfl ?_
      exact lw_case_into F hi hl hP hD hS hz hnx
    by_cases q6 : (xs (nI (3 * i)).toNatClampNeg &&& 7) = 6
    · refine lv_tableIn (tgt := 357) hx hb d_law_39 (by rw [q6]; decide) (by rw [q6]; decide) (by rw [q6]; rfl) rfl ?_
      exact lw_case_apply F hi hl hP hD hS hz hnx
    by_cases q7 : (xs (nI (3 * i)).toNatClampNeg &&& 7) = 7
    · refine lv_tableIn (tgt := 413) hx hb d_law_39 (by rw [q7]; decide) (by rw [q7]; decide) (by rw [q7]; rfl) rfl ?_
      exact lw_case_count F hi hl hP hD hS hz hnx
    have z0 := lv_neT (a := 0) q0 (by decide)
    have z1 := lv_neT (a := 1) q1 (by decide)
    have z2 := lv_neT (a := 2) q2 (by decide)
    have z3 := lv_neT (a := 3) q3 (by decide)
    have z4 := lv_neT (a := 4) q4 (by decide)
    have z5 := lv_neT (a := 5) q5 (by decide)
    have z6 := lv_neT (a := 6) q6 (by decide)
    have z7 := lv_neT (a := 7) q7 (by decide)
    refine lv_tableOut (tgt := 438) hx hb d_law_39 (by omega) rfl ?_
    refine W.widen (k := 43 + (i + 1)) (n := 10088 + 6 * (i + 1)) (by omega) (by omega) ?_
    exact hnx ad M S g ls H locs hl hP hD hS (k_z_le hz (by omega))
