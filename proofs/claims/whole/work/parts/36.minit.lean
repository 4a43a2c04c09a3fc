def miS0 (σ : HS) : HS := sR (nw (sR (nw (sR (nw (sR (nw (sR (nw (sR (nw (sR (nw (sR (nw (sR (nw (sR (nw (sR (nw (sR (nw (sR (nw (sR (nw (sR (nw (sR (nw (sR (nw (sR (nw (sR (nw (sR (nw (sR (nw (sR (nw (σ) 7 10) 6 (0) 2 (some (7 + 16 * 0))) 7 10) 6 (0) 3 (some (7 + 16 * 1))) 7 10) 6 (0) 4 (some (7 + 16 * 2))) 7 10) 6 (0) 5 (some (7 + 16 * 3))) 9 10) 6 (0) 6 (some (9 + 16 * 0))) 9 10) 6 (0) 7 (some (9 + 16 * 1))) 7 32) 6 (0) 9 (some (7 + 16 * 4))) 7 32) 6 (0) 10 (some (7 + 16 * 5))) 8 16) 6 (0) 11 (some (8 + 16 * 0))) 7 40) 6 (0) 12 (some (7 + 16 * 6))) 7 40) 6 (0) 13 (some (7 + 16 * 7))) 8 40) 6 (0) 14 (some (8 + 16 * 1))) 7 40) 6 (0) 15 (some (7 + 16 * 8))) 7 320) 6 (0) 16 (some (7 + 16 * 9))) 8 40) 6 (0) 17 (some (8 + 16 * 2))) 7 320) 6 (0) 18 (some (7 + 16 * 10))) 8 40) 6 (0) 19 (some (8 + 16 * 3))) 7 320) 6 (0) 20 (some (7 + 16 * 11))) 7 40) 6 (0) 21 (some (7 + 16 * 12))) 7 10) 6 (0) 22 (some (7 + 16 * 13))) 7 8) 6 (0) 23 (some (7 + 16 * 14))) 7 8) 6 (0) 24 (some (7 + 16 * 15))
theorem mi_identities {σ : HS} (h7 : hn σ 7 = 0) (h8 : hn σ 8 = 0) (h9 : hn σ 9 = 0) : hR (miS0 σ) 6 0 2 = some (7 + 16 * 0) ∧ hl (miS0 σ) 7 0 = 10 := by
  unfold miS0
  simp [R_sI, R_sJ, R_sR, R_nw, l_sI, l_sJ, l_sR, l_nw, n_sI, n_sJ, n_sR, n_nw, h7, h8, h9]
theorem mi_priorities {σ : HS} (h7 : hn σ 7 = 0) (h8 : hn σ 8 = 0) (h9 : hn σ 9 = 0) : hR (miS0 σ) 6 0 3 = some (7 + 16 * 1) ∧ hl (miS0 σ) 7 1 = 10 := by
  unfold miS0
  simp [R_sI, R_sJ, R_sR, R_nw, l_sI, l_sJ, l_sR, l_nw, n_sI, n_sJ, n_sR, n_nw, h7, h8, h9]
theorem mi_classes {σ : HS} (h7 : hn σ 7 = 0) (h8 : hn σ 8 = 0) (h9 : hn σ 9 = 0) : hR (miS0 σ) 6 0 4 = some (7 + 16 * 2) ∧ hl (miS0 σ) 7 2 = 10 := by
  unfold miS0
  simp [R_sI, R_sJ, R_sR, R_nw, l_sI, l_sJ, l_sR, l_nw, n_sI, n_sJ, n_sR, n_nw, h7, h8, h9]
theorem mi_lessers {σ : HS} (h7 : hn σ 7 = 0) (h8 : hn σ 8 = 0) (h9 : hn σ 9 = 0) : hR (miS0 σ) 6 0 5 = some (7 + 16 * 3) ∧ hl (miS0 σ) 7 3 = 10 := by
  unfold miS0
  simp [R_sI, R_sJ, R_sR, R_nw, l_sI, l_sJ, l_sR, l_nw, n_sI, n_sJ, n_sR, n_nw, h7, h8, h9]
theorem mi_offsets {σ : HS} (h7 : hn σ 7 = 0) (h8 : hn σ 8 = 0) (h9 : hn σ 9 = 0) : hR (miS0 σ) 6 0 6 = some (9 + 16 * 0) ∧ hl (miS0 σ) 9 0 = 10 := by
  unfold miS0
  simp [R_sI, R_sJ, R_sR, R_nw, l_sI, l_sJ, l_sR, l_nw, n_sI, n_sJ, n_sR, n_nw, h7, h8, h9]
theorem mi_delays {σ : HS} (h7 : hn σ 7 = 0) (h8 : hn σ 8 = 0) (h9 : hn σ 9 = 0) : hR (miS0 σ) 6 0 7 = some (9 + 16 * 1) ∧ hl (miS0 σ) 9 1 = 10 := by
  unfold miS0
  simp [R_sI, R_sJ, R_sR, R_nw, l_sI, l_sJ, l_sR, l_nw, n_sI, n_sJ, n_sR, n_nw, h7, h8, h9]
theorem mi_ends {σ : HS} (h7 : hn σ 7 = 0) (h8 : hn σ 8 = 0) (h9 : hn σ 9 = 0) : hR (miS0 σ) 6 0 9 = some (7 + 16 * 4) ∧ hl (miS0 σ) 7 4 = 32 := by
  unfold miS0
  simp [R_sI, R_sJ, R_sR, R_nw, l_sI, l_sJ, l_sR, l_nw, n_sI, n_sJ, n_sR, n_nw, h7, h8, h9]
theorem mi_ways {σ : HS} (h7 : hn σ 7 = 0) (h8 : hn σ 8 = 0) (h9 : hn σ 9 = 0) : hR (miS0 σ) 6 0 10 = some (7 + 16 * 5) ∧ hl (miS0 σ) 7 5 = 32 := by
  unfold miS0
  simp [R_sI, R_sJ, R_sR, R_nw, l_sI, l_sJ, l_sR, l_nw, n_sI, n_sJ, n_sR, n_nw, h7, h8, h9]
theorem mi_isUp {σ : HS} (h7 : hn σ 7 = 0) (h8 : hn σ 8 = 0) (h9 : hn σ 9 = 0) : hR (miS0 σ) 6 0 11 = some (8 + 16 * 0) ∧ hl (miS0 σ) 8 0 = 16 := by
  unfold miS0
  simp [R_sI, R_sJ, R_sR, R_nw, l_sI, l_sJ, l_sR, l_nw, n_sI, n_sJ, n_sR, n_nw, h7, h8, h9]
theorem mi_linkOf {σ : HS} (h7 : hn σ 7 = 0) (h8 : hn σ 8 = 0) (h9 : hn σ 9 = 0) : hR (miS0 σ) 6 0 12 = some (7 + 16 * 6) ∧ hl (miS0 σ) 7 6 = 40 := by
  unfold miS0
  simp [R_sI, R_sJ, R_sR, R_nw, l_sI, l_sJ, l_sR, l_nw, n_sI, n_sJ, n_sR, n_nw, h7, h8, h9]
theorem mi_states {σ : HS} (h7 : hn σ 7 = 0) (h8 : hn σ 8 = 0) (h9 : hn σ 9 = 0) : hR (miS0 σ) 6 0 13 = some (7 + 16 * 7) ∧ hl (miS0 σ) 7 7 = 40 := by
  unfold miS0
  simp [R_sI, R_sJ, R_sR, R_nw, l_sI, l_sJ, l_sR, l_nw, n_sI, n_sJ, n_sR, n_nw, h7, h8, h9]
theorem mi_keeps {σ : HS} (h7 : hn σ 7 = 0) (h8 : hn σ 8 = 0) (h9 : hn σ 9 = 0) : hR (miS0 σ) 6 0 14 = some (8 + 16 * 1) ∧ hl (miS0 σ) 8 1 = 40 := by
  unfold miS0
  simp [R_sI, R_sJ, R_sR, R_nw, l_sI, l_sJ, l_sR, l_nw, n_sI, n_sJ, n_sR, n_nw, h7, h8, h9]
theorem mi_ages {σ : HS} (h7 : hn σ 7 = 0) (h8 : hn σ 8 = 0) (h9 : hn σ 9 = 0) : hR (miS0 σ) 6 0 15 = some (7 + 16 * 8) ∧ hl (miS0 σ) 7 8 = 40 := by
  unfold miS0
  simp [R_sI, R_sJ, R_sR, R_nw, l_sI, l_sJ, l_sR, l_nw, n_sI, n_sJ, n_sR, n_nw, h7, h8, h9]
theorem mi_data {σ : HS} (h7 : hn σ 7 = 0) (h8 : hn σ 8 = 0) (h9 : hn σ 9 = 0) : hR (miS0 σ) 6 0 16 = some (7 + 16 * 9) ∧ hl (miS0 σ) 7 9 = 320 := by
  unfold miS0
  simp [R_sI, R_sJ, R_sR, R_nw, l_sI, l_sJ, l_sR, l_nw, n_sI, n_sJ, n_sR, n_nw, h7, h8, h9]
theorem mi_comes {σ : HS} (h7 : hn σ 7 = 0) (h8 : hn σ 8 = 0) (h9 : hn σ 9 = 0) : hR (miS0 σ) 6 0 17 = some (8 + 16 * 2) ∧ hl (miS0 σ) 8 2 = 40 := by
  unfold miS0
  simp [R_sI, R_sJ, R_sR, R_nw, l_sI, l_sJ, l_sR, l_nw, n_sI, n_sJ, n_sR, n_nw, h7, h8, h9]
theorem mi_coming {σ : HS} (h7 : hn σ 7 = 0) (h8 : hn σ 8 = 0) (h9 : hn σ 9 = 0) : hR (miS0 σ) 6 0 18 = some (7 + 16 * 10) ∧ hl (miS0 σ) 7 10 = 320 := by
  unfold miS0
  simp [R_sI, R_sJ, R_sR, R_nw, l_sI, l_sJ, l_sR, l_nw, n_sI, n_sJ, n_sR, n_nw, h7, h8, h9]
theorem mi_kept {σ : HS} (h7 : hn σ 7 = 0) (h8 : hn σ 8 = 0) (h9 : hn σ 9 = 0) : hR (miS0 σ) 6 0 19 = some (8 + 16 * 3) ∧ hl (miS0 σ) 8 3 = 40 := by
  unfold miS0
  simp [R_sI, R_sJ, R_sR, R_nw, l_sI, l_sJ, l_sR, l_nw, n_sI, n_sJ, n_sR, n_nw, h7, h8, h9]
theorem mi_was {σ : HS} (h7 : hn σ 7 = 0) (h8 : hn σ 8 = 0) (h9 : hn σ 9 = 0) : hR (miS0 σ) 6 0 20 = some (7 + 16 * 11) ∧ hl (miS0 σ) 7 11 = 320 := by
  unfold miS0
  simp [R_sI, R_sJ, R_sR, R_nw, l_sI, l_sJ, l_sR, l_nw, n_sI, n_sJ, n_sR, n_nw, h7, h8, h9]
theorem mi_wasState {σ : HS} (h7 : hn σ 7 = 0) (h8 : hn σ 8 = 0) (h9 : hn σ 9 = 0) : hR (miS0 σ) 6 0 21 = some (7 + 16 * 12) ∧ hl (miS0 σ) 7 12 = 40 := by
  unfold miS0
  simp [R_sI, R_sJ, R_sR, R_nw, l_sI, l_sJ, l_sR, l_nw, n_sI, n_sJ, n_sR, n_nw, h7, h8, h9]
theorem mi_bests {σ : HS} (h7 : hn σ 7 = 0) (h8 : hn σ 8 = 0) (h9 : hn σ 9 = 0) : hR (miS0 σ) 6 0 22 = some (7 + 16 * 13) ∧ hl (miS0 σ) 7 13 = 10 := by
  unfold miS0
  simp [R_sI, R_sJ, R_sR, R_nw, l_sI, l_sJ, l_sR, l_nw, n_sI, n_sJ, n_sR, n_nw, h7, h8, h9]
theorem mi_one {σ : HS} (h7 : hn σ 7 = 0) (h8 : hn σ 8 = 0) (h9 : hn σ 9 = 0) : hR (miS0 σ) 6 0 23 = some (7 + 16 * 14) ∧ hl (miS0 σ) 7 14 = 8 := by
  unfold miS0
  simp [R_sI, R_sJ, R_sR, R_nw, l_sI, l_sJ, l_sR, l_nw, n_sI, n_sJ, n_sR, n_nw, h7, h8, h9]
theorem mi_other {σ : HS} (h7 : hn σ 7 = 0) (h8 : hn σ 8 = 0) (h9 : hn σ 9 = 0) : hR (miS0 σ) 6 0 24 = some (7 + 16 * 15) ∧ hl (miS0 σ) 7 15 = 8 := by
  unfold miS0
  simp [R_sI, R_sJ, R_sR, R_nw, l_sI, l_sJ, l_sR, l_nw, n_sI, n_sJ, n_sR, n_nw, h7, h8, h9]
theorem mi_MS {σ : HS} (h7 : hn σ 7 = 0) (h8 : hn σ 8 = 0) (h9 : hn σ 9 = 0) : MS (miS0 σ) := by
  intro x hx
  simp only [mT, List.mem_cons, List.not_mem_nil, or_false] at hx
  rcases hx with rfl | rfl | rfl | rfl | rfl | rfl | rfl | rfl | rfl | rfl | rfl | rfl | rfl | rfl | rfl | rfl | rfl | rfl | rfl | rfl | rfl | rfl
  · exact mi_identities h7 h8 h9
  · exact mi_priorities h7 h8 h9
  · exact mi_classes h7 h8 h9
  · exact mi_lessers h7 h8 h9
  · exact mi_offsets h7 h8 h9
  · exact mi_delays h7 h8 h9
  · exact mi_ends h7 h8 h9
  · exact mi_ways h7 h8 h9
  · exact mi_isUp h7 h8 h9
  · exact mi_linkOf h7 h8 h9
  · exact mi_states h7 h8 h9
  · exact mi_keeps h7 h8 h9
  · exact mi_ages h7 h8 h9
  · exact mi_data h7 h8 h9
  · exact mi_comes h7 h8 h9
  · exact mi_coming h7 h8 h9
  · exact mi_kept h7 h8 h9
  · exact mi_was h7 h8 h9
  · exact mi_wasState h7 h8 h9
  · exact mi_bests h7 h8 h9
  · exact mi_one h7 h8 h9
  · exact mi_other h7 h8 h9
theorem lp40f : ∀ k, k < 40 → ¬ (40 : Int32) ≤ nI k := by decide +kernel
theorem lp40t : (40 : Int32) ≤ nI 40 := by decide +kernel
set_option maxHeartbeats 4000000 in
theorem lp_M_init {l : Launch} (hl0 : l.stackTraces = false) {G : LG} {σ : HS} (hM : MS (miS0 σ)) : ∀ m j, j + m = 40 → Ex l G m_M_init (pmV G m_M_init (qd (.inr none) (sA (miS0 σ) 7 6 (cpy (fun _ => -1) 40 (hI (miS0 σ) 7 6))))) 185 [(1, .int (nI j)), (0, .ref (6 + 16 * 0))] [] (sA (miS0 σ) 7 6 (cpy (fun _ => -1) j (hI (miS0 σ) 7 6))) 0 0 := by
  intro m
  induction m with
  | zero =>
    intro j hj
    obtain rfl : j = 40 := by omega
    refine e_iload_n d_M_init_185 rfl rfl ?_
    refine e_bipush (v := 40) d_M_init_186 (by decide) ?_
    refine e_icmpge (tgt := 204) d_M_init_188 (by decide) (fun h188 => ?_) (fun h188 => absurd lp40t h188)
    exact e_vret d_M_init_204 rfl ⟨rfl, rfl⟩
  | succ m ih =>
    intro j hj
    have hj4 : j < 40 := by omega
    refine e_iload_n d_M_init_185 rfl rfl ?_
    refine e_bipush (v := 40) d_M_init_186 (by decide) ?_
    refine e_icmpge (tgt := 204) d_M_init_188 (by decide) (fun h188 => absurd h188 (lp40f j hj4)) (fun h188 => ?_)
    refine e_aload_n d_M_init_191 rfl rfl ?_
    refine g_M_39 (b := 7 + 16 * 6) rfl d_M_init_192 hM.a_linkOf ?_
    refine e_iload_n d_M_init_195 rfl rfl ?_
    refine e_iconst (v := -1) d_M_init_196 (by decide) ?_
    refine e_iast d_M_init_197 (show vp_in (nI j) (hl (miS0 σ) 7 6) from by rw [hM.l_linkOf]; exact nI_in (by omega) (by decide)) ?_
    rw [nI_clamp (show j < 2 ^ 31 by omega)]
    rw [sA_sI, show upI (cpy (fun _ => -1) j (hI (miS0 σ) 7 6)) j (-1) = cpy (fun _ => -1) (j + 1) (hI (miS0 σ) 7 6) from cpy_s (f := fun _ => -1)]
    refine e_iinc (v := nI (j + 1)) (lv' := [(1, .int (nI (j + 1))), (0, .ref (6 + 16 * 0))]) d_M_init_198 rfl (ofI1 j) (by decide) rfl ?_
    refine e_goto (tgt := 185) d_M_init_201 (by decide) ?_
    exact ih (j + 1) (by omega)
set_option maxHeartbeats 4000000 in
set_option maxRecDepth 100000 in
theorem ct_M_init {l : Launch} (hl0 : l.stackTraces = false) {G : LG} {σ : HS}  (h7 : hn σ 7 = 0) (h8 : hn σ 8 = 0) (h9 : hn σ 9 = 0) : Ct l G m_M_init [.ref (6 + 16 * 0)] (σ) (qd (.inr none) (sA (miS0 σ) 7 6 (cpy (fun _ => -1) 40 (hI (miS0 σ) 7 6)))) := by
  refine Ct.of hl0 rfl rfl (Nat.le_of_ble_eq_true rfl) ?_
  show Ex l G m_M_init (pmV G m_M_init (qd (.inr none) (sA (miS0 σ) 7 6 (cpy (fun _ => -1) 40 (hI (miS0 σ) 7 6))))) 0 [(0, .ref (6 + 16 * 0))] [] (σ) 22 1406
  refine e_aload_n d_M_init_0 rfl rfl ?_
  refine e_obji d_M_init_1 ol_M_1 ⟨by decide, by decide⟩ ?_
  refine e_aload_n d_M_init_4 rfl rfl ?_
  refine e_bipush (v := 10) d_M_init_5 (by decide) ?_
  refine e_bg (mc' := 21 + 1) (ms' := 1396 + 10) (by decide) (by decide) ?_
  refine e_newai (N := 10) (mc := 21) (ms := 1396) d_M_init_7 ac_in.1 (by decide) (by decide) (by decide) ?_
  rw [show hn (σ) 7 = 0 from (by simp [n_sI, n_sJ, n_sR, n_nw, h7])]
  refine p_M_7 (by omega) rfl d_M_init_9 ?_
  refine e_aload_n d_M_init_12 rfl rfl ?_
  refine e_bipush (v := 10) d_M_init_13 (by decide) ?_
  refine e_bg (mc' := 20 + 1) (ms' := 1386 + 10) (by decide) (by decide) ?_
  refine e_newai (N := 10) (mc := 20) (ms := 1386) d_M_init_15 ac_in.1 (by decide) (by decide) (by decide) ?_
  rw [show hn (sR (nw (σ) 7 10) 6 (0) 2 (some (7 + 16 * 0))) 7 = 1 from (by simp [n_sI, n_sJ, n_sR, n_nw, h7])]
  refine p_M_13 (by omega) rfl d_M_init_17 ?_
  refine e_aload_n d_M_init_20 rfl rfl ?_
  refine e_bipush (v := 10) d_M_init_21 (by decide) ?_
  refine e_bg (mc' := 19 + 1) (ms' := 1376 + 10) (by decide) (by decide) ?_
  refine e_newai (N := 10) (mc := 19) (ms := 1376) d_M_init_23 ac_in.1 (by decide) (by decide) (by decide) ?_
  rw [show hn (sR (nw (sR (nw (σ) 7 10) 6 (0) 2 (some (7 + 16 * 0))) 7 10) 6 (0) 3 (some (7 + 16 * 1))) 7 = 2 from (by simp [n_sI, n_sJ, n_sR, n_nw, h7])]
  refine p_M_16 (by omega) rfl d_M_init_25 ?_
  refine e_aload_n d_M_init_28 rfl rfl ?_
  refine e_bipush (v := 10) d_M_init_29 (by decide) ?_
  refine e_bg (mc' := 18 + 1) (ms' := 1366 + 10) (by decide) (by decide) ?_
  refine e_newai (N := 10) (mc := 18) (ms := 1366) d_M_init_31 ac_in.1 (by decide) (by decide) (by decide) ?_
  rw [show hn (sR (nw (sR (nw (sR (nw (σ) 7 10) 6 (0) 2 (some (7 + 16 * 0))) 7 10) 6 (0) 3 (some (7 + 16 * 1))) 7 10) 6 (0) 4 (some (7 + 16 * 2))) 7 = 3 from (by simp [n_sI, n_sJ, n_sR, n_nw, h7])]
  refine p_M_19 (by omega) rfl d_M_init_33 ?_
  refine e_aload_n d_M_init_36 rfl rfl ?_
  refine e_bipush (v := 10) d_M_init_37 (by decide) ?_
  refine e_bg (mc' := 17 + 1) (ms' := 1356 + 10) (by decide) (by decide) ?_
  refine e_newal (N := 10) (mc := 17) (ms := 1356) d_M_init_39 ac_in.2.2 (by decide) (by decide) (by decide) ?_
  rw [show hn (sR (nw (sR (nw (sR (nw (sR (nw (σ) 7 10) 6 (0) 2 (some (7 + 16 * 0))) 7 10) 6 (0) 3 (some (7 + 16 * 1))) 7 10) 6 (0) 4 (some (7 + 16 * 2))) 7 10) 6 (0) 5 (some (7 + 16 * 3))) 9 = 0 from (by simp [n_sI, n_sJ, n_sR, n_nw, h9])]
  refine p_M_22 (by omega) rfl d_M_init_41 ?_
  refine e_aload_n d_M_init_44 rfl rfl ?_
  refine e_bipush (v := 10) d_M_init_45 (by decide) ?_
  refine e_bg (mc' := 16 + 1) (ms' := 1346 + 10) (by decide) (by decide) ?_
  refine e_newal (N := 10) (mc := 16) (ms := 1346) d_M_init_47 ac_in.2.2 (by decide) (by decide) (by decide) ?_
  rw [show hn (sR (nw (sR (nw (sR (nw (sR (nw (sR (nw (σ) 7 10) 6 (0) 2 (some (7 + 16 * 0))) 7 10) 6 (0) 3 (some (7 + 16 * 1))) 7 10) 6 (0) 4 (some (7 + 16 * 2))) 7 10) 6 (0) 5 (some (7 + 16 * 3))) 9 10) 6 (0) 6 (some (9 + 16 * 0))) 9 = 1 from (by simp [n_sI, n_sJ, n_sR, n_nw, h9])]
  refine p_M_26 (by omega) rfl d_M_init_49 ?_
  refine e_aload_n d_M_init_52 rfl rfl ?_
  refine e_bipush (v := 32) d_M_init_53 (by decide) ?_
  refine e_bg (mc' := 15 + 1) (ms' := 1314 + 32) (by decide) (by decide) ?_
  refine e_newai (N := 32) (mc := 15) (ms := 1314) d_M_init_55 ac_in.1 (by decide) (by decide) (by decide) ?_
  rw [show hn (sR (nw (sR (nw (sR (nw (sR (nw (sR (nw (sR (nw (σ) 7 10) 6 (0) 2 (some (7 + 16 * 0))) 7 10) 6 (0) 3 (some (7 + 16 * 1))) 7 10) 6 (0) 4 (some (7 + 16 * 2))) 7 10) 6 (0) 5 (some (7 + 16 * 3))) 9 10) 6 (0) 6 (some (9 + 16 * 0))) 9 10) 6 (0) 7 (some (9 + 16 * 1))) 7 = 4 from (by simp [n_sI, n_sJ, n_sR, n_nw, h7])]
  refine p_M_29 (by omega) rfl d_M_init_57 ?_
  refine e_aload_n d_M_init_60 rfl rfl ?_
  refine e_bipush (v := 32) d_M_init_61 (by decide) ?_
  refine e_bg (mc' := 14 + 1) (ms' := 1282 + 32) (by decide) (by decide) ?_
  refine e_newai (N := 32) (mc := 14) (ms := 1282) d_M_init_63 ac_in.1 (by decide) (by decide) (by decide) ?_
  rw [show hn (sR (nw (sR (nw (sR (nw (sR (nw (sR (nw (sR (nw (sR (nw (σ) 7 10) 6 (0) 2 (some (7 + 16 * 0))) 7 10) 6 (0) 3 (some (7 + 16 * 1))) 7 10) 6 (0) 4 (some (7 + 16 * 2))) 7 10) 6 (0) 5 (some (7 + 16 * 3))) 9 10) 6 (0) 6 (some (9 + 16 * 0))) 9 10) 6 (0) 7 (some (9 + 16 * 1))) 7 32) 6 (0) 9 (some (7 + 16 * 4))) 7 = 5 from (by simp [n_sI, n_sJ, n_sR, n_nw, h7])]
  refine p_M_32 (by omega) rfl d_M_init_65 ?_
  refine e_aload_n d_M_init_68 rfl rfl ?_
  refine e_bipush (v := 16) d_M_init_69 (by decide) ?_
  refine e_bg (mc' := 13 + 1) (ms' := 1266 + 16) (by decide) (by decide) ?_
  refine e_newaz (N := 16) (mc := 13) (ms := 1266) d_M_init_71 ac_in.2.1 (by decide) (by decide) (by decide) ?_
  rw [show hn (sR (nw (sR (nw (sR (nw (sR (nw (sR (nw (sR (nw (sR (nw (sR (nw (σ) 7 10) 6 (0) 2 (some (7 + 16 * 0))) 7 10) 6 (0) 3 (some (7 + 16 * 1))) 7 10) 6 (0) 4 (some (7 + 16 * 2))) 7 10) 6 (0) 5 (some (7 + 16 * 3))) 9 10) 6 (0) 6 (some (9 + 16 * 0))) 9 10) 6 (0) 7 (some (9 + 16 * 1))) 7 32) 6 (0) 9 (some (7 + 16 * 4))) 7 32) 6 (0) 10 (some (7 + 16 * 5))) 8 = 0 from (by simp [n_sI, n_sJ, n_sR, n_nw, h8])]
  refine p_M_35 (by omega) rfl d_M_init_73 ?_
  refine e_aload_n d_M_init_76 rfl rfl ?_
  refine e_bipush (v := 40) d_M_init_77 (by decide) ?_
  refine e_bg (mc' := 12 + 1) (ms' := 1226 + 40) (by decide) (by decide) ?_
  refine e_newai (N := 40) (mc := 12) (ms := 1226) d_M_init_79 ac_in.1 (by decide) (by decide) (by decide) ?_
  rw [show hn (sR (nw (sR (nw (sR (nw (sR (nw (sR (nw (sR (nw (sR (nw (sR (nw (sR (nw (σ) 7 10) 6 (0) 2 (some (7 + 16 * 0))) 7 10) 6 (0) 3 (some (7 + 16 * 1))) 7 10) 6 (0) 4 (some (7 + 16 * 2))) 7 10) 6 (0) 5 (some (7 + 16 * 3))) 9 10) 6 (0) 6 (some (9 + 16 * 0))) 9 10) 6 (0) 7 (some (9 + 16 * 1))) 7 32) 6 (0) 9 (some (7 + 16 * 4))) 7 32) 6 (0) 10 (some (7 + 16 * 5))) 8 16) 6 (0) 11 (some (8 + 16 * 0))) 7 = 6 from (by simp [n_sI, n_sJ, n_sR, n_nw, h7])]
  refine p_M_39 (by omega) rfl d_M_init_81 ?_
  refine e_aload_n d_M_init_84 rfl rfl ?_
  refine e_bipush (v := 40) d_M_init_85 (by decide) ?_
  refine e_bg (mc' := 11 + 1) (ms' := 1186 + 40) (by decide) (by decide) ?_
  refine e_newai (N := 40) (mc := 11) (ms := 1186) d_M_init_87 ac_in.1 (by decide) (by decide) (by decide) ?_
  rw [show hn (sR (nw (sR (nw (sR (nw (sR (nw (sR (nw (sR (nw (sR (nw (sR (nw (sR (nw (sR (nw (σ) 7 10) 6 (0) 2 (some (7 + 16 * 0))) 7 10) 6 (0) 3 (some (7 + 16 * 1))) 7 10) 6 (0) 4 (some (7 + 16 * 2))) 7 10) 6 (0) 5 (some (7 + 16 * 3))) 9 10) 6 (0) 6 (some (9 + 16 * 0))) 9 10) 6 (0) 7 (some (9 + 16 * 1))) 7 32) 6 (0) 9 (some (7 + 16 * 4))) 7 32) 6 (0) 10 (some (7 + 16 * 5))) 8 16) 6 (0) 11 (some (8 + 16 * 0))) 7 40) 6 (0) 12 (some (7 + 16 * 6))) 7 = 7 from (by simp [n_sI, n_sJ, n_sR, n_nw, h7])]
  refine p_M_42 (by omega) rfl d_M_init_89 ?_
  refine e_aload_n d_M_init_92 rfl rfl ?_
  refine e_bipush (v := 40) d_M_init_93 (by decide) ?_
  refine e_bg (mc' := 10 + 1) (ms' := 1146 + 40) (by decide) (by decide) ?_
  refine e_newaz (N := 40) (mc := 10) (ms := 1146) d_M_init_95 ac_in.2.1 (by decide) (by decide) (by decide) ?_
  rw [show hn (sR (nw (sR (nw (sR (nw (sR (nw (sR (nw (sR (nw (sR (nw (sR (nw (sR (nw (sR (nw (sR (nw (σ) 7 10) 6 (0) 2 (some (7 + 16 * 0))) 7 10) 6 (0) 3 (some (7 + 16 * 1))) 7 10) 6 (0) 4 (some (7 + 16 * 2))) 7 10) 6 (0) 5 (some (7 + 16 * 3))) 9 10) 6 (0) 6 (some (9 + 16 * 0))) 9 10) 6 (0) 7 (some (9 + 16 * 1))) 7 32) 6 (0) 9 (some (7 + 16 * 4))) 7 32) 6 (0) 10 (some (7 + 16 * 5))) 8 16) 6 (0) 11 (some (8 + 16 * 0))) 7 40) 6 (0) 12 (some (7 + 16 * 6))) 7 40) 6 (0) 13 (some (7 + 16 * 7))) 8 = 1 from (by simp [n_sI, n_sJ, n_sR, n_nw, h8])]
  refine p_M_45 (by omega) rfl d_M_init_97 ?_
  refine e_aload_n d_M_init_100 rfl rfl ?_
  refine e_bipush (v := 40) d_M_init_101 (by decide) ?_
  refine e_bg (mc' := 9 + 1) (ms' := 1106 + 40) (by decide) (by decide) ?_
  refine e_newai (N := 40) (mc := 9) (ms := 1106) d_M_init_103 ac_in.1 (by decide) (by decide) (by decide) ?_
  rw [show hn (sR (nw (sR (nw (sR (nw (sR (nw (sR (nw (sR (nw (sR (nw (sR (nw (sR (nw (sR (nw (sR (nw (sR (nw (σ) 7 10) 6 (0) 2 (some (7 + 16 * 0))) 7 10) 6 (0) 3 (some (7 + 16 * 1))) 7 10) 6 (0) 4 (some (7 + 16 * 2))) 7 10) 6 (0) 5 (some (7 + 16 * 3))) 9 10) 6 (0) 6 (some (9 + 16 * 0))) 9 10) 6 (0) 7 (some (9 + 16 * 1))) 7 32) 6 (0) 9 (some (7 + 16 * 4))) 7 32) 6 (0) 10 (some (7 + 16 * 5))) 8 16) 6 (0) 11 (some (8 + 16 * 0))) 7 40) 6 (0) 12 (some (7 + 16 * 6))) 7 40) 6 (0) 13 (some (7 + 16 * 7))) 8 40) 6 (0) 14 (some (8 + 16 * 1))) 7 = 8 from (by simp [n_sI, n_sJ, n_sR, n_nw, h7])]
  refine p_M_48 (by omega) rfl d_M_init_105 ?_
  refine e_aload_n d_M_init_108 rfl rfl ?_
  refine e_sipush (v := 320) d_M_init_109 (by decide) ?_
  refine e_bg (mc' := 8 + 1) (ms' := 786 + 320) (by decide) (by decide) ?_
  refine e_newai (N := 320) (mc := 8) (ms := 786) d_M_init_112 ac_in.1 (by decide) (by decide) (by decide) ?_
  rw [show hn (sR (nw (sR (nw (sR (nw (sR (nw (sR (nw (sR (nw (sR (nw (sR (nw (sR (nw (sR (nw (sR (nw (sR (nw (sR (nw (σ) 7 10) 6 (0) 2 (some (7 + 16 * 0))) 7 10) 6 (0) 3 (some (7 + 16 * 1))) 7 10) 6 (0) 4 (some (7 + 16 * 2))) 7 10) 6 (0) 5 (some (7 + 16 * 3))) 9 10) 6 (0) 6 (some (9 + 16 * 0))) 9 10) 6 (0) 7 (some (9 + 16 * 1))) 7 32) 6 (0) 9 (some (7 + 16 * 4))) 7 32) 6 (0) 10 (some (7 + 16 * 5))) 8 16) 6 (0) 11 (some (8 + 16 * 0))) 7 40) 6 (0) 12 (some (7 + 16 * 6))) 7 40) 6 (0) 13 (some (7 + 16 * 7))) 8 40) 6 (0) 14 (some (8 + 16 * 1))) 7 40) 6 (0) 15 (some (7 + 16 * 8))) 7 = 9 from (by simp [n_sI, n_sJ, n_sR, n_nw, h7])]
  refine p_M_51 (by omega) rfl d_M_init_114 ?_
  refine e_aload_n d_M_init_117 rfl rfl ?_
  refine e_bipush (v := 40) d_M_init_118 (by decide) ?_
  refine e_bg (mc' := 7 + 1) (ms' := 746 + 40) (by decide) (by decide) ?_
  refine e_newaz (N := 40) (mc := 7) (ms := 746) d_M_init_120 ac_in.2.1 (by decide) (by decide) (by decide) ?_
  rw [show hn (sR (nw (sR (nw (sR (nw (sR (nw (sR (nw (sR (nw (sR (nw (sR (nw (sR (nw (sR (nw (sR (nw (sR (nw (sR (nw (sR (nw (σ) 7 10) 6 (0) 2 (some (7 + 16 * 0))) 7 10) 6 (0) 3 (some (7 + 16 * 1))) 7 10) 6 (0) 4 (some (7 + 16 * 2))) 7 10) 6 (0) 5 (some (7 + 16 * 3))) 9 10) 6 (0) 6 (some (9 + 16 * 0))) 9 10) 6 (0) 7 (some (9 + 16 * 1))) 7 32) 6 (0) 9 (some (7 + 16 * 4))) 7 32) 6 (0) 10 (some (7 + 16 * 5))) 8 16) 6 (0) 11 (some (8 + 16 * 0))) 7 40) 6 (0) 12 (some (7 + 16 * 6))) 7 40) 6 (0) 13 (some (7 + 16 * 7))) 8 40) 6 (0) 14 (some (8 + 16 * 1))) 7 40) 6 (0) 15 (some (7 + 16 * 8))) 7 320) 6 (0) 16 (some (7 + 16 * 9))) 8 = 2 from (by simp [n_sI, n_sJ, n_sR, n_nw, h8])]
  refine p_M_54 (by omega) rfl d_M_init_122 ?_
  refine e_aload_n d_M_init_125 rfl rfl ?_
  refine e_sipush (v := 320) d_M_init_126 (by decide) ?_
  refine e_bg (mc' := 6 + 1) (ms' := 426 + 320) (by decide) (by decide) ?_
  refine e_newai (N := 320) (mc := 6) (ms := 426) d_M_init_129 ac_in.1 (by decide) (by decide) (by decide) ?_
  rw [show hn (sR (nw (sR (nw (sR (nw (sR (nw (sR (nw (sR (nw (sR (nw (sR (nw (sR (nw (sR (nw (sR (nw (sR (nw (sR (nw (sR (nw (sR (nw (σ) 7 10) 6 (0) 2 (some (7 + 16 * 0))) 7 10) 6 (0) 3 (some (7 + 16 * 1))) 7 10) 6 (0) 4 (some (7 + 16 * 2))) 7 10) 6 (0) 5 (some (7 + 16 * 3))) 9 10) 6 (0) 6 (some (9 + 16 * 0))) 9 10) 6 (0) 7 (some (9 + 16 * 1))) 7 32) 6 (0) 9 (some (7 + 16 * 4))) 7 32) 6 (0) 10 (some (7 + 16 * 5))) 8 16) 6 (0) 11 (some (8 + 16 * 0))) 7 40) 6 (0) 12 (some (7 + 16 * 6))) 7 40) 6 (0) 13 (some (7 + 16 * 7))) 8 40) 6 (0) 14 (some (8 + 16 * 1))) 7 40) 6 (0) 15 (some (7 + 16 * 8))) 7 320) 6 (0) 16 (some (7 + 16 * 9))) 8 40) 6 (0) 17 (some (8 + 16 * 2))) 7 = 10 from (by simp [n_sI, n_sJ, n_sR, n_nw, h7])]
  refine p_M_57 (by omega) rfl d_M_init_131 ?_
  refine e_aload_n d_M_init_134 rfl rfl ?_
  refine e_bipush (v := 40) d_M_init_135 (by decide) ?_
  refine e_bg (mc' := 5 + 1) (ms' := 386 + 40) (by decide) (by decide) ?_
  refine e_newaz (N := 40) (mc := 5) (ms := 386) d_M_init_137 ac_in.2.1 (by decide) (by decide) (by decide) ?_
  rw [show hn (sR (nw (sR (nw (sR (nw (sR (nw (sR (nw (sR (nw (sR (nw (sR (nw (sR (nw (sR (nw (sR (nw (sR (nw (sR (nw (sR (nw (sR (nw (sR (nw (σ) 7 10) 6 (0) 2 (some (7 + 16 * 0))) 7 10) 6 (0) 3 (some (7 + 16 * 1))) 7 10) 6 (0) 4 (some (7 + 16 * 2))) 7 10) 6 (0) 5 (some (7 + 16 * 3))) 9 10) 6 (0) 6 (some (9 + 16 * 0))) 9 10) 6 (0) 7 (some (9 + 16 * 1))) 7 32) 6 (0) 9 (some (7 + 16 * 4))) 7 32) 6 (0) 10 (some (7 + 16 * 5))) 8 16) 6 (0) 11 (some (8 + 16 * 0))) 7 40) 6 (0) 12 (some (7 + 16 * 6))) 7 40) 6 (0) 13 (some (7 + 16 * 7))) 8 40) 6 (0) 14 (some (8 + 16 * 1))) 7 40) 6 (0) 15 (some (7 + 16 * 8))) 7 320) 6 (0) 16 (some (7 + 16 * 9))) 8 40) 6 (0) 17 (some (8 + 16 * 2))) 7 320) 6 (0) 18 (some (7 + 16 * 10))) 8 = 3 from (by simp [n_sI, n_sJ, n_sR, n_nw, h8])]
  refine p_M_60 (by omega) rfl d_M_init_139 ?_
  refine e_aload_n d_M_init_142 rfl rfl ?_
  refine e_sipush (v := 320) d_M_init_143 (by decide) ?_
  refine e_bg (mc' := 4 + 1) (ms' := 66 + 320) (by decide) (by decide) ?_
  refine e_newai (N := 320) (mc := 4) (ms := 66) d_M_init_146 ac_in.1 (by decide) (by decide) (by decide) ?_
  rw [show hn (sR (nw (sR (nw (sR (nw (sR (nw (sR (nw (sR (nw (sR (nw (sR (nw (sR (nw (sR (nw (sR (nw (sR (nw (sR (nw (sR (nw (sR (nw (sR (nw (sR (nw (σ) 7 10) 6 (0) 2 (some (7 + 16 * 0))) 7 10) 6 (0) 3 (some (7 + 16 * 1))) 7 10) 6 (0) 4 (some (7 + 16 * 2))) 7 10) 6 (0) 5 (some (7 + 16 * 3))) 9 10) 6 (0) 6 (some (9 + 16 * 0))) 9 10) 6 (0) 7 (some (9 + 16 * 1))) 7 32) 6 (0) 9 (some (7 + 16 * 4))) 7 32) 6 (0) 10 (some (7 + 16 * 5))) 8 16) 6 (0) 11 (some (8 + 16 * 0))) 7 40) 6 (0) 12 (some (7 + 16 * 6))) 7 40) 6 (0) 13 (some (7 + 16 * 7))) 8 40) 6 (0) 14 (some (8 + 16 * 1))) 7 40) 6 (0) 15 (some (7 + 16 * 8))) 7 320) 6 (0) 16 (some (7 + 16 * 9))) 8 40) 6 (0) 17 (some (8 + 16 * 2))) 7 320) 6 (0) 18 (some (7 + 16 * 10))) 8 40) 6 (0) 19 (some (8 + 16 * 3))) 7 = 11 from (by simp [n_sI, n_sJ, n_sR, n_nw, h7])]
  refine p_M_63 (by omega) rfl d_M_init_148 ?_
  refine e_aload_n d_M_init_151 rfl rfl ?_
  refine e_bipush (v := 40) d_M_init_152 (by decide) ?_
  refine e_bg (mc' := 3 + 1) (ms' := 26 + 40) (by decide) (by decide) ?_
  refine e_newai (N := 40) (mc := 3) (ms := 26) d_M_init_154 ac_in.1 (by decide) (by decide) (by decide) ?_
  rw [show hn (sR (nw (sR (nw (sR (nw (sR (nw (sR (nw (sR (nw (sR (nw (sR (nw (sR (nw (sR (nw (sR (nw (sR (nw (sR (nw (sR (nw (sR (nw (sR (nw (sR (nw (sR (nw (σ) 7 10) 6 (0) 2 (some (7 + 16 * 0))) 7 10) 6 (0) 3 (some (7 + 16 * 1))) 7 10) 6 (0) 4 (some (7 + 16 * 2))) 7 10) 6 (0) 5 (some (7 + 16 * 3))) 9 10) 6 (0) 6 (some (9 + 16 * 0))) 9 10) 6 (0) 7 (some (9 + 16 * 1))) 7 32) 6 (0) 9 (some (7 + 16 * 4))) 7 32) 6 (0) 10 (some (7 + 16 * 5))) 8 16) 6 (0) 11 (some (8 + 16 * 0))) 7 40) 6 (0) 12 (some (7 + 16 * 6))) 7 40) 6 (0) 13 (some (7 + 16 * 7))) 8 40) 6 (0) 14 (some (8 + 16 * 1))) 7 40) 6 (0) 15 (some (7 + 16 * 8))) 7 320) 6 (0) 16 (some (7 + 16 * 9))) 8 40) 6 (0) 17 (some (8 + 16 * 2))) 7 320) 6 (0) 18 (some (7 + 16 * 10))) 8 40) 6 (0) 19 (some (8 + 16 * 3))) 7 320) 6 (0) 20 (some (7 + 16 * 11))) 7 = 12 from (by simp [n_sI, n_sJ, n_sR, n_nw, h7])]
  refine p_M_66 (by omega) rfl d_M_init_156 ?_
  refine e_aload_n d_M_init_159 rfl rfl ?_
  refine e_bipush (v := 10) d_M_init_160 (by decide) ?_
  refine e_bg (mc' := 2 + 1) (ms' := 16 + 10) (by decide) (by decide) ?_
  refine e_newai (N := 10) (mc := 2) (ms := 16) d_M_init_162 ac_in.1 (by decide) (by decide) (by decide) ?_
  rw [show hn (sR (nw (sR (nw (sR (nw (sR (nw (sR (nw (sR (nw (sR (nw (sR (nw (sR (nw (sR (nw (sR (nw (sR (nw (sR (nw (sR (nw (sR (nw (sR (nw (sR (nw (sR (nw (sR (nw (σ) 7 10) 6 (0) 2 (some (7 + 16 * 0))) 7 10) 6 (0) 3 (some (7 + 16 * 1))) 7 10) 6 (0) 4 (some (7 + 16 * 2))) 7 10) 6 (0) 5 (some (7 + 16 * 3))) 9 10) 6 (0) 6 (some (9 + 16 * 0))) 9 10) 6 (0) 7 (some (9 + 16 * 1))) 7 32) 6 (0) 9 (some (7 + 16 * 4))) 7 32) 6 (0) 10 (some (7 + 16 * 5))) 8 16) 6 (0) 11 (some (8 + 16 * 0))) 7 40) 6 (0) 12 (some (7 + 16 * 6))) 7 40) 6 (0) 13 (some (7 + 16 * 7))) 8 40) 6 (0) 14 (some (8 + 16 * 1))) 7 40) 6 (0) 15 (some (7 + 16 * 8))) 7 320) 6 (0) 16 (some (7 + 16 * 9))) 8 40) 6 (0) 17 (some (8 + 16 * 2))) 7 320) 6 (0) 18 (some (7 + 16 * 10))) 8 40) 6 (0) 19 (some (8 + 16 * 3))) 7 320) 6 (0) 20 (some (7 + 16 * 11))) 7 40) 6 (0) 21 (some (7 + 16 * 12))) 7 = 13 from (by simp [n_sI, n_sJ, n_sR, n_nw, h7])]
  refine p_M_69 (by omega) rfl d_M_init_164 ?_
  refine e_aload_n d_M_init_167 rfl rfl ?_
  refine e_bipush (v := 8) d_M_init_168 (by decide) ?_
  refine e_bg (mc' := 1 + 1) (ms' := 8 + 8) (by decide) (by decide) ?_
  refine e_newai (N := 8) (mc := 1) (ms := 8) d_M_init_170 ac_in.1 (by decide) (by decide) (by decide) ?_
  rw [show hn (sR (nw (sR (nw (sR (nw (sR (nw (sR (nw (sR (nw (sR (nw (sR (nw (sR (nw (sR (nw (sR (nw (sR (nw (sR (nw (sR (nw (sR (nw (sR (nw (sR (nw (sR (nw (sR (nw (sR (nw (σ) 7 10) 6 (0) 2 (some (7 + 16 * 0))) 7 10) 6 (0) 3 (some (7 + 16 * 1))) 7 10) 6 (0) 4 (some (7 + 16 * 2))) 7 10) 6 (0) 5 (some (7 + 16 * 3))) 9 10) 6 (0) 6 (some (9 + 16 * 0))) 9 10) 6 (0) 7 (some (9 + 16 * 1))) 7 32) 6 (0) 9 (some (7 + 16 * 4))) 7 32) 6 (0) 10 (some (7 + 16 * 5))) 8 16) 6 (0) 11 (some (8 + 16 * 0))) 7 40) 6 (0) 12 (some (7 + 16 * 6))) 7 40) 6 (0) 13 (some (7 + 16 * 7))) 8 40) 6 (0) 14 (some (8 + 16 * 1))) 7 40) 6 (0) 15 (some (7 + 16 * 8))) 7 320) 6 (0) 16 (some (7 + 16 * 9))) 8 40) 6 (0) 17 (some (8 + 16 * 2))) 7 320) 6 (0) 18 (some (7 + 16 * 10))) 8 40) 6 (0) 19 (some (8 + 16 * 3))) 7 320) 6 (0) 20 (some (7 + 16 * 11))) 7 40) 6 (0) 21 (some (7 + 16 * 12))) 7 10) 6 (0) 22 (some (7 + 16 * 13))) 7 = 14 from (by simp [n_sI, n_sJ, n_sR, n_nw, h7])]
  refine p_M_72 (by omega) rfl d_M_init_172 ?_
  refine e_aload_n d_M_init_175 rfl rfl ?_
  refine e_bipush (v := 8) d_M_init_176 (by decide) ?_
  refine e_bg (mc' := 0 + 1) (ms' := 0 + 8) (by decide) (by decide) ?_
  refine e_newai (N := 8) (mc := 0) (ms := 0) d_M_init_178 ac_in.1 (by decide) (by decide) (by decide) ?_
  rw [show hn (sR (nw (sR (nw (sR (nw (sR (nw (sR (nw (sR (nw (sR (nw (sR (nw (sR (nw (sR (nw (sR (nw (sR (nw (sR (nw (sR (nw (sR (nw (sR (nw (sR (nw (sR (nw (sR (nw (sR (nw (sR (nw (σ) 7 10) 6 (0) 2 (some (7 + 16 * 0))) 7 10) 6 (0) 3 (some (7 + 16 * 1))) 7 10) 6 (0) 4 (some (7 + 16 * 2))) 7 10) 6 (0) 5 (some (7 + 16 * 3))) 9 10) 6 (0) 6 (some (9 + 16 * 0))) 9 10) 6 (0) 7 (some (9 + 16 * 1))) 7 32) 6 (0) 9 (some (7 + 16 * 4))) 7 32) 6 (0) 10 (some (7 + 16 * 5))) 8 16) 6 (0) 11 (some (8 + 16 * 0))) 7 40) 6 (0) 12 (some (7 + 16 * 6))) 7 40) 6 (0) 13 (some (7 + 16 * 7))) 8 40) 6 (0) 14 (some (8 + 16 * 1))) 7 40) 6 (0) 15 (some (7 + 16 * 8))) 7 320) 6 (0) 16 (some (7 + 16 * 9))) 8 40) 6 (0) 17 (some (8 + 16 * 2))) 7 320) 6 (0) 18 (some (7 + 16 * 10))) 8 40) 6 (0) 19 (some (8 + 16 * 3))) 7 320) 6 (0) 20 (some (7 + 16 * 11))) 7 40) 6 (0) 21 (some (7 + 16 * 12))) 7 10) 6 (0) 22 (some (7 + 16 * 13))) 7 8) 6 (0) 23 (some (7 + 16 * 14))) 7 = 15 from (by simp [n_sI, n_sJ, n_sR, n_nw, h7])]
  refine p_M_75 (by omega) rfl d_M_init_180 ?_
  refine e_iconst (v := 0) d_M_init_183 (by decide) ?_
  refine e_istore_n (lv' := [(1, .int (0)), (0, .ref (6 + 16 * 0))]) d_M_init_184 rfl (by decide) rfl ?_
  exact e_lv (lv' := [(1, .int (nI 0)), (0, .ref (6 + 16 * 0))]) ⟨rfl, rfl, trivial⟩ (by have h := lp_M_init (l := l) (G := G) hl0 (mi_MS h7 h8 h9) 40 0 rfl; rw [cpy_0, sA_self] at h; exact h)
