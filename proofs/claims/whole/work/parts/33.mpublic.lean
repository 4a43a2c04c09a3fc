def npV (σ : HS) (v u : Int32) : Int32 := if nnV σ v = 0 then (if u < 0 then 1 else if u ≤ 3 then 0 else 1) else 1
theorem th_1 {σ : HS} {v : Int32} : hI (sI σ 6 0 0 v) 6 0 0 = v := by rw [I_sI, if_pos ⟨rfl, rfl, rfl⟩]
set_option maxHeartbeats 4000000 in
set_option maxRecDepth 100000 in
theorem ct_M_noPort {l : Launch} (hl0 : l.stackTraces = false) {G : LG} {σ : HS} {v u : Int32}  : Ct l G m_M_noPort [.ref (6 + 16 * 0), .int (v), .int (u)] (σ) (qd (.inr (some (.int (npV σ v u)))) σ) := by
  refine Ct.of hl0 rfl rfl (Nat.le_of_ble_eq_true rfl) ?_
  show Ex l G m_M_noPort (pmV G m_M_noPort (qd (.inr (some (.int (npV σ v u)))) σ)) 0 [(0, .ref (6 + 16 * 0)), (1, .int (v)), (2, .int (u))] [] (σ) 0 0
  refine e_aload_n d_M_noPort_0 rfl rfl ?_
  refine e_iload_n d_M_noPort_1 rfl rfl ?_
  refine e_callVd (v := some (.int (nnV σ (v)))) (σ' := σ) (q := 6) (a := 0) (As := [.int (v)]) (st := []) 0 0 d_M_noPort_2 cb_M_noPort_115 iv_M_noNode rfl ⟨by decide, rfl⟩ rfl (Nat.le_of_ble_eq_true rfl) (by decide) (by decide) (ct_M_noNode hl0) ?_
  show Ex l G m_M_noPort (pmV G m_M_noPort (qd (.inr (some (.int (npV σ v u)))) σ)) 5 [(0, .ref (6 + 16 * 0)), (1, .int (v)), (2, .int (u))] [.int (nnV σ (v))] (σ) 0 0
  refine e_ifne (tgt := 17) d_M_noPort_5 (by decide) (fun h5 => ?_) (fun h5 => ?_)
  ·
    refine e_iconst (v := 1) d_M_noPort_17 (by decide) ?_
    refine e_goto (tgt := 22) d_M_noPort_18 (by decide) ?_
    exact e_zret d_M_noPort_22 rfl (by first | exact Or.inl rfl | exact Or.inr rfl) ⟨(by simp [npV, h5]), rfl⟩
  ·
    refine e_iload_n d_M_noPort_8 rfl rfl ?_
    refine e_iflt (tgt := 17) d_M_noPort_9 (by decide) (fun h9 => ?_) (fun h9 => ?_)
    ·
      refine e_iconst (v := 1) d_M_noPort_17 (by decide) ?_
      refine e_goto (tgt := 22) d_M_noPort_18 (by decide) ?_
      exact e_zret d_M_noPort_22 rfl (by first | exact Or.inl rfl | exact Or.inr rfl) ⟨(by simp [npV, h5, h9]), rfl⟩
    ·
      refine e_iload_n d_M_noPort_12 rfl rfl ?_
      refine e_iconst (v := 3) d_M_noPort_13 (by decide) ?_
      refine e_icmple (tgt := 21) d_M_noPort_14 (by decide) (fun h14 => ?_) (fun h14 => ?_)
      ·
        refine e_iconst (v := 0) d_M_noPort_21 (by decide) ?_
        exact e_zret d_M_noPort_22 rfl (by first | exact Or.inl rfl | exact Or.inr rfl) ⟨(by simp [npV, h5, h9, h14]), rfl⟩
      ·
        refine e_iconst (v := 1) d_M_noPort_17 (by decide) ?_
        refine e_goto (tgt := 22) d_M_noPort_18 (by decide) ?_
        exact e_zret d_M_noPort_22 rfl (by first | exact Or.inl rfl | exact Or.inr rfl) ⟨(by simp [npV, h5, h9, h14]), rfl⟩
set_option maxHeartbeats 4000000 in
set_option maxRecDepth 100000 in
theorem ct_M_state_x {l : Launch} (hl0 : l.stackTraces = false) {G : LG} {σ : HS} {v u : Int32} (hx : ¬ npV σ v u = 0) : Ct l G m_M_state [.ref (6 + 16 * 0), .int (v), .int (u)] (σ) (qd (.inr (some (.int 0))) (sI σ 6 0 0 1)) := by
  refine Ct.of hl0 rfl rfl (Nat.le_of_ble_eq_true rfl) ?_
  show Ex l G m_M_state (pmV G m_M_state (qd (.inr (some (.int 0))) (sI σ 6 0 0 1))) 0 [(0, .ref (6 + 16 * 0)), (1, .int (v)), (2, .int (u))] [] (σ) 0 0
  refine e_aload_n d_M_state_0 rfl rfl ?_
  refine e_aload_n d_M_state_1 rfl rfl ?_
  refine e_iload_n d_M_state_2 rfl rfl ?_
  refine e_iload_n d_M_state_3 rfl rfl ?_
  refine e_callVd (v := some (.int (npV σ (v) (u)))) (σ' := σ) (q := 6) (a := 0) (As := [.int (v), .int (u)]) (st := [.ref (6 + 16 * 0)]) 0 0 d_M_state_4 cb_M_state_119 iv_M_noPort rfl ⟨by decide, rfl⟩ rfl (Nat.le_of_ble_eq_true rfl) (by decide) (by decide) (ct_M_noPort hl0) ?_
  show Ex l G m_M_state (pmV G m_M_state (qd (.inr (some (.int 0))) (sI σ 6 0 0 1))) 7 [(0, .ref (6 + 16 * 0)), (1, .int (v)), (2, .int (u))] [.int (npV σ (v) (u)), .ref (6 + 16 * 0)] (σ) 0 0
  refine e_ifeq (tgt := 14) d_M_state_7 (by decide) (fun h7 => absurd h7 hx) (fun h7 => ?_)
  refine e_iconst (v := 1) d_M_state_10 (by decide) ?_
  refine e_goto (tgt := 15) d_M_state_11 (by decide) ?_
  refine p_M_78 rfl d_M_state_15 ?_
  refine e_aload_n d_M_state_18 rfl rfl ?_
  refine g_M_78 rfl d_M_state_19 ?_
  refine e_ifne (tgt := 38) d_M_state_22 (by decide) (fun h22 => ?_) (fun h22 => absurd h22 (by rw [th_1]; decide +kernel))
  refine e_iconst (v := 0) d_M_state_38 (by decide) ?_
  exact e_iret d_M_state_39 rfl ⟨rfl, rfl⟩
set_option maxHeartbeats 4000000 in
set_option maxRecDepth 100000 in
theorem ct_M_state {l : Launch} (hl0 : l.stackTraces = false) {G : LG} {σ : HS} {i j : Nat} (hM : MS σ) (hi : i < 10) (hj : j < 4) (hx : npV σ (nI i) (nI j) = 0) : Ct l G m_M_state [.ref (6 + 16 * 0), .int (nI i), .int (nI j)] (σ) (qd (.inr (some (.int (hI σ 7 7 (4 * i + j))))) (sI σ 6 0 0 0)) := by
  refine Ct.of hl0 rfl rfl (Nat.le_of_ble_eq_true rfl) ?_
  show Ex l G m_M_state (pmV G m_M_state (qd (.inr (some (.int (hI σ 7 7 (4 * i + j))))) (sI σ 6 0 0 0))) 0 [(0, .ref (6 + 16 * 0)), (1, .int (nI i)), (2, .int (nI j))] [] (σ) 0 0
  refine e_aload_n d_M_state_0 rfl rfl ?_
  refine e_aload_n d_M_state_1 rfl rfl ?_
  refine e_iload_n d_M_state_2 rfl rfl ?_
  refine e_iload_n d_M_state_3 rfl rfl ?_
  refine e_callVd (v := some (.int (npV σ (nI i) (nI j)))) (σ' := σ) (q := 6) (a := 0) (As := [.int (nI i), .int (nI j)]) (st := [.ref (6 + 16 * 0)]) 0 0 d_M_state_4 cb_M_state_119 iv_M_noPort rfl ⟨by decide, rfl⟩ rfl (Nat.le_of_ble_eq_true rfl) (by decide) (by decide) (ct_M_noPort hl0) ?_
  show Ex l G m_M_state (pmV G m_M_state (qd (.inr (some (.int (hI σ 7 7 (4 * i + j))))) (sI σ 6 0 0 0))) 7 [(0, .ref (6 + 16 * 0)), (1, .int (nI i)), (2, .int (nI j))] [.int (npV σ (nI i) (nI j)), .ref (6 + 16 * 0)] (σ) 0 0
  refine e_ifeq (tgt := 14) d_M_state_7 (by decide) (fun h7 => ?_) (fun h7 => absurd hx h7)
  refine e_iconst (v := 0) d_M_state_14 (by decide) ?_
  refine p_M_78 rfl d_M_state_15 ?_
  refine e_aload_n d_M_state_18 rfl rfl ?_
  refine g_M_78 rfl d_M_state_19 ?_
  refine e_ifne (tgt := 38) d_M_state_22 (by decide) (fun h22 => absurd h22 (fun z => z (by rw [th_1]))) (fun h22 => ?_)
  refine e_aload_n d_M_state_25 rfl rfl ?_
  refine g_M_42 (b := 7 + 16 * 7) rfl d_M_state_26 hM.a_states ?_
  refine e_iconst (v := 4) d_M_state_29 (by decide) ?_
  refine e_iload_n d_M_state_30 rfl rfl ?_
  refine e_imul d_M_state_31 ?_
  rw [show (4) * (nI i) = nI (4 * i) from by rw [show (4 : Int32) = nI 4 from by decide +kernel, nJ_mul]]
  refine e_iload_n d_M_state_32 rfl rfl ?_
  refine e_iadd d_M_state_33 ?_
  rw [show (nI (4 * i)) + (nI j) = nI ((4 * i) + j) from by rw [nJ_add]]
  refine e_iald d_M_state_34 (show vp_in (nI ((4 * i) + j)) (hl σ 7 7) from by rw [hM.l_states]; exact nI_in (by omega) (by decide)) ?_
  rw [nI_clamp (show (4 * i) + j < 2 ^ 31 by omega)]
  refine e_goto (tgt := 39) d_M_state_35 (by decide) ?_
  exact e_iret d_M_state_39 rfl ⟨(by simp [I_sI, J_sI]), rfl⟩
set_option maxHeartbeats 4000000 in
set_option maxRecDepth 100000 in
theorem ct_M_root_x {l : Launch} (hl0 : l.stackTraces = false) {G : LG} {σ : HS} {v : Int32} (hx : ¬ nnV σ v = 0) : Ct l G m_M_root [.ref (6 + 16 * 0), .int (v)] (σ) (qd (.inr (some (.int 0))) (sI σ 6 0 0 1)) := by
  refine Ct.of hl0 rfl rfl (Nat.le_of_ble_eq_true rfl) ?_
  show Ex l G m_M_root (pmV G m_M_root (qd (.inr (some (.int 0))) (sI σ 6 0 0 1))) 0 [(0, .ref (6 + 16 * 0)), (1, .int (v))] [] (σ) 0 0
  refine e_aload_n d_M_root_0 rfl rfl ?_
  refine e_aload_n d_M_root_1 rfl rfl ?_
  refine e_iload_n d_M_root_2 rfl rfl ?_
  refine e_callVd (v := some (.int (nnV σ (v)))) (σ' := σ) (q := 6) (a := 0) (As := [.int (v)]) (st := [.ref (6 + 16 * 0)]) 0 0 d_M_root_3 cb_M_root_115 iv_M_noNode rfl ⟨by decide, rfl⟩ rfl (Nat.le_of_ble_eq_true rfl) (by decide) (by decide) (ct_M_noNode hl0) ?_
  show Ex l G m_M_root (pmV G m_M_root (qd (.inr (some (.int 0))) (sI σ 6 0 0 1))) 6 [(0, .ref (6 + 16 * 0)), (1, .int (v))] [.int (nnV σ (v)), .ref (6 + 16 * 0)] (σ) 0 0
  refine e_ifeq (tgt := 13) d_M_root_6 (by decide) (fun h6 => absurd h6 hx) (fun h6 => ?_)
  refine e_iconst (v := 1) d_M_root_9 (by decide) ?_
  refine e_goto (tgt := 14) d_M_root_10 (by decide) ?_
  refine p_M_78 rfl d_M_root_14 ?_
  refine e_aload_n d_M_root_17 rfl rfl ?_
  refine g_M_78 rfl d_M_root_18 ?_
  refine e_ifeq (tgt := 28) d_M_root_21 (by decide) (fun h21 => absurd h21 (by rw [th_1]; decide +kernel)) (fun h21 => ?_)
  refine e_iconst (v := 0) d_M_root_24 (by decide) ?_
  refine e_goto (tgt := 62) d_M_root_25 (by decide) ?_
  exact e_iret d_M_root_62 rfl ⟨rfl, rfl⟩
set_option maxHeartbeats 4000000 in
set_option maxRecDepth 100000 in
theorem ct_M_root_n {l : Launch} (hl0 : l.stackTraces = false) {G : LG} {σ : HS} {i : Nat} (hM : MS σ) {b : Int32} (hi : i < 10) (hx : nnV σ (nI i) = 0) (hb : hI σ 7 13 i = b) (hv : b < 0) : Ct l G m_M_root [.ref (6 + 16 * 0), .int (nI i)] (σ) (qd (.inr (some (.int (hI σ 7 0 i)))) (sI σ 6 0 0 0)) := by
  refine Ct.of hl0 rfl rfl (Nat.le_of_ble_eq_true rfl) ?_
  show Ex l G m_M_root (pmV G m_M_root (qd (.inr (some (.int (hI σ 7 0 i)))) (sI σ 6 0 0 0))) 0 [(0, .ref (6 + 16 * 0)), (1, .int (nI i))] [] (σ) 0 0
  refine e_aload_n d_M_root_0 rfl rfl ?_
  refine e_aload_n d_M_root_1 rfl rfl ?_
  refine e_iload_n d_M_root_2 rfl rfl ?_
  refine e_callVd (v := some (.int (nnV σ (nI i)))) (σ' := σ) (q := 6) (a := 0) (As := [.int (nI i)]) (st := [.ref (6 + 16 * 0)]) 0 0 d_M_root_3 cb_M_root_115 iv_M_noNode rfl ⟨by decide, rfl⟩ rfl (Nat.le_of_ble_eq_true rfl) (by decide) (by decide) (ct_M_noNode hl0) ?_
  show Ex l G m_M_root (pmV G m_M_root (qd (.inr (some (.int (hI σ 7 0 i)))) (sI σ 6 0 0 0))) 6 [(0, .ref (6 + 16 * 0)), (1, .int (nI i))] [.int (nnV σ (nI i)), .ref (6 + 16 * 0)] (σ) 0 0
  refine e_ifeq (tgt := 13) d_M_root_6 (by decide) (fun h6 => ?_) (fun h6 => absurd hx h6)
  refine e_iconst (v := 0) d_M_root_13 (by decide) ?_
  refine p_M_78 rfl d_M_root_14 ?_
  refine e_aload_n d_M_root_17 rfl rfl ?_
  refine g_M_78 rfl d_M_root_18 ?_
  refine e_ifeq (tgt := 28) d_M_root_21 (by decide) (fun h21 => ?_) (fun h21 => absurd (by rw [th_1]) h21)
  refine e_aload_n d_M_root_28 rfl rfl ?_
  refine g_M_69 (b := 7 + 16 * 13) rfl d_M_root_29 hM.a_bests ?_
  refine e_iload_n d_M_root_32 rfl rfl ?_
  refine e_iald d_M_root_33 (show vp_in (nI i) (hl σ 7 13) from by rw [hM.l_bests]; exact nI_in (by omega) (by decide)) ?_
  rw [nI_clamp (show i < 2 ^ 31 by omega)]
  rw [show hI (sI (σ) 6 (0) 0 (0)) 7 (13) (i) = b from by first | exact hb | (rw [I_sI, if_neg (by omega)]; exact hb)]
  refine e_ifge (tgt := 46) d_M_root_34 (by decide) (fun h34 => absurd h34 (Int32.not_le.mpr hv)) (fun h34 => ?_)
  refine e_aload_n d_M_root_37 rfl rfl ?_
  refine g_M_7 (b := 7 + 16 * 0) rfl d_M_root_38 hM.a_identities ?_
  refine e_iload_n d_M_root_41 rfl rfl ?_
  refine e_iald d_M_root_42 (show vp_in (nI i) (hl σ 7 0) from by rw [hM.l_identities]; exact nI_in (by omega) (by decide)) ?_
  rw [nI_clamp (show i < 2 ^ 31 by omega)]
  refine e_goto (tgt := 62) d_M_root_43 (by decide) ?_
  exact e_iret d_M_root_62 rfl ⟨(by simp [I_sI, J_sI]), rfl⟩
set_option maxHeartbeats 4000000 in
set_option maxRecDepth 100000 in
theorem ct_M_root_s {l : Launch} (hl0 : l.stackTraces = false) {G : LG} {σ : HS} {i : Nat} (hM : MS σ) {b : Nat} (hi : i < 10) (hx : nnV σ (nI i) = 0) (hb : hI σ 7 13 i = nI b) (hb4 : b < 40) : Ct l G m_M_root [.ref (6 + 16 * 0), .int (nI i)] (σ) (qd (.inr (some (.int (hI σ 7 9 (8 * b + 3))))) (sI σ 6 0 0 0)) := by
  refine Ct.of hl0 rfl rfl (Nat.le_of_ble_eq_true rfl) ?_
  show Ex l G m_M_root (pmV G m_M_root (qd (.inr (some (.int (hI σ 7 9 (8 * b + 3))))) (sI σ 6 0 0 0))) 0 [(0, .ref (6 + 16 * 0)), (1, .int (nI i))] [] (σ) 0 0
  refine e_aload_n d_M_root_0 rfl rfl ?_
  refine e_aload_n d_M_root_1 rfl rfl ?_
  refine e_iload_n d_M_root_2 rfl rfl ?_
  refine e_callVd (v := some (.int (nnV σ (nI i)))) (σ' := σ) (q := 6) (a := 0) (As := [.int (nI i)]) (st := [.ref (6 + 16 * 0)]) 0 0 d_M_root_3 cb_M_root_115 iv_M_noNode rfl ⟨by decide, rfl⟩ rfl (Nat.le_of_ble_eq_true rfl) (by decide) (by decide) (ct_M_noNode hl0) ?_
  show Ex l G m_M_root (pmV G m_M_root (qd (.inr (some (.int (hI σ 7 9 (8 * b + 3))))) (sI σ 6 0 0 0))) 6 [(0, .ref (6 + 16 * 0)), (1, .int (nI i))] [.int (nnV σ (nI i)), .ref (6 + 16 * 0)] (σ) 0 0
  refine e_ifeq (tgt := 13) d_M_root_6 (by decide) (fun h6 => ?_) (fun h6 => absurd hx h6)
  refine e_iconst (v := 0) d_M_root_13 (by decide) ?_
  refine p_M_78 rfl d_M_root_14 ?_
  refine e_aload_n d_M_root_17 rfl rfl ?_
  refine g_M_78 rfl d_M_root_18 ?_
  refine e_ifeq (tgt := 28) d_M_root_21 (by decide) (fun h21 => ?_) (fun h21 => absurd (by rw [th_1]) h21)
  refine e_aload_n d_M_root_28 rfl rfl ?_
  refine g_M_69 (b := 7 + 16 * 13) rfl d_M_root_29 hM.a_bests ?_
  refine e_iload_n d_M_root_32 rfl rfl ?_
  refine e_iald d_M_root_33 (show vp_in (nI i) (hl σ 7 13) from by rw [hM.l_bests]; exact nI_in (by omega) (by decide)) ?_
  rw [nI_clamp (show i < 2 ^ 31 by omega)]
  rw [show hI (sI (σ) 6 (0) 0 (0)) 7 (13) (i) = nI b from by first | exact hb | (rw [I_sI, if_neg (by omega)]; exact hb)]
  refine e_ifge (tgt := 46) d_M_root_34 (by decide) (fun h34 => ?_) (fun h34 => absurd (nI_pos' (by omega)) h34)
  refine e_aload_n d_M_root_46 rfl rfl ?_
  refine g_M_51 (b := 7 + 16 * 9) rfl d_M_root_47 hM.a_data ?_
  refine e_bipush (v := 8) d_M_root_50 (by decide) ?_
  refine e_aload_n d_M_root_52 rfl rfl ?_
  refine g_M_69 (b := 7 + 16 * 13) rfl d_M_root_53 hM.a_bests ?_
  refine e_iload_n d_M_root_56 rfl rfl ?_
  refine e_iald d_M_root_57 (show vp_in (nI i) (hl σ 7 13) from by rw [hM.l_bests]; exact nI_in (by omega) (by decide)) ?_
  rw [nI_clamp (show i < 2 ^ 31 by omega)]
  rw [show hI (sI (σ) 6 (0) 0 (0)) 7 (13) (i) = nI b from by first | exact hb | (rw [I_sI, if_neg (by omega)]; exact hb)]
  refine e_imul d_M_root_58 ?_
  rw [show (8) * (nI b) = nI (8 * b) from by rw [show (8 : Int32) = nI 8 from by decide +kernel, nJ_mul]]
  refine e_iconst (v := 3) d_M_root_59 (by decide) ?_
  refine e_iadd d_M_root_60 ?_
  rw [show (nI (8 * b)) + (3) = nI ((8 * b) + 3) from by rw [show (3 : Int32) = nI 3 from by decide +kernel, nJ_add]]
  refine e_iald d_M_root_61 (show vp_in (nI ((8 * b) + 3)) (hl σ 7 9) from by rw [hM.l_data]; exact nI_in (by omega) (by decide)) ?_
  rw [nI_clamp (show (8 * b) + 3 < 2 ^ 31 by omega)]
  exact e_iret d_M_root_62 rfl ⟨(by simp [I_sI, J_sI]), rfl⟩
set_option maxHeartbeats 4000000 in
set_option maxRecDepth 100000 in
theorem ct_M_stepsOf_n {l : Launch} (hl0 : l.stackTraces = false) {G : LG} {σ : HS} {i : Nat} (hM : MS σ) {b : Int32} (hi : i < 10) (hb : hI σ 7 13 i = b) (hv : b < 0) : Ct l G m_M_stepsOf [.ref (6 + 16 * 0), .int (nI i)] (σ) (qd (.inr (some (.int 0))) σ) := by
  refine Ct.of hl0 rfl rfl (Nat.le_of_ble_eq_true rfl) ?_
  show Ex l G m_M_stepsOf (pmV G m_M_stepsOf (qd (.inr (some (.int 0))) σ)) 0 [(0, .ref (6 + 16 * 0)), (1, .int (nI i))] [] (σ) 0 0
  refine e_aload_n d_M_stepsOf_0 rfl rfl ?_
  refine g_M_69 (b := 7 + 16 * 13) rfl d_M_stepsOf_1 hM.a_bests ?_
  refine e_iload_n d_M_stepsOf_4 rfl rfl ?_
  refine e_iald d_M_stepsOf_5 (show vp_in (nI i) (hl σ 7 13) from by rw [hM.l_bests]; exact nI_in (by omega) (by decide)) ?_
  rw [nI_clamp (show i < 2 ^ 31 by omega)]
  rw [show hI (σ) 7 (13) (i) = b from by first | exact hb | (rw [I_sI, if_neg (by omega)]; exact hb)]
  refine e_ifge (tgt := 13) d_M_stepsOf_6 (by decide) (fun h6 => absurd h6 (Int32.not_le.mpr hv)) (fun h6 => ?_)
  refine e_iconst (v := 0) d_M_stepsOf_9 (by decide) ?_
  refine e_goto (tgt := 29) d_M_stepsOf_10 (by decide) ?_
  exact e_iret d_M_stepsOf_29 rfl ⟨rfl, rfl⟩
set_option maxHeartbeats 4000000 in
set_option maxRecDepth 100000 in
theorem ct_M_stepsOf_s {l : Launch} (hl0 : l.stackTraces = false) {G : LG} {σ : HS} {i : Nat} (hM : MS σ) {b : Nat} (hi : i < 10) (hb : hI σ 7 13 i = nI b) (hb4 : b < 40) : Ct l G m_M_stepsOf [.ref (6 + 16 * 0), .int (nI i)] (σ) (qd (.inr (some (.int (hI σ 7 9 (8 * b + 4))))) σ) := by
  refine Ct.of hl0 rfl rfl (Nat.le_of_ble_eq_true rfl) ?_
  show Ex l G m_M_stepsOf (pmV G m_M_stepsOf (qd (.inr (some (.int (hI σ 7 9 (8 * b + 4))))) σ)) 0 [(0, .ref (6 + 16 * 0)), (1, .int (nI i))] [] (σ) 0 0
  refine e_aload_n d_M_stepsOf_0 rfl rfl ?_
  refine g_M_69 (b := 7 + 16 * 13) rfl d_M_stepsOf_1 hM.a_bests ?_
  refine e_iload_n d_M_stepsOf_4 rfl rfl ?_
  refine e_iald d_M_stepsOf_5 (show vp_in (nI i) (hl σ 7 13) from by rw [hM.l_bests]; exact nI_in (by omega) (by decide)) ?_
  rw [nI_clamp (show i < 2 ^ 31 by omega)]
  rw [show hI (σ) 7 (13) (i) = nI b from by first | exact hb | (rw [I_sI, if_neg (by omega)]; exact hb)]
  refine e_ifge (tgt := 13) d_M_stepsOf_6 (by decide) (fun h6 => ?_) (fun h6 => absurd (nI_pos' (by omega)) h6)
  refine e_aload_n d_M_stepsOf_13 rfl rfl ?_
  refine g_M_51 (b := 7 + 16 * 9) rfl d_M_stepsOf_14 hM.a_data ?_
  refine e_bipush (v := 8) d_M_stepsOf_17 (by decide) ?_
  refine e_aload_n d_M_stepsOf_19 rfl rfl ?_
  refine g_M_69 (b := 7 + 16 * 13) rfl d_M_stepsOf_20 hM.a_bests ?_
  refine e_iload_n d_M_stepsOf_23 rfl rfl ?_
  refine e_iald d_M_stepsOf_24 (show vp_in (nI i) (hl σ 7 13) from by rw [hM.l_bests]; exact nI_in (by omega) (by decide)) ?_
  rw [nI_clamp (show i < 2 ^ 31 by omega)]
  rw [show hI (σ) 7 (13) (i) = nI b from by first | exact hb | (rw [I_sI, if_neg (by omega)]; exact hb)]
  refine e_imul d_M_stepsOf_25 ?_
  rw [show (8) * (nI b) = nI (8 * b) from by rw [show (8 : Int32) = nI 8 from by decide +kernel, nJ_mul]]
  refine e_iconst (v := 4) d_M_stepsOf_26 (by decide) ?_
  refine e_iadd d_M_stepsOf_27 ?_
  rw [show (nI (8 * b)) + (4) = nI ((8 * b) + 4) from by rw [show (4 : Int32) = nI 4 from by decide +kernel, nJ_add]]
  refine e_iald d_M_stepsOf_28 (show vp_in (nI ((8 * b) + 4)) (hl σ 7 9) from by rw [hM.l_data]; exact nI_in (by omega) (by decide)) ?_
  rw [nI_clamp (show (8 * b) + 4 < 2 ^ 31 by omega)]
  exact e_iret d_M_stepsOf_29 rfl ⟨rfl, rfl⟩
def msP (σ : HS) (i : Nat) : Int32 := if hI σ 7 13 i < 0 then 0 else hI σ 7 9 (8 * (hI σ 7 13 i).toNatClampNeg + 4)
/-- the best port of a node, as the model keeps it -/
def bok (σ : HS) (i : Nat) : Prop := hI σ 7 13 i < 0 ∨ ∃ b, b < 40 ∧ hI σ 7 13 i = nI b
theorem ct_M_stepsOf {l : Launch} (hl0 : l.stackTraces = false) {G : LG} {σ : HS} {i : Nat} (hM : MS σ) (hi : i < 10) (hb : bok σ i) : Ct l G m_M_stepsOf [.ref (6 + 16 * 0), .int (nI i)] σ (qd (.inr (some (.int (msP σ i)))) σ) := by
  rcases hb with h | ⟨b, hb4, h⟩
  · have e : msP σ i = 0 := by unfold msP; rw [if_pos h]
    rw [e]; exact ct_M_stepsOf_n hl0 hM hi rfl h
  · have e : msP σ i = hI σ 7 9 (8 * b + 4) := by unfold msP; rw [h, if_neg (nI_pos (by omega)), nI_clamp (by omega)]
    rw [e]; exact ct_M_stepsOf_s hl0 hM hi h hb4
set_option maxHeartbeats 4000000 in
set_option maxRecDepth 100000 in
theorem ct_M_steps_x {l : Launch} (hl0 : l.stackTraces = false) {G : LG} {σ : HS} {v : Int32} (hx : ¬ nnV σ v = 0) : Ct l G m_M_steps [.ref (6 + 16 * 0), .int (v)] (σ) (qd (.inr (some (.int 0))) (sI σ 6 0 0 1)) := by
  refine Ct.of hl0 rfl rfl (Nat.le_of_ble_eq_true rfl) ?_
  show Ex l G m_M_steps (pmV G m_M_steps (qd (.inr (some (.int 0))) (sI σ 6 0 0 1))) 0 [(0, .ref (6 + 16 * 0)), (1, .int (v))] [] (σ) 0 0
  refine e_aload_n d_M_steps_0 rfl rfl ?_
  refine e_aload_n d_M_steps_1 rfl rfl ?_
  refine e_iload_n d_M_steps_2 rfl rfl ?_
  refine e_callVd (v := some (.int (nnV σ (v)))) (σ' := σ) (q := 6) (a := 0) (As := [.int (v)]) (st := [.ref (6 + 16 * 0)]) 0 0 d_M_steps_3 cb_M_steps_115 iv_M_noNode rfl ⟨by decide, rfl⟩ rfl (Nat.le_of_ble_eq_true rfl) (by decide) (by decide) (ct_M_noNode hl0) ?_
  show Ex l G m_M_steps (pmV G m_M_steps (qd (.inr (some (.int 0))) (sI σ 6 0 0 1))) 6 [(0, .ref (6 + 16 * 0)), (1, .int (v))] [.int (nnV σ (v)), .ref (6 + 16 * 0)] (σ) 0 0
  refine e_ifeq (tgt := 13) d_M_steps_6 (by decide) (fun h6 => absurd h6 hx) (fun h6 => ?_)
  refine e_iconst (v := 1) d_M_steps_9 (by decide) ?_
  refine e_goto (tgt := 14) d_M_steps_10 (by decide) ?_
  refine p_M_78 rfl d_M_steps_14 ?_
  refine e_aload_n d_M_steps_17 rfl rfl ?_
  refine g_M_78 rfl d_M_steps_18 ?_
  refine e_ifeq (tgt := 28) d_M_steps_21 (by decide) (fun h21 => absurd h21 (by rw [th_1]; decide +kernel)) (fun h21 => ?_)
  refine e_iconst (v := 0) d_M_steps_24 (by decide) ?_
  refine e_goto (tgt := 33) d_M_steps_25 (by decide) ?_
  exact e_iret d_M_steps_33 rfl ⟨rfl, rfl⟩
set_option maxHeartbeats 4000000 in
set_option maxRecDepth 100000 in
theorem ct_M_steps {l : Launch} (hl0 : l.stackTraces = false) {G : LG} {σ : HS} {i : Nat} (hM : MS σ) (hi : i < 10) (hx : nnV σ (nI i) = 0) (hb : bok σ i) : Ct l G m_M_steps [.ref (6 + 16 * 0), .int (nI i)] (σ) (qd (.inr (some (.int (msP σ i)))) (sI σ 6 0 0 0)) := by
  refine Ct.of hl0 rfl rfl (Nat.le_of_ble_eq_true rfl) ?_
  show Ex l G m_M_steps (pmV G m_M_steps (qd (.inr (some (.int (msP σ i)))) (sI σ 6 0 0 0))) 0 [(0, .ref (6 + 16 * 0)), (1, .int (nI i))] [] (σ) 0 0
  refine e_aload_n d_M_steps_0 rfl rfl ?_
  refine e_aload_n d_M_steps_1 rfl rfl ?_
  refine e_iload_n d_M_steps_2 rfl rfl ?_
  refine e_callVd (v := some (.int (nnV σ (nI i)))) (σ' := σ) (q := 6) (a := 0) (As := [.int (nI i)]) (st := [.ref (6 + 16 * 0)]) 0 0 d_M_steps_3 cb_M_steps_115 iv_M_noNode rfl ⟨by decide, rfl⟩ rfl (Nat.le_of_ble_eq_true rfl) (by decide) (by decide) (ct_M_noNode hl0) ?_
  show Ex l G m_M_steps (pmV G m_M_steps (qd (.inr (some (.int (msP σ i)))) (sI σ 6 0 0 0))) 6 [(0, .ref (6 + 16 * 0)), (1, .int (nI i))] [.int (nnV σ (nI i)), .ref (6 + 16 * 0)] (σ) 0 0
  refine e_ifeq (tgt := 13) d_M_steps_6 (by decide) (fun h6 => ?_) (fun h6 => absurd hx h6)
  refine e_iconst (v := 0) d_M_steps_13 (by decide) ?_
  refine p_M_78 rfl d_M_steps_14 ?_
  refine e_aload_n d_M_steps_17 rfl rfl ?_
  refine g_M_78 rfl d_M_steps_18 ?_
  refine e_ifeq (tgt := 28) d_M_steps_21 (by decide) (fun h21 => ?_) (fun h21 => absurd (by rw [th_1]) h21)
  refine e_aload_n d_M_steps_28 rfl rfl ?_
  refine e_iload_n d_M_steps_29 rfl rfl ?_
  refine e_callVd (v := some (.int (msP (sI σ 6 0 0 0) i))) (σ' := sI (σ) 6 (0) 0 (0)) (q := 6) (a := 0) (As := [.int (nI i)]) (st := []) 0 0 d_M_steps_30 cb_M_steps_152 iv_M_stepsOf rfl ⟨by decide, rfl⟩ rfl (Nat.le_of_ble_eq_true rfl) (by decide) (by decide) (ct_M_stepsOf hl0 (σ := sI σ 6 0 0 0) hM hi hb) ?_
  show Ex l G m_M_steps (pmV G m_M_steps (qd (.inr (some (.int (msP σ i)))) (sI σ 6 0 0 0))) 33 [(0, .ref (6 + 16 * 0)), (1, .int (nI i))] [.int (msP (sI σ 6 0 0 0) i)] (sI (σ) 6 (0) 0 (0)) 0 0
  exact e_iret d_M_steps_33 rfl ⟨(by simp [I_sI, J_sI, msP]), rfl⟩
def mkV (σ : HS) (p : Nat) : Int32 := if hI σ 8 1 p = 0 then -1 else 10000 * hI σ 7 9 (8 * p + 4) + hI σ 7 9 (8 * p + 3)
set_option maxHeartbeats 4000000 in
set_option maxRecDepth 100000 in
theorem ct_M_kept_x {l : Launch} (hl0 : l.stackTraces = false) {G : LG} {σ : HS} {v u : Int32} (hx : ¬ npV σ v u = 0) : Ct l G m_M_kept [.ref (6 + 16 * 0), .int (v), .int (u)] (σ) (qd (.inr (some (.int 0))) (sI σ 6 0 0 1)) := by
  refine Ct.of hl0 rfl rfl (Nat.le_of_ble_eq_true rfl) ?_
  show Ex l G m_M_kept (pmV G m_M_kept (qd (.inr (some (.int 0))) (sI σ 6 0 0 1))) 0 [(0, .ref (6 + 16 * 0)), (1, .int (v)), (2, .int (u))] [] (σ) 0 0
  refine e_aload_n d_M_kept_0 rfl rfl ?_
  refine e_aload_n d_M_kept_1 rfl rfl ?_
  refine e_iload_n d_M_kept_2 rfl rfl ?_
  refine e_iload_n d_M_kept_3 rfl rfl ?_
  refine e_callVd (v := some (.int (npV σ (v) (u)))) (σ' := σ) (q := 6) (a := 0) (As := [.int (v), .int (u)]) (st := [.ref (6 + 16 * 0)]) 0 0 d_M_kept_4 cb_M_kept_119 iv_M_noPort rfl ⟨by decide, rfl⟩ rfl (Nat.le_of_ble_eq_true rfl) (by decide) (by decide) (ct_M_noPort hl0) ?_
  show Ex l G m_M_kept (pmV G m_M_kept (qd (.inr (some (.int 0))) (sI σ 6 0 0 1))) 7 [(0, .ref (6 + 16 * 0)), (1, .int (v)), (2, .int (u))] [.int (npV σ (v) (u)), .ref (6 + 16 * 0)] (σ) 0 0
  refine e_ifeq (tgt := 14) d_M_kept_7 (by decide) (fun h7 => absurd h7 hx) (fun h7 => ?_)
  refine e_iconst (v := 1) d_M_kept_10 (by decide) ?_
  refine e_goto (tgt := 15) d_M_kept_11 (by decide) ?_
  refine p_M_78 rfl d_M_kept_15 ?_
  refine e_aload_n d_M_kept_18 rfl rfl ?_
  refine g_M_78 rfl d_M_kept_19 ?_
  refine e_ifeq (tgt := 27) d_M_kept_22 (by decide) (fun h22 => absurd h22 (by rw [th_1]; decide +kernel)) (fun h22 => ?_)
  refine e_iconst (v := 0) d_M_kept_25 (by decide) ?_
  exact e_iret d_M_kept_26 rfl ⟨rfl, rfl⟩
set_option maxHeartbeats 4000000 in
set_option maxRecDepth 100000 in
theorem ct_M_kept_n {l : Launch} (hl0 : l.stackTraces = false) {G : LG} {σ : HS} {i j : Nat} (hM : MS σ) (hi : i < 10) (hj : j < 4) (hx : npV σ (nI i) (nI j) = 0) (hk : hI σ 8 1 (4 * i + j) = 0) : Ct l G m_M_kept [.ref (6 + 16 * 0), .int (nI i), .int (nI j)] (σ) (qd (.inr (some (.int (-1)))) (sI σ 6 0 0 0)) := by
  refine Ct.of hl0 rfl rfl (Nat.le_of_ble_eq_true rfl) ?_
  show Ex l G m_M_kept (pmV G m_M_kept (qd (.inr (some (.int (-1)))) (sI σ 6 0 0 0))) 0 [(0, .ref (6 + 16 * 0)), (1, .int (nI i)), (2, .int (nI j))] [] (σ) 0 0
  refine e_aload_n d_M_kept_0 rfl rfl ?_
  refine e_aload_n d_M_kept_1 rfl rfl ?_
  refine e_iload_n d_M_kept_2 rfl rfl ?_
  refine e_iload_n d_M_kept_3 rfl rfl ?_
  refine e_callVd (v := some (.int (npV σ (nI i) (nI j)))) (σ' := σ) (q := 6) (a := 0) (As := [.int (nI i), .int (nI j)]) (st := [.ref (6 + 16 * 0)]) 0 0 d_M_kept_4 cb_M_kept_119 iv_M_noPort rfl ⟨by decide, rfl⟩ rfl (Nat.le_of_ble_eq_true rfl) (by decide) (by decide) (ct_M_noPort hl0) ?_
  show Ex l G m_M_kept (pmV G m_M_kept (qd (.inr (some (.int (-1)))) (sI σ 6 0 0 0))) 7 [(0, .ref (6 + 16 * 0)), (1, .int (nI i)), (2, .int (nI j))] [.int (npV σ (nI i) (nI j)), .ref (6 + 16 * 0)] (σ) 0 0
  refine e_ifeq (tgt := 14) d_M_kept_7 (by decide) (fun h7 => ?_) (fun h7 => absurd hx h7)
  refine e_iconst (v := 0) d_M_kept_14 (by decide) ?_
  refine p_M_78 rfl d_M_kept_15 ?_
  refine e_aload_n d_M_kept_18 rfl rfl ?_
  refine g_M_78 rfl d_M_kept_19 ?_
  refine e_ifeq (tgt := 27) d_M_kept_22 (by decide) (fun h22 => ?_) (fun h22 => absurd (by rw [th_1]) h22)
  refine e_iconst (v := 4) d_M_kept_27 (by decide) ?_
  refine e_iload_n d_M_kept_28 rfl rfl ?_
  refine e_imul d_M_kept_29 ?_
  rw [show (4) * (nI i) = nI (4 * i) from by rw [show (4 : Int32) = nI 4 from by decide +kernel, nJ_mul]]
  refine e_iload_n d_M_kept_30 rfl rfl ?_
  refine e_iadd d_M_kept_31 ?_
  rw [show (nI (4 * i)) + (nI j) = nI ((4 * i) + j) from by rw [nJ_add]]
  refine e_istore_n (lv' := [(3, .int (nI ((4 * i) + j))), (0, .ref (6 + 16 * 0)), (1, .int (nI i)), (2, .int (nI j))]) d_M_kept_32 rfl (by decide) rfl ?_
  refine e_aload_n d_M_kept_33 rfl rfl ?_
  refine g_M_45 (b := 8 + 16 * 1) rfl d_M_kept_34 hM.a_keeps ?_
  refine e_iload_n d_M_kept_37 rfl rfl ?_
  refine e_zald d_M_kept_38 (show vp_in (nI ((4 * i) + j)) (hl σ 8 1) from by rw [hM.l_keeps]; exact nI_in (by omega) (by decide)) ?_
  rw [nI_clamp (show (4 * i) + j < 2 ^ 31 by omega)]
  refine e_ifeq (tgt := 72) d_M_kept_39 (by decide) (fun h39 => ?_) (fun h39 => absurd (by rw [I_sI, if_neg (by omega)]; exact hk) h39)
  refine e_iconst (v := -1) d_M_kept_72 (by decide) ?_
  exact e_iret d_M_kept_73 rfl ⟨(by simp [I_sI, J_sI]), rfl⟩
set_option maxHeartbeats 4000000 in
set_option maxRecDepth 100000 in
theorem ct_M_kept_s {l : Launch} (hl0 : l.stackTraces = false) {G : LG} {σ : HS} {i j : Nat} (hM : MS σ) (hi : i < 10) (hj : j < 4) (hx : npV σ (nI i) (nI j) = 0) (hk : ¬ hI σ 8 1 (4 * i + j) = 0) : Ct l G m_M_kept [.ref (6 + 16 * 0), .int (nI i), .int (nI j)] (σ) (qd (.inr (some (.int (10000 * hI σ 7 9 (8 * (4 * i + j) + 4) + hI σ 7 9 (8 * (4 * i + j) + 3))))) (sI σ 6 0 0 0)) := by
  refine Ct.of hl0 rfl rfl (Nat.le_of_ble_eq_true rfl) ?_
  show Ex l G m_M_kept (pmV G m_M_kept (qd (.inr (some (.int (10000 * hI σ 7 9 (8 * (4 * i + j) + 4) + hI σ 7 9 (8 * (4 * i + j) + 3))))) (sI σ 6 0 0 0))) 0 [(0, .ref (6 + 16 * 0)), (1, .int (nI i)), (2, .int (nI j))] [] (σ) 0 0
  refine e_aload_n d_M_kept_0 rfl rfl ?_
  refine e_aload_n d_M_kept_1 rfl rfl ?_
  refine e_iload_n d_M_kept_2 rfl rfl ?_
  refine e_iload_n d_M_kept_3 rfl rfl ?_
  refine e_callVd (v := some (.int (npV σ (nI i) (nI j)))) (σ' := σ) (q := 6) (a := 0) (As := [.int (nI i), .int (nI j)]) (st := [.ref (6 + 16 * 0)]) 0 0 d_M_kept_4 cb_M_kept_119 iv_M_noPort rfl ⟨by decide, rfl⟩ rfl (Nat.le_of_ble_eq_true rfl) (by decide) (by decide) (ct_M_noPort hl0) ?_
  show Ex l G m_M_kept (pmV G m_M_kept (qd (.inr (some (.int (10000 * hI σ 7 9 (8 * (4 * i + j) + 4) + hI σ 7 9 (8 * (4 * i + j) + 3))))) (sI σ 6 0 0 0))) 7 [(0, .ref (6 + 16 * 0)), (1, .int (nI i)), (2, .int (nI j))] [.int (npV σ (nI i) (nI j)), .ref (6 + 16 * 0)] (σ) 0 0
  refine e_ifeq (tgt := 14) d_M_kept_7 (by decide) (fun h7 => ?_) (fun h7 => absurd hx h7)
  refine e_iconst (v := 0) d_M_kept_14 (by decide) ?_
  refine p_M_78 rfl d_M_kept_15 ?_
  refine e_aload_n d_M_kept_18 rfl rfl ?_
  refine g_M_78 rfl d_M_kept_19 ?_
  refine e_ifeq (tgt := 27) d_M_kept_22 (by decide) (fun h22 => ?_) (fun h22 => absurd (by rw [th_1]) h22)
  refine e_iconst (v := 4) d_M_kept_27 (by decide) ?_
  refine e_iload_n d_M_kept_28 rfl rfl ?_
  refine e_imul d_M_kept_29 ?_
  rw [show (4) * (nI i) = nI (4 * i) from by rw [show (4 : Int32) = nI 4 from by decide +kernel, nJ_mul]]
  refine e_iload_n d_M_kept_30 rfl rfl ?_
  refine e_iadd d_M_kept_31 ?_
  rw [show (nI (4 * i)) + (nI j) = nI ((4 * i) + j) from by rw [nJ_add]]
  refine e_istore_n (lv' := [(3, .int (nI ((4 * i) + j))), (0, .ref (6 + 16 * 0)), (1, .int (nI i)), (2, .int (nI j))]) d_M_kept_32 rfl (by decide) rfl ?_
  refine e_aload_n d_M_kept_33 rfl rfl ?_
  refine g_M_45 (b := 8 + 16 * 1) rfl d_M_kept_34 hM.a_keeps ?_
  refine e_iload_n d_M_kept_37 rfl rfl ?_
  refine e_zald d_M_kept_38 (show vp_in (nI ((4 * i) + j)) (hl σ 8 1) from by rw [hM.l_keeps]; exact nI_in (by omega) (by decide)) ?_
  rw [nI_clamp (show (4 * i) + j < 2 ^ 31 by omega)]
  refine e_ifeq (tgt := 72) d_M_kept_39 (by decide) (fun h39 => absurd h39 (by rw [I_sI, if_neg (by omega)]; exact hk)) (fun h39 => ?_)
  refine e_sipush (v := 10000) d_M_kept_42 (by decide) ?_
  refine e_aload_n d_M_kept_45 rfl rfl ?_
  refine g_M_51 (b := 7 + 16 * 9) rfl d_M_kept_46 hM.a_data ?_
  refine e_bipush (v := 8) d_M_kept_49 (by decide) ?_
  refine e_iload_n d_M_kept_51 rfl rfl ?_
  refine e_imul d_M_kept_52 ?_
  rw [show (8) * (nI ((4 * i) + j)) = nI (8 * ((4 * i) + j)) from by rw [show (8 : Int32) = nI 8 from by decide +kernel, nJ_mul]]
  refine e_iconst (v := 4) d_M_kept_53 (by decide) ?_
  refine e_iadd d_M_kept_54 ?_
  rw [show (nI (8 * ((4 * i) + j))) + (4) = nI ((8 * ((4 * i) + j)) + 4) from by rw [show (4 : Int32) = nI 4 from by decide +kernel, nJ_add]]
  refine e_iald d_M_kept_55 (show vp_in (nI ((8 * ((4 * i) + j)) + 4)) (hl σ 7 9) from by rw [hM.l_data]; exact nI_in (by omega) (by decide)) ?_
  rw [nI_clamp (show (8 * ((4 * i) + j)) + 4 < 2 ^ 31 by omega)]
  refine e_imul d_M_kept_56 ?_
  refine e_aload_n d_M_kept_57 rfl rfl ?_
  refine g_M_51 (b := 7 + 16 * 9) rfl d_M_kept_58 hM.a_data ?_
  refine e_bipush (v := 8) d_M_kept_61 (by decide) ?_
  refine e_iload_n d_M_kept_63 rfl rfl ?_
  refine e_imul d_M_kept_64 ?_
  rw [show (8) * (nI ((4 * i) + j)) = nI (8 * ((4 * i) + j)) from by rw [show (8 : Int32) = nI 8 from by decide +kernel, nJ_mul]]
  refine e_iconst (v := 3) d_M_kept_65 (by decide) ?_
  refine e_iadd d_M_kept_66 ?_
  rw [show (nI (8 * ((4 * i) + j))) + (3) = nI ((8 * ((4 * i) + j)) + 3) from by rw [show (3 : Int32) = nI 3 from by decide +kernel, nJ_add]]
  refine e_iald d_M_kept_67 (show vp_in (nI ((8 * ((4 * i) + j)) + 3)) (hl σ 7 9) from by rw [hM.l_data]; exact nI_in (by omega) (by decide)) ?_
  rw [nI_clamp (show (8 * ((4 * i) + j)) + 3 < 2 ^ 31 by omega)]
  refine e_iadd d_M_kept_68 ?_
  refine e_goto (tgt := 73) d_M_kept_69 (by decide) ?_
  exact e_iret d_M_kept_73 rfl ⟨(by simp [I_sI, J_sI]), rfl⟩
set_option maxHeartbeats 4000000 in
set_option maxRecDepth 100000 in
theorem ct_M_delay_x {l : Launch} (hl0 : l.stackTraces = false) {G : LG} {σ : HS} {v : Int32} (hx : ¬ nnV σ v = 0) : Ct l G m_M_delay [.ref (6 + 16 * 0), .int (v)] (σ) (qd (.inr (some (.long 0))) (sI σ 6 0 0 1)) := by
  refine Ct.of hl0 rfl rfl (Nat.le_of_ble_eq_true rfl) ?_
  show Ex l G m_M_delay (pmV G m_M_delay (qd (.inr (some (.long 0))) (sI σ 6 0 0 1))) 0 [(0, .ref (6 + 16 * 0)), (1, .int (v))] [] (σ) 0 0
  refine e_aload_n d_M_delay_0 rfl rfl ?_
  refine e_aload_n d_M_delay_1 rfl rfl ?_
  refine e_iload_n d_M_delay_2 rfl rfl ?_
  refine e_callVd (v := some (.int (nnV σ (v)))) (σ' := σ) (q := 6) (a := 0) (As := [.int (v)]) (st := [.ref (6 + 16 * 0)]) 0 0 d_M_delay_3 cb_M_delay_115 iv_M_noNode rfl ⟨by decide, rfl⟩ rfl (Nat.le_of_ble_eq_true rfl) (by decide) (by decide) (ct_M_noNode hl0) ?_
  show Ex l G m_M_delay (pmV G m_M_delay (qd (.inr (some (.long 0))) (sI σ 6 0 0 1))) 6 [(0, .ref (6 + 16 * 0)), (1, .int (v))] [.int (nnV σ (v)), .ref (6 + 16 * 0)] (σ) 0 0
  refine e_ifeq (tgt := 13) d_M_delay_6 (by decide) (fun h6 => absurd h6 hx) (fun h6 => ?_)
  refine e_iconst (v := 1) d_M_delay_9 (by decide) ?_
  refine e_goto (tgt := 14) d_M_delay_10 (by decide) ?_
  refine p_M_78 rfl d_M_delay_14 ?_
  refine e_aload_n d_M_delay_17 rfl rfl ?_
  refine g_M_78 rfl d_M_delay_18 ?_
  refine e_ifne (tgt := 33) d_M_delay_21 (by decide) (fun h21 => ?_) (fun h21 => absurd h21 (by rw [th_1]; decide +kernel))
  refine e_lconst (v := 0) d_M_delay_33 (by decide) ?_
  exact e_lret d_M_delay_34 rfl ⟨rfl, rfl⟩
set_option maxHeartbeats 4000000 in
set_option maxRecDepth 100000 in
theorem ct_M_delay {l : Launch} (hl0 : l.stackTraces = false) {G : LG} {σ : HS} {i : Nat} (hM : MS σ) (hi : i < 10) (hx : nnV σ (nI i) = 0) : Ct l G m_M_delay [.ref (6 + 16 * 0), .int (nI i)] (σ) (qd (.inr (some (.long (hJ σ 9 1 i)))) (sI σ 6 0 0 0)) := by
  refine Ct.of hl0 rfl rfl (Nat.le_of_ble_eq_true rfl) ?_
  show Ex l G m_M_delay (pmV G m_M_delay (qd (.inr (some (.long (hJ σ 9 1 i)))) (sI σ 6 0 0 0))) 0 [(0, .ref (6 + 16 * 0)), (1, .int (nI i))] [] (σ) 0 0
  refine e_aload_n d_M_delay_0 rfl rfl ?_
  refine e_aload_n d_M_delay_1 rfl rfl ?_
  refine e_iload_n d_M_delay_2 rfl rfl ?_
  refine e_callVd (v := some (.int (nnV σ (nI i)))) (σ' := σ) (q := 6) (a := 0) (As := [.int (nI i)]) (st := [.ref (6 + 16 * 0)]) 0 0 d_M_delay_3 cb_M_delay_115 iv_M_noNode rfl ⟨by decide, rfl⟩ rfl (Nat.le_of_ble_eq_true rfl) (by decide) (by decide) (ct_M_noNode hl0) ?_
  show Ex l G m_M_delay (pmV G m_M_delay (qd (.inr (some (.long (hJ σ 9 1 i)))) (sI σ 6 0 0 0))) 6 [(0, .ref (6 + 16 * 0)), (1, .int (nI i))] [.int (nnV σ (nI i)), .ref (6 + 16 * 0)] (σ) 0 0
  refine e_ifeq (tgt := 13) d_M_delay_6 (by decide) (fun h6 => ?_) (fun h6 => absurd hx h6)
  refine e_iconst (v := 0) d_M_delay_13 (by decide) ?_
  refine p_M_78 rfl d_M_delay_14 ?_
  refine e_aload_n d_M_delay_17 rfl rfl ?_
  refine g_M_78 rfl d_M_delay_18 ?_
  refine e_ifne (tgt := 33) d_M_delay_21 (by decide) (fun h21 => absurd h21 (fun z => z (by rw [th_1]))) (fun h21 => ?_)
  refine e_aload_n d_M_delay_24 rfl rfl ?_
  refine g_M_26 (b := 9 + 16 * 1) rfl d_M_delay_25 hM.a_delays ?_
  refine e_iload_n d_M_delay_28 rfl rfl ?_
  refine e_lald d_M_delay_29 (show vp_in (nI i) (hl σ 9 1) from by rw [hM.l_delays]; exact nI_in (by omega) (by decide)) ?_
  rw [nI_clamp (show i < 2 ^ 31 by omega)]
  refine e_goto (tgt := 34) d_M_delay_30 (by decide) ?_
  exact e_lret d_M_delay_34 rfl ⟨(by simp [I_sI, J_sI]), rfl⟩
set_option maxHeartbeats 4000000 in
set_option maxRecDepth 100000 in
theorem ct_M_offset_x {l : Launch} (hl0 : l.stackTraces = false) {G : LG} {σ : HS} {v : Int32} (hx : ¬ nnV σ v = 0) : Ct l G m_M_offset [.ref (6 + 16 * 0), .int (v)] (σ) (qd (.inr (some (.long 0))) (sI σ 6 0 0 1)) := by
  refine Ct.of hl0 rfl rfl (Nat.le_of_ble_eq_true rfl) ?_
  show Ex l G m_M_offset (pmV G m_M_offset (qd (.inr (some (.long 0))) (sI σ 6 0 0 1))) 0 [(0, .ref (6 + 16 * 0)), (1, .int (v))] [] (σ) 0 0
  refine e_aload_n d_M_offset_0 rfl rfl ?_
  refine e_aload_n d_M_offset_1 rfl rfl ?_
  refine e_iload_n d_M_offset_2 rfl rfl ?_
  refine e_callVd (v := some (.int (nnV σ (v)))) (σ' := σ) (q := 6) (a := 0) (As := [.int (v)]) (st := [.ref (6 + 16 * 0)]) 0 0 d_M_offset_3 cb_M_offset_115 iv_M_noNode rfl ⟨by decide, rfl⟩ rfl (Nat.le_of_ble_eq_true rfl) (by decide) (by decide) (ct_M_noNode hl0) ?_
  show Ex l G m_M_offset (pmV G m_M_offset (qd (.inr (some (.long 0))) (sI σ 6 0 0 1))) 6 [(0, .ref (6 + 16 * 0)), (1, .int (v))] [.int (nnV σ (v)), .ref (6 + 16 * 0)] (σ) 0 0
  refine e_ifeq (tgt := 13) d_M_offset_6 (by decide) (fun h6 => absurd h6 hx) (fun h6 => ?_)
  refine e_iconst (v := 1) d_M_offset_9 (by decide) ?_
  refine e_goto (tgt := 14) d_M_offset_10 (by decide) ?_
  refine p_M_78 rfl d_M_offset_14 ?_
  refine e_aload_n d_M_offset_17 rfl rfl ?_
  refine g_M_78 rfl d_M_offset_18 ?_
  refine e_ifne (tgt := 33) d_M_offset_21 (by decide) (fun h21 => ?_) (fun h21 => absurd h21 (by rw [th_1]; decide +kernel))
  refine e_lconst (v := 0) d_M_offset_33 (by decide) ?_
  exact e_lret d_M_offset_34 rfl ⟨rfl, rfl⟩
set_option maxHeartbeats 4000000 in
set_option maxRecDepth 100000 in
theorem ct_M_offset {l : Launch} (hl0 : l.stackTraces = false) {G : LG} {σ : HS} {i : Nat} (hM : MS σ) (hi : i < 10) (hx : nnV σ (nI i) = 0) : Ct l G m_M_offset [.ref (6 + 16 * 0), .int (nI i)] (σ) (qd (.inr (some (.long (hJ σ 9 0 i)))) (sI σ 6 0 0 0)) := by
  refine Ct.of hl0 rfl rfl (Nat.le_of_ble_eq_true rfl) ?_
  show Ex l G m_M_offset (pmV G m_M_offset (qd (.inr (some (.long (hJ σ 9 0 i)))) (sI σ 6 0 0 0))) 0 [(0, .ref (6 + 16 * 0)), (1, .int (nI i))] [] (σ) 0 0
  refine e_aload_n d_M_offset_0 rfl rfl ?_
  refine e_aload_n d_M_offset_1 rfl rfl ?_
  refine e_iload_n d_M_offset_2 rfl rfl ?_
  refine e_callVd (v := some (.int (nnV σ (nI i)))) (σ' := σ) (q := 6) (a := 0) (As := [.int (nI i)]) (st := [.ref (6 + 16 * 0)]) 0 0 d_M_offset_3 cb_M_offset_115 iv_M_noNode rfl ⟨by decide, rfl⟩ rfl (Nat.le_of_ble_eq_true rfl) (by decide) (by decide) (ct_M_noNode hl0) ?_
  show Ex l G m_M_offset (pmV G m_M_offset (qd (.inr (some (.long (hJ σ 9 0 i)))) (sI σ 6 0 0 0))) 6 [(0, .ref (6 + 16 * 0)), (1, .int (nI i))] [.int (nnV σ (nI i)), .ref (6 + 16 * 0)] (σ) 0 0
  refine e_ifeq (tgt := 13) d_M_offset_6 (by decide) (fun h6 => ?_) (fun h6 => absurd hx h6)
  refine e_iconst (v := 0) d_M_offset_13 (by decide) ?_
  refine p_M_78 rfl d_M_offset_14 ?_
  refine e_aload_n d_M_offset_17 rfl rfl ?_
  refine g_M_78 rfl d_M_offset_18 ?_
  refine e_ifne (tgt := 33) d_M_offset_21 (by decide) (fun h21 => absurd h21 (fun z => z (by rw [th_1]))) (fun h21 => ?_)
  refine e_aload_n d_M_offset_24 rfl rfl ?_
  refine g_M_22 (b := 9 + 16 * 0) rfl d_M_offset_25 hM.a_offsets ?_
  refine e_iload_n d_M_offset_28 rfl rfl ?_
  refine e_lald d_M_offset_29 (show vp_in (nI i) (hl σ 9 0) from by rw [hM.l_offsets]; exact nI_in (by omega) (by decide)) ?_
  rw [nI_clamp (show i < 2 ^ 31 by omega)]
  refine e_goto (tgt := 34) d_M_offset_30 (by decide) ?_
  exact e_lret d_M_offset_34 rfl ⟨(by simp [I_sI, J_sI]), rfl⟩
