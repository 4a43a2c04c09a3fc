def lkP (σ : HS) (p : Nat) : Nat := ((hR σ 1 p 7).getD 0) / 16
def dTP (σ : HS) (p : Nat) : Int32 := if hR σ 3 (lkP σ p) 0 = some (1 + 16 * p) then hI σ 3 (lkP σ p) 3 else hI σ 3 (lkP σ p) 2
def dFP (σ : HS) (p : Nat) : Int32 := if hR σ 3 (lkP σ p) 0 = some (1 + 16 * p) then hI σ 3 (lkP σ p) 2 else hI σ 3 (lkP σ p) 3
noncomputable def xO (σ : HS) (i p : Nat) (t : Int64) (r u : Int32) : Int32 := xO3 σ t (dTP σ p + r) (dFP σ p + u) (hJ σ 2 (farP σ (lkP σ p) p / 4) 4) (hJ σ 2 i 4) r u
noncomputable def xJ (σ : HS) (i p : Nat) (t : Int64) (r u : Int32) : Nat → Int64 := xJ3 σ t (dTP σ p + r) (dFP σ p + u) (hJ σ 2 (farP σ (lkP σ p) p / 4) 4) (hJ σ 2 i 4) r u
theorem ct_T_setClock_p {l : Launch} (hl0 : l.stackTraces = false) {G : LG} {σ : HS} {n L i p : Nat} {t : Int64} {r u : Int32} (hT : TS σ n L) (hp : p < 4 * n) (hne : hR σ 1 p 7 ≠ none) : Ct l G m_T_setClock [.ref (5 + 16 * 0), .ref (2 + 16 * i), .ref (1 + 16 * p), .long t, .int r, .int u] σ (qd (.inr (some (.int (scV (xO σ i p t r u))))) (scS σ i (xO σ i p t r u) (xJ σ i p t r u))) := by
  rcases hT.lk hp with h1 | ⟨k, x, y, hk, hx, hy, h1, hf, hs⟩
  · exact absurd h1 hne
  · have e1 : lkP σ p = k := by unfold lkP; rw [h1]; show (3 + 16 * k) / 16 = k; omega
    have e2 : (hR σ 3 k 0 = some (1 + 16 * p)) ↔ p = x := by
      rw [hf]
      exact ⟨fun z => by have := Option.some.inj z; omega, fun z => by rw [z]⟩
    have e3 : dTP σ p = if p = x then hI σ 3 k 3 else hI σ 3 k 2 := by
      unfold dTP; rw [e1]
      by_cases e : p = x
      · rw [if_pos (e2.mpr e), if_pos e]
      · rw [if_neg (fun z => e (e2.mp z)), if_neg e]
    have e4 : dFP σ p = if p = x then hI σ 3 k 2 else hI σ 3 k 3 := by
      unfold dFP; rw [e1]
      by_cases e : p = x
      · rw [if_pos (e2.mpr e), if_pos e]
      · rw [if_neg (fun z => e (e2.mp z)), if_neg e]
    have e5 : farP σ (lkP σ p) p = if p = x then y else x := by rw [e1]; exact farP_eq hf hs
    unfold xO xJ
    exact ct_T_setClock hl0 hT (by rw [e5]; split <;> assumption) h1 hf hs e5 e3 e4
theorem osP_some {σ : HS} {i b p : Nat} (h : osP σ i b = some p) : hR σ 1 p 7 ≠ none ∧ ∃ j, j < 4 ∧ p = 4 * i + j := by
  unfold osP at h
  split at h
  · cases h
  · rename_i hx
    obtain ⟨j, hj, hv⟩ := small (N := 4) (by decide) (fun z => hx (Or.inl z)) (fun z => hx (Or.inr (by rw [nI4]; exact z)))
    rw [hv, nI_clamp (by omega)] at h
    split at h
    · cases h
    · rename_i x hr
      split at h
      · cases h
      · have h2 := Option.some.inj h
        subst h2
        exact ⟨by rw [hr]; simp, j, hj, rfl⟩
/-- one node is disciplined, if it can be -/
noncomputable def ssS (σ : HS) (i b : Nat) (t : Int64) : HS := match osP σ i b with
  | none => σ
  | some p => scS σ i (xO σ i p t 0 0) (xJ σ i p t 0 0)
noncomputable def ssV (σ : HS) (i b : Nat) (t : Int64) : Int32 := match osP σ i b with
  | none => 0
  | some p => scV (xO σ i p t 0 0)
theorem scV_01 (x : Int32) : scV x = 0 ∨ scV x = 1 := by
  unfold scV
  split
  · exact Or.inr rfl
  · exact Or.inl rfl
set_option maxHeartbeats 4000000 in
theorem ct_T_setsClock {l : Launch} (hl0 : l.stackTraces = false) {G : LG} {σ : HS} {i b : Nat} {t : Int64} {n L : Nat} (hT : TS σ n L) (hi : i < n) (hB : hR σ 2 i 3 = some (0 + 16 * b)) : Ct l G m_T_setsClock [.ref (5 + 16 * 0), .ref (2 + 16 * i), .long t] σ (qd (.inr (some (.int (ssV σ i b t)))) (ssS σ i b t)) := by
  refine Ct.of hl0 rfl rfl (Nat.le_of_ble_eq_true rfl) ?_
  show Ex l G m_T_setsClock (pmV G m_T_setsClock (qd (.inr (some (.int (ssV σ i b t)))) (ssS σ i b t))) 0 [(0, .ref (5 + 16 * 0)), (1, .ref (2 + 16 * i)), (2, .long (t))] [] (σ) 0 0
  have hct := ct_T_openSlaveOf (l := l) (G := G) hl0 hT hi hB
  cases hos : osP σ i b with
  | none =>
    refine e_aload_n d_T_setsClock_0 rfl rfl ?_
    refine e_callSd (v := some (.null)) (σ' := σ) (As := [.ref (2 + 16 * i)]) (st := []) 0 0 d_T_setsClock_1 cb_T_setsClock_144 is_T_openSlaveOf rfl (Nat.le_of_ble_eq_true rfl) (by decide) (by decide) ((by rw [hos] at hct; exact hct)) ?_
    show Ex l G m_T_setsClock (pmV G m_T_setsClock (qd (.inr (some (.int (ssV σ i b t)))) (ssS σ i b t))) 4 [(0, .ref (5 + 16 * 0)), (1, .ref (2 + 16 * i)), (2, .long (t))] [.null] (σ) 0 0
    refine e_astoreN (lv' := [(4, .null), (0, .ref (5 + 16 * 0)), (1, .ref (2 + 16 * i)), (2, .long (t))]) d_T_setsClock_4 (by decide) rfl ?_
    refine e_aloadN d_T_setsClock_6 rfl ?_
    refine e_ifnullN (tgt := 28) d_T_setsClock_8 (by decide) ?_
    refine e_iconst (v := 0) d_T_setsClock_28 (by decide) ?_
    exact e_zret d_T_setsClock_29 rfl (by first | exact Or.inl rfl | exact Or.inr rfl) ⟨by simp [ssV, hos], by simp [ssS, hos]⟩
  | some p =>
    obtain ⟨hne, j, hj, hpj⟩ := osP_some hos
    have hp : p < 4 * n := by omega
    refine e_aload_n d_T_setsClock_0 rfl rfl ?_
    refine e_callSd (v := some (.ref (1 + 16 * p))) (σ' := σ) (As := [.ref (2 + 16 * i)]) (st := []) 0 0 d_T_setsClock_1 cb_T_setsClock_144 is_T_openSlaveOf rfl (Nat.le_of_ble_eq_true rfl) (by decide) (by decide) ((by rw [hos] at hct; exact hct)) ?_
    show Ex l G m_T_setsClock (pmV G m_T_setsClock (qd (.inr (some (.int (ssV σ i b t)))) (ssS σ i b t))) 4 [(0, .ref (5 + 16 * 0)), (1, .ref (2 + 16 * i)), (2, .long (t))] [.ref (1 + 16 * p)] (σ) 0 0
    refine e_astore (lv' := [(4, .ref (1 + 16 * p)), (0, .ref (5 + 16 * 0)), (1, .ref (2 + 16 * i)), (2, .long (t))]) d_T_setsClock_4 (by decide) rfl ?_
    refine e_aload d_T_setsClock_6 rfl ?_
    refine e_ifnull d_T_setsClock_8 ?_
    refine e_aload_n d_T_setsClock_11 rfl rfl ?_
    refine e_aload_n d_T_setsClock_12 rfl rfl ?_
    refine e_aload d_T_setsClock_13 rfl ?_
    refine e_lload_n d_T_setsClock_15 rfl rfl ?_
    refine e_iconst (v := 0) d_T_setsClock_16 (by decide) ?_
    refine e_iconst (v := 0) d_T_setsClock_17 (by decide) ?_
    refine e_callVd (v := some (.int (scV (xO σ i p t 0 0)))) (σ' := scS σ i (xO σ i p t 0 0) (xJ σ i p t 0 0)) (q := 5) (a := 0) (As := [.ref (2 + 16 * i), .ref (1 + 16 * p), .long (t), .int (0), .int (0)]) (st := []) 0 0 d_T_setsClock_18 cb_T_setsClock_150 iv_T_setClock rfl ⟨by decide, rfl⟩ rfl (Nat.le_of_ble_eq_true rfl) (by decide) (by decide) (ct_T_setClock_p hl0 hT hp hne) ?_
    show Ex l G m_T_setsClock (pmV G m_T_setsClock (qd (.inr (some (.int (ssV σ i b t)))) (ssS σ i b t))) 21 [(4, .ref (1 + 16 * p)), (0, .ref (5 + 16 * 0)), (1, .ref (2 + 16 * i)), (2, .long (t))] [.int (scV (xO σ i p t 0 0))] (scS σ i (xO σ i p t 0 0) (xJ σ i p t 0 0)) 0 0
    refine e_ifeq (tgt := 28) d_T_setsClock_21 (by decide) (fun h21 => ?_) (fun h21 => ?_)
    ·
      refine e_iconst (v := 0) d_T_setsClock_28 (by decide) ?_
      exact e_zret d_T_setsClock_29 rfl (by first | exact Or.inl rfl | exact Or.inr rfl) ⟨by simp [ssV, hos, h21], by simp [ssS, hos]⟩
    ·
      refine e_iconst (v := 1) d_T_setsClock_24 (by decide) ?_
      refine e_goto (tgt := 29) d_T_setsClock_25 (by decide) ?_
      exact e_zret d_T_setsClock_29 rfl (by first | exact Or.inl rfl | exact Or.inr rfl) ⟨by simp [ssV, hos, (scV_01 _).resolve_left h21], by simp [ssS, hos]⟩
set_option maxHeartbeats 4000000 in
theorem ct_T_state_x {l : Launch} (hl0 : l.stackTraces = false) {G : LG} {σ : HS} {v u : Int32} (hx : v < 0 ∨ hI σ 5 0 3 ≤ v) : Ct l G m_T_state [.ref (5 + 16 * 0), .int (v), .int (u)] (σ) (qd (.inl 0) σ) := by
  refine Ct.of hl0 rfl rfl (Nat.le_of_ble_eq_true rfl) ?_
  show Ex l G m_T_state (pmV G m_T_state (qd (.inl 0) σ)) 0 [(0, .ref (5 + 16 * 0)), (1, .int (v)), (2, .int (u))] [] (σ) 2 12
  refine e_aload_n d_T_state_0 rfl rfl ?_
  refine e_iload_n d_T_state_1 rfl rfl ?_
  refine e_iload_n d_T_state_2 rfl rfl ?_
  exact e_callVt (q := 5) (a := 0) (As := [.int (v), .int (u)]) (st := []) 0 0 d_T_state_3 cb_T_state_81 iv_T_portAt rfl ⟨by decide, rfl⟩ rfl (Nat.le_of_ble_eq_true rfl) (by decide) (by decide) (ct_T_portAt_x hl0 hx) rfl ⟨rfl, rfl⟩
set_option maxHeartbeats 4000000 in
theorem ct_T_state_y {l : Launch} (hl0 : l.stackTraces = false) {G : LG} {σ : HS} {i : Nat} {u : Int32} {n L : Nat} (hT : TS σ n L) (hi : i < n) (hx : u < 0 ∨ 4 ≤ u) : Ct l G m_T_state [.ref (5 + 16 * 0), .int (nI i), .int (u)] (σ) (qd (.inl 0) σ) := by
  refine Ct.of hl0 rfl rfl (Nat.le_of_ble_eq_true rfl) ?_
  show Ex l G m_T_state (pmV G m_T_state (qd (.inl 0) σ)) 0 [(0, .ref (5 + 16 * 0)), (1, .int (nI i)), (2, .int (u))] [] (σ) 2 12
  refine e_aload_n d_T_state_0 rfl rfl ?_
  refine e_iload_n d_T_state_1 rfl rfl ?_
  refine e_iload_n d_T_state_2 rfl rfl ?_
  exact e_callVt (q := 5) (a := 0) (As := [.int (nI i), .int (u)]) (st := []) 0 0 d_T_state_3 cb_T_state_81 iv_T_portAt rfl ⟨by decide, rfl⟩ rfl (Nat.le_of_ble_eq_true rfl) (by decide) (by decide) (ct_T_portAt_y hl0 hT hi hx) rfl ⟨rfl, rfl⟩
set_option maxHeartbeats 4000000 in
theorem ct_T_kept_x {l : Launch} (hl0 : l.stackTraces = false) {G : LG} {σ : HS} {v u : Int32} (hx : v < 0 ∨ hI σ 5 0 3 ≤ v) : Ct l G m_T_kept [.ref (5 + 16 * 0), .int (v), .int (u)] (σ) (qd (.inl 0) σ) := by
  refine Ct.of hl0 rfl rfl (Nat.le_of_ble_eq_true rfl) ?_
  show Ex l G m_T_kept (pmV G m_T_kept (qd (.inl 0) σ)) 0 [(0, .ref (5 + 16 * 0)), (1, .int (v)), (2, .int (u))] [] (σ) 2 12
  refine e_aload_n d_T_kept_0 rfl rfl ?_
  refine e_iload_n d_T_kept_1 rfl rfl ?_
  refine e_iload_n d_T_kept_2 rfl rfl ?_
  exact e_callVt (q := 5) (a := 0) (As := [.int (v), .int (u)]) (st := []) 0 0 d_T_kept_3 cb_T_kept_81 iv_T_portAt rfl ⟨by decide, rfl⟩ rfl (Nat.le_of_ble_eq_true rfl) (by decide) (by decide) (ct_T_portAt_x hl0 hx) rfl ⟨rfl, rfl⟩
set_option maxHeartbeats 4000000 in
theorem ct_T_kept_y {l : Launch} (hl0 : l.stackTraces = false) {G : LG} {σ : HS} {i : Nat} {u : Int32} {n L : Nat} (hT : TS σ n L) (hi : i < n) (hx : u < 0 ∨ 4 ≤ u) : Ct l G m_T_kept [.ref (5 + 16 * 0), .int (nI i), .int (u)] (σ) (qd (.inl 0) σ) := by
  refine Ct.of hl0 rfl rfl (Nat.le_of_ble_eq_true rfl) ?_
  show Ex l G m_T_kept (pmV G m_T_kept (qd (.inl 0) σ)) 0 [(0, .ref (5 + 16 * 0)), (1, .int (nI i)), (2, .int (u))] [] (σ) 2 12
  refine e_aload_n d_T_kept_0 rfl rfl ?_
  refine e_iload_n d_T_kept_1 rfl rfl ?_
  refine e_iload_n d_T_kept_2 rfl rfl ?_
  exact e_callVt (q := 5) (a := 0) (As := [.int (nI i), .int (u)]) (st := []) 0 0 d_T_kept_3 cb_T_kept_81 iv_T_portAt rfl ⟨by decide, rfl⟩ rfl (Nat.le_of_ble_eq_true rfl) (by decide) (by decide) (ct_T_portAt_y hl0 hT hi hx) rfl ⟨rfl, rfl⟩
set_option maxHeartbeats 4000000 in
theorem ct_T_root_x {l : Launch} (hl0 : l.stackTraces = false) {G : LG} {σ : HS} {v : Int32} (hx : v < 0 ∨ hI σ 5 0 3 ≤ v) : Ct l G m_T_root [.ref (5 + 16 * 0), .int (v)] (σ) (qd (.inl 0) σ) := by
  refine Ct.of hl0 rfl rfl (Nat.le_of_ble_eq_true rfl) ?_
  show Ex l G m_T_root (pmV G m_T_root (qd (.inl 0) σ)) 0 [(0, .ref (5 + 16 * 0)), (1, .int (v))] [] (σ) 1 6
  refine e_aload_n d_T_root_0 rfl rfl ?_
  refine e_iload_n d_T_root_1 rfl rfl ?_
  exact e_callVt (q := 5) (a := 0) (As := [.int (v)]) (st := []) 0 0 d_T_root_2 cb_T_root_108 iv_T_nodeAt rfl ⟨by decide, rfl⟩ rfl (Nat.le_of_ble_eq_true rfl) (by decide) (by decide) (ct_T_nodeAt_x hl0 hx) rfl ⟨rfl, rfl⟩
set_option maxHeartbeats 4000000 in
theorem ct_T_steps_x {l : Launch} (hl0 : l.stackTraces = false) {G : LG} {σ : HS} {v : Int32} (hx : v < 0 ∨ hI σ 5 0 3 ≤ v) : Ct l G m_T_steps [.ref (5 + 16 * 0), .int (v)] (σ) (qd (.inl 0) σ) := by
  refine Ct.of hl0 rfl rfl (Nat.le_of_ble_eq_true rfl) ?_
  show Ex l G m_T_steps (pmV G m_T_steps (qd (.inl 0) σ)) 0 [(0, .ref (5 + 16 * 0)), (1, .int (v))] [] (σ) 1 6
  refine e_aload_n d_T_steps_0 rfl rfl ?_
  refine e_iload_n d_T_steps_1 rfl rfl ?_
  exact e_callVt (q := 5) (a := 0) (As := [.int (v)]) (st := []) 0 0 d_T_steps_2 cb_T_steps_108 iv_T_nodeAt rfl ⟨by decide, rfl⟩ rfl (Nat.le_of_ble_eq_true rfl) (by decide) (by decide) (ct_T_nodeAt_x hl0 hx) rfl ⟨rfl, rfl⟩
set_option maxHeartbeats 4000000 in
theorem ct_T_delay_x {l : Launch} (hl0 : l.stackTraces = false) {G : LG} {σ : HS} {v : Int32} (hx : v < 0 ∨ hI σ 5 0 3 ≤ v) : Ct l G m_T_delay [.ref (5 + 16 * 0), .int (v)] (σ) (qd (.inl 0) σ) := by
  refine Ct.of hl0 rfl rfl (Nat.le_of_ble_eq_true rfl) ?_
  show Ex l G m_T_delay (pmV G m_T_delay (qd (.inl 0) σ)) 0 [(0, .ref (5 + 16 * 0)), (1, .int (v))] [] (σ) 1 6
  refine e_aload_n d_T_delay_0 rfl rfl ?_
  refine e_iload_n d_T_delay_1 rfl rfl ?_
  exact e_callVt (q := 5) (a := 0) (As := [.int (v)]) (st := []) 0 0 d_T_delay_2 cb_T_delay_108 iv_T_nodeAt rfl ⟨by decide, rfl⟩ rfl (Nat.le_of_ble_eq_true rfl) (by decide) (by decide) (ct_T_nodeAt_x hl0 hx) rfl ⟨rfl, rfl⟩
set_option maxHeartbeats 4000000 in
theorem ct_T_offset_x {l : Launch} (hl0 : l.stackTraces = false) {G : LG} {σ : HS} {v : Int32} (hx : v < 0 ∨ hI σ 5 0 3 ≤ v) : Ct l G m_T_offset [.ref (5 + 16 * 0), .int (v)] (σ) (qd (.inl 0) σ) := by
  refine Ct.of hl0 rfl rfl (Nat.le_of_ble_eq_true rfl) ?_
  show Ex l G m_T_offset (pmV G m_T_offset (qd (.inl 0) σ)) 0 [(0, .ref (5 + 16 * 0)), (1, .int (v))] [] (σ) 1 6
  refine e_aload_n d_T_offset_0 rfl rfl ?_
  refine e_iload_n d_T_offset_1 rfl rfl ?_
  exact e_callVt (q := 5) (a := 0) (As := [.int (v)]) (st := []) 0 0 d_T_offset_2 cb_T_offset_108 iv_T_nodeAt rfl ⟨by decide, rfl⟩ rfl (Nat.le_of_ble_eq_true rfl) (by decide) (by decide) (ct_T_nodeAt_x hl0 hx) rfl ⟨rfl, rfl⟩
set_option maxHeartbeats 4000000 in
theorem ct_T_state {l : Launch} (hl0 : l.stackTraces = false) {G : LG} {σ : HS} {i j : Nat} {n L : Nat} (hT : TS σ n L) (hi : i < n) (hj : j < 4) : Ct l G m_T_state [.ref (5 + 16 * 0), .int (nI i), .int (nI j)] (σ) (qd (.inr (some (.int (hI σ 1 (4 * i + j) 6)))) σ) := by
  refine Ct.of hl0 rfl rfl (Nat.le_of_ble_eq_true rfl) ?_
  show Ex l G m_T_state (pmV G m_T_state (qd (.inr (some (.int (hI σ 1 (4 * i + j) 6)))) σ)) 0 [(0, .ref (5 + 16 * 0)), (1, .int (nI i)), (2, .int (nI j))] [] (σ) 2 12
  refine e_aload_n d_T_state_0 rfl rfl ?_
  refine e_iload_n d_T_state_1 rfl rfl ?_
  refine e_iload_n d_T_state_2 rfl rfl ?_
  refine e_callVd (v := some (.ref (1 + 16 * (4 * i + j)))) (σ' := σ) (q := 5) (a := 0) (As := [.int (nI i), .int (nI j)]) (st := []) 0 0 d_T_state_3 cb_T_state_81 iv_T_portAt rfl ⟨by decide, rfl⟩ rfl (Nat.le_of_ble_eq_true rfl) (by decide) (by decide) (ct_T_portAt hl0 hT hi hj) ?_
  show Ex l G m_T_state (pmV G m_T_state (qd (.inr (some (.int (hI σ 1 (4 * i + j) 6)))) σ)) 6 [(0, .ref (5 + 16 * 0)), (1, .int (nI i)), (2, .int (nI j))] [.ref (1 + 16 * (4 * i + j))] (σ) 0 0
  refine g_T_123 rfl d_T_state_6 ?_
  exact e_iret d_T_state_9 rfl ⟨rfl, rfl⟩
def kpV (σ : HS) (p c : Nat) : Int32 := if hI σ 1 p 4 = 0 then -1 else 10000 * hI σ 0 c 4 + hI σ 0 c 3
set_option maxHeartbeats 4000000 in
theorem ct_T_kept {l : Launch} (hl0 : l.stackTraces = false) {G : LG} {σ : HS} {i j : Nat} {n L : Nat} (hT : TS σ n L) (hi : i < n) (hj : j < 4) : Ct l G m_T_kept [.ref (5 + 16 * 0), .int (nI i), .int (nI j)] (σ) (qd (.inr (some (.int (kpV σ (4 * i + j) (9 * i + 1 + 2 * j))))) σ) := by
  refine Ct.of hl0 rfl rfl (Nat.le_of_ble_eq_true rfl) ?_
  show Ex l G m_T_kept (pmV G m_T_kept (qd (.inr (some (.int (kpV σ (4 * i + j) (9 * i + 1 + 2 * j))))) σ)) 0 [(0, .ref (5 + 16 * 0)), (1, .int (nI i)), (2, .int (nI j))] [] (σ) 2 12
  refine e_aload_n d_T_kept_0 rfl rfl ?_
  refine e_iload_n d_T_kept_1 rfl rfl ?_
  refine e_iload_n d_T_kept_2 rfl rfl ?_
  refine e_callVd (v := some (.ref (1 + 16 * (4 * i + j)))) (σ' := σ) (q := 5) (a := 0) (As := [.int (nI i), .int (nI j)]) (st := []) 0 0 d_T_kept_3 cb_T_kept_81 iv_T_portAt rfl ⟨by decide, rfl⟩ rfl (Nat.le_of_ble_eq_true rfl) (by decide) (by decide) (ct_T_portAt hl0 hT hi hj) ?_
  show Ex l G m_T_kept (pmV G m_T_kept (qd (.inr (some (.int (kpV σ (4 * i + j) (9 * i + 1 + 2 * j))))) σ)) 6 [(0, .ref (5 + 16 * 0)), (1, .int (nI i)), (2, .int (nI j))] [.ref (1 + 16 * (4 * i + j))] (σ) 0 0
  refine e_astore_n (lv' := [(3, .ref (1 + 16 * (4 * i + j))), (0, .ref (5 + 16 * 0)), (1, .int (nI i)), (2, .int (nI j))]) d_T_kept_6 rfl (by decide) rfl ?_
  refine e_aload_n d_T_kept_7 rfl rfl ?_
  refine g_T_135 rfl d_T_kept_8 ?_
  refine e_ifne (tgt := 16) d_T_kept_11 (by decide) (fun h11 => ?_) (fun h11 => ?_)
  ·
    refine e_sipush (v := 10000) d_T_kept_16 (by decide) ?_
    refine e_aload_n d_T_kept_19 rfl rfl ?_
    refine g_T_138 (b := 0 + 16 * (9 * i + 1 + 2 * j)) rfl d_T_kept_20 ((hT.2.2.2.1 i hi).2.2.2.2 j hj).2.1 ?_
    refine g_T_132 rfl d_T_kept_23 ?_
    refine e_imul d_T_kept_26 ?_
    refine e_aload_n d_T_kept_27 rfl rfl ?_
    refine g_T_138 (b := 0 + 16 * (9 * i + 1 + 2 * j)) rfl d_T_kept_28 ((hT.2.2.2.1 i hi).2.2.2.2 j hj).2.1 ?_
    refine g_T_129 rfl d_T_kept_31 ?_
    refine e_iadd d_T_kept_34 ?_
    exact e_iret d_T_kept_35 rfl ⟨(by simp [kpV, h11]), rfl⟩
  ·
    refine e_iconst (v := -1) d_T_kept_14 (by decide) ?_
    exact e_iret d_T_kept_15 rfl ⟨(by simp [kpV, h11]), rfl⟩
set_option maxHeartbeats 4000000 in
theorem ct_T_root {l : Launch} (hl0 : l.stackTraces = false) {G : LG} {σ : HS} {i b : Nat} {n L : Nat} (hT : TS σ n L) (hi : i < n) (hB : hR σ 2 i 3 = some (0 + 16 * b)) : Ct l G m_T_root [.ref (5 + 16 * 0), .int (nI i)] (σ) (qd (.inr (some (.int (hI σ 0 b 3)))) σ) := by
  refine Ct.of hl0 rfl rfl (Nat.le_of_ble_eq_true rfl) ?_
  show Ex l G m_T_root (pmV G m_T_root (qd (.inr (some (.int (hI σ 0 b 3)))) σ)) 0 [(0, .ref (5 + 16 * 0)), (1, .int (nI i))] [] (σ) 1 6
  refine e_aload_n d_T_root_0 rfl rfl ?_
  refine e_iload_n d_T_root_1 rfl rfl ?_
  refine e_callVd (v := some (.ref (2 + 16 * i))) (σ' := σ) (q := 5) (a := 0) (As := [.int (nI i)]) (st := []) 0 0 d_T_root_2 cb_T_root_108 iv_T_nodeAt rfl ⟨by decide, rfl⟩ rfl (Nat.le_of_ble_eq_true rfl) (by decide) (by decide) (ct_T_nodeAt hl0 hT hi) ?_
  show Ex l G m_T_root (pmV G m_T_root (qd (.inr (some (.int (hI σ 0 b 3)))) σ)) 5 [(0, .ref (5 + 16 * 0)), (1, .int (nI i))] [.ref (2 + 16 * i)] (σ) 0 0
  refine g_T_126 (b := 0 + 16 * b) rfl d_T_root_5 hB ?_
  refine g_T_129 rfl d_T_root_8 ?_
  exact e_iret d_T_root_11 rfl ⟨rfl, rfl⟩
set_option maxHeartbeats 4000000 in
theorem ct_T_steps {l : Launch} (hl0 : l.stackTraces = false) {G : LG} {σ : HS} {i b : Nat} {n L : Nat} (hT : TS σ n L) (hi : i < n) (hB : hR σ 2 i 3 = some (0 + 16 * b)) : Ct l G m_T_steps [.ref (5 + 16 * 0), .int (nI i)] (σ) (qd (.inr (some (.int (hI σ 0 b 4)))) σ) := by
  refine Ct.of hl0 rfl rfl (Nat.le_of_ble_eq_true rfl) ?_
  show Ex l G m_T_steps (pmV G m_T_steps (qd (.inr (some (.int (hI σ 0 b 4)))) σ)) 0 [(0, .ref (5 + 16 * 0)), (1, .int (nI i))] [] (σ) 1 6
  refine e_aload_n d_T_steps_0 rfl rfl ?_
  refine e_iload_n d_T_steps_1 rfl rfl ?_
  refine e_callVd (v := some (.ref (2 + 16 * i))) (σ' := σ) (q := 5) (a := 0) (As := [.int (nI i)]) (st := []) 0 0 d_T_steps_2 cb_T_steps_108 iv_T_nodeAt rfl ⟨by decide, rfl⟩ rfl (Nat.le_of_ble_eq_true rfl) (by decide) (by decide) (ct_T_nodeAt hl0 hT hi) ?_
  show Ex l G m_T_steps (pmV G m_T_steps (qd (.inr (some (.int (hI σ 0 b 4)))) σ)) 5 [(0, .ref (5 + 16 * 0)), (1, .int (nI i))] [.ref (2 + 16 * i)] (σ) 0 0
  refine g_T_126 (b := 0 + 16 * b) rfl d_T_steps_5 hB ?_
  refine g_T_132 rfl d_T_steps_8 ?_
  exact e_iret d_T_steps_11 rfl ⟨rfl, rfl⟩
set_option maxHeartbeats 4000000 in
theorem ct_T_delay {l : Launch} (hl0 : l.stackTraces = false) {G : LG} {σ : HS} {i : Nat} {n L : Nat} (hT : TS σ n L) (hi : i < n) : Ct l G m_T_delay [.ref (5 + 16 * 0), .int (nI i)] (σ) (qd (.inr (some (.long (hJ σ 2 i 5)))) σ) := by
  refine Ct.of hl0 rfl rfl (Nat.le_of_ble_eq_true rfl) ?_
  show Ex l G m_T_delay (pmV G m_T_delay (qd (.inr (some (.long (hJ σ 2 i 5)))) σ)) 0 [(0, .ref (5 + 16 * 0)), (1, .int (nI i))] [] (σ) 1 6
  refine e_aload_n d_T_delay_0 rfl rfl ?_
  refine e_iload_n d_T_delay_1 rfl rfl ?_
  refine e_callVd (v := some (.ref (2 + 16 * i))) (σ' := σ) (q := 5) (a := 0) (As := [.int (nI i)]) (st := []) 0 0 d_T_delay_2 cb_T_delay_108 iv_T_nodeAt rfl ⟨by decide, rfl⟩ rfl (Nat.le_of_ble_eq_true rfl) (by decide) (by decide) (ct_T_nodeAt hl0 hT hi) ?_
  show Ex l G m_T_delay (pmV G m_T_delay (qd (.inr (some (.long (hJ σ 2 i 5)))) σ)) 5 [(0, .ref (5 + 16 * 0)), (1, .int (nI i))] [.ref (2 + 16 * i)] (σ) 0 0
  refine g_T_163 rfl d_T_delay_5 ?_
  exact e_lret d_T_delay_8 rfl ⟨rfl, rfl⟩
set_option maxHeartbeats 4000000 in
theorem ct_T_offset {l : Launch} (hl0 : l.stackTraces = false) {G : LG} {σ : HS} {i : Nat} {n L : Nat} (hT : TS σ n L) (hi : i < n) : Ct l G m_T_offset [.ref (5 + 16 * 0), .int (nI i)] (σ) (qd (.inr (some (.long (hJ σ 2 i 4)))) σ) := by
  refine Ct.of hl0 rfl rfl (Nat.le_of_ble_eq_true rfl) ?_
  show Ex l G m_T_offset (pmV G m_T_offset (qd (.inr (some (.long (hJ σ 2 i 4)))) σ)) 0 [(0, .ref (5 + 16 * 0)), (1, .int (nI i))] [] (σ) 1 6
  refine e_aload_n d_T_offset_0 rfl rfl ?_
  refine e_iload_n d_T_offset_1 rfl rfl ?_
  refine e_callVd (v := some (.ref (2 + 16 * i))) (σ' := σ) (q := 5) (a := 0) (As := [.int (nI i)]) (st := []) 0 0 d_T_offset_2 cb_T_offset_108 iv_T_nodeAt rfl ⟨by decide, rfl⟩ rfl (Nat.le_of_ble_eq_true rfl) (by decide) (by decide) (ct_T_nodeAt hl0 hT hi) ?_
  show Ex l G m_T_offset (pmV G m_T_offset (qd (.inr (some (.long (hJ σ 2 i 4)))) σ)) 5 [(0, .ref (5 + 16 * 0)), (1, .int (nI i))] [.ref (2 + 16 * i)] (σ) 0 0
  refine g_T_166 rfl d_T_offset_5 ?_
  exact e_lret d_T_offset_8 rfl ⟨rfl, rfl⟩
set_option maxHeartbeats 4000000 in
theorem ct_T_up_x {l : Launch} (hl0 : l.stackTraces = false) {G : LG} {σ : HS} {v z : Int32} (hx : v < 0 ∨ hI σ 5 0 4 ≤ v) : Ct l G m_T_up [.ref (5 + 16 * 0), .int (v), .int (z)] (σ) (qd (.inl 0) σ) := by
  refine Ct.of hl0 rfl rfl (Nat.le_of_ble_eq_true rfl) ?_
  show Ex l G m_T_up (pmV G m_T_up (qd (.inl 0) σ)) 0 [(0, .ref (5 + 16 * 0)), (1, .int (v)), (2, .int (z))] [] (σ) 1 6
  refine e_iload_n d_T_up_0 rfl rfl ?_
  refine e_iflt (tgt := 12) d_T_up_1 (by decide) (fun h1 => ?_) (fun h1 => ?_)
  ·
    exact e_iae rfl d_T_up_12 d_T_up_15 d_T_up_16 d_T_up_18 d_T_up_21 (by decide +kernel) ⟨by decide, Nat.le_of_ble_eq_true rfl⟩ ⟨by decide, by decide⟩ rfl ⟨rfl, rfl⟩
  ·
    refine e_iload_n d_T_up_4 rfl rfl ?_
    refine e_aload_n d_T_up_5 rfl rfl ?_
    refine g_T_32 rfl d_T_up_6 ?_
    refine e_icmplt (tgt := 22) d_T_up_9 (by decide) (fun h9 => absurd h9 (Int32.not_lt.mpr (hx.resolve_left h1))) (fun h9 => ?_)
    exact e_iae rfl d_T_up_12 d_T_up_15 d_T_up_16 d_T_up_18 d_T_up_21 (by decide +kernel) ⟨by decide, Nat.le_of_ble_eq_true rfl⟩ ⟨by decide, by decide⟩ rfl ⟨rfl, rfl⟩
set_option maxHeartbeats 4000000 in
theorem ct_T_up {l : Launch} (hl0 : l.stackTraces = false) {G : LG} {σ : HS} {k : Nat} {z : Int32} {n L : Nat} (hT : TS σ n L) (hk : k < L) (hz : z = 0 ∨ z = 1) : Ct l G m_T_up [.ref (5 + 16 * 0), .int (nI k), .int (z)] (σ) (qd (.inr none) (sI σ 3 k 4 z)) := by
  refine Ct.of hl0 rfl rfl (Nat.le_of_ble_eq_true rfl) ?_
  show Ex l G m_T_up (pmV G m_T_up (qd (.inr none) (sI σ 3 k 4 z))) 0 [(0, .ref (5 + 16 * 0)), (1, .int (nI k)), (2, .int (z))] [] (σ) 1 6
  have hL16 := hT.2.2.1.2.2.2
  refine e_iload_n d_T_up_0 rfl rfl ?_
  refine e_iflt (tgt := 12) d_T_up_1 (by decide) (fun h1 => absurd h1 (nI_pos (by omega))) (fun h1 => ?_)
  refine e_iload_n d_T_up_4 rfl rfl ?_
  refine e_aload_n d_T_up_5 rfl rfl ?_
  refine g_T_32 rfl d_T_up_6 ?_
  refine e_icmplt (tgt := 22) d_T_up_9 (by decide) (fun h9 => ?_) (fun h9 => absurd (by rw [hT.2.2.1.2.1]; exact nI_lt hk (by omega)) h9)
  refine e_aload_n d_T_up_22 rfl rfl ?_
  refine g_T_17 (b := 11 + 16 * 0) rfl d_T_up_23 hT.1.2.1 ?_
  refine e_iload_n d_T_up_26 rfl rfl ?_
  refine e_aald (b := 3 + 16 * k) (C := _) d_T_up_27 ⟨by decide, by decide⟩ rfl (by rw [hT.2.1.2]; exact nI_in (by omega) (by decide)) (by rw [nI_clamp (by omega)]; exact (hT.2.2.2.2.2.1 k hk).1) ?_
  refine e_iload_n d_T_up_28 rfl rfl ?_
  refine p_T_105 hz rfl d_T_up_29 ?_
  exact e_vret d_T_up_32 rfl ⟨rfl, rfl⟩
set_option maxHeartbeats 4000000 in
theorem ct_T_priority_x {l : Launch} (hl0 : l.stackTraces = false) {G : LG} {σ : HS} {v u : Int32} (hx : v < 0 ∨ hI σ 5 0 3 ≤ v) : Ct l G m_T_priority [.ref (5 + 16 * 0), .int (v), .int (u)] (σ) (qd (.inl 0) σ) := by
  refine Ct.of hl0 rfl rfl (Nat.le_of_ble_eq_true rfl) ?_
  show Ex l G m_T_priority (pmV G m_T_priority (qd (.inl 0) σ)) 0 [(0, .ref (5 + 16 * 0)), (1, .int (v)), (2, .int (u))] [] (σ) 2 12
  refine e_aload_n d_T_priority_0 rfl rfl ?_
  refine e_iload_n d_T_priority_1 rfl rfl ?_
  exact e_callVt (q := 5) (a := 0) (As := [.int (v)]) (st := []) 1 6 d_T_priority_2 cb_T_priority_108 iv_T_nodeAt rfl ⟨by decide, rfl⟩ rfl (Nat.le_of_ble_eq_true rfl) (by decide) (by decide) (ct_T_nodeAt_x hl0 hx) rfl ⟨rfl, rfl⟩
set_option maxHeartbeats 4000000 in
theorem ct_T_priority_y {l : Launch} (hl0 : l.stackTraces = false) {G : LG} {σ : HS} {i : Nat} {u : Int32} {n L : Nat} (hT : TS σ n L) (hi : i < n) (hx : wiV u 255 = 0) : Ct l G m_T_priority [.ref (5 + 16 * 0), .int (nI i), .int (u)] (σ) (qd (.inl 0) σ) := by
  refine Ct.of hl0 rfl rfl (Nat.le_of_ble_eq_true rfl) ?_
  show Ex l G m_T_priority (pmV G m_T_priority (qd (.inl 0) σ)) 0 [(0, .ref (5 + 16 * 0)), (1, .int (nI i)), (2, .int (u))] [] (σ) 2 12
  refine e_aload_n d_T_priority_0 rfl rfl ?_
  refine e_iload_n d_T_priority_1 rfl rfl ?_
  refine e_callVd (v := some (.ref (2 + 16 * i))) (σ' := σ) (q := 5) (a := 0) (As := [.int (nI i)]) (st := []) 1 6 d_T_priority_2 cb_T_priority_108 iv_T_nodeAt rfl ⟨by decide, rfl⟩ rfl (Nat.le_of_ble_eq_true rfl) (by decide) (by decide) (ct_T_nodeAt hl0 hT hi) ?_
  show Ex l G m_T_priority (pmV G m_T_priority (qd (.inl 0) σ)) 5 [(0, .ref (5 + 16 * 0)), (1, .int (nI i)), (2, .int (u))] [.ref (2 + 16 * i)] (σ) 1 6
  refine e_astore_n (lv' := [(3, .ref (2 + 16 * i)), (0, .ref (5 + 16 * 0)), (1, .int (nI i)), (2, .int (u))]) d_T_priority_5 rfl (by decide) rfl ?_
  refine e_iload_n d_T_priority_6 rfl rfl ?_
  refine e_sipush (v := 255) d_T_priority_7 (by decide) ?_
  refine e_callSd (v := some (.int (wiV (u) (255)))) (σ' := σ) (As := [.int (u), .int (255)]) (st := []) 1 6 d_T_priority_10 cb_T_priority_39 is_T_isWithin rfl (Nat.le_of_ble_eq_true rfl) (by decide) (by decide) (ct_T_isWithin hl0) ?_
  show Ex l G m_T_priority (pmV G m_T_priority (qd (.inl 0) σ)) 13 [(3, .ref (2 + 16 * i)), (0, .ref (5 + 16 * 0)), (1, .int (nI i)), (2, .int (u))] [.int (wiV (u) (255))] (σ) 1 6
  refine e_ifne (tgt := 26) d_T_priority_13 (by decide) (fun h13 => absurd h13 (fun z => z hx)) (fun h13 => ?_)
  exact e_iae rfl d_T_priority_16 d_T_priority_19 d_T_priority_20 d_T_priority_22 d_T_priority_25 (by decide +kernel) ⟨by decide, Nat.le_of_ble_eq_true rfl⟩ ⟨by decide, by decide⟩ rfl ⟨rfl, rfl⟩
set_option maxHeartbeats 4000000 in
theorem ct_T_priority {l : Launch} (hl0 : l.stackTraces = false) {G : LG} {σ : HS} {i : Nat} {u : Int32} {n L : Nat} (hT : TS σ n L) (hi : i < n) (hx : ¬ wiV u 255 = 0) : Ct l G m_T_priority [.ref (5 + 16 * 0), .int (nI i), .int (u)] (σ) (qd (.inr none) (fsS (sI σ 0 (9 * i) 0 u) i 4)) := by
  refine Ct.of hl0 rfl rfl (Nat.le_of_ble_eq_true rfl) ?_
  show Ex l G m_T_priority (pmV G m_T_priority (qd (.inr none) (fsS (sI σ 0 (9 * i) 0 u) i 4))) 0 [(0, .ref (5 + 16 * 0)), (1, .int (nI i)), (2, .int (u))] [] (σ) 2 12
  refine e_aload_n d_T_priority_0 rfl rfl ?_
  refine e_iload_n d_T_priority_1 rfl rfl ?_
  refine e_callVd (v := some (.ref (2 + 16 * i))) (σ' := σ) (q := 5) (a := 0) (As := [.int (nI i)]) (st := []) 1 6 d_T_priority_2 cb_T_priority_108 iv_T_nodeAt rfl ⟨by decide, rfl⟩ rfl (Nat.le_of_ble_eq_true rfl) (by decide) (by decide) (ct_T_nodeAt hl0 hT hi) ?_
  show Ex l G m_T_priority (pmV G m_T_priority (qd (.inr none) (fsS (sI σ 0 (9 * i) 0 u) i 4))) 5 [(0, .ref (5 + 16 * 0)), (1, .int (nI i)), (2, .int (u))] [.ref (2 + 16 * i)] (σ) 1 6
  refine e_astore_n (lv' := [(3, .ref (2 + 16 * i)), (0, .ref (5 + 16 * 0)), (1, .int (nI i)), (2, .int (u))]) d_T_priority_5 rfl (by decide) rfl ?_
  refine e_iload_n d_T_priority_6 rfl rfl ?_
  refine e_sipush (v := 255) d_T_priority_7 (by decide) ?_
  refine e_callSd (v := some (.int (wiV (u) (255)))) (σ' := σ) (As := [.int (u), .int (255)]) (st := []) 1 6 d_T_priority_10 cb_T_priority_39 is_T_isWithin rfl (Nat.le_of_ble_eq_true rfl) (by decide) (by decide) (ct_T_isWithin hl0) ?_
  show Ex l G m_T_priority (pmV G m_T_priority (qd (.inr none) (fsS (sI σ 0 (9 * i) 0 u) i 4))) 13 [(3, .ref (2 + 16 * i)), (0, .ref (5 + 16 * 0)), (1, .int (nI i)), (2, .int (u))] [.int (wiV (u) (255))] (σ) 1 6
  refine e_ifne (tgt := 26) d_T_priority_13 (by decide) (fun h13 => ?_) (fun h13 => absurd h13 hx)
  refine e_aload_n d_T_priority_26 rfl rfl ?_
  refine g_T_64 (b := 0 + 16 * (9 * i)) rfl d_T_priority_27 (hT.2.2.2.1 i hi).2.1 ?_
  refine e_iload_n d_T_priority_30 rfl rfl ?_
  refine p_T_114 rfl d_T_priority_31 ?_
  refine e_aload_n d_T_priority_34 rfl rfl ?_
  refine e_callVd (v := some (.int (fsC (sI σ 0 (9 * i) 0 u) i 4))) (σ' := fsS (sI σ 0 (9 * i) 0 u) i 4) (q := 2) (a := i) (As := []) (st := []) 1 6 d_T_priority_35 cb_T_priority_74 iv_N_findStates rfl ⟨by decide, rfl⟩ rfl (Nat.le_of_ble_eq_true rfl) (by decide) (by decide) (ct_N_findStates hl0 (hT.2.2.2.1 i hi).2 (fun j hj => (hT.2.2.2.2.1 (4 * i + j) (by omega)).imp id (fun ⟨k, _, h⟩ => ⟨k, h⟩))) ?_
  show Ex l G m_T_priority (pmV G m_T_priority (qd (.inr none) (fsS (sI σ 0 (9 * i) 0 u) i 4))) 38 [(3, .ref (2 + 16 * i)), (0, .ref (5 + 16 * 0)), (1, .int (nI i)), (2, .int (u))] [.int (fsC (sI σ 0 (9 * i) 0 u) i 4)] (fsS (sI σ 0 (9 * i) 0 u) i 4) 1 6
  refine e_pop d_T_priority_38 rfl ?_
  exact e_vret d_T_priority_39 rfl ⟨rfl, rfl⟩
set_option maxHeartbeats 4000000 in
theorem ct_T_exchange_x {l : Launch} (hl0 : l.stackTraces = false) {G : LG} {σ : HS} {v : Int32} {t : Int64} {r u : Int32} (hx : v < 0 ∨ hI σ 5 0 3 ≤ v) : Ct l G m_T_exchange [.ref (5 + 16 * 0), .int (v), .long (t), .int (r), .int (u)] (σ) (qd (.inl 0) σ) := by
  refine Ct.of hl0 rfl rfl (Nat.le_of_ble_eq_true rfl) ?_
  show Ex l G m_T_exchange (pmV G m_T_exchange (qd (.inl 0) σ)) 0 [(0, .ref (5 + 16 * 0)), (1, .int (v)), (2, .long (t)), (4, .int (r)), (5, .int (u))] [] (σ) 2 12
  refine e_aload_n d_T_exchange_0 rfl rfl ?_
  refine e_iload_n d_T_exchange_1 rfl rfl ?_
  exact e_callVt (q := 5) (a := 0) (As := [.int (v)]) (st := []) 1 6 d_T_exchange_2 cb_T_exchange_108 iv_T_nodeAt rfl ⟨by decide, rfl⟩ rfl (Nat.le_of_ble_eq_true rfl) (by decide) (by decide) (ct_T_nodeAt_x hl0 hx) rfl ⟨rfl, rfl⟩
set_option maxHeartbeats 4000000 in
theorem ct_T_exchange_y {l : Launch} (hl0 : l.stackTraces = false) {G : LG} {σ : HS} {i b : Nat} {t : Int64} {r u : Int32} {n L : Nat} (hT : TS σ n L) (hi : i < n) (hx : wiV r 1000000 = 0 ∨ wiV u 1000000 = 0) : Ct l G m_T_exchange [.ref (5 + 16 * 0), .int (nI i), .long (t), .int (r), .int (u)] (σ) (qd (.inl 0) σ) := by
  refine Ct.of hl0 rfl rfl (Nat.le_of_ble_eq_true rfl) ?_
  show Ex l G m_T_exchange (pmV G m_T_exchange (qd (.inl 0) σ)) 0 [(0, .ref (5 + 16 * 0)), (1, .int (nI i)), (2, .long (t)), (4, .int (r)), (5, .int (u))] [] (σ) 2 12
  refine e_aload_n d_T_exchange_0 rfl rfl ?_
  refine e_iload_n d_T_exchange_1 rfl rfl ?_
  refine e_callVd (v := some (.ref (2 + 16 * i))) (σ' := σ) (q := 5) (a := 0) (As := [.int (nI i)]) (st := []) 1 6 d_T_exchange_2 cb_T_exchange_108 iv_T_nodeAt rfl ⟨by decide, rfl⟩ rfl (Nat.le_of_ble_eq_true rfl) (by decide) (by decide) (ct_T_nodeAt hl0 hT hi) ?_
  show Ex l G m_T_exchange (pmV G m_T_exchange (qd (.inl 0) σ)) 5 [(0, .ref (5 + 16 * 0)), (1, .int (nI i)), (2, .long (t)), (4, .int (r)), (5, .int (u))] [.ref (2 + 16 * i)] (σ) 1 6
  refine e_astore (lv' := [(6, .ref (2 + 16 * i)), (0, .ref (5 + 16 * 0)), (1, .int (nI i)), (2, .long (t)), (4, .int (r)), (5, .int (u))]) d_T_exchange_5 (by decide) rfl ?_
  refine e_iload d_T_exchange_7 rfl ?_
  refine e_ldc (v := 1000000) d_T_exchange_9 kc_T_141 ?_
  refine e_callSd (v := some (.int (wiV (r) (1000000)))) (σ' := σ) (As := [.int (r), .int (1000000)]) (st := []) 1 6 d_T_exchange_11 cb_T_exchange_39 is_T_isWithin rfl (Nat.le_of_ble_eq_true rfl) (by decide) (by decide) (ct_T_isWithin hl0) ?_
  show Ex l G m_T_exchange (pmV G m_T_exchange (qd (.inl 0) σ)) 14 [(6, .ref (2 + 16 * i)), (0, .ref (5 + 16 * 0)), (1, .int (nI i)), (2, .long (t)), (4, .int (r)), (5, .int (u))] [.int (wiV (r) (1000000))] (σ) 1 6
  refine e_ifeq (tgt := 27) d_T_exchange_14 (by decide) (fun h14 => ?_) (fun h14 => ?_)
  ·
    exact e_iae rfl d_T_exchange_27 d_T_exchange_30 d_T_exchange_31 d_T_exchange_33 d_T_exchange_36 (by decide +kernel) ⟨by decide, Nat.le_of_ble_eq_true rfl⟩ ⟨by decide, by decide⟩ rfl ⟨rfl, rfl⟩
  ·
    refine e_iload d_T_exchange_17 rfl ?_
    refine e_ldc (v := 1000000) d_T_exchange_19 kc_T_141 ?_
    refine e_callSd (v := some (.int (wiV (u) (1000000)))) (σ' := σ) (As := [.int (u), .int (1000000)]) (st := []) 1 6 d_T_exchange_21 cb_T_exchange_39 is_T_isWithin rfl (Nat.le_of_ble_eq_true rfl) (by decide) (by decide) (ct_T_isWithin hl0) ?_
    show Ex l G m_T_exchange (pmV G m_T_exchange (qd (.inl 0) σ)) 24 [(6, .ref (2 + 16 * i)), (0, .ref (5 + 16 * 0)), (1, .int (nI i)), (2, .long (t)), (4, .int (r)), (5, .int (u))] [.int (wiV (u) (1000000))] (σ) 1 6
    refine e_ifne (tgt := 37) d_T_exchange_24 (by decide) (fun h24 => absurd h24 (fun z => z (hx.resolve_left h14))) (fun h24 => ?_)
    exact e_iae rfl d_T_exchange_27 d_T_exchange_30 d_T_exchange_31 d_T_exchange_33 d_T_exchange_36 (by decide +kernel) ⟨by decide, Nat.le_of_ble_eq_true rfl⟩ ⟨by decide, by decide⟩ rfl ⟨rfl, rfl⟩
set_option maxHeartbeats 4000000 in
theorem ct_T_exchange_n {l : Launch} (hl0 : l.stackTraces = false) {G : LG} {σ : HS} {i b : Nat} {t : Int64} {r u : Int32} {n L : Nat} (hT : TS σ n L) (hi : i < n)  (hx1 : ¬ wiV r 1000000 = 0) (hx2 : ¬ wiV u 1000000 = 0) (hB : hR σ 2 i 3 = some (0 + 16 * b)) (hos : osP σ i b = none) : Ct l G m_T_exchange [.ref (5 + 16 * 0), .int (nI i), .long (t), .int (r), .int (u)] (σ) (qd (.inl 1) σ) := by
  refine Ct.of hl0 rfl rfl (Nat.le_of_ble_eq_true rfl) ?_
  show Ex l G m_T_exchange (pmV G m_T_exchange (qd (.inl 1) σ)) 0 [(0, .ref (5 + 16 * 0)), (1, .int (nI i)), (2, .long (t)), (4, .int (r)), (5, .int (u))] [] (σ) 2 12
  refine e_aload_n d_T_exchange_0 rfl rfl ?_
  refine e_iload_n d_T_exchange_1 rfl rfl ?_
  refine e_callVd (v := some (.ref (2 + 16 * i))) (σ' := σ) (q := 5) (a := 0) (As := [.int (nI i)]) (st := []) 1 6 d_T_exchange_2 cb_T_exchange_108 iv_T_nodeAt rfl ⟨by decide, rfl⟩ rfl (Nat.le_of_ble_eq_true rfl) (by decide) (by decide) (ct_T_nodeAt hl0 hT hi) ?_
  show Ex l G m_T_exchange (pmV G m_T_exchange (qd (.inl 1) σ)) 5 [(0, .ref (5 + 16 * 0)), (1, .int (nI i)), (2, .long (t)), (4, .int (r)), (5, .int (u))] [.ref (2 + 16 * i)] (σ) 1 6
  refine e_astore (lv' := [(6, .ref (2 + 16 * i)), (0, .ref (5 + 16 * 0)), (1, .int (nI i)), (2, .long (t)), (4, .int (r)), (5, .int (u))]) d_T_exchange_5 (by decide) rfl ?_
  refine e_iload d_T_exchange_7 rfl ?_
  refine e_ldc (v := 1000000) d_T_exchange_9 kc_T_141 ?_
  refine e_callSd (v := some (.int (wiV (r) (1000000)))) (σ' := σ) (As := [.int (r), .int (1000000)]) (st := []) 1 6 d_T_exchange_11 cb_T_exchange_39 is_T_isWithin rfl (Nat.le_of_ble_eq_true rfl) (by decide) (by decide) (ct_T_isWithin hl0) ?_
  show Ex l G m_T_exchange (pmV G m_T_exchange (qd (.inl 1) σ)) 14 [(6, .ref (2 + 16 * i)), (0, .ref (5 + 16 * 0)), (1, .int (nI i)), (2, .long (t)), (4, .int (r)), (5, .int (u))] [.int (wiV (r) (1000000))] (σ) 1 6
  refine e_ifeq (tgt := 27) d_T_exchange_14 (by decide) (fun h14 => absurd h14 hx1) (fun h14 => ?_)
  refine e_iload d_T_exchange_17 rfl ?_
  refine e_ldc (v := 1000000) d_T_exchange_19 kc_T_141 ?_
  refine e_callSd (v := some (.int (wiV (u) (1000000)))) (σ' := σ) (As := [.int (u), .int (1000000)]) (st := []) 1 6 d_T_exchange_21 cb_T_exchange_39 is_T_isWithin rfl (Nat.le_of_ble_eq_true rfl) (by decide) (by decide) (ct_T_isWithin hl0) ?_
  show Ex l G m_T_exchange (pmV G m_T_exchange (qd (.inl 1) σ)) 24 [(6, .ref (2 + 16 * i)), (0, .ref (5 + 16 * 0)), (1, .int (nI i)), (2, .long (t)), (4, .int (r)), (5, .int (u))] [.int (wiV (u) (1000000))] (σ) 1 6
  refine e_ifne (tgt := 37) d_T_exchange_24 (by decide) (fun h24 => ?_) (fun h24 => absurd h24 hx2)
  refine e_aload d_T_exchange_37 rfl ?_
  refine e_callSd (v := some (.null)) (σ' := σ) (As := [.ref (2 + 16 * i)]) (st := []) 1 6 d_T_exchange_39 cb_T_exchange_144 is_T_openSlaveOf rfl (Nat.le_of_ble_eq_true rfl) (by decide) (by decide) ((by have h := ct_T_openSlaveOf (l := l) (G := G) hl0 hT hi hB; rw [hos] at h; exact h)) ?_
  show Ex l G m_T_exchange (pmV G m_T_exchange (qd (.inl 1) σ)) 42 [(6, .ref (2 + 16 * i)), (0, .ref (5 + 16 * 0)), (1, .int (nI i)), (2, .long (t)), (4, .int (r)), (5, .int (u))] [.null] (σ) 1 6
  refine e_astoreN (lv' := [(7, .null), (6, .ref (2 + 16 * i)), (0, .ref (5 + 16 * 0)), (1, .int (nI i)), (2, .long (t)), (4, .int (r)), (5, .int (u))]) d_T_exchange_42 (by decide) rfl ?_
  refine e_aloadN d_T_exchange_44 rfl ?_
  refine e_ifnonnullN d_T_exchange_46 ?_
  exact e_ise rfl d_T_exchange_49 d_T_exchange_52 d_T_exchange_53 d_T_exchange_55 d_T_exchange_58 (by decide +kernel) ⟨by decide, Nat.le_of_ble_eq_true rfl⟩ ⟨by decide, by decide⟩ rfl ⟨rfl, rfl⟩
set_option maxHeartbeats 4000000 in
theorem ct_T_exchange_o {l : Launch} (hl0 : l.stackTraces = false) {G : LG} {σ : HS} {i b : Nat} {t : Int64} {r u : Int32} {n L : Nat} (hT : TS σ n L) (hi : i < n) {p : Nat}  (hx1 : ¬ wiV r 1000000 = 0) (hx2 : ¬ wiV u 1000000 = 0) (hB : hR σ 2 i 3 = some (0 + 16 * b)) (hos : osP σ i b = some p) (hO : scV (xO σ i p t r u) = 0) : Ct l G m_T_exchange [.ref (5 + 16 * 0), .int (nI i), .long (t), .int (r), .int (u)] (σ) (qd (.inl 2) (scS σ i (xO σ i p t r u) (xJ σ i p t r u))) := by
  refine Ct.of hl0 rfl rfl (Nat.le_of_ble_eq_true rfl) ?_
  show Ex l G m_T_exchange (pmV G m_T_exchange (qd (.inl 2) (scS σ i (xO σ i p t r u) (xJ σ i p t r u)))) 0 [(0, .ref (5 + 16 * 0)), (1, .int (nI i)), (2, .long (t)), (4, .int (r)), (5, .int (u))] [] (σ) 2 12
  obtain ⟨hne, j, hj, hpj⟩ := osP_some hos
  refine e_aload_n d_T_exchange_0 rfl rfl ?_
  refine e_iload_n d_T_exchange_1 rfl rfl ?_
  refine e_callVd (v := some (.ref (2 + 16 * i))) (σ' := σ) (q := 5) (a := 0) (As := [.int (nI i)]) (st := []) 1 6 d_T_exchange_2 cb_T_exchange_108 iv_T_nodeAt rfl ⟨by decide, rfl⟩ rfl (Nat.le_of_ble_eq_true rfl) (by decide) (by decide) (ct_T_nodeAt hl0 hT hi) ?_
  show Ex l G m_T_exchange (pmV G m_T_exchange (qd (.inl 2) (scS σ i (xO σ i p t r u) (xJ σ i p t r u)))) 5 [(0, .ref (5 + 16 * 0)), (1, .int (nI i)), (2, .long (t)), (4, .int (r)), (5, .int (u))] [.ref (2 + 16 * i)] (σ) 1 6
  refine e_astore (lv' := [(6, .ref (2 + 16 * i)), (0, .ref (5 + 16 * 0)), (1, .int (nI i)), (2, .long (t)), (4, .int (r)), (5, .int (u))]) d_T_exchange_5 (by decide) rfl ?_
  refine e_iload d_T_exchange_7 rfl ?_
  refine e_ldc (v := 1000000) d_T_exchange_9 kc_T_141 ?_
  refine e_callSd (v := some (.int (wiV (r) (1000000)))) (σ' := σ) (As := [.int (r), .int (1000000)]) (st := []) 1 6 d_T_exchange_11 cb_T_exchange_39 is_T_isWithin rfl (Nat.le_of_ble_eq_true rfl) (by decide) (by decide) (ct_T_isWithin hl0) ?_
  show Ex l G m_T_exchange (pmV G m_T_exchange (qd (.inl 2) (scS σ i (xO σ i p t r u) (xJ σ i p t r u)))) 14 [(6, .ref (2 + 16 * i)), (0, .ref (5 + 16 * 0)), (1, .int (nI i)), (2, .long (t)), (4, .int (r)), (5, .int (u))] [.int (wiV (r) (1000000))] (σ) 1 6
  refine e_ifeq (tgt := 27) d_T_exchange_14 (by decide) (fun h14 => absurd h14 hx1) (fun h14 => ?_)
  refine e_iload d_T_exchange_17 rfl ?_
  refine e_ldc (v := 1000000) d_T_exchange_19 kc_T_141 ?_
  refine e_callSd (v := some (.int (wiV (u) (1000000)))) (σ' := σ) (As := [.int (u), .int (1000000)]) (st := []) 1 6 d_T_exchange_21 cb_T_exchange_39 is_T_isWithin rfl (Nat.le_of_ble_eq_true rfl) (by decide) (by decide) (ct_T_isWithin hl0) ?_
  show Ex l G m_T_exchange (pmV G m_T_exchange (qd (.inl 2) (scS σ i (xO σ i p t r u) (xJ σ i p t r u)))) 24 [(6, .ref (2 + 16 * i)), (0, .ref (5 + 16 * 0)), (1, .int (nI i)), (2, .long (t)), (4, .int (r)), (5, .int (u))] [.int (wiV (u) (1000000))] (σ) 1 6
  refine e_ifne (tgt := 37) d_T_exchange_24 (by decide) (fun h24 => ?_) (fun h24 => absurd h24 hx2)
  refine e_aload d_T_exchange_37 rfl ?_
  refine e_callSd (v := some (.ref (1 + 16 * p))) (σ' := σ) (As := [.ref (2 + 16 * i)]) (st := []) 1 6 d_T_exchange_39 cb_T_exchange_144 is_T_openSlaveOf rfl (Nat.le_of_ble_eq_true rfl) (by decide) (by decide) ((by have h := ct_T_openSlaveOf (l := l) (G := G) hl0 hT hi hB; rw [hos] at h; exact h)) ?_
  show Ex l G m_T_exchange (pmV G m_T_exchange (qd (.inl 2) (scS σ i (xO σ i p t r u) (xJ σ i p t r u)))) 42 [(6, .ref (2 + 16 * i)), (0, .ref (5 + 16 * 0)), (1, .int (nI i)), (2, .long (t)), (4, .int (r)), (5, .int (u))] [.ref (1 + 16 * p)] (σ) 1 6
  refine e_astore (lv' := [(7, .ref (1 + 16 * p)), (6, .ref (2 + 16 * i)), (0, .ref (5 + 16 * 0)), (1, .int (nI i)), (2, .long (t)), (4, .int (r)), (5, .int (u))]) d_T_exchange_42 (by decide) rfl ?_
  refine e_aload d_T_exchange_44 rfl ?_
  refine e_ifnonnull (tgt := 59) d_T_exchange_46 (by decide) ?_
  refine e_aload_n d_T_exchange_59 rfl rfl ?_
  refine e_aload d_T_exchange_60 rfl ?_
  refine e_aload d_T_exchange_62 rfl ?_
  refine e_lload_n d_T_exchange_64 rfl rfl ?_
  refine e_iload d_T_exchange_65 rfl ?_
  refine e_iload d_T_exchange_67 rfl ?_
  refine e_callVd (v := some (.int (scV (xO σ i p t r u)))) (σ' := scS σ i (xO σ i p t r u) (xJ σ i p t r u)) (q := 5) (a := 0) (As := [.ref (2 + 16 * i), .ref (1 + 16 * p), .long (t), .int (r), .int (u)]) (st := []) 1 6 d_T_exchange_69 cb_T_exchange_150 iv_T_setClock rfl ⟨by decide, rfl⟩ rfl (Nat.le_of_ble_eq_true rfl) (by decide) (by decide) (ct_T_setClock_p hl0 hT (by omega) hne) ?_
  show Ex l G m_T_exchange (pmV G m_T_exchange (qd (.inl 2) (scS σ i (xO σ i p t r u) (xJ σ i p t r u)))) 72 [(7, .ref (1 + 16 * p)), (6, .ref (2 + 16 * i)), (0, .ref (5 + 16 * 0)), (1, .int (nI i)), (2, .long (t)), (4, .int (r)), (5, .int (u))] [.int (scV (xO σ i p t r u))] (scS σ i (xO σ i p t r u) (xJ σ i p t r u)) 1 6
  refine e_ifne (tgt := 85) d_T_exchange_72 (by decide) (fun h72 => absurd h72 (fun z => z hO)) (fun h72 => ?_)
  exact e_are rfl d_T_exchange_75 d_T_exchange_78 d_T_exchange_79 d_T_exchange_81 d_T_exchange_84 (by decide +kernel) ⟨by decide, Nat.le_of_ble_eq_true rfl⟩ ⟨by decide, by decide⟩ rfl ⟨rfl, rfl⟩
theorem scS_R {σ : HS} {i : Nat} {O : Int32} {J : Nat → Int64} : hR (scS σ i O J) = hR σ := by unfold scS; split <;> rfl
theorem scS_off {σ : HS} {i k : Nat} {O : Int32} {J : Nat → Int64} : hJ (scS σ i O J) 4 0 k = J k := by
  unfold scS
  split
  · rw [J_sJ, if_neg (by omega), J_sJ, if_neg (by omega), J_rk]
  · rw [J_rk]
set_option maxHeartbeats 4000000 in
theorem ct_T_exchange {l : Launch} (hl0 : l.stackTraces = false) {G : LG} {σ : HS} {i b : Nat} {t : Int64} {r u : Int32} {n L : Nat} (hT : TS σ n L) (hi : i < n) {p : Nat}  (hx1 : ¬ wiV r 1000000 = 0) (hx2 : ¬ wiV u 1000000 = 0) (hB : hR σ 2 i 3 = some (0 + 16 * b)) (hos : osP σ i b = some p) (hO : ¬ scV (xO σ i p t r u) = 0) : Ct l G m_T_exchange [.ref (5 + 16 * 0), .int (nI i), .long (t), .int (r), .int (u)] (σ) (qd (.inr (some (.long (xJ σ i p t r u 1)))) (scS σ i (xO σ i p t r u) (xJ σ i p t r u))) := by
  refine Ct.of hl0 rfl rfl (Nat.le_of_ble_eq_true rfl) ?_
  show Ex l G m_T_exchange (pmV G m_T_exchange (qd (.inr (some (.long (xJ σ i p t r u 1)))) (scS σ i (xO σ i p t r u) (xJ σ i p t r u)))) 0 [(0, .ref (5 + 16 * 0)), (1, .int (nI i)), (2, .long (t)), (4, .int (r)), (5, .int (u))] [] (σ) 2 12
  obtain ⟨hne, j, hj, hpj⟩ := osP_some hos
  refine e_aload_n d_T_exchange_0 rfl rfl ?_
  refine e_iload_n d_T_exchange_1 rfl rfl ?_
  refine e_callVd (v := some (.ref (2 + 16 * i))) (σ' := σ) (q := 5) (a := 0) (As := [.int (nI i)]) (st := []) 1 6 d_T_exchange_2 cb_T_exchange_108 iv_T_nodeAt rfl ⟨by decide, rfl⟩ rfl (Nat.le_of_ble_eq_true rfl) (by decide) (by decide) (ct_T_nodeAt hl0 hT hi) ?_
  show Ex l G m_T_exchange (pmV G m_T_exchange (qd (.inr (some (.long (xJ σ i p t r u 1)))) (scS σ i (xO σ i p t r u) (xJ σ i p t r u)))) 5 [(0, .ref (5 + 16 * 0)), (1, .int (nI i)), (2, .long (t)), (4, .int (r)), (5, .int (u))] [.ref (2 + 16 * i)] (σ) 1 6
  refine e_astore (lv' := [(6, .ref (2 + 16 * i)), (0, .ref (5 + 16 * 0)), (1, .int (nI i)), (2, .long (t)), (4, .int (r)), (5, .int (u))]) d_T_exchange_5 (by decide) rfl ?_
  refine e_iload d_T_exchange_7 rfl ?_
  refine e_ldc (v := 1000000) d_T_exchange_9 kc_T_141 ?_
  refine e_callSd (v := some (.int (wiV (r) (1000000)))) (σ' := σ) (As := [.int (r), .int (1000000)]) (st := []) 1 6 d_T_exchange_11 cb_T_exchange_39 is_T_isWithin rfl (Nat.le_of_ble_eq_true rfl) (by decide) (by decide) (ct_T_isWithin hl0) ?_
  show Ex l G m_T_exchange (pmV G m_T_exchange (qd (.inr (some (.long (xJ σ i p t r u 1)))) (scS σ i (xO σ i p t r u) (xJ σ i p t r u)))) 14 [(6, .ref (2 + 16 * i)), (0, .ref (5 + 16 * 0)), (1, .int (nI i)), (2, .long (t)), (4, .int (r)), (5, .int (u))] [.int (wiV (r) (1000000))] (σ) 1 6
  refine e_ifeq (tgt := 27) d_T_exchange_14 (by decide) (fun h14 => absurd h14 hx1) (fun h14 => ?_)
  refine e_iload d_T_exchange_17 rfl ?_
  refine e_ldc (v := 1000000) d_T_exchange_19 kc_T_141 ?_
  refine e_callSd (v := some (.int (wiV (u) (1000000)))) (σ' := σ) (As := [.int (u), .int (1000000)]) (st := []) 1 6 d_T_exchange_21 cb_T_exchange_39 is_T_isWithin rfl (Nat.le_of_ble_eq_true rfl) (by decide) (by decide) (ct_T_isWithin hl0) ?_
  show Ex l G m_T_exchange (pmV G m_T_exchange (qd (.inr (some (.long (xJ σ i p t r u 1)))) (scS σ i (xO σ i p t r u) (xJ σ i p t r u)))) 24 [(6, .ref (2 + 16 * i)), (0, .ref (5 + 16 * 0)), (1, .int (nI i)), (2, .long (t)), (4, .int (r)), (5, .int (u))] [.int (wiV (u) (1000000))] (σ) 1 6
  refine e_ifne (tgt := 37) d_T_exchange_24 (by decide) (fun h24 => ?_) (fun h24 => absurd h24 hx2)
  refine e_aload d_T_exchange_37 rfl ?_
  refine e_callSd (v := some (.ref (1 + 16 * p))) (σ' := σ) (As := [.ref (2 + 16 * i)]) (st := []) 1 6 d_T_exchange_39 cb_T_exchange_144 is_T_openSlaveOf rfl (Nat.le_of_ble_eq_true rfl) (by decide) (by decide) ((by have h := ct_T_openSlaveOf (l := l) (G := G) hl0 hT hi hB; rw [hos] at h; exact h)) ?_
  show Ex l G m_T_exchange (pmV G m_T_exchange (qd (.inr (some (.long (xJ σ i p t r u 1)))) (scS σ i (xO σ i p t r u) (xJ σ i p t r u)))) 42 [(6, .ref (2 + 16 * i)), (0, .ref (5 + 16 * 0)), (1, .int (nI i)), (2, .long (t)), (4, .int (r)), (5, .int (u))] [.ref (1 + 16 * p)] (σ) 1 6
  refine e_astore (lv' := [(7, .ref (1 + 16 * p)), (6, .ref (2 + 16 * i)), (0, .ref (5 + 16 * 0)), (1, .int (nI i)), (2, .long (t)), (4, .int (r)), (5, .int (u))]) d_T_exchange_42 (by decide) rfl ?_
  refine e_aload d_T_exchange_44 rfl ?_
  refine e_ifnonnull (tgt := 59) d_T_exchange_46 (by decide) ?_
  refine e_aload_n d_T_exchange_59 rfl rfl ?_
  refine e_aload d_T_exchange_60 rfl ?_
  refine e_aload d_T_exchange_62 rfl ?_
  refine e_lload_n d_T_exchange_64 rfl rfl ?_
  refine e_iload d_T_exchange_65 rfl ?_
  refine e_iload d_T_exchange_67 rfl ?_
  refine e_callVd (v := some (.int (scV (xO σ i p t r u)))) (σ' := scS σ i (xO σ i p t r u) (xJ σ i p t r u)) (q := 5) (a := 0) (As := [.ref (2 + 16 * i), .ref (1 + 16 * p), .long (t), .int (r), .int (u)]) (st := []) 1 6 d_T_exchange_69 cb_T_exchange_150 iv_T_setClock rfl ⟨by decide, rfl⟩ rfl (Nat.le_of_ble_eq_true rfl) (by decide) (by decide) (ct_T_setClock_p hl0 hT (by omega) hne) ?_
  show Ex l G m_T_exchange (pmV G m_T_exchange (qd (.inr (some (.long (xJ σ i p t r u 1)))) (scS σ i (xO σ i p t r u) (xJ σ i p t r u)))) 72 [(7, .ref (1 + 16 * p)), (6, .ref (2 + 16 * i)), (0, .ref (5 + 16 * 0)), (1, .int (nI i)), (2, .long (t)), (4, .int (r)), (5, .int (u))] [.int (scV (xO σ i p t r u))] (scS σ i (xO σ i p t r u) (xJ σ i p t r u)) 1 6
  refine e_ifne (tgt := 85) d_T_exchange_72 (by decide) (fun h72 => ?_) (fun h72 => absurd h72 hO)
  refine e_aload_n d_T_exchange_85 rfl rfl ?_
  refine g_T_24 (b := 4 + 16 * 0) rfl d_T_exchange_86 (by rw [scS_R]; exact hT.1.2.2) ?_
  refine g_T_159 rfl d_T_exchange_89 ?_
  exact e_lret d_T_exchange_92 rfl ⟨(by rw [scS_off]), rfl⟩
