def mTh (σ : HS) (b : Nat) : Int32 := if hI σ 7 4 (2 * mlk σ b) = nI b then hI σ 7 5 (2 * mlk σ b + 1) else hI σ 7 5 (2 * mlk σ b)
def mBk (σ : HS) (b : Nat) : Int32 := if hI σ 7 4 (2 * mlk σ b) = nI b then hI σ 7 5 (2 * mlk σ b) else hI σ 7 5 (2 * mlk σ b + 1)
def mxO (σ : HS) (i b : Nat) (t : Int64) (r s : Int32) : Int32 := swO t (mTh σ b) (mBk σ b) (hJ σ 9 0 i) (hJ σ 9 0 (acr σ b / 4)) r s
def mxF (σ : HS) (i b : Nat) (t : Int64) (r s : Int32) : Int64 := swF t (mTh σ b) (mBk σ b) (hJ σ 9 0 i) (hJ σ 9 0 (acr σ b / 4)) r s
def mxD (σ : HS) (i b : Nat) (t : Int64) (r s : Int32) : Int64 := swD t (mTh σ b) (mBk σ b) (hJ σ 9 0 i) (hJ σ 9 0 (acr σ b / 4)) r s
def mxN (σ : HS) (i b : Nat) (t : Int64) (r s : Int32) : Int64 := swN t (mTh σ b) (mBk σ b) (hJ σ 9 0 i) (hJ σ 9 0 (acr σ b / 4)) r s
def swQ (σ : HS) (i b : Nat) (t : Int64) (r s : Int32) : HS := swS σ i (mxO σ i b t r s) (mxF σ i b t r s) (mxD σ i b t r s) (mxN σ i b t r s)
theorem ct_M_swap {l : Launch} (hl0 : l.stackTraces = false) {G : LG} {σ : HS} {i b : Nat} {t : Int64} {r s : Int32} (hM : MS σ) (hi : i < 10) (hb : hI σ 7 13 i = nI b) (hb4 : b < 40) (hk : lok σ b) : Ct l G m_M_swap [.ref (6 + 16 * 0), .int (nI i), .long (t), .int (r), .int (s)] σ (qd (.inr none) (swQ σ i b t r s)) := by
  obtain ⟨k, to, hk16, hto4, h6, hto⟩ := hk
  have ek : mlk σ b = k := by unfold mlk; rw [h6, nI_clamp (by omega)]
  have ea : acr σ b = to := by unfold acr; rw [ek, hto, nI_clamp (by omega)]
  unfold swQ mxO mxF mxD mxN
  rw [ea]
  by_cases he : hI σ 7 4 (2 * k) = nI b
  · rw [if_pos he] at hto
    have e1 : mTh σ b = hI σ 7 5 (2 * k + 1) := by unfold mTh; rw [ek, if_pos he]
    have e2 : mBk σ b = hI σ 7 5 (2 * k) := by unfold mBk; rw [ek, if_pos he]
    rw [e1, e2]
    have h := ct_M_swap_f (l := l) (G := G) hl0 (ov := hI σ 6 0 25) (f := hJ σ 6 0 26) (d := hJ σ 6 0 27) (t := t) (r := r) (s := s) hM hi hb hb4 h6 hk16 he hto hto4 rfl rfl rfl rfl
    rw [mo_self] at h
    exact h
  · rw [if_neg he] at hto
    have e1 : mTh σ b = hI σ 7 5 (2 * k) := by unfold mTh; rw [ek, if_neg he]
    have e2 : mBk σ b = hI σ 7 5 (2 * k + 1) := by unfold mBk; rw [ek, if_neg he]
    rw [e1, e2]
    have h := ct_M_swap_s (l := l) (G := G) hl0 (ov := hI σ 6 0 25) (f := hJ σ 6 0 26) (d := hJ σ 6 0 27) (t := t) (r := r) (s := s) hM hi hb hb4 h6 hk16 he hto hto4 rfl rfl rfl rfl
    rw [mo_self] at h
    exact h
/-- can the node set its clock? -/
def bP (σ : HS) (i : Nat) : Nat := (hI σ 7 13 i).toNatClampNeg
def csV (σ : HS) (i : Nat) : Int32 := if hI σ 7 13 i < 0 then 0 else if hI σ 7 7 (bP σ i) = 2 then (if hI σ 8 0 (mlk σ (bP σ i)) = 0 then 0 else 1) else 0
def lbk (σ : HS) (i : Nat) : Prop := hI σ 7 13 i < 0 ∨ ∃ b, b < 40 ∧ hI σ 7 13 i = nI b ∧ lok σ b
theorem lbk.bok {σ : HS} {i : Nat} (h : lbk σ i) : bok σ i := h.imp id (fun ⟨b, h1, h2, _⟩ => ⟨b, h1, h2⟩)
theorem ct_M_canSwap {l : Launch} (hl0 : l.stackTraces = false) {G : LG} {σ : HS} {i : Nat} (hM : MS σ) (hi : i < 10) (hb : lbk σ i) : Ct l G m_M_canSwap [.ref (6 + 16 * 0), .int (nI i)] σ (qd (.inr (some (.int (csV σ i)))) σ) := by
  rcases hb with h | ⟨b, hb4, h, k, to, hk16, hto4, h6, hto⟩
  · have e : csV σ i = 0 := by unfold csV; rw [if_pos h]
    rw [e]; exact ct_M_canSwap_n hl0 hM hi rfl h
  · have eb : bP σ i = b := by unfold bP; rw [h, nI_clamp (by omega)]
    have ek : mlk σ b = k := by unfold mlk; rw [h6, nI_clamp (by omega)]
    have hn : ¬ hI σ 7 13 i < 0 := by rw [h]; exact nI_pos (by omega)
    by_cases hs : hI σ 7 7 b = 2
    · have e : csV σ i = if hI σ 8 0 k = 0 then 0 else 1 := by unfold csV; rw [if_neg hn, eb, if_pos hs, ek]
      rw [e]; exact ct_M_canSwap_s hl0 hM hi h hb4 hs h6 hk16
    · have e : csV σ i = 0 := by unfold csV; rw [if_neg hn, eb, if_neg hs]
      rw [e]; exact ct_M_canSwap_o hl0 hM hi h hb4 hs
theorem csV_b {σ : HS} {i : Nat} (h : lbk σ i) (hc : ¬ csV σ i = 0) : ∃ b, b < 40 ∧ hI σ 7 13 i = nI b ∧ lok σ b ∧ bP σ i = b := by
  rcases h with h | ⟨b, hb4, h, hl⟩
  · exact absurd (by unfold csV; rw [if_pos h]) hc
  · exact ⟨b, hb4, h, hl, by unfold bP; rw [h, nI_clamp (by omega)]⟩
theorem swQ_ov {σ : HS} {i b : Nat} {t : Int64} {r s : Int32} : hI (swQ σ i b t r s) 6 0 25 = mxO σ i b t r s := by
  unfold swQ swS
  split
  · rw [I_sJ, I_sJ, mo_ov]
  · rw [mo_ov]
theorem swQ_f {σ : HS} {i b : Nat} {t : Int64} {r s : Int32} : hJ (swQ σ i b t r s) 6 0 26 = mxF σ i b t r s := by
  unfold swQ swS
  split
  · rw [J_sJ, if_neg (by omega), J_sJ, if_neg (by omega), mo_f]
  · rw [mo_f]
set_option maxHeartbeats 4000000 in
set_option maxRecDepth 100000 in
theorem ct_M_exchange_x {l : Launch} (hl0 : l.stackTraces = false) {G : LG} {σ : HS} {v r s : Int32} {t : Int64} (hx : ¬ (nnV σ v = 0 ∧ ndV 1000000 r = 0 ∧ ndV 1000000 s = 0)) : Ct l G m_M_exchange [.ref (6 + 16 * 0), .int (v), .long (t), .int (r), .int (s)] (σ) (qd (.inr (some (.long 0))) (sI σ 6 0 0 1)) := by
  refine Ct.of hl0 rfl rfl (Nat.le_of_ble_eq_true rfl) ?_
  show Ex l G m_M_exchange (pmV G m_M_exchange (qd (.inr (some (.long 0))) (sI σ 6 0 0 1))) 0 [(0, .ref (6 + 16 * 0)), (1, .int (v)), (2, .long (t)), (4, .int (r)), (5, .int (s))] [] (σ) 0 0
  refine e_aload_n d_M_exchange_0 rfl rfl ?_
  refine e_aload_n d_M_exchange_1 rfl rfl ?_
  refine e_iload_n d_M_exchange_2 rfl rfl ?_
  refine e_callVd (v := some (.int (nnV σ (v)))) (σ' := σ) (q := 6) (a := 0) (As := [.int (v)]) (st := [.ref (6 + 16 * 0)]) 0 0 d_M_exchange_3 cb_M_exchange_115 iv_M_noNode rfl ⟨by decide, rfl⟩ rfl (Nat.le_of_ble_eq_true rfl) (by decide) (by decide) (ct_M_noNode hl0) ?_
  show Ex l G m_M_exchange (pmV G m_M_exchange (qd (.inr (some (.long 0))) (sI σ 6 0 0 1))) 6 [(0, .ref (6 + 16 * 0)), (1, .int (v)), (2, .long (t)), (4, .int (r)), (5, .int (s))] [.int (nnV σ (v)), .ref (6 + 16 * 0)] (σ) 0 0
  refine e_ifne (tgt := 27) d_M_exchange_6 (by decide) (fun h6 => ?_) (fun h6 => ?_)
  ·
    refine e_iconst (v := 1) d_M_exchange_27 (by decide) ?_
    refine e_goto (tgt := 32) d_M_exchange_28 (by decide) ?_
    refine p_M_78 rfl d_M_exchange_32 ?_
    refine e_aload_n d_M_exchange_35 rfl rfl ?_
    refine g_M_78 rfl d_M_exchange_36 ?_
    refine e_ifeq (tgt := 44) d_M_exchange_39 (by decide) (fun h39 => absurd h39 (by rw [th_1]; decide +kernel)) (fun h39 => ?_)
    refine e_lconst (v := 0) d_M_exchange_42 (by decide) ?_
    exact e_lret d_M_exchange_43 rfl ⟨rfl, rfl⟩
  ·
    refine e_aload_n d_M_exchange_9 rfl rfl ?_
    refine e_iload d_M_exchange_10 rfl ?_
    refine e_callVd (v := some (.int (ndV 1000000 (r)))) (σ' := σ) (q := 6) (a := 0) (As := [.int (r)]) (st := [.ref (6 + 16 * 0)]) 0 0 d_M_exchange_12 cb_M_exchange_178 iv_M_noRest rfl ⟨by decide, rfl⟩ rfl (Nat.le_of_ble_eq_true rfl) (by decide) (by decide) (ct_M_noRest hl0) ?_
    show Ex l G m_M_exchange (pmV G m_M_exchange (qd (.inr (some (.long 0))) (sI σ 6 0 0 1))) 15 [(0, .ref (6 + 16 * 0)), (1, .int (v)), (2, .long (t)), (4, .int (r)), (5, .int (s))] [.int (ndV 1000000 (r)), .ref (6 + 16 * 0)] (σ) 0 0
    refine e_ifne (tgt := 27) d_M_exchange_15 (by decide) (fun h15 => ?_) (fun h15 => ?_)
    ·
      refine e_iconst (v := 1) d_M_exchange_27 (by decide) ?_
      refine e_goto (tgt := 32) d_M_exchange_28 (by decide) ?_
      refine p_M_78 rfl d_M_exchange_32 ?_
      refine e_aload_n d_M_exchange_35 rfl rfl ?_
      refine g_M_78 rfl d_M_exchange_36 ?_
      refine e_ifeq (tgt := 44) d_M_exchange_39 (by decide) (fun h39 => absurd h39 (by rw [th_1]; decide +kernel)) (fun h39 => ?_)
      refine e_lconst (v := 0) d_M_exchange_42 (by decide) ?_
      exact e_lret d_M_exchange_43 rfl ⟨rfl, rfl⟩
    ·
      refine e_aload_n d_M_exchange_18 rfl rfl ?_
      refine e_iload d_M_exchange_19 rfl ?_
      refine e_callVd (v := some (.int (ndV 1000000 (s)))) (σ' := σ) (q := 6) (a := 0) (As := [.int (s)]) (st := [.ref (6 + 16 * 0)]) 0 0 d_M_exchange_21 cb_M_exchange_178 iv_M_noRest rfl ⟨by decide, rfl⟩ rfl (Nat.le_of_ble_eq_true rfl) (by decide) (by decide) (ct_M_noRest hl0) ?_
      show Ex l G m_M_exchange (pmV G m_M_exchange (qd (.inr (some (.long 0))) (sI σ 6 0 0 1))) 24 [(0, .ref (6 + 16 * 0)), (1, .int (v)), (2, .long (t)), (4, .int (r)), (5, .int (s))] [.int (ndV 1000000 (s)), .ref (6 + 16 * 0)] (σ) 0 0
      refine e_ifeq (tgt := 31) d_M_exchange_24 (by decide) (fun h24 => absurd h24 (fun z => hx ⟨h6, h15, z⟩)) (fun h24 => ?_)
      refine e_iconst (v := 1) d_M_exchange_27 (by decide) ?_
      refine e_goto (tgt := 32) d_M_exchange_28 (by decide) ?_
      refine p_M_78 rfl d_M_exchange_32 ?_
      refine e_aload_n d_M_exchange_35 rfl rfl ?_
      refine g_M_78 rfl d_M_exchange_36 ?_
      refine e_ifeq (tgt := 44) d_M_exchange_39 (by decide) (fun h39 => absurd h39 (by rw [th_1]; decide +kernel)) (fun h39 => ?_)
      refine e_lconst (v := 0) d_M_exchange_42 (by decide) ?_
      exact e_lret d_M_exchange_43 rfl ⟨rfl, rfl⟩
set_option maxHeartbeats 4000000 in
set_option maxRecDepth 100000 in
theorem ct_M_exchange_n {l : Launch} (hl0 : l.stackTraces = false) {G : LG} {σ : HS} {i : Nat} {t : Int64} {r s : Int32} (hM : MS σ) (hi : i < 10) (hx : nnV σ (nI i) = 0 ∧ ndV 1000000 r = 0 ∧ ndV 1000000 s = 0) (hb : lbk σ i) (hc : csV σ i = 0) : Ct l G m_M_exchange [.ref (6 + 16 * 0), .int (nI i), .long (t), .int (r), .int (s)] (σ) (qd (.inr (some (.long 0))) (sI (sI σ 6 0 0 0) 6 0 0 2)) := by
  refine Ct.of hl0 rfl rfl (Nat.le_of_ble_eq_true rfl) ?_
  show Ex l G m_M_exchange (pmV G m_M_exchange (qd (.inr (some (.long 0))) (sI (sI σ 6 0 0 0) 6 0 0 2))) 0 [(0, .ref (6 + 16 * 0)), (1, .int (nI i)), (2, .long (t)), (4, .int (r)), (5, .int (s))] [] (σ) 0 0
  refine e_aload_n d_M_exchange_0 rfl rfl ?_
  refine e_aload_n d_M_exchange_1 rfl rfl ?_
  refine e_iload_n d_M_exchange_2 rfl rfl ?_
  refine e_callVd (v := some (.int (nnV σ (nI i)))) (σ' := σ) (q := 6) (a := 0) (As := [.int (nI i)]) (st := [.ref (6 + 16 * 0)]) 0 0 d_M_exchange_3 cb_M_exchange_115 iv_M_noNode rfl ⟨by decide, rfl⟩ rfl (Nat.le_of_ble_eq_true rfl) (by decide) (by decide) (ct_M_noNode hl0) ?_
  show Ex l G m_M_exchange (pmV G m_M_exchange (qd (.inr (some (.long 0))) (sI (sI σ 6 0 0 0) 6 0 0 2))) 6 [(0, .ref (6 + 16 * 0)), (1, .int (nI i)), (2, .long (t)), (4, .int (r)), (5, .int (s))] [.int (nnV σ (nI i)), .ref (6 + 16 * 0)] (σ) 0 0
  refine e_ifne (tgt := 27) d_M_exchange_6 (by decide) (fun h6 => absurd h6 (fun z => z hx.1)) (fun h6 => ?_)
  refine e_aload_n d_M_exchange_9 rfl rfl ?_
  refine e_iload d_M_exchange_10 rfl ?_
  refine e_callVd (v := some (.int (ndV 1000000 (r)))) (σ' := σ) (q := 6) (a := 0) (As := [.int (r)]) (st := [.ref (6 + 16 * 0)]) 0 0 d_M_exchange_12 cb_M_exchange_178 iv_M_noRest rfl ⟨by decide, rfl⟩ rfl (Nat.le_of_ble_eq_true rfl) (by decide) (by decide) (ct_M_noRest hl0) ?_
  show Ex l G m_M_exchange (pmV G m_M_exchange (qd (.inr (some (.long 0))) (sI (sI σ 6 0 0 0) 6 0 0 2))) 15 [(0, .ref (6 + 16 * 0)), (1, .int (nI i)), (2, .long (t)), (4, .int (r)), (5, .int (s))] [.int (ndV 1000000 (r)), .ref (6 + 16 * 0)] (σ) 0 0
  refine e_ifne (tgt := 27) d_M_exchange_15 (by decide) (fun h15 => absurd h15 (fun z => z hx.2.1)) (fun h15 => ?_)
  refine e_aload_n d_M_exchange_18 rfl rfl ?_
  refine e_iload d_M_exchange_19 rfl ?_
  refine e_callVd (v := some (.int (ndV 1000000 (s)))) (σ' := σ) (q := 6) (a := 0) (As := [.int (s)]) (st := [.ref (6 + 16 * 0)]) 0 0 d_M_exchange_21 cb_M_exchange_178 iv_M_noRest rfl ⟨by decide, rfl⟩ rfl (Nat.le_of_ble_eq_true rfl) (by decide) (by decide) (ct_M_noRest hl0) ?_
  show Ex l G m_M_exchange (pmV G m_M_exchange (qd (.inr (some (.long 0))) (sI (sI σ 6 0 0 0) 6 0 0 2))) 24 [(0, .ref (6 + 16 * 0)), (1, .int (nI i)), (2, .long (t)), (4, .int (r)), (5, .int (s))] [.int (ndV 1000000 (s)), .ref (6 + 16 * 0)] (σ) 0 0
  refine e_ifeq (tgt := 31) d_M_exchange_24 (by decide) (fun h24 => ?_) (fun h24 => absurd hx.2.2 h24)
  refine e_iconst (v := 0) d_M_exchange_31 (by decide) ?_
  refine p_M_78 rfl d_M_exchange_32 ?_
  refine e_aload_n d_M_exchange_35 rfl rfl ?_
  refine g_M_78 rfl d_M_exchange_36 ?_
  refine e_ifeq (tgt := 44) d_M_exchange_39 (by decide) (fun h39 => ?_) (fun h39 => absurd (by rw [th_1]) h39)
  refine e_aload_n d_M_exchange_44 rfl rfl ?_
  refine e_aload_n d_M_exchange_45 rfl rfl ?_
  refine e_iload_n d_M_exchange_46 rfl rfl ?_
  refine e_callVd (v := some (.int (csV (sI σ 6 0 0 0) i))) (σ' := sI (σ) 6 (0) 0 (0)) (q := 6) (a := 0) (As := [.int (nI i)]) (st := [.ref (6 + 16 * 0)]) 0 0 d_M_exchange_47 cb_M_exchange_181 iv_M_canSwap rfl ⟨by decide, rfl⟩ rfl (Nat.le_of_ble_eq_true rfl) (by decide) (by decide) (ct_M_canSwap hl0 (σ := sI σ 6 0 0 0) (hM.of rfl rfl) hi hb) ?_
  show Ex l G m_M_exchange (pmV G m_M_exchange (qd (.inr (some (.long 0))) (sI (sI σ 6 0 0 0) 6 0 0 2))) 50 [(0, .ref (6 + 16 * 0)), (1, .int (nI i)), (2, .long (t)), (4, .int (r)), (5, .int (s))] [.int (csV (sI σ 6 0 0 0) i), .ref (6 + 16 * 0)] (sI (σ) 6 (0) 0 (0)) 0 0
  refine e_ifeq (tgt := 57) d_M_exchange_50 (by decide) (fun h50 => ?_) (fun h50 => absurd hc h50)
  refine e_iconst (v := 2) d_M_exchange_57 (by decide) ?_
  refine p_M_78 rfl d_M_exchange_58 ?_
  refine e_aload_n d_M_exchange_61 rfl rfl ?_
  refine g_M_78 rfl d_M_exchange_62 ?_
  refine e_ifeq (tgt := 70) d_M_exchange_65 (by decide) (fun h65 => absurd h65 (by rw [th_1]; decide +kernel)) (fun h65 => ?_)
  refine e_lconst (v := 0) d_M_exchange_68 (by decide) ?_
  exact e_lret d_M_exchange_69 rfl ⟨rfl, rfl⟩
set_option maxHeartbeats 4000000 in
set_option maxRecDepth 100000 in
theorem ct_M_exchange_g {l : Launch} (hl0 : l.stackTraces = false) {G : LG} {σ : HS} {i : Nat} {t : Int64} {r s : Int32} (hM : MS σ) (hi : i < 10) (hx : nnV σ (nI i) = 0 ∧ ndV 1000000 r = 0 ∧ ndV 1000000 s = 0) (hb : lbk σ i) (hc : ¬ csV σ i = 0) (ho : mxO (sI (sI σ 6 0 0 0) 6 0 0 0) i (bP σ i) t r s = 0) : Ct l G m_M_exchange [.ref (6 + 16 * 0), .int (nI i), .long (t), .int (r), .int (s)] (σ) (qd (.inr (some (.long (mxF (sI (sI σ 6 0 0 0) 6 0 0 0) i (bP σ i) t r s)))) (sI (swQ (sI (sI σ 6 0 0 0) 6 0 0 0) i (bP σ i) t r s) 6 0 0 0)) := by
  refine Ct.of hl0 rfl rfl (Nat.le_of_ble_eq_true rfl) ?_
  show Ex l G m_M_exchange (pmV G m_M_exchange (qd (.inr (some (.long (mxF (sI (sI σ 6 0 0 0) 6 0 0 0) i (bP σ i) t r s)))) (sI (swQ (sI (sI σ 6 0 0 0) 6 0 0 0) i (bP σ i) t r s) 6 0 0 0))) 0 [(0, .ref (6 + 16 * 0)), (1, .int (nI i)), (2, .long (t)), (4, .int (r)), (5, .int (s))] [] (σ) 0 0
  obtain ⟨b, hb4, hb1, hlk, hbe⟩ := csV_b hb hc
  subst hbe
  refine e_aload_n d_M_exchange_0 rfl rfl ?_
  refine e_aload_n d_M_exchange_1 rfl rfl ?_
  refine e_iload_n d_M_exchange_2 rfl rfl ?_
  refine e_callVd (v := some (.int (nnV σ (nI i)))) (σ' := σ) (q := 6) (a := 0) (As := [.int (nI i)]) (st := [.ref (6 + 16 * 0)]) 0 0 d_M_exchange_3 cb_M_exchange_115 iv_M_noNode rfl ⟨by decide, rfl⟩ rfl (Nat.le_of_ble_eq_true rfl) (by decide) (by decide) (ct_M_noNode hl0) ?_
  show Ex l G m_M_exchange (pmV G m_M_exchange (qd (.inr (some (.long (mxF (sI (sI σ 6 0 0 0) 6 0 0 0) i (bP σ i) t r s)))) (sI (swQ (sI (sI σ 6 0 0 0) 6 0 0 0) i (bP σ i) t r s) 6 0 0 0))) 6 [(0, .ref (6 + 16 * 0)), (1, .int (nI i)), (2, .long (t)), (4, .int (r)), (5, .int (s))] [.int (nnV σ (nI i)), .ref (6 + 16 * 0)] (σ) 0 0
  refine e_ifne (tgt := 27) d_M_exchange_6 (by decide) (fun h6 => absurd h6 (fun z => z hx.1)) (fun h6 => ?_)
  refine e_aload_n d_M_exchange_9 rfl rfl ?_
  refine e_iload d_M_exchange_10 rfl ?_
  refine e_callVd (v := some (.int (ndV 1000000 (r)))) (σ' := σ) (q := 6) (a := 0) (As := [.int (r)]) (st := [.ref (6 + 16 * 0)]) 0 0 d_M_exchange_12 cb_M_exchange_178 iv_M_noRest rfl ⟨by decide, rfl⟩ rfl (Nat.le_of_ble_eq_true rfl) (by decide) (by decide) (ct_M_noRest hl0) ?_
  show Ex l G m_M_exchange (pmV G m_M_exchange (qd (.inr (some (.long (mxF (sI (sI σ 6 0 0 0) 6 0 0 0) i (bP σ i) t r s)))) (sI (swQ (sI (sI σ 6 0 0 0) 6 0 0 0) i (bP σ i) t r s) 6 0 0 0))) 15 [(0, .ref (6 + 16 * 0)), (1, .int (nI i)), (2, .long (t)), (4, .int (r)), (5, .int (s))] [.int (ndV 1000000 (r)), .ref (6 + 16 * 0)] (σ) 0 0
  refine e_ifne (tgt := 27) d_M_exchange_15 (by decide) (fun h15 => absurd h15 (fun z => z hx.2.1)) (fun h15 => ?_)
  refine e_aload_n d_M_exchange_18 rfl rfl ?_
  refine e_iload d_M_exchange_19 rfl ?_
  refine e_callVd (v := some (.int (ndV 1000000 (s)))) (σ' := σ) (q := 6) (a := 0) (As := [.int (s)]) (st := [.ref (6 + 16 * 0)]) 0 0 d_M_exchange_21 cb_M_exchange_178 iv_M_noRest rfl ⟨by decide, rfl⟩ rfl (Nat.le_of_ble_eq_true rfl) (by decide) (by decide) (ct_M_noRest hl0) ?_
  show Ex l G m_M_exchange (pmV G m_M_exchange (qd (.inr (some (.long (mxF (sI (sI σ 6 0 0 0) 6 0 0 0) i (bP σ i) t r s)))) (sI (swQ (sI (sI σ 6 0 0 0) 6 0 0 0) i (bP σ i) t r s) 6 0 0 0))) 24 [(0, .ref (6 + 16 * 0)), (1, .int (nI i)), (2, .long (t)), (4, .int (r)), (5, .int (s))] [.int (ndV 1000000 (s)), .ref (6 + 16 * 0)] (σ) 0 0
  refine e_ifeq (tgt := 31) d_M_exchange_24 (by decide) (fun h24 => ?_) (fun h24 => absurd hx.2.2 h24)
  refine e_iconst (v := 0) d_M_exchange_31 (by decide) ?_
  refine p_M_78 rfl d_M_exchange_32 ?_
  refine e_aload_n d_M_exchange_35 rfl rfl ?_
  refine g_M_78 rfl d_M_exchange_36 ?_
  refine e_ifeq (tgt := 44) d_M_exchange_39 (by decide) (fun h39 => ?_) (fun h39 => absurd (by rw [th_1]) h39)
  refine e_aload_n d_M_exchange_44 rfl rfl ?_
  refine e_aload_n d_M_exchange_45 rfl rfl ?_
  refine e_iload_n d_M_exchange_46 rfl rfl ?_
  refine e_callVd (v := some (.int (csV (sI σ 6 0 0 0) i))) (σ' := sI (σ) 6 (0) 0 (0)) (q := 6) (a := 0) (As := [.int (nI i)]) (st := [.ref (6 + 16 * 0)]) 0 0 d_M_exchange_47 cb_M_exchange_181 iv_M_canSwap rfl ⟨by decide, rfl⟩ rfl (Nat.le_of_ble_eq_true rfl) (by decide) (by decide) (ct_M_canSwap hl0 (σ := sI σ 6 0 0 0) (hM.of rfl rfl) hi hb) ?_
  show Ex l G m_M_exchange (pmV G m_M_exchange (qd (.inr (some (.long (mxF (sI (sI σ 6 0 0 0) 6 0 0 0) i (bP σ i) t r s)))) (sI (swQ (sI (sI σ 6 0 0 0) 6 0 0 0) i (bP σ i) t r s) 6 0 0 0))) 50 [(0, .ref (6 + 16 * 0)), (1, .int (nI i)), (2, .long (t)), (4, .int (r)), (5, .int (s))] [.int (csV (sI σ 6 0 0 0) i), .ref (6 + 16 * 0)] (sI (σ) 6 (0) 0 (0)) 0 0
  refine e_ifeq (tgt := 57) d_M_exchange_50 (by decide) (fun h50 => absurd h50 hc) (fun h50 => ?_)
  refine e_iconst (v := 0) d_M_exchange_53 (by decide) ?_
  refine e_goto (tgt := 58) d_M_exchange_54 (by decide) ?_
  refine p_M_78 rfl d_M_exchange_58 ?_
  refine e_aload_n d_M_exchange_61 rfl rfl ?_
  refine g_M_78 rfl d_M_exchange_62 ?_
  refine e_ifeq (tgt := 70) d_M_exchange_65 (by decide) (fun h65 => ?_) (fun h65 => absurd (by rw [th_1]) h65)
  refine e_aload_n d_M_exchange_70 rfl rfl ?_
  refine e_iload_n d_M_exchange_71 rfl rfl ?_
  refine e_lload_n d_M_exchange_72 rfl rfl ?_
  refine e_iload d_M_exchange_73 rfl ?_
  refine e_iload d_M_exchange_75 rfl ?_
  refine e_callVd (v := none) (σ' := swQ (sI (sI σ 6 0 0 0) 6 0 0 0) i (bP σ i) t r s) (q := 6) (a := 0) (As := [.int (nI i), .long (t), .int (r), .int (s)]) (st := []) 0 0 d_M_exchange_77 cb_M_exchange_184 iv_M_swap rfl ⟨by decide, rfl⟩ rfl (Nat.le_of_ble_eq_true rfl) (by decide) (by decide) (ct_M_swap hl0 (σ := sI (sI σ 6 0 0 0) 6 0 0 0) (hM.of rfl rfl) hi hb1 hb4 hlk) ?_
  show Ex l G m_M_exchange (pmV G m_M_exchange (qd (.inr (some (.long (mxF (sI (sI σ 6 0 0 0) 6 0 0 0) i (bP σ i) t r s)))) (sI (swQ (sI (sI σ 6 0 0 0) 6 0 0 0) i (bP σ i) t r s) 6 0 0 0))) 80 [(0, .ref (6 + 16 * 0)), (1, .int (nI i)), (2, .long (t)), (4, .int (r)), (5, .int (s))] [] (swQ (sI (sI σ 6 0 0 0) 6 0 0 0) i (bP σ i) t r s) 0 0
  refine e_aload_n d_M_exchange_80 rfl rfl ?_
  refine e_aload_n d_M_exchange_81 rfl rfl ?_
  refine g_M_155 rfl d_M_exchange_82 ?_
  rw [show hI (swQ (sI (sI σ 6 0 0 0) 6 0 0 0) i (bP σ i) t r s) 6 (0) 25 = mxO (sI (sI σ 6 0 0 0) 6 0 0 0) i (bP σ i) t r s from swQ_ov]
  refine e_ifeq (tgt := 92) d_M_exchange_85 (by decide) (fun h85 => ?_) (fun h85 => absurd ho h85)
  refine e_iconst (v := 0) d_M_exchange_92 (by decide) ?_
  refine p_M_78 rfl d_M_exchange_93 ?_
  refine e_aload_n d_M_exchange_96 rfl rfl ?_
  refine g_M_155 rfl d_M_exchange_97 ?_
  rw [show hI (sI (swQ (sI (sI σ 6 0 0 0) 6 0 0 0) i (bP σ i) t r s) 6 (0) 0 (0)) 6 (0) 25 = mxO (sI (sI σ 6 0 0 0) 6 0 0 0) i (bP σ i) t r s from by rw [I_sI, if_neg (by omega)]; exact swQ_ov]
  refine e_ifeq (tgt := 107) d_M_exchange_100 (by decide) (fun h100 => ?_) (fun h100 => absurd ho h100)
  refine e_aload_n d_M_exchange_107 rfl rfl ?_
  refine g_M_170 rfl d_M_exchange_108 ?_
  rw [show hJ (sI (swQ (sI (sI σ 6 0 0 0) 6 0 0 0) i (bP σ i) t r s) 6 (0) 0 (0)) 6 (0) 26 = mxF (sI (sI σ 6 0 0 0) 6 0 0 0) i (bP σ i) t r s from by rw [J_sI]; exact swQ_f]
  exact e_lret d_M_exchange_111 rfl ⟨rfl, rfl⟩
set_option maxHeartbeats 4000000 in
set_option maxRecDepth 100000 in
theorem ct_M_exchange_o {l : Launch} (hl0 : l.stackTraces = false) {G : LG} {σ : HS} {i : Nat} {t : Int64} {r s : Int32} (hM : MS σ) (hi : i < 10) (hx : nnV σ (nI i) = 0 ∧ ndV 1000000 r = 0 ∧ ndV 1000000 s = 0) (hb : lbk σ i) (hc : ¬ csV σ i = 0) (ho : ¬ mxO (sI (sI σ 6 0 0 0) 6 0 0 0) i (bP σ i) t r s = 0) : Ct l G m_M_exchange [.ref (6 + 16 * 0), .int (nI i), .long (t), .int (r), .int (s)] (σ) (qd (.inr (some (.long 0))) (sI (swQ (sI (sI σ 6 0 0 0) 6 0 0 0) i (bP σ i) t r s) 6 0 0 3)) := by
  refine Ct.of hl0 rfl rfl (Nat.le_of_ble_eq_true rfl) ?_
  show Ex l G m_M_exchange (pmV G m_M_exchange (qd (.inr (some (.long 0))) (sI (swQ (sI (sI σ 6 0 0 0) 6 0 0 0) i (bP σ i) t r s) 6 0 0 3))) 0 [(0, .ref (6 + 16 * 0)), (1, .int (nI i)), (2, .long (t)), (4, .int (r)), (5, .int (s))] [] (σ) 0 0
  obtain ⟨b, hb4, hb1, hlk, hbe⟩ := csV_b hb hc
  subst hbe
  refine e_aload_n d_M_exchange_0 rfl rfl ?_
  refine e_aload_n d_M_exchange_1 rfl rfl ?_
  refine e_iload_n d_M_exchange_2 rfl rfl ?_
  refine e_callVd (v := some (.int (nnV σ (nI i)))) (σ' := σ) (q := 6) (a := 0) (As := [.int (nI i)]) (st := [.ref (6 + 16 * 0)]) 0 0 d_M_exchange_3 cb_M_exchange_115 iv_M_noNode rfl ⟨by decide, rfl⟩ rfl (Nat.le_of_ble_eq_true rfl) (by decide) (by decide) (ct_M_noNode hl0) ?_
  show Ex l G m_M_exchange (pmV G m_M_exchange (qd (.inr (some (.long 0))) (sI (swQ (sI (sI σ 6 0 0 0) 6 0 0 0) i (bP σ i) t r s) 6 0 0 3))) 6 [(0, .ref (6 + 16 * 0)), (1, .int (nI i)), (2, .long (t)), (4, .int (r)), (5, .int (s))] [.int (nnV σ (nI i)), .ref (6 + 16 * 0)] (σ) 0 0
  refine e_ifne (tgt := 27) d_M_exchange_6 (by decide) (fun h6 => absurd h6 (fun z => z hx.1)) (fun h6 => ?_)
  refine e_aload_n d_M_exchange_9 rfl rfl ?_
  refine e_iload d_M_exchange_10 rfl ?_
  refine e_callVd (v := some (.int (ndV 1000000 (r)))) (σ' := σ) (q := 6) (a := 0) (As := [.int (r)]) (st := [.ref (6 + 16 * 0)]) 0 0 d_M_exchange_12 cb_M_exchange_178 iv_M_noRest rfl ⟨by decide, rfl⟩ rfl (Nat.le_of_ble_eq_true rfl) (by decide) (by decide) (ct_M_noRest hl0) ?_
  show Ex l G m_M_exchange (pmV G m_M_exchange (qd (.inr (some (.long 0))) (sI (swQ (sI (sI σ 6 0 0 0) 6 0 0 0) i (bP σ i) t r s) 6 0 0 3))) 15 [(0, .ref (6 + 16 * 0)), (1, .int (nI i)), (2, .long (t)), (4, .int (r)), (5, .int (s))] [.int (ndV 1000000 (r)), .ref (6 + 16 * 0)] (σ) 0 0
  refine e_ifne (tgt := 27) d_M_exchange_15 (by decide) (fun h15 => absurd h15 (fun z => z hx.2.1)) (fun h15 => ?_)
  refine e_aload_n d_M_exchange_18 rfl rfl ?_
  refine e_iload d_M_exchange_19 rfl ?_
  refine e_callVd (v := some (.int (ndV 1000000 (s)))) (σ' := σ) (q := 6) (a := 0) (As := [.int (s)]) (st := [.ref (6 + 16 * 0)]) 0 0 d_M_exchange_21 cb_M_exchange_178 iv_M_noRest rfl ⟨by decide, rfl⟩ rfl (Nat.le_of_ble_eq_true rfl) (by decide) (by decide) (ct_M_noRest hl0) ?_
  show Ex l G m_M_exchange (pmV G m_M_exchange (qd (.inr (some (.long 0))) (sI (swQ (sI (sI σ 6 0 0 0) 6 0 0 0) i (bP σ i) t r s) 6 0 0 3))) 24 [(0, .ref (6 + 16 * 0)), (1, .int (nI i)), (2, .long (t)), (4, .int (r)), (5, .int (s))] [.int (ndV 1000000 (s)), .ref (6 + 16 * 0)] (σ) 0 0
  refine e_ifeq (tgt := 31) d_M_exchange_24 (by decide) (fun h24 => ?_) (fun h24 => absurd hx.2.2 h24)
  refine e_iconst (v := 0) d_M_exchange_31 (by decide) ?_
  refine p_M_78 rfl d_M_exchange_32 ?_
  refine e_aload_n d_M_exchange_35 rfl rfl ?_
  refine g_M_78 rfl d_M_exchange_36 ?_
  refine e_ifeq (tgt := 44) d_M_exchange_39 (by decide) (fun h39 => ?_) (fun h39 => absurd (by rw [th_1]) h39)
  refine e_aload_n d_M_exchange_44 rfl rfl ?_
  refine e_aload_n d_M_exchange_45 rfl rfl ?_
  refine e_iload_n d_M_exchange_46 rfl rfl ?_
  refine e_callVd (v := some (.int (csV (sI σ 6 0 0 0) i))) (σ' := sI (σ) 6 (0) 0 (0)) (q := 6) (a := 0) (As := [.int (nI i)]) (st := [.ref (6 + 16 * 0)]) 0 0 d_M_exchange_47 cb_M_exchange_181 iv_M_canSwap rfl ⟨by decide, rfl⟩ rfl (Nat.le_of_ble_eq_true rfl) (by decide) (by decide) (ct_M_canSwap hl0 (σ := sI σ 6 0 0 0) (hM.of rfl rfl) hi hb) ?_
  show Ex l G m_M_exchange (pmV G m_M_exchange (qd (.inr (some (.long 0))) (sI (swQ (sI (sI σ 6 0 0 0) 6 0 0 0) i (bP σ i) t r s) 6 0 0 3))) 50 [(0, .ref (6 + 16 * 0)), (1, .int (nI i)), (2, .long (t)), (4, .int (r)), (5, .int (s))] [.int (csV (sI σ 6 0 0 0) i), .ref (6 + 16 * 0)] (sI (σ) 6 (0) 0 (0)) 0 0
  refine e_ifeq (tgt := 57) d_M_exchange_50 (by decide) (fun h50 => absurd h50 hc) (fun h50 => ?_)
  refine e_iconst (v := 0) d_M_exchange_53 (by decide) ?_
  refine e_goto (tgt := 58) d_M_exchange_54 (by decide) ?_
  refine p_M_78 rfl d_M_exchange_58 ?_
  refine e_aload_n d_M_exchange_61 rfl rfl ?_
  refine g_M_78 rfl d_M_exchange_62 ?_
  refine e_ifeq (tgt := 70) d_M_exchange_65 (by decide) (fun h65 => ?_) (fun h65 => absurd (by rw [th_1]) h65)
  refine e_aload_n d_M_exchange_70 rfl rfl ?_
  refine e_iload_n d_M_exchange_71 rfl rfl ?_
  refine e_lload_n d_M_exchange_72 rfl rfl ?_
  refine e_iload d_M_exchange_73 rfl ?_
  refine e_iload d_M_exchange_75 rfl ?_
  refine e_callVd (v := none) (σ' := swQ (sI (sI σ 6 0 0 0) 6 0 0 0) i (bP σ i) t r s) (q := 6) (a := 0) (As := [.int (nI i), .long (t), .int (r), .int (s)]) (st := []) 0 0 d_M_exchange_77 cb_M_exchange_184 iv_M_swap rfl ⟨by decide, rfl⟩ rfl (Nat.le_of_ble_eq_true rfl) (by decide) (by decide) (ct_M_swap hl0 (σ := sI (sI σ 6 0 0 0) 6 0 0 0) (hM.of rfl rfl) hi hb1 hb4 hlk) ?_
  show Ex l G m_M_exchange (pmV G m_M_exchange (qd (.inr (some (.long 0))) (sI (swQ (sI (sI σ 6 0 0 0) 6 0 0 0) i (bP σ i) t r s) 6 0 0 3))) 80 [(0, .ref (6 + 16 * 0)), (1, .int (nI i)), (2, .long (t)), (4, .int (r)), (5, .int (s))] [] (swQ (sI (sI σ 6 0 0 0) 6 0 0 0) i (bP σ i) t r s) 0 0
  refine e_aload_n d_M_exchange_80 rfl rfl ?_
  refine e_aload_n d_M_exchange_81 rfl rfl ?_
  refine g_M_155 rfl d_M_exchange_82 ?_
  rw [show hI (swQ (sI (sI σ 6 0 0 0) 6 0 0 0) i (bP σ i) t r s) 6 (0) 25 = mxO (sI (sI σ 6 0 0 0) 6 0 0 0) i (bP σ i) t r s from swQ_ov]
  refine e_ifeq (tgt := 92) d_M_exchange_85 (by decide) (fun h85 => absurd h85 ho) (fun h85 => ?_)
  refine e_iconst (v := 3) d_M_exchange_88 (by decide) ?_
  refine e_goto (tgt := 93) d_M_exchange_89 (by decide) ?_
  refine p_M_78 rfl d_M_exchange_93 ?_
  refine e_aload_n d_M_exchange_96 rfl rfl ?_
  refine g_M_155 rfl d_M_exchange_97 ?_
  rw [show hI (sI (swQ (sI (sI σ 6 0 0 0) 6 0 0 0) i (bP σ i) t r s) 6 (0) 0 (3)) 6 (0) 25 = mxO (sI (sI σ 6 0 0 0) 6 0 0 0) i (bP σ i) t r s from by rw [I_sI, if_neg (by omega)]; exact swQ_ov]
  refine e_ifeq (tgt := 107) d_M_exchange_100 (by decide) (fun h100 => absurd h100 ho) (fun h100 => ?_)
  refine e_lconst (v := 0) d_M_exchange_103 (by decide) ?_
  refine e_goto (tgt := 111) d_M_exchange_104 (by decide) ?_
  exact e_lret d_M_exchange_111 rfl ⟨rfl, rfl⟩
