/-- one round of settling; settling from the k-th round on, m rounds left -/
def mstp (n : Nat) (σ : HS) : HS := paS (wrS (rmS σ 40) 320) n
def msQ (n : Nat) : Nat → Nat → HS → HS × Int32
  | 0, _, σ => (σ, 60)
  | m + 1, k, σ => if ibS (mstp n σ) 40 = 0 then msQ n m (k + 1) (mstp n σ) else (mstp n σ, nI k)
theorem lp60f : ∀ k, k ≤ 60 → ¬ (60 : Int32) < nI k := fun k h => by rw [show (60 : Int32) = nI 60 by decide +kernel]; exact nI_nlt h (by omega)
theorem lp60t : (60 : Int32) < nI 61 := by decide +kernel
set_option maxHeartbeats 4000000 in
theorem lp_M_settle {l : Launch} (hl0 : l.stackTraces = false) {G : LG} {n : Nat} {I : HS → Prop} (hI1 : ∀ τ, I τ → MS τ ∧ (∀ p, p < 40 → hI τ 8 1 p = 0 ∨ hI τ 8 1 p = 1) ∧ pok n (wrS (rmS τ 40) 320)) (hI2 : ∀ τ, I τ → I (mstp n τ)) : ∀ m k (σ : HS), I σ → k + m = 61 → Ex l G m_M_settle (pmV G m_M_settle (qd (.inr (some (.int (msQ n m k σ).2))) (msQ n m k σ).1)) 7 [(1, .int (nI k)), (0, .ref (6 + 16 * 0))] [] (σ) 0 0 := by
  intro m
  induction m with
  | zero =>
    intro k σ hσ hk
    obtain rfl : k = 61 := by omega
    refine e_iload_n d_M_settle_7 rfl rfl ?_
    refine e_bipush (v := 60) d_M_settle_8 (by decide) ?_
    refine e_icmpgt (tgt := 37) d_M_settle_10 (by decide) (fun h10 => ?_) (fun h10 => absurd lp60t h10)
    refine e_bipush (v := 60) d_M_settle_37 (by decide) ?_
    exact e_iret d_M_settle_39 rfl ⟨by simp [msQ], by simp [msQ]⟩
  | succ m ih =>
    intro k σ hσ hk
    obtain ⟨hM, hz, q1, q2, q3, q4, q5⟩ := hI1 σ hσ
    have h9 := ih (k + 1) (mstp n σ) (hI2 σ hσ) (by omega)
    refine e_iload_n d_M_settle_7 rfl rfl ?_
    refine e_bipush (v := 60) d_M_settle_8 (by decide) ?_
    refine e_icmpgt (tgt := 37) d_M_settle_10 (by decide) (fun h10 => absurd h10 (lp60f k (by omega))) (fun h10 => ?_)
    refine e_aload_n d_M_settle_13 rfl rfl ?_
    refine e_callVd (v := none) (σ' := wrS (rmS σ 40) 320) (q := 6) (a := 0) (As := []) (st := []) 0 0 d_M_settle_14 cb_M_settle_146 iv_M_remember rfl ⟨by decide, rfl⟩ rfl (Nat.le_of_ble_eq_true rfl) (by decide) (by decide) (ct_M_remember hl0 hM hz) ?_
    show Ex l G m_M_settle (pmV G m_M_settle (qd (.inr (some (.int (msQ n (m + 1) k σ).2))) (msQ n (m + 1) k σ).1)) 17 [(1, .int (nI k)), (0, .ref (6 + 16 * 0))] [] (wrS (rmS σ 40) 320) 0 0
    refine e_aload_n d_M_settle_17 rfl rfl ?_
    refine e_callVd (v := some (.int ((snS (wrS (rmS σ 40) 320) (4 * n)).2))) (σ' := mstp n σ) (q := 6) (a := 0) (As := []) (st := []) 0 0 d_M_settle_18 cb_M_settle_143 iv_M_pass rfl ⟨by decide, rfl⟩ rfl (Nat.le_of_ble_eq_true rfl) (by decide) (by decide) (ct_M_pass hl0 q1 q2 q3 q4 q5) ?_
    show Ex l G m_M_settle (pmV G m_M_settle (qd (.inr (some (.int (msQ n (m + 1) k σ).2))) (msQ n (m + 1) k σ).1)) 21 [(1, .int (nI k)), (0, .ref (6 + 16 * 0))] [.int ((snS (wrS (rmS σ 40) 320) (4 * n)).2)] (mstp n σ) 0 0
    refine e_istore_n (lv' := [(2, .int ((snS (wrS (rmS σ 40) 320) (4 * n)).2)), (1, .int (nI k)), (0, .ref (6 + 16 * 0))]) d_M_settle_21 rfl (by decide) rfl ?_
    refine e_aload_n d_M_settle_22 rfl rfl ?_
    refine e_callVd (v := some (.int (ibS (mstp n σ) 40))) (σ' := mstp n σ) (q := 6) (a := 0) (As := []) (st := []) 0 0 d_M_settle_23 cb_M_settle_149 iv_M_isAsBefore rfl ⟨by decide, rfl⟩ rfl (Nat.le_of_ble_eq_true rfl) (by decide) (by decide) (ct_M_isAsBefore hl0 (q1.of paS_R.1 paS_R.2)) ?_
    show Ex l G m_M_settle (pmV G m_M_settle (qd (.inr (some (.int (msQ n (m + 1) k σ).2))) (msQ n (m + 1) k σ).1)) 26 [(2, .int ((snS (wrS (rmS σ 40) 320) (4 * n)).2)), (1, .int (nI k)), (0, .ref (6 + 16 * 0))] [.int (ibS (mstp n σ) 40)] (mstp n σ) 0 0
    refine e_ifeq (tgt := 31) d_M_settle_26 (by decide) (fun h26 => ?_) (fun h26 => ?_)
    ·
      refine e_iinc (v := nI (k + 1)) (lv' := [(1, .int (nI (k + 1))), (2, .int ((snS (wrS (rmS σ 40) 320) (4 * n)).2)), (0, .ref (6 + 16 * 0))]) d_M_settle_31 rfl (ofI1 k) (by decide) rfl ?_
      refine e_goto (tgt := 7) d_M_settle_34 (by decide) ?_
      exact e_lv (lv' := [(1, .int (nI (k + 1))), (0, .ref (6 + 16 * 0))]) ⟨rfl, rfl, trivial⟩ (by rw [show msQ n (m + 1) k σ = msQ n m (k + 1) (mstp n σ) by rw [msQ, if_pos h26]]; exact h9)
    ·
      refine e_iload_n d_M_settle_29 rfl rfl ?_
      exact e_iret d_M_settle_30 rfl ⟨by simp [msQ, h26], by simp [msQ, h26]⟩
set_option maxHeartbeats 4000000 in
set_option maxRecDepth 100000 in
theorem ct_M_settle {l : Launch} (hl0 : l.stackTraces = false) {G : LG} {σ : HS} {n : Nat} {I : HS → Prop} (hI1 : ∀ τ, I τ → MS τ ∧ (∀ p, p < 40 → hI τ 8 1 p = 0 ∨ hI τ 8 1 p = 1) ∧ pok n (wrS (rmS τ 40) 320)) (hI2 : ∀ τ, I τ → I (mstp n τ)) (hs : I (sI σ 6 0 0 0))  : Ct l G m_M_settle [.ref (6 + 16 * 0)] (σ) (qd (.inr (some (.int (msQ n 60 1 (sI σ 6 0 0 0)).2))) (msQ n 60 1 (sI σ 6 0 0 0)).1) := by
  refine Ct.of hl0 rfl rfl (Nat.le_of_ble_eq_true rfl) ?_
  show Ex l G m_M_settle (pmV G m_M_settle (qd (.inr (some (.int (msQ n 60 1 (sI σ 6 0 0 0)).2))) (msQ n 60 1 (sI σ 6 0 0 0)).1)) 0 [(0, .ref (6 + 16 * 0))] [] (σ) 0 0
  refine e_aload_n d_M_settle_0 rfl rfl ?_
  refine e_iconst (v := 0) d_M_settle_1 (by decide) ?_
  refine p_M_78 rfl d_M_settle_2 ?_
  refine e_iconst (v := 1) d_M_settle_5 (by decide) ?_
  refine e_istore_n (lv' := [(1, .int (1)), (0, .ref (6 + 16 * 0))]) d_M_settle_6 rfl (by decide) rfl ?_
  exact e_lv (lv' := [(1, .int (nI 1)), (0, .ref (6 + 16 * 0))]) ⟨rfl, rfl, trivial⟩ (lp_M_settle hl0 hI1 hI2 60 1 (sI σ 6 0 0 0) hs rfl)
