def mgS (σ : HS) (p : Nat) : HS := if hI σ 8 1 p = 0 then σ else hgS σ p
def mhS (σ : HS) (p : Nat) : HS := if hI σ 8 2 p = 0 then mgS σ p else if hI σ 7 10 (8 * p + 4) = 15 then mgS σ p else if hI σ 7 10 (8 * p + 3) = hI σ 7 0 (p / 4) then mgS σ p else htS σ p
theorem ct_M_hear {l : Launch} (hl0 : l.stackTraces = false) {G : LG} {σ : HS} {p : Nat} (hM : MS σ) (hp : p < 40) : Ct l G m_M_hear [.ref (6 + 16 * 0), .int (nI p)] σ (qd (.inr none) (mhS σ p)) := by
  have hg : ¬ heT σ p → Ct l G m_M_hear [.ref (6 + 16 * 0), .int (nI p)] σ (qd (.inr none) (mgS σ p)) := fun hn => by
    unfold mgS
    by_cases hk : hI σ 8 1 p = 0
    · rw [if_pos hk]; exact ct_M_hear_n hl0 hM hp hn hk
    · rw [if_neg hk]; exact ct_M_hear_g hl0 hM hp hn hk
  unfold mhS
  by_cases h1 : hI σ 8 2 p = 0
  · rw [if_pos h1]; exact hg (fun z => z.1 h1)
  · rw [if_neg h1]
    by_cases h2 : hI σ 7 10 (8 * p + 4) = 15
    · rw [if_pos h2]; exact hg (fun z => z.2.1 h2)
    · rw [if_neg h2]
      by_cases h3 : hI σ 7 10 (8 * p + 3) = hI σ 7 0 (p / 4)
      · rw [if_pos h3]; exact hg (fun z => z.2.2 h3)
      · rw [if_neg h3]; exact ct_M_hear_t hl0 hM hp ⟨h1, h2, h3⟩
theorem mgS_R {σ : HS} {p : Nat} : hR (mgS σ p) = hR σ ∧ hl (mgS σ p) = hl σ := by
  unfold mgS
  split
  · exact ⟨rfl, rfl⟩
  · exact ⟨rfl, rfl⟩
theorem mhS_R {σ : HS} {p : Nat} : hR (mhS σ p) = hR σ ∧ hl (mhS σ p) = hl σ := by
  unfold mhS
  split
  · exact mgS_R
  · split
    · exact mgS_R
    · split
      · exact mgS_R
      · exact ⟨rfl, rfl⟩
theorem mgS_q {σ : HS} {p q a k : Nat} (h7 : q ≠ 7) (h8 : q ≠ 8) : hI (mgS σ p) q a k = hI σ q a k := by
  unfold mgS
  split
  · rfl
  · unfold hgS; rw [I_sI, if_neg (fun z => h8 z.1), I_sI, if_neg (fun z => h7 z.1)]
theorem mhS_q {σ : HS} {p q a k : Nat} (h7 : q ≠ 7) (h8 : q ≠ 8) : hI (mhS σ p) q a k = hI σ q a k := by
  unfold mhS
  split
  · exact mgS_q h7 h8
  · split
    · exact mgS_q h7 h8
    · split
      · exact mgS_q h7 h8
      · unfold htS htK; rw [I_sA, if_neg (fun z => h7 z.1), I_sI, if_neg (fun z => h7 z.1), I_sI, if_neg (fun z => h8 z.1)]
def phS (σ : HS) : Nat → HS
  | 0 => σ
  | p + 1 => mhS (phS σ p) p
theorem phS_R {σ : HS} : ∀ p, hR (phS σ p) = hR σ ∧ hl (phS σ p) = hl σ
  | 0 => by rw [phS]; exact ⟨rfl, rfl⟩
  | p + 1 => by rw [phS]; exact ⟨mhS_R.1.trans (phS_R p).1, mhS_R.2.trans (phS_R p).2⟩
theorem phS_q {σ : HS} {q a k : Nat} (h7 : q ≠ 7) (h8 : q ≠ 8) : ∀ p, hI (phS σ p) q a k = hI σ q a k
  | 0 => by rw [phS]
  | p + 1 => by rw [phS, mhS_q h7 h8]; exact phS_q h7 h8 p
/-- the state behind a round -/
def paS (σ : HS) (n : Nat) : HS := faS (phS (snS σ (4 * n)).1 (4 * n)) n
set_option maxHeartbeats 4000000 in
theorem lp_M_pass {l : Launch} (hl0 : l.stackTraces = false) {G : LG} {σ : HS} {c : Int32} (hM : MS σ) {n : Nat} (hn10 : n ≤ 10) (hnn : hI σ 6 0 1 = nI n) : ∀ m p, p + m = 4 * n → Ex l G m_M_pass (pmV G m_M_pass (qd (.inr (some (.int c))) (faS (phS σ (4 * n)) n))) 7 [(2, .int (nI p)), (1, .int (c)), (0, .ref (6 + 16 * 0))] [] (phS σ p) 0 0 := by
  intro m
  induction m with
  | zero =>
    intro p hp
    obtain rfl : p = 4 * n := by omega
    refine e_iload_n d_M_pass_7 rfl rfl ?_
    refine e_iconst (v := 4) d_M_pass_8 (by decide) ?_
    refine e_aload_n d_M_pass_9 rfl rfl ?_
    refine g_M_100 rfl d_M_pass_10 ?_
    rw [show hI (phS σ (4 * n)) 6 (0) 1 = nI n from by rw [phS_q (by decide) (by decide)]; exact hnn]
    refine e_imul d_M_pass_13 ?_
    rw [show (4) * (nI n) = nI (4 * n) from by rw [show (4 : Int32) = nI 4 from by decide +kernel, nJ_mul]]
    refine e_icmpge (tgt := 28) d_M_pass_14 (by decide) (fun h14 => ?_) (fun h14 => absurd (nI_le (Nat.le_refl _) (by omega)) h14)
    refine e_aload_n d_M_pass_28 rfl rfl ?_
    refine e_callVd (v := none) (σ' := faS (phS σ (4 * n)) n) (q := 6) (a := 0) (As := []) (st := []) 0 0 d_M_pass_29 cb_M_pass_112 iv_M_findAll rfl ⟨by decide, rfl⟩ rfl (Nat.le_of_ble_eq_true rfl) (by decide) (by decide) (ct_M_findAll hl0 (hM.of (phS_R (4 * n)).1 (phS_R (4 * n)).2) hn10 (by rw [phS_q (by decide) (by decide)]; exact hnn)) ?_
    show Ex l G m_M_pass (pmV G m_M_pass (qd (.inr (some (.int c))) (faS (phS σ (4 * n)) n))) 32 [(2, .int (nI (4 * n))), (1, .int (c)), (0, .ref (6 + 16 * 0))] [] (faS (phS σ (4 * n)) n) 0 0
    refine e_iload_n d_M_pass_32 rfl rfl ?_
    exact e_iret d_M_pass_33 rfl ⟨rfl, rfl⟩
  | succ m ih =>
    intro p hp
    have hM' : MS (phS σ p) := hM.of (phS_R p).1 (phS_R p).2
    refine e_iload_n d_M_pass_7 rfl rfl ?_
    refine e_iconst (v := 4) d_M_pass_8 (by decide) ?_
    refine e_aload_n d_M_pass_9 rfl rfl ?_
    refine g_M_100 rfl d_M_pass_10 ?_
    rw [show hI (phS σ p) 6 (0) 1 = nI n from by rw [phS_q (by decide) (by decide)]; exact hnn]
    refine e_imul d_M_pass_13 ?_
    rw [show (4) * (nI n) = nI (4 * n) from by rw [show (4 : Int32) = nI 4 from by decide +kernel, nJ_mul]]
    refine e_icmpge (tgt := 28) d_M_pass_14 (by decide) (fun h14 => absurd h14 (nI_ge (show p < 4 * n by omega) (by omega))) (fun h14 => ?_)
    refine e_aload_n d_M_pass_17 rfl rfl ?_
    refine e_iload_n d_M_pass_18 rfl rfl ?_
    refine e_callVd (v := none) (σ' := phS σ (p + 1)) (q := 6) (a := 0) (As := [.int (nI p)]) (st := []) 0 0 d_M_pass_19 cb_M_pass_140 iv_M_hear rfl ⟨by decide, rfl⟩ rfl (Nat.le_of_ble_eq_true rfl) (by decide) (by decide) (ct_M_hear hl0 hM' (by omega)) ?_
    show Ex l G m_M_pass (pmV G m_M_pass (qd (.inr (some (.int c))) (faS (phS σ (4 * n)) n))) 22 [(2, .int (nI p)), (1, .int (c)), (0, .ref (6 + 16 * 0))] [] (phS σ (p + 1)) 0 0
    refine e_iinc (v := nI (p + 1)) (lv' := [(2, .int (nI (p + 1))), (1, .int (c)), (0, .ref (6 + 16 * 0))]) d_M_pass_22 rfl (ofI1 p) (by decide) rfl ?_
    refine e_goto (tgt := 7) d_M_pass_25 (by decide) ?_
    exact ih (p + 1) (by omega)
set_option maxHeartbeats 4000000 in
set_option maxRecDepth 100000 in
theorem ct_M_pass {l : Launch} (hl0 : l.stackTraces = false) {G : LG} {σ : HS} (hM : MS σ) {n : Nat} (hn10 : n ≤ 10) (hnn : hI σ 6 0 1 = nI n) (hL : ∀ p, p < 4 * n → hI σ 7 7 p = 1 → lok σ p) (hB : ∀ i, i < n → bok σ i)  : Ct l G m_M_pass [.ref (6 + 16 * 0)] (σ) (qd (.inr (some (.int (snS σ (4 * n)).2))) (paS σ n)) := by
  refine Ct.of hl0 rfl rfl (Nat.le_of_ble_eq_true rfl) ?_
  show Ex l G m_M_pass (pmV G m_M_pass (qd (.inr (some (.int (snS σ (4 * n)).2))) (paS σ n))) 0 [(0, .ref (6 + 16 * 0))] [] (σ) 0 0
  refine e_aload_n d_M_pass_0 rfl rfl ?_
  refine e_callVd (v := some (.int ((snS σ (4 * n)).2))) (σ' := (snS σ (4 * n)).1) (q := 6) (a := 0) (As := []) (st := []) 0 0 d_M_pass_1 cb_M_pass_136 iv_M_sendAll rfl ⟨by decide, rfl⟩ rfl (Nat.le_of_ble_eq_true rfl) (by decide) (by decide) (ct_M_sendAll hl0 hM hn10 hnn hL hB) ?_
  show Ex l G m_M_pass (pmV G m_M_pass (qd (.inr (some (.int (snS σ (4 * n)).2))) (paS σ n))) 4 [(0, .ref (6 + 16 * 0))] [.int ((snS σ (4 * n)).2)] ((snS σ (4 * n)).1) 0 0
  refine e_istore_n (lv' := [(1, .int ((snS σ (4 * n)).2)), (0, .ref (6 + 16 * 0))]) d_M_pass_4 rfl (by decide) rfl ?_
  refine e_iconst (v := 0) d_M_pass_5 (by decide) ?_
  refine e_istore_n (lv' := [(2, .int (0)), (1, .int ((snS σ (4 * n)).2)), (0, .ref (6 + 16 * 0))]) d_M_pass_6 rfl (by decide) rfl ?_
  exact e_lv (lv' := [(2, .int (nI 0)), (1, .int ((snS σ (4 * n)).2)), (0, .ref (6 + 16 * 0))]) ⟨rfl, rfl, rfl, trivial⟩ (lp_M_pass hl0 (hM.of (snS_R (4 * n)).1 (snS_R (4 * n)).2) hn10 (by rw [snS_I (by omega) (by omega)]; exact hnn) (4 * n) 0 (by omega))
