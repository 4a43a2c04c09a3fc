def rmS (σ : HS) (p : Nat) : HS := sA (sA σ 8 3 (cpy (hI σ 8 1) p (hI σ 8 3))) 7 12 (cpy (hI σ 7 7) p (hI σ 7 12))
theorem rmS_0 {σ : HS} : rmS σ 0 = σ := by
  unfold rmS
  rw [cpy_0, cpy_0, sA_self]
  exact sA_self
theorem rmS_s {σ : HS} {p : Nat} : sI (sI (rmS σ p) 8 3 p (hI σ 8 1 p)) 7 12 p (hI σ 7 7 p) = rmS σ (p + 1) := by
  refine hs_ext rfl rfl (fun q a k => ?_) (fun _ _ _ => rfl) (fun _ _ _ => rfl)
  unfold rmS
  simp only [I_sI, I_sA]
  by_cases h1 : q = 7 ∧ a = 12
  · obtain ⟨rfl, rfl⟩ := h1
    rw [← cpy_s]
    simp [upI]
  · by_cases h2 : q = 8 ∧ a = 3
    · obtain ⟨rfl, rfl⟩ := h2
      rw [← cpy_s (f := hI σ 8 1)]
      simp [upI]
    · have h3 : ¬ (q = 7 ∧ a = 12 ∧ k = p) := fun z => h1 ⟨z.1, z.2.1⟩
      have h4 : ¬ (q = 8 ∧ a = 3 ∧ k = p) := fun z => h2 ⟨z.1, z.2.1⟩
      simp [h1, h2, h3, h4]
theorem rmS_I {σ : HS} {p q a k : Nat} (h1 : ¬ (q = 7 ∧ a = 12)) (h2 : ¬ (q = 8 ∧ a = 3)) : hI (rmS σ p) q a k = hI σ q a k := by
  unfold rmS
  rw [I_sA, if_neg h1, I_sA, if_neg h2]
def wrS (τ : HS) (i : Nat) : HS := sA τ 7 11 (cpy (hI τ 7 9) i (hI τ 7 11))
theorem wrS_0 {τ : HS} : wrS τ 0 = τ := by unfold wrS; rw [cpy_0]; exact sA_self
theorem lp320f : ∀ k, k < 320 → ¬ (320 : Int32) ≤ nI k := fun k h => by rw [show (320 : Int32) = nI 320 by decide +kernel]; exact nI_ge h (by decide)
theorem lp320t : (320 : Int32) ≤ nI 320 := by decide +kernel
set_option maxHeartbeats 4000000 in
theorem lq_M_remember {l : Launch} (hl0 : l.stackTraces = false) {G : LG} {τ : HS} (hM : MS τ) : ∀ m j, j + m = 320 → Ex l G m_M_remember (pmV G m_M_remember (qd (.inr none) (wrS τ 320))) 40 [(1, .int (nI j)), (0, .ref (6 + 16 * 0))] [] (wrS τ j) 0 0 := by
  intro m
  induction m with
  | zero =>
    intro j hj
    obtain rfl : j = 320 := by omega
    refine e_iload_n d_M_remember_40 rfl rfl ?_
    refine e_sipush (v := 320) d_M_remember_41 (by decide) ?_
    refine e_icmpge (tgt := 65) d_M_remember_44 (by decide) (fun h44 => ?_) (fun h44 => absurd lp320t h44)
    exact e_vret d_M_remember_65 rfl ⟨rfl, rfl⟩
  | succ m ih =>
    intro j hj
    have hj3 : j < 320 := by omega
    refine e_iload_n d_M_remember_40 rfl rfl ?_
    refine e_sipush (v := 320) d_M_remember_41 (by decide) ?_
    refine e_icmpge (tgt := 65) d_M_remember_44 (by decide) (fun h44 => absurd h44 (lp320f j hj3)) (fun h44 => ?_)
    refine e_aload_n d_M_remember_47 rfl rfl ?_
    refine g_M_63 (b := 7 + 16 * 11) rfl d_M_remember_48 hM.a_was ?_
    refine e_iload_n d_M_remember_51 rfl rfl ?_
    refine e_aload_n d_M_remember_52 rfl rfl ?_
    refine g_M_51 (b := 7 + 16 * 9) rfl d_M_remember_53 hM.a_data ?_
    refine e_iload_n d_M_remember_56 rfl rfl ?_
    refine e_iald d_M_remember_57 (show vp_in (nI j) (hl τ 7 9) from by rw [hM.l_data]; exact nI_in (by omega) (by decide)) ?_
    rw [nI_clamp (show j < 2 ^ 31 by omega)]
    rw [show hI (wrS τ j) 7 (9) (j) = hI τ 7 9 j from by unfold wrS; rw [I_sA, if_neg (by omega)]]
    refine e_iast d_M_remember_58 (show vp_in (nI j) (hl τ 7 11) from by rw [hM.l_was]; exact nI_in (by omega) (by decide)) ?_
    rw [nI_clamp (show j < 2 ^ 31 by omega)]
    rw [show sI (wrS τ j) 7 11 j (hI τ 7 9 j) = wrS τ (j + 1) from by unfold wrS; rw [sA_sI, cpy_s]]
    refine e_iinc (v := nI (j + 1)) (lv' := [(1, .int (nI (j + 1))), (0, .ref (6 + 16 * 0))]) d_M_remember_59 rfl (ofI1 j) (by decide) rfl ?_
    refine e_goto (tgt := 40) d_M_remember_62 (by decide) ?_
    exact ih (j + 1) (by omega)
set_option maxHeartbeats 4000000 in
theorem lp_M_remember {l : Launch} (hl0 : l.stackTraces = false) {G : LG} {σ : HS} (hM : MS σ) (hk : ∀ p, p < 40 → hI σ 8 1 p = 0 ∨ hI σ 8 1 p = 1) : ∀ m p, p + m = 40 → Ex l G m_M_remember (pmV G m_M_remember (qd (.inr none) (wrS (rmS σ 40) 320))) 2 [(1, .int (nI p)), (0, .ref (6 + 16 * 0))] [] (rmS σ p) 0 0 := by
  intro m
  induction m with
  | zero =>
    intro p hp
    obtain rfl : p = 40 := by omega
    refine e_iload_n d_M_remember_2 rfl rfl ?_
    refine e_bipush (v := 40) d_M_remember_3 (by decide) ?_
    refine e_icmpge (tgt := 38) d_M_remember_5 (by decide) (fun h5 => ?_) (fun h5 => absurd lp40t h5)
    refine e_iconst (v := 0) d_M_remember_38 (by decide) ?_
    refine e_istore_n (lv' := [(1, .int (0)), (0, .ref (6 + 16 * 0))]) d_M_remember_39 rfl (by decide) rfl ?_
    exact e_lv (lv' := [(1, .int (nI 0)), (0, .ref (6 + 16 * 0))]) ⟨rfl, rfl, trivial⟩ (by have h := lq_M_remember (l := l) (G := G) hl0 (τ := rmS σ 40) (hM.of rfl rfl) 320 0 rfl; rw [wrS_0] at h; exact h)
  | succ m ih =>
    intro p hp
    have hp4 : p < 40 := by omega
    have hM' : MS (rmS σ p) := hM.of rfl rfl
    refine e_iload_n d_M_remember_2 rfl rfl ?_
    refine e_bipush (v := 40) d_M_remember_3 (by decide) ?_
    refine e_icmpge (tgt := 38) d_M_remember_5 (by decide) (fun h5 => absurd h5 (lp40f p hp4)) (fun h5 => ?_)
    refine e_aload_n d_M_remember_8 rfl rfl ?_
    refine g_M_60 (b := 8 + 16 * 3) rfl d_M_remember_9 hM'.a_kept ?_
    refine e_iload_n d_M_remember_12 rfl rfl ?_
    refine e_aload_n d_M_remember_13 rfl rfl ?_
    refine g_M_45 (b := 8 + 16 * 1) rfl d_M_remember_14 hM'.a_keeps ?_
    refine e_iload_n d_M_remember_17 rfl rfl ?_
    refine e_zald d_M_remember_18 (show vp_in (nI p) (hl (rmS σ p) 8 1) from by rw [hM'.l_keeps]; exact nI_in (by omega) (by decide)) ?_
    rw [nI_clamp (show p < 2 ^ 31 by omega)]
    rw [show hI (rmS σ p) 8 (1) (p) = hI σ 8 1 p from rmS_I (by omega) (by omega)]
    refine e_zast d_M_remember_19 (show vp_in (nI p) (hl (rmS σ p) 8 3) from by rw [hM'.l_kept]; exact nI_in (by omega) (by decide)) (hk p hp4) ?_
    rw [nI_clamp (show p < 2 ^ 31 by omega)]
    refine e_aload_n d_M_remember_20 rfl rfl ?_
    refine g_M_66 (b := 7 + 16 * 12) rfl d_M_remember_21 hM'.a_wasState ?_
    refine e_iload_n d_M_remember_24 rfl rfl ?_
    refine e_aload_n d_M_remember_25 rfl rfl ?_
    refine g_M_42 (b := 7 + 16 * 7) rfl d_M_remember_26 hM'.a_states ?_
    refine e_iload_n d_M_remember_29 rfl rfl ?_
    refine e_iald d_M_remember_30 (show vp_in (nI p) (hl (rmS σ p) 7 7) from by rw [hM'.l_states]; exact nI_in (by omega) (by decide)) ?_
    rw [nI_clamp (show p < 2 ^ 31 by omega)]
    rw [show hI (sI (rmS σ p) 8 (3) (p) (hI σ 8 1 p)) 7 (7) (p) = hI σ 7 7 p from by rw [I_sI, if_neg (by omega)]; exact rmS_I (by omega) (by omega)]
    refine e_iast d_M_remember_31 (show vp_in (nI p) (hl (rmS σ p) 7 12) from by rw [hM'.l_wasState]; exact nI_in (by omega) (by decide)) ?_
    rw [nI_clamp (show p < 2 ^ 31 by omega)]
    rw [rmS_s]
    refine e_iinc (v := nI (p + 1)) (lv' := [(1, .int (nI (p + 1))), (0, .ref (6 + 16 * 0))]) d_M_remember_32 rfl (ofI1 p) (by decide) rfl ?_
    refine e_goto (tgt := 2) d_M_remember_35 (by decide) ?_
    exact ih (p + 1) (by omega)
set_option maxHeartbeats 4000000 in
set_option maxRecDepth 100000 in
theorem ct_M_remember {l : Launch} (hl0 : l.stackTraces = false) {G : LG} {σ : HS} (hM : MS σ) (hk : ∀ p, p < 40 → hI σ 8 1 p = 0 ∨ hI σ 8 1 p = 1)  : Ct l G m_M_remember [.ref (6 + 16 * 0)] (σ) (qd (.inr none) (wrS (rmS σ 40) 320)) := by
  refine Ct.of hl0 rfl rfl (Nat.le_of_ble_eq_true rfl) ?_
  show Ex l G m_M_remember (pmV G m_M_remember (qd (.inr none) (wrS (rmS σ 40) 320))) 0 [(0, .ref (6 + 16 * 0))] [] (σ) 0 0
  refine e_iconst (v := 0) d_M_remember_0 (by decide) ?_
  refine e_istore_n (lv' := [(1, .int (0)), (0, .ref (6 + 16 * 0))]) d_M_remember_1 rfl (by decide) rfl ?_
  exact e_lv (lv' := [(1, .int (nI 0)), (0, .ref (6 + 16 * 0))]) ⟨rfl, rfl, trivial⟩ (by have h := lp_M_remember (l := l) (G := G) hl0 hM hk 40 0 rfl; rw [rmS_0] at h; exact h)
theorem paS_q {σ : HS} {n k : Nat} : hI (paS σ n) 6 0 k = hI σ 6 0 k := by
  unfold paS
  rw [faS_q (by decide), phS_q (by decide) (by decide), snS_I (by omega) (by omega)]
theorem paS_R {σ : HS} {n : Nat} : hR (paS σ n) = hR σ ∧ hl (paS σ n) = hl σ := by
  unfold paS
  exact ⟨((faS_R n).1.trans (phS_R _).1).trans (snS_R _).1, ((faS_R n).2.trans (phS_R _).2).trans (snS_R _).2⟩
/-- what pass needs of a state -/
def pok (n : Nat) (σ : HS) : Prop := MS σ ∧ n ≤ 10 ∧ hI σ 6 0 1 = nI n ∧ (∀ p, p < 4 * n → hI σ 7 7 p = 1 → lok σ p) ∧ ∀ i, i < n → bok σ i
def mrS (σ : HS) (n : Nat) : Nat → HS
  | 0 => σ
  | k + 1 => paS (mrS σ n k) n
def mrN (σ : HS) (n : Nat) : Nat → Int32
  | 0 => 0
  | k + 1 => mrN σ n k + (snS (mrS σ n k) (4 * n)).2
theorem mrS_q {σ : HS} {n x : Nat} : ∀ k, hI (mrS σ n k) 6 0 x = hI σ 6 0 x
  | 0 => by rw [mrS]
  | k + 1 => by rw [mrS, paS_q]; exact mrS_q k
set_option maxHeartbeats 4000000 in
theorem lp_M_round {l : Launch} (hl0 : l.stackTraces = false) {G : LG} {σ : HS} {n r : Nat} (hr : r ≤ 50) (h0 : hI σ 6 0 0 = 0) (hp : ∀ k, k < r → pok n (mrS σ n k)) : ∀ m k, k + m = r → Ex l G m_M_round (pmV G m_M_round (qd (.inr (some (.int (mrN σ n r)))) (mrS σ n r))) 24 [(3, .int (nI k)), (2, .int (mrN σ n k)), (0, .ref (6 + 16 * 0)), (1, .int (nI r))] [] (mrS σ n k) 0 0 := by
  intro m
  induction m with
  | zero =>
    intro k hk
    obtain rfl : k = r := by omega
    refine e_iload_n d_M_round_24 rfl rfl ?_
    refine e_iload_n d_M_round_25 rfl rfl ?_
    refine e_icmpge (tgt := 49) d_M_round_26 (by decide) (fun h26 => ?_) (fun h26 => absurd (nI_le (Nat.le_refl _) (by omega)) h26)
    refine e_iload_n d_M_round_49 rfl rfl ?_
    exact e_iret d_M_round_50 rfl ⟨rfl, rfl⟩
  | succ m ih =>
    intro k hk
    have hkr : k < r := by omega
    obtain ⟨q1, q2, q3, q4, q5⟩ := hp k hkr
    refine e_iload_n d_M_round_24 rfl rfl ?_
    refine e_iload_n d_M_round_25 rfl rfl ?_
    refine e_icmpge (tgt := 49) d_M_round_26 (by decide) (fun h26 => absurd h26 (nI_ge hkr (by omega))) (fun h26 => ?_)
    refine e_aload_n d_M_round_29 rfl rfl ?_
    refine g_M_78 rfl d_M_round_30 ?_
    refine e_ifne (tgt := 49) d_M_round_33 (by decide) (fun h33 => absurd h33 (fun z => z (by rw [mrS_q]; exact h0))) (fun h33 => ?_)
    refine e_iload_n d_M_round_36 rfl rfl ?_
    refine e_aload_n d_M_round_37 rfl rfl ?_
    refine e_callVd (v := some (.int ((snS (mrS σ n k) (4 * n)).2))) (σ' := mrS σ n (k + 1)) (q := 6) (a := 0) (As := []) (st := [.int (mrN σ n k)]) 0 0 d_M_round_38 cb_M_round_143 iv_M_pass rfl ⟨by decide, rfl⟩ rfl (Nat.le_of_ble_eq_true rfl) (by decide) (by decide) (ct_M_pass hl0 q1 q2 q3 q4 q5) ?_
    show Ex l G m_M_round (pmV G m_M_round (qd (.inr (some (.int (mrN σ n r)))) (mrS σ n r))) 41 [(3, .int (nI k)), (2, .int (mrN σ n k)), (0, .ref (6 + 16 * 0)), (1, .int (nI r))] [.int ((snS (mrS σ n k) (4 * n)).2), .int (mrN σ n k)] (mrS σ n (k + 1)) 0 0
    refine e_iadd d_M_round_41 ?_
    refine e_istore_n (lv' := [(2, .int ((mrN σ n k) + ((snS (mrS σ n k) (4 * n)).2))), (3, .int (nI k)), (0, .ref (6 + 16 * 0)), (1, .int (nI r))]) d_M_round_42 rfl (by decide) rfl ?_
    refine e_iinc (v := nI (k + 1)) (lv' := [(3, .int (nI (k + 1))), (2, .int ((mrN σ n k) + ((snS (mrS σ n k) (4 * n)).2))), (0, .ref (6 + 16 * 0)), (1, .int (nI r))]) d_M_round_43 rfl (ofI1 k) (by decide) rfl ?_
    refine e_goto (tgt := 24) d_M_round_46 (by decide) ?_
    exact e_lv (lv' := [(3, .int (nI (k + 1))), (2, .int (mrN σ n (k + 1))), (0, .ref (6 + 16 * 0)), (1, .int (nI r))]) ⟨rfl, rfl, rfl, rfl, trivial⟩ (ih (k + 1) (by omega))
set_option maxHeartbeats 4000000 in
set_option maxRecDepth 100000 in
theorem ct_M_round {l : Launch} (hl0 : l.stackTraces = false) {G : LG} {σ : HS} {n r : Nat} (hr1 : 1 ≤ r) (hr5 : r ≤ 50) (hp : ∀ k, k < r → pok n (mrS (sI σ 6 0 0 0) n k))  : Ct l G m_M_round [.ref (6 + 16 * 0), .int (nI r)] (σ) (qd (.inr (some (.int (mrN (sI σ 6 0 0 0) n r)))) (mrS (sI σ 6 0 0 0) n r)) := by
  refine Ct.of hl0 rfl rfl (Nat.le_of_ble_eq_true rfl) ?_
  show Ex l G m_M_round (pmV G m_M_round (qd (.inr (some (.int (mrN (sI σ 6 0 0 0) n r)))) (mrS (sI σ 6 0 0 0) n r))) 0 [(0, .ref (6 + 16 * 0)), (1, .int (nI r))] [] (σ) 0 0
  refine e_aload_n d_M_round_0 rfl rfl ?_
  refine e_iload_n d_M_round_1 rfl rfl ?_
  refine e_iconst (v := 1) d_M_round_2 (by decide) ?_
  refine e_icmplt (tgt := 12) d_M_round_3 (by decide) (fun h3 => absurd h3 (n1_le r hr1 hr5)) (fun h3 => ?_)
  refine e_iload_n d_M_round_6 rfl rfl ?_
  refine e_bipush (v := 50) d_M_round_7 (by decide) ?_
  refine e_icmple (tgt := 16) d_M_round_9 (by decide) (fun h9 => ?_) (fun h9 => absurd (n50_le r hr5) h9)
  refine e_iconst (v := 0) d_M_round_16 (by decide) ?_
  refine p_M_78 rfl d_M_round_17 ?_
  refine e_iconst (v := 0) d_M_round_20 (by decide) ?_
  refine e_istore_n (lv' := [(2, .int (0)), (0, .ref (6 + 16 * 0)), (1, .int (nI r))]) d_M_round_21 rfl (by decide) rfl ?_
  refine e_iconst (v := 0) d_M_round_22 (by decide) ?_
  refine e_istore_n (lv' := [(3, .int (0)), (2, .int (0)), (0, .ref (6 + 16 * 0)), (1, .int (nI r))]) d_M_round_23 rfl (by decide) rfl ?_
  exact e_lv (lv' := [(3, .int (nI 0)), (2, .int (mrN (sI σ 6 0 0 0) n 0)), (0, .ref (6 + 16 * 0)), (1, .int (nI r))]) ⟨rfl, rfl, rfl, rfl, trivial⟩ (lp_M_round hl0 hr5 th_1 hp r 0 (by omega))
