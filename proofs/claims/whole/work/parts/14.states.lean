/-- findState, link or none -/
theorem ct_P_findState {l : Launch} (hl0 : l.stackTraces = false) {G : LG} {σ : HS} {p c t b : Nat} (hk : hR σ 1 p 7 = none ∨ ∃ k, hR σ 1 p 7 = some (3 + 16 * k)) (hc : hR σ 1 p 2 = some (0 + 16 * c)) (ht : hR σ 1 p 3 = some (0 + 16 * t)) : Ct l G m_P_findState [.ref (1 + 16 * p), .ref (0 + 16 * b)] σ (qd (.inr (some (.int (if hR σ 1 p 7 = none then 0 else fstV σ p c t b)))) σ) := by
  rcases hk with hk | ⟨k, hk⟩
  · rw [if_pos hk]; exact ct_P_findState_n hl0 hk
  · rw [if_neg (by rw [hk]; simp)]; exact ct_P_findState_s hl0 hk hc ht
theorem fbN_or {σ : HS} {i : Nat} : ∀ n, fbN σ i n = 9 * i ∨ ∃ j, j < n ∧ fbN σ i n = 9 * i + 1 + 2 * j
  | 0 => Or.inl rfl
  | n + 1 => by
    have h := fbN_or (σ := σ) (i := i) n
    have h2 : fbN σ i n = 9 * i ∨ ∃ j, j < n + 1 ∧ fbN σ i n = 9 * i + 1 + 2 * j := h.imp id (fun ⟨j, h1, h2⟩ => ⟨j, by omega, h2⟩)
    unfold fbN
    split
    · exact h2
    · split
      · exact h2
      · exact Or.inr ⟨n, by omega, rfl⟩
/-- what port j of node i is told, and the state that is found for it -/
def tvJ (σ : HS) (i j : Nat) : DV := toldV (hI σ 0 (fbN σ i 4)) (decide (fbN σ i 4 = 9 * i)) (hI σ 0 (9 * i) 3) (hI σ 1 (4 * i + j) 1) (hI σ 0 (9 * i + 2 + 2 * j))
def svJ (σ : HS) (i j : Nat) : Int32 := if hR σ 1 (4 * i + j) 7 = none then 0 else if fbN σ i 4 = 9 * i + 1 + 2 * j then 2 else if hI σ 1 (4 * i + j) 4 = 0 then 1 else if btI (hI σ 0 (9 * i + 1 + 2 * j)) (tvJ σ i j) = 0 then 1 else 3
def fsS (σ : HS) (i : Nat) : Nat → HS
  | 0 => sR σ 2 i 3 (some (0 + 16 * fbN σ i 4))
  | j + 1 => sI (sD (fsS σ i j) (9 * i + 2 + 2 * j) (tvJ σ i j)) 1 (4 * i + j) 6 (svJ σ i j)
def fsC (σ : HS) (i : Nat) : Nat → Int32
  | 0 => 0
  | j + 1 => if svJ σ i j = hI σ 1 (4 * i + j) 6 then fsC σ i j else 1
theorem fsC_01 {σ : HS} {i : Nat} : ∀ j, fsC σ i j = 0 ∨ fsC σ i j = 1
  | 0 => Or.inl rfl
  | j + 1 => by
    unfold fsC
    split
    · exact fsC_01 j
    · exact Or.inr rfl
theorem fsS_I0 {σ : HS} {i d k : Nat} : ∀ j, (∀ j', j' < j → d ≠ 9 * i + 2 + 2 * j') → hI (fsS σ i j) 0 d k = hI σ 0 d k
  | 0, _ => rfl
  | j + 1, h => by
    show hI (sI (sD (fsS σ i j) _ _) 1 _ 6 _) 0 d k = _
    rw [I_sI, if_neg (fun z => absurd z.1 (by decide)), I_sD, if_neg (fun z => h j (by omega) z.2), fsS_I0 j (fun j' hj => h j' (by omega))]
theorem fsS_I1 {σ : HS} {i p k : Nat} : ∀ j, (k = 6 → ∀ j', j' < j → p ≠ 4 * i + j') → hI (fsS σ i j) 1 p k = hI σ 1 p k
  | 0, _ => rfl
  | j + 1, h => by
    show hI (sI (sD (fsS σ i j) _ _) 1 _ 6 _) 1 p k = _
    rw [I_sI, if_neg (fun z => h z.2.2 j (by omega) z.2.1), I_sD, if_neg (fun z => absurd z.1 (by decide)), fsS_I1 j (fun hk j' hj => h hk j' (by omega))]
theorem fsS_R {σ : HS} {i : Nat} : ∀ j, hR (fsS σ i j) = hR (sR σ 2 i 3 (some (0 + 16 * fbN σ i 4)))
  | 0 => rfl
  | j + 1 => fsS_R j
theorem fsS_l {σ : HS} {i : Nat} : ∀ j, hl (fsS σ i j) = hl σ
  | 0 => rfl
  | j + 1 => fsS_l j
theorem fsS_n {σ : HS} {i : Nat} : ∀ j, hn (fsS σ i j) = hn σ
  | 0 => rfl
  | j + 1 => fsS_n j
theorem fsS_J {σ : HS} {i : Nat} : ∀ j, hJ (fsS σ i j) = hJ σ
  | 0 => rfl
  | j + 1 => fsS_J j
theorem fsS_Rn {σ : HS} {i q a k : Nat} (j : Nat) (h : ¬ (q = 2 ∧ a = i ∧ k = 3)) : hR (fsS σ i j) q a k = hR σ q a k := by
  rw [fsS_R, R_sR, if_neg h]
theorem fsS_NS {σ : HS} {i : Nat} (hN : NS σ i) (j : Nat) : NS (fsS σ i j) i := by
  refine ⟨?_, ?_, ?_, fun x hx => ⟨?_, ?_, ?_⟩⟩
  · rw [fsS_Rn j (by omega)]; exact hN.1
  · rw [fsS_Rn j (by omega)]; exact hN.2.1
  · rw [fsS_l]; exact hN.2.2.1
  · rw [fsS_Rn j (by omega)]; exact (hN.2.2.2 x hx).1
  · rw [fsS_Rn j (by omega)]; exact (hN.2.2.2 x hx).2.1
  · rw [fsS_Rn j (by omega)]; exact (hN.2.2.2 x hx).2.2
set_option maxHeartbeats 4000000 in
theorem lp_N_findStates {l : Launch} (hl0 : l.stackTraces = false) {G : LG} {σ : HS} {i : Nat} (hN : NS σ i) (hK : ∀ j, j < 4 → hR σ 1 (4 * i + j) 7 = none ∨ ∃ k, hR σ 1 (4 * i + j) 7 = some (3 + 16 * k)) : ∀ m j, j + m = 4 → Ex l G m_N_findStates (pmV G m_N_findStates (qd (.inr (some (.int (fsC σ i 4)))) (fsS σ i 4))) 12 [(2, .int (nI j)), (1, .int (fsC σ i j)), (0, .ref (2 + 16 * i))] [] (fsS σ i j) 0 0 := by
  intro m
  induction m with
  | zero =>
    intro j hj
    obtain rfl : j = 4 := by omega
    refine e_iload_n d_N_findStates_12 rfl rfl ?_
    refine e_iconst (v := 4) d_N_findStates_13 (by decide) ?_
    refine e_icmpge (tgt := 69) d_N_findStates_14 (by decide) (fun h14 => ?_) (fun h14 => absurd lp4t h14)
    refine e_iload_n d_N_findStates_69 rfl rfl ?_
    exact e_zret d_N_findStates_70 rfl (fsC_01 4) ⟨rfl, rfl⟩
  | succ m ih =>
    intro j hj
    have hj4 : j < 4 := by omega
    have hT := fsS_NS hN j
    have hfb := fbN_or (σ := σ) (i := i) 4
    have hbest : hR (fsS σ i j) 2 i 3 = some (0 + 16 * fbN σ i 4) := by rw [fsS_R, R_sR, if_pos ⟨rfl, rfl, rfl⟩]
    have hb1 : ∀ x, x < 4 → fbN σ i 4 ≠ 9 * i + 2 + 2 * x := fun x hx => by
      rcases hfb with h | ⟨y, hy, h⟩ <;> omega
    have etv : toldV (hI (fsS σ i j) 0 (fbN σ i 4)) (decide (fbN σ i 4 = 9 * i)) (hI (fsS σ i j) 0 (9 * i) 3) (hI (fsS σ i j) 1 (4 * i + j) 1) (hI (fsS σ i j) 0 (9 * i + 2 + 2 * j)) = tvJ σ i j := by
      unfold tvJ
      rw [show hI (fsS σ i j) 0 (fbN σ i 4) = hI σ 0 (fbN σ i 4) from funext fun k => fsS_I0 j (fun x hx => hb1 x (by omega)), fsS_I0 j (fun x hx => by omega), fsS_I1 j (fun hk => by omega), show hI (fsS σ i j) 0 (9 * i + 2 + 2 * j) = hI σ 0 (9 * i + 2 + 2 * j) from funext fun k => fsS_I0 j (fun x hx => by omega)]
    have hct1 : Ct l G m_P_tell [.ref (1 + 16 * (4 * i + j)), .ref (0 + 16 * (fbN σ i 4)), .ref (0 + 16 * (9 * i))] (fsS σ i j) (qd (.inr none) (sD (fsS σ i j) (9 * i + 2 + 2 * j) (tvJ σ i j))) := by
      have h := ct_P_tell (l := l) (G := G) hl0 (b := fbN σ i 4) (w := 9 * i) (hT.2.2.2 j hj4).2.2 (hb1 j hj4) (by omega)
      rw [etv] at h
      exact h
    have e1 : ∀ k, k ≠ 6 → hI (sD (fsS σ i j) (9 * i + 2 + 2 * j) (tvJ σ i j)) 1 (4 * i + j) k = hI σ 1 (4 * i + j) k := fun k hk => by
      rw [I_sD, if_neg (fun z => absurd z.1 (by decide)), fsS_I1 j (fun h => absurd h hk)]
    have e6 : hI (sD (fsS σ i j) (9 * i + 2 + 2 * j) (tvJ σ i j)) 1 (4 * i + j) 6 = hI σ 1 (4 * i + j) 6 := by
      rw [I_sD, if_neg (fun z => absurd z.1 (by decide)), fsS_I1 j (fun _ x hx => by omega)]
    have hct2 : Ct l G m_P_findState [.ref (1 + 16 * (4 * i + j)), .ref (0 + 16 * (fbN σ i 4))] (sD (fsS σ i j) (9 * i + 2 + 2 * j) (tvJ σ i j)) (qd (.inr (some (.int (svJ σ i j)))) (sD (fsS σ i j) (9 * i + 2 + 2 * j) (tvJ σ i j))) := by
      have h := ct_P_findState (l := l) (G := G) hl0 (σ := sD (fsS σ i j) (9 * i + 2 + 2 * j) (tvJ σ i j)) (p := 4 * i + j) (c := 9 * i + 1 + 2 * j) (t := 9 * i + 2 + 2 * j) (b := fbN σ i 4) (by rw [R_sD, fsS_Rn j (by omega)]; exact hK j hj4) (hT.2.2.2 j hj4).2.1 (hT.2.2.2 j hj4).2.2
      have ev : (if hR (sD (fsS σ i j) (9 * i + 2 + 2 * j) (tvJ σ i j)) 1 (4 * i + j) 7 = none then (0 : Int32) else fstV (sD (fsS σ i j) (9 * i + 2 + 2 * j) (tvJ σ i j)) (4 * i + j) (9 * i + 1 + 2 * j) (9 * i + 2 + 2 * j) (fbN σ i 4)) = svJ σ i j := by
        unfold svJ fstV
        rw [R_sD, fsS_Rn j (by omega), e1 4 (by decide), show hI (sD (fsS σ i j) (9 * i + 2 + 2 * j) (tvJ σ i j)) 0 (9 * i + 1 + 2 * j) = hI σ 0 (9 * i + 1 + 2 * j) from funext fun k => by rw [I_sD, if_neg (by omega), fsS_I0 j (fun x hx => by omega)], show hI (sD (fsS σ i j) (9 * i + 2 + 2 * j) (tvJ σ i j)) 0 (9 * i + 2 + 2 * j) = tvJ σ i j from funext fun k => by rw [I_sD, if_pos ⟨rfl, rfl⟩]]
      rw [ev] at h
      exact h
    refine e_iload_n d_N_findStates_12 rfl rfl ?_
    refine e_iconst (v := 4) d_N_findStates_13 (by decide) ?_
    refine e_icmpge (tgt := 69) d_N_findStates_14 (by decide) (fun h14 => absurd h14 (lp4f hj4)) (fun h14 => ?_)
    refine e_aload_n d_N_findStates_17 rfl rfl ?_
    refine g_N_36 (b := 12 + 16 * i) rfl d_N_findStates_18 hT.2.1 ?_
    refine e_iload_n d_N_findStates_21 rfl rfl ?_
    refine e_aald (b := 1 + 16 * (4 * i + j)) (C := _) d_N_findStates_22 ⟨by decide, by decide⟩ rfl (by rw [hT.2.2.1]; exact nI_in hj4 (by decide)) (by rw [nI_clamp (by omega)]; exact (hT.2.2.2 j hj4).1) ?_
    refine e_astore_n (lv' := [(3, .ref (1 + 16 * (4 * i + j))), (2, .int (nI j)), (1, .int (fsC σ i j)), (0, .ref (2 + 16 * i))]) d_N_findStates_23 rfl (by decide) rfl ?_
    refine e_aload_n d_N_findStates_24 rfl rfl ?_
    refine e_aload_n d_N_findStates_25 rfl rfl ?_
    refine g_N_31 (b := 0 + 16 * (fbN σ i 4)) rfl d_N_findStates_26 hbest ?_
    refine e_aload_n d_N_findStates_29 rfl rfl ?_
    refine g_N_27 (b := 0 + 16 * (9 * i)) rfl d_N_findStates_30 hT.1 ?_
    refine e_callVd (v := none) (σ' := sD (fsS σ i j) (9 * i + 2 + 2 * j) (tvJ σ i j)) (q := 1) (a := 4 * i + j) (As := [.ref (0 + 16 * (fbN σ i 4)), .ref (0 + 16 * (9 * i))]) (st := []) 0 0 d_N_findStates_33 cb_N_findStates_53 iv_P_tell rfl ⟨by decide, rfl⟩ rfl (Nat.le_of_ble_eq_true rfl) (by decide) (by decide) (hct1) ?_
    show Ex l G m_N_findStates (pmV G m_N_findStates (qd (.inr (some (.int (fsC σ i 4)))) (fsS σ i 4))) 36 [(3, .ref (1 + 16 * (4 * i + j))), (2, .int (nI j)), (1, .int (fsC σ i j)), (0, .ref (2 + 16 * i))] [] (sD (fsS σ i j) (9 * i + 2 + 2 * j) (tvJ σ i j)) 0 0
    refine e_aload_n d_N_findStates_36 rfl rfl ?_
    refine e_aload_n d_N_findStates_37 rfl rfl ?_
    refine g_N_31 (b := 0 + 16 * (fbN σ i 4)) rfl d_N_findStates_38 hbest ?_
    refine e_callVd (v := some (.int (svJ σ i j))) (σ' := sD (fsS σ i j) (9 * i + 2 + 2 * j) (tvJ σ i j)) (q := 1) (a := 4 * i + j) (As := [.ref (0 + 16 * (fbN σ i 4))]) (st := []) 0 0 d_N_findStates_41 cb_N_findStates_57 iv_P_findState rfl ⟨by decide, rfl⟩ rfl (Nat.le_of_ble_eq_true rfl) (by decide) (by decide) (hct2) ?_
    show Ex l G m_N_findStates (pmV G m_N_findStates (qd (.inr (some (.int (fsC σ i 4)))) (fsS σ i 4))) 44 [(3, .ref (1 + 16 * (4 * i + j))), (2, .int (nI j)), (1, .int (fsC σ i j)), (0, .ref (2 + 16 * i))] [.int (svJ σ i j)] (sD (fsS σ i j) (9 * i + 2 + 2 * j) (tvJ σ i j)) 0 0
    refine e_istore (lv' := [(4, .int (svJ σ i j)), (3, .ref (1 + 16 * (4 * i + j))), (2, .int (nI j)), (1, .int (fsC σ i j)), (0, .ref (2 + 16 * i))]) d_N_findStates_44 (by decide) rfl ?_
    refine e_iload d_N_findStates_46 rfl ?_
    refine e_aload_n d_N_findStates_48 rfl rfl ?_
    refine g_N_61 rfl d_N_findStates_49 ?_
    rw [e6]
    refine e_icmpeq (tgt := 57) d_N_findStates_52 (by decide) (fun h52 => ?_) (fun h52 => ?_)
    ·
      refine e_aload_n d_N_findStates_57 rfl rfl ?_
      refine e_iload d_N_findStates_58 rfl ?_
      refine p_N_61 rfl d_N_findStates_60 ?_
      refine e_iinc (v := nI (j + 1)) (lv' := [(2, .int (nI (j + 1))), (4, .int (svJ σ i j)), (3, .ref (1 + 16 * (4 * i + j))), (1, .int (fsC σ i j)), (0, .ref (2 + 16 * i))]) d_N_findStates_63 rfl (ofI1 j) (by decide) rfl ?_
      refine e_goto (tgt := 12) d_N_findStates_66 (by decide) ?_
      exact e_lv (lv' := [(2, .int (nI (j + 1))), (1, .int (fsC σ i j)), (0, .ref (2 + 16 * i))]) ⟨rfl, rfl, rfl, trivial⟩ (by have h9 := ih (j + 1) (by omega); rw [show fsC σ i (j + 1) = fsC σ i j by simp [fsC, h52]] at h9; exact h9)
    ·
      refine e_iconst (v := 1) d_N_findStates_55 (by decide) ?_
      refine e_istore_n (lv' := [(1, .int (1)), (4, .int (svJ σ i j)), (3, .ref (1 + 16 * (4 * i + j))), (2, .int (nI j)), (0, .ref (2 + 16 * i))]) d_N_findStates_56 rfl (by decide) rfl ?_
      refine e_aload_n d_N_findStates_57 rfl rfl ?_
      refine e_iload d_N_findStates_58 rfl ?_
      refine p_N_61 rfl d_N_findStates_60 ?_
      refine e_iinc (v := nI (j + 1)) (lv' := [(2, .int (nI (j + 1))), (1, .int (1)), (4, .int (svJ σ i j)), (3, .ref (1 + 16 * (4 * i + j))), (0, .ref (2 + 16 * i))]) d_N_findStates_63 rfl (ofI1 j) (by decide) rfl ?_
      refine e_goto (tgt := 12) d_N_findStates_66 (by decide) ?_
      exact e_lv (lv' := [(2, .int (nI (j + 1))), (1, .int (1)), (0, .ref (2 + 16 * i))]) ⟨rfl, rfl, rfl, trivial⟩ (by have h9 := ih (j + 1) (by omega); rw [show fsC σ i (j + 1) = 1 by simp [fsC, h52]] at h9; exact h9)
set_option maxHeartbeats 4000000 in
theorem ct_N_findStates {l : Launch} (hl0 : l.stackTraces = false) {G : LG} {σ : HS} {i : Nat} (hN : NS σ i) (hK : ∀ j, j < 4 → hR σ 1 (4 * i + j) 7 = none ∨ ∃ k, hR σ 1 (4 * i + j) 7 = some (3 + 16 * k)) : Ct l G m_N_findStates [.ref (2 + 16 * i)] σ (qd (.inr (some (.int (fsC σ i 4)))) (fsS σ i 4)) := by
  refine Ct.of hl0 rfl rfl (Nat.le_of_ble_eq_true rfl) ?_
  show Ex l G m_N_findStates (pmV G m_N_findStates (qd (.inr (some (.int (fsC σ i 4)))) (fsS σ i 4))) 0 [(0, .ref (2 + 16 * i))] [] σ 0 0
  refine e_aload_n d_N_findStates_0 rfl rfl ?_
  refine e_aload_n d_N_findStates_1 rfl rfl ?_
  refine e_callVd (v := some (.ref (0 + 16 * (fbN σ i 4)))) (σ' := σ) (q := 2) (a := i) (As := []) (st := [.ref (2 + 16 * i)]) 0 0 d_N_findStates_2 cb_N_findStates_49 iv_N_findBest rfl ⟨by decide, rfl⟩ rfl (Nat.le_of_ble_eq_true rfl) (by decide) (by decide) (ct_N_findBest hl0 hN) ?_
  show Ex l G m_N_findStates (pmV G m_N_findStates (qd (.inr (some (.int (fsC σ i 4)))) (fsS σ i 4))) 5 [(0, .ref (2 + 16 * i))] [.ref (0 + 16 * (fbN σ i 4)), .ref (2 + 16 * i)] (σ) 0 0
  refine p_N_31 (by omega) rfl d_N_findStates_5 ?_
  refine e_iconst (v := 0) d_N_findStates_8 (by decide) ?_
  refine e_istore_n (lv' := [(1, .int (0)), (0, .ref (2 + 16 * i))]) d_N_findStates_9 rfl (by decide) rfl ?_
  refine e_iconst (v := 0) d_N_findStates_10 (by decide) ?_
  refine e_istore_n (lv' := [(2, .int (0)), (1, .int (0)), (0, .ref (2 + 16 * i))]) d_N_findStates_11 rfl (by decide) rfl ?_
  exact e_lv (lv' := [(2, .int (nI 0)), (1, .int (fsC σ i 0)), (0, .ref (2 + 16 * i))]) ⟨rfl, rfl, rfl, trivial⟩ (lp_N_findStates hl0 hN hK 4 0 rfl)
