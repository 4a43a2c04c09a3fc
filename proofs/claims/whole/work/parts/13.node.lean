/-- the shape of node i: its references -/
def NS (σ : HS) (i : Nat) : Prop := hR σ 2 i 1 = some (0 + 16 * (9 * i)) ∧ hR σ 2 i 2 = some (12 + 16 * i) ∧ hl σ 12 i = 4 ∧ ∀ j, j < 4 → hR σ 12 i j = some (1 + 16 * (4 * i + j)) ∧ hR σ 1 (4 * i + j) 2 = some (0 + 16 * (9 * i + 1 + 2 * j)) ∧ hR σ 1 (4 * i + j) 3 = some (0 + 16 * (9 * i + 2 + 2 * j))
def accV (σ : HS) (i s : Nat) : Int32 := if 15 ≤ hI σ 0 s 4 then 0 else if hI σ 0 s 3 = hI σ 0 (9 * i) 3 then 0 else 1
set_option maxHeartbeats 4000000 in
theorem ct_N_accepts {l : Launch} (hl0 : l.stackTraces = false) {G : LG} {σ : HS} {i s : Nat} (hN : NS σ i) : Ct l G m_N_accepts [.ref (2 + 16 * i), .ref (0 + 16 * s)] σ (qd (.inr (some (.int (accV σ i s)))) σ) := by
  refine Ct.of hl0 rfl rfl (Nat.le_of_ble_eq_true rfl) ?_
  show Ex l G m_N_accepts (pmV G m_N_accepts (qd (.inr (some (.int (accV σ i s)))) σ)) 0 [(0, .ref (2 + 16 * i)), (1, .ref (0 + 16 * s))] [] σ 0 0
  refine e_aload_n d_N_accepts_0 rfl rfl ?_
  refine g_N_43 rfl d_N_accepts_1 ?_
  refine e_bipush (v := 15) d_N_accepts_4 (by decide) ?_
  refine e_icmpge (tgt := 27) d_N_accepts_6 (by decide) (fun h6 => ?_) (fun h6 => ?_)
  ·
    refine e_iconst (v := 0) d_N_accepts_27 (by decide) ?_
    exact e_zret d_N_accepts_28 rfl (by first | exact Or.inl rfl | exact Or.inr rfl) ⟨(by simp [accV, h6]), rfl⟩
  ·
    refine e_aload_n d_N_accepts_9 rfl rfl ?_
    refine g_N_46 rfl d_N_accepts_10 ?_
    refine e_aload_n d_N_accepts_13 rfl rfl ?_
    refine g_N_27 (b := 0 + 16 * (9 * i)) rfl d_N_accepts_14 hN.1 ?_
    refine g_N_46 rfl d_N_accepts_17 ?_
    refine e_icmpeq (tgt := 27) d_N_accepts_20 (by decide) (fun h20 => ?_) (fun h20 => ?_)
    ·
      refine e_iconst (v := 0) d_N_accepts_27 (by decide) ?_
      exact e_zret d_N_accepts_28 rfl (by first | exact Or.inl rfl | exact Or.inr rfl) ⟨(by simp [accV, h6, h20]), rfl⟩
    ·
      refine e_iconst (v := 1) d_N_accepts_23 (by decide) ?_
      refine e_goto (tgt := 28) d_N_accepts_24 (by decide) ?_
      exact e_zret d_N_accepts_28 rfl (by first | exact Or.inl rfl | exact Or.inr rfl) ⟨(by simp [accV, h6, h20]), rfl⟩
/-- the dataset that findBest has found behind j ports -/
def fbN (σ : HS) (i : Nat) : Nat → Nat
  | 0 => 9 * i
  | j + 1 => if hI σ 1 (4 * i + j) 4 = 0 then fbN σ i j else if btI (hI σ 0 (9 * i + 1 + 2 * j)) (hI σ 0 (fbN σ i j)) = 0 then fbN σ i j else 9 * i + 1 + 2 * j
theorem ofI1 (j : Nat) : nI j + Int32.ofInt 1 = nI (j + 1) := by rw [nI_succ]; rfl
theorem nI4 : (4 : Int32) = nI 4 := by decide +kernel
theorem lp4f {j : Nat} (h : j < 4) : ¬ (4 : Int32) ≤ nI j := by rw [nI4]; exact nI_ge h (by decide)
theorem lp4t : (4 : Int32) ≤ nI 4 := by decide +kernel
set_option maxHeartbeats 4000000 in
theorem lp_N_findBest {l : Launch} (hl0 : l.stackTraces = false) {G : LG} {σ : HS} {i : Nat} (hN : NS σ i) : ∀ m j, j + m = 4 → Ex l G m_N_findBest (pmV G m_N_findBest (qd (.inr (some (.ref (0 + 16 * fbN σ i 4)))) σ)) 7 [(2, .int (nI j)), (1, .ref (0 + 16 * (fbN σ i j))), (0, .ref (2 + 16 * i))] [] (σ) 0 0 := by
  intro m
  induction m with
  | zero =>
    intro j hj
    obtain rfl : j = 4 := by omega
    refine e_iload_n d_N_findBest_7 rfl rfl ?_
    refine e_iconst (v := 4) d_N_findBest_8 (by decide) ?_
    refine e_icmpge (tgt := 56) d_N_findBest_9 (by decide) (fun h9 => ?_) (fun h9 => absurd lp4t h9)
    refine e_aload_n d_N_findBest_56 rfl rfl ?_
    exact e_aret d_N_findBest_57 rfl (Or.inl ⟨_, rfl⟩) ⟨rfl, rfl⟩
  | succ m ih =>
    intro j hj
    have hj4 : j < 4 := by omega
    refine e_iload_n d_N_findBest_7 rfl rfl ?_
    refine e_iconst (v := 4) d_N_findBest_8 (by decide) ?_
    refine e_icmpge (tgt := 56) d_N_findBest_9 (by decide) (fun h9 => absurd h9 (lp4f hj4)) (fun h9 => ?_)
    refine e_aload_n d_N_findBest_12 rfl rfl ?_
    refine g_N_36 (b := 12 + 16 * i) rfl d_N_findBest_13 hN.2.1 ?_
    refine e_iload_n d_N_findBest_16 rfl rfl ?_
    refine e_aald (b := 1 + 16 * (4 * i + j)) (C := _) d_N_findBest_17 ⟨by decide, by decide⟩ rfl (by rw [hN.2.2.1]; exact nI_in hj4 (by decide)) (by rw [nI_clamp (by omega)]; exact (hN.2.2.2 j hj4).1) ?_
    refine g_N_64 rfl d_N_findBest_18 ?_
    refine e_ifeq (tgt := 50) d_N_findBest_21 (by decide) (fun h21 => ?_) (fun h21 => ?_)
    ·
      refine e_iinc (v := nI (j + 1)) (lv' := [(2, .int (nI (j + 1))), (1, .ref (0 + 16 * (fbN σ i j))), (0, .ref (2 + 16 * i))]) d_N_findBest_50 rfl (ofI1 j) (by decide) rfl ?_
      refine e_goto (tgt := 7) d_N_findBest_53 (by decide) ?_
      exact e_lv (lv' := [(2, .int (nI (j + 1))), (1, .ref (0 + 16 * (fbN σ i j))), (0, .ref (2 + 16 * i))]) ⟨rfl, rfl, rfl, trivial⟩ (by have h9 := ih (j + 1) (by omega); rw [show fbN σ i (j + 1) = (fbN σ i j) by simp [fbN, h21]] at h9; exact h9)
    ·
      refine e_aload_n d_N_findBest_24 rfl rfl ?_
      refine g_N_36 (b := 12 + 16 * i) rfl d_N_findBest_25 hN.2.1 ?_
      refine e_iload_n d_N_findBest_28 rfl rfl ?_
      refine e_aald (b := 1 + 16 * (4 * i + j)) (C := _) d_N_findBest_29 ⟨by decide, by decide⟩ rfl (by rw [hN.2.2.1]; exact nI_in hj4 (by decide)) (by rw [nI_clamp (by omega)]; exact (hN.2.2.2 j hj4).1) ?_
      refine g_N_68 (b := 0 + 16 * (9 * i + 1 + 2 * j)) rfl d_N_findBest_30 (hN.2.2.2 j hj4).2.1 ?_
      refine e_aload_n d_N_findBest_33 rfl rfl ?_
      refine e_callVd (v := some (.int (btI (hI σ 0 (9 * i + 1 + 2 * j)) (hI σ 0 (fbN σ i j))))) (σ' := σ) (q := 0) (a := 9 * i + 1 + 2 * j) (As := [.ref (0 + 16 * (fbN σ i j))]) (st := []) 0 0 d_N_findBest_34 cb_N_findBest_71 iv_D_betterThan rfl ⟨by decide, rfl⟩ rfl (Nat.le_of_ble_eq_true rfl) (by decide) (by decide) (ct_D_betterThan hl0) ?_
      show Ex l G m_N_findBest (pmV G m_N_findBest (qd (.inr (some (.ref (0 + 16 * fbN σ i 4)))) σ)) 37 [(2, .int (nI j)), (1, .ref (0 + 16 * (fbN σ i j))), (0, .ref (2 + 16 * i))] [.int (btI (hI σ 0 (9 * i + 1 + 2 * j)) (hI σ 0 (fbN σ i j)))] (σ) 0 0
      refine e_ifeq (tgt := 50) d_N_findBest_37 (by decide) (fun h37 => ?_) (fun h37 => ?_)
      ·
        refine e_iinc (v := nI (j + 1)) (lv' := [(2, .int (nI (j + 1))), (1, .ref (0 + 16 * (fbN σ i j))), (0, .ref (2 + 16 * i))]) d_N_findBest_50 rfl (ofI1 j) (by decide) rfl ?_
        refine e_goto (tgt := 7) d_N_findBest_53 (by decide) ?_
        exact e_lv (lv' := [(2, .int (nI (j + 1))), (1, .ref (0 + 16 * (fbN σ i j))), (0, .ref (2 + 16 * i))]) ⟨rfl, rfl, rfl, trivial⟩ (by have h9 := ih (j + 1) (by omega); rw [show fbN σ i (j + 1) = (fbN σ i j) by simp [fbN, h21, h37]] at h9; exact h9)
      ·
        refine e_aload_n d_N_findBest_40 rfl rfl ?_
        refine g_N_36 (b := 12 + 16 * i) rfl d_N_findBest_41 hN.2.1 ?_
        refine e_iload_n d_N_findBest_44 rfl rfl ?_
        refine e_aald (b := 1 + 16 * (4 * i + j)) (C := _) d_N_findBest_45 ⟨by decide, by decide⟩ rfl (by rw [hN.2.2.1]; exact nI_in hj4 (by decide)) (by rw [nI_clamp (by omega)]; exact (hN.2.2.2 j hj4).1) ?_
        refine g_N_68 (b := 0 + 16 * (9 * i + 1 + 2 * j)) rfl d_N_findBest_46 (hN.2.2.2 j hj4).2.1 ?_
        refine e_astore_n (lv' := [(1, .ref (0 + 16 * (9 * i + 1 + 2 * j))), (2, .int (nI j)), (0, .ref (2 + 16 * i))]) d_N_findBest_49 rfl (by decide) rfl ?_
        refine e_iinc (v := nI (j + 1)) (lv' := [(2, .int (nI (j + 1))), (1, .ref (0 + 16 * (9 * i + 1 + 2 * j))), (0, .ref (2 + 16 * i))]) d_N_findBest_50 rfl (ofI1 j) (by decide) rfl ?_
        refine e_goto (tgt := 7) d_N_findBest_53 (by decide) ?_
        exact e_lv (lv' := [(2, .int (nI (j + 1))), (1, .ref (0 + 16 * (9 * i + 1 + 2 * j))), (0, .ref (2 + 16 * i))]) ⟨rfl, rfl, rfl, trivial⟩ (by have h9 := ih (j + 1) (by omega); rw [show fbN σ i (j + 1) = (9 * i + 1 + 2 * j) by simp [fbN, h21, h37]] at h9; exact h9)
set_option maxHeartbeats 4000000 in
theorem ct_N_findBest {l : Launch} (hl0 : l.stackTraces = false) {G : LG} {σ : HS} {i : Nat} (hN : NS σ i) : Ct l G m_N_findBest [.ref (2 + 16 * i)] σ (qd (.inr (some (.ref (0 + 16 * fbN σ i 4)))) σ) := by
  refine Ct.of hl0 rfl rfl (Nat.le_of_ble_eq_true rfl) ?_
  show Ex l G m_N_findBest (pmV G m_N_findBest (qd (.inr (some (.ref (0 + 16 * fbN σ i 4)))) σ)) 0 [(0, .ref (2 + 16 * i))] [] σ 0 0
  refine e_aload_n d_N_findBest_0 rfl rfl ?_
  refine g_N_27 (b := 0 + 16 * (9 * i)) rfl d_N_findBest_1 hN.1 ?_
  refine e_astore_n (lv' := [(1, .ref (0 + 16 * (9 * i))), (0, .ref (2 + 16 * i))]) d_N_findBest_4 rfl (by decide) rfl ?_
  refine e_iconst (v := 0) d_N_findBest_5 (by decide) ?_
  refine e_istore_n (lv' := [(2, .int (0)), (1, .ref (0 + 16 * (9 * i))), (0, .ref (2 + 16 * i))]) d_N_findBest_6 rfl (by decide) rfl ?_
  exact e_lv (lv' := [(2, .int (nI 0)), (1, .ref (0 + 16 * (fbN σ i 0))), (0, .ref (2 + 16 * i))]) ⟨rfl, rfl, rfl, trivial⟩ (lp_N_findBest hl0 hN 4 0 rfl)
