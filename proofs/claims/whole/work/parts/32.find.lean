/-- the scratch rows of the model -/
def trS1 (τ : HS) : HS := sA τ 7 15 (cpy (hI τ 7 14) 8 (hI τ 7 15))
def koS (τ : HS) (p : Nat) : HS := sA τ 7 14 (cpy (fun k => hI τ 7 9 (8 * p + k)) 8 (hI τ 7 14))
def ooS (τ : HS) (i : Nat) (u : Int32) : HS := sA τ 7 14 (mOwn τ i u)
def toS (τ : HS) (p : Nat) : HS := sA τ 7 14 (mTold τ p)
/-- the best port of node i, behind j ports: a number or -1 -/
def fdC (z : HS × Int32) (i : Nat) : HS := if z.2 < 0 then ooS z.1 i (-1) else koS z.1 z.2.toNatClampNeg
def fd1 (z : HS × Int32) (i p : Nat) : HS × Int32 := if hI z.1 8 1 p = 0 then z else (koS (trS1 (fdC z i)) p, if btI (hI (koS (trS1 (fdC z i)) p) 7 14) (hI (koS (trS1 (fdC z i)) p) 7 15) = 0 then z.2 else nI p)
def fdS (σ : HS) (i : Nat) : Nat → HS × Int32
  | 0 => (σ, -1)
  | j + 1 => fd1 (fdS σ i j) i (4 * i + j)
theorem fdC_R {z : HS × Int32} {i : Nat} : hR (fdC z i) = hR z.1 ∧ hl (fdC z i) = hl z.1 := by
  unfold fdC
  split
  · exact ⟨rfl, rfl⟩
  · exact ⟨rfl, rfl⟩
theorem MS.of {σ τ : HS} (h : MS σ) (h1 : hR τ = hR σ) (h2 : hl τ = hl σ) : MS τ := fun x hx => by rw [h1, h2]; exact h x hx
theorem fdS_R {σ : HS} {i : Nat} : ∀ j, hR (fdS σ i j).1 = hR σ ∧ hl (fdS σ i j).1 = hl σ
  | 0 => ⟨rfl, rfl⟩
  | j + 1 => by
    have h := fdS_R (σ := σ) (i := i) j
    have hc := fdC_R (z := fdS σ i j) (i := i)
    rw [show fdS σ i (j + 1) = fd1 (fdS σ i j) i (4 * i + j) by rw [fdS]]
    unfold fd1
    split
    · exact h
    · exact ⟨hc.1.trans h.1, hc.2.trans h.2⟩
theorem fdS_b {σ : HS} {i : Nat} (hi : i < 10) : ∀ j, j ≤ 4 → (fdS σ i j).2 = -1 ∨ ∃ x, x < 40 ∧ (fdS σ i j).2 = nI x
  | 0, _ => Or.inl rfl
  | j + 1, hj => by
    have h := fdS_b (σ := σ) hi j (by omega)
    rw [show fdS σ i (j + 1) = fd1 (fdS σ i j) i (4 * i + j) by rw [fdS]]
    unfold fd1
    split
    · exact h
    · dsimp only
      split
      · exact h
      · exact Or.inr ⟨4 * i + j, by omega, rfl⟩
/-- the state that is found for port p -/
def stV (τ : HS) (p : Nat) (b : Int32) : Int32 := if hI τ 7 6 p < 0 then 0 else if nI p = b then 2 else if hI τ 8 1 p = 0 then 1 else if btI (hI τ 7 14) (hI τ 7 15) = 0 then 1 else 3
def fd2 (τ : HS) (p : Nat) (b : Int32) : HS := sI (koS (trS1 (toS τ p)) p) 7 7 p (stV (koS (trS1 (toS τ p)) p) p b)
def fdT (σ : HS) (i : Nat) : Nat → HS
  | 0 => sI (fdS σ i 4).1 7 13 i (fdS σ i 4).2
  | j + 1 => fd2 (fdT σ i j) (4 * i + j) (fdS σ i 4).2
theorem fd2_R {τ : HS} {p : Nat} {b : Int32} : hR (fd2 τ p b) = hR τ := rfl
theorem fd2_l {τ : HS} {p : Nat} {b : Int32} : hl (fd2 τ p b) = hl τ := rfl
theorem fdT_0 {σ : HS} {i : Nat} : fdT σ i 0 = sI (fdS σ i 4).1 7 13 i (fdS σ i 4).2 := by rw [fdT]
theorem fdT_s {σ : HS} {i j : Nat} : fdT σ i (j + 1) = fd2 (fdT σ i j) (4 * i + j) (fdS σ i 4).2 := by rw [fdT]
theorem fdT_R {σ : HS} {i : Nat} : ∀ j, hR (fdT σ i j) = hR σ ∧ hl (fdT σ i j) = hl σ
  | 0 => by rw [fdT_0, R_sI, l_sI]; exact fdS_R 4
  | j + 1 => by rw [fdT_s, fd2_R, fd2_l]; exact fdT_R (σ := σ) (i := i) j
theorem fdT_b {σ : HS} {i : Nat} : ∀ j, hI (fdT σ i j) 7 13 i = (fdS σ i 4).2
  | 0 => by rw [fdT_0, I_sI, if_pos ⟨rfl, rfl, rfl⟩]
  | j + 1 => by
    rw [fdT_s]
    unfold fd2 koS trS1 toS
    rw [I_sI, if_neg (by omega), I_sA, if_neg (by omega), I_sA, if_neg (by omega), I_sA, if_neg (by omega), fdT_b j]
set_option maxHeartbeats 4000000 in
theorem lq_M_find {l : Launch} (hl0 : l.stackTraces = false) {G : LG} {σ : HS} {i : Nat} (hM : MS σ) (hi : i < 10) : ∀ m j, j + m = 4 → Ex l G m_M_find (pmV G m_M_find (qd (.inr none) (fdT σ i 4))) 81 [(3, .int (nI (4 * i + j))), (2, .int ((fdS σ i 4).2)), (0, .ref (6 + 16 * 0)), (1, .int (nI i))] [] (fdT σ i j) 0 0 := by
  intro m
  induction m with
  | zero =>
    intro j hj
    obtain rfl : j = 4 := by omega
    refine e_iload_n d_M_find_81 rfl rfl ?_
    refine e_iconst (v := 4) d_M_find_82 (by decide) ?_
    refine e_iload_n d_M_find_83 rfl rfl ?_
    refine e_imul d_M_find_84 ?_
    rw [show (4) * (nI i) = nI (4 * i) from by rw [show (4 : Int32) = nI 4 from by decide +kernel, nJ_mul]]
    refine e_iconst (v := 4) d_M_find_85 (by decide) ?_
    refine e_iadd d_M_find_86 ?_
    rw [show (nI (4 * i)) + (4) = nI ((4 * i) + 4) from by rw [show (4 : Int32) = nI 4 from by decide +kernel, nJ_add]]
    refine e_icmpge (tgt := 159) d_M_find_87 (by decide) (fun h87 => ?_) (fun h87 => absurd (nI_le (Nat.le_refl _) (by omega)) h87)
    exact e_vret d_M_find_159 rfl ⟨rfl, rfl⟩
  | succ m ih =>
    intro j hj
    have hj4 : j < 4 := by omega
    have hM' : MS (fdT σ i j) := hM.of (fdT_R j).1 (fdT_R j).2
    have hb4 : hI (fdT σ i j) 7 13 ((4 * i + j) / 4) < 0 ∨ ∃ b, b < 40 ∧ hI (fdT σ i j) 7 13 ((4 * i + j) / 4) = nI b := by
      rw [show (4 * i + j) / 4 = i by omega, fdT_b]
      rcases fdS_b (σ := σ) hi 4 (Nat.le_refl _) with h | h
      · exact Or.inl (by rw [h]; decide +kernel)
      · exact Or.inr h
    refine e_iload_n d_M_find_81 rfl rfl ?_
    refine e_iconst (v := 4) d_M_find_82 (by decide) ?_
    refine e_iload_n d_M_find_83 rfl rfl ?_
    refine e_imul d_M_find_84 ?_
    rw [show (4) * (nI i) = nI (4 * i) from by rw [show (4 : Int32) = nI 4 from by decide +kernel, nJ_mul]]
    refine e_iconst (v := 4) d_M_find_85 (by decide) ?_
    refine e_iadd d_M_find_86 ?_
    rw [show (nI (4 * i)) + (4) = nI ((4 * i) + 4) from by rw [show (4 : Int32) = nI 4 from by decide +kernel, nJ_add]]
    refine e_icmpge (tgt := 159) d_M_find_87 (by decide) (fun h87 => absurd h87 (nI_ge (show 4 * i + j < 4 * i + 4 by omega) (by omega))) (fun h87 => ?_)
    refine e_aload_n d_M_find_90 rfl rfl ?_
    refine e_iload_n d_M_find_91 rfl rfl ?_
    refine e_callVd (v := none) (σ' := toS (fdT σ i j) (4 * i + j)) (q := 6) (a := 0) (As := [.int (nI (4 * i + j))]) (st := []) 0 0 d_M_find_92 cb_M_find_97 iv_M_toldOne rfl ⟨by decide, rfl⟩ rfl (Nat.le_of_ble_eq_true rfl) (by decide) (by decide) (ct_M_toldOne hl0 hM' (by omega) hb4) ?_
    show Ex l G m_M_find (pmV G m_M_find (qd (.inr none) (fdT σ i 4))) 95 [(3, .int (nI (4 * i + j))), (2, .int ((fdS σ i 4).2)), (0, .ref (6 + 16 * 0)), (1, .int (nI i))] [] (toS (fdT σ i j) (4 * i + j)) 0 0
    refine e_aload_n d_M_find_95 rfl rfl ?_
    refine e_callVd (v := none) (σ' := trS1 (toS (fdT σ i j) (4 * i + j))) (q := 6) (a := 0) (As := []) (st := []) 0 0 d_M_find_96 cb_M_find_90 iv_M_turnRound rfl ⟨by decide, rfl⟩ rfl (Nat.le_of_ble_eq_true rfl) (by decide) (by decide) (ct_M_turnRound hl0 (hM'.of rfl rfl)) ?_
    show Ex l G m_M_find (pmV G m_M_find (qd (.inr none) (fdT σ i 4))) 99 [(3, .int (nI (4 * i + j))), (2, .int ((fdS σ i 4).2)), (0, .ref (6 + 16 * 0)), (1, .int (nI i))] [] (trS1 (toS (fdT σ i j) (4 * i + j))) 0 0
    refine e_aload_n d_M_find_99 rfl rfl ?_
    refine e_iload_n d_M_find_100 rfl rfl ?_
    refine e_callVd (v := none) (σ' := koS (trS1 (toS (fdT σ i j) (4 * i + j))) (4 * i + j)) (q := 6) (a := 0) (As := [.int (nI (4 * i + j))]) (st := []) 0 0 d_M_find_101 cb_M_find_86 iv_M_keptOne rfl ⟨by decide, rfl⟩ rfl (Nat.le_of_ble_eq_true rfl) (by decide) (by decide) (ct_M_keptOne hl0 (hM'.of rfl rfl) (by omega)) ?_
    show Ex l G m_M_find (pmV G m_M_find (qd (.inr none) (fdT σ i 4))) 104 [(3, .int (nI (4 * i + j))), (2, .int ((fdS σ i 4).2)), (0, .ref (6 + 16 * 0)), (1, .int (nI i))] [] (koS (trS1 (toS (fdT σ i j) (4 * i + j))) (4 * i + j)) 0 0
    refine e_aload_n d_M_find_104 rfl rfl ?_
    refine g_M_42 (b := 7 + 16 * 7) rfl d_M_find_105 hM'.a_states ?_
    refine e_iload_n d_M_find_108 rfl rfl ?_
    refine e_aload_n d_M_find_109 rfl rfl ?_
    refine g_M_39 (b := 7 + 16 * 6) rfl d_M_find_110 hM'.a_linkOf ?_
    refine e_iload_n d_M_find_113 rfl rfl ?_
    refine e_iald d_M_find_114 (show vp_in (nI (4 * i + j)) (hl (fdT σ i j) 7 6) from by rw [hM'.l_linkOf]; exact nI_in (by omega) (by decide)) ?_
    rw [nI_clamp (show 4 * i + j < 2 ^ 31 by omega)]
    refine e_ifge (tgt := 122) d_M_find_115 (by decide) (fun h115 => ?_) (fun h115 => ?_)
    ·
      have h115n := Int32.not_lt.mpr h115
      refine e_iload_n d_M_find_122 rfl rfl ?_
      refine e_iload_n d_M_find_123 rfl rfl ?_
      refine e_icmpne (tgt := 131) d_M_find_124 (by decide) (fun h124 => ?_) (fun h124 => ?_)
      ·
        refine e_aload_n d_M_find_131 rfl rfl ?_
        refine g_M_45 (b := 8 + 16 * 1) rfl d_M_find_132 hM'.a_keeps ?_
        refine e_iload_n d_M_find_135 rfl rfl ?_
        refine e_zald d_M_find_136 (show vp_in (nI (4 * i + j)) (hl (fdT σ i j) 8 1) from by rw [hM'.l_keeps]; exact nI_in (by omega) (by decide)) ?_
        rw [nI_clamp (show 4 * i + j < 2 ^ 31 by omega)]
        refine e_ifeq (tgt := 151) d_M_find_137 (by decide) (fun h137 => ?_) (fun h137 => ?_)
        ·
          refine e_iconst (v := 1) d_M_find_151 (by decide) ?_
          refine e_iast d_M_find_152 (show vp_in (nI (4 * i + j)) (hl (fdT σ i j) 7 7) from by rw [hM'.l_states]; exact nI_in (by omega) (by decide)) ?_
          rw [nI_clamp (show 4 * i + j < 2 ^ 31 by omega)]
          refine e_iinc (v := nI (4 * i + (j + 1))) (lv' := [(3, .int (nI (4 * i + (j + 1)))), (2, .int ((fdS σ i 4).2)), (0, .ref (6 + 16 * 0)), (1, .int (nI i))]) d_M_find_153 rfl (ofI1 (4 * i + j)) (by decide) rfl ?_
          refine e_goto (tgt := 81) d_M_find_156 (by decide) ?_
          exact (by have h9 := ih (j + 1) (by omega); rw [show fdT σ i (j + 1) = sI (koS (trS1 (toS (fdT σ i j) (4 * i + j))) (4 * i + j)) 7 (7) (4 * i + j) (1) by rw [fdT_s]; unfold fd2 stV; simp [h115n, h124, h137]] at h9; exact h9)
        ·
          refine e_aload_n d_M_find_140 rfl rfl ?_
          refine e_callVd (v := some (.int (btI (hI (koS (trS1 (toS (fdT σ i j) (4 * i + j))) (4 * i + j)) 7 14) (hI (koS (trS1 (toS (fdT σ i j) (4 * i + j))) (4 * i + j)) 7 15)))) (σ' := koS (trS1 (toS (fdT σ i j) (4 * i + j))) (4 * i + j)) (q := 6) (a := 0) (As := []) (st := [.int (nI (4 * i + j)), .ref (7 + 16 * 7)]) 0 0 d_M_find_141 cb_M_find_93 iv_M_better rfl ⟨by decide, rfl⟩ rfl (Nat.le_of_ble_eq_true rfl) (by decide) (by decide) (ct_M_better hl0 (hM'.of rfl rfl)) ?_
          show Ex l G m_M_find (pmV G m_M_find (qd (.inr none) (fdT σ i 4))) 144 [(3, .int (nI (4 * i + j))), (2, .int ((fdS σ i 4).2)), (0, .ref (6 + 16 * 0)), (1, .int (nI i))] [.int (btI (hI (koS (trS1 (toS (fdT σ i j) (4 * i + j))) (4 * i + j)) 7 14) (hI (koS (trS1 (toS (fdT σ i j) (4 * i + j))) (4 * i + j)) 7 15)), .int (nI (4 * i + j)), .ref (7 + 16 * 7)] (koS (trS1 (toS (fdT σ i j) (4 * i + j))) (4 * i + j)) 0 0
          refine e_ifeq (tgt := 151) d_M_find_144 (by decide) (fun h144 => ?_) (fun h144 => ?_)
          ·
            refine e_iconst (v := 1) d_M_find_151 (by decide) ?_
            refine e_iast d_M_find_152 (show vp_in (nI (4 * i + j)) (hl (fdT σ i j) 7 7) from by rw [hM'.l_states]; exact nI_in (by omega) (by decide)) ?_
            rw [nI_clamp (show 4 * i + j < 2 ^ 31 by omega)]
            refine e_iinc (v := nI (4 * i + (j + 1))) (lv' := [(3, .int (nI (4 * i + (j + 1)))), (2, .int ((fdS σ i 4).2)), (0, .ref (6 + 16 * 0)), (1, .int (nI i))]) d_M_find_153 rfl (ofI1 (4 * i + j)) (by decide) rfl ?_
            refine e_goto (tgt := 81) d_M_find_156 (by decide) ?_
            exact (by have h9 := ih (j + 1) (by omega); rw [show fdT σ i (j + 1) = sI (koS (trS1 (toS (fdT σ i j) (4 * i + j))) (4 * i + j)) 7 (7) (4 * i + j) (1) by rw [fdT_s]; unfold fd2 stV; simp [h115n, h124, h137, h144]] at h9; exact h9)
          ·
            refine e_iconst (v := 3) d_M_find_147 (by decide) ?_
            refine e_goto (tgt := 152) d_M_find_148 (by decide) ?_
            refine e_iast d_M_find_152 (show vp_in (nI (4 * i + j)) (hl (fdT σ i j) 7 7) from by rw [hM'.l_states]; exact nI_in (by omega) (by decide)) ?_
            rw [nI_clamp (show 4 * i + j < 2 ^ 31 by omega)]
            refine e_iinc (v := nI (4 * i + (j + 1))) (lv' := [(3, .int (nI (4 * i + (j + 1)))), (2, .int ((fdS σ i 4).2)), (0, .ref (6 + 16 * 0)), (1, .int (nI i))]) d_M_find_153 rfl (ofI1 (4 * i + j)) (by decide) rfl ?_
            refine e_goto (tgt := 81) d_M_find_156 (by decide) ?_
            exact (by have h9 := ih (j + 1) (by omega); rw [show fdT σ i (j + 1) = sI (koS (trS1 (toS (fdT σ i j) (4 * i + j))) (4 * i + j)) 7 (7) (4 * i + j) (3) by rw [fdT_s]; unfold fd2 stV; simp [h115n, h124, h137, h144]] at h9; exact h9)
      ·
        refine e_iconst (v := 2) d_M_find_127 (by decide) ?_
        refine e_goto (tgt := 152) d_M_find_128 (by decide) ?_
        refine e_iast d_M_find_152 (show vp_in (nI (4 * i + j)) (hl (fdT σ i j) 7 7) from by rw [hM'.l_states]; exact nI_in (by omega) (by decide)) ?_
        rw [nI_clamp (show 4 * i + j < 2 ^ 31 by omega)]
        refine e_iinc (v := nI (4 * i + (j + 1))) (lv' := [(3, .int (nI (4 * i + (j + 1)))), (2, .int ((fdS σ i 4).2)), (0, .ref (6 + 16 * 0)), (1, .int (nI i))]) d_M_find_153 rfl (ofI1 (4 * i + j)) (by decide) rfl ?_
        refine e_goto (tgt := 81) d_M_find_156 (by decide) ?_
        exact (by have h9 := ih (j + 1) (by omega); rw [show fdT σ i (j + 1) = sI (koS (trS1 (toS (fdT σ i j) (4 * i + j))) (4 * i + j)) 7 (7) (4 * i + j) (2) by rw [fdT_s]; unfold fd2 stV; simp [h115n, h124]] at h9; exact h9)
    ·
      have h115n := Int32.not_le.mp h115
      refine e_iconst (v := 0) d_M_find_118 (by decide) ?_
      refine e_goto (tgt := 152) d_M_find_119 (by decide) ?_
      refine e_iast d_M_find_152 (show vp_in (nI (4 * i + j)) (hl (fdT σ i j) 7 7) from by rw [hM'.l_states]; exact nI_in (by omega) (by decide)) ?_
      rw [nI_clamp (show 4 * i + j < 2 ^ 31 by omega)]
      refine e_iinc (v := nI (4 * i + (j + 1))) (lv' := [(3, .int (nI (4 * i + (j + 1)))), (2, .int ((fdS σ i 4).2)), (0, .ref (6 + 16 * 0)), (1, .int (nI i))]) d_M_find_153 rfl (ofI1 (4 * i + j)) (by decide) rfl ?_
      refine e_goto (tgt := 81) d_M_find_156 (by decide) ?_
      exact (by have h9 := ih (j + 1) (by omega); rw [show fdT σ i (j + 1) = sI (koS (trS1 (toS (fdT σ i j) (4 * i + j))) (4 * i + j)) 7 (7) (4 * i + j) (0) by rw [fdT_s]; unfold fd2 stV; simp [h115n]] at h9; exact h9)
set_option maxHeartbeats 4000000 in
theorem lp_M_find {l : Launch} (hl0 : l.stackTraces = false) {G : LG} {σ : HS} {i : Nat} (hM : MS σ) (hi : i < 10) : ∀ m j, j + m = 4 → Ex l G m_M_find (pmV G m_M_find (qd (.inr none) (fdT σ i 4))) 6 [(3, .int (nI (4 * i + j))), (2, .int ((fdS σ i j).2)), (0, .ref (6 + 16 * 0)), (1, .int (nI i))] [] ((fdS σ i j).1) 0 0 := by
  intro m
  induction m with
  | zero =>
    intro j hj
    obtain rfl : j = 4 := by omega
    have hM' : MS (fdS σ i 4).1 := hM.of (fdS_R 4).1 (fdS_R 4).2
    refine e_iload_n d_M_find_6 rfl rfl ?_
    refine e_iconst (v := 4) d_M_find_7 (by decide) ?_
    refine e_iload_n d_M_find_8 rfl rfl ?_
    refine e_imul d_M_find_9 ?_
    rw [show (4) * (nI i) = nI (4 * i) from by rw [show (4 : Int32) = nI 4 from by decide +kernel, nJ_mul]]
    refine e_iconst (v := 4) d_M_find_10 (by decide) ?_
    refine e_iadd d_M_find_11 ?_
    rw [show (nI (4 * i)) + (4) = nI ((4 * i) + 4) from by rw [show (4 : Int32) = nI 4 from by decide +kernel, nJ_add]]
    refine e_icmpge (tgt := 70) d_M_find_12 (by decide) (fun h12 => ?_) (fun h12 => absurd (nI_le (Nat.le_refl _) (by omega)) h12)
    refine e_aload_n d_M_find_70 rfl rfl ?_
    refine g_M_69 (b := 7 + 16 * 13) rfl d_M_find_71 hM'.a_bests ?_
    refine e_iload_n d_M_find_74 rfl rfl ?_
    refine e_iload_n d_M_find_75 rfl rfl ?_
    refine e_iast d_M_find_76 (show vp_in (nI i) (hl (fdS σ i 4).1 7 13) from by rw [hM'.l_bests]; exact nI_in (by omega) (by decide)) ?_
    rw [nI_clamp (show i < 2 ^ 31 by omega)]
    refine e_iconst (v := 4) d_M_find_77 (by decide) ?_
    refine e_iload_n d_M_find_78 rfl rfl ?_
    refine e_imul d_M_find_79 ?_
    rw [show (4) * (nI i) = nI (4 * i) from by rw [show (4 : Int32) = nI 4 from by decide +kernel, nJ_mul]]
    refine e_istore_n (lv' := [(3, .int (nI (4 * i))), (2, .int ((fdS σ i 4).2)), (0, .ref (6 + 16 * 0)), (1, .int (nI i))]) d_M_find_80 rfl (by decide) rfl ?_
    exact e_lv (lv' := [(3, .int (nI (4 * i + 0))), (2, .int ((fdS σ i 4).2)), (0, .ref (6 + 16 * 0)), (1, .int (nI i))]) ⟨rfl, rfl, rfl, rfl, trivial⟩ (lq_M_find hl0 hM hi 4 0 rfl)
  | succ m ih =>
    intro j hj
    have hj4 : j < 4 := by omega
    have hM' : MS (fdS σ i j).1 := hM.of (fdS_R j).1 (fdS_R j).2
    rcases fdS_b (σ := σ) hi j (by omega) with hb | ⟨x, hx, hb⟩
    ·
      have h9 := ih (j + 1) (by omega)
      rw [hb]
      have hC : fdC (fdS σ i j) i = ooS (fdS σ i j).1 i (-1) := by unfold fdC; rw [hb, if_pos (by decide +kernel)]
      refine e_iload_n d_M_find_6 rfl rfl ?_
      refine e_iconst (v := 4) d_M_find_7 (by decide) ?_
      refine e_iload_n d_M_find_8 rfl rfl ?_
      refine e_imul d_M_find_9 ?_
      rw [show (4) * (nI i) = nI (4 * i) from by rw [show (4 : Int32) = nI 4 from by decide +kernel, nJ_mul]]
      refine e_iconst (v := 4) d_M_find_10 (by decide) ?_
      refine e_iadd d_M_find_11 ?_
      rw [show (nI (4 * i)) + (4) = nI ((4 * i) + 4) from by rw [show (4 : Int32) = nI 4 from by decide +kernel, nJ_add]]
      refine e_icmpge (tgt := 70) d_M_find_12 (by decide) (fun h12 => absurd h12 (nI_ge (show 4 * i + j < 4 * i + 4 by omega) (by omega))) (fun h12 => ?_)
      refine e_aload_n d_M_find_15 rfl rfl ?_
      refine g_M_45 (b := 8 + 16 * 1) rfl d_M_find_16 hM'.a_keeps ?_
      refine e_iload_n d_M_find_19 rfl rfl ?_
      refine e_zald d_M_find_20 (show vp_in (nI (4 * i + j)) (hl (fdS σ i j).1 8 1) from by rw [hM'.l_keeps]; exact nI_in (by omega) (by decide)) ?_
      rw [nI_clamp (show 4 * i + j < 2 ^ 31 by omega)]
      refine e_ifeq (tgt := 64) d_M_find_21 (by decide) (fun h21 => ?_) (fun h21 => ?_)
      ·
        refine e_iinc (v := nI (4 * i + (j + 1))) (lv' := [(3, .int (nI (4 * i + (j + 1)))), (2, .int (-1)), (0, .ref (6 + 16 * 0)), (1, .int (nI i))]) d_M_find_64 rfl (ofI1 (4 * i + j)) (by decide) rfl ?_
        refine e_goto (tgt := 6) d_M_find_67 (by decide) ?_
        exact e_lv (lv' := [(3, .int (nI (4 * i + (j + 1)))), (2, .int (-1)), (0, .ref (6 + 16 * 0)), (1, .int (nI i))]) ⟨rfl, rfl, rfl, rfl, trivial⟩ (by rw [show fdS σ i (j + 1) = ((fdS σ i j).1, -1) by rw [fdS]; unfold fd1; rw [if_pos h21, ← hb]] at h9; exact h9)
      ·
        refine e_iload_n d_M_find_24 rfl rfl ?_
        refine e_ifge (tgt := 37) d_M_find_25 (by decide) (fun h25 => absurd h25 (by decide +kernel)) (fun h25 => ?_)
        refine e_aload_n d_M_find_28 rfl rfl ?_
        refine e_iload_n d_M_find_29 rfl rfl ?_
        refine e_iconst (v := -1) d_M_find_30 (by decide) ?_
        refine e_callVd (v := none) (σ' := ooS (fdS σ i j).1 i (-1)) (q := 6) (a := 0) (As := [.int (nI i), .int (-1)]) (st := []) 0 0 d_M_find_31 cb_M_find_82 iv_M_ownOne rfl ⟨by decide, rfl⟩ rfl (Nat.le_of_ble_eq_true rfl) (by decide) (by decide) (ct_M_ownOne hl0 hM' hi) ?_
        show Ex l G m_M_find (pmV G m_M_find (qd (.inr none) (fdT σ i 4))) 34 [(3, .int (nI (4 * i + j))), (2, .int (-1)), (0, .ref (6 + 16 * 0)), (1, .int (nI i))] [] (ooS (fdS σ i j).1 i (-1)) 0 0
        refine e_goto (tgt := 42) d_M_find_34 (by decide) ?_
        refine e_aload_n d_M_find_42 rfl rfl ?_
        refine e_callVd (v := none) (σ' := trS1 (ooS (fdS σ i j).1 i (-1))) (q := 6) (a := 0) (As := []) (st := []) 0 0 d_M_find_43 cb_M_find_90 iv_M_turnRound rfl ⟨by decide, rfl⟩ rfl (Nat.le_of_ble_eq_true rfl) (by decide) (by decide) (ct_M_turnRound hl0 (hM'.of rfl rfl)) ?_
        show Ex l G m_M_find (pmV G m_M_find (qd (.inr none) (fdT σ i 4))) 46 [(3, .int (nI (4 * i + j))), (2, .int (-1)), (0, .ref (6 + 16 * 0)), (1, .int (nI i))] [] (trS1 (ooS (fdS σ i j).1 i (-1))) 0 0
        refine e_aload_n d_M_find_46 rfl rfl ?_
        refine e_iload_n d_M_find_47 rfl rfl ?_
        refine e_callVd (v := none) (σ' := koS (trS1 (ooS (fdS σ i j).1 i (-1))) (4 * i + j)) (q := 6) (a := 0) (As := [.int (nI (4 * i + j))]) (st := []) 0 0 d_M_find_48 cb_M_find_86 iv_M_keptOne rfl ⟨by decide, rfl⟩ rfl (Nat.le_of_ble_eq_true rfl) (by decide) (by decide) (ct_M_keptOne hl0 (hM'.of rfl rfl) (by omega)) ?_
        show Ex l G m_M_find (pmV G m_M_find (qd (.inr none) (fdT σ i 4))) 51 [(3, .int (nI (4 * i + j))), (2, .int (-1)), (0, .ref (6 + 16 * 0)), (1, .int (nI i))] [] (koS (trS1 (ooS (fdS σ i j).1 i (-1))) (4 * i + j)) 0 0
        refine e_aload_n d_M_find_51 rfl rfl ?_
        refine e_callVd (v := some (.int (btI (hI (koS (trS1 (ooS (fdS σ i j).1 i (-1))) (4 * i + j)) 7 14) (hI (koS (trS1 (ooS (fdS σ i j).1 i (-1))) (4 * i + j)) 7 15)))) (σ' := koS (trS1 (ooS (fdS σ i j).1 i (-1))) (4 * i + j)) (q := 6) (a := 0) (As := []) (st := []) 0 0 d_M_find_52 cb_M_find_93 iv_M_better rfl ⟨by decide, rfl⟩ rfl (Nat.le_of_ble_eq_true rfl) (by decide) (by decide) (ct_M_better hl0 (hM'.of rfl rfl)) ?_
        show Ex l G m_M_find (pmV G m_M_find (qd (.inr none) (fdT σ i 4))) 55 [(3, .int (nI (4 * i + j))), (2, .int (-1)), (0, .ref (6 + 16 * 0)), (1, .int (nI i))] [.int (btI (hI (koS (trS1 (ooS (fdS σ i j).1 i (-1))) (4 * i + j)) 7 14) (hI (koS (trS1 (ooS (fdS σ i j).1 i (-1))) (4 * i + j)) 7 15))] (koS (trS1 (ooS (fdS σ i j).1 i (-1))) (4 * i + j)) 0 0
        refine e_ifeq (tgt := 62) d_M_find_55 (by decide) (fun h55 => ?_) (fun h55 => ?_)
        ·
          refine e_iload_n d_M_find_62 rfl rfl ?_
          refine e_istore_n (lv' := [(2, .int (-1)), (3, .int (nI (4 * i + j))), (0, .ref (6 + 16 * 0)), (1, .int (nI i))]) d_M_find_63 rfl (by decide) rfl ?_
          refine e_iinc (v := nI (4 * i + (j + 1))) (lv' := [(3, .int (nI (4 * i + (j + 1)))), (2, .int (-1)), (0, .ref (6 + 16 * 0)), (1, .int (nI i))]) d_M_find_64 rfl (ofI1 (4 * i + j)) (by decide) rfl ?_
          refine e_goto (tgt := 6) d_M_find_67 (by decide) ?_
          exact e_lv (lv' := [(3, .int (nI (4 * i + (j + 1)))), (2, .int (-1)), (0, .ref (6 + 16 * 0)), (1, .int (nI i))]) ⟨rfl, rfl, rfl, rfl, trivial⟩ (by rw [show fdS σ i (j + 1) = (koS (trS1 (ooS (fdS σ i j).1 i (-1))) (4 * i + j), -1) by rw [fdS]; unfold fd1; rw [if_neg h21, hC, hb, if_pos h55]] at h9; exact h9)
        ·
          refine e_iload_n d_M_find_58 rfl rfl ?_
          refine e_goto (tgt := 63) d_M_find_59 (by decide) ?_
          refine e_istore_n (lv' := [(2, .int (nI (4 * i + j))), (3, .int (nI (4 * i + j))), (0, .ref (6 + 16 * 0)), (1, .int (nI i))]) d_M_find_63 rfl (by decide) rfl ?_
          refine e_iinc (v := nI (4 * i + (j + 1))) (lv' := [(3, .int (nI (4 * i + (j + 1)))), (2, .int (nI (4 * i + j))), (0, .ref (6 + 16 * 0)), (1, .int (nI i))]) d_M_find_64 rfl (ofI1 (4 * i + j)) (by decide) rfl ?_
          refine e_goto (tgt := 6) d_M_find_67 (by decide) ?_
          exact e_lv (lv' := [(3, .int (nI (4 * i + (j + 1)))), (2, .int (nI (4 * i + j))), (0, .ref (6 + 16 * 0)), (1, .int (nI i))]) ⟨rfl, rfl, rfl, rfl, trivial⟩ (by rw [show fdS σ i (j + 1) = (koS (trS1 (ooS (fdS σ i j).1 i (-1))) (4 * i + j), nI (4 * i + j)) by rw [fdS]; unfold fd1; rw [if_neg h21, hC, hb, if_neg h55]] at h9; exact h9)
    ·
      have h9 := ih (j + 1) (by omega)
      rw [hb]
      have hC : fdC (fdS σ i j) i = koS (fdS σ i j).1 x := by unfold fdC; rw [hb, if_neg (nI_pos (by omega)), nI_clamp (by omega)]
      refine e_iload_n d_M_find_6 rfl rfl ?_
      refine e_iconst (v := 4) d_M_find_7 (by decide) ?_
      refine e_iload_n d_M_find_8 rfl rfl ?_
      refine e_imul d_M_find_9 ?_
      rw [show (4) * (nI i) = nI (4 * i) from by rw [show (4 : Int32) = nI 4 from by decide +kernel, nJ_mul]]
      refine e_iconst (v := 4) d_M_find_10 (by decide) ?_
      refine e_iadd d_M_find_11 ?_
      rw [show (nI (4 * i)) + (4) = nI ((4 * i) + 4) from by rw [show (4 : Int32) = nI 4 from by decide +kernel, nJ_add]]
      refine e_icmpge (tgt := 70) d_M_find_12 (by decide) (fun h12 => absurd h12 (nI_ge (show 4 * i + j < 4 * i + 4 by omega) (by omega))) (fun h12 => ?_)
      refine e_aload_n d_M_find_15 rfl rfl ?_
      refine g_M_45 (b := 8 + 16 * 1) rfl d_M_find_16 hM'.a_keeps ?_
      refine e_iload_n d_M_find_19 rfl rfl ?_
      refine e_zald d_M_find_20 (show vp_in (nI (4 * i + j)) (hl (fdS σ i j).1 8 1) from by rw [hM'.l_keeps]; exact nI_in (by omega) (by decide)) ?_
      rw [nI_clamp (show 4 * i + j < 2 ^ 31 by omega)]
      refine e_ifeq (tgt := 64) d_M_find_21 (by decide) (fun h21 => ?_) (fun h21 => ?_)
      ·
        refine e_iinc (v := nI (4 * i + (j + 1))) (lv' := [(3, .int (nI (4 * i + (j + 1)))), (2, .int (nI x)), (0, .ref (6 + 16 * 0)), (1, .int (nI i))]) d_M_find_64 rfl (ofI1 (4 * i + j)) (by decide) rfl ?_
        refine e_goto (tgt := 6) d_M_find_67 (by decide) ?_
        exact e_lv (lv' := [(3, .int (nI (4 * i + (j + 1)))), (2, .int (nI x)), (0, .ref (6 + 16 * 0)), (1, .int (nI i))]) ⟨rfl, rfl, rfl, rfl, trivial⟩ (by rw [show fdS σ i (j + 1) = ((fdS σ i j).1, nI x) by rw [fdS]; unfold fd1; rw [if_pos h21, ← hb]] at h9; exact h9)
      ·
        refine e_iload_n d_M_find_24 rfl rfl ?_
        refine e_ifge (tgt := 37) d_M_find_25 (by decide) (fun h25 => ?_) (fun h25 => absurd (nI_pos' (by omega)) h25)
        refine e_aload_n d_M_find_37 rfl rfl ?_
        refine e_iload_n d_M_find_38 rfl rfl ?_
        refine e_callVd (v := none) (σ' := koS (fdS σ i j).1 x) (q := 6) (a := 0) (As := [.int (nI x)]) (st := []) 0 0 d_M_find_39 cb_M_find_86 iv_M_keptOne rfl ⟨by decide, rfl⟩ rfl (Nat.le_of_ble_eq_true rfl) (by decide) (by decide) (ct_M_keptOne hl0 hM' hx) ?_
        show Ex l G m_M_find (pmV G m_M_find (qd (.inr none) (fdT σ i 4))) 42 [(3, .int (nI (4 * i + j))), (2, .int (nI x)), (0, .ref (6 + 16 * 0)), (1, .int (nI i))] [] (koS (fdS σ i j).1 x) 0 0
        refine e_aload_n d_M_find_42 rfl rfl ?_
        refine e_callVd (v := none) (σ' := trS1 (koS (fdS σ i j).1 x)) (q := 6) (a := 0) (As := []) (st := []) 0 0 d_M_find_43 cb_M_find_90 iv_M_turnRound rfl ⟨by decide, rfl⟩ rfl (Nat.le_of_ble_eq_true rfl) (by decide) (by decide) (ct_M_turnRound hl0 (hM'.of rfl rfl)) ?_
        show Ex l G m_M_find (pmV G m_M_find (qd (.inr none) (fdT σ i 4))) 46 [(3, .int (nI (4 * i + j))), (2, .int (nI x)), (0, .ref (6 + 16 * 0)), (1, .int (nI i))] [] (trS1 (koS (fdS σ i j).1 x)) 0 0
        refine e_aload_n d_M_find_46 rfl rfl ?_
        refine e_iload_n d_M_find_47 rfl rfl ?_
        refine e_callVd (v := none) (σ' := koS (trS1 (koS (fdS σ i j).1 x)) (4 * i + j)) (q := 6) (a := 0) (As := [.int (nI (4 * i + j))]) (st := []) 0 0 d_M_find_48 cb_M_find_86 iv_M_keptOne rfl ⟨by decide, rfl⟩ rfl (Nat.le_of_ble_eq_true rfl) (by decide) (by decide) (ct_M_keptOne hl0 (hM'.of rfl rfl) (by omega)) ?_
        show Ex l G m_M_find (pmV G m_M_find (qd (.inr none) (fdT σ i 4))) 51 [(3, .int (nI (4 * i + j))), (2, .int (nI x)), (0, .ref (6 + 16 * 0)), (1, .int (nI i))] [] (koS (trS1 (koS (fdS σ i j).1 x)) (4 * i + j)) 0 0
        refine e_aload_n d_M_find_51 rfl rfl ?_
        refine e_callVd (v := some (.int (btI (hI (koS (trS1 (koS (fdS σ i j).1 x)) (4 * i + j)) 7 14) (hI (koS (trS1 (koS (fdS σ i j).1 x)) (4 * i + j)) 7 15)))) (σ' := koS (trS1 (koS (fdS σ i j).1 x)) (4 * i + j)) (q := 6) (a := 0) (As := []) (st := []) 0 0 d_M_find_52 cb_M_find_93 iv_M_better rfl ⟨by decide, rfl⟩ rfl (Nat.le_of_ble_eq_true rfl) (by decide) (by decide) (ct_M_better hl0 (hM'.of rfl rfl)) ?_
        show Ex l G m_M_find (pmV G m_M_find (qd (.inr none) (fdT σ i 4))) 55 [(3, .int (nI (4 * i + j))), (2, .int (nI x)), (0, .ref (6 + 16 * 0)), (1, .int (nI i))] [.int (btI (hI (koS (trS1 (koS (fdS σ i j).1 x)) (4 * i + j)) 7 14) (hI (koS (trS1 (koS (fdS σ i j).1 x)) (4 * i + j)) 7 15))] (koS (trS1 (koS (fdS σ i j).1 x)) (4 * i + j)) 0 0
        refine e_ifeq (tgt := 62) d_M_find_55 (by decide) (fun h55 => ?_) (fun h55 => ?_)
        ·
          refine e_iload_n d_M_find_62 rfl rfl ?_
          refine e_istore_n (lv' := [(2, .int (nI x)), (3, .int (nI (4 * i + j))), (0, .ref (6 + 16 * 0)), (1, .int (nI i))]) d_M_find_63 rfl (by decide) rfl ?_
          refine e_iinc (v := nI (4 * i + (j + 1))) (lv' := [(3, .int (nI (4 * i + (j + 1)))), (2, .int (nI x)), (0, .ref (6 + 16 * 0)), (1, .int (nI i))]) d_M_find_64 rfl (ofI1 (4 * i + j)) (by decide) rfl ?_
          refine e_goto (tgt := 6) d_M_find_67 (by decide) ?_
          exact e_lv (lv' := [(3, .int (nI (4 * i + (j + 1)))), (2, .int (nI x)), (0, .ref (6 + 16 * 0)), (1, .int (nI i))]) ⟨rfl, rfl, rfl, rfl, trivial⟩ (by rw [show fdS σ i (j + 1) = (koS (trS1 (koS (fdS σ i j).1 x)) (4 * i + j), nI x) by rw [fdS]; unfold fd1; rw [if_neg h21, hC, hb, if_pos h55]] at h9; exact h9)
        ·
          refine e_iload_n d_M_find_58 rfl rfl ?_
          refine e_goto (tgt := 63) d_M_find_59 (by decide) ?_
          refine e_istore_n (lv' := [(2, .int (nI (4 * i + j))), (3, .int (nI (4 * i + j))), (0, .ref (6 + 16 * 0)), (1, .int (nI i))]) d_M_find_63 rfl (by decide) rfl ?_
          refine e_iinc (v := nI (4 * i + (j + 1))) (lv' := [(3, .int (nI (4 * i + (j + 1)))), (2, .int (nI (4 * i + j))), (0, .ref (6 + 16 * 0)), (1, .int (nI i))]) d_M_find_64 rfl (ofI1 (4 * i + j)) (by decide) rfl ?_
          refine e_goto (tgt := 6) d_M_find_67 (by decide) ?_
          exact e_lv (lv' := [(3, .int (nI (4 * i + (j + 1)))), (2, .int (nI (4 * i + j))), (0, .ref (6 + 16 * 0)), (1, .int (nI i))]) ⟨rfl, rfl, rfl, rfl, trivial⟩ (by rw [show fdS σ i (j + 1) = (koS (trS1 (koS (fdS σ i j).1 x)) (4 * i + j), nI (4 * i + j)) by rw [fdS]; unfold fd1; rw [if_neg h21, hC, hb, if_neg h55]] at h9; exact h9)
set_option maxHeartbeats 4000000 in
set_option maxRecDepth 100000 in
theorem ct_M_find {l : Launch} (hl0 : l.stackTraces = false) {G : LG} {σ : HS} {i : Nat} (hM : MS σ) (hi : i < 10) : Ct l G m_M_find [.ref (6 + 16 * 0), .int (nI i)] (σ) (qd (.inr none) (fdT σ i 4)) := by
  refine Ct.of hl0 rfl rfl (Nat.le_of_ble_eq_true rfl) ?_
  show Ex l G m_M_find (pmV G m_M_find (qd (.inr none) (fdT σ i 4))) 0 [(0, .ref (6 + 16 * 0)), (1, .int (nI i))] [] (σ) 0 0
  refine e_iconst (v := -1) d_M_find_0 (by decide) ?_
  refine e_istore_n (lv' := [(2, .int (-1)), (0, .ref (6 + 16 * 0)), (1, .int (nI i))]) d_M_find_1 rfl (by decide) rfl ?_
  refine e_iconst (v := 4) d_M_find_2 (by decide) ?_
  refine e_iload_n d_M_find_3 rfl rfl ?_
  refine e_imul d_M_find_4 ?_
  rw [show (4) * (nI i) = nI (4 * i) from by rw [show (4 : Int32) = nI 4 from by decide +kernel, nJ_mul]]
  refine e_istore_n (lv' := [(3, .int (nI (4 * i))), (2, .int (-1)), (0, .ref (6 + 16 * 0)), (1, .int (nI i))]) d_M_find_5 rfl (by decide) rfl ?_
  exact e_lv (lv' := [(3, .int (nI (4 * i + 0))), (2, .int ((fdS σ i 0).2)), (0, .ref (6 + 16 * 0)), (1, .int (nI i))]) ⟨rfl, rfl, rfl, rfl, trivial⟩ (lp_M_find hl0 hM hi 4 0 rfl)
def faS (σ : HS) : Nat → HS
  | 0 => σ
  | i + 1 => fdT (faS σ i) i 4
theorem faS_R {σ : HS} : ∀ i, hR (faS σ i) = hR σ ∧ hl (faS σ i) = hl σ
  | 0 => ⟨rfl, rfl⟩
  | i + 1 => by rw [faS]; exact ⟨(fdT_R 4).1.trans (faS_R i).1, (fdT_R 4).2.trans (faS_R i).2⟩
theorem sA_q {σ : HS} {a : Nat} {f : Nat → Int32} {q x k : Nat} (h : q ≠ 7) : hI (sA σ 7 a f) q x k = hI σ q x k := by rw [I_sA, if_neg (fun z => h z.1)]
theorem koS_q {τ : HS} {p q x k : Nat} (h : q ≠ 7) : hI (koS τ p) q x k = hI τ q x k := sA_q h
theorem trS1_q {τ : HS} {q x k : Nat} (h : q ≠ 7) : hI (trS1 τ) q x k = hI τ q x k := sA_q h
theorem ooS_q {τ : HS} {i q x k : Nat} {u : Int32} (h : q ≠ 7) : hI (ooS τ i u) q x k = hI τ q x k := sA_q h
theorem toS_q {τ : HS} {p q x k : Nat} (h : q ≠ 7) : hI (toS τ p) q x k = hI τ q x k := sA_q h
theorem fdC_q {z : HS × Int32} {i q x k : Nat} (h : q ≠ 7) : hI (fdC z i) q x k = hI z.1 q x k := by
  unfold fdC
  split
  · exact ooS_q h
  · exact koS_q h
theorem fdS_s {σ : HS} {i j : Nat} : fdS σ i (j + 1) = fd1 (fdS σ i j) i (4 * i + j) := by rw [fdS]
theorem fdS_q {σ : HS} {i q x k : Nat} (hq : q ≠ 7) : ∀ j, hI (fdS σ i j).1 q x k = hI σ q x k
  | 0 => by rw [fdS]
  | j + 1 => by
    have h := fdS_q (σ := σ) (i := i) (x := x) (k := k) hq j
    rw [fdS_s]
    unfold fd1
    split
    · exact h
    · dsimp only
      rw [koS_q hq, trS1_q hq, fdC_q hq]; exact h
theorem fd2_q {τ : HS} {p q x k : Nat} {b : Int32} (h : q ≠ 7) : hI (fd2 τ p b) q x k = hI τ q x k := by
  unfold fd2
  rw [I_sI, if_neg (fun z => h z.1), koS_q h, trS1_q h, toS_q h]
theorem fdT_q {σ : HS} {i q x k : Nat} (hq : q ≠ 7) : ∀ j, hI (fdT σ i j) q x k = hI σ q x k
  | 0 => by rw [fdT_0, I_sI, if_neg (fun z => hq z.1)]; exact fdS_q hq 4
  | j + 1 => by rw [fdT_s, fd2_q hq]; exact fdT_q (σ := σ) (i := i) hq j
theorem faS_q {σ : HS} {q x k : Nat} (hq : q ≠ 7) : ∀ i, hI (faS σ i) q x k = hI σ q x k
  | 0 => by rw [faS]
  | i + 1 => by rw [faS, fdT_q hq]; exact faS_q hq i
theorem faS_I6 {σ : HS} {k : Nat} (i : Nat) : hI (faS σ i) 6 0 k = hI σ 6 0 k := faS_q (by decide) i
set_option maxHeartbeats 4000000 in
theorem lp_M_findAll {l : Launch} (hl0 : l.stackTraces = false) {G : LG} {σ : HS} {n : Nat} (hM : MS σ) (hn10 : n ≤ 10) (hnn : hI σ 6 0 1 = nI n) : ∀ m i, i + m = n → Ex l G m_M_findAll (pmV G m_M_findAll (qd (.inr none) (faS σ n))) 2 [(1, .int (nI i)), (0, .ref (6 + 16 * 0))] [] (faS σ i) 0 0 := by
  intro m
  induction m with
  | zero =>
    intro i hi
    obtain rfl : i = n := by omega
    refine e_iload_n d_M_findAll_2 rfl rfl ?_
    refine e_aload_n d_M_findAll_3 rfl rfl ?_
    refine g_M_100 rfl d_M_findAll_4 ?_
    refine e_icmpge (tgt := 21) d_M_findAll_7 (by decide) (fun h7 => ?_) (fun h7 => absurd (by rw [faS_I6, hnn]; exact nI_le (Nat.le_refl _) (by omega)) h7)
    exact e_vret d_M_findAll_21 rfl ⟨rfl, rfl⟩
  | succ m ih =>
    intro i hi
    have hin : i < n := by omega
    have hM' : MS (faS σ i) := hM.of (faS_R i).1 (faS_R i).2
    refine e_iload_n d_M_findAll_2 rfl rfl ?_
    refine e_aload_n d_M_findAll_3 rfl rfl ?_
    refine g_M_100 rfl d_M_findAll_4 ?_
    refine e_icmpge (tgt := 21) d_M_findAll_7 (by decide) (fun h7 => absurd h7 (by rw [faS_I6, hnn]; exact nI_ge hin (by omega))) (fun h7 => ?_)
    refine e_aload_n d_M_findAll_10 rfl rfl ?_
    refine e_iload_n d_M_findAll_11 rfl rfl ?_
    refine e_callVd (v := none) (σ' := fdT (faS σ i) i 4) (q := 6) (a := 0) (As := [.int (nI i)]) (st := []) 0 0 d_M_findAll_12 cb_M_findAll_103 iv_M_find rfl ⟨by decide, rfl⟩ rfl (Nat.le_of_ble_eq_true rfl) (by decide) (by decide) (ct_M_find hl0 hM' (by omega)) ?_
    show Ex l G m_M_findAll (pmV G m_M_findAll (qd (.inr none) (faS σ n))) 15 [(1, .int (nI i)), (0, .ref (6 + 16 * 0))] [] (fdT (faS σ i) i 4) 0 0
    refine e_iinc (v := nI (i + 1)) (lv' := [(1, .int (nI (i + 1))), (0, .ref (6 + 16 * 0))]) d_M_findAll_15 rfl (ofI1 i) (by decide) rfl ?_
    refine e_goto (tgt := 2) d_M_findAll_18 (by decide) ?_
    exact ih (i + 1) (by omega)
set_option maxHeartbeats 4000000 in
set_option maxRecDepth 100000 in
theorem ct_M_findAll {l : Launch} (hl0 : l.stackTraces = false) {G : LG} {σ : HS} {n : Nat} (hM : MS σ) (hn10 : n ≤ 10) (hnn : hI σ 6 0 1 = nI n) : Ct l G m_M_findAll [.ref (6 + 16 * 0)] (σ) (qd (.inr none) (faS σ n)) := by
  refine Ct.of hl0 rfl rfl (Nat.le_of_ble_eq_true rfl) ?_
  show Ex l G m_M_findAll (pmV G m_M_findAll (qd (.inr none) (faS σ n))) 0 [(0, .ref (6 + 16 * 0))] [] (σ) 0 0
  refine e_iconst (v := 0) d_M_findAll_0 (by decide) ?_
  refine e_istore_n (lv' := [(1, .int (0)), (0, .ref (6 + 16 * 0))]) d_M_findAll_1 rfl (by decide) rfl ?_
  exact e_lv (lv' := [(1, .int (nI 0)), (0, .ref (6 + 16 * 0))]) ⟨rfl, rfl, trivial⟩ (lp_M_findAll hl0 hM hn10 hnn n 0 (by omega))
