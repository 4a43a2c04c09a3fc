/-- what the tree's calls may write while its shape stays -/
def gfr (σ τ : HS) : Prop := (∀ q a k, ¬ (q = 2 ∧ k = 3) → hR τ q a k = hR σ q a k) ∧ hl τ = hl σ ∧ hn τ = hn σ ∧ ∀ q a k, ¬ (q = 0 ∨ (q = 1 ∧ 4 ≤ k) ∨ (q = 5 ∧ k = 5) ∨ q = 4) → hI τ q a k = hI σ q a k
theorem gfr.rf {σ : HS} : gfr σ σ := ⟨fun _ _ _ _ => rfl, rfl, rfl, fun _ _ _ _ => rfl⟩
theorem gfr.trans {σ τ υ : HS} (h : gfr σ τ) (h' : gfr τ υ) : gfr σ υ := ⟨fun q a k hn => (h'.1 q a k hn).trans (h.1 q a k hn), h'.2.1.trans h.2.1, h'.2.2.1.trans h.2.2.1, fun q a k hn => (h'.2.2.2 q a k hn).trans (h.2.2.2 q a k hn)⟩
theorem hfr.g {σ τ : HS} (h : hfr σ τ) : gfr σ τ := ⟨fun q a k _ => by rw [h.1], h.2.1, h.2.2.1, fun q a k hn => h.2.2.2.2 q a k (fun z => hn (by omega))⟩
theorem TS.g {σ τ : HS} {n L : Nat} (hT : TS σ n L) (h : gfr σ τ) : TS τ n L := by
  obtain ⟨h1, h2, h3, h4, h5, h6, h7, h8⟩ := hT
  have hi := h.2.2.2
  have hr := h.1
  refine ⟨⟨?_, ?_, ?_⟩, by rw [h.2.1]; exact h2, ⟨?_, ?_, h3.2.2⟩, fun i hin => ⟨?_, ?_⟩, fun p hp => ?_, fun k hk => ⟨?_, ?_⟩, fun p hp => ⟨?_, ?_⟩, fun i hin => ?_⟩
  · rw [hr 5 0 0 (by omega)]; exact h1.1
  · rw [hr 5 0 1 (by omega)]; exact h1.2.1
  · rw [hr 5 0 2 (by omega)]; exact h1.2.2
  · rw [hi 5 0 3 (by omega)]; exact h3.1
  · rw [hi 5 0 4 (by omega)]; exact h3.2.1
  · rw [hr 10 0 i (by omega)]; exact (h4 i hin).1
  · obtain ⟨a1, a2, a3, a4⟩ := (h4 i hin).2
    refine ⟨by rw [hr 2 i 1 (by omega)]; exact a1, by rw [hr 2 i 2 (by omega)]; exact a2, by rw [h.2.1]; exact a3, fun j hj => ⟨?_, ?_, ?_⟩⟩
    · rw [hr 12 i j (by omega)]; exact (a4 j hj).1
    · rw [hr 1 (4 * i + j) 2 (by omega)]; exact (a4 j hj).2.1
    · rw [hr 1 (4 * i + j) 3 (by omega)]; exact (a4 j hj).2.2
  · rw [hr 1 p 7 (by omega)]; exact h5 p hp
  · rw [hr 11 0 k (by omega)]; exact (h6 k hk).1
  · obtain ⟨-, x, y, b1, b2, b3, b4⟩ := h6 k hk
    exact ⟨x, y, b1, b2, by rw [hr 3 k 0 (by omega)]; exact b3, by rw [hr 3 k 1 (by omega)]; exact b4⟩
  · rw [hi 1 p 0 (by omega)]; exact (h7 p hp).1
  · rw [hi 1 p 1 (by omega)]; exact (h7 p hp).2
  · rw [hi 2 i 0 (by omega)]; exact h8 i hin
theorem gfr.flg {σ τ : HS} (h : gfr σ τ) {v : Int32} : gfr σ (flg τ v) := h.trans (hfr.rf.flg.g)
theorem gfr.sI5 {σ τ : HS} (h : gfr σ τ) {v : Int32} : gfr σ (sI τ 5 0 5 v) := h.trans (hfr.rf.sI5.g)
theorem gfr.fs {σ : HS} {i : Nat} : ∀ j, gfr σ (fsS σ i j)
  | 0 => ⟨fun q a k hn => by
      show hR (sR σ 2 i 3 _) q a k = _
      rw [R_sR, if_neg (by omega)], rfl, rfl, fun _ _ _ _ => rfl⟩
  | j + 1 => (gfr.fs j).trans ⟨fun _ _ _ _ => rfl, rfl, rfl, fun q a k hn => by
      show hI (sI (sD (fsS σ i j) _ _) 1 _ 6 _) q a k = _
      rw [I_sI, if_neg (by omega), I_sD, if_neg (by omega)]⟩
/-- the states of a round -/
def prS (σ : HS) : Nat → HS
  | 0 => sI σ 5 0 5 0
  | i + 1 => heS (prS σ i) i 4
def prN (σ : HS) : Nat → Int32
  | 0 => 0
  | i + 1 => prN σ i + heN (prS σ i) i 4
def prF (σ : HS) (n : Nat) : Nat → HS
  | 0 => prS σ n
  | i + 1 => flg (fsS (prF σ n i) i 4) (fsC (prF σ n i) i 4)
theorem gfr.prS {σ : HS} : ∀ i, gfr σ (prS σ i)
  | 0 => gfr.rf.sI5
  | i + 1 => (gfr.prS i).trans (hfr.he 4).g
theorem gfr.prF {σ : HS} {n : Nat} : ∀ i, gfr σ (prF σ n i)
  | 0 => gfr.prS n
  | i + 1 => ((gfr.prF i).trans (gfr.fs 4)).flg
set_option maxHeartbeats 4000000 in
theorem lq_T_playRound {l : Launch} (hl0 : l.stackTraces = false) {G : LG} {σ : HS} {c : Int32} {n L : Nat} (hT : TS σ n L) : ∀ m i, i + m = n → Ex l G m_T_playRound (pmV G m_T_playRound (qd (.inr (some (.int c))) (prF σ n n))) 38 [(2, .int (nI i)), (1, .int (c)), (0, .ref (5 + 16 * 0))] [] (prF σ n i) 0 0 := by
  have hn10 := hT.2.2.1.2.2.1
  intro m
  induction m with
  | zero =>
    intro i hi
    have hT' : TS (prF σ n i) n L := hT.g (gfr.prF i)
    obtain rfl : i = n := by omega
    refine e_iload_n d_T_playRound_38 rfl rfl ?_
    refine e_aload_n d_T_playRound_39 rfl rfl ?_
    refine g_T_28 rfl d_T_playRound_40 ?_
    refine e_icmpge (tgt := 69) d_T_playRound_43 (by decide) (fun h43 => ?_) (fun h43 => absurd (by rw [hT'.2.2.1.1]; exact nI_le (Nat.le_refl _) (by omega)) h43)
    refine e_iload_n d_T_playRound_69 rfl rfl ?_
    exact e_iret d_T_playRound_70 rfl ⟨rfl, rfl⟩
  | succ m ih =>
    intro i hi
    have hin : i < n := by omega
    have hT' : TS (prF σ n i) n L := hT.g (gfr.prF i)
    refine e_iload_n d_T_playRound_38 rfl rfl ?_
    refine e_aload_n d_T_playRound_39 rfl rfl ?_
    refine g_T_28 rfl d_T_playRound_40 ?_
    refine e_icmpge (tgt := 69) d_T_playRound_43 (by decide) (fun h43 => absurd h43 (by rw [hT'.2.2.1.1]; exact nI_ge hin (by omega))) (fun h43 => ?_)
    refine e_aload_n d_T_playRound_46 rfl rfl ?_
    refine g_T_11 (b := 10 + 16 * 0) rfl d_T_playRound_47 hT'.1.1 ?_
    refine e_iload_n d_T_playRound_50 rfl rfl ?_
    refine e_aald (b := 2 + 16 * i) (C := _) d_T_playRound_51 ⟨by decide, by decide⟩ rfl (by rw [hT'.2.1.1]; exact nI_in (by omega) (by decide)) (by rw [nI_clamp (by omega)]; exact (hT'.2.2.2.1 i hin).1) ?_
    refine e_callVd (v := some (.int (fsC (prF σ n i) i 4))) (σ' := fsS (prF σ n i) i 4) (q := 2) (a := i) (As := []) (st := []) 0 0 d_T_playRound_52 cb_T_playRound_74 iv_N_findStates rfl ⟨by decide, rfl⟩ rfl (Nat.le_of_ble_eq_true rfl) (by decide) (by decide) (ct_N_findStates hl0 (hT'.2.2.2.1 i hin).2 (fun j hj => (hT'.2.2.2.2.1 (4 * i + j) (by omega)).imp id (fun ⟨k, _, h⟩ => ⟨k, h⟩))) ?_
    show Ex l G m_T_playRound (pmV G m_T_playRound (qd (.inr (some (.int c))) (prF σ n n))) 55 [(2, .int (nI i)), (1, .int (c)), (0, .ref (5 + 16 * 0))] [.int (fsC (prF σ n i) i 4)] (fsS (prF σ n i) i 4) 0 0
    refine e_ifeq (tgt := 63) d_T_playRound_55 (by decide) (fun h55 => ?_) (fun h55 => ?_)
    ·
      refine e_iinc (v := nI (i + 1)) (lv' := [(2, .int (nI (i + 1))), (1, .int (c)), (0, .ref (5 + 16 * 0))]) d_T_playRound_63 rfl (ofI1 i) (by decide) rfl ?_
      refine e_goto (tgt := 38) d_T_playRound_66 (by decide) ?_
      exact e_lv (lv' := [(2, .int (nI (i + 1))), (1, .int (c)), (0, .ref (5 + 16 * 0))]) ⟨rfl, rfl, rfl, trivial⟩ (by have h9 := ih (i + 1) (by omega); rw [show prF σ n (i + 1) = fsS (prF σ n i) i 4 by simp [prF, flg, h55]] at h9; exact h9)
    ·
      refine e_aload_n d_T_playRound_58 rfl rfl ?_
      refine e_iconst (v := 1) d_T_playRound_59 (by decide) ?_
      refine p_T_35 (by first | exact Or.inl rfl | exact Or.inr rfl) rfl d_T_playRound_60 ?_
      refine e_iinc (v := nI (i + 1)) (lv' := [(2, .int (nI (i + 1))), (1, .int (c)), (0, .ref (5 + 16 * 0))]) d_T_playRound_63 rfl (ofI1 i) (by decide) rfl ?_
      refine e_goto (tgt := 38) d_T_playRound_66 (by decide) ?_
      exact e_lv (lv' := [(2, .int (nI (i + 1))), (1, .int (c)), (0, .ref (5 + 16 * 0))]) ⟨rfl, rfl, rfl, trivial⟩ (by have h9 := ih (i + 1) (by omega); rw [show prF σ n (i + 1) = sI (fsS (prF σ n i) i 4) 5 (0) 5 (1) by simp [prF, flg, h55]] at h9; exact h9)
set_option maxHeartbeats 4000000 in
theorem lp_T_playRound {l : Launch} (hl0 : l.stackTraces = false) {G : LG} {σ : HS} {n L : Nat} (hT : TS σ n L) : ∀ m i, i + m = n → Ex l G m_T_playRound (pmV G m_T_playRound (qd (.inr (some (.int (prN σ n)))) (prF σ n n))) 9 [(2, .int (nI i)), (1, .int (prN σ i)), (0, .ref (5 + 16 * 0))] [] (prS σ i) 0 0 := by
  have hn10 := hT.2.2.1.2.2.1
  intro m
  induction m with
  | zero =>
    intro i hi
    have hT' : TS (prS σ i) n L := hT.g (gfr.prS i)
    obtain rfl : i = n := by omega
    refine e_iload_n d_T_playRound_9 rfl rfl ?_
    refine e_aload_n d_T_playRound_10 rfl rfl ?_
    refine g_T_28 rfl d_T_playRound_11 ?_
    refine e_icmpge (tgt := 36) d_T_playRound_14 (by decide) (fun h14 => ?_) (fun h14 => absurd (by rw [hT'.2.2.1.1]; exact nI_le (Nat.le_refl _) (by omega)) h14)
    refine e_iconst (v := 0) d_T_playRound_36 (by decide) ?_
    refine e_istore_n (lv' := [(2, .int (0)), (1, .int (prN σ i)), (0, .ref (5 + 16 * 0))]) d_T_playRound_37 rfl (by decide) rfl ?_
    exact e_lv (lv' := [(2, .int (nI 0)), (1, .int (prN σ i)), (0, .ref (5 + 16 * 0))]) ⟨rfl, rfl, rfl, trivial⟩ (lq_T_playRound hl0 hT i 0 (by omega))
  | succ m ih =>
    intro i hi
    have hin : i < n := by omega
    have hT' : TS (prS σ i) n L := hT.g (gfr.prS i)
    refine e_iload_n d_T_playRound_9 rfl rfl ?_
    refine e_aload_n d_T_playRound_10 rfl rfl ?_
    refine g_T_28 rfl d_T_playRound_11 ?_
    refine e_icmpge (tgt := 36) d_T_playRound_14 (by decide) (fun h14 => absurd h14 (by rw [hT'.2.2.1.1]; exact nI_ge hin (by omega))) (fun h14 => ?_)
    refine e_iload_n d_T_playRound_17 rfl rfl ?_
    refine e_aload_n d_T_playRound_18 rfl rfl ?_
    refine e_aload_n d_T_playRound_19 rfl rfl ?_
    refine g_T_11 (b := 10 + 16 * 0) rfl d_T_playRound_20 hT'.1.1 ?_
    refine e_iload_n d_T_playRound_23 rfl rfl ?_
    refine e_aald (b := 2 + 16 * i) (C := _) d_T_playRound_24 ⟨by decide, by decide⟩ rfl (by rw [hT'.2.1.1]; exact nI_in (by omega) (by decide)) (by rw [nI_clamp (by omega)]; exact (hT'.2.2.2.1 i hin).1) ?_
    refine e_callVd (v := some (.int (heN (prS σ i) i 4))) (σ' := heS (prS σ i) i 4) (q := 5) (a := 0) (As := [.ref (2 + 16 * i)]) (st := [.int (prN σ i)]) 0 0 d_T_playRound_25 cb_T_playRound_181 iv_T_hearAtPorts rfl ⟨by decide, rfl⟩ rfl (Nat.le_of_ble_eq_true rfl) (by decide) (by decide) (ct_T_hearAtPorts hl0 hT' hin) ?_
    show Ex l G m_T_playRound (pmV G m_T_playRound (qd (.inr (some (.int (prN σ n)))) (prF σ n n))) 28 [(2, .int (nI i)), (1, .int (prN σ i)), (0, .ref (5 + 16 * 0))] [.int (heN (prS σ i) i 4), .int (prN σ i)] (heS (prS σ i) i 4) 0 0
    refine e_iadd d_T_playRound_28 ?_
    refine e_istore_n (lv' := [(1, .int ((prN σ i) + (heN (prS σ i) i 4))), (2, .int (nI i)), (0, .ref (5 + 16 * 0))]) d_T_playRound_29 rfl (by decide) rfl ?_
    refine e_iinc (v := nI (i + 1)) (lv' := [(2, .int (nI (i + 1))), (1, .int ((prN σ i) + (heN (prS σ i) i 4))), (0, .ref (5 + 16 * 0))]) d_T_playRound_30 rfl (ofI1 i) (by decide) rfl ?_
    refine e_goto (tgt := 9) d_T_playRound_33 (by decide) ?_
    exact e_lv (lv' := [(2, .int (nI (i + 1))), (1, .int (prN σ (i + 1))), (0, .ref (5 + 16 * 0))]) ⟨rfl, rfl, rfl, trivial⟩ (ih (i + 1) (by omega))
set_option maxHeartbeats 4000000 in
theorem ct_T_playRound {l : Launch} (hl0 : l.stackTraces = false) {G : LG} {σ : HS} {n L : Nat} (hT : TS σ n L)  : Ct l G m_T_playRound [.ref (5 + 16 * 0)] (σ) (qd (.inr (some (.int (prN σ n)))) (prF σ n n)) := by
  refine Ct.of hl0 rfl rfl (Nat.le_of_ble_eq_true rfl) ?_
  show Ex l G m_T_playRound (pmV G m_T_playRound (qd (.inr (some (.int (prN σ n)))) (prF σ n n))) 0 [(0, .ref (5 + 16 * 0))] [] (σ) 0 0
  refine e_aload_n d_T_playRound_0 rfl rfl ?_
  refine e_iconst (v := 0) d_T_playRound_1 (by decide) ?_
  refine p_T_35 (by first | exact Or.inl rfl | exact Or.inr rfl) rfl d_T_playRound_2 ?_
  refine e_iconst (v := 0) d_T_playRound_5 (by decide) ?_
  refine e_istore_n (lv' := [(1, .int (0)), (0, .ref (5 + 16 * 0))]) d_T_playRound_6 rfl (by decide) rfl ?_
  refine e_iconst (v := 0) d_T_playRound_7 (by decide) ?_
  refine e_istore_n (lv' := [(2, .int (0)), (1, .int (0)), (0, .ref (5 + 16 * 0))]) d_T_playRound_8 rfl (by decide) rfl ?_
  exact e_lv (lv' := [(2, .int (nI 0)), (1, .int (prN σ 0)), (0, .ref (5 + 16 * 0))]) ⟨rfl, rfl, rfl, trivial⟩ (lp_T_playRound hl0 hT n 0 (by omega))
def rdS (σ : HS) (n : Nat) : Nat → HS
  | 0 => σ
  | k + 1 => prF (rdS σ n k) n n
def rdN (σ : HS) (n : Nat) : Nat → Int32
  | 0 => 0
  | k + 1 => rdN σ n k + prN (rdS σ n k) n
theorem gfr.rd {σ : HS} {n : Nat} : ∀ k, gfr σ (rdS σ n k)
  | 0 => gfr.rf
  | k + 1 => (gfr.rd k).trans (gfr.prF n)
set_option maxHeartbeats 4000000 in
theorem lp_T_round {l : Launch} (hl0 : l.stackTraces = false) {G : LG} {σ : HS} {r : Nat} (hr : r ≤ 50) {n L : Nat} (hT : TS σ n L) : ∀ m k, k + m = r → Ex l G m_T_round (pmV G m_T_round (qd (.inr (some (.int (rdN σ n r)))) (rdS σ n r))) 25 [(3, .int (nI k)), (2, .int (rdN σ n k)), (0, .ref (5 + 16 * 0)), (1, .int (nI r))] [] (rdS σ n k) 1 6 := by
  intro m
  induction m with
  | zero =>
    intro k hk
    obtain rfl : k = r := by omega
    refine e_iload_n d_T_round_25 rfl rfl ?_
    refine e_iload_n d_T_round_26 rfl rfl ?_
    refine e_icmpge (tgt := 43) d_T_round_27 (by decide) (fun h27 => ?_) (fun h27 => absurd (nI_le (Nat.le_refl _) (by omega)) h27)
    refine e_iload_n d_T_round_43 rfl rfl ?_
    exact e_iret d_T_round_44 rfl ⟨rfl, rfl⟩
  | succ m ih =>
    intro k hk
    have hkr : k < r := by omega
    have hT' : TS (rdS σ n k) n L := hT.g (gfr.rd k)
    refine e_iload_n d_T_round_25 rfl rfl ?_
    refine e_iload_n d_T_round_26 rfl rfl ?_
    refine e_icmpge (tgt := 43) d_T_round_27 (by decide) (fun h27 => absurd h27 (nI_ge hkr (by omega))) (fun h27 => ?_)
    refine e_iload_n d_T_round_30 rfl rfl ?_
    refine e_aload_n d_T_round_31 rfl rfl ?_
    refine e_callVd (v := some (.int (prN (rdS σ n k) n))) (σ' := prF (rdS σ n k) n n) (q := 5) (a := 0) (As := []) (st := [.int (rdN σ n k)]) 1 6 d_T_round_32 cb_T_round_119 iv_T_playRound rfl ⟨by decide, rfl⟩ rfl (Nat.le_of_ble_eq_true rfl) (by decide) (by decide) (ct_T_playRound hl0 hT') ?_
    show Ex l G m_T_round (pmV G m_T_round (qd (.inr (some (.int (rdN σ n r)))) (rdS σ n r))) 35 [(3, .int (nI k)), (2, .int (rdN σ n k)), (0, .ref (5 + 16 * 0)), (1, .int (nI r))] [.int (prN (rdS σ n k) n), .int (rdN σ n k)] (prF (rdS σ n k) n n) 1 6
    refine e_iadd d_T_round_35 ?_
    refine e_istore_n (lv' := [(2, .int ((rdN σ n k) + (prN (rdS σ n k) n))), (3, .int (nI k)), (0, .ref (5 + 16 * 0)), (1, .int (nI r))]) d_T_round_36 rfl (by decide) rfl ?_
    refine e_iinc (v := nI (k + 1)) (lv' := [(3, .int (nI (k + 1))), (2, .int ((rdN σ n k) + (prN (rdS σ n k) n))), (0, .ref (5 + 16 * 0)), (1, .int (nI r))]) d_T_round_37 rfl (ofI1 k) (by decide) rfl ?_
    refine e_goto (tgt := 25) d_T_round_40 (by decide) ?_
    exact e_lv (lv' := [(3, .int (nI (k + 1))), (2, .int (rdN σ n (k + 1))), (0, .ref (5 + 16 * 0)), (1, .int (nI r))]) ⟨rfl, rfl, rfl, rfl, trivial⟩ (ih (k + 1) (by omega))
theorem n1_le : ∀ r, 1 ≤ r → r ≤ 50 → ¬ nI r < (1 : Int32) := fun r h1 h2 => by rw [show (1 : Int32) = nI 1 by decide +kernel]; exact nI_nlt h1 (by omega)
theorem n50_le : ∀ r, r ≤ 50 → nI r ≤ (50 : Int32) := fun r h2 => by rw [show (50 : Int32) = nI 50 by decide +kernel]; exact nI_le h2 (by omega)
set_option maxHeartbeats 4000000 in
theorem ct_T_round {l : Launch} (hl0 : l.stackTraces = false) {G : LG} {σ : HS} {r : Nat} {n L : Nat} (hT : TS σ n L) (hr1 : 1 ≤ r) (hr5 : r ≤ 50) : Ct l G m_T_round [.ref (5 + 16 * 0), .int (nI r)] (σ) (qd (.inr (some (.int (rdN σ n r)))) (rdS σ n r)) := by
  refine Ct.of hl0 rfl rfl (Nat.le_of_ble_eq_true rfl) ?_
  show Ex l G m_T_round (pmV G m_T_round (qd (.inr (some (.int (rdN σ n r)))) (rdS σ n r))) 0 [(0, .ref (5 + 16 * 0)), (1, .int (nI r))] [] (σ) 1 6
  refine e_iload_n d_T_round_0 rfl rfl ?_
  refine e_iconst (v := 1) d_T_round_1 (by decide) ?_
  refine e_icmplt (tgt := 11) d_T_round_2 (by decide) (fun h2 => absurd h2 (n1_le r hr1 hr5)) (fun h2 => ?_)
  refine e_iload_n d_T_round_5 rfl rfl ?_
  refine e_bipush (v := 50) d_T_round_6 (by decide) ?_
  refine e_icmple (tgt := 21) d_T_round_8 (by decide) (fun h8 => ?_) (fun h8 => absurd (n50_le r hr5) h8)
  refine e_iconst (v := 0) d_T_round_21 (by decide) ?_
  refine e_istore_n (lv' := [(2, .int (0)), (0, .ref (5 + 16 * 0)), (1, .int (nI r))]) d_T_round_22 rfl (by decide) rfl ?_
  refine e_iconst (v := 0) d_T_round_23 (by decide) ?_
  refine e_istore_n (lv' := [(3, .int (0)), (2, .int (0)), (0, .ref (5 + 16 * 0)), (1, .int (nI r))]) d_T_round_24 rfl (by decide) rfl ?_
  exact e_lv (lv' := [(3, .int (nI 0)), (2, .int (rdN σ n 0)), (0, .ref (5 + 16 * 0)), (1, .int (nI r))]) ⟨rfl, rfl, rfl, rfl, trivial⟩ (lp_T_round hl0 hr5 hT r 0 (by omega))
set_option maxHeartbeats 4000000 in
theorem ct_T_round_x {l : Launch} (hl0 : l.stackTraces = false) {G : LG} {σ : HS} {v : Int32} (hx : v < 1 ∨ ¬ v ≤ 50) : Ct l G m_T_round [.ref (5 + 16 * 0), .int (v)] (σ) (qd (.inl 0) σ) := by
  refine Ct.of hl0 rfl rfl (Nat.le_of_ble_eq_true rfl) ?_
  show Ex l G m_T_round (pmV G m_T_round (qd (.inl 0) σ)) 0 [(0, .ref (5 + 16 * 0)), (1, .int (v))] [] (σ) 1 6
  refine e_iload_n d_T_round_0 rfl rfl ?_
  refine e_iconst (v := 1) d_T_round_1 (by decide) ?_
  refine e_icmplt (tgt := 11) d_T_round_2 (by decide) (fun h2 => ?_) (fun h2 => ?_)
  ·
    exact e_iae rfl d_T_round_11 d_T_round_14 d_T_round_15 d_T_round_17 d_T_round_20 (by decide +kernel) ⟨by decide, Nat.le_of_ble_eq_true rfl⟩ ⟨by decide, by decide⟩ rfl ⟨rfl, rfl⟩
  ·
    refine e_iload_n d_T_round_5 rfl rfl ?_
    refine e_bipush (v := 50) d_T_round_6 (by decide) ?_
    refine e_icmple (tgt := 21) d_T_round_8 (by decide) (fun h8 => absurd h8 (hx.resolve_left h2)) (fun h8 => ?_)
    exact e_iae rfl d_T_round_11 d_T_round_14 d_T_round_15 d_T_round_17 d_T_round_20 (by decide +kernel) ⟨by decide, Nat.le_of_ble_eq_true rfl⟩ ⟨by decide, by decide⟩ rfl ⟨rfl, rfl⟩
def seQ (n : Nat) : Nat → Nat → HS → HS × Int32
  | 0, k, σ => (σ, nI k)
  | m + 1, k, σ => if hI (prF σ n n) 5 0 5 = 0 then (prF σ n n, nI (k + 1)) else if m = 0 then (prF σ n n, nI (k + 1)) else seQ n m (k + 1) (prF σ n n)
theorem n60_lt : ∀ k, k < 60 → nI k < (60 : Int32) := fun k h => by rw [show (60 : Int32) = nI 60 by decide +kernel]; exact nI_lt h (by omega)
theorem n60_nlt : ¬ nI 60 < (60 : Int32) := by decide +kernel
set_option maxHeartbeats 4000000 in
theorem lp_T_settle {l : Launch} (hl0 : l.stackTraces = false) {G : LG} {n L : Nat} : ∀ m k (σ : HS), TS σ n L → k + (m + 1) = 60 → Ex l G m_T_settle (pmV G m_T_settle (qd (.inr (some (.int (seQ n (m + 1) k σ).2))) (seQ n (m + 1) k σ).1)) 2 [(1, .int (nI k)), (0, .ref (5 + 16 * 0))] [] (σ) 0 0 := by
  intro m
  induction m with
  | zero =>
    intro k σ hT hk
    obtain rfl : k = 59 := by omega
    refine e_aload_n d_T_settle_2 rfl rfl ?_
    refine e_callVd (v := some (.int (prN σ n))) (σ' := prF σ n n) (q := 5) (a := 0) (As := []) (st := []) 0 0 d_T_settle_3 cb_T_settle_119 iv_T_playRound rfl ⟨by decide, rfl⟩ rfl (Nat.le_of_ble_eq_true rfl) (by decide) (by decide) (ct_T_playRound hl0 hT) ?_
    show Ex l G m_T_settle (pmV G m_T_settle (qd (.inr (some (.int (seQ n (0 + 1) 59 σ).2))) (seQ n (0 + 1) 59 σ).1)) 6 [(1, .int (nI 59)), (0, .ref (5 + 16 * 0))] [.int (prN σ n)] (prF σ n n) 0 0
    refine e_pop d_T_settle_6 rfl ?_
    refine e_iinc (v := nI (59 + 1)) (lv' := [(1, .int (nI (59 + 1))), (0, .ref (5 + 16 * 0))]) d_T_settle_7 rfl (ofI1 59) (by decide) rfl ?_
    refine e_aload_n d_T_settle_10 rfl rfl ?_
    refine g_T_35 rfl d_T_settle_11 ?_
    refine e_ifeq (tgt := 23) d_T_settle_14 (by decide) (fun h14 => ?_) (fun h14 => ?_)
    ·
      refine e_iload_n d_T_settle_23 rfl rfl ?_
      exact e_iret d_T_settle_24 rfl ⟨by simp [seQ, h14], by simp [seQ, h14]⟩
    ·
      refine e_iload_n d_T_settle_17 rfl rfl ?_
      refine e_bipush (v := 60) d_T_settle_18 (by decide) ?_
      refine e_icmplt (tgt := 2) d_T_settle_20 (by decide) (fun h20 => absurd h20 n60_nlt) (fun h20 => ?_)
      refine e_iload_n d_T_settle_23 rfl rfl ?_
      exact e_iret d_T_settle_24 rfl ⟨by simp [seQ, h14], by simp [seQ, h14]⟩
  | succ m ih =>
    intro k σ hT hk
    refine e_aload_n d_T_settle_2 rfl rfl ?_
    refine e_callVd (v := some (.int (prN σ n))) (σ' := prF σ n n) (q := 5) (a := 0) (As := []) (st := []) 0 0 d_T_settle_3 cb_T_settle_119 iv_T_playRound rfl ⟨by decide, rfl⟩ rfl (Nat.le_of_ble_eq_true rfl) (by decide) (by decide) (ct_T_playRound hl0 hT) ?_
    show Ex l G m_T_settle (pmV G m_T_settle (qd (.inr (some (.int (seQ n (m + 1 + 1) k σ).2))) (seQ n (m + 1 + 1) k σ).1)) 6 [(1, .int (nI k)), (0, .ref (5 + 16 * 0))] [.int (prN σ n)] (prF σ n n) 0 0
    refine e_pop d_T_settle_6 rfl ?_
    refine e_iinc (v := nI (k + 1)) (lv' := [(1, .int (nI (k + 1))), (0, .ref (5 + 16 * 0))]) d_T_settle_7 rfl (ofI1 k) (by decide) rfl ?_
    refine e_aload_n d_T_settle_10 rfl rfl ?_
    refine g_T_35 rfl d_T_settle_11 ?_
    refine e_ifeq (tgt := 23) d_T_settle_14 (by decide) (fun h14 => ?_) (fun h14 => ?_)
    ·
      refine e_iload_n d_T_settle_23 rfl rfl ?_
      exact e_iret d_T_settle_24 rfl ⟨by simp [seQ, h14], by simp [seQ, h14]⟩
    ·
      refine e_iload_n d_T_settle_17 rfl rfl ?_
      refine e_bipush (v := 60) d_T_settle_18 (by decide) ?_
      refine e_icmplt (tgt := 2) d_T_settle_20 (by decide) (fun h20 => ?_) (fun h20 => absurd (n60_lt (k + 1) (by omega)) h20)
      exact e_lv (lv' := [(1, .int (nI (k + 1))), (0, .ref (5 + 16 * 0))]) ⟨rfl, rfl, trivial⟩ (by have h9 := ih (k + 1) (prF σ n n) (hT.g (gfr.prF n)) (by omega); rw [show seQ n (m + 1 + 1) k σ = seQ n (m + 1) (k + 1) (prF σ n n) by rw [seQ]; simp [h14]]; exact h9)
set_option maxHeartbeats 4000000 in
theorem ct_T_settle {l : Launch} (hl0 : l.stackTraces = false) {G : LG} {σ : HS} {n L : Nat} (hT : TS σ n L)  : Ct l G m_T_settle [.ref (5 + 16 * 0)] (σ) (qd (.inr (some (.int (seQ n 60 0 σ).2))) (seQ n 60 0 σ).1) := by
  refine Ct.of hl0 rfl rfl (Nat.le_of_ble_eq_true rfl) ?_
  show Ex l G m_T_settle (pmV G m_T_settle (qd (.inr (some (.int (seQ n 60 0 σ).2))) (seQ n 60 0 σ).1)) 0 [(0, .ref (5 + 16 * 0))] [] (σ) 0 0
  refine e_iconst (v := 0) d_T_settle_0 (by decide) ?_
  refine e_istore_n (lv' := [(1, .int (0)), (0, .ref (5 + 16 * 0))]) d_T_settle_1 rfl (by decide) rfl ?_
  exact e_lv (lv' := [(1, .int (nI 0)), (0, .ref (5 + 16 * 0))]) ⟨rfl, rfl, trivial⟩ (lp_T_settle hl0 59 0 σ hT rfl)
