theorem small {v : Int32} {N : Nat} (hN : N < 2 ^ 31) (h0 : ¬ v < 0) (h : ¬ nI N ≤ v) : ∃ j, j < N ∧ v = nI j := by
  have h1 : 0 ≤ v.toInt := by
    rw [Int32.lt_iff_toInt_lt, Int32.toInt_zero] at h0; omega
  have h2 : v.toInt < N := by
    rw [Int32.le_iff_toInt_le, nI_toInt hN] at h; omega
  refine ⟨v.toInt.toNat, by omega, ?_⟩
  apply Int32.toInt_inj.mp
  rw [nI_toInt (by omega)]
  omega
/-- the open slave port of node i, whose best dataset is b -/
def osP (σ : HS) (i b : Nat) : Option Nat := if hI σ 0 b 7 < 0 ∨ 4 ≤ hI σ 0 b 7 then none else match hR σ 1 (4 * i + (hI σ 0 b 7).toNatClampNeg) 7 with
  | none => none
  | some x => if hI σ 3 (x / 16) 4 = 0 then none else some (4 * i + (hI σ 0 b 7).toNatClampNeg)
set_option maxHeartbeats 4000000 in
theorem ct_T_openSlaveOf_x {l : Launch} (hl0 : l.stackTraces = false) {G : LG} {σ : HS} {i b : Nat} (hB : hR σ 2 i 3 = some (0 + 16 * b)) (hx : hI σ 0 b 7 < 0 ∨ 4 ≤ hI σ 0 b 7) : Ct l G m_T_openSlaveOf [.ref (2 + 16 * i)] (σ) (qd (.inr (some .null)) σ) := by
  refine Ct.of hl0 rfl rfl (Nat.le_of_ble_eq_true rfl) ?_
  show Ex l G m_T_openSlaveOf (pmV G m_T_openSlaveOf (qd (.inr (some .null)) σ)) 0 [(0, .ref (2 + 16 * i))] [] (σ) 0 0
  refine e_aload_n d_T_openSlaveOf_0 rfl rfl ?_
  refine g_T_126 (b := 0 + 16 * b) rfl d_T_openSlaveOf_1 hB ?_
  refine g_T_202 rfl d_T_openSlaveOf_4 ?_
  refine e_istore_n (lv' := [(1, .int (hI (σ) 0 (b) 7)), (0, .ref (2 + 16 * i))]) d_T_openSlaveOf_7 rfl (by decide) rfl ?_
  refine e_iload_n d_T_openSlaveOf_8 rfl rfl ?_
  refine e_iflt (tgt := 17) d_T_openSlaveOf_9 (by decide) (fun h9 => ?_) (fun h9 => ?_)
  ·
    refine e_null d_T_openSlaveOf_17 ?_
    exact e_aretN d_T_openSlaveOf_18 rfl (Or.inl ⟨_, rfl⟩) ⟨rfl, rfl⟩
  ·
    refine e_iload_n d_T_openSlaveOf_12 rfl rfl ?_
    refine e_iconst (v := 4) d_T_openSlaveOf_13 (by decide) ?_
    refine e_icmplt (tgt := 19) d_T_openSlaveOf_14 (by decide) (fun h14 => absurd h14 (Int32.not_lt.mpr (hx.resolve_left h9))) (fun h14 => ?_)
    refine e_null d_T_openSlaveOf_17 ?_
    exact e_aretN d_T_openSlaveOf_18 rfl (Or.inl ⟨_, rfl⟩) ⟨rfl, rfl⟩
set_option maxHeartbeats 4000000 in
theorem ct_T_openSlaveOf_n {l : Launch} (hl0 : l.stackTraces = false) {G : LG} {σ : HS} {i b j : Nat} (hN : NS σ i) (hB : hR σ 2 i 3 = some (0 + 16 * b)) (hj : j < 4) (hv : hI σ 0 b 7 = nI j) (hk : hR σ 1 (4 * i + j) 7 = none) : Ct l G m_T_openSlaveOf [.ref (2 + 16 * i)] (σ) (qd (.inr (some .null)) σ) := by
  refine Ct.of hl0 rfl rfl (Nat.le_of_ble_eq_true rfl) ?_
  show Ex l G m_T_openSlaveOf (pmV G m_T_openSlaveOf (qd (.inr (some .null)) σ)) 0 [(0, .ref (2 + 16 * i))] [] (σ) 0 0
  refine e_aload_n d_T_openSlaveOf_0 rfl rfl ?_
  refine g_T_126 (b := 0 + 16 * b) rfl d_T_openSlaveOf_1 hB ?_
  refine g_T_202 rfl d_T_openSlaveOf_4 ?_
  rw [hv]
  refine e_istore_n (lv' := [(1, .int (nI j)), (0, .ref (2 + 16 * i))]) d_T_openSlaveOf_7 rfl (by decide) rfl ?_
  refine e_iload_n d_T_openSlaveOf_8 rfl rfl ?_
  refine e_iflt (tgt := 17) d_T_openSlaveOf_9 (by decide) (fun h9 => absurd h9 (nI_pos (by omega))) (fun h9 => ?_)
  refine e_iload_n d_T_openSlaveOf_12 rfl rfl ?_
  refine e_iconst (v := 4) d_T_openSlaveOf_13 (by decide) ?_
  refine e_icmplt (tgt := 19) d_T_openSlaveOf_14 (by decide) (fun h14 => ?_) (fun h14 => absurd (lt4 j hj) h14)
  refine e_aload_n d_T_openSlaveOf_19 rfl rfl ?_
  refine g_T_177 (b := 12 + 16 * i) rfl d_T_openSlaveOf_20 hN.2.1 ?_
  refine e_iload_n d_T_openSlaveOf_23 rfl rfl ?_
  refine e_aald (b := 1 + 16 * (4 * i + j)) (C := _) d_T_openSlaveOf_24 ⟨by decide, by decide⟩ rfl (by rw [hN.2.2.1]; exact nI_in hj (by decide)) (by rw [nI_clamp (by omega)]; exact (hN.2.2.2 j hj).1) ?_
  refine e_astore_n (lv' := [(2, .ref (1 + 16 * (4 * i + j))), (1, .int (nI j)), (0, .ref (2 + 16 * i))]) d_T_openSlaveOf_25 rfl (by decide) rfl ?_
  refine e_aload_n d_T_openSlaveOf_26 rfl rfl ?_
  refine g_T_92N rfl d_T_openSlaveOf_27 hk ?_
  refine e_ifnullN (tgt := 47) d_T_openSlaveOf_30 (by decide) ?_
  refine e_null d_T_openSlaveOf_47 ?_
  exact e_aretN d_T_openSlaveOf_48 rfl (Or.inl ⟨_, rfl⟩) ⟨rfl, rfl⟩
set_option maxHeartbeats 4000000 in
theorem ct_T_openSlaveOf_s {l : Launch} (hl0 : l.stackTraces = false) {G : LG} {σ : HS} {i b j : Nat} (hN : NS σ i) (hB : hR σ 2 i 3 = some (0 + 16 * b)) (hj : j < 4) (hv : hI σ 0 b 7 = nI j) {k : Nat} (hk : hR σ 1 (4 * i + j) 7 = some (3 + 16 * k)) : Ct l G m_T_openSlaveOf [.ref (2 + 16 * i)] (σ) (qd (.inr (some (if hI σ 3 k 4 = 0 then .null else .ref (1 + 16 * (4 * i + j))))) σ) := by
  refine Ct.of hl0 rfl rfl (Nat.le_of_ble_eq_true rfl) ?_
  show Ex l G m_T_openSlaveOf (pmV G m_T_openSlaveOf (qd (.inr (some (if hI σ 3 k 4 = 0 then .null else .ref (1 + 16 * (4 * i + j))))) σ)) 0 [(0, .ref (2 + 16 * i))] [] (σ) 0 0
  refine e_aload_n d_T_openSlaveOf_0 rfl rfl ?_
  refine g_T_126 (b := 0 + 16 * b) rfl d_T_openSlaveOf_1 hB ?_
  refine g_T_202 rfl d_T_openSlaveOf_4 ?_
  rw [hv]
  refine e_istore_n (lv' := [(1, .int (nI j)), (0, .ref (2 + 16 * i))]) d_T_openSlaveOf_7 rfl (by decide) rfl ?_
  refine e_iload_n d_T_openSlaveOf_8 rfl rfl ?_
  refine e_iflt (tgt := 17) d_T_openSlaveOf_9 (by decide) (fun h9 => absurd h9 (nI_pos (by omega))) (fun h9 => ?_)
  refine e_iload_n d_T_openSlaveOf_12 rfl rfl ?_
  refine e_iconst (v := 4) d_T_openSlaveOf_13 (by decide) ?_
  refine e_icmplt (tgt := 19) d_T_openSlaveOf_14 (by decide) (fun h14 => ?_) (fun h14 => absurd (lt4 j hj) h14)
  refine e_aload_n d_T_openSlaveOf_19 rfl rfl ?_
  refine g_T_177 (b := 12 + 16 * i) rfl d_T_openSlaveOf_20 hN.2.1 ?_
  refine e_iload_n d_T_openSlaveOf_23 rfl rfl ?_
  refine e_aald (b := 1 + 16 * (4 * i + j)) (C := _) d_T_openSlaveOf_24 ⟨by decide, by decide⟩ rfl (by rw [hN.2.2.1]; exact nI_in hj (by decide)) (by rw [nI_clamp (by omega)]; exact (hN.2.2.2 j hj).1) ?_
  refine e_astore_n (lv' := [(2, .ref (1 + 16 * (4 * i + j))), (1, .int (nI j)), (0, .ref (2 + 16 * i))]) d_T_openSlaveOf_25 rfl (by decide) rfl ?_
  refine e_aload_n d_T_openSlaveOf_26 rfl rfl ?_
  refine g_T_92 (b := 3 + 16 * k) rfl d_T_openSlaveOf_27 hk ?_
  refine e_ifnull d_T_openSlaveOf_30 ?_
  refine e_aload_n d_T_openSlaveOf_33 rfl rfl ?_
  refine g_T_92 (b := 3 + 16 * k) rfl d_T_openSlaveOf_34 hk ?_
  refine g_T_105 rfl d_T_openSlaveOf_37 ?_
  refine e_ifeq (tgt := 47) d_T_openSlaveOf_40 (by decide) (fun h40 => ?_) (fun h40 => ?_)
  ·
    refine e_null d_T_openSlaveOf_47 ?_
    exact e_aretN d_T_openSlaveOf_48 rfl (Or.inl ⟨_, rfl⟩) ⟨by simp [h40], rfl⟩
  ·
    refine e_aload_n d_T_openSlaveOf_43 rfl rfl ?_
    refine e_goto (tgt := 48) d_T_openSlaveOf_44 (by decide) ?_
    exact e_aret d_T_openSlaveOf_48 rfl (Or.inl ⟨_, rfl⟩) ⟨by simp [h40], rfl⟩
theorem ct_T_openSlaveOf {l : Launch} (hl0 : l.stackTraces = false) {G : LG} {σ : HS} {n L i b : Nat} (hT : TS σ n L) (hi : i < n) (hB : hR σ 2 i 3 = some (0 + 16 * b)) : Ct l G m_T_openSlaveOf [.ref (2 + 16 * i)] σ (qd (.inr (some (va_rf ((osP σ i b).map (fun f => 1 + 16 * f))))) σ) := by
  have hN := (hT.2.2.2.1 i hi).2
  by_cases hx : hI σ 0 b 7 < 0 ∨ 4 ≤ hI σ 0 b 7
  · have e : osP σ i b = none := by unfold osP; rw [if_pos hx]
    rw [e]; exact ct_T_openSlaveOf_x hl0 hB hx
  · obtain ⟨j, hj, hv⟩ := small (N := 4) (by decide) (fun z => hx (Or.inl z)) (fun z => hx (Or.inr (by rw [nI4]; exact z)))
    have e0 : osP σ i b = match hR σ 1 (4 * i + j) 7 with
      | none => none
      | some x => if hI σ 3 (x / 16) 4 = 0 then none else some (4 * i + j) := by
      unfold osP
      rw [if_neg hx, hv, nI_clamp (by omega)]
    rcases hT.lk (p := 4 * i + j) (by omega) with h1 | ⟨k, x, y, hk, hx2, hy, h1, hf, hs⟩
    · rw [e0, h1]; exact ct_T_openSlaveOf_n hl0 hN hB hj hv h1
    · have h := ct_T_openSlaveOf_s (l := l) (G := G) hl0 hN hB hj hv h1
      have e : va_rf ((osP σ i b).map (fun f => 1 + 16 * f)) = (if hI σ 3 k 4 = 0 then Value.null else .ref (1 + 16 * (4 * i + j))) := by
        rw [e0, h1]
        have e1 : (3 + 16 * k) / 16 = k := by omega
        simp only [e1]
        split <;> rfl
      rw [e]; exact h
/-- an exchange: what the reckoner holds behind it (t, the delays with the rests, the master's and the own offset, the rests) -/
noncomputable def xO1 (σ : HS) (t : Int64) (a b : Int32) : Int32 := R_noteTimes_O (hI σ 4 0 0) (hJ σ 4 0) t a b
def xJ1 (σ : HS) (t : Int64) (a b : Int32) : Nat → Int64 := R_noteTimes_J (hI σ 4 0 0) (hJ σ 4 0) t a b
noncomputable def xO2 (σ : HS) (t : Int64) (a b : Int32) (m w : Int64) : Int32 := R_noteClocks_O (xO1 σ t a b) (xJ1 σ t a b) m w
noncomputable def xJ2 (σ : HS) (t : Int64) (a b : Int32) (m w : Int64) : Nat → Int64 := R_noteClocks_J (xO1 σ t a b) (xJ1 σ t a b) m w
noncomputable def xO3 (σ : HS) (t : Int64) (a b : Int32) (m w : Int64) (r u : Int32) : Int32 := R_find_O (xO2 σ t a b m w) (xJ2 σ t a b m w) w r u
noncomputable def xJ3 (σ : HS) (t : Int64) (a b : Int32) (m w : Int64) (r u : Int32) : Nat → Int64 := R_find_J (xO2 σ t a b m w) (xJ2 σ t a b m w) w r u
theorem rk_hI {σ : HS} {ov : Int32} {js : Nat → Int64} {q a k : Nat} (h : q ≠ 4) : hI (rk σ 0 ov js) q a k = hI σ q a k := if_neg (fun z => h z.1)
theorem rk_hJ {σ : HS} {ov : Int32} {js : Nat → Int64} {q a k : Nat} (h : q ≠ 4) : hJ (rk σ 0 ov js) q a k = hJ σ q a k := if_neg (fun z => h z.1)
noncomputable def scV (O : Int32) : Int32 := if O = 0 then 1 else 0
noncomputable def scS (σ : HS) (i : Nat) (O : Int32) (J : Nat → Int64) : HS := if O = 0 then sJ (sJ (rk σ 0 O J) 2 i 4 (J 3)) 2 i 5 (J 2) else rk σ 0 O J
set_option maxHeartbeats 4000000 in
theorem ct_T_setClock {l : Launch} (hl0 : l.stackTraces = false) {G : LG} {σ : HS} {i p k x y f : Nat} {t : Int64} {r u dT dF : Int32} {n L : Nat} (hT : TS σ n L) (hf4 : f < 4 * n) (hk : hR σ 1 p 7 = some (3 + 16 * k)) (hfx : hR σ 3 k 0 = some (1 + 16 * x)) (hsy : hR σ 3 k 1 = some (1 + 16 * y)) (hff : f = if p = x then y else x) (hdT : dT = if p = x then hI σ 3 k 3 else hI σ 3 k 2) (hdF : dF = if p = x then hI σ 3 k 2 else hI σ 3 k 3)  : Ct l G m_T_setClock [.ref (5 + 16 * 0), .ref (2 + 16 * i), .ref (1 + 16 * p), .long (t), .int (r), .int (u)] (σ) (qd (.inr (some (.int (scV (xO3 σ t (dT + r) (dF + u) (hJ σ 2 (f / 4) 4) (hJ σ 2 i 4) r u))))) (scS σ i (xO3 σ t (dT + r) (dF + u) (hJ σ 2 (f / 4) 4) (hJ σ 2 i 4) r u) (xJ3 σ t (dT + r) (dF + u) (hJ σ 2 (f / 4) 4) (hJ σ 2 i 4) r u))) := by
  refine Ct.of hl0 rfl rfl (Nat.le_of_ble_eq_true rfl) ?_
  show Ex l G m_T_setClock (pmV G m_T_setClock (qd (.inr (some (.int (scV (xO3 σ t (dT + r) (dF + u) (hJ σ 2 (f / 4) 4) (hJ σ 2 i 4) r u))))) (scS σ i (xO3 σ t (dT + r) (dF + u) (hJ σ 2 (f / 4) 4) (hJ σ 2 i 4) r u) (xJ3 σ t (dT + r) (dF + u) (hJ σ 2 (f / 4) 4) (hJ σ 2 i 4) r u)))) 0 [(0, .ref (5 + 16 * 0)), (1, .ref (2 + 16 * i)), (2, .ref (1 + 16 * p)), (3, .long (t)), (5, .int (r)), (6, .int (u))] [] (σ) 0 0
  have hn10 := hT.2.2.1.2.2.1
  refine e_aload_n d_T_setClock_0 rfl rfl ?_
  refine g_T_92 (b := 3 + 16 * k) rfl d_T_setClock_1 hk ?_
  refine e_astore (lv' := [(7, .ref (3 + 16 * k)), (0, .ref (5 + 16 * 0)), (1, .ref (2 + 16 * i)), (2, .ref (1 + 16 * p)), (3, .long (t)), (5, .int (r)), (6, .int (u))]) d_T_setClock_4 (by decide) rfl ?_
  refine e_aload_n d_T_setClock_6 rfl rfl ?_
  refine g_T_11 (b := 10 + 16 * 0) rfl d_T_setClock_7 hT.1.1 ?_
  refine e_aload d_T_setClock_10 rfl ?_
  refine e_aload_n d_T_setClock_12 rfl rfl ?_
  refine e_callVd (v := some (.ref (1 + 16 * f))) (σ' := σ) (q := 3) (a := k) (As := [.ref (1 + 16 * p)]) (st := [.ref (10 + 16 * 0)]) 0 0 d_T_setClock_13 cb_T_setClock_205 iv_K_farFrom rfl ⟨by decide, rfl⟩ rfl (Nat.le_of_ble_eq_true rfl) (by decide) (by decide) ((by rw [show 1 + 16 * f = (if p = x then 1 + 16 * y else 1 + 16 * x) by rw [hff]; split <;> rfl]; exact ct_K_farFrom hl0 hfx hsy)) ?_
  show Ex l G m_T_setClock (pmV G m_T_setClock (qd (.inr (some (.int (scV (xO3 σ t (dT + r) (dF + u) (hJ σ 2 (f / 4) 4) (hJ σ 2 i 4) r u))))) (scS σ i (xO3 σ t (dT + r) (dF + u) (hJ σ 2 (f / 4) 4) (hJ σ 2 i 4) r u) (xJ3 σ t (dT + r) (dF + u) (hJ σ 2 (f / 4) 4) (hJ σ 2 i 4) r u)))) 16 [(7, .ref (3 + 16 * k)), (0, .ref (5 + 16 * 0)), (1, .ref (2 + 16 * i)), (2, .ref (1 + 16 * p)), (3, .long (t)), (5, .int (r)), (6, .int (u))] [.ref (1 + 16 * f), .ref (10 + 16 * 0)] (σ) 0 0
  refine g_T_209 rfl d_T_setClock_16 ?_
  rw [(hT.2.2.2.2.2.2.1 f hf4).1]
  refine e_aald (b := 2 + 16 * (f / 4)) (C := _) d_T_setClock_19 ⟨by decide, by decide⟩ rfl (by rw [hT.2.1.1]; exact nI_in (by omega) (by decide)) (by rw [nI_clamp (by omega)]; exact (hT.2.2.2.1 (f / 4) (by omega)).1) ?_
  refine e_astore (lv' := [(8, .ref (2 + 16 * (f / 4))), (7, .ref (3 + 16 * k)), (0, .ref (5 + 16 * 0)), (1, .ref (2 + 16 * i)), (2, .ref (1 + 16 * p)), (3, .long (t)), (5, .int (r)), (6, .int (u))]) d_T_setClock_20 (by decide) rfl ?_
  refine e_aload_n d_T_setClock_22 rfl rfl ?_
  refine g_T_24 (b := 4 + 16 * 0) rfl d_T_setClock_23 hT.1.2.2 ?_
  refine e_lload_n d_T_setClock_26 rfl rfl ?_
  refine e_aload d_T_setClock_27 rfl ?_
  refine e_aload_n d_T_setClock_29 rfl rfl ?_
  refine e_callVd (v := some (.int (dT))) (σ' := σ) (q := 3) (a := k) (As := [.ref (1 + 16 * p)]) (st := [.long (t), .ref (4 + 16 * 0)]) 0 0 d_T_setClock_30 cb_T_setClock_212 iv_K_delayTo rfl ⟨by decide, rfl⟩ rfl (Nat.le_of_ble_eq_true rfl) (by decide) (by decide) ((by rw [hdT]; exact ct_K_delayTo hl0 hfx)) ?_
  show Ex l G m_T_setClock (pmV G m_T_setClock (qd (.inr (some (.int (scV (xO3 σ t (dT + r) (dF + u) (hJ σ 2 (f / 4) 4) (hJ σ 2 i 4) r u))))) (scS σ i (xO3 σ t (dT + r) (dF + u) (hJ σ 2 (f / 4) 4) (hJ σ 2 i 4) r u) (xJ3 σ t (dT + r) (dF + u) (hJ σ 2 (f / 4) 4) (hJ σ 2 i 4) r u)))) 33 [(8, .ref (2 + 16 * (f / 4))), (7, .ref (3 + 16 * k)), (0, .ref (5 + 16 * 0)), (1, .ref (2 + 16 * i)), (2, .ref (1 + 16 * p)), (3, .long (t)), (5, .int (r)), (6, .int (u))] [.int (dT), .long (t), .ref (4 + 16 * 0)] (σ) 0 0
  refine e_iload d_T_setClock_33 rfl ?_
  refine e_iadd d_T_setClock_35 ?_
  refine e_aload d_T_setClock_36 rfl ?_
  refine e_aload_n d_T_setClock_38 rfl rfl ?_
  refine e_callVd (v := some (.int (dF))) (σ' := σ) (q := 3) (a := k) (As := [.ref (1 + 16 * p)]) (st := [.int ((dT) + (r)), .long (t), .ref (4 + 16 * 0)]) 0 0 d_T_setClock_39 cb_T_setClock_216 iv_K_delayFrom rfl ⟨by decide, rfl⟩ rfl (Nat.le_of_ble_eq_true rfl) (by decide) (by decide) ((by rw [hdF]; exact ct_K_delayFrom hl0 hfx)) ?_
  show Ex l G m_T_setClock (pmV G m_T_setClock (qd (.inr (some (.int (scV (xO3 σ t (dT + r) (dF + u) (hJ σ 2 (f / 4) 4) (hJ σ 2 i 4) r u))))) (scS σ i (xO3 σ t (dT + r) (dF + u) (hJ σ 2 (f / 4) 4) (hJ σ 2 i 4) r u) (xJ3 σ t (dT + r) (dF + u) (hJ σ 2 (f / 4) 4) (hJ σ 2 i 4) r u)))) 42 [(8, .ref (2 + 16 * (f / 4))), (7, .ref (3 + 16 * k)), (0, .ref (5 + 16 * 0)), (1, .ref (2 + 16 * i)), (2, .ref (1 + 16 * p)), (3, .long (t)), (5, .int (r)), (6, .int (u))] [.int (dF), .int ((dT) + (r)), .long (t), .ref (4 + 16 * 0)] (σ) 0 0
  refine e_iload d_T_setClock_42 rfl ?_
  refine e_iadd d_T_setClock_44 ?_
  refine e_callVd (v := none) (σ' := rk σ 0 (xO1 σ t (dT + r) (dF + u)) (xJ1 σ t (dT + r) (dF + u))) (q := 4) (a := 0) (As := [.long (t), .int ((dT) + (r)), .int ((dF) + (u))]) (st := []) 0 0 d_T_setClock_45 cb_T_setClock_219 iv_R_noteTimes rfl ⟨by decide, rfl⟩ rfl (Nat.le_of_ble_eq_true rfl) (by decide) (by decide) ((by have h := ct_R_noteTimes (l := l) (G := G) hl0 (σ := σ) (r := 0) (ov := hI σ 4 0 0) (js := hJ σ 4 0) (t := t) (a := dT + r) (b := dF + u); rw [rk_self] at h; exact h)) ?_
  show Ex l G m_T_setClock (pmV G m_T_setClock (qd (.inr (some (.int (scV (xO3 σ t (dT + r) (dF + u) (hJ σ 2 (f / 4) 4) (hJ σ 2 i 4) r u))))) (scS σ i (xO3 σ t (dT + r) (dF + u) (hJ σ 2 (f / 4) 4) (hJ σ 2 i 4) r u) (xJ3 σ t (dT + r) (dF + u) (hJ σ 2 (f / 4) 4) (hJ σ 2 i 4) r u)))) 48 [(8, .ref (2 + 16 * (f / 4))), (7, .ref (3 + 16 * k)), (0, .ref (5 + 16 * 0)), (1, .ref (2 + 16 * i)), (2, .ref (1 + 16 * p)), (3, .long (t)), (5, .int (r)), (6, .int (u))] [] (rk σ 0 (xO1 σ t (dT + r) (dF + u)) (xJ1 σ t (dT + r) (dF + u))) 0 0
  refine e_aload_n d_T_setClock_48 rfl rfl ?_
  refine g_T_24 (b := 4 + 16 * 0) rfl d_T_setClock_49 hT.1.2.2 ?_
  refine e_aload d_T_setClock_52 rfl ?_
  refine g_T_166 rfl d_T_setClock_54 ?_
  rw [show hJ (rk σ 0 (xO1 σ t (dT + r) (dF + u)) (xJ1 σ t (dT + r) (dF + u))) 2 (f / 4) 4 = hJ σ 2 (f / 4) 4 from rk_hJ (by decide)]
  refine e_aload_n d_T_setClock_57 rfl rfl ?_
  refine g_T_166 rfl d_T_setClock_58 ?_
  rw [show hJ (rk σ 0 (xO1 σ t (dT + r) (dF + u)) (xJ1 σ t (dT + r) (dF + u))) 2 (i) 4 = hJ σ 2 (i) 4 from rk_hJ (by decide)]
  refine e_callVd (v := none) (σ' := rk σ 0 (xO2 σ t (dT + r) (dF + u) (hJ σ 2 (f / 4) 4) (hJ σ 2 i 4)) (xJ2 σ t (dT + r) (dF + u) (hJ σ 2 (f / 4) 4) (hJ σ 2 i 4))) (q := 4) (a := 0) (As := [.long (hJ σ 2 (f / 4) 4), .long (hJ σ 2 (i) 4)]) (st := []) 0 0 d_T_setClock_61 cb_T_setClock_223 iv_R_noteClocks rfl ⟨by decide, rfl⟩ rfl (Nat.le_of_ble_eq_true rfl) (by decide) (by decide) (ct_R_noteClocks hl0) ?_
  show Ex l G m_T_setClock (pmV G m_T_setClock (qd (.inr (some (.int (scV (xO3 σ t (dT + r) (dF + u) (hJ σ 2 (f / 4) 4) (hJ σ 2 i 4) r u))))) (scS σ i (xO3 σ t (dT + r) (dF + u) (hJ σ 2 (f / 4) 4) (hJ σ 2 i 4) r u) (xJ3 σ t (dT + r) (dF + u) (hJ σ 2 (f / 4) 4) (hJ σ 2 i 4) r u)))) 64 [(8, .ref (2 + 16 * (f / 4))), (7, .ref (3 + 16 * k)), (0, .ref (5 + 16 * 0)), (1, .ref (2 + 16 * i)), (2, .ref (1 + 16 * p)), (3, .long (t)), (5, .int (r)), (6, .int (u))] [] (rk σ 0 (xO2 σ t (dT + r) (dF + u) (hJ σ 2 (f / 4) 4) (hJ σ 2 i 4)) (xJ2 σ t (dT + r) (dF + u) (hJ σ 2 (f / 4) 4) (hJ σ 2 i 4))) 0 0
  refine e_aload_n d_T_setClock_64 rfl rfl ?_
  refine g_T_24 (b := 4 + 16 * 0) rfl d_T_setClock_65 hT.1.2.2 ?_
  refine e_aload_n d_T_setClock_68 rfl rfl ?_
  refine g_T_166 rfl d_T_setClock_69 ?_
  rw [show hJ (rk σ 0 (xO2 σ t (dT + r) (dF + u) (hJ σ 2 (f / 4) 4) (hJ σ 2 i 4)) (xJ2 σ t (dT + r) (dF + u) (hJ σ 2 (f / 4) 4) (hJ σ 2 i 4))) 2 (i) 4 = hJ σ 2 (i) 4 from rk_hJ (by decide)]
  refine e_iload d_T_setClock_72 rfl ?_
  refine e_iload d_T_setClock_74 rfl ?_
  refine e_callVd (v := none) (σ' := rk σ 0 (xO3 σ t (dT + r) (dF + u) (hJ σ 2 (f / 4) 4) (hJ σ 2 i 4) r u) (xJ3 σ t (dT + r) (dF + u) (hJ σ 2 (f / 4) 4) (hJ σ 2 i 4) r u)) (q := 4) (a := 0) (As := [.long (hJ σ 2 (i) 4), .int (r), .int (u)]) (st := []) 0 0 d_T_setClock_76 cb_T_setClock_227 iv_R_find rfl ⟨by decide, rfl⟩ rfl (Nat.le_of_ble_eq_true rfl) (by decide) (by decide) (ct_R_find hl0) ?_
  show Ex l G m_T_setClock (pmV G m_T_setClock (qd (.inr (some (.int (scV (xO3 σ t (dT + r) (dF + u) (hJ σ 2 (f / 4) 4) (hJ σ 2 i 4) r u))))) (scS σ i (xO3 σ t (dT + r) (dF + u) (hJ σ 2 (f / 4) 4) (hJ σ 2 i 4) r u) (xJ3 σ t (dT + r) (dF + u) (hJ σ 2 (f / 4) 4) (hJ σ 2 i 4) r u)))) 79 [(8, .ref (2 + 16 * (f / 4))), (7, .ref (3 + 16 * k)), (0, .ref (5 + 16 * 0)), (1, .ref (2 + 16 * i)), (2, .ref (1 + 16 * p)), (3, .long (t)), (5, .int (r)), (6, .int (u))] [] (rk σ 0 (xO3 σ t (dT + r) (dF + u) (hJ σ 2 (f / 4) 4) (hJ σ 2 i 4) r u) (xJ3 σ t (dT + r) (dF + u) (hJ σ 2 (f / 4) 4) (hJ σ 2 i 4) r u)) 0 0
  refine e_aload_n d_T_setClock_79 rfl rfl ?_
  refine g_T_24 (b := 4 + 16 * 0) rfl d_T_setClock_80 hT.1.2.2 ?_
  refine g_T_230 rfl d_T_setClock_83 ?_
  rw [show hI (rk σ 0 (xO3 σ t (dT + r) (dF + u) (hJ σ 2 (f / 4) 4) (hJ σ 2 i 4) r u) (xJ3 σ t (dT + r) (dF + u) (hJ σ 2 (f / 4) 4) (hJ σ 2 i 4) r u)) 4 (0) 0 = xO3 σ t (dT + r) (dF + u) (hJ σ 2 (f / 4) 4) (hJ σ 2 i 4) r u from I_rk]
  refine e_ifeq (tgt := 91) d_T_setClock_86 (by decide) (fun h86 => ?_) (fun h86 => ?_)
  ·
    refine e_aload_n d_T_setClock_91 rfl rfl ?_
    refine e_aload_n d_T_setClock_92 rfl rfl ?_
    refine g_T_24 (b := 4 + 16 * 0) rfl d_T_setClock_93 hT.1.2.2 ?_
    refine g_T_233 rfl d_T_setClock_96 ?_
    rw [show hJ (rk σ 0 (xO3 σ t (dT + r) (dF + u) (hJ σ 2 (f / 4) 4) (hJ σ 2 i 4) r u) (xJ3 σ t (dT + r) (dF + u) (hJ σ 2 (f / 4) 4) (hJ σ 2 i 4) r u)) 4 (0) 3 = (xJ3 σ t (dT + r) (dF + u) (hJ σ 2 (f / 4) 4) (hJ σ 2 i 4) r u) 3 from J_rk]
    refine p_T_166 rfl d_T_setClock_99 ?_
    refine e_aload_n d_T_setClock_102 rfl rfl ?_
    refine e_aload_n d_T_setClock_103 rfl rfl ?_
    refine g_T_24 (b := 4 + 16 * 0) rfl d_T_setClock_104 hT.1.2.2 ?_
    refine g_T_236 rfl d_T_setClock_107 ?_
    rw [show hJ (sJ (rk σ 0 (xO3 σ t (dT + r) (dF + u) (hJ σ 2 (f / 4) 4) (hJ σ 2 i 4) r u) (xJ3 σ t (dT + r) (dF + u) (hJ σ 2 (f / 4) 4) (hJ σ 2 i 4) r u)) 2 (i) 4 ((xJ3 σ t (dT + r) (dF + u) (hJ σ 2 (f / 4) 4) (hJ σ 2 i 4) r u) 3)) 4 (0) 2 = (xJ3 σ t (dT + r) (dF + u) (hJ σ 2 (f / 4) 4) (hJ σ 2 i 4) r u) 2 from (by rw [J_sJ, if_neg (by omega), J_rk])]
    refine p_T_163 rfl d_T_setClock_110 ?_
    refine e_iconst (v := 1) d_T_setClock_113 (by decide) ?_
    exact e_zret d_T_setClock_114 rfl (by first | exact Or.inl rfl | exact Or.inr rfl) ⟨by simp [scV, h86], by simp [scS, h86]⟩
  ·
    refine e_iconst (v := 0) d_T_setClock_89 (by decide) ?_
    exact e_zret d_T_setClock_90 rfl (by first | exact Or.inl rfl | exact Or.inr rfl) ⟨by simp [scV, h86], by simp [scS, h86]⟩
