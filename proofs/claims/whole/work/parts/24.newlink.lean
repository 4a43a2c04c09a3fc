/-- a link made between the ports x and y -/
def lkK (σ : HS) (L x y : Nat) (t b : Int32) : HS := sI (sI (sI (sR (sR (nw σ 3 0) 3 (L) 0 (some (1 + 16 * x))) 3 (L) 1 (some (1 + 16 * y))) 3 (L) 2 (t)) 3 (L) 3 (b)) 3 (L) 4 (1)
def lkS (σ : HS) (L x y : Nat) (t b : Int32) : HS := sR (sR (lkK σ L x y t b) 1 x 7 (some (3 + 16 * L))) 1 y 7 (some (3 + 16 * L))
def lkF (σ : HS) (L x y : Nat) (t b : Int32) : HS := fsS (fsS (lkS σ L x y t b) (x / 4) 4) (y / 4) 4
def mkL (σ : HS) (L x y : Nat) (t b : Int32) : HS := sI (sR (lkF σ L x y t b) 11 0 L (some (3 + 16 * L))) 5 0 4 (nI L + 1)
theorem lkS_R {σ : HS} {L x y : Nat} {t b : Int32} {q a k : Nat} (h3 : q ≠ 3) (h7 : ¬ (q = 1 ∧ k = 7)) : hR (lkS σ L x y t b) q a k = hR σ q a k := by
  have h' : ∀ z, ¬ (q = 1 ∧ a = z ∧ k = 7) := fun z w => h7 ⟨w.1, w.2.2⟩
  unfold lkS lkK
  simp [R_sR, R_sI, R_nw, h3, h']
theorem lkS_R7 {σ : HS} {L x y p : Nat} {t b : Int32} : hR (lkS σ L x y t b) 1 p 7 = if p = y then some (3 + 16 * L) else if p = x then some (3 + 16 * L) else hR σ 1 p 7 := by
  unfold lkS lkK
  simp [R_sR, R_sI, R_nw]
theorem lkS_I {σ : HS} {L x y : Nat} {t b : Int32} {q a k : Nat} (h3 : q ≠ 3) : hI (lkS σ L x y t b) q a k = hI σ q a k := by
  unfold lkS lkK
  simp [I_sR, I_sI, I_nw, h3]
theorem lkS_J {σ : HS} {L x y : Nat} {t b : Int32} {q a k : Nat} (h3 : q ≠ 3) : hJ (lkS σ L x y t b) q a k = hJ σ q a k := by
  unfold lkS lkK
  simp [J_sR, J_sI, J_nw, h3]
theorem lkS_l {σ : HS} {L x y : Nat} {t b : Int32} {q a : Nat} (h3 : q ≠ 3) : hl (lkS σ L x y t b) q a = hl σ q a := by
  unfold lkS lkK
  simp [l_sR, l_sI, l_nw, h3]
theorem lkS_NS {σ : HS} {n L x y i : Nat} {t b : Int32} (hT : TS σ n L) (hi : i < n) : NS (lkS σ L x y t b) i := by
  obtain ⟨a1, a2, a3, a4⟩ := (hT.2.2.2.1 i hi).2
  refine ⟨by rw [lkS_R (by decide) (by omega)]; exact a1, by rw [lkS_R (by decide) (by omega)]; exact a2, by rw [lkS_l (by decide)]; exact a3, fun j hj => ⟨?_, ?_, ?_⟩⟩
  · rw [lkS_R (by decide) (by omega)]; exact (a4 j hj).1
  · rw [lkS_R (by decide) (by omega)]; exact (a4 j hj).2.1
  · rw [lkS_R (by decide) (by omega)]; exact (a4 j hj).2.2
theorem lkS_lk {σ : HS} {n L x y p : Nat} {t b : Int32} (hT : TS σ n L) (hp : p < 4 * n) : hR (lkS σ L x y t b) 1 p 7 = none ∨ ∃ k, hR (lkS σ L x y t b) 1 p 7 = some (3 + 16 * k) := by
  rw [lkS_R7]
  split
  · exact Or.inr ⟨L, rfl⟩
  · split
    · exact Or.inr ⟨L, rfl⟩
    · exact (hT.2.2.2.2.1 p hp).imp id (fun ⟨k, _, h⟩ => ⟨k, h⟩)
set_option maxHeartbeats 4000000 in
set_option maxRecDepth 100000 in
theorem ct_T_link_a {l : Launch} (hl0 : l.stackTraces = false) {G : LG} {σ : HS} {t b : Int32} {v u v2 u2 : Int32} (hx : v < 0 ∨ hI σ 5 0 3 ≤ v) : Ct l G m_T_link [.ref (5 + 16 * 0), .int (v), .int (u), .int (v2), .int (u2), .int (t), .int (b)] (σ) (qd (.inl 0) σ) := by
  refine Ct.of hl0 rfl rfl (Nat.le_of_ble_eq_true rfl) ?_
  show Ex l G m_T_link (pmV G m_T_link (qd (.inl 0) σ)) 0 [(0, .ref (5 + 16 * 0)), (1, .int (v)), (2, .int (u)), (3, .int (v2)), (4, .int (u2)), (5, .int (t)), (6, .int (b))] [] (σ) 6 35
  refine e_aload_n d_T_link_0 rfl rfl ?_
  refine e_iload_n d_T_link_1 rfl rfl ?_
  refine e_iload_n d_T_link_2 rfl rfl ?_
  exact e_callVt (q := 5) (a := 0) (As := [.int (v), .int (u)]) (st := []) 4 23 d_T_link_3 cb_T_link_81 iv_T_portAt rfl ⟨by decide, rfl⟩ rfl (Nat.le_of_ble_eq_true rfl) (by decide) (by decide) (ct_T_portAt_x hl0 hx) rfl ⟨rfl, rfl⟩
set_option maxHeartbeats 4000000 in
set_option maxRecDepth 100000 in
theorem ct_T_link_b {l : Launch} (hl0 : l.stackTraces = false) {G : LG} {σ : HS} {t b : Int32} {i : Nat} {u v2 u2 : Int32} {n L : Nat} (hT : TS σ n L) (hi : i < n) (hx : u < 0 ∨ 4 ≤ u) : Ct l G m_T_link [.ref (5 + 16 * 0), .int (nI i), .int (u), .int (v2), .int (u2), .int (t), .int (b)] (σ) (qd (.inl 0) σ) := by
  refine Ct.of hl0 rfl rfl (Nat.le_of_ble_eq_true rfl) ?_
  show Ex l G m_T_link (pmV G m_T_link (qd (.inl 0) σ)) 0 [(0, .ref (5 + 16 * 0)), (1, .int (nI i)), (2, .int (u)), (3, .int (v2)), (4, .int (u2)), (5, .int (t)), (6, .int (b))] [] (σ) 6 35
  refine e_aload_n d_T_link_0 rfl rfl ?_
  refine e_iload_n d_T_link_1 rfl rfl ?_
  refine e_iload_n d_T_link_2 rfl rfl ?_
  exact e_callVt (q := 5) (a := 0) (As := [.int (nI i), .int (u)]) (st := []) 4 23 d_T_link_3 cb_T_link_81 iv_T_portAt rfl ⟨by decide, rfl⟩ rfl (Nat.le_of_ble_eq_true rfl) (by decide) (by decide) (ct_T_portAt_y hl0 hT hi hx) rfl ⟨rfl, rfl⟩
set_option maxHeartbeats 4000000 in
set_option maxRecDepth 100000 in
theorem ct_T_link_c {l : Launch} (hl0 : l.stackTraces = false) {G : LG} {σ : HS} {t b : Int32} {v2 u2 : Int32} {i j : Nat} {n L : Nat} (hT : TS σ n L) (hi : i < n) (hj : j < 4) (hx : v2 < 0 ∨ hI σ 5 0 3 ≤ v2) : Ct l G m_T_link [.ref (5 + 16 * 0), .int (nI i), .int (nI j), .int (v2), .int (u2), .int (t), .int (b)] (σ) (qd (.inl 0) σ) := by
  refine Ct.of hl0 rfl rfl (Nat.le_of_ble_eq_true rfl) ?_
  show Ex l G m_T_link (pmV G m_T_link (qd (.inl 0) σ)) 0 [(0, .ref (5 + 16 * 0)), (1, .int (nI i)), (2, .int (nI j)), (3, .int (v2)), (4, .int (u2)), (5, .int (t)), (6, .int (b))] [] (σ) 6 35
  refine e_aload_n d_T_link_0 rfl rfl ?_
  refine e_iload_n d_T_link_1 rfl rfl ?_
  refine e_iload_n d_T_link_2 rfl rfl ?_
  refine e_callVd (v := some (.ref (1 + 16 * (4 * i + j)))) (σ' := σ) (q := 5) (a := 0) (As := [.int (nI i), .int (nI j)]) (st := []) 4 23 d_T_link_3 cb_T_link_81 iv_T_portAt rfl ⟨by decide, rfl⟩ rfl (Nat.le_of_ble_eq_true rfl) (by decide) (by decide) (ct_T_portAt hl0 hT hi hj) ?_
  show Ex l G m_T_link (pmV G m_T_link (qd (.inl 0) σ)) 6 [(0, .ref (5 + 16 * 0)), (1, .int (nI i)), (2, .int (nI j)), (3, .int (v2)), (4, .int (u2)), (5, .int (t)), (6, .int (b))] [.ref (1 + 16 * (4 * i + j))] (σ) 4 23
  refine e_astore (lv' := [(7, .ref (1 + 16 * (4 * i + j))), (0, .ref (5 + 16 * 0)), (1, .int (nI i)), (2, .int (nI j)), (3, .int (v2)), (4, .int (u2)), (5, .int (t)), (6, .int (b))]) d_T_link_6 (by decide) rfl ?_
  refine e_aload_n d_T_link_8 rfl rfl ?_
  refine e_iload_n d_T_link_9 rfl rfl ?_
  refine e_iload d_T_link_10 rfl ?_
  exact e_callVt (q := 5) (a := 0) (As := [.int (v2), .int (u2)]) (st := []) 2 11 d_T_link_12 cb_T_link_81 iv_T_portAt rfl ⟨by decide, rfl⟩ rfl (Nat.le_of_ble_eq_true rfl) (by decide) (by decide) (ct_T_portAt_x hl0 hx) rfl ⟨rfl, rfl⟩
set_option maxHeartbeats 4000000 in
set_option maxRecDepth 100000 in
theorem ct_T_link_d {l : Launch} (hl0 : l.stackTraces = false) {G : LG} {σ : HS} {t b : Int32} {i2 : Nat} {u2 : Int32} {i j : Nat} {n L : Nat} (hT : TS σ n L) (hi : i < n) (hj : j < 4) (hi2 : i2 < n) (hx : u2 < 0 ∨ 4 ≤ u2) : Ct l G m_T_link [.ref (5 + 16 * 0), .int (nI i), .int (nI j), .int (nI i2), .int (u2), .int (t), .int (b)] (σ) (qd (.inl 0) σ) := by
  refine Ct.of hl0 rfl rfl (Nat.le_of_ble_eq_true rfl) ?_
  show Ex l G m_T_link (pmV G m_T_link (qd (.inl 0) σ)) 0 [(0, .ref (5 + 16 * 0)), (1, .int (nI i)), (2, .int (nI j)), (3, .int (nI i2)), (4, .int (u2)), (5, .int (t)), (6, .int (b))] [] (σ) 6 35
  refine e_aload_n d_T_link_0 rfl rfl ?_
  refine e_iload_n d_T_link_1 rfl rfl ?_
  refine e_iload_n d_T_link_2 rfl rfl ?_
  refine e_callVd (v := some (.ref (1 + 16 * (4 * i + j)))) (σ' := σ) (q := 5) (a := 0) (As := [.int (nI i), .int (nI j)]) (st := []) 4 23 d_T_link_3 cb_T_link_81 iv_T_portAt rfl ⟨by decide, rfl⟩ rfl (Nat.le_of_ble_eq_true rfl) (by decide) (by decide) (ct_T_portAt hl0 hT hi hj) ?_
  show Ex l G m_T_link (pmV G m_T_link (qd (.inl 0) σ)) 6 [(0, .ref (5 + 16 * 0)), (1, .int (nI i)), (2, .int (nI j)), (3, .int (nI i2)), (4, .int (u2)), (5, .int (t)), (6, .int (b))] [.ref (1 + 16 * (4 * i + j))] (σ) 4 23
  refine e_astore (lv' := [(7, .ref (1 + 16 * (4 * i + j))), (0, .ref (5 + 16 * 0)), (1, .int (nI i)), (2, .int (nI j)), (3, .int (nI i2)), (4, .int (u2)), (5, .int (t)), (6, .int (b))]) d_T_link_6 (by decide) rfl ?_
  refine e_aload_n d_T_link_8 rfl rfl ?_
  refine e_iload_n d_T_link_9 rfl rfl ?_
  refine e_iload d_T_link_10 rfl ?_
  exact e_callVt (q := 5) (a := 0) (As := [.int (nI i2), .int (u2)]) (st := []) 2 11 d_T_link_12 cb_T_link_81 iv_T_portAt rfl ⟨by decide, rfl⟩ rfl (Nat.le_of_ble_eq_true rfl) (by decide) (by decide) (ct_T_portAt_y hl0 hT hi2 hx) rfl ⟨rfl, rfl⟩
set_option maxHeartbeats 4000000 in
set_option maxRecDepth 100000 in
theorem ct_T_link_e {l : Launch} (hl0 : l.stackTraces = false) {G : LG} {σ : HS} {t b : Int32} {i j : Nat} {n L : Nat} (hT : TS σ n L) (hi : i < n) (hj : j < 4) {i2 j2 : Nat} (hi2 : i2 < n) (hj2 : j2 < 4) (hx : nI i = nI i2) : Ct l G m_T_link [.ref (5 + 16 * 0), .int (nI i), .int (nI j), .int (nI i2), .int (nI j2), .int (t), .int (b)] (σ) (qd (.inl 0) σ) := by
  refine Ct.of hl0 rfl rfl (Nat.le_of_ble_eq_true rfl) ?_
  show Ex l G m_T_link (pmV G m_T_link (qd (.inl 0) σ)) 0 [(0, .ref (5 + 16 * 0)), (1, .int (nI i)), (2, .int (nI j)), (3, .int (nI i2)), (4, .int (nI j2)), (5, .int (t)), (6, .int (b))] [] (σ) 6 35
  refine e_aload_n d_T_link_0 rfl rfl ?_
  refine e_iload_n d_T_link_1 rfl rfl ?_
  refine e_iload_n d_T_link_2 rfl rfl ?_
  refine e_callVd (v := some (.ref (1 + 16 * (4 * i + j)))) (σ' := σ) (q := 5) (a := 0) (As := [.int (nI i), .int (nI j)]) (st := []) 4 23 d_T_link_3 cb_T_link_81 iv_T_portAt rfl ⟨by decide, rfl⟩ rfl (Nat.le_of_ble_eq_true rfl) (by decide) (by decide) (ct_T_portAt hl0 hT hi hj) ?_
  show Ex l G m_T_link (pmV G m_T_link (qd (.inl 0) σ)) 6 [(0, .ref (5 + 16 * 0)), (1, .int (nI i)), (2, .int (nI j)), (3, .int (nI i2)), (4, .int (nI j2)), (5, .int (t)), (6, .int (b))] [.ref (1 + 16 * (4 * i + j))] (σ) 4 23
  refine e_astore (lv' := [(7, .ref (1 + 16 * (4 * i + j))), (0, .ref (5 + 16 * 0)), (1, .int (nI i)), (2, .int (nI j)), (3, .int (nI i2)), (4, .int (nI j2)), (5, .int (t)), (6, .int (b))]) d_T_link_6 (by decide) rfl ?_
  refine e_aload_n d_T_link_8 rfl rfl ?_
  refine e_iload_n d_T_link_9 rfl rfl ?_
  refine e_iload d_T_link_10 rfl ?_
  refine e_callVd (v := some (.ref (1 + 16 * (4 * i2 + j2)))) (σ' := σ) (q := 5) (a := 0) (As := [.int (nI i2), .int (nI j2)]) (st := []) 2 11 d_T_link_12 cb_T_link_81 iv_T_portAt rfl ⟨by decide, rfl⟩ rfl (Nat.le_of_ble_eq_true rfl) (by decide) (by decide) (ct_T_portAt hl0 hT hi2 hj2) ?_
  show Ex l G m_T_link (pmV G m_T_link (qd (.inl 0) σ)) 15 [(7, .ref (1 + 16 * (4 * i + j))), (0, .ref (5 + 16 * 0)), (1, .int (nI i)), (2, .int (nI j)), (3, .int (nI i2)), (4, .int (nI j2)), (5, .int (t)), (6, .int (b))] [.ref (1 + 16 * (4 * i2 + j2))] (σ) 2 11
  refine e_astore (lv' := [(8, .ref (1 + 16 * (4 * i2 + j2))), (7, .ref (1 + 16 * (4 * i + j))), (0, .ref (5 + 16 * 0)), (1, .int (nI i)), (2, .int (nI j)), (3, .int (nI i2)), (4, .int (nI j2)), (5, .int (t)), (6, .int (b))]) d_T_link_15 (by decide) rfl ?_
  refine e_iload_n d_T_link_17 rfl rfl ?_
  refine e_iload_n d_T_link_18 rfl rfl ?_
  refine e_icmpne (tgt := 32) d_T_link_19 (by decide) (fun h19 => absurd h19 (fun z => z hx)) (fun h19 => ?_)
  exact e_iae rfl d_T_link_22 d_T_link_25 d_T_link_26 d_T_link_28 d_T_link_31 (by decide +kernel) ⟨by decide, Nat.le_of_ble_eq_true rfl⟩ ⟨by decide, by decide⟩ rfl ⟨rfl, rfl⟩
set_option maxHeartbeats 4000000 in
set_option maxRecDepth 100000 in
theorem ct_T_link_f {l : Launch} (hl0 : l.stackTraces = false) {G : LG} {σ : HS} {t b : Int32} {i j : Nat} {n L : Nat} (hT : TS σ n L) (hi : i < n) (hj : j < 4) {i2 j2 : Nat} (hi2 : i2 < n) (hj2 : j2 < 4) (hne : ¬ nI i = nI i2) (hx : wiV t 1000000000 = 0 ∨ wiV b 1000000000 = 0) : Ct l G m_T_link [.ref (5 + 16 * 0), .int (nI i), .int (nI j), .int (nI i2), .int (nI j2), .int (t), .int (b)] (σ) (qd (.inl 0) σ) := by
  refine Ct.of hl0 rfl rfl (Nat.le_of_ble_eq_true rfl) ?_
  show Ex l G m_T_link (pmV G m_T_link (qd (.inl 0) σ)) 0 [(0, .ref (5 + 16 * 0)), (1, .int (nI i)), (2, .int (nI j)), (3, .int (nI i2)), (4, .int (nI j2)), (5, .int (t)), (6, .int (b))] [] (σ) 6 35
  refine e_aload_n d_T_link_0 rfl rfl ?_
  refine e_iload_n d_T_link_1 rfl rfl ?_
  refine e_iload_n d_T_link_2 rfl rfl ?_
  refine e_callVd (v := some (.ref (1 + 16 * (4 * i + j)))) (σ' := σ) (q := 5) (a := 0) (As := [.int (nI i), .int (nI j)]) (st := []) 4 23 d_T_link_3 cb_T_link_81 iv_T_portAt rfl ⟨by decide, rfl⟩ rfl (Nat.le_of_ble_eq_true rfl) (by decide) (by decide) (ct_T_portAt hl0 hT hi hj) ?_
  show Ex l G m_T_link (pmV G m_T_link (qd (.inl 0) σ)) 6 [(0, .ref (5 + 16 * 0)), (1, .int (nI i)), (2, .int (nI j)), (3, .int (nI i2)), (4, .int (nI j2)), (5, .int (t)), (6, .int (b))] [.ref (1 + 16 * (4 * i + j))] (σ) 4 23
  refine e_astore (lv' := [(7, .ref (1 + 16 * (4 * i + j))), (0, .ref (5 + 16 * 0)), (1, .int (nI i)), (2, .int (nI j)), (3, .int (nI i2)), (4, .int (nI j2)), (5, .int (t)), (6, .int (b))]) d_T_link_6 (by decide) rfl ?_
  refine e_aload_n d_T_link_8 rfl rfl ?_
  refine e_iload_n d_T_link_9 rfl rfl ?_
  refine e_iload d_T_link_10 rfl ?_
  refine e_callVd (v := some (.ref (1 + 16 * (4 * i2 + j2)))) (σ' := σ) (q := 5) (a := 0) (As := [.int (nI i2), .int (nI j2)]) (st := []) 2 11 d_T_link_12 cb_T_link_81 iv_T_portAt rfl ⟨by decide, rfl⟩ rfl (Nat.le_of_ble_eq_true rfl) (by decide) (by decide) (ct_T_portAt hl0 hT hi2 hj2) ?_
  show Ex l G m_T_link (pmV G m_T_link (qd (.inl 0) σ)) 15 [(7, .ref (1 + 16 * (4 * i + j))), (0, .ref (5 + 16 * 0)), (1, .int (nI i)), (2, .int (nI j)), (3, .int (nI i2)), (4, .int (nI j2)), (5, .int (t)), (6, .int (b))] [.ref (1 + 16 * (4 * i2 + j2))] (σ) 2 11
  refine e_astore (lv' := [(8, .ref (1 + 16 * (4 * i2 + j2))), (7, .ref (1 + 16 * (4 * i + j))), (0, .ref (5 + 16 * 0)), (1, .int (nI i)), (2, .int (nI j)), (3, .int (nI i2)), (4, .int (nI j2)), (5, .int (t)), (6, .int (b))]) d_T_link_15 (by decide) rfl ?_
  refine e_iload_n d_T_link_17 rfl rfl ?_
  refine e_iload_n d_T_link_18 rfl rfl ?_
  refine e_icmpne (tgt := 32) d_T_link_19 (by decide) (fun h19 => ?_) (fun h19 => absurd h19 hne)
  refine e_iload d_T_link_32 rfl ?_
  refine e_ldc (v := 1000000000) d_T_link_34 kc_T_87 ?_
  refine e_callSd (v := some (.int (wiV (t) (1000000000)))) (σ' := σ) (As := [.int (t), .int (1000000000)]) (st := []) 2 11 d_T_link_36 cb_T_link_39 is_T_isWithin rfl (Nat.le_of_ble_eq_true rfl) (by decide) (by decide) (ct_T_isWithin hl0) ?_
  show Ex l G m_T_link (pmV G m_T_link (qd (.inl 0) σ)) 39 [(8, .ref (1 + 16 * (4 * i2 + j2))), (7, .ref (1 + 16 * (4 * i + j))), (0, .ref (5 + 16 * 0)), (1, .int (nI i)), (2, .int (nI j)), (3, .int (nI i2)), (4, .int (nI j2)), (5, .int (t)), (6, .int (b))] [.int (wiV (t) (1000000000))] (σ) 2 11
  refine e_ifeq (tgt := 52) d_T_link_39 (by decide) (fun h39 => ?_) (fun h39 => ?_)
  ·
    exact e_iae rfl d_T_link_52 d_T_link_55 d_T_link_56 d_T_link_58 d_T_link_61 (by decide +kernel) ⟨by decide, Nat.le_of_ble_eq_true rfl⟩ ⟨by decide, by decide⟩ rfl ⟨rfl, rfl⟩
  ·
    refine e_iload d_T_link_42 rfl ?_
    refine e_ldc (v := 1000000000) d_T_link_44 kc_T_87 ?_
    refine e_callSd (v := some (.int (wiV (b) (1000000000)))) (σ' := σ) (As := [.int (b), .int (1000000000)]) (st := []) 2 11 d_T_link_46 cb_T_link_39 is_T_isWithin rfl (Nat.le_of_ble_eq_true rfl) (by decide) (by decide) (ct_T_isWithin hl0) ?_
    show Ex l G m_T_link (pmV G m_T_link (qd (.inl 0) σ)) 49 [(8, .ref (1 + 16 * (4 * i2 + j2))), (7, .ref (1 + 16 * (4 * i + j))), (0, .ref (5 + 16 * 0)), (1, .int (nI i)), (2, .int (nI j)), (3, .int (nI i2)), (4, .int (nI j2)), (5, .int (t)), (6, .int (b))] [.int (wiV (b) (1000000000))] (σ) 2 11
    refine e_ifne (tgt := 62) d_T_link_49 (by decide) (fun h49 => absurd h49 (fun z => z (hx.resolve_left h39))) (fun h49 => ?_)
    exact e_iae rfl d_T_link_52 d_T_link_55 d_T_link_56 d_T_link_58 d_T_link_61 (by decide +kernel) ⟨by decide, Nat.le_of_ble_eq_true rfl⟩ ⟨by decide, by decide⟩ rfl ⟨rfl, rfl⟩
set_option maxHeartbeats 4000000 in
set_option maxRecDepth 100000 in
theorem ct_T_link_g {l : Launch} (hl0 : l.stackTraces = false) {G : LG} {σ : HS} {t b : Int32} {i j : Nat} {n L : Nat} (hT : TS σ n L) (hi : i < n) (hj : j < 4) {i2 j2 : Nat} (hi2 : i2 < n) (hj2 : j2 < 4) (hne : ¬ nI i = nI i2) (hx1 : ¬ wiV t 1000000000 = 0) (hx2 : ¬ wiV b 1000000000 = 0) (hfull : L = 16) : Ct l G m_T_link [.ref (5 + 16 * 0), .int (nI i), .int (nI j), .int (nI i2), .int (nI j2), .int (t), .int (b)] (σ) (qd (.inl 1) σ) := by
  refine Ct.of hl0 rfl rfl (Nat.le_of_ble_eq_true rfl) ?_
  show Ex l G m_T_link (pmV G m_T_link (qd (.inl 1) σ)) 0 [(0, .ref (5 + 16 * 0)), (1, .int (nI i)), (2, .int (nI j)), (3, .int (nI i2)), (4, .int (nI j2)), (5, .int (t)), (6, .int (b))] [] (σ) 6 35
  refine e_aload_n d_T_link_0 rfl rfl ?_
  refine e_iload_n d_T_link_1 rfl rfl ?_
  refine e_iload_n d_T_link_2 rfl rfl ?_
  refine e_callVd (v := some (.ref (1 + 16 * (4 * i + j)))) (σ' := σ) (q := 5) (a := 0) (As := [.int (nI i), .int (nI j)]) (st := []) 4 23 d_T_link_3 cb_T_link_81 iv_T_portAt rfl ⟨by decide, rfl⟩ rfl (Nat.le_of_ble_eq_true rfl) (by decide) (by decide) (ct_T_portAt hl0 hT hi hj) ?_
  show Ex l G m_T_link (pmV G m_T_link (qd (.inl 1) σ)) 6 [(0, .ref (5 + 16 * 0)), (1, .int (nI i)), (2, .int (nI j)), (3, .int (nI i2)), (4, .int (nI j2)), (5, .int (t)), (6, .int (b))] [.ref (1 + 16 * (4 * i + j))] (σ) 4 23
  refine e_astore (lv' := [(7, .ref (1 + 16 * (4 * i + j))), (0, .ref (5 + 16 * 0)), (1, .int (nI i)), (2, .int (nI j)), (3, .int (nI i2)), (4, .int (nI j2)), (5, .int (t)), (6, .int (b))]) d_T_link_6 (by decide) rfl ?_
  refine e_aload_n d_T_link_8 rfl rfl ?_
  refine e_iload_n d_T_link_9 rfl rfl ?_
  refine e_iload d_T_link_10 rfl ?_
  refine e_callVd (v := some (.ref (1 + 16 * (4 * i2 + j2)))) (σ' := σ) (q := 5) (a := 0) (As := [.int (nI i2), .int (nI j2)]) (st := []) 2 11 d_T_link_12 cb_T_link_81 iv_T_portAt rfl ⟨by decide, rfl⟩ rfl (Nat.le_of_ble_eq_true rfl) (by decide) (by decide) (ct_T_portAt hl0 hT hi2 hj2) ?_
  show Ex l G m_T_link (pmV G m_T_link (qd (.inl 1) σ)) 15 [(7, .ref (1 + 16 * (4 * i + j))), (0, .ref (5 + 16 * 0)), (1, .int (nI i)), (2, .int (nI j)), (3, .int (nI i2)), (4, .int (nI j2)), (5, .int (t)), (6, .int (b))] [.ref (1 + 16 * (4 * i2 + j2))] (σ) 2 11
  refine e_astore (lv' := [(8, .ref (1 + 16 * (4 * i2 + j2))), (7, .ref (1 + 16 * (4 * i + j))), (0, .ref (5 + 16 * 0)), (1, .int (nI i)), (2, .int (nI j)), (3, .int (nI i2)), (4, .int (nI j2)), (5, .int (t)), (6, .int (b))]) d_T_link_15 (by decide) rfl ?_
  refine e_iload_n d_T_link_17 rfl rfl ?_
  refine e_iload_n d_T_link_18 rfl rfl ?_
  refine e_icmpne (tgt := 32) d_T_link_19 (by decide) (fun h19 => ?_) (fun h19 => absurd h19 hne)
  refine e_iload d_T_link_32 rfl ?_
  refine e_ldc (v := 1000000000) d_T_link_34 kc_T_87 ?_
  refine e_callSd (v := some (.int (wiV (t) (1000000000)))) (σ' := σ) (As := [.int (t), .int (1000000000)]) (st := []) 2 11 d_T_link_36 cb_T_link_39 is_T_isWithin rfl (Nat.le_of_ble_eq_true rfl) (by decide) (by decide) (ct_T_isWithin hl0) ?_
  show Ex l G m_T_link (pmV G m_T_link (qd (.inl 1) σ)) 39 [(8, .ref (1 + 16 * (4 * i2 + j2))), (7, .ref (1 + 16 * (4 * i + j))), (0, .ref (5 + 16 * 0)), (1, .int (nI i)), (2, .int (nI j)), (3, .int (nI i2)), (4, .int (nI j2)), (5, .int (t)), (6, .int (b))] [.int (wiV (t) (1000000000))] (σ) 2 11
  refine e_ifeq (tgt := 52) d_T_link_39 (by decide) (fun h39 => absurd h39 hx1) (fun h39 => ?_)
  refine e_iload d_T_link_42 rfl ?_
  refine e_ldc (v := 1000000000) d_T_link_44 kc_T_87 ?_
  refine e_callSd (v := some (.int (wiV (b) (1000000000)))) (σ' := σ) (As := [.int (b), .int (1000000000)]) (st := []) 2 11 d_T_link_46 cb_T_link_39 is_T_isWithin rfl (Nat.le_of_ble_eq_true rfl) (by decide) (by decide) (ct_T_isWithin hl0) ?_
  show Ex l G m_T_link (pmV G m_T_link (qd (.inl 1) σ)) 49 [(8, .ref (1 + 16 * (4 * i2 + j2))), (7, .ref (1 + 16 * (4 * i + j))), (0, .ref (5 + 16 * 0)), (1, .int (nI i)), (2, .int (nI j)), (3, .int (nI i2)), (4, .int (nI j2)), (5, .int (t)), (6, .int (b))] [.int (wiV (b) (1000000000))] (σ) 2 11
  refine e_ifne (tgt := 62) d_T_link_49 (by decide) (fun h49 => ?_) (fun h49 => absurd h49 hx2)
  refine e_aload_n d_T_link_62 rfl rfl ?_
  refine g_T_32 rfl d_T_link_63 ?_
  refine e_bipush (v := 16) d_T_link_66 (by decide) ?_
  refine e_icmplt (tgt := 81) d_T_link_68 (by decide) (fun h68 => absurd h68 (by rw [hT.2.2.1.2.1, hfull]; decide +kernel)) (fun h68 => ?_)
  exact e_ise rfl d_T_link_71 d_T_link_74 d_T_link_75 d_T_link_77 d_T_link_80 (by decide +kernel) ⟨by decide, Nat.le_of_ble_eq_true rfl⟩ ⟨by decide, by decide⟩ rfl ⟨rfl, rfl⟩
theorem n16_lt : ∀ k, k < 16 → nI k < (16 : Int32) := by decide +kernel
set_option maxHeartbeats 4000000 in
set_option maxRecDepth 100000 in
theorem ct_T_link_h {l : Launch} (hl0 : l.stackTraces = false) {G : LG} {σ : HS} {t b : Int32} {i j : Nat} {n L : Nat} (hT : TS σ n L) (hi : i < n) (hj : j < 4) {i2 j2 : Nat} (hi2 : i2 < n) (hj2 : j2 < 4) {k : Nat} (hne : ¬ nI i = nI i2) (hx1 : ¬ wiV t 1000000000 = 0) (hx2 : ¬ wiV b 1000000000 = 0) (hlt : L < 16) (hl1 : hR σ 1 (4 * i + j) 7 = some (3 + 16 * k)) : Ct l G m_T_link [.ref (5 + 16 * 0), .int (nI i), .int (nI j), .int (nI i2), .int (nI j2), .int (t), .int (b)] (σ) (qd (.inl 1) σ) := by
  refine Ct.of hl0 rfl rfl (Nat.le_of_ble_eq_true rfl) ?_
  show Ex l G m_T_link (pmV G m_T_link (qd (.inl 1) σ)) 0 [(0, .ref (5 + 16 * 0)), (1, .int (nI i)), (2, .int (nI j)), (3, .int (nI i2)), (4, .int (nI j2)), (5, .int (t)), (6, .int (b))] [] (σ) 6 35
  refine e_aload_n d_T_link_0 rfl rfl ?_
  refine e_iload_n d_T_link_1 rfl rfl ?_
  refine e_iload_n d_T_link_2 rfl rfl ?_
  refine e_callVd (v := some (.ref (1 + 16 * (4 * i + j)))) (σ' := σ) (q := 5) (a := 0) (As := [.int (nI i), .int (nI j)]) (st := []) 4 23 d_T_link_3 cb_T_link_81 iv_T_portAt rfl ⟨by decide, rfl⟩ rfl (Nat.le_of_ble_eq_true rfl) (by decide) (by decide) (ct_T_portAt hl0 hT hi hj) ?_
  show Ex l G m_T_link (pmV G m_T_link (qd (.inl 1) σ)) 6 [(0, .ref (5 + 16 * 0)), (1, .int (nI i)), (2, .int (nI j)), (3, .int (nI i2)), (4, .int (nI j2)), (5, .int (t)), (6, .int (b))] [.ref (1 + 16 * (4 * i + j))] (σ) 4 23
  refine e_astore (lv' := [(7, .ref (1 + 16 * (4 * i + j))), (0, .ref (5 + 16 * 0)), (1, .int (nI i)), (2, .int (nI j)), (3, .int (nI i2)), (4, .int (nI j2)), (5, .int (t)), (6, .int (b))]) d_T_link_6 (by decide) rfl ?_
  refine e_aload_n d_T_link_8 rfl rfl ?_
  refine e_iload_n d_T_link_9 rfl rfl ?_
  refine e_iload d_T_link_10 rfl ?_
  refine e_callVd (v := some (.ref (1 + 16 * (4 * i2 + j2)))) (σ' := σ) (q := 5) (a := 0) (As := [.int (nI i2), .int (nI j2)]) (st := []) 2 11 d_T_link_12 cb_T_link_81 iv_T_portAt rfl ⟨by decide, rfl⟩ rfl (Nat.le_of_ble_eq_true rfl) (by decide) (by decide) (ct_T_portAt hl0 hT hi2 hj2) ?_
  show Ex l G m_T_link (pmV G m_T_link (qd (.inl 1) σ)) 15 [(7, .ref (1 + 16 * (4 * i + j))), (0, .ref (5 + 16 * 0)), (1, .int (nI i)), (2, .int (nI j)), (3, .int (nI i2)), (4, .int (nI j2)), (5, .int (t)), (6, .int (b))] [.ref (1 + 16 * (4 * i2 + j2))] (σ) 2 11
  refine e_astore (lv' := [(8, .ref (1 + 16 * (4 * i2 + j2))), (7, .ref (1 + 16 * (4 * i + j))), (0, .ref (5 + 16 * 0)), (1, .int (nI i)), (2, .int (nI j)), (3, .int (nI i2)), (4, .int (nI j2)), (5, .int (t)), (6, .int (b))]) d_T_link_15 (by decide) rfl ?_
  refine e_iload_n d_T_link_17 rfl rfl ?_
  refine e_iload_n d_T_link_18 rfl rfl ?_
  refine e_icmpne (tgt := 32) d_T_link_19 (by decide) (fun h19 => ?_) (fun h19 => absurd h19 hne)
  refine e_iload d_T_link_32 rfl ?_
  refine e_ldc (v := 1000000000) d_T_link_34 kc_T_87 ?_
  refine e_callSd (v := some (.int (wiV (t) (1000000000)))) (σ' := σ) (As := [.int (t), .int (1000000000)]) (st := []) 2 11 d_T_link_36 cb_T_link_39 is_T_isWithin rfl (Nat.le_of_ble_eq_true rfl) (by decide) (by decide) (ct_T_isWithin hl0) ?_
  show Ex l G m_T_link (pmV G m_T_link (qd (.inl 1) σ)) 39 [(8, .ref (1 + 16 * (4 * i2 + j2))), (7, .ref (1 + 16 * (4 * i + j))), (0, .ref (5 + 16 * 0)), (1, .int (nI i)), (2, .int (nI j)), (3, .int (nI i2)), (4, .int (nI j2)), (5, .int (t)), (6, .int (b))] [.int (wiV (t) (1000000000))] (σ) 2 11
  refine e_ifeq (tgt := 52) d_T_link_39 (by decide) (fun h39 => absurd h39 hx1) (fun h39 => ?_)
  refine e_iload d_T_link_42 rfl ?_
  refine e_ldc (v := 1000000000) d_T_link_44 kc_T_87 ?_
  refine e_callSd (v := some (.int (wiV (b) (1000000000)))) (σ' := σ) (As := [.int (b), .int (1000000000)]) (st := []) 2 11 d_T_link_46 cb_T_link_39 is_T_isWithin rfl (Nat.le_of_ble_eq_true rfl) (by decide) (by decide) (ct_T_isWithin hl0) ?_
  show Ex l G m_T_link (pmV G m_T_link (qd (.inl 1) σ)) 49 [(8, .ref (1 + 16 * (4 * i2 + j2))), (7, .ref (1 + 16 * (4 * i + j))), (0, .ref (5 + 16 * 0)), (1, .int (nI i)), (2, .int (nI j)), (3, .int (nI i2)), (4, .int (nI j2)), (5, .int (t)), (6, .int (b))] [.int (wiV (b) (1000000000))] (σ) 2 11
  refine e_ifne (tgt := 62) d_T_link_49 (by decide) (fun h49 => ?_) (fun h49 => absurd h49 hx2)
  refine e_aload_n d_T_link_62 rfl rfl ?_
  refine g_T_32 rfl d_T_link_63 ?_
  refine e_bipush (v := 16) d_T_link_66 (by decide) ?_
  refine e_icmplt (tgt := 81) d_T_link_68 (by decide) (fun h68 => ?_) (fun h68 => absurd (by rw [hT.2.2.1.2.1]; exact n16_lt L hlt) h68)
  refine e_aload d_T_link_81 rfl ?_
  refine g_T_92 (b := 3 + 16 * k) rfl d_T_link_83 hl1 ?_
  refine e_ifnonnull (tgt := 97) d_T_link_86 (by decide) ?_
  exact e_ise rfl d_T_link_97 d_T_link_100 d_T_link_101 d_T_link_103 d_T_link_106 (by decide +kernel) ⟨by decide, Nat.le_of_ble_eq_true rfl⟩ ⟨by decide, by decide⟩ rfl ⟨rfl, rfl⟩
set_option maxHeartbeats 4000000 in
set_option maxRecDepth 100000 in
theorem ct_T_link_i {l : Launch} (hl0 : l.stackTraces = false) {G : LG} {σ : HS} {t b : Int32} {i j : Nat} {n L : Nat} (hT : TS σ n L) (hi : i < n) (hj : j < 4) {i2 j2 : Nat} (hi2 : i2 < n) (hj2 : j2 < 4) {k : Nat} (hne : ¬ nI i = nI i2) (hx1 : ¬ wiV t 1000000000 = 0) (hx2 : ¬ wiV b 1000000000 = 0) (hlt : L < 16) (hl1 : hR σ 1 (4 * i + j) 7 = none) (hl2 : hR σ 1 (4 * i2 + j2) 7 = some (3 + 16 * k)) : Ct l G m_T_link [.ref (5 + 16 * 0), .int (nI i), .int (nI j), .int (nI i2), .int (nI j2), .int (t), .int (b)] (σ) (qd (.inl 1) σ) := by
  refine Ct.of hl0 rfl rfl (Nat.le_of_ble_eq_true rfl) ?_
  show Ex l G m_T_link (pmV G m_T_link (qd (.inl 1) σ)) 0 [(0, .ref (5 + 16 * 0)), (1, .int (nI i)), (2, .int (nI j)), (3, .int (nI i2)), (4, .int (nI j2)), (5, .int (t)), (6, .int (b))] [] (σ) 6 35
  refine e_aload_n d_T_link_0 rfl rfl ?_
  refine e_iload_n d_T_link_1 rfl rfl ?_
  refine e_iload_n d_T_link_2 rfl rfl ?_
  refine e_callVd (v := some (.ref (1 + 16 * (4 * i + j)))) (σ' := σ) (q := 5) (a := 0) (As := [.int (nI i), .int (nI j)]) (st := []) 4 23 d_T_link_3 cb_T_link_81 iv_T_portAt rfl ⟨by decide, rfl⟩ rfl (Nat.le_of_ble_eq_true rfl) (by decide) (by decide) (ct_T_portAt hl0 hT hi hj) ?_
  show Ex l G m_T_link (pmV G m_T_link (qd (.inl 1) σ)) 6 [(0, .ref (5 + 16 * 0)), (1, .int (nI i)), (2, .int (nI j)), (3, .int (nI i2)), (4, .int (nI j2)), (5, .int (t)), (6, .int (b))] [.ref (1 + 16 * (4 * i + j))] (σ) 4 23
  refine e_astore (lv' := [(7, .ref (1 + 16 * (4 * i + j))), (0, .ref (5 + 16 * 0)), (1, .int (nI i)), (2, .int (nI j)), (3, .int (nI i2)), (4, .int (nI j2)), (5, .int (t)), (6, .int (b))]) d_T_link_6 (by decide) rfl ?_
  refine e_aload_n d_T_link_8 rfl rfl ?_
  refine e_iload_n d_T_link_9 rfl rfl ?_
  refine e_iload d_T_link_10 rfl ?_
  refine e_callVd (v := some (.ref (1 + 16 * (4 * i2 + j2)))) (σ' := σ) (q := 5) (a := 0) (As := [.int (nI i2), .int (nI j2)]) (st := []) 2 11 d_T_link_12 cb_T_link_81 iv_T_portAt rfl ⟨by decide, rfl⟩ rfl (Nat.le_of_ble_eq_true rfl) (by decide) (by decide) (ct_T_portAt hl0 hT hi2 hj2) ?_
  show Ex l G m_T_link (pmV G m_T_link (qd (.inl 1) σ)) 15 [(7, .ref (1 + 16 * (4 * i + j))), (0, .ref (5 + 16 * 0)), (1, .int (nI i)), (2, .int (nI j)), (3, .int (nI i2)), (4, .int (nI j2)), (5, .int (t)), (6, .int (b))] [.ref (1 + 16 * (4 * i2 + j2))] (σ) 2 11
  refine e_astore (lv' := [(8, .ref (1 + 16 * (4 * i2 + j2))), (7, .ref (1 + 16 * (4 * i + j))), (0, .ref (5 + 16 * 0)), (1, .int (nI i)), (2, .int (nI j)), (3, .int (nI i2)), (4, .int (nI j2)), (5, .int (t)), (6, .int (b))]) d_T_link_15 (by decide) rfl ?_
  refine e_iload_n d_T_link_17 rfl rfl ?_
  refine e_iload_n d_T_link_18 rfl rfl ?_
  refine e_icmpne (tgt := 32) d_T_link_19 (by decide) (fun h19 => ?_) (fun h19 => absurd h19 hne)
  refine e_iload d_T_link_32 rfl ?_
  refine e_ldc (v := 1000000000) d_T_link_34 kc_T_87 ?_
  refine e_callSd (v := some (.int (wiV (t) (1000000000)))) (σ' := σ) (As := [.int (t), .int (1000000000)]) (st := []) 2 11 d_T_link_36 cb_T_link_39 is_T_isWithin rfl (Nat.le_of_ble_eq_true rfl) (by decide) (by decide) (ct_T_isWithin hl0) ?_
  show Ex l G m_T_link (pmV G m_T_link (qd (.inl 1) σ)) 39 [(8, .ref (1 + 16 * (4 * i2 + j2))), (7, .ref (1 + 16 * (4 * i + j))), (0, .ref (5 + 16 * 0)), (1, .int (nI i)), (2, .int (nI j)), (3, .int (nI i2)), (4, .int (nI j2)), (5, .int (t)), (6, .int (b))] [.int (wiV (t) (1000000000))] (σ) 2 11
  refine e_ifeq (tgt := 52) d_T_link_39 (by decide) (fun h39 => absurd h39 hx1) (fun h39 => ?_)
  refine e_iload d_T_link_42 rfl ?_
  refine e_ldc (v := 1000000000) d_T_link_44 kc_T_87 ?_
  refine e_callSd (v := some (.int (wiV (b) (1000000000)))) (σ' := σ) (As := [.int (b), .int (1000000000)]) (st := []) 2 11 d_T_link_46 cb_T_link_39 is_T_isWithin rfl (Nat.le_of_ble_eq_true rfl) (by decide) (by decide) (ct_T_isWithin hl0) ?_
  show Ex l G m_T_link (pmV G m_T_link (qd (.inl 1) σ)) 49 [(8, .ref (1 + 16 * (4 * i2 + j2))), (7, .ref (1 + 16 * (4 * i + j))), (0, .ref (5 + 16 * 0)), (1, .int (nI i)), (2, .int (nI j)), (3, .int (nI i2)), (4, .int (nI j2)), (5, .int (t)), (6, .int (b))] [.int (wiV (b) (1000000000))] (σ) 2 11
  refine e_ifne (tgt := 62) d_T_link_49 (by decide) (fun h49 => ?_) (fun h49 => absurd h49 hx2)
  refine e_aload_n d_T_link_62 rfl rfl ?_
  refine g_T_32 rfl d_T_link_63 ?_
  refine e_bipush (v := 16) d_T_link_66 (by decide) ?_
  refine e_icmplt (tgt := 81) d_T_link_68 (by decide) (fun h68 => ?_) (fun h68 => absurd (by rw [hT.2.2.1.2.1]; exact n16_lt L hlt) h68)
  refine e_aload d_T_link_81 rfl ?_
  refine g_T_92N rfl d_T_link_83 hl1 ?_
  refine e_ifnonnullN d_T_link_86 ?_
  refine e_aload d_T_link_89 rfl ?_
  refine g_T_92 (b := 3 + 16 * k) rfl d_T_link_91 hl2 ?_
  refine e_ifnull d_T_link_94 ?_
  exact e_ise rfl d_T_link_97 d_T_link_100 d_T_link_101 d_T_link_103 d_T_link_106 (by decide +kernel) ⟨by decide, Nat.le_of_ble_eq_true rfl⟩ ⟨by decide, by decide⟩ rfl ⟨rfl, rfl⟩
set_option maxHeartbeats 4000000 in
set_option maxRecDepth 100000 in
theorem ct_T_link {l : Launch} (hl0 : l.stackTraces = false) {G : LG} {σ : HS} {t b : Int32} {i j : Nat} {n L : Nat} (hT : TS σ n L) (hi : i < n) (hj : j < 4) {i2 j2 : Nat} (hi2 : i2 < n) (hj2 : j2 < 4) (hC : CN σ n L) (hne : ¬ nI i = nI i2) (hx1 : ¬ wiV t 1000000000 = 0) (hx2 : ¬ wiV b 1000000000 = 0) (hlt : L < 16) (hl1 : hR σ 1 (4 * i + j) 7 = none) (hl2 : hR σ 1 (4 * i2 + j2) 7 = none) : Ct l G m_T_link [.ref (5 + 16 * 0), .int (nI i), .int (nI j), .int (nI i2), .int (nI j2), .int (t), .int (b)] (σ) (qd (.inr (some (.int (nI L)))) (mkL σ L (4 * i + j) (4 * i2 + j2) t b)) := by
  refine Ct.of hl0 rfl rfl (Nat.le_of_ble_eq_true rfl) ?_
  show Ex l G m_T_link (pmV G m_T_link (qd (.inr (some (.int (nI L)))) (mkL σ L (4 * i + j) (4 * i2 + j2) t b))) 0 [(0, .ref (5 + 16 * 0)), (1, .int (nI i)), (2, .int (nI j)), (3, .int (nI i2)), (4, .int (nI j2)), (5, .int (t)), (6, .int (b))] [] (σ) 6 35
  have hn10 := hT.2.2.1.2.2.1
  have ex : (4 * i + j) / 4 = i := by omega
  have ey : (4 * i2 + j2) / 4 = i2 := by omega
  have hF2 : lkF σ L (4 * i + j) (4 * i2 + j2) t b = fsS (fsS (lkS σ L (4 * i + j) (4 * i2 + j2) t b) i 4) i2 4 := by unfold lkF; rw [ex, ey]
  have hNS2 : NS (fsS (lkS σ L (4 * i + j) (4 * i2 + j2) t b) i 4) i2 := by
    obtain ⟨a1, a2, a3, a4⟩ := lkS_NS (x := (4 * i + j)) (y := (4 * i2 + j2)) (t := t) (b := b) hT hi2
    refine ⟨by rw [fsS_Rn 4 (by omega)]; exact a1, by rw [fsS_Rn 4 (by omega)]; exact a2, by rw [fsS_l]; exact a3, fun z hz => ⟨?_, ?_, ?_⟩⟩
    · rw [fsS_Rn 4 (by omega)]; exact (a4 z hz).1
    · rw [fsS_Rn 4 (by omega)]; exact (a4 z hz).2.1
    · rw [fsS_Rn 4 (by omega)]; exact (a4 z hz).2.2
  have hLK2 : ∀ z, z < 4 → hR (fsS (lkS σ L (4 * i + j) (4 * i2 + j2) t b) i 4) 1 (4 * i2 + z) 7 = none ∨ ∃ k, hR (fsS (lkS σ L (4 * i + j) (4 * i2 + j2) t b) i 4) 1 (4 * i2 + z) 7 = some (3 + 16 * k) := fun z hz => by
    rw [fsS_Rn 4 (by omega)]; exact lkS_lk hT (by omega)
  refine e_aload_n d_T_link_0 rfl rfl ?_
  refine e_iload_n d_T_link_1 rfl rfl ?_
  refine e_iload_n d_T_link_2 rfl rfl ?_
  refine e_callVd (v := some (.ref (1 + 16 * (4 * i + j)))) (σ' := σ) (q := 5) (a := 0) (As := [.int (nI i), .int (nI j)]) (st := []) 4 23 d_T_link_3 cb_T_link_81 iv_T_portAt rfl ⟨by decide, rfl⟩ rfl (Nat.le_of_ble_eq_true rfl) (by decide) (by decide) (ct_T_portAt hl0 hT hi hj) ?_
  show Ex l G m_T_link (pmV G m_T_link (qd (.inr (some (.int (nI L)))) (mkL σ L (4 * i + j) (4 * i2 + j2) t b))) 6 [(0, .ref (5 + 16 * 0)), (1, .int (nI i)), (2, .int (nI j)), (3, .int (nI i2)), (4, .int (nI j2)), (5, .int (t)), (6, .int (b))] [.ref (1 + 16 * (4 * i + j))] (σ) 4 23
  refine e_astore (lv' := [(7, .ref (1 + 16 * (4 * i + j))), (0, .ref (5 + 16 * 0)), (1, .int (nI i)), (2, .int (nI j)), (3, .int (nI i2)), (4, .int (nI j2)), (5, .int (t)), (6, .int (b))]) d_T_link_6 (by decide) rfl ?_
  refine e_aload_n d_T_link_8 rfl rfl ?_
  refine e_iload_n d_T_link_9 rfl rfl ?_
  refine e_iload d_T_link_10 rfl ?_
  refine e_callVd (v := some (.ref (1 + 16 * (4 * i2 + j2)))) (σ' := σ) (q := 5) (a := 0) (As := [.int (nI i2), .int (nI j2)]) (st := []) 2 11 d_T_link_12 cb_T_link_81 iv_T_portAt rfl ⟨by decide, rfl⟩ rfl (Nat.le_of_ble_eq_true rfl) (by decide) (by decide) (ct_T_portAt hl0 hT hi2 hj2) ?_
  show Ex l G m_T_link (pmV G m_T_link (qd (.inr (some (.int (nI L)))) (mkL σ L (4 * i + j) (4 * i2 + j2) t b))) 15 [(7, .ref (1 + 16 * (4 * i + j))), (0, .ref (5 + 16 * 0)), (1, .int (nI i)), (2, .int (nI j)), (3, .int (nI i2)), (4, .int (nI j2)), (5, .int (t)), (6, .int (b))] [.ref (1 + 16 * (4 * i2 + j2))] (σ) 2 11
  refine e_astore (lv' := [(8, .ref (1 + 16 * (4 * i2 + j2))), (7, .ref (1 + 16 * (4 * i + j))), (0, .ref (5 + 16 * 0)), (1, .int (nI i)), (2, .int (nI j)), (3, .int (nI i2)), (4, .int (nI j2)), (5, .int (t)), (6, .int (b))]) d_T_link_15 (by decide) rfl ?_
  refine e_iload_n d_T_link_17 rfl rfl ?_
  refine e_iload_n d_T_link_18 rfl rfl ?_
  refine e_icmpne (tgt := 32) d_T_link_19 (by decide) (fun h19 => ?_) (fun h19 => absurd h19 hne)
  refine e_iload d_T_link_32 rfl ?_
  refine e_ldc (v := 1000000000) d_T_link_34 kc_T_87 ?_
  refine e_callSd (v := some (.int (wiV (t) (1000000000)))) (σ' := σ) (As := [.int (t), .int (1000000000)]) (st := []) 2 11 d_T_link_36 cb_T_link_39 is_T_isWithin rfl (Nat.le_of_ble_eq_true rfl) (by decide) (by decide) (ct_T_isWithin hl0) ?_
  show Ex l G m_T_link (pmV G m_T_link (qd (.inr (some (.int (nI L)))) (mkL σ L (4 * i + j) (4 * i2 + j2) t b))) 39 [(8, .ref (1 + 16 * (4 * i2 + j2))), (7, .ref (1 + 16 * (4 * i + j))), (0, .ref (5 + 16 * 0)), (1, .int (nI i)), (2, .int (nI j)), (3, .int (nI i2)), (4, .int (nI j2)), (5, .int (t)), (6, .int (b))] [.int (wiV (t) (1000000000))] (σ) 2 11
  refine e_ifeq (tgt := 52) d_T_link_39 (by decide) (fun h39 => absurd h39 hx1) (fun h39 => ?_)
  refine e_iload d_T_link_42 rfl ?_
  refine e_ldc (v := 1000000000) d_T_link_44 kc_T_87 ?_
  refine e_callSd (v := some (.int (wiV (b) (1000000000)))) (σ' := σ) (As := [.int (b), .int (1000000000)]) (st := []) 2 11 d_T_link_46 cb_T_link_39 is_T_isWithin rfl (Nat.le_of_ble_eq_true rfl) (by decide) (by decide) (ct_T_isWithin hl0) ?_
  show Ex l G m_T_link (pmV G m_T_link (qd (.inr (some (.int (nI L)))) (mkL σ L (4 * i + j) (4 * i2 + j2) t b))) 49 [(8, .ref (1 + 16 * (4 * i2 + j2))), (7, .ref (1 + 16 * (4 * i + j))), (0, .ref (5 + 16 * 0)), (1, .int (nI i)), (2, .int (nI j)), (3, .int (nI i2)), (4, .int (nI j2)), (5, .int (t)), (6, .int (b))] [.int (wiV (b) (1000000000))] (σ) 2 11
  refine e_ifne (tgt := 62) d_T_link_49 (by decide) (fun h49 => ?_) (fun h49 => absurd h49 hx2)
  refine e_aload_n d_T_link_62 rfl rfl ?_
  refine g_T_32 rfl d_T_link_63 ?_
  refine e_bipush (v := 16) d_T_link_66 (by decide) ?_
  refine e_icmplt (tgt := 81) d_T_link_68 (by decide) (fun h68 => ?_) (fun h68 => absurd (by rw [hT.2.2.1.2.1]; exact n16_lt L hlt) h68)
  refine e_aload d_T_link_81 rfl ?_
  refine g_T_92N rfl d_T_link_83 hl1 ?_
  refine e_ifnonnullN d_T_link_86 ?_
  refine e_aload d_T_link_89 rfl ?_
  refine g_T_92N rfl d_T_link_91 hl2 ?_
  refine e_ifnullN (tgt := 107) d_T_link_94 (by decide) ?_
  refine e_bg (mc' := 1 + 1) (ms' := 6 + 5) (by decide) (by decide) ?_
  refine e_new (q := 3) (mc := 1) (ms := 6) d_T_link_107 rfl (by decide) cl_T_15 ki_K.1 ki_K.2 ?_
  rw [show hn (σ) 3 = L from hC.2.2.2.1]
  refine e_dup d_T_link_110 rfl ?_
  refine e_aload d_T_link_111 rfl ?_
  refine e_aload d_T_link_113 rfl ?_
  refine e_iload d_T_link_115 rfl ?_
  refine e_iload d_T_link_117 rfl ?_
  refine e_callId (v := none) (σ' := lkK σ L (4 * i + j) (4 * i2 + j2) t b) (x := 3 + 16 * L) (As := [.ref (1 + 16 * (4 * i + j)), .ref (1 + 16 * (4 * i2 + j2)), .int (t), .int (b)]) (st := [.ref (3 + 16 * L)]) 1 6 d_T_link_119 cb_T_link_100 ii_K_init rfl (Nat.le_of_ble_eq_true rfl) (by decide) (by decide) (ct_K_init hl0) ?_
  show Ex l G m_T_link (pmV G m_T_link (qd (.inr (some (.int (nI L)))) (mkL σ L (4 * i + j) (4 * i2 + j2) t b))) 122 [(8, .ref (1 + 16 * (4 * i2 + j2))), (7, .ref (1 + 16 * (4 * i + j))), (0, .ref (5 + 16 * 0)), (1, .int (nI i)), (2, .int (nI j)), (3, .int (nI i2)), (4, .int (nI j2)), (5, .int (t)), (6, .int (b))] [.ref (3 + 16 * L)] (lkK σ L (4 * i + j) (4 * i2 + j2) t b) 1 6
  refine e_astore (lv' := [(9, .ref (3 + 16 * L)), (8, .ref (1 + 16 * (4 * i2 + j2))), (7, .ref (1 + 16 * (4 * i + j))), (0, .ref (5 + 16 * 0)), (1, .int (nI i)), (2, .int (nI j)), (3, .int (nI i2)), (4, .int (nI j2)), (5, .int (t)), (6, .int (b))]) d_T_link_122 (by decide) rfl ?_
  refine e_aload d_T_link_124 rfl ?_
  refine e_aload d_T_link_126 rfl ?_
  refine p_T_92 (by omega) rfl d_T_link_128 ?_
  refine e_aload d_T_link_131 rfl ?_
  refine e_aload d_T_link_133 rfl ?_
  refine p_T_92 (by omega) rfl d_T_link_135 ?_
  show Ex l G m_T_link (pmV G m_T_link (qd (.inr (some (.int (nI L)))) (mkL σ L (4 * i + j) (4 * i2 + j2) t b))) 138 [(9, .ref (3 + 16 * L)), (8, .ref (1 + 16 * (4 * i2 + j2))), (7, .ref (1 + 16 * (4 * i + j))), (0, .ref (5 + 16 * 0)), (1, .int (nI i)), (2, .int (nI j)), (3, .int (nI i2)), (4, .int (nI j2)), (5, .int (t)), (6, .int (b))] [] (lkS σ L (4 * i + j) (4 * i2 + j2) t b) 1 6
  refine e_aload_n d_T_link_138 rfl rfl ?_
  refine g_T_11 (b := 10 + 16 * 0) rfl d_T_link_139 (by rw [lkS_R (by decide) (by omega)]; exact hT.1.1) ?_
  refine e_iload_n d_T_link_142 rfl rfl ?_
  refine e_aald (b := 2 + 16 * i) (C := _) d_T_link_143 ⟨by decide, by decide⟩ rfl (by rw [lkS_l (by decide), hT.2.1.1]; exact nI_in (by omega) (by decide)) (by rw [nI_clamp (by omega), lkS_R (by decide) (by omega)]; exact (hT.2.2.2.1 i hi).1) ?_
  refine e_callVd (v := some (.int (fsC (lkS σ L (4 * i + j) (4 * i2 + j2) t b) i 4))) (σ' := fsS (lkS σ L (4 * i + j) (4 * i2 + j2) t b) i 4) (q := 2) (a := i) (As := []) (st := []) 1 6 d_T_link_144 cb_T_link_74 iv_N_findStates rfl ⟨by decide, rfl⟩ rfl (Nat.le_of_ble_eq_true rfl) (by decide) (by decide) (ct_N_findStates hl0 (lkS_NS hT hi) (fun z hz => lkS_lk hT (by omega))) ?_
  show Ex l G m_T_link (pmV G m_T_link (qd (.inr (some (.int (nI L)))) (mkL σ L (4 * i + j) (4 * i2 + j2) t b))) 147 [(9, .ref (3 + 16 * L)), (8, .ref (1 + 16 * (4 * i2 + j2))), (7, .ref (1 + 16 * (4 * i + j))), (0, .ref (5 + 16 * 0)), (1, .int (nI i)), (2, .int (nI j)), (3, .int (nI i2)), (4, .int (nI j2)), (5, .int (t)), (6, .int (b))] [.int (fsC (lkS σ L (4 * i + j) (4 * i2 + j2) t b) i 4)] (fsS (lkS σ L (4 * i + j) (4 * i2 + j2) t b) i 4) 1 6
  refine e_pop d_T_link_147 rfl ?_
  refine e_aload_n d_T_link_148 rfl rfl ?_
  refine g_T_11 (b := 10 + 16 * 0) rfl d_T_link_149 (by rw [fsS_Rn 4 (by omega), lkS_R (by decide) (by omega)]; exact hT.1.1) ?_
  refine e_iload_n d_T_link_152 rfl rfl ?_
  refine e_aald (b := 2 + 16 * i2) (C := _) d_T_link_153 ⟨by decide, by decide⟩ rfl (by rw [fsS_l, lkS_l (by decide), hT.2.1.1]; exact nI_in (by omega) (by decide)) (by rw [nI_clamp (by omega), fsS_Rn 4 (by omega), lkS_R (by decide) (by omega)]; exact (hT.2.2.2.1 i2 hi2).1) ?_
  refine e_callVd (v := some (.int (fsC (fsS (lkS σ L (4 * i + j) (4 * i2 + j2) t b) i 4) i2 4))) (σ' := lkF σ L (4 * i + j) (4 * i2 + j2) t b) (q := 2) (a := i2) (As := []) (st := []) 1 6 d_T_link_154 cb_T_link_74 iv_N_findStates rfl ⟨by decide, rfl⟩ rfl (Nat.le_of_ble_eq_true rfl) (by decide) (by decide) ((by have h := ct_N_findStates (l := l) (G := G) hl0 hNS2 hLK2; exact hF2 ▸ h)) ?_
  show Ex l G m_T_link (pmV G m_T_link (qd (.inr (some (.int (nI L)))) (mkL σ L (4 * i + j) (4 * i2 + j2) t b))) 157 [(9, .ref (3 + 16 * L)), (8, .ref (1 + 16 * (4 * i2 + j2))), (7, .ref (1 + 16 * (4 * i + j))), (0, .ref (5 + 16 * 0)), (1, .int (nI i)), (2, .int (nI j)), (3, .int (nI i2)), (4, .int (nI j2)), (5, .int (t)), (6, .int (b))] [.int (fsC (fsS (lkS σ L (4 * i + j) (4 * i2 + j2) t b) i 4) i2 4)] (lkF σ L (4 * i + j) (4 * i2 + j2) t b) 1 6
  refine e_pop d_T_link_157 rfl ?_
  refine e_aload_n d_T_link_158 rfl rfl ?_
  refine g_T_17 (b := 11 + 16 * 0) rfl d_T_link_159 (by rw [hF2, fsS_Rn 4 (by omega), fsS_Rn 4 (by omega), lkS_R (by decide) (by omega)]; exact hT.1.2.1) ?_
  refine e_aload_n d_T_link_162 rfl rfl ?_
  refine g_T_32 rfl d_T_link_163 ?_
  rw [show hI (lkF σ L (4 * i + j) (4 * i2 + j2) t b) 5 (0) 4 = nI L from (by rw [hF2, (gfr.fs 4).2.2.2 5 0 4 (by omega), (gfr.fs 4).2.2.2 5 0 4 (by omega), lkS_I (by decide)]; exact hT.2.2.1.2.1)]
  refine e_aload d_T_link_166 rfl ?_
  refine e_aast (q := 11) (a := 0) (ci := 3) (b := L) d_T_link_168 ⟨by decide, by decide⟩ (by decide) rfl rfl (by rw [hF2, fsS_l, fsS_l, lkS_l (by decide), hT.2.1.2]; exact nI_in (by omega) (by decide)) ?_
  rw [nI_clamp (by omega)]
  refine e_aload_n d_T_link_169 rfl rfl ?_
  refine e_dup d_T_link_170 rfl ?_
  refine g_T_32 rfl d_T_link_171 ?_
  rw [show hI (sR (lkF σ L (4 * i + j) (4 * i2 + j2) t b) 11 (0) L (some (3 + 16 * (L)))) 5 (0) 4 = nI L from (by rw [I_sR]; rw [hF2, (gfr.fs 4).2.2.2 5 0 4 (by omega), (gfr.fs 4).2.2.2 5 0 4 (by omega), lkS_I (by decide)]; exact hT.2.2.1.2.1)]
  refine e_iconst (v := 1) d_T_link_174 (by decide) ?_
  refine e_iadd d_T_link_175 ?_
  refine p_T_32 rfl d_T_link_176 ?_
  refine e_aload_n d_T_link_179 rfl rfl ?_
  refine g_T_32 rfl d_T_link_180 ?_
  rw [show hI (sI (sR (lkF σ L (4 * i + j) (4 * i2 + j2) t b) 11 (0) L (some (3 + 16 * (L)))) 5 (0) 4 ((nI L) + (1))) 5 (0) 4 = nI L + 1 from (by rw [I_sI, if_pos ⟨rfl, rfl, rfl⟩])]
  refine e_iconst (v := 1) d_T_link_183 (by decide) ?_
  refine e_isub d_T_link_184 ?_
  exact e_iret d_T_link_185 rfl ⟨(by rw [← nI_succ, nI_pred]), rfl⟩
