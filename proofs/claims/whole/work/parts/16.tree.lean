theorem th1_iae : Cond.classLink R_T 43 (xn 0) ∈ gt ∧ Cond.initialized (xn 0) ∈ gt ∧ (Bundle.fit (xn 0) = true ∧ ∀ n ∈ (["java/lang/RuntimeException", "java/lang/Exception"] : List String), Bundle.fit n = true) := by decide +kernel
theorem th2_iae : ∀ w ∈ (vx_atS R_T 47 (xn 0) ["java/lang/RuntimeException", "java/lang/Exception"]).filter goodWord, w ∈ gt := by decide +kernel
theorem th3_iae : ∀ w ∈ (vx_atS R_T 47 (xn 0) ["java/lang/RuntimeException", "java/lang/Exception"]).filter (fun w => !goodWord w), w ∈ nstT := by decide +kernel
theorem th4_iae : ∀ w ∈ Cond.classLink R_T 43 (xn 0) :: Cond.initialized (xn 0) :: vx_atS R_T 47 (xn 0) ["java/lang/RuntimeException", "java/lang/Exception"], vx_ot w = true := by decide +kernel
theorem e_iae {l : Launch} {G : LG} {M : MI} {Q : LO → HS → Prop} {pc : Nat} {lv : List (Nat × Value)} {st : List Value} {σ : HS} {mc ms is : Nat} (hM : M.1.cls = R_T) (d0 : decode M.2.1 pc = .ok (.new 43, 3)) (d3 : decode M.2.1 (pc + 3) = .ok (.dup, 1)) (d4 : decode M.2.1 (pc + 4) = .ok (.ldc is, 2)) (d6 : decode M.2.1 (pc + 6) = .ok (.invokespecial 47, 3)) (d9 : decode M.2.1 (pc + 9) = .ok (.athrow, 1)) (hstr : (strT.any fun x => x.1 == R_T && x.2.1 == is) = true)
    (hRm : 5 < M.2.2.2.2.1.frames ∧ (st.map fun v => v.category).sum + 82 ≤ M.2.2.2.2.1.locals) (hb : 1 ≤ mc ∧ 6 ≤ ms) (hH : M.2.2.2.2.2 = some []) (hq : Q (.inl 0) σ) : Ex l G M (pmV G M Q) pc lv st σ mc ms := by
  obtain ⟨⟨x1, x2, x3⟩, hx, hx2⟩ := List.any_eq_true.mp hstr
  simp only [Bool.and_eq_true, beq_iff_eq] at hx2
  obtain ⟨rfl, rfl⟩ := hx2
  exact e_throw (kx := 0) (names := ["java/lang/RuntimeException", "java/lang/Exception"]) (text := x3) d0 d3 d4 d6 d9 (by rw [hM]; exact th1_iae.1) th1_iae.2.1 (by rw [hM]; exact hx) th1_iae.2.2 (by rw [hM]; exact th2_iae) (by rw [hM]; exact th3_iae) (by rw [hM]; exact th4_iae) hRm hb hH hq
theorem th1_ise : Cond.classLink R_T 56 (xn 1) ∈ gt ∧ Cond.initialized (xn 1) ∈ gt ∧ (Bundle.fit (xn 1) = true ∧ ∀ n ∈ (["java/lang/RuntimeException", "java/lang/Exception"] : List String), Bundle.fit n = true) := by decide +kernel
theorem th2_ise : ∀ w ∈ (vx_atS R_T 60 (xn 1) ["java/lang/RuntimeException", "java/lang/Exception"]).filter goodWord, w ∈ gt := by decide +kernel
theorem th3_ise : ∀ w ∈ (vx_atS R_T 60 (xn 1) ["java/lang/RuntimeException", "java/lang/Exception"]).filter (fun w => !goodWord w), w ∈ nstT := by decide +kernel
theorem th4_ise : ∀ w ∈ Cond.classLink R_T 56 (xn 1) :: Cond.initialized (xn 1) :: vx_atS R_T 60 (xn 1) ["java/lang/RuntimeException", "java/lang/Exception"], vx_ot w = true := by decide +kernel
theorem e_ise {l : Launch} {G : LG} {M : MI} {Q : LO → HS → Prop} {pc : Nat} {lv : List (Nat × Value)} {st : List Value} {σ : HS} {mc ms is : Nat} (hM : M.1.cls = R_T) (d0 : decode M.2.1 pc = .ok (.new 56, 3)) (d3 : decode M.2.1 (pc + 3) = .ok (.dup, 1)) (d4 : decode M.2.1 (pc + 4) = .ok (.ldc is, 2)) (d6 : decode M.2.1 (pc + 6) = .ok (.invokespecial 60, 3)) (d9 : decode M.2.1 (pc + 9) = .ok (.athrow, 1)) (hstr : (strT.any fun x => x.1 == R_T && x.2.1 == is) = true)
    (hRm : 5 < M.2.2.2.2.1.frames ∧ (st.map fun v => v.category).sum + 82 ≤ M.2.2.2.2.1.locals) (hb : 1 ≤ mc ∧ 6 ≤ ms) (hH : M.2.2.2.2.2 = some []) (hq : Q (.inl 1) σ) : Ex l G M (pmV G M Q) pc lv st σ mc ms := by
  obtain ⟨⟨x1, x2, x3⟩, hx, hx2⟩ := List.any_eq_true.mp hstr
  simp only [Bool.and_eq_true, beq_iff_eq] at hx2
  obtain ⟨rfl, rfl⟩ := hx2
  exact e_throw (kx := 1) (names := ["java/lang/RuntimeException", "java/lang/Exception"]) (text := x3) d0 d3 d4 d6 d9 (by rw [hM]; exact th1_ise.1) th1_ise.2.1 (by rw [hM]; exact hx) th1_ise.2.2 (by rw [hM]; exact th2_ise) (by rw [hM]; exact th3_ise) (by rw [hM]; exact th4_ise) hRm hb hH hq
theorem th1_are : Cond.classLink R_T 154 (xn 2) ∈ gt ∧ Cond.initialized (xn 2) ∈ gt ∧ (Bundle.fit (xn 2) = true ∧ ∀ n ∈ (["java/lang/RuntimeException", "java/lang/Exception"] : List String), Bundle.fit n = true) := by decide +kernel
theorem th2_are : ∀ w ∈ (vx_atS R_T 158 (xn 2) ["java/lang/RuntimeException", "java/lang/Exception"]).filter goodWord, w ∈ gt := by decide +kernel
theorem th3_are : ∀ w ∈ (vx_atS R_T 158 (xn 2) ["java/lang/RuntimeException", "java/lang/Exception"]).filter (fun w => !goodWord w), w ∈ nstT := by decide +kernel
theorem th4_are : ∀ w ∈ Cond.classLink R_T 154 (xn 2) :: Cond.initialized (xn 2) :: vx_atS R_T 158 (xn 2) ["java/lang/RuntimeException", "java/lang/Exception"], vx_ot w = true := by decide +kernel
theorem e_are {l : Launch} {G : LG} {M : MI} {Q : LO → HS → Prop} {pc : Nat} {lv : List (Nat × Value)} {st : List Value} {σ : HS} {mc ms is : Nat} (hM : M.1.cls = R_T) (d0 : decode M.2.1 pc = .ok (.new 154, 3)) (d3 : decode M.2.1 (pc + 3) = .ok (.dup, 1)) (d4 : decode M.2.1 (pc + 4) = .ok (.ldc is, 2)) (d6 : decode M.2.1 (pc + 6) = .ok (.invokespecial 158, 3)) (d9 : decode M.2.1 (pc + 9) = .ok (.athrow, 1)) (hstr : (strT.any fun x => x.1 == R_T && x.2.1 == is) = true)
    (hRm : 5 < M.2.2.2.2.1.frames ∧ (st.map fun v => v.category).sum + 82 ≤ M.2.2.2.2.1.locals) (hb : 1 ≤ mc ∧ 6 ≤ ms) (hH : M.2.2.2.2.2 = some []) (hq : Q (.inl 2) σ) : Ex l G M (pmV G M Q) pc lv st σ mc ms := by
  obtain ⟨⟨x1, x2, x3⟩, hx, hx2⟩ := List.any_eq_true.mp hstr
  simp only [Bool.and_eq_true, beq_iff_eq] at hx2
  obtain ⟨rfl, rfl⟩ := hx2
  exact e_throw (kx := 2) (names := ["java/lang/RuntimeException", "java/lang/Exception"]) (text := x3) d0 d3 d4 d6 d9 (by rw [hM]; exact th1_are.1) th1_are.2.1 (by rw [hM]; exact hx) th1_are.2.2 (by rw [hM]; exact th2_are) (by rw [hM]; exact th3_are) (by rw [hM]; exact th4_are) hRm hb hH hq
/-- a call that throws, where nothing is caught -/
theorem e_callVt {l : Launch} {G : LG} {M M2 : MI} {Q : LO → HS → Prop} {pc : Nat} {lv : List (Nat × Value)} {st : List Value} {σ : HS} {mc ms kx : Nat} {σ' : HS} {q a idx n : Nat} {r : vw_C} {As : List Value} (mc' ms' : Nat) (hd : decode M.2.1 pc = .ok (.invokevirtual idx, 3)) (hcb : CB M M2 idx n) (hin : Cond.instanceMethod M2.1 ∈ gt ∧ Cond.selects M2.1.cls M2.1 M2.1 ∈ gt) (hc0 : lcl[q]? = some r) (hq7 : q < 7 ∧ r.1 = M2.1.cls) (hn1 : As.length = n) (hst8 : (st.map fun v => v.category).sum ≤ 8) (hb1 : mc' + M2.2.2.2.2.1.cells ≤ mc) (hb2 : ms' + M2.2.2.2.2.1.slots ≤ ms) (hct : Ct l G M2 (.ref (q + 16 * a) :: As) σ (qd (.inl kx) σ')) (hH : M.2.2.2.2.2 = some []) (hq : Q (.inl kx) σ') : Ex l G M (pmV G M Q) pc lv (As.reverse ++ .ref (q + 16 * a) :: st) σ mc ms :=
  e_callVX mc' ms' hd hcb hin hc0 hq7 hn1 hst8 hb1 hb2 hct hH (fun k τ h => by obtain ⟨h1, h2⟩ := h; cases h1; subst h2; exact hq) (fun v τ h => by cases h.1)
/-- the shape of the tree: n nodes, L links -/
def TS (σ : HS) (n L : Nat) : Prop := (hR σ 5 0 0 = some (10 + 16 * 0) ∧ hR σ 5 0 1 = some (11 + 16 * 0) ∧ hR σ 5 0 2 = some (4 + 16 * 0)) ∧ (hl σ 10 0 = 10 ∧ hl σ 11 0 = 16) ∧ (hI σ 5 0 3 = nI n ∧ hI σ 5 0 4 = nI L ∧ n ≤ 10 ∧ L ≤ 16) ∧
  (∀ i, i < n → hR σ 10 0 i = some (2 + 16 * i) ∧ NS σ i) ∧ (∀ p, p < 4 * n → hR σ 1 p 7 = none ∨ ∃ k, k < L ∧ hR σ 1 p 7 = some (3 + 16 * k)) ∧
  (∀ k, k < L → hR σ 11 0 k = some (3 + 16 * k) ∧ ∃ x y, x < 4 * n ∧ y < 4 * n ∧ hR σ 3 k 0 = some (1 + 16 * x) ∧ hR σ 3 k 1 = some (1 + 16 * y)) ∧
  (∀ p, p < 4 * n → hI σ 1 p 0 = nI (p / 4) ∧ hI σ 1 p 1 = nI (p % 4)) ∧ ∀ i, i < n → hI σ 2 i 0 = nI i
def wiV (v m : Int32) : Int32 := if v < 0 then 0 else if m < v then 0 else 1
theorem wiV_01 (v m : Int32) : wiV v m = 0 ∨ wiV v m = 1 := by
  unfold wiV
  split
  · exact Or.inl rfl
  · split
    · exact Or.inl rfl
    · exact Or.inr rfl
set_option maxHeartbeats 4000000 in
theorem ct_T_isWithin {l : Launch} (hl0 : l.stackTraces = false) {G : LG} {σ : HS} {v m : Int32}  : Ct l G m_T_isWithin [.int (v), .int (m)] (σ) (qd (.inr (some (.int (wiV v m)))) σ) := by
  refine Ct.of hl0 rfl rfl (Nat.le_of_ble_eq_true rfl) ?_
  show Ex l G m_T_isWithin (pmV G m_T_isWithin (qd (.inr (some (.int (wiV v m)))) σ)) 0 [(0, .int (v)), (1, .int (m))] [] (σ) 0 0
  refine e_iload_n d_T_isWithin_0 rfl rfl ?_
  refine e_iflt (tgt := 13) d_T_isWithin_1 (by decide) (fun h1 => ?_) (fun h1 => ?_)
  ·
    refine e_iconst (v := 0) d_T_isWithin_13 (by decide) ?_
    exact e_zret d_T_isWithin_14 rfl (by first | exact Or.inl rfl | exact Or.inr rfl) ⟨(by simp [wiV, h1]), rfl⟩
  ·
    refine e_iload_n d_T_isWithin_4 rfl rfl ?_
    refine e_iload_n d_T_isWithin_5 rfl rfl ?_
    refine e_icmpgt (tgt := 13) d_T_isWithin_6 (by decide) (fun h6 => ?_) (fun h6 => ?_)
    ·
      refine e_iconst (v := 0) d_T_isWithin_13 (by decide) ?_
      exact e_zret d_T_isWithin_14 rfl (by first | exact Or.inl rfl | exact Or.inr rfl) ⟨(by simp [wiV, h1, h6]), rfl⟩
    ·
      refine e_iconst (v := 1) d_T_isWithin_9 (by decide) ?_
      refine e_goto (tgt := 14) d_T_isWithin_10 (by decide) ?_
      exact e_zret d_T_isWithin_14 rfl (by first | exact Or.inl rfl | exact Or.inr rfl) ⟨(by simp [wiV, h1, h6]), rfl⟩
set_option maxHeartbeats 4000000 in
theorem ct_T_nodeAt_x {l : Launch} (hl0 : l.stackTraces = false) {G : LG} {σ : HS} {v : Int32} (hx : v < 0 ∨ hI σ 5 0 3 ≤ v) : Ct l G m_T_nodeAt [.ref (5 + 16 * 0), .int (v)] (σ) (qd (.inl 0) σ) := by
  refine Ct.of hl0 rfl rfl (Nat.le_of_ble_eq_true rfl) ?_
  show Ex l G m_T_nodeAt (pmV G m_T_nodeAt (qd (.inl 0) σ)) 0 [(0, .ref (5 + 16 * 0)), (1, .int (v))] [] (σ) 1 6
  refine e_iload_n d_T_nodeAt_0 rfl rfl ?_
  refine e_iflt (tgt := 12) d_T_nodeAt_1 (by decide) (fun h1 => ?_) (fun h1 => ?_)
  ·
    exact e_iae rfl d_T_nodeAt_12 d_T_nodeAt_15 d_T_nodeAt_16 d_T_nodeAt_18 d_T_nodeAt_21 (by decide +kernel) ⟨by decide, Nat.le_of_ble_eq_true rfl⟩ ⟨by decide, by decide⟩ rfl ⟨rfl, rfl⟩
  ·
    refine e_iload_n d_T_nodeAt_4 rfl rfl ?_
    refine e_aload_n d_T_nodeAt_5 rfl rfl ?_
    refine g_T_28 rfl d_T_nodeAt_6 ?_
    refine e_icmplt (tgt := 22) d_T_nodeAt_9 (by decide) (fun h9 => absurd h9 (Int32.not_lt.mpr (hx.resolve_left h1))) (fun h9 => ?_)
    exact e_iae rfl d_T_nodeAt_12 d_T_nodeAt_15 d_T_nodeAt_16 d_T_nodeAt_18 d_T_nodeAt_21 (by decide +kernel) ⟨by decide, Nat.le_of_ble_eq_true rfl⟩ ⟨by decide, by decide⟩ rfl ⟨rfl, rfl⟩
set_option maxHeartbeats 4000000 in
theorem ct_T_nodeAt {l : Launch} (hl0 : l.stackTraces = false) {G : LG} {σ : HS} {i : Nat} {n L : Nat} (hT : TS σ n L) (hi : i < n) : Ct l G m_T_nodeAt [.ref (5 + 16 * 0), .int (nI i)] (σ) (qd (.inr (some (.ref (2 + 16 * i)))) σ) := by
  refine Ct.of hl0 rfl rfl (Nat.le_of_ble_eq_true rfl) ?_
  show Ex l G m_T_nodeAt (pmV G m_T_nodeAt (qd (.inr (some (.ref (2 + 16 * i)))) σ)) 0 [(0, .ref (5 + 16 * 0)), (1, .int (nI i))] [] (σ) 1 6
  refine e_iload_n d_T_nodeAt_0 rfl rfl ?_
  refine e_iflt (tgt := 12) d_T_nodeAt_1 (by decide) (fun h1 => absurd h1 (nI_pos (by have := hT.2.2.1.2.2.1; omega))) (fun h1 => ?_)
  refine e_iload_n d_T_nodeAt_4 rfl rfl ?_
  refine e_aload_n d_T_nodeAt_5 rfl rfl ?_
  refine g_T_28 rfl d_T_nodeAt_6 ?_
  refine e_icmplt (tgt := 22) d_T_nodeAt_9 (by decide) (fun h9 => ?_) (fun h9 => absurd (by rw [hT.2.2.1.1]; exact nI_lt hi (by have := hT.2.2.1.2.2.1; omega)) h9)
  refine e_aload_n d_T_nodeAt_22 rfl rfl ?_
  refine g_T_11 (b := 10 + 16 * 0) rfl d_T_nodeAt_23 hT.1.1 ?_
  refine e_iload_n d_T_nodeAt_26 rfl rfl ?_
  refine e_aald (b := 2 + 16 * i) (C := _) d_T_nodeAt_27 ⟨by decide, by decide⟩ rfl (by rw [hT.2.1.1]; exact nI_in (by have := hT.2.2.1.2.2.1; omega) (by decide)) (by rw [nI_clamp (by have := hT.2.2.1.2.2.1; omega)]; exact (hT.2.2.2.1 i hi).1) ?_
  exact e_aret d_T_nodeAt_28 rfl (Or.inl ⟨_, rfl⟩) ⟨rfl, rfl⟩
set_option maxHeartbeats 4000000 in
theorem ct_T_portAt_x {l : Launch} (hl0 : l.stackTraces = false) {G : LG} {σ : HS} {v u : Int32} (hx : v < 0 ∨ hI σ 5 0 3 ≤ v) : Ct l G m_T_portAt [.ref (5 + 16 * 0), .int (v), .int (u)] (σ) (qd (.inl 0) σ) := by
  refine Ct.of hl0 rfl rfl (Nat.le_of_ble_eq_true rfl) ?_
  show Ex l G m_T_portAt (pmV G m_T_portAt (qd (.inl 0) σ)) 0 [(0, .ref (5 + 16 * 0)), (1, .int (v)), (2, .int (u))] [] (σ) 2 12
  refine e_aload_n d_T_portAt_0 rfl rfl ?_
  refine e_iload_n d_T_portAt_1 rfl rfl ?_
  exact e_callVt (q := 5) (a := 0) (As := [.int (v)]) (st := []) 1 6 d_T_portAt_2 cb_T_portAt_108 iv_T_nodeAt rfl ⟨by decide, rfl⟩ rfl (Nat.le_of_ble_eq_true rfl) (by decide) (by decide) (ct_T_nodeAt_x hl0 hx) rfl ⟨rfl, rfl⟩
set_option maxHeartbeats 4000000 in
theorem ct_T_portAt_y {l : Launch} (hl0 : l.stackTraces = false) {G : LG} {σ : HS} {i : Nat} {u : Int32} {n L : Nat} (hT : TS σ n L) (hi : i < n) (hx : u < 0 ∨ 4 ≤ u) : Ct l G m_T_portAt [.ref (5 + 16 * 0), .int (nI i), .int (u)] (σ) (qd (.inl 0) σ) := by
  refine Ct.of hl0 rfl rfl (Nat.le_of_ble_eq_true rfl) ?_
  show Ex l G m_T_portAt (pmV G m_T_portAt (qd (.inl 0) σ)) 0 [(0, .ref (5 + 16 * 0)), (1, .int (nI i)), (2, .int (u))] [] (σ) 2 12
  refine e_aload_n d_T_portAt_0 rfl rfl ?_
  refine e_iload_n d_T_portAt_1 rfl rfl ?_
  refine e_callVd (v := some (.ref (2 + 16 * i))) (σ' := σ) (q := 5) (a := 0) (As := [.int (nI i)]) (st := []) 1 6 d_T_portAt_2 cb_T_portAt_108 iv_T_nodeAt rfl ⟨by decide, rfl⟩ rfl (Nat.le_of_ble_eq_true rfl) (by decide) (by decide) (ct_T_nodeAt hl0 hT hi) ?_
  show Ex l G m_T_portAt (pmV G m_T_portAt (qd (.inl 0) σ)) 5 [(0, .ref (5 + 16 * 0)), (1, .int (nI i)), (2, .int (u))] [.ref (2 + 16 * i)] (σ) 1 6
  refine e_astore_n (lv' := [(3, .ref (2 + 16 * i)), (0, .ref (5 + 16 * 0)), (1, .int (nI i)), (2, .int (u))]) d_T_portAt_5 rfl (by decide) rfl ?_
  refine e_iload_n d_T_portAt_6 rfl rfl ?_
  refine e_iflt (tgt := 15) d_T_portAt_7 (by decide) (fun h7 => ?_) (fun h7 => ?_)
  ·
    exact e_iae rfl d_T_portAt_15 d_T_portAt_18 d_T_portAt_19 d_T_portAt_21 d_T_portAt_24 (by decide +kernel) ⟨by decide, Nat.le_of_ble_eq_true rfl⟩ ⟨by decide, by decide⟩ rfl ⟨rfl, rfl⟩
  ·
    refine e_iload_n d_T_portAt_10 rfl rfl ?_
    refine e_iconst (v := 4) d_T_portAt_11 (by decide) ?_
    refine e_icmplt (tgt := 25) d_T_portAt_12 (by decide) (fun h12 => absurd h12 (Int32.not_lt.mpr (hx.resolve_left h7))) (fun h12 => ?_)
    exact e_iae rfl d_T_portAt_15 d_T_portAt_18 d_T_portAt_19 d_T_portAt_21 d_T_portAt_24 (by decide +kernel) ⟨by decide, Nat.le_of_ble_eq_true rfl⟩ ⟨by decide, by decide⟩ rfl ⟨rfl, rfl⟩
theorem lt4 : ∀ j, j < 4 → nI j < (4 : Int32) := by decide +kernel
set_option maxHeartbeats 4000000 in
theorem ct_T_portAt {l : Launch} (hl0 : l.stackTraces = false) {G : LG} {σ : HS} {i j : Nat} {n L : Nat} (hT : TS σ n L) (hi : i < n) (hj : j < 4) : Ct l G m_T_portAt [.ref (5 + 16 * 0), .int (nI i), .int (nI j)] (σ) (qd (.inr (some (.ref (1 + 16 * (4 * i + j))))) σ) := by
  refine Ct.of hl0 rfl rfl (Nat.le_of_ble_eq_true rfl) ?_
  show Ex l G m_T_portAt (pmV G m_T_portAt (qd (.inr (some (.ref (1 + 16 * (4 * i + j))))) σ)) 0 [(0, .ref (5 + 16 * 0)), (1, .int (nI i)), (2, .int (nI j))] [] (σ) 2 12
  refine e_aload_n d_T_portAt_0 rfl rfl ?_
  refine e_iload_n d_T_portAt_1 rfl rfl ?_
  refine e_callVd (v := some (.ref (2 + 16 * i))) (σ' := σ) (q := 5) (a := 0) (As := [.int (nI i)]) (st := []) 1 6 d_T_portAt_2 cb_T_portAt_108 iv_T_nodeAt rfl ⟨by decide, rfl⟩ rfl (Nat.le_of_ble_eq_true rfl) (by decide) (by decide) (ct_T_nodeAt hl0 hT hi) ?_
  show Ex l G m_T_portAt (pmV G m_T_portAt (qd (.inr (some (.ref (1 + 16 * (4 * i + j))))) σ)) 5 [(0, .ref (5 + 16 * 0)), (1, .int (nI i)), (2, .int (nI j))] [.ref (2 + 16 * i)] (σ) 1 6
  refine e_astore_n (lv' := [(3, .ref (2 + 16 * i)), (0, .ref (5 + 16 * 0)), (1, .int (nI i)), (2, .int (nI j))]) d_T_portAt_5 rfl (by decide) rfl ?_
  refine e_iload_n d_T_portAt_6 rfl rfl ?_
  refine e_iflt (tgt := 15) d_T_portAt_7 (by decide) (fun h7 => absurd h7 (nI_pos (by omega))) (fun h7 => ?_)
  refine e_iload_n d_T_portAt_10 rfl rfl ?_
  refine e_iconst (v := 4) d_T_portAt_11 (by decide) ?_
  refine e_icmplt (tgt := 25) d_T_portAt_12 (by decide) (fun h12 => ?_) (fun h12 => absurd (lt4 j hj) h12)
  refine e_aload_n d_T_portAt_25 rfl rfl ?_
  refine g_T_177 (b := 12 + 16 * i) rfl d_T_portAt_26 (hT.2.2.2.1 i hi).2.2.1 ?_
  refine e_iload_n d_T_portAt_29 rfl rfl ?_
  refine e_aald (b := 1 + 16 * (4 * i + j)) (C := _) d_T_portAt_30 ⟨by decide, by decide⟩ rfl (by rw [(hT.2.2.2.1 i hi).2.2.2.1]; exact nI_in hj (by decide)) (by rw [nI_clamp (by omega)]; exact ((hT.2.2.2.1 i hi).2.2.2.2 j hj).1) ?_
  exact e_aret d_T_portAt_31 rfl (Or.inl ⟨_, rfl⟩) ⟨rfl, rfl⟩
def hiR (σ : HS) (id : Int32) : Nat → Nat → Int32
  | 0, _ => 0
  | m + 1, i => if hI σ 0 (9 * i) 3 = id then 1 else hiR σ id m (i + 1)
set_option maxHeartbeats 4000000 in
theorem lp_T_hasIdentity {l : Launch} (hl0 : l.stackTraces = false) {G : LG} {σ : HS} {id : Int32} {n L : Nat} (hT : TS σ n L) : ∀ m i, i + m = n → Ex l G m_T_hasIdentity (pmV G m_T_hasIdentity (qd (.inr (some (.int (hiR σ id m i)))) σ)) 2 [(2, .int (nI i)), (0, .ref (5 + 16 * 0)), (1, .int (id))] [] (σ) 0 0 := by
  have hn10 := hT.2.2.1.2.2.1
  intro m
  induction m with
  | zero =>
    intro i hi
    obtain rfl : i = n := by omega
    refine e_iload_n d_T_hasIdentity_2 rfl rfl ?_
    refine e_aload_n d_T_hasIdentity_3 rfl rfl ?_
    refine g_T_28 rfl d_T_hasIdentity_4 ?_
    refine e_icmpge (tgt := 34) d_T_hasIdentity_7 (by decide) (fun h7 => ?_) (fun h7 => absurd (by rw [hT.2.2.1.1]; exact nI_le (Nat.le_refl _) (by omega)) h7)
    refine e_iconst (v := 0) d_T_hasIdentity_34 (by decide) ?_
    exact e_zret d_T_hasIdentity_35 rfl (by first | exact Or.inl rfl | exact Or.inr rfl) ⟨rfl, rfl⟩
  | succ m ih =>
    intro i hi
    have hin : i < n := by omega
    refine e_iload_n d_T_hasIdentity_2 rfl rfl ?_
    refine e_aload_n d_T_hasIdentity_3 rfl rfl ?_
    refine g_T_28 rfl d_T_hasIdentity_4 ?_
    refine e_icmpge (tgt := 34) d_T_hasIdentity_7 (by decide) (fun h7 => absurd h7 (by rw [hT.2.2.1.1]; exact nI_ge hin (by omega))) (fun h7 => ?_)
    refine e_aload_n d_T_hasIdentity_10 rfl rfl ?_
    refine g_T_11 (b := 10 + 16 * 0) rfl d_T_hasIdentity_11 hT.1.1 ?_
    refine e_iload_n d_T_hasIdentity_14 rfl rfl ?_
    refine e_aald (b := 2 + 16 * i) (C := _) d_T_hasIdentity_15 ⟨by decide, by decide⟩ rfl (by rw [hT.2.1.1]; exact nI_in (by omega) (by decide)) (by rw [nI_clamp (by omega)]; exact (hT.2.2.2.1 i hin).1) ?_
    refine g_T_64 (b := 0 + 16 * (9 * i)) rfl d_T_hasIdentity_16 (hT.2.2.2.1 i hin).2.1 ?_
    refine g_T_129 rfl d_T_hasIdentity_19 ?_
    refine e_iload_n d_T_hasIdentity_22 rfl rfl ?_
    refine e_icmpne (tgt := 28) d_T_hasIdentity_23 (by decide) (fun h23 => ?_) (fun h23 => ?_)
    ·
      refine e_iinc (v := nI (i + 1)) (lv' := [(2, .int (nI (i + 1))), (0, .ref (5 + 16 * 0)), (1, .int (id))]) d_T_hasIdentity_28 rfl (ofI1 i) (by decide) rfl ?_
      refine e_goto (tgt := 2) d_T_hasIdentity_31 (by decide) ?_
      exact e_lv (lv' := [(2, .int (nI (i + 1))), (0, .ref (5 + 16 * 0)), (1, .int (id))]) ⟨rfl, rfl, rfl, trivial⟩ (by have h9 := ih (i + 1) (by omega); rw [show hiR σ id (m + 1) i = hiR σ id m (i + 1) by simp [hiR, h23]]; exact h9)
    ·
      refine e_iconst (v := 1) d_T_hasIdentity_26 (by decide) ?_
      exact e_zret d_T_hasIdentity_27 rfl (by first | exact Or.inl rfl | exact Or.inr rfl) ⟨(by simp [hiR, h23]), rfl⟩
set_option maxHeartbeats 4000000 in
theorem ct_T_hasIdentity {l : Launch} (hl0 : l.stackTraces = false) {G : LG} {σ : HS} {id : Int32} {n L : Nat} (hT : TS σ n L)  : Ct l G m_T_hasIdentity [.ref (5 + 16 * 0), .int (id)] (σ) (qd (.inr (some (.int (hiR σ id n 0)))) σ) := by
  refine Ct.of hl0 rfl rfl (Nat.le_of_ble_eq_true rfl) ?_
  show Ex l G m_T_hasIdentity (pmV G m_T_hasIdentity (qd (.inr (some (.int (hiR σ id n 0)))) σ)) 0 [(0, .ref (5 + 16 * 0)), (1, .int (id))] [] (σ) 0 0
  refine e_iconst (v := 0) d_T_hasIdentity_0 (by decide) ?_
  refine e_istore_n (lv' := [(2, .int (0)), (0, .ref (5 + 16 * 0)), (1, .int (id))]) d_T_hasIdentity_1 rfl (by decide) rfl ?_
  exact e_lv (lv' := [(2, .int (nI 0)), (0, .ref (5 + 16 * 0)), (1, .int (id))]) ⟨rfl, rfl, rfl, trivial⟩ (lp_T_hasIdentity hl0 hT n 0 (by omega))
