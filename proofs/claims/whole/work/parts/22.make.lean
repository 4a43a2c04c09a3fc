/-- a port made: number p, of the node o, its number u there, its datasets d and d + 1 -/
def piS (σ : HS) (p : Nat) (o u : Int32) (d : Nat) : HS := sR (sI (sI (sI (sR (nw (sR (nw (sI (sI (σ) 1 (p) 0 (o)) 1 (p) 1 (u)) 0 0) 1 (p) 2 (some (0 + 16 * d))) 0 0) 1 (p) 3 (some (0 + 16 * (d + 1)))) 1 (p) 4 (0)) 1 (p) 5 (0)) 1 (p) 6 (0)) 1 (p) 7 none
set_option maxHeartbeats 4000000 in
theorem ct_P_init {l : Launch} (hl0 : l.stackTraces = false) {G : LG} {σ : HS} {p d : Nat} {o u : Int32} (hd : hn σ 0 = d) : Ct l G m_P_init [.ref (1 + 16 * p), .int (o), .int (u)] (σ) (qd (.inr none) (piS σ p o u d)) := by
  refine Ct.of hl0 rfl rfl (Nat.le_of_ble_eq_true rfl) ?_
  show Ex l G m_P_init (pmV G m_P_init (qd (.inr none) (piS σ p o u d))) 0 [(0, .ref (1 + 16 * p)), (1, .int (o)), (2, .int (u))] [] (σ) 2 16
  refine e_aload_n d_P_init_0 rfl rfl ?_
  refine e_obji d_P_init_1 ol_P_3 ⟨by decide, by decide⟩ ?_
  refine e_aload_n d_P_init_4 rfl rfl ?_
  refine e_iload_n d_P_init_5 rfl rfl ?_
  refine p_P_9 rfl rfl d_P_init_6 ?_
  refine e_aload_n d_P_init_9 rfl rfl ?_
  refine e_iload_n d_P_init_10 rfl rfl ?_
  refine p_P_15 rfl rfl d_P_init_11 ?_
  refine e_aload_n d_P_init_14 rfl rfl ?_
  refine e_bg (mc' := 1 + 1) (ms' := 8 + 8) (by decide) (by decide) ?_
  refine e_new (q := 0) (mc := 1) (ms := 8) d_P_init_15 rfl (by decide) cl_P_18 ki_D.1 ki_D.2 ?_
  rw [show hn (sI (sI (σ) 1 (p) 0 (o)) 1 (p) 1 (u)) 0 = d from (by simp [n_sI, n_sJ, n_sR, n_nw, hd])]
  refine e_dup d_P_init_18 rfl ?_
  refine e_callINd (v := none) (σ' := nw (sI (sI (σ) 1 (p) 0 (o)) 1 (p) 1 (u)) 0 0) (x := 0 + 16 * d) (As := []) (st := [.ref (0 + 16 * d), .ref (1 + 16 * p)]) 1 8 d_P_init_19 nl_P_20 ⟨k_D_init.1, k_D_init.2, by decide⟩ ii_D_init rfl (Nat.le_of_ble_eq_true rfl) (by decide) (by decide) (ct_D_init hl0) ?_
  show Ex l G m_P_init (pmV G m_P_init (qd (.inr none) (piS σ p o u d))) 22 [(0, .ref (1 + 16 * p)), (1, .int (o)), (2, .int (u))] [.ref (0 + 16 * d), .ref (1 + 16 * p)] (nw (sI (sI (σ) 1 (p) 0 (o)) 1 (p) 1 (u)) 0 0) 1 8
  refine p_P_21 (by omega) rfl rfl d_P_init_22 ?_
  refine e_aload_n d_P_init_25 rfl rfl ?_
  refine e_bg (mc' := 0 + 1) (ms' := 0 + 8) (by decide) (by decide) ?_
  refine e_new (q := 0) (mc := 0) (ms := 0) d_P_init_26 rfl (by decide) cl_P_18 ki_D.1 ki_D.2 ?_
  rw [show hn (sR (nw (sI (sI (σ) 1 (p) 0 (o)) 1 (p) 1 (u)) 0 0) 1 (p) 2 (some (0 + 16 * d))) 0 = d + 1 from (by simp [n_sI, n_sJ, n_sR, n_nw, hd])]
  refine e_dup d_P_init_29 rfl ?_
  refine e_callINd (v := none) (σ' := nw (sR (nw (sI (sI (σ) 1 (p) 0 (o)) 1 (p) 1 (u)) 0 0) 1 (p) 2 (some (0 + 16 * d))) 0 0) (x := 0 + 16 * (d + 1)) (As := []) (st := [.ref (0 + 16 * (d + 1)), .ref (1 + 16 * p)]) 0 0 d_P_init_30 nl_P_20 ⟨k_D_init.1, k_D_init.2, by decide⟩ ii_D_init rfl (Nat.le_of_ble_eq_true rfl) (by decide) (by decide) (ct_D_init hl0) ?_
  show Ex l G m_P_init (pmV G m_P_init (qd (.inr none) (piS σ p o u d))) 33 [(0, .ref (1 + 16 * p)), (1, .int (o)), (2, .int (u))] [.ref (0 + 16 * (d + 1)), .ref (1 + 16 * p)] (nw (sR (nw (sI (sI (σ) 1 (p) 0 (o)) 1 (p) 1 (u)) 0 0) 1 (p) 2 (some (0 + 16 * d))) 0 0) 0 0
  refine p_P_25 (by omega) rfl rfl d_P_init_33 ?_
  refine e_aload_n d_P_init_36 rfl rfl ?_
  refine e_iconst (v := 0) d_P_init_37 (by decide) ?_
  refine p_P_28 (by first | exact Or.inl rfl | exact Or.inr rfl) rfl d_P_init_38 ?_
  refine e_aload_n d_P_init_41 rfl rfl ?_
  refine e_iconst (v := 0) d_P_init_42 (by decide) ?_
  refine p_P_32 rfl d_P_init_43 ?_
  refine e_aload_n d_P_init_46 rfl rfl ?_
  refine e_iconst (v := 0) d_P_init_47 (by decide) ?_
  refine p_P_35 rfl d_P_init_48 ?_
  refine e_aload_n d_P_init_51 rfl rfl ?_
  refine e_null d_P_init_52 ?_
  refine p_P_38N rfl d_P_init_53 ?_
  exact e_vret d_P_init_56 rfl ⟨rfl, rfl⟩
theorem piS_n {σ : HS} {p d : Nat} {o u : Int32} {q : Nat} : hn (piS σ p o u d) q = if q = 0 then hn σ 0 + 2 else hn σ q := by
  unfold piS
  simp only [n_sI, n_sR, n_nw]
  split <;> simp
theorem piS_l {σ : HS} {p d : Nat} {o u : Int32} {q a : Nat} (hq : q ≠ 0) : hl (piS σ p o u d) q a = hl σ q a := by
  unfold piS
  simp [l_sI, l_sR, l_nw, hq]
theorem piS_J {σ : HS} {p d : Nat} {o u : Int32} {q a k : Nat} (hq : q ≠ 0) : hJ (piS σ p o u d) q a k = hJ σ q a k := by
  unfold piS
  simp [J_sI, J_sR, J_nw, hq]
theorem piS_R {σ : HS} {p d : Nat} {o u : Int32} {q a k : Nat} (hq : q ≠ 0) (h : ¬ (q = 1 ∧ a = p)) : hR (piS σ p o u d) q a k = hR σ q a k := by
  unfold piS
  simp [R_sI, R_sR, R_nw, hq]
  have h' : ∀ x, ¬ (q = 1 ∧ a = p ∧ k = x) := fun x z => h ⟨z.1, z.2.1⟩
  simp [h']
theorem piS_I {σ : HS} {p d : Nat} {o u : Int32} {q a k : Nat} (hq : q ≠ 0) (h : ¬ (q = 1 ∧ a = p)) : hI (piS σ p o u d) q a k = hI σ q a k := by
  unfold piS
  simp [I_sI, I_sR, I_nw, hq]
  have h' : ∀ x, ¬ (q = 1 ∧ a = p ∧ k = x) := fun x z => h ⟨z.1, z.2.1⟩
  simp [h']
def niS (σ : HS) (i : Nat) (v : Int32) (off : Int64) : Nat → HS
  | 0 => sR (nw (sR (sR (nw (sJ (sJ (sI (σ) 2 (i) 0 (v)) 2 (i) 4 (off)) 2 (i) 5 (-1)) 0 0) 2 (i) 1 (some (0 + 16 * (9 * i)))) 2 (i) 3 (some (0 + 16 * (9 * i)))) 12 4) 2 (i) 2 (some (12 + 16 * i))
  | j + 1 => sR (piS (nw (niS σ i v off j) 1 0) (4 * i + j) v (nI j) (9 * i + 1 + 2 * j)) 12 i j (some (1 + 16 * (4 * i + j)))
theorem niS_n {σ : HS} {i : Nat} {v : Int32} {off : Int64} {q : Nat} : ∀ j, hn (niS σ i v off j) q = if q = 0 then hn σ 0 + 1 + 2 * j else if q = 1 then hn σ 1 + j else if q = 12 then hn σ 12 + 1 else hn σ q
  | 0 => by
    unfold niS
    simp only [n_sI, n_sJ, n_sR, n_nw]
    by_cases h0 : q = 0
    · subst h0; simp
    · by_cases h12 : q = 12
      · subst h12; simp
      · by_cases h1 : q = 1
        · subst h1; simp
        · simp [h0, h1, h12]
  | j + 1 => by
    show hn (sR (piS (nw (niS σ i v off j) 1 0) _ _ _ _) 12 i j _) q = _
    rw [n_sR, piS_n, n_nw, n_nw, niS_n j, niS_n j, niS_n j]
    by_cases h0 : q = 0
    · subst h0; simp; omega
    · by_cases h1 : q = 1
      · subst h1; simp; omega
      · simp [h0, h1]
theorem niS_l {σ : HS} {i : Nat} {v : Int32} {off : Int64} (ha : hn σ 12 = i) : ∀ j, hl (niS σ i v off j) 12 i = 4
  | 0 => by
    unfold niS
    simp [l_sI, l_sJ, l_sR, l_nw, n_sI, n_sJ, n_sR, n_nw, ha]
  | j + 1 => by
    show hl (sR (piS (nw (niS σ i v off j) 1 0) _ _ _ _) 12 i j _) 12 i = 4
    rw [l_sR, piS_l (by decide), l_nw, if_neg (by omega), niS_l ha j]
theorem niS_ports {σ : HS} {i : Nat} {v : Int32} {off : Int64} : ∀ j, hR (niS σ i v off j) 2 i 2 = some (12 + 16 * i)
  | 0 => by
    unfold niS
    simp [R_sI, R_sJ, R_sR, R_nw]
  | j + 1 => by
    show hR (sR (piS (nw (niS σ i v off j) 1 0) _ _ _ _) 12 i j _) 2 i 2 = _
    rw [R_sR, if_neg (by omega), piS_R (by decide) (by omega), R_nw, if_neg (by omega), niS_ports j]
set_option maxHeartbeats 4000000 in
theorem lp_N_init {l : Launch} (hl0 : l.stackTraces = false) {G : LG} {σ : HS} {i : Nat} {v : Int32} {off : Int64} (hd : hn σ 0 = 9 * i) (hp : hn σ 1 = 4 * i) (ha : hn σ 12 = i) : ∀ m j, j + m = 4 → Ex l G m_N_init (pmV G m_N_init (qd (.inr none) (niS σ i v off 4))) 51 [(4, .int (nI j)), (0, .ref (2 + 16 * i)), (1, .int (v)), (2, .long (off))] [] (niS σ i v off j) (3 * m) (24 * m) := by
  intro m
  induction m with
  | zero =>
    intro j hj
    obtain rfl : j = 4 := by omega
    refine e_iload d_N_init_51 rfl ?_
    refine e_iconst (v := 4) d_N_init_53 (by decide) ?_
    refine e_icmpge (tgt := 80) d_N_init_54 (by decide) (fun h54 => ?_) (fun h54 => absurd lp4t h54)
    exact e_vret d_N_init_80 rfl ⟨rfl, rfl⟩
  | succ m ih =>
    intro j hj
    have hj4 : j < 4 := by omega
    refine e_iload d_N_init_51 rfl ?_
    refine e_iconst (v := 4) d_N_init_53 (by decide) ?_
    refine e_icmpge (tgt := 80) d_N_init_54 (by decide) (fun h54 => absurd h54 (lp4f hj4)) (fun h54 => ?_)
    refine e_aload_n d_N_init_57 rfl rfl ?_
    refine g_N_36 (b := 12 + 16 * i) rfl d_N_init_58 (niS_ports j) ?_
    refine e_iload d_N_init_61 rfl ?_
    refine e_bg (mc' := (3 * m + 2) + 1) (ms' := (24 * m + 16) + 8) (by omega) (by omega) ?_
    refine e_new (q := 1) (mc := 3 * m + 2) (ms := 24 * m + 16) d_N_init_63 rfl (by decide) cl_N_34 ki_P.1 ki_P.2 ?_
    rw [show hn (niS σ i v off j) 1 = 4 * i + j from by rw [niS_n]; simp [hp]]
    refine e_dup d_N_init_66 rfl ?_
    refine e_iload_n d_N_init_67 rfl rfl ?_
    refine e_iload d_N_init_68 rfl ?_
    refine e_callId (v := none) (σ' := piS (nw (niS σ i v off j) 1 0) (4 * i + j) v (nI j) (9 * i + 1 + 2 * j)) (x := 1 + 16 * (4 * i + j)) (As := [.int v, .int (nI j)]) (st := [.ref (1 + 16 * (4 * i + j)), .int (nI j), .ref (12 + 16 * i)]) (3 * m) (24 * m) d_N_init_70 cb_N_init_40 ii_P_init rfl (Nat.le_of_ble_eq_true rfl) (by show 3 * m + 2 ≤ 3 * m + 2; omega) (by show 24 * m + 16 ≤ 24 * m + 16; omega) (ct_P_init hl0 (by rw [n_nw, if_neg (by decide), niS_n]; simp [hd])) ?_
    refine e_aast (q := 12) (a := i) (ci := 1) (b := 4 * i + j) d_N_init_73 ⟨by decide, by decide⟩ (by decide) rfl rfl (by rw [piS_l (by decide), l_nw, if_neg (by omega), niS_l ha]; exact nI_in hj4 (by decide)) ?_
    rw [nI_clamp (by omega)]
    refine e_iinc (v := nI (j + 1)) (lv' := [(4, .int (nI (j + 1))), (0, .ref (2 + 16 * i)), (1, .int (v)), (2, .long (off))]) d_N_init_74 rfl (ofI1 j) (by decide) rfl ?_
    refine e_goto (tgt := 51) d_N_init_77 (by decide) ?_
    exact ih (j + 1) (by omega)
set_option maxHeartbeats 4000000 in
theorem ct_N_init {l : Launch} (hl0 : l.stackTraces = false) {G : LG} {σ : HS} {i : Nat} {v : Int32} {off : Int64} (hd : hn σ 0 = 9 * i) (hp : hn σ 1 = 4 * i) (ha : hn σ 12 = i)  : Ct l G m_N_init [.ref (2 + 16 * i), .int (v), .long (off)] (σ) (qd (.inr none) (niS σ i v off 4)) := by
  refine Ct.of hl0 rfl rfl (Nat.le_of_ble_eq_true rfl) ?_
  show Ex l G m_N_init (pmV G m_N_init (qd (.inr none) (niS σ i v off 4))) 0 [(0, .ref (2 + 16 * i)), (1, .int (v)), (2, .long (off))] [] (σ) 14 108
  refine e_aload_n d_N_init_0 rfl rfl ?_
  refine e_obji d_N_init_1 ol_N_3 ⟨by decide, by decide⟩ ?_
  refine e_aload_n d_N_init_4 rfl rfl ?_
  refine e_iload_n d_N_init_5 rfl rfl ?_
  refine p_N_9 rfl rfl d_N_init_6 ?_
  refine e_aload_n d_N_init_9 rfl rfl ?_
  refine e_lload_n d_N_init_10 rfl rfl ?_
  refine p_N_15 rfl d_N_init_11 ?_
  refine e_aload_n d_N_init_14 rfl rfl ?_
  refine e_ldc2 (v := -1) d_N_init_15 kc_N_19 ?_
  refine p_N_21 rfl d_N_init_18 ?_
  refine e_aload_n d_N_init_21 rfl rfl ?_
  refine e_bg (mc' := 13 + 1) (ms' := 100 + 8) (by decide) (by decide) ?_
  refine e_new (q := 0) (mc := 13) (ms := 100) d_N_init_22 rfl (by decide) cl_N_24 ki_D.1 ki_D.2 ?_
  rw [show hn (sJ (sJ (sI (σ) 2 (i) 0 (v)) 2 (i) 4 (off)) 2 (i) 5 (-1)) 0 = 9 * i from (by simp [n_sI, n_sJ, n_sR, n_nw, hd])]
  refine e_dup d_N_init_25 rfl ?_
  refine e_callINd (v := none) (σ' := nw (sJ (sJ (sI (σ) 2 (i) 0 (v)) 2 (i) 4 (off)) 2 (i) 5 (-1)) 0 0) (x := 0 + 16 * (9 * i)) (As := []) (st := [.ref (0 + 16 * (9 * i)), .ref (2 + 16 * i)]) 13 100 d_N_init_26 nl_N_26 ⟨k_D_init.1, k_D_init.2, by decide⟩ ii_D_init rfl (Nat.le_of_ble_eq_true rfl) (by decide) (by decide) (ct_D_init hl0) ?_
  show Ex l G m_N_init (pmV G m_N_init (qd (.inr none) (niS σ i v off 4))) 29 [(0, .ref (2 + 16 * i)), (1, .int (v)), (2, .long (off))] [.ref (0 + 16 * (9 * i)), .ref (2 + 16 * i)] (nw (sJ (sJ (sI (σ) 2 (i) 0 (v)) 2 (i) 4 (off)) 2 (i) 5 (-1)) 0 0) 13 100
  refine p_N_27 (by omega) rfl rfl d_N_init_29 ?_
  refine e_aload_n d_N_init_32 rfl rfl ?_
  refine e_aload_n d_N_init_33 rfl rfl ?_
  refine g_N_27 (b := 0 + 16 * (9 * i)) rfl d_N_init_34 (by simp [R_sJ, R_sI, R_sR, R_nw]) ?_
  refine p_N_31 (by omega) rfl d_N_init_37 ?_
  refine e_aload_n d_N_init_40 rfl rfl ?_
  refine e_iconst (v := 4) d_N_init_41 (by decide) ?_
  refine e_bg (mc' := 12 + 1) (ms' := 96 + 4) (by decide) (by decide) ?_
  refine e_anew (q := 12) (N := 4) (mc := 12) (ms := 96) d_N_init_42 ⟨by decide, by decide⟩ rfl cl_N_34 (by decide) (by decide) (by decide) (by decide) ?_
  rw [show hn (sR (sR (nw (sJ (sJ (sI (σ) 2 (i) 0 (v)) 2 (i) 4 (off)) 2 (i) 5 (-1)) 0 0) 2 (i) 1 (some (0 + 16 * (9 * i)))) 2 (i) 3 (some (0 + 16 * (9 * i)))) 12 = i from (by simp [n_sI, n_sJ, n_sR, n_nw, ha])]
  refine p_N_36 (by omega) rfl rfl d_N_init_45 ?_
  refine e_iconst (v := 0) d_N_init_48 (by decide) ?_
  refine e_istore (lv' := [(4, .int (0)), (0, .ref (2 + 16 * i)), (1, .int (v)), (2, .long (off))]) d_N_init_49 (by decide) rfl ?_
  exact e_lv (lv' := [(4, .int (nI 0)), (0, .ref (2 + 16 * i)), (1, .int (v)), (2, .long (off))]) ⟨rfl, rfl, rfl, rfl, trivial⟩ (lp_N_init hl0 hd hp ha 4 0 rfl)
def tiS (σ : HS) : HS := sI (sI (sI (sR (nw (sR (nw (sR (nw (σ) 10 10) 5 (0) 0 (some (10 + 16 * 0))) 11 16) 5 (0) 1 (some (11 + 16 * 0))) 4 0) 5 (0) 2 (some (4 + 16 * 0))) 5 (0) 3 (0)) 5 (0) 4 (0)) 5 (0) 5 (0)
set_option maxHeartbeats 4000000 in
theorem ct_T_init {l : Launch} (hl0 : l.stackTraces = false) {G : LG} {σ : HS}  (h10 : hn σ 10 = 0) (h11 : hn σ 11 = 0) (h4 : hn σ 4 = 0) : Ct l G m_T_init [.ref (5 + 16 * 0)] (σ) (qd (.inr none) (tiS σ)) := by
  refine Ct.of hl0 rfl rfl (Nat.le_of_ble_eq_true rfl) ?_
  show Ex l G m_T_init (pmV G m_T_init (qd (.inr none) (tiS σ))) 0 [(0, .ref (5 + 16 * 0))] [] (σ) 3 38
  refine e_aload_n d_T_init_0 rfl rfl ?_
  refine e_obji d_T_init_1 ol_T_1 ⟨by decide, by decide⟩ ?_
  refine e_aload_n d_T_init_4 rfl rfl ?_
  refine e_bipush (v := 10) d_T_init_5 (by decide) ?_
  refine e_bg (mc' := 2 + 1) (ms' := 28 + 10) (by decide) (by decide) ?_
  refine e_anew (q := 10) (N := 10) (mc := 2) (ms := 28) d_T_init_7 ⟨by decide, by decide⟩ rfl cl_T_9 (by decide) (by decide) (by decide) (by decide) ?_
  rw [show hn (σ) 10 = 0 from (by simp [n_sI, n_sJ, n_sR, n_nw, h10])]
  refine p_T_11 (by omega) rfl rfl d_T_init_10 ?_
  refine e_aload_n d_T_init_13 rfl rfl ?_
  refine e_bipush (v := 16) d_T_init_14 (by decide) ?_
  refine e_bg (mc' := 1 + 1) (ms' := 12 + 16) (by decide) (by decide) ?_
  refine e_anew (q := 11) (N := 16) (mc := 1) (ms := 12) d_T_init_16 ⟨by decide, by decide⟩ rfl cl_T_15 (by decide) (by decide) (by decide) (by decide) ?_
  rw [show hn (sR (nw (σ) 10 10) 5 (0) 0 (some (10 + 16 * 0))) 11 = 0 from (by simp [n_sI, n_sJ, n_sR, n_nw, h11])]
  refine p_T_17 (by omega) rfl rfl d_T_init_19 ?_
  refine e_aload_n d_T_init_22 rfl rfl ?_
  refine e_bg (mc' := 0 + 1) (ms' := 0 + 12) (by decide) (by decide) ?_
  refine e_new (q := 4) (mc := 0) (ms := 0) d_T_init_23 rfl (by decide) cl_T_21 ki_R.1 ki_R.2 ?_
  rw [show hn (sR (nw (sR (nw (σ) 10 10) 5 (0) 0 (some (10 + 16 * 0))) 11 16) 5 (0) 1 (some (11 + 16 * 0))) 4 = 0 from (by simp [n_sI, n_sJ, n_sR, n_nw, h4])]
  refine e_dup d_T_init_26 rfl ?_
  refine e_callINd (v := none) (σ' := nw (sR (nw (sR (nw (σ) 10 10) 5 (0) 0 (some (10 + 16 * 0))) 11 16) 5 (0) 1 (some (11 + 16 * 0))) 4 0) (x := 4 + 16 * 0) (As := []) (st := [.ref (4 + 16 * 0), .ref (5 + 16 * 0)]) 0 0 d_T_init_27 nl_T_23 ⟨k_R_init.1, k_R_init.2, by decide⟩ ii_R_init rfl (Nat.le_of_ble_eq_true rfl) (by decide) (by decide) (ct_R_init hl0) ?_
  show Ex l G m_T_init (pmV G m_T_init (qd (.inr none) (tiS σ))) 30 [(0, .ref (5 + 16 * 0))] [.ref (4 + 16 * 0), .ref (5 + 16 * 0)] (nw (sR (nw (sR (nw (σ) 10 10) 5 (0) 0 (some (10 + 16 * 0))) 11 16) 5 (0) 1 (some (11 + 16 * 0))) 4 0) 0 0
  refine p_T_24 (by omega) rfl rfl d_T_init_30 ?_
  refine e_aload_n d_T_init_33 rfl rfl ?_
  refine e_iconst (v := 0) d_T_init_34 (by decide) ?_
  refine p_T_28 rfl d_T_init_35 ?_
  refine e_aload_n d_T_init_38 rfl rfl ?_
  refine e_iconst (v := 0) d_T_init_39 (by decide) ?_
  refine p_T_32 rfl d_T_init_40 ?_
  refine e_aload_n d_T_init_43 rfl rfl ?_
  refine e_iconst (v := 0) d_T_init_44 (by decide) ?_
  refine p_T_35 (by first | exact Or.inl rfl | exact Or.inr rfl) rfl d_T_init_45 ?_
  exact e_vret d_T_init_48 rfl ⟨rfl, rfl⟩
