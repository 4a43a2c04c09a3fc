set_option maxHeartbeats 4000000 in
theorem ct_K_init {l : Launch} (hl0 : l.stackTraces = false) {G : LG} {σ : HS} {k x y : Nat} {t b : Int32}  : Ct l G m_K_init [.ref (3 + 16 * k), .ref (1 + 16 * x), .ref (1 + 16 * y), .int (t), .int (b)] σ (qd (.inr (none)) (sI (sI (sI (sR (sR (σ) 3 (k) 0 (some (1 + 16 * x))) 3 (k) 1 (some (1 + 16 * y))) 3 (k) 2 (t)) 3 (k) 3 (b)) 3 (k) 4 (1))) := by
  refine Ct.of hl0 rfl rfl (Nat.le_of_ble_eq_true rfl) ?_
  show Ex l G m_K_init (pmV G m_K_init (qd (.inr (none)) (sI (sI (sI (sR (sR (σ) 3 (k) 0 (some (1 + 16 * x))) 3 (k) 1 (some (1 + 16 * y))) 3 (k) 2 (t)) 3 (k) 3 (b)) 3 (k) 4 (1)))) 0 [(0, .ref (3 + 16 * k)), (1, .ref (1 + 16 * x)), (2, .ref (1 + 16 * y)), (3, .int (t)), (4, .int (b))] [] σ 0 0
  refine e_aload_n d_K_init_0 rfl rfl ?_
  refine e_obji d_K_init_1 ol_K_1 ⟨by decide, by decide⟩ ?_
  refine e_aload_n d_K_init_4 rfl rfl ?_
  refine e_aload_n d_K_init_5 rfl rfl ?_
  refine p_K_7 (by omega) rfl rfl d_K_init_6 ?_
  refine e_aload_n d_K_init_9 rfl rfl ?_
  refine e_aload_n d_K_init_10 rfl rfl ?_
  refine p_K_13 (by omega) rfl rfl d_K_init_11 ?_
  refine e_aload_n d_K_init_14 rfl rfl ?_
  refine e_iload_n d_K_init_15 rfl rfl ?_
  refine p_K_16 rfl rfl d_K_init_16 ?_
  refine e_aload_n d_K_init_19 rfl rfl ?_
  refine e_iload d_K_init_20 rfl ?_
  refine p_K_20 rfl rfl d_K_init_22 ?_
  refine e_aload_n d_K_init_25 rfl rfl ?_
  refine e_iconst (v := 1) d_K_init_26 (by decide) ?_
  refine p_K_23 (by first | exact Or.inl rfl | exact Or.inr rfl) rfl d_K_init_27 ?_
  exact e_vret d_K_init_30 rfl ⟨rfl, rfl⟩
set_option maxHeartbeats 4000000 in
theorem ct_K_farFrom {l : Launch} (hl0 : l.stackTraces = false) {G : LG} {σ : HS} {k x y p : Nat} (hf : hR σ 3 k 0 = some (1 + 16 * x)) (hs : hR σ 3 k 1 = some (1 + 16 * y)) : Ct l G m_K_farFrom [.ref (3 + 16 * k), .ref (1 + 16 * p)] σ (qd (.inr (some (.ref (if p = x then 1 + 16 * y else 1 + 16 * x)))) σ) := by
  refine Ct.of hl0 rfl rfl (Nat.le_of_ble_eq_true rfl) ?_
  show Ex l G m_K_farFrom (pmV G m_K_farFrom (qd (.inr (some (.ref (if p = x then 1 + 16 * y else 1 + 16 * x)))) σ)) 0 [(0, .ref (3 + 16 * k)), (1, .ref (1 + 16 * p))] [] σ 0 0
  refine e_aload_n d_K_farFrom_0 rfl rfl ?_
  refine e_aload_n d_K_farFrom_1 rfl rfl ?_
  refine g_K_7 (b := 1 + 16 * x) rfl d_K_farFrom_2 hf ?_
  refine e_acmpne (tgt := 15) d_K_farFrom_5 (by decide) (by omega) (by omega) (fun h5 => ?_) (fun h5 => ?_)
  ·
    refine e_aload_n d_K_farFrom_15 rfl rfl ?_
    refine g_K_7 (b := 1 + 16 * x) rfl d_K_farFrom_16 hf ?_
    exact e_aret d_K_farFrom_19 rfl (Or.inl ⟨_, rfl⟩) ⟨(by rw [if_neg (by omega)]), rfl⟩
  ·
    refine e_aload_n d_K_farFrom_8 rfl rfl ?_
    refine g_K_13 (b := 1 + 16 * y) rfl d_K_farFrom_9 hs ?_
    refine e_goto (tgt := 19) d_K_farFrom_12 (by decide) ?_
    exact e_aret d_K_farFrom_19 rfl (Or.inl ⟨_, rfl⟩) ⟨(by rw [if_pos (by omega)]), rfl⟩
set_option maxHeartbeats 4000000 in
theorem ct_K_delayTo {l : Launch} (hl0 : l.stackTraces = false) {G : LG} {σ : HS} {k x p : Nat} (hf : hR σ 3 k 0 = some (1 + 16 * x)) : Ct l G m_K_delayTo [.ref (3 + 16 * k), .ref (1 + 16 * p)] σ (qd (.inr (some (.int (if p = x then hI σ 3 k 3 else hI σ 3 k 2)))) σ) := by
  refine Ct.of hl0 rfl rfl (Nat.le_of_ble_eq_true rfl) ?_
  show Ex l G m_K_delayTo (pmV G m_K_delayTo (qd (.inr (some (.int (if p = x then hI σ 3 k 3 else hI σ 3 k 2)))) σ)) 0 [(0, .ref (3 + 16 * k)), (1, .ref (1 + 16 * p))] [] σ 0 0
  refine e_aload_n d_K_delayTo_0 rfl rfl ?_
  refine e_aload_n d_K_delayTo_1 rfl rfl ?_
  refine g_K_7 (b := 1 + 16 * x) rfl d_K_delayTo_2 hf ?_
  refine e_acmpne (tgt := 15) d_K_delayTo_5 (by decide) (by omega) (by omega) (fun h5 => ?_) (fun h5 => ?_)
  ·
    refine e_aload_n d_K_delayTo_15 rfl rfl ?_
    refine g_K_16 rfl d_K_delayTo_16 ?_
    exact e_iret d_K_delayTo_19 rfl ⟨(by rw [if_neg (by omega)]), rfl⟩
  ·
    refine e_aload_n d_K_delayTo_8 rfl rfl ?_
    refine g_K_20 rfl d_K_delayTo_9 ?_
    refine e_goto (tgt := 19) d_K_delayTo_12 (by decide) ?_
    exact e_iret d_K_delayTo_19 rfl ⟨(by rw [if_pos (by omega)]), rfl⟩
set_option maxHeartbeats 4000000 in
theorem ct_K_delayFrom {l : Launch} (hl0 : l.stackTraces = false) {G : LG} {σ : HS} {k x p : Nat} (hf : hR σ 3 k 0 = some (1 + 16 * x)) : Ct l G m_K_delayFrom [.ref (3 + 16 * k), .ref (1 + 16 * p)] σ (qd (.inr (some (.int (if p = x then hI σ 3 k 2 else hI σ 3 k 3)))) σ) := by
  refine Ct.of hl0 rfl rfl (Nat.le_of_ble_eq_true rfl) ?_
  show Ex l G m_K_delayFrom (pmV G m_K_delayFrom (qd (.inr (some (.int (if p = x then hI σ 3 k 2 else hI σ 3 k 3)))) σ)) 0 [(0, .ref (3 + 16 * k)), (1, .ref (1 + 16 * p))] [] σ 0 0
  refine e_aload_n d_K_delayFrom_0 rfl rfl ?_
  refine e_aload_n d_K_delayFrom_1 rfl rfl ?_
  refine g_K_7 (b := 1 + 16 * x) rfl d_K_delayFrom_2 hf ?_
  refine e_acmpne (tgt := 15) d_K_delayFrom_5 (by decide) (by omega) (by omega) (fun h5 => ?_) (fun h5 => ?_)
  ·
    refine e_aload_n d_K_delayFrom_15 rfl rfl ?_
    refine g_K_20 rfl d_K_delayFrom_16 ?_
    exact e_iret d_K_delayFrom_19 rfl ⟨(by rw [if_neg (by omega)]), rfl⟩
  ·
    refine e_aload_n d_K_delayFrom_8 rfl rfl ?_
    refine g_K_16 rfl d_K_delayFrom_9 ?_
    refine e_goto (tgt := 19) d_K_delayFrom_12 (by decide) ?_
    exact e_iret d_K_delayFrom_19 rfl ⟨(by rw [if_pos (by omega)]), rfl⟩
set_option maxHeartbeats 4000000 in
theorem ct_R_init {l : Launch} (hl0 : l.stackTraces = false) {G : LG} {σ : HS} {r : Nat}  : Ct l G m_R_init [.ref (4 + 16 * r)] σ (qd (.inr (none)) (σ)) := by
  refine Ct.of hl0 rfl rfl (Nat.le_of_ble_eq_true rfl) ?_
  show Ex l G m_R_init (pmV G m_R_init (qd (.inr (none)) (σ))) 0 [(0, .ref (4 + 16 * r))] [] σ 0 0
  refine e_aload_n d_R_init_0 rfl rfl ?_
  refine e_obji d_R_init_1 ol_R_3 ⟨by decide, by decide⟩ ?_
  exact e_vret d_R_init_4 rfl ⟨rfl, rfl⟩
/-- the sum of two longs fits -/
def okS (a b : Int64) : Prop := 0 ≤ lg_cmp ((a ^^^ (a + b)) &&& (b ^^^ (a + b))) 0
def okM (a b : Int64) : Prop := 0 ≤ lg_cmp ((a ^^^ b) &&& (a ^^^ (a - b))) 0
noncomputable def ovS (σ : HS) (r : Nat) (p : Prop) : HS := @ite _ p (Classical.propDecidable p) σ (sI σ 4 r 0 1)
theorem ovS_y {σ : HS} {r : Nat} {p : Prop} (h : p) : σ = ovS σ r p := by unfold ovS; rw [if_pos h]
theorem ovS_n {σ : HS} {r : Nat} {p : Prop} (h : ¬ p) : sI σ 4 r 0 1 = ovS σ r p := by unfold ovS; rw [if_neg h]
set_option maxHeartbeats 4000000 in
theorem ct_R_plus {l : Launch} (hl0 : l.stackTraces = false) {G : LG} {σ : HS} {r : Nat} {a b : Int64}  : Ct l G m_R_plus [.ref (4 + 16 * r), .long (a), .long (b)] σ (qd (.inr (some (.long (a + b)))) (ovS σ r (okS a b))) := by
  refine Ct.of hl0 rfl rfl (Nat.le_of_ble_eq_true rfl) ?_
  show Ex l G m_R_plus (pmV G m_R_plus (qd (.inr (some (.long (a + b)))) (ovS σ r (okS a b)))) 0 [(0, .ref (4 + 16 * r)), (1, .long (a)), (3, .long (b))] [] σ 0 0
  refine e_lload_n d_R_plus_0 rfl rfl ?_
  refine e_lload_n d_R_plus_1 rfl rfl ?_
  refine e_ladd d_R_plus_2 ?_
  refine e_lstore d_R_plus_3 (by decide) rfl ?_
  refine e_lload_n d_R_plus_5 rfl rfl ?_
  refine e_lload d_R_plus_6 rfl ?_
  refine e_lxor d_R_plus_8 ?_
  refine e_lload_n d_R_plus_9 rfl rfl ?_
  refine e_lload d_R_plus_10 rfl ?_
  refine e_lxor d_R_plus_12 ?_
  refine e_land d_R_plus_13 ?_
  refine e_lconst (v := 0) d_R_plus_14 (by decide) ?_
  refine e_lcmp d_R_plus_15 ?_
  refine e_ifge (tgt := 24) d_R_plus_16 (by decide) (fun h16 => ?_) (fun h16 => ?_)
  ·
    refine e_lload d_R_plus_24 rfl ?_
    exact e_lret d_R_plus_26 rfl ⟨rfl, ovS_y h16⟩
  ·
    refine e_aload_n d_R_plus_19 rfl rfl ?_
    refine e_iconst (v := 1) d_R_plus_20 (by decide) ?_
    refine p_R_9 (by first | exact Or.inl rfl | exact Or.inr rfl) rfl d_R_plus_21 ?_
    refine e_lload d_R_plus_24 rfl ?_
    exact e_lret d_R_plus_26 rfl ⟨rfl, ovS_n h16⟩
set_option maxHeartbeats 4000000 in
theorem ct_R_minus {l : Launch} (hl0 : l.stackTraces = false) {G : LG} {σ : HS} {r : Nat} {a b : Int64}  : Ct l G m_R_minus [.ref (4 + 16 * r), .long (a), .long (b)] σ (qd (.inr (some (.long (a - b)))) (ovS σ r (okM a b))) := by
  refine Ct.of hl0 rfl rfl (Nat.le_of_ble_eq_true rfl) ?_
  show Ex l G m_R_minus (pmV G m_R_minus (qd (.inr (some (.long (a - b)))) (ovS σ r (okM a b)))) 0 [(0, .ref (4 + 16 * r)), (1, .long (a)), (3, .long (b))] [] σ 0 0
  refine e_lload_n d_R_minus_0 rfl rfl ?_
  refine e_lload_n d_R_minus_1 rfl rfl ?_
  refine e_lsub d_R_minus_2 ?_
  refine e_lstore d_R_minus_3 (by decide) rfl ?_
  refine e_lload_n d_R_minus_5 rfl rfl ?_
  refine e_lload_n d_R_minus_6 rfl rfl ?_
  refine e_lxor d_R_minus_7 ?_
  refine e_lload_n d_R_minus_8 rfl rfl ?_
  refine e_lload d_R_minus_9 rfl ?_
  refine e_lxor d_R_minus_11 ?_
  refine e_land d_R_minus_12 ?_
  refine e_lconst (v := 0) d_R_minus_13 (by decide) ?_
  refine e_lcmp d_R_minus_14 ?_
  refine e_ifge (tgt := 23) d_R_minus_15 (by decide) (fun h15 => ?_) (fun h15 => ?_)
  ·
    refine e_lload d_R_minus_23 rfl ?_
    exact e_lret d_R_minus_25 rfl ⟨rfl, ovS_y h15⟩
  ·
    refine e_aload_n d_R_minus_18 rfl rfl ?_
    refine e_iconst (v := 1) d_R_minus_19 (by decide) ?_
    refine p_R_9 (by first | exact Or.inl rfl | exact Or.inr rfl) rfl d_R_minus_20 ?_
    refine e_lload d_R_minus_23 rfl ?_
    exact e_lret d_R_minus_25 rfl ⟨rfl, ovS_n h15⟩
def growV (σ : HS) (p : Nat) : Int32 := if hI σ 1 p 4 = 0 then 0 else if 3 ≤ hI σ 1 p 5 + 1 then 1 else 0
def growS (σ : HS) (p : Nat) : HS := if hI σ 1 p 4 = 0 then σ else if 3 ≤ hI σ 1 p 5 + 1 then sI (sI σ 1 p 5 (hI σ 1 p 5 + 1)) 1 p 4 0 else sI σ 1 p 5 (hI σ 1 p 5 + 1)
set_option maxHeartbeats 4000000 in
theorem ct_P_growOlder {l : Launch} (hl0 : l.stackTraces = false) {G : LG} {σ : HS} {p : Nat}  : Ct l G m_P_growOlder [.ref (1 + 16 * p)] σ (qd (.inr (some (.int (growV σ p)))) (growS σ p)) := by
  refine Ct.of hl0 rfl rfl (Nat.le_of_ble_eq_true rfl) ?_
  show Ex l G m_P_growOlder (pmV G m_P_growOlder (qd (.inr (some (.int (growV σ p)))) (growS σ p))) 0 [(0, .ref (1 + 16 * p))] [] σ 0 0
  refine e_aload_n d_P_growOlder_0 rfl rfl ?_
  refine g_P_28 rfl d_P_growOlder_1 ?_
  refine e_ifne (tgt := 9) d_P_growOlder_4 (by decide) (fun h4 => ?_) (fun h4 => ?_)
  ·
    refine e_aload_n d_P_growOlder_9 rfl rfl ?_
    refine e_dup d_P_growOlder_10 rfl ?_
    refine g_P_32 rfl d_P_growOlder_11 ?_
    refine e_iconst (v := 1) d_P_growOlder_14 (by decide) ?_
    refine e_iadd d_P_growOlder_15 ?_
    refine p_P_32 rfl d_P_growOlder_16 ?_
    refine e_aload_n d_P_growOlder_19 rfl rfl ?_
    refine g_P_32 rfl d_P_growOlder_20 ?_
    refine e_iconst (v := 3) d_P_growOlder_23 (by decide) ?_
    refine e_icmpge (tgt := 29) d_P_growOlder_24 (by decide) (fun h24 => ?_) (fun h24 => ?_)
    ·
      refine e_aload_n d_P_growOlder_29 rfl rfl ?_
      refine e_iconst (v := 0) d_P_growOlder_30 (by decide) ?_
      refine p_P_28 (by first | exact Or.inl rfl | exact Or.inr rfl) rfl d_P_growOlder_31 ?_
      refine e_iconst (v := 1) d_P_growOlder_34 (by decide) ?_
      rw [I_sI, if_pos ⟨rfl, rfl, rfl⟩] at h24
      exact e_zret d_P_growOlder_35 rfl (by first | exact Or.inl rfl | exact Or.inr rfl) ⟨by simp [growV, h4, h24], by simp [growS, I_sI, h4, h24]⟩
    ·
      refine e_iconst (v := 0) d_P_growOlder_27 (by decide) ?_
      rw [I_sI, if_pos ⟨rfl, rfl, rfl⟩] at h24
      exact e_zret d_P_growOlder_28 rfl (by first | exact Or.inl rfl | exact Or.inr rfl) ⟨by simp [growV, h4, h24], by simp [growS, I_sI, h4, h24]⟩
  ·
    refine e_iconst (v := 0) d_P_growOlder_7 (by decide) ?_
    exact e_zret d_P_growOlder_8 rfl (by first | exact Or.inl rfl | exact Or.inr rfl) ⟨by simp [growV, h4], by simp [growS, I_sI, h4]⟩
