theorem hs_ext {σ τ : HS} (h1 : hn σ = hn τ) (h2 : hl σ = hl τ) (h3 : ∀ q a k, hI σ q a k = hI τ q a k) (h4 : ∀ q a k, hJ σ q a k = hJ τ q a k) (h5 : ∀ q a k, hR σ q a k = hR τ q a k) : σ = τ := by
  obtain ⟨a1, a2, a3, a4, a5⟩ := σ
  obtain ⟨b1, b2, b3, b4, b5⟩ := τ
  have e3 : a3 = b3 := funext fun q => funext fun a => funext fun k => h3 q a k
  have e4 : a4 = b4 := funext fun q => funext fun a => funext fun k => h4 q a k
  have e5 : a5 = b5 := funext fun q => funext fun a => funext fun k => h5 q a k
  have e1 : a1 = b1 := h1
  have e2 : a2 = b2 := h2
  rw [e1, e2, e3, e4, e5]
/-- a dataset written whole -/
def sD (σ : HS) (d : Nat) (f : DV) : HS := (σ.1, σ.2.1, fun q a k => if q = 0 ∧ a = d then f k else σ.2.2.1 q a k, σ.2.2.2)
theorem I_sD {σ : HS} {d : Nat} {f : DV} {q a k : Nat} : hI (sD σ d f) q a k = if q = 0 ∧ a = d then f k else hI σ q a k := rfl
theorem n_sD {σ : HS} {d : Nat} {f : DV} : hn (sD σ d f) = hn σ := rfl
theorem l_sD {σ : HS} {d : Nat} {f : DV} : hl (sD σ d f) = hl σ := rfl
theorem J_sD {σ : HS} {d : Nat} {f : DV} : hJ (sD σ d f) = hJ σ := rfl
theorem R_sD {σ : HS} {d : Nat} {f : DV} : hR (sD σ d f) = hR σ := rfl
def v8 (x0 x1 x2 x3 x4 x5 x6 x7 : Int32) (old : DV) : DV := fun k => match k with
  | 0 => x0
  | 1 => x1
  | 2 => x2
  | 3 => x3
  | 4 => x4
  | 5 => x5
  | 6 => x6
  | 7 => x7
  | k + 8 => old (k + 8)
theorem sI_of_8 {σ : HS} {d : Nat} {x0 x1 x2 x3 x4 x5 x6 x7 : Int32} : sI (sI (sI (sI (sI (sI (sI (sI σ 0 d 0 x0) 0 d 1 x1) 0 d 2 x2) 0 d 3 x3) 0 d 4 x4) 0 d 5 x5) 0 d 6 x6) 0 d 7 x7 = sD σ d (v8 x0 x1 x2 x3 x4 x5 x6 x7 (hI σ 0 d)) := by
  refine hs_ext rfl rfl (fun q a k => ?_) (fun _ _ _ => rfl) (fun _ _ _ => rfl)
  simp only [I_sI, I_sD]
  by_cases h : q = 0 ∧ a = d
  · obtain ⟨rfl, rfl⟩ := h
    match k with
    | 0 => simp [v8]
    | 1 => simp [v8]
    | 2 => simp [v8]
    | 3 => simp [v8]
    | 4 => simp [v8]
    | 5 => simp [v8]
    | 6 => simp [v8]
    | 7 => simp [v8]
    | k + 8 => simp [v8]
  · have h' : ∀ j, ¬ (q = 0 ∧ a = d ∧ k = j) := fun j z => h ⟨z.1, z.2.1⟩
    simp [h, h']
def toldV (B : DV) (same : Bool) (id num : Int32) (old : DV) : DV := v8 (B 0) (B 1) (B 2) (B 3) (if same then 0 else B 4 + 1) id num num old
def keepV (S : DV) (num : Int32) (old : DV) : DV := v8 (S 0) (S 1) (S 2) (S 3) (S 4) (S 5) (S 6) num old
set_option maxHeartbeats 4000000 in
theorem ct_P_tell {l : Launch} (hl0 : l.stackTraces = false) {G : LG} {σ : HS} {p t b w : Nat} (ht : hR σ 1 p 3 = some (0 + 16 * t)) (hb : ¬ b = t) (hw : ¬ w = t) : Ct l G m_P_tell [.ref (1 + 16 * p), .ref (0 + 16 * b), .ref (0 + 16 * w)] σ (qd (.inr none) (sD σ t (toldV (hI σ 0 b) (decide (b = w)) (hI σ 0 w 3) (hI σ 1 p 1) (hI σ 0 t)))) := by
  refine Ct.of hl0 rfl rfl (Nat.le_of_ble_eq_true rfl) ?_
  show Ex l G m_P_tell (pmV G m_P_tell (qd (.inr none) (sD σ t (toldV (hI σ 0 b) (decide (b = w)) (hI σ 0 w 3) (hI σ 1 p 1) (hI σ 0 t))))) 0 [(0, .ref (1 + 16 * p)), (1, .ref (0 + 16 * b)), (2, .ref (0 + 16 * w))] [] σ 0 0
  refine e_aload_n d_P_tell_0 rfl rfl ?_
  refine g_P_25 (b := 0 + 16 * t) rfl d_P_tell_1 ht ?_
  refine e_aload_n d_P_tell_4 rfl rfl ?_
  refine e_callVd (v := none) (σ' := cpRoot (σ) (t) (b)) (q := 0) (a := t) (As := [.ref (0 + 16 * b)]) (st := []) 0 0 d_P_tell_5 cb_P_tell_55 iv_D_setRootOf rfl ⟨by decide, rfl⟩ rfl (Nat.le_of_ble_eq_true rfl) (by decide) (by decide) (ct_D_setRootOf hl0) ?_
  show Ex l G m_P_tell (pmV G m_P_tell (qd (.inr none) (sD σ t (toldV (hI σ 0 b) (decide (b = w)) (hI σ 0 w 3) (hI σ 1 p 1) (hI σ 0 t))))) 8 [(0, .ref (1 + 16 * p)), (1, .ref (0 + 16 * b)), (2, .ref (0 + 16 * w))] [] (cpRoot (σ) (t) (b)) 0 0
  refine e_aload_n d_P_tell_8 rfl rfl ?_
  refine g_P_25 (b := 0 + 16 * t) rfl d_P_tell_9 ht ?_
  refine e_aload_n d_P_tell_12 rfl rfl ?_
  refine e_aload_n d_P_tell_13 rfl rfl ?_
  refine e_acmpne (tgt := 21) d_P_tell_14 (by decide) (by omega) (by omega) (fun h14 => ?_) (fun h14 => ?_)
  ·
    refine e_aload_n d_P_tell_21 rfl rfl ?_
    refine g_P_59 rfl d_P_tell_22 ?_
    refine e_iconst (v := 1) d_P_tell_25 (by decide) ?_
    refine e_iadd d_P_tell_26 ?_
    refine p_P_59 rfl d_P_tell_27 ?_
    refine e_aload_n d_P_tell_30 rfl rfl ?_
    refine g_P_25 (b := 0 + 16 * t) rfl d_P_tell_31 ht ?_
    refine e_aload_n d_P_tell_34 rfl rfl ?_
    refine g_P_71 rfl d_P_tell_35 ?_
    refine p_P_62 rfl d_P_tell_38 ?_
    refine e_aload_n d_P_tell_41 rfl rfl ?_
    refine g_P_25 (b := 0 + 16 * t) rfl d_P_tell_42 ht ?_
    refine e_aload_n d_P_tell_45 rfl rfl ?_
    refine g_P_15 rfl d_P_tell_46 ?_
    refine p_P_65 rfl d_P_tell_49 ?_
    refine e_aload_n d_P_tell_52 rfl rfl ?_
    refine g_P_25 (b := 0 + 16 * t) rfl d_P_tell_53 ht ?_
    refine e_aload_n d_P_tell_56 rfl rfl ?_
    refine g_P_15 rfl d_P_tell_57 ?_
    refine p_P_68 rfl d_P_tell_60 ?_
    refine e_vret d_P_tell_63 rfl ⟨rfl, ?_⟩
    have e1 : decide (b = w) = false := by simp; omega
    rw [e1]
    unfold toldV
    rw [← sI_of_8]
    simp [cpRoot, I_sI, hb, hw]
  ·
    refine e_iconst (v := 0) d_P_tell_17 (by decide) ?_
    refine e_goto (tgt := 27) d_P_tell_18 (by decide) ?_
    refine p_P_59 rfl d_P_tell_27 ?_
    refine e_aload_n d_P_tell_30 rfl rfl ?_
    refine g_P_25 (b := 0 + 16 * t) rfl d_P_tell_31 ht ?_
    refine e_aload_n d_P_tell_34 rfl rfl ?_
    refine g_P_71 rfl d_P_tell_35 ?_
    refine p_P_62 rfl d_P_tell_38 ?_
    refine e_aload_n d_P_tell_41 rfl rfl ?_
    refine g_P_25 (b := 0 + 16 * t) rfl d_P_tell_42 ht ?_
    refine e_aload_n d_P_tell_45 rfl rfl ?_
    refine g_P_15 rfl d_P_tell_46 ?_
    refine p_P_65 rfl d_P_tell_49 ?_
    refine e_aload_n d_P_tell_52 rfl rfl ?_
    refine g_P_25 (b := 0 + 16 * t) rfl d_P_tell_53 ht ?_
    refine e_aload_n d_P_tell_56 rfl rfl ?_
    refine g_P_15 rfl d_P_tell_57 ?_
    refine p_P_68 rfl d_P_tell_60 ?_
    refine e_vret d_P_tell_63 rfl ⟨rfl, ?_⟩
    have e1 : decide (b = w) = true := by simp; omega
    rw [e1]
    unfold toldV
    rw [← sI_of_8]
    simp [cpRoot, I_sI, hb, hw]
def fstV (σ : HS) (p c t b : Nat) : Int32 := if b = c then 2 else if hI σ 1 p 4 = 0 then 1 else if btI (hI σ 0 c) (hI σ 0 t) = 0 then 1 else 3
set_option maxHeartbeats 4000000 in
theorem ct_P_findState_n {l : Launch} (hl0 : l.stackTraces = false) {G : LG} {σ : HS} {p : Nat} {d : Nat} (hk : hR σ 1 p 7 = none) : Ct l G m_P_findState [.ref (1 + 16 * p), .ref (0 + 16 * d)] σ (qd (.inr (some (.int 0))) σ) := by
  refine Ct.of hl0 rfl rfl (Nat.le_of_ble_eq_true rfl) ?_
  show Ex l G m_P_findState (pmV G m_P_findState (qd (.inr (some (.int 0))) σ)) 0 [(0, .ref (1 + 16 * p)), (1, .ref (0 + 16 * d))] [] σ 0 0
  refine e_aload_n d_P_findState_0 rfl rfl ?_
  refine g_P_38N rfl d_P_findState_1 hk ?_
  refine e_ifnonnullN d_P_findState_4 ?_
  refine e_iconst (v := 0) d_P_findState_7 (by decide) ?_
  exact e_iret d_P_findState_8 rfl ⟨rfl, rfl⟩
set_option maxHeartbeats 4000000 in
theorem ct_P_findState_s {l : Launch} (hl0 : l.stackTraces = false) {G : LG} {σ : HS} {p c t b k : Nat} (hk : hR σ 1 p 7 = some (3 + 16 * k)) (hc : hR σ 1 p 2 = some (0 + 16 * c)) (ht : hR σ 1 p 3 = some (0 + 16 * t)) : Ct l G m_P_findState [.ref (1 + 16 * p), .ref (0 + 16 * b)] σ (qd (.inr (some (.int (fstV σ p c t b)))) σ) := by
  refine Ct.of hl0 rfl rfl (Nat.le_of_ble_eq_true rfl) ?_
  show Ex l G m_P_findState (pmV G m_P_findState (qd (.inr (some (.int (fstV σ p c t b)))) σ)) 0 [(0, .ref (1 + 16 * p)), (1, .ref (0 + 16 * b))] [] σ 0 0
  refine e_aload_n d_P_findState_0 rfl rfl ?_
  refine g_P_38 (b := 3 + 16 * k) rfl d_P_findState_1 hk ?_
  refine e_ifnonnull (tgt := 9) d_P_findState_4 (by decide) ?_
  refine e_aload_n d_P_findState_9 rfl rfl ?_
  refine e_aload_n d_P_findState_10 rfl rfl ?_
  refine g_P_21 (b := 0 + 16 * c) rfl d_P_findState_11 hc ?_
  refine e_acmpne (tgt := 19) d_P_findState_14 (by decide) (by omega) (by omega) (fun h14 => ?_) (fun h14 => ?_)
  ·
    refine e_aload_n d_P_findState_19 rfl rfl ?_
    refine g_P_28 rfl d_P_findState_20 ?_
    refine e_ifeq (tgt := 44) d_P_findState_23 (by decide) (fun h23 => ?_) (fun h23 => ?_)
    ·
      refine e_iconst (v := 1) d_P_findState_44 (by decide) ?_
      exact e_iret d_P_findState_45 rfl ⟨by simp [fstV, (show ¬ b = c by omega), h23], rfl⟩
    ·
      refine e_aload_n d_P_findState_26 rfl rfl ?_
      refine g_P_21 (b := 0 + 16 * c) rfl d_P_findState_27 hc ?_
      refine e_aload_n d_P_findState_30 rfl rfl ?_
      refine g_P_25 (b := 0 + 16 * t) rfl d_P_findState_31 ht ?_
      refine e_callVd (v := some (.int (btI (hI σ 0 c) (hI σ 0 t)))) (σ' := σ) (q := 0) (a := c) (As := [.ref (0 + 16 * t)]) (st := []) 0 0 d_P_findState_34 cb_P_findState_74 iv_D_betterThan rfl ⟨by decide, rfl⟩ rfl (Nat.le_of_ble_eq_true rfl) (by decide) (by decide) (ct_D_betterThan hl0) ?_
      show Ex l G m_P_findState (pmV G m_P_findState (qd (.inr (some (.int (fstV σ p c t b)))) σ)) 37 [(0, .ref (1 + 16 * p)), (1, .ref (0 + 16 * b))] [.int (btI (hI σ 0 c) (hI σ 0 t))] (σ) 0 0
      refine e_ifeq (tgt := 44) d_P_findState_37 (by decide) (fun h37 => ?_) (fun h37 => ?_)
      ·
        refine e_iconst (v := 1) d_P_findState_44 (by decide) ?_
        exact e_iret d_P_findState_45 rfl ⟨by simp [fstV, (show ¬ b = c by omega), h23, h37], rfl⟩
      ·
        refine e_iconst (v := 3) d_P_findState_40 (by decide) ?_
        refine e_goto (tgt := 45) d_P_findState_41 (by decide) ?_
        exact e_iret d_P_findState_45 rfl ⟨by simp [fstV, (show ¬ b = c by omega), h23, h37], rfl⟩
  ·
    refine e_iconst (v := 2) d_P_findState_17 (by decide) ?_
    exact e_iret d_P_findState_18 rfl ⟨by simp [fstV, (show b = c by omega)], rfl⟩
set_option maxHeartbeats 4000000 in
theorem ct_P_findSender_n {l : Launch} (hl0 : l.stackTraces = false) {G : LG} {σ : HS} {p : Nat} (hk : hR σ 1 p 7 = none) : Ct l G m_P_findSender [.ref (1 + 16 * p)] σ (qd (.inr (some .null)) σ) := by
  refine Ct.of hl0 rfl rfl (Nat.le_of_ble_eq_true rfl) ?_
  show Ex l G m_P_findSender (pmV G m_P_findSender (qd (.inr (some .null)) σ)) 0 [(0, .ref (1 + 16 * p))] [] σ 0 0
  refine e_aload_n d_P_findSender_0 rfl rfl ?_
  refine g_P_38N rfl d_P_findSender_1 hk ?_
  refine e_ifnullN (tgt := 17) d_P_findSender_4 (by decide) ?_
  refine e_null d_P_findSender_17 ?_
  exact e_aretN d_P_findSender_18 rfl (Or.inl ⟨_, rfl⟩) ⟨rfl, rfl⟩
def fsdV (σ : HS) (p k x y : Nat) : Value := if hI σ 3 k 4 = 0 then .null else if hI σ 1 (if p = x then y else x) 6 = 1 then .ref (1 + 16 * (if p = x then y else x)) else .null
set_option maxHeartbeats 4000000 in
theorem ct_P_findSender_s {l : Launch} (hl0 : l.stackTraces = false) {G : LG} {σ : HS} {p k x y : Nat} (hk : hR σ 1 p 7 = some (3 + 16 * k)) (hf : hR σ 3 k 0 = some (1 + 16 * x)) (hs : hR σ 3 k 1 = some (1 + 16 * y)) : Ct l G m_P_findSender [.ref (1 + 16 * p)] σ (qd (.inr (some (fsdV σ p k x y))) σ) := by
  refine Ct.of hl0 rfl rfl (Nat.le_of_ble_eq_true rfl) ?_
  show Ex l G m_P_findSender (pmV G m_P_findSender (qd (.inr (some (fsdV σ p k x y))) σ)) 0 [(0, .ref (1 + 16 * p))] [] σ 0 0
  refine e_aload_n d_P_findSender_0 rfl rfl ?_
  refine g_P_38 (b := 3 + 16 * k) rfl d_P_findSender_1 hk ?_
  refine e_ifnull d_P_findSender_4 ?_
  refine e_aload_n d_P_findSender_7 rfl rfl ?_
  refine g_P_38 (b := 3 + 16 * k) rfl d_P_findSender_8 hk ?_
  refine g_P_42 rfl d_P_findSender_11 ?_
  refine e_ifne (tgt := 19) d_P_findSender_14 (by decide) (fun h14 => ?_) (fun h14 => ?_)
  ·
    refine e_aload_n d_P_findSender_19 rfl rfl ?_
    refine g_P_38 (b := 3 + 16 * k) rfl d_P_findSender_20 hk ?_
    refine e_aload_n d_P_findSender_23 rfl rfl ?_
    refine e_callVd (v := some (.ref (1 + 16 * (if p = x then y else x)))) (σ' := σ) (q := 3) (a := k) (As := [.ref (1 + 16 * p)]) (st := []) 0 0 d_P_findSender_24 cb_P_findSender_47 iv_K_farFrom rfl ⟨by decide, rfl⟩ rfl (Nat.le_of_ble_eq_true rfl) (by decide) (by decide) ((by rw [show 1 + 16 * (if p = x then y else x) = (if p = x then 1 + 16 * y else 1 + 16 * x) by split <;> rfl]; exact ct_K_farFrom hl0 hf hs)) ?_
    show Ex l G m_P_findSender (pmV G m_P_findSender (qd (.inr (some (fsdV σ p k x y))) σ)) 27 [(0, .ref (1 + 16 * p))] [.ref (1 + 16 * (if p = x then y else x))] (σ) 0 0
    refine e_astore_n d_P_findSender_27 rfl (by decide) rfl ?_
    refine e_aload_n d_P_findSender_28 rfl rfl ?_
    refine g_P_35 rfl d_P_findSender_29 ?_
    refine e_iconst (v := 1) d_P_findSender_32 (by decide) ?_
    refine e_icmpne (tgt := 40) d_P_findSender_33 (by decide) (fun h33 => ?_) (fun h33 => ?_)
    ·
      refine e_null d_P_findSender_40 ?_
      exact e_aretN d_P_findSender_41 rfl (Or.inl ⟨_, rfl⟩) ⟨by simp [fsdV, h14, h33], rfl⟩
    ·
      refine e_aload_n d_P_findSender_36 rfl rfl ?_
      refine e_goto (tgt := 41) d_P_findSender_37 (by decide) ?_
      exact e_aret d_P_findSender_41 rfl (Or.inl ⟨_, rfl⟩) ⟨by simp [fsdV, h14, h33], rfl⟩
  ·
    refine e_null d_P_findSender_17 ?_
    exact e_aretN d_P_findSender_18 rfl (Or.inl ⟨_, rfl⟩) ⟨by simp [fsdV, h14], rfl⟩
def keepR (σ : HS) (p c s : Nat) : Int32 := if hI σ 1 p 4 = 0 then 1 else if tsI (hI σ 0 c) (hI σ 0 s) = 0 then 1 else 0
def keepS (σ : HS) (p c s : Nat) : HS := sI (sI (sD σ c (keepV (hI σ 0 s) (hI σ 1 p 1) (hI σ 0 c))) 1 p 4 1) 1 p 5 0
set_option maxHeartbeats 4000000 in
theorem ct_P_keep {l : Launch} (hl0 : l.stackTraces = false) {G : LG} {σ : HS} {p c s : Nat} (hc : hR σ 1 p 2 = some (0 + 16 * c)) (hcs : ¬ s = c) : Ct l G m_P_keep [.ref (1 + 16 * p), .ref (0 + 16 * s)] σ (qd (.inr (some (.int (keepR σ p c s)))) (keepS σ p c s)) := by
  refine Ct.of hl0 rfl rfl (Nat.le_of_ble_eq_true rfl) ?_
  show Ex l G m_P_keep (pmV G m_P_keep (qd (.inr (some (.int (keepR σ p c s)))) (keepS σ p c s))) 0 [(0, .ref (1 + 16 * p)), (1, .ref (0 + 16 * s))] [] σ 0 0
  refine e_aload_n d_P_keep_0 rfl rfl ?_
  refine g_P_28 rfl d_P_keep_1 ?_
  refine e_ifeq (tgt := 18) d_P_keep_4 (by decide) (fun h4 => ?_) (fun h4 => ?_)
  ·
    refine e_iconst (v := 1) d_P_keep_18 (by decide) ?_
    refine e_goto (tgt := 23) d_P_keep_19 (by decide) ?_
    refine e_istore_n d_P_keep_23 rfl (by decide) rfl ?_
    refine e_aload_n d_P_keep_24 rfl rfl ?_
    refine g_P_21 (b := 0 + 16 * c) rfl d_P_keep_25 hc ?_
    refine e_aload_n d_P_keep_28 rfl rfl ?_
    refine e_callVd (v := none) (σ' := cpRoot (σ) (c) (s)) (q := 0) (a := c) (As := [.ref (0 + 16 * s)]) (st := []) 0 0 d_P_keep_29 cb_P_keep_55 iv_D_setRootOf rfl ⟨by decide, rfl⟩ rfl (Nat.le_of_ble_eq_true rfl) (by decide) (by decide) (ct_D_setRootOf hl0) ?_
    show Ex l G m_P_keep (pmV G m_P_keep (qd (.inr (some (.int (keepR σ p c s)))) (keepS σ p c s))) 32 [(2, .int (1)), (0, .ref (1 + 16 * p)), (1, .ref (0 + 16 * s))] [] (cpRoot (σ) (c) (s)) 0 0
    refine e_aload_n d_P_keep_32 rfl rfl ?_
    refine g_P_21 (b := 0 + 16 * c) rfl d_P_keep_33 hc ?_
    refine e_aload_n d_P_keep_36 rfl rfl ?_
    refine g_P_59 rfl d_P_keep_37 ?_
    refine p_P_59 rfl d_P_keep_40 ?_
    refine e_aload_n d_P_keep_43 rfl rfl ?_
    refine g_P_21 (b := 0 + 16 * c) rfl d_P_keep_44 hc ?_
    refine e_aload_n d_P_keep_47 rfl rfl ?_
    refine g_P_62 rfl d_P_keep_48 ?_
    refine p_P_62 rfl d_P_keep_51 ?_
    refine e_aload_n d_P_keep_54 rfl rfl ?_
    refine g_P_21 (b := 0 + 16 * c) rfl d_P_keep_55 hc ?_
    refine e_aload_n d_P_keep_58 rfl rfl ?_
    refine g_P_65 rfl d_P_keep_59 ?_
    refine p_P_65 rfl d_P_keep_62 ?_
    refine e_aload_n d_P_keep_65 rfl rfl ?_
    refine g_P_21 (b := 0 + 16 * c) rfl d_P_keep_66 hc ?_
    refine e_aload_n d_P_keep_69 rfl rfl ?_
    refine g_P_15 rfl d_P_keep_70 ?_
    refine p_P_68 rfl d_P_keep_73 ?_
    refine e_aload_n d_P_keep_76 rfl rfl ?_
    refine e_iconst (v := 1) d_P_keep_77 (by decide) ?_
    refine p_P_28 (by first | exact Or.inl rfl | exact Or.inr rfl) rfl d_P_keep_78 ?_
    refine e_aload_n d_P_keep_81 rfl rfl ?_
    refine e_iconst (v := 0) d_P_keep_82 (by decide) ?_
    refine p_P_32 rfl d_P_keep_83 ?_
    refine e_iload_n d_P_keep_86 rfl rfl ?_
    refine e_zret d_P_keep_87 rfl (by first | exact Or.inl rfl | exact Or.inr rfl) ⟨by simp [keepR, h4], ?_⟩
    unfold keepS keepV
    rw [← sI_of_8]
    simp [cpRoot, I_sI, hcs]
  ·
    refine e_aload_n d_P_keep_7 rfl rfl ?_
    refine g_P_21 (b := 0 + 16 * c) rfl d_P_keep_8 hc ?_
    refine e_aload_n d_P_keep_11 rfl rfl ?_
    refine e_callVd (v := some (.int (tsI (hI σ 0 c) (hI σ 0 s)))) (σ' := σ) (q := 0) (a := c) (As := [.ref (0 + 16 * s)]) (st := []) 0 0 d_P_keep_12 cb_P_keep_51 iv_D_tellsSameAs rfl ⟨by decide, rfl⟩ rfl (Nat.le_of_ble_eq_true rfl) (by decide) (by decide) (ct_D_tellsSameAs hl0) ?_
    show Ex l G m_P_keep (pmV G m_P_keep (qd (.inr (some (.int (keepR σ p c s)))) (keepS σ p c s))) 15 [(0, .ref (1 + 16 * p)), (1, .ref (0 + 16 * s))] [.int (tsI (hI σ 0 c) (hI σ 0 s))] (σ) 0 0
    refine e_ifne (tgt := 22) d_P_keep_15 (by decide) (fun h15 => ?_) (fun h15 => ?_)
    ·
      refine e_iconst (v := 0) d_P_keep_22 (by decide) ?_
      refine e_istore_n d_P_keep_23 rfl (by decide) rfl ?_
      refine e_aload_n d_P_keep_24 rfl rfl ?_
      refine g_P_21 (b := 0 + 16 * c) rfl d_P_keep_25 hc ?_
      refine e_aload_n d_P_keep_28 rfl rfl ?_
      refine e_callVd (v := none) (σ' := cpRoot (σ) (c) (s)) (q := 0) (a := c) (As := [.ref (0 + 16 * s)]) (st := []) 0 0 d_P_keep_29 cb_P_keep_55 iv_D_setRootOf rfl ⟨by decide, rfl⟩ rfl (Nat.le_of_ble_eq_true rfl) (by decide) (by decide) (ct_D_setRootOf hl0) ?_
      show Ex l G m_P_keep (pmV G m_P_keep (qd (.inr (some (.int (keepR σ p c s)))) (keepS σ p c s))) 32 [(2, .int (0)), (0, .ref (1 + 16 * p)), (1, .ref (0 + 16 * s))] [] (cpRoot (σ) (c) (s)) 0 0
      refine e_aload_n d_P_keep_32 rfl rfl ?_
      refine g_P_21 (b := 0 + 16 * c) rfl d_P_keep_33 hc ?_
      refine e_aload_n d_P_keep_36 rfl rfl ?_
      refine g_P_59 rfl d_P_keep_37 ?_
      refine p_P_59 rfl d_P_keep_40 ?_
      refine e_aload_n d_P_keep_43 rfl rfl ?_
      refine g_P_21 (b := 0 + 16 * c) rfl d_P_keep_44 hc ?_
      refine e_aload_n d_P_keep_47 rfl rfl ?_
      refine g_P_62 rfl d_P_keep_48 ?_
      refine p_P_62 rfl d_P_keep_51 ?_
      refine e_aload_n d_P_keep_54 rfl rfl ?_
      refine g_P_21 (b := 0 + 16 * c) rfl d_P_keep_55 hc ?_
      refine e_aload_n d_P_keep_58 rfl rfl ?_
      refine g_P_65 rfl d_P_keep_59 ?_
      refine p_P_65 rfl d_P_keep_62 ?_
      refine e_aload_n d_P_keep_65 rfl rfl ?_
      refine g_P_21 (b := 0 + 16 * c) rfl d_P_keep_66 hc ?_
      refine e_aload_n d_P_keep_69 rfl rfl ?_
      refine g_P_15 rfl d_P_keep_70 ?_
      refine p_P_68 rfl d_P_keep_73 ?_
      refine e_aload_n d_P_keep_76 rfl rfl ?_
      refine e_iconst (v := 1) d_P_keep_77 (by decide) ?_
      refine p_P_28 (by first | exact Or.inl rfl | exact Or.inr rfl) rfl d_P_keep_78 ?_
      refine e_aload_n d_P_keep_81 rfl rfl ?_
      refine e_iconst (v := 0) d_P_keep_82 (by decide) ?_
      refine p_P_32 rfl d_P_keep_83 ?_
      refine e_iload_n d_P_keep_86 rfl rfl ?_
      refine e_zret d_P_keep_87 rfl (by first | exact Or.inl rfl | exact Or.inr rfl) ⟨by simp [keepR, h4, h15], ?_⟩
      unfold keepS keepV
      rw [← sI_of_8]
      simp [cpRoot, I_sI, hcs]
    ·
      refine e_iconst (v := 1) d_P_keep_18 (by decide) ?_
      refine e_goto (tgt := 23) d_P_keep_19 (by decide) ?_
      refine e_istore_n d_P_keep_23 rfl (by decide) rfl ?_
      refine e_aload_n d_P_keep_24 rfl rfl ?_
      refine g_P_21 (b := 0 + 16 * c) rfl d_P_keep_25 hc ?_
      refine e_aload_n d_P_keep_28 rfl rfl ?_
      refine e_callVd (v := none) (σ' := cpRoot (σ) (c) (s)) (q := 0) (a := c) (As := [.ref (0 + 16 * s)]) (st := []) 0 0 d_P_keep_29 cb_P_keep_55 iv_D_setRootOf rfl ⟨by decide, rfl⟩ rfl (Nat.le_of_ble_eq_true rfl) (by decide) (by decide) (ct_D_setRootOf hl0) ?_
      show Ex l G m_P_keep (pmV G m_P_keep (qd (.inr (some (.int (keepR σ p c s)))) (keepS σ p c s))) 32 [(2, .int (1)), (0, .ref (1 + 16 * p)), (1, .ref (0 + 16 * s))] [] (cpRoot (σ) (c) (s)) 0 0
      refine e_aload_n d_P_keep_32 rfl rfl ?_
      refine g_P_21 (b := 0 + 16 * c) rfl d_P_keep_33 hc ?_
      refine e_aload_n d_P_keep_36 rfl rfl ?_
      refine g_P_59 rfl d_P_keep_37 ?_
      refine p_P_59 rfl d_P_keep_40 ?_
      refine e_aload_n d_P_keep_43 rfl rfl ?_
      refine g_P_21 (b := 0 + 16 * c) rfl d_P_keep_44 hc ?_
      refine e_aload_n d_P_keep_47 rfl rfl ?_
      refine g_P_62 rfl d_P_keep_48 ?_
      refine p_P_62 rfl d_P_keep_51 ?_
      refine e_aload_n d_P_keep_54 rfl rfl ?_
      refine g_P_21 (b := 0 + 16 * c) rfl d_P_keep_55 hc ?_
      refine e_aload_n d_P_keep_58 rfl rfl ?_
      refine g_P_65 rfl d_P_keep_59 ?_
      refine p_P_65 rfl d_P_keep_62 ?_
      refine e_aload_n d_P_keep_65 rfl rfl ?_
      refine g_P_21 (b := 0 + 16 * c) rfl d_P_keep_66 hc ?_
      refine e_aload_n d_P_keep_69 rfl rfl ?_
      refine g_P_15 rfl d_P_keep_70 ?_
      refine p_P_68 rfl d_P_keep_73 ?_
      refine e_aload_n d_P_keep_76 rfl rfl ?_
      refine e_iconst (v := 1) d_P_keep_77 (by decide) ?_
      refine p_P_28 (by first | exact Or.inl rfl | exact Or.inr rfl) rfl d_P_keep_78 ?_
      refine e_aload_n d_P_keep_81 rfl rfl ?_
      refine e_iconst (v := 0) d_P_keep_82 (by decide) ?_
      refine p_P_32 rfl d_P_keep_83 ?_
      refine e_iload_n d_P_keep_86 rfl rfl ?_
      refine e_zret d_P_keep_87 rfl (by first | exact Or.inl rfl | exact Or.inr rfl) ⟨by simp [keepR, h4, h15], ?_⟩
      unfold keepS keepV
      rw [← sI_of_8]
      simp [cpRoot, I_sI, hcs]
