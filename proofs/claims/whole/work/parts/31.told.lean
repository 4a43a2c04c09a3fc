theorem sIA_of_8 {σ : HS} {q d : Nat} {x0 x1 x2 x3 x4 x5 x6 x7 : Int32} : sI (sI (sI (sI (sI (sI (sI (sI σ q d 0 x0) q d 1 x1) q d 2 x2) q d 3 x3) q d 4 x4) q d 5 x5) q d 6 x6) q d 7 x7 = sA σ q d (v8 x0 x1 x2 x3 x4 x5 x6 x7 (hI σ q d)) := by
  refine hs_ext rfl rfl (fun q' a k => ?_) (fun _ _ _ => rfl) (fun _ _ _ => rfl)
  simp only [I_sI, I_sA]
  by_cases h : q' = q ∧ a = d
  · obtain ⟨rfl, rfl⟩ := h
    match k with
    | 0 => simp [v8]
    | 1 => simp [v8]
    | 2 => simp [v8]
    | 3 => simp [v8]
    | 4 => simp [v8]
    | 5 => simp [v8]
    | 6 => simp [v8]
    | 7 => simp [v8]
    | k + 8 => simp [v8]
  · have h' : ∀ j, ¬ (q' = q ∧ a = d ∧ k = j) := fun j z => h ⟨z.1, z.2.1⟩
    simp [h, h']
theorem div4_40 : ∀ p, p < 40 → nI p / 4 = nI (p / 4) := by decide +kernel
theorem mod4_40 : ∀ p, p < 40 → nI p - nI p / 4 * 4 = nI (p % 4) := by decide +kernel
theorem mod2_40 : ∀ p, p < 40 → nI p - nI p / 2 * 2 = nI (p % 2) := by decide +kernel
theorem nI_div4 {p : Nat} (h : p < 40) : nI p / 4 = nI (p / 4) := div4_40 p h
theorem nI_mod4 {p : Nat} (h : p < 40) : nI p - nI p / 4 * 4 = nI (p % 4) := mod4_40 p h
theorem nI_mod2 {p : Nat} (h : p < 40) : nI p - nI p / 2 * 2 = nI (p % 2) := mod2_40 p h
/-- the own dataset of node i, told at u -/
def mOwn (σ : HS) (i : Nat) (u : Int32) : DV := v8 (hI σ 7 1 i) (hI σ 7 2 i) (hI σ 7 3 i) (hI σ 7 0 i) 0 (hI σ 7 0 i) u u (hI σ 7 14)
def mTold (σ : HS) (p : Nat) : DV := if hI σ 7 13 (p / 4) < 0 then mOwn σ (p / 4) (nI (p % 4)) else v8 (hI σ 7 9 (8 * (hI σ 7 13 (p / 4)).toNatClampNeg)) (hI σ 7 9 (8 * (hI σ 7 13 (p / 4)).toNatClampNeg + 1)) (hI σ 7 9 (8 * (hI σ 7 13 (p / 4)).toNatClampNeg + 2)) (hI σ 7 9 (8 * (hI σ 7 13 (p / 4)).toNatClampNeg + 3)) (hI σ 7 9 (8 * (hI σ 7 13 (p / 4)).toNatClampNeg + 4) + 1) (hI σ 7 0 (p / 4)) (nI (p % 4)) (nI (p % 4)) (hI σ 7 14)
set_option maxHeartbeats 4000000 in
set_option maxRecDepth 100000 in
theorem ct_M_ownOne {l : Launch} (hl0 : l.stackTraces = false) {G : LG} {σ : HS} {i : Nat} {u : Int32} (hM : MS σ) (hi : i < 10) : Ct l G m_M_ownOne [.ref (6 + 16 * 0), .int (nI i), .int (u)] (σ) (qd (.inr none) (sA σ 7 14 (mOwn σ i u))) := by
  refine Ct.of hl0 rfl rfl (Nat.le_of_ble_eq_true rfl) ?_
  show Ex l G m_M_ownOne (pmV G m_M_ownOne (qd (.inr none) (sA σ 7 14 (mOwn σ i u)))) 0 [(0, .ref (6 + 16 * 0)), (1, .int (nI i)), (2, .int (u))] [] (σ) 0 0
  refine e_aload_n d_M_ownOne_0 rfl rfl ?_
  refine g_M_72 (b := 7 + 16 * 14) rfl d_M_ownOne_1 hM.a_one ?_
  refine e_iconst (v := 0) d_M_ownOne_4 (by decide) ?_
  refine e_aload_n d_M_ownOne_5 rfl rfl ?_
  refine g_M_13 (b := 7 + 16 * 1) rfl d_M_ownOne_6 hM.a_priorities ?_
  refine e_iload_n d_M_ownOne_9 rfl rfl ?_
  refine e_iald d_M_ownOne_10 (show vp_in (nI i) (hl σ 7 1) from by rw [hM.l_priorities]; exact nI_in (by omega) (by decide)) ?_
  rw [nI_clamp (show i < 2 ^ 31 by omega)]
  refine e_iast d_M_ownOne_11 (show vp_in (0 : Int32) (hl σ 7 14) from by rw [hM.l_one]; unfold vp_in; decide +kernel) ?_
  rw [show (0 : Int32).toNatClampNeg = 0 from by decide +kernel]
  refine e_aload_n d_M_ownOne_12 rfl rfl ?_
  refine g_M_72 (b := 7 + 16 * 14) rfl d_M_ownOne_13 hM.a_one ?_
  refine e_iconst (v := 1) d_M_ownOne_16 (by decide) ?_
  refine e_aload_n d_M_ownOne_17 rfl rfl ?_
  refine g_M_16 (b := 7 + 16 * 2) rfl d_M_ownOne_18 hM.a_classes ?_
  refine e_iload_n d_M_ownOne_21 rfl rfl ?_
  refine e_iald d_M_ownOne_22 (show vp_in (nI i) (hl σ 7 2) from by rw [hM.l_classes]; exact nI_in (by omega) (by decide)) ?_
  rw [nI_clamp (show i < 2 ^ 31 by omega)]
  refine e_iast d_M_ownOne_23 (show vp_in (1 : Int32) (hl σ 7 14) from by rw [hM.l_one]; unfold vp_in; decide +kernel) ?_
  rw [show (1 : Int32).toNatClampNeg = 1 from by decide +kernel]
  refine e_aload_n d_M_ownOne_24 rfl rfl ?_
  refine g_M_72 (b := 7 + 16 * 14) rfl d_M_ownOne_25 hM.a_one ?_
  refine e_iconst (v := 2) d_M_ownOne_28 (by decide) ?_
  refine e_aload_n d_M_ownOne_29 rfl rfl ?_
  refine g_M_19 (b := 7 + 16 * 3) rfl d_M_ownOne_30 hM.a_lessers ?_
  refine e_iload_n d_M_ownOne_33 rfl rfl ?_
  refine e_iald d_M_ownOne_34 (show vp_in (nI i) (hl σ 7 3) from by rw [hM.l_lessers]; exact nI_in (by omega) (by decide)) ?_
  rw [nI_clamp (show i < 2 ^ 31 by omega)]
  refine e_iast d_M_ownOne_35 (show vp_in (2 : Int32) (hl σ 7 14) from by rw [hM.l_one]; unfold vp_in; decide +kernel) ?_
  rw [show (2 : Int32).toNatClampNeg = 2 from by decide +kernel]
  refine e_aload_n d_M_ownOne_36 rfl rfl ?_
  refine g_M_72 (b := 7 + 16 * 14) rfl d_M_ownOne_37 hM.a_one ?_
  refine e_iconst (v := 3) d_M_ownOne_40 (by decide) ?_
  refine e_aload_n d_M_ownOne_41 rfl rfl ?_
  refine g_M_7 (b := 7 + 16 * 0) rfl d_M_ownOne_42 hM.a_identities ?_
  refine e_iload_n d_M_ownOne_45 rfl rfl ?_
  refine e_iald d_M_ownOne_46 (show vp_in (nI i) (hl σ 7 0) from by rw [hM.l_identities]; exact nI_in (by omega) (by decide)) ?_
  rw [nI_clamp (show i < 2 ^ 31 by omega)]
  refine e_iast d_M_ownOne_47 (show vp_in (3 : Int32) (hl σ 7 14) from by rw [hM.l_one]; unfold vp_in; decide +kernel) ?_
  rw [show (3 : Int32).toNatClampNeg = 3 from by decide +kernel]
  refine e_aload_n d_M_ownOne_48 rfl rfl ?_
  refine g_M_72 (b := 7 + 16 * 14) rfl d_M_ownOne_49 hM.a_one ?_
  refine e_iconst (v := 4) d_M_ownOne_52 (by decide) ?_
  refine e_iconst (v := 0) d_M_ownOne_53 (by decide) ?_
  refine e_iast d_M_ownOne_54 (show vp_in (4 : Int32) (hl σ 7 14) from by rw [hM.l_one]; unfold vp_in; decide +kernel) ?_
  rw [show (4 : Int32).toNatClampNeg = 4 from by decide +kernel]
  refine e_aload_n d_M_ownOne_55 rfl rfl ?_
  refine g_M_72 (b := 7 + 16 * 14) rfl d_M_ownOne_56 hM.a_one ?_
  refine e_iconst (v := 5) d_M_ownOne_59 (by decide) ?_
  refine e_aload_n d_M_ownOne_60 rfl rfl ?_
  refine g_M_7 (b := 7 + 16 * 0) rfl d_M_ownOne_61 hM.a_identities ?_
  refine e_iload_n d_M_ownOne_64 rfl rfl ?_
  refine e_iald d_M_ownOne_65 (show vp_in (nI i) (hl σ 7 0) from by rw [hM.l_identities]; exact nI_in (by omega) (by decide)) ?_
  rw [nI_clamp (show i < 2 ^ 31 by omega)]
  refine e_iast d_M_ownOne_66 (show vp_in (5 : Int32) (hl σ 7 14) from by rw [hM.l_one]; unfold vp_in; decide +kernel) ?_
  rw [show (5 : Int32).toNatClampNeg = 5 from by decide +kernel]
  refine e_aload_n d_M_ownOne_67 rfl rfl ?_
  refine g_M_72 (b := 7 + 16 * 14) rfl d_M_ownOne_68 hM.a_one ?_
  refine e_bipush (v := 6) d_M_ownOne_71 (by decide) ?_
  refine e_iload_n d_M_ownOne_73 rfl rfl ?_
  refine e_iast d_M_ownOne_74 (show vp_in (6 : Int32) (hl σ 7 14) from by rw [hM.l_one]; unfold vp_in; decide +kernel) ?_
  rw [show (6 : Int32).toNatClampNeg = 6 from by decide +kernel]
  refine e_aload_n d_M_ownOne_75 rfl rfl ?_
  refine g_M_72 (b := 7 + 16 * 14) rfl d_M_ownOne_76 hM.a_one ?_
  refine e_bipush (v := 7) d_M_ownOne_79 (by decide) ?_
  refine e_iload_n d_M_ownOne_81 rfl rfl ?_
  refine e_iast d_M_ownOne_82 (show vp_in (7 : Int32) (hl σ 7 14) from by rw [hM.l_one]; unfold vp_in; decide +kernel) ?_
  rw [show (7 : Int32).toNatClampNeg = 7 from by decide +kernel]
  exact e_vret d_M_ownOne_83 rfl ⟨rfl, (by unfold mOwn; rw [← sIA_of_8]; simp [I_sI])⟩
set_option maxHeartbeats 4000000 in
set_option maxRecDepth 100000 in
theorem ct_M_toldOne_n {l : Launch} (hl0 : l.stackTraces = false) {G : LG} {σ : HS} {p : Nat} {v : Int32} (hM : MS σ) (hp : p < 40) (hb : hI σ 7 13 (p / 4) = v) (hv : v < 0) : Ct l G m_M_toldOne [.ref (6 + 16 * 0), .int (nI p)] (σ) (qd (.inr none) (sA σ 7 14 (mTold σ p))) := by
  refine Ct.of hl0 rfl rfl (Nat.le_of_ble_eq_true rfl) ?_
  show Ex l G m_M_toldOne (pmV G m_M_toldOne (qd (.inr none) (sA σ 7 14 (mTold σ p)))) 0 [(0, .ref (6 + 16 * 0)), (1, .int (nI p))] [] (σ) 0 0
  refine e_iload_n d_M_toldOne_0 rfl rfl ?_
  refine e_iconst (v := 4) d_M_toldOne_1 (by decide) ?_
  refine e_idiv d_M_toldOne_2 (by decide) ?_
  rw [show (nI p) / (4) = nI (p / 4) from nI_div4 (by omega)]
  refine e_istore_n (lv' := [(2, .int (nI (p / 4))), (0, .ref (6 + 16 * 0)), (1, .int (nI p))]) d_M_toldOne_3 rfl (by decide) rfl ?_
  refine e_aload_n d_M_toldOne_4 rfl rfl ?_
  refine g_M_69 (b := 7 + 16 * 13) rfl d_M_toldOne_5 hM.a_bests ?_
  refine e_iload_n d_M_toldOne_8 rfl rfl ?_
  refine e_iald d_M_toldOne_9 (show vp_in (nI (p / 4)) (hl σ 7 13) from by rw [hM.l_bests]; exact nI_in (by omega) (by decide)) ?_
  rw [nI_clamp (show p / 4 < 2 ^ 31 by omega)]
  rw [hb]
  refine e_istore_n (lv' := [(3, .int (v)), (2, .int (nI (p / 4))), (0, .ref (6 + 16 * 0)), (1, .int (nI p))]) d_M_toldOne_10 rfl (by decide) rfl ?_
  refine e_iload_n d_M_toldOne_11 rfl rfl ?_
  refine e_ifge (tgt := 26) d_M_toldOne_12 (by decide) (fun h12 => absurd h12 (Int32.not_le.mpr hv)) (fun h12 => ?_)
  refine e_aload_n d_M_toldOne_15 rfl rfl ?_
  refine e_iload_n d_M_toldOne_16 rfl rfl ?_
  refine e_iload_n d_M_toldOne_17 rfl rfl ?_
  refine e_iconst (v := 4) d_M_toldOne_18 (by decide) ?_
  refine e_irem d_M_toldOne_19 (by decide) ?_
  rw [show (nI p) - (nI p) / (4) * (4) = nI (p % 4) from nI_mod4 (by omega)]
  refine e_callVd (v := none) (σ' := sA σ 7 14 (mOwn σ (p / 4) (nI (p % 4)))) (q := 6) (a := 0) (As := [.int (nI (p / 4)), .int (nI (p % 4))]) (st := []) 0 0 d_M_toldOne_20 cb_M_toldOne_82 iv_M_ownOne rfl ⟨by decide, rfl⟩ rfl (Nat.le_of_ble_eq_true rfl) (by decide) (by decide) (ct_M_ownOne hl0 hM (by omega)) ?_
  show Ex l G m_M_toldOne (pmV G m_M_toldOne (qd (.inr none) (sA σ 7 14 (mTold σ p)))) 23 [(3, .int (v)), (2, .int (nI (p / 4))), (0, .ref (6 + 16 * 0)), (1, .int (nI p))] [] (sA σ 7 14 (mOwn σ (p / 4) (nI (p % 4)))) 0 0
  refine e_goto (tgt := 77) d_M_toldOne_23 (by decide) ?_
  exact e_vret d_M_toldOne_77 rfl ⟨rfl, (by unfold mTold; rw [hb, if_pos hv])⟩
theorem told_eq {σ : HS} {b : Nat} {x i u : Int32} : sI (sI (sI (sI (sA σ 7 14 (cpy (fun k => hI σ 7 9 (8 * b + k)) 8 (hI σ 7 14))) 7 14 4 x) 7 14 5 i) 7 14 6 u) 7 14 7 u = sA σ 7 14 (v8 (hI σ 7 9 (8 * b)) (hI σ 7 9 (8 * b + 1)) (hI σ 7 9 (8 * b + 2)) (hI σ 7 9 (8 * b + 3)) x i u u (hI σ 7 14)) := by
  rw [sA_sI, sA_sI, sA_sI, sA_sI]
  refine sA_eq (fun k => ?_)
  match k with
  | 0 => simp [v8, upI, cpy]
  | 1 => simp [v8, upI, cpy]
  | 2 => simp [v8, upI, cpy]
  | 3 => simp [v8, upI, cpy]
  | 4 => simp [v8, upI, cpy]
  | 5 => simp [v8, upI, cpy]
  | 6 => simp [v8, upI, cpy]
  | 7 => simp [v8, upI, cpy]
  | k + 8 => simp [v8, upI, cpy, show ¬ k + 8 < 8 by omega, show ¬ k + 8 = 4 by omega, show ¬ k + 8 = 5 by omega, show ¬ k + 8 = 6 by omega, show ¬ k + 8 = 7 by omega]
set_option maxHeartbeats 4000000 in
set_option maxRecDepth 100000 in
theorem ct_M_toldOne_s {l : Launch} (hl0 : l.stackTraces = false) {G : LG} {σ : HS} {p b : Nat} (hM : MS σ) (hp : p < 40) (hb : hI σ 7 13 (p / 4) = nI b) (hb4 : b < 40) : Ct l G m_M_toldOne [.ref (6 + 16 * 0), .int (nI p)] (σ) (qd (.inr none) (sA σ 7 14 (mTold σ p))) := by
  refine Ct.of hl0 rfl rfl (Nat.le_of_ble_eq_true rfl) ?_
  show Ex l G m_M_toldOne (pmV G m_M_toldOne (qd (.inr none) (sA σ 7 14 (mTold σ p)))) 0 [(0, .ref (6 + 16 * 0)), (1, .int (nI p))] [] (σ) 0 0
  refine e_iload_n d_M_toldOne_0 rfl rfl ?_
  refine e_iconst (v := 4) d_M_toldOne_1 (by decide) ?_
  refine e_idiv d_M_toldOne_2 (by decide) ?_
  rw [show (nI p) / (4) = nI (p / 4) from nI_div4 (by omega)]
  refine e_istore_n (lv' := [(2, .int (nI (p / 4))), (0, .ref (6 + 16 * 0)), (1, .int (nI p))]) d_M_toldOne_3 rfl (by decide) rfl ?_
  refine e_aload_n d_M_toldOne_4 rfl rfl ?_
  refine g_M_69 (b := 7 + 16 * 13) rfl d_M_toldOne_5 hM.a_bests ?_
  refine e_iload_n d_M_toldOne_8 rfl rfl ?_
  refine e_iald d_M_toldOne_9 (show vp_in (nI (p / 4)) (hl σ 7 13) from by rw [hM.l_bests]; exact nI_in (by omega) (by decide)) ?_
  rw [nI_clamp (show p / 4 < 2 ^ 31 by omega)]
  rw [hb]
  refine e_istore_n (lv' := [(3, .int (nI b)), (2, .int (nI (p / 4))), (0, .ref (6 + 16 * 0)), (1, .int (nI p))]) d_M_toldOne_10 rfl (by decide) rfl ?_
  refine e_iload_n d_M_toldOne_11 rfl rfl ?_
  refine e_ifge (tgt := 26) d_M_toldOne_12 (by decide) (fun h12 => ?_) (fun h12 => absurd (nI_pos' (by omega)) h12)
  refine e_aload_n d_M_toldOne_26 rfl rfl ?_
  refine e_iload_n d_M_toldOne_27 rfl rfl ?_
  refine e_callVd (v := none) (σ' := sA σ 7 14 (cpy (fun k => hI σ 7 9 (8 * b + k)) 8 (hI σ 7 14))) (q := 6) (a := 0) (As := [.int (nI b)]) (st := []) 0 0 d_M_toldOne_28 cb_M_toldOne_86 iv_M_keptOne rfl ⟨by decide, rfl⟩ rfl (Nat.le_of_ble_eq_true rfl) (by decide) (by decide) (ct_M_keptOne hl0 hM hb4) ?_
  show Ex l G m_M_toldOne (pmV G m_M_toldOne (qd (.inr none) (sA σ 7 14 (mTold σ p)))) 31 [(3, .int (nI b)), (2, .int (nI (p / 4))), (0, .ref (6 + 16 * 0)), (1, .int (nI p))] [] (sA σ 7 14 (cpy (fun k => hI σ 7 9 (8 * b + k)) 8 (hI σ 7 14))) 0 0
  refine e_aload_n d_M_toldOne_31 rfl rfl ?_
  refine g_M_72 (b := 7 + 16 * 14) rfl d_M_toldOne_32 hM.a_one ?_
  refine e_iconst (v := 4) d_M_toldOne_35 (by decide) ?_
  refine e_aload_n d_M_toldOne_36 rfl rfl ?_
  refine g_M_72 (b := 7 + 16 * 14) rfl d_M_toldOne_37 hM.a_one ?_
  refine e_iconst (v := 4) d_M_toldOne_40 (by decide) ?_
  refine e_iald d_M_toldOne_41 (show vp_in (4 : Int32) (hl σ 7 14) from by rw [hM.l_one]; unfold vp_in; decide +kernel) ?_
  rw [show (4 : Int32).toNatClampNeg = 4 from by decide +kernel]
  rw [show hI (sA σ 7 14 (cpy (fun k => hI σ 7 9 (8 * b + k)) 8 (hI σ 7 14))) 7 (14) (4) = hI σ 7 9 (8 * b + 4) from by rw [I_sA, if_pos ⟨rfl, rfl⟩]; rfl]
  refine e_iconst (v := 1) d_M_toldOne_42 (by decide) ?_
  refine e_iadd d_M_toldOne_43 ?_
  refine e_iast d_M_toldOne_44 (show vp_in (4 : Int32) (hl σ 7 14) from by rw [hM.l_one]; unfold vp_in; decide +kernel) ?_
  rw [show (4 : Int32).toNatClampNeg = 4 from by decide +kernel]
  refine e_aload_n d_M_toldOne_45 rfl rfl ?_
  refine g_M_72 (b := 7 + 16 * 14) rfl d_M_toldOne_46 hM.a_one ?_
  refine e_iconst (v := 5) d_M_toldOne_49 (by decide) ?_
  refine e_aload_n d_M_toldOne_50 rfl rfl ?_
  refine g_M_7 (b := 7 + 16 * 0) rfl d_M_toldOne_51 hM.a_identities ?_
  refine e_iload_n d_M_toldOne_54 rfl rfl ?_
  refine e_iald d_M_toldOne_55 (show vp_in (nI (p / 4)) (hl σ 7 0) from by rw [hM.l_identities]; exact nI_in (by omega) (by decide)) ?_
  rw [nI_clamp (show p / 4 < 2 ^ 31 by omega)]
  rw [show hI (sI (sA σ 7 14 (cpy (fun k => hI σ 7 9 (8 * b + k)) 8 (hI σ 7 14))) 7 (14) (4) ((hI σ 7 9 (8 * b + 4)) + (1))) 7 (0) (p / 4) = hI σ 7 0 (p / 4) from by rw [I_sI, if_neg (by omega), I_sA, if_neg (by omega)]]
  refine e_iast d_M_toldOne_56 (show vp_in (5 : Int32) (hl σ 7 14) from by rw [hM.l_one]; unfold vp_in; decide +kernel) ?_
  rw [show (5 : Int32).toNatClampNeg = 5 from by decide +kernel]
  refine e_aload_n d_M_toldOne_57 rfl rfl ?_
  refine g_M_72 (b := 7 + 16 * 14) rfl d_M_toldOne_58 hM.a_one ?_
  refine e_bipush (v := 6) d_M_toldOne_61 (by decide) ?_
  refine e_iload_n d_M_toldOne_63 rfl rfl ?_
  refine e_iconst (v := 4) d_M_toldOne_64 (by decide) ?_
  refine e_irem d_M_toldOne_65 (by decide) ?_
  rw [show (nI p) - (nI p) / (4) * (4) = nI (p % 4) from nI_mod4 (by omega)]
  refine e_iast d_M_toldOne_66 (show vp_in (6 : Int32) (hl σ 7 14) from by rw [hM.l_one]; unfold vp_in; decide +kernel) ?_
  rw [show (6 : Int32).toNatClampNeg = 6 from by decide +kernel]
  refine e_aload_n d_M_toldOne_67 rfl rfl ?_
  refine g_M_72 (b := 7 + 16 * 14) rfl d_M_toldOne_68 hM.a_one ?_
  refine e_bipush (v := 7) d_M_toldOne_71 (by decide) ?_
  refine e_iload_n d_M_toldOne_73 rfl rfl ?_
  refine e_iconst (v := 4) d_M_toldOne_74 (by decide) ?_
  refine e_irem d_M_toldOne_75 (by decide) ?_
  rw [show (nI p) - (nI p) / (4) * (4) = nI (p % 4) from nI_mod4 (by omega)]
  refine e_iast d_M_toldOne_76 (show vp_in (7 : Int32) (hl σ 7 14) from by rw [hM.l_one]; unfold vp_in; decide +kernel) ?_
  rw [show (7 : Int32).toNatClampNeg = 7 from by decide +kernel]
  exact e_vret d_M_toldOne_77 rfl ⟨rfl, (by rw [told_eq]; unfold mTold; rw [hb, if_neg (nI_pos (by omega)), nI_clamp (by omega)])⟩
theorem ct_M_toldOne {l : Launch} (hl0 : l.stackTraces = false) {G : LG} {σ : HS} {p : Nat} (hM : MS σ) (hp : p < 40) (hb : hI σ 7 13 (p / 4) < 0 ∨ ∃ b, b < 40 ∧ hI σ 7 13 (p / 4) = nI b) : Ct l G m_M_toldOne [.ref (6 + 16 * 0), .int (nI p)] σ (qd (.inr none) (sA σ 7 14 (mTold σ p))) := by
  rcases hb with h | ⟨b, hb4, h⟩
  · exact ct_M_toldOne_n hl0 hM hp rfl h
  · exact ct_M_toldOne_s hl0 hM hp h hb4
