/-- n places from lo on are taken from f -/
def cpr (f : Nat → Int32) (lo n : Nat) (g : Nat → Int32) : Nat → Int32 := fun k => if lo ≤ k ∧ k < lo + n then f k else g k
theorem cpr_0 {f g : Nat → Int32} {lo : Nat} : cpr f lo 0 g = g := by funext k; simp [cpr]; omega
theorem cpr_s {f g : Nat → Int32} {lo n : Nat} : upI (cpr f lo n g) (lo + n) (f (lo + n)) = cpr f lo (n + 1) g := by
  funext k
  unfold upI cpr
  by_cases h : k = lo + n
  · subst h; rw [if_pos rfl, if_pos ⟨by omega, by omega⟩]
  · rw [if_neg h]
    by_cases h2 : lo ≤ k ∧ k < lo + n
    · rw [if_pos h2, if_pos ⟨h2.1, by omega⟩]
    · rw [if_neg h2, if_neg (by omega)]
def heT (σ : HS) (p : Nat) : Prop := ¬ hI σ 8 2 p = 0 ∧ ¬ hI σ 7 10 (8 * p + 4) = 15 ∧ ¬ hI σ 7 10 (8 * p + 3) = hI σ 7 0 (p / 4)
def htK (σ : HS) (p : Nat) : HS := sI (sI σ 8 1 p 1) 7 8 p 0
def htS (σ : HS) (p : Nat) : HS := sA (htK σ p) 7 9 (cpr (hI σ 7 10) (8 * p) 8 (hI σ 7 9))
def hgS (σ : HS) (p : Nat) : HS := sI (sI σ 7 8 p (hI σ 7 8 p + 1)) 8 1 p (if 3 ≤ hI σ 7 8 p + 1 then 0 else 1)
set_option maxHeartbeats 4000000 in
theorem lp_M_hear {l : Launch} (hl0 : l.stackTraces = false) {G : LG} {σ : HS} {p : Nat} (hM : MS σ) (hp : p < 40) : ∀ m j, j + m = 8 → Ex l G m_M_hear (pmV G m_M_hear (qd (.inr none) (htS σ p))) 73 [(3, .int (nI j)), (2, .int (1)), (0, .ref (6 + 16 * 0)), (1, .int (nI p))] [] (sA (htK σ p) 7 9 (cpr (hI σ 7 10) (8 * p) j (hI σ 7 9))) 0 0 := by
  intro m
  induction m with
  | zero =>
    intro j hj
    obtain rfl : j = 8 := by omega
    refine e_iload_n d_M_hear_73 rfl rfl ?_
    refine e_bipush (v := 8) d_M_hear_74 (by decide) ?_
    refine e_icmpge (tgt := 107) d_M_hear_76 (by decide) (fun h76 => ?_) (fun h76 => absurd lp8t h76)
    refine e_goto (tgt := 150) d_M_hear_107 (by decide) ?_
    exact e_vret d_M_hear_150 rfl ⟨rfl, rfl⟩
  | succ m ih =>
    intro j hj
    have hj8 : j < 8 := by omega
    refine e_iload_n d_M_hear_73 rfl rfl ?_
    refine e_bipush (v := 8) d_M_hear_74 (by decide) ?_
    refine e_icmpge (tgt := 107) d_M_hear_76 (by decide) (fun h76 => absurd h76 (lp8f j hj8)) (fun h76 => ?_)
    refine e_aload_n d_M_hear_79 rfl rfl ?_
    refine g_M_51 (b := 7 + 16 * 9) rfl d_M_hear_80 hM.a_data ?_
    refine e_bipush (v := 8) d_M_hear_83 (by decide) ?_
    refine e_iload_n d_M_hear_85 rfl rfl ?_
    refine e_imul d_M_hear_86 ?_
    rw [show (8) * (nI p) = nI (8 * p) from by rw [show (8 : Int32) = nI 8 from by decide +kernel, nJ_mul]]
    refine e_iload_n d_M_hear_87 rfl rfl ?_
    refine e_iadd d_M_hear_88 ?_
    rw [show (nI (8 * p)) + (nI j) = nI ((8 * p) + j) from by rw [nJ_add]]
    refine e_aload_n d_M_hear_89 rfl rfl ?_
    refine g_M_57 (b := 7 + 16 * 10) rfl d_M_hear_90 hM.a_coming ?_
    refine e_bipush (v := 8) d_M_hear_93 (by decide) ?_
    refine e_iload_n d_M_hear_95 rfl rfl ?_
    refine e_imul d_M_hear_96 ?_
    rw [show (8) * (nI p) = nI (8 * p) from by rw [show (8 : Int32) = nI 8 from by decide +kernel, nJ_mul]]
    refine e_iload_n d_M_hear_97 rfl rfl ?_
    refine e_iadd d_M_hear_98 ?_
    rw [show (nI (8 * p)) + (nI j) = nI ((8 * p) + j) from by rw [nJ_add]]
    refine e_iald d_M_hear_99 (show vp_in (nI ((8 * p) + j)) (hl σ 7 10) from by rw [hM.l_coming]; exact nI_in (by omega) (by decide)) ?_
    rw [nI_clamp (show (8 * p) + j < 2 ^ 31 by omega)]
    rw [show hI (sA (htK σ p) 7 9 (cpr (hI σ 7 10) (8 * p) j (hI σ 7 9))) 7 (10) ((8 * p) + j) = hI σ 7 10 (8 * p + j) from by rw [I_sA, if_neg (by omega)]; unfold htK; rw [I_sI, if_neg (by omega), I_sI, if_neg (by omega)]]
    refine e_iast d_M_hear_100 (show vp_in (nI ((8 * p) + j)) (hl σ 7 9) from by rw [hM.l_data]; exact nI_in (by omega) (by decide)) ?_
    rw [nI_clamp (show (8 * p) + j < 2 ^ 31 by omega)]
    rw [sA_sI, cpr_s]
    refine e_iinc (v := nI (j + 1)) (lv' := [(3, .int (nI (j + 1))), (2, .int (1)), (0, .ref (6 + 16 * 0)), (1, .int (nI p))]) d_M_hear_101 rfl (ofI1 j) (by decide) rfl ?_
    refine e_goto (tgt := 73) d_M_hear_104 (by decide) ?_
    exact ih (j + 1) (by omega)
theorem htK_9 {σ : HS} {p : Nat} : hI (htK σ p) 7 9 = hI σ 7 9 := by
  funext k
  unfold htK
  rw [I_sI, if_neg (by omega), I_sI, if_neg (by omega)]
theorem htK_self {σ : HS} {p : Nat} : sA (htK σ p) 7 9 (hI σ 7 9) = htK σ p := by rw [← htK_9]; exact sA_self
set_option maxHeartbeats 4000000 in
set_option maxRecDepth 100000 in
theorem ct_M_hear_t {l : Launch} (hl0 : l.stackTraces = false) {G : LG} {σ : HS} {p : Nat} (hM : MS σ) (hp : p < 40) (ht : heT σ p) : Ct l G m_M_hear [.ref (6 + 16 * 0), .int (nI p)] (σ) (qd (.inr none) (htS σ p)) := by
  refine Ct.of hl0 rfl rfl (Nat.le_of_ble_eq_true rfl) ?_
  show Ex l G m_M_hear (pmV G m_M_hear (qd (.inr none) (htS σ p))) 0 [(0, .ref (6 + 16 * 0)), (1, .int (nI p))] [] (σ) 0 0
  refine e_aload_n d_M_hear_0 rfl rfl ?_
  refine g_M_54 (b := 8 + 16 * 2) rfl d_M_hear_1 hM.a_comes ?_
  refine e_iload_n d_M_hear_4 rfl rfl ?_
  refine e_zald d_M_hear_5 (show vp_in (nI p) (hl σ 8 2) from by rw [hM.l_comes]; exact nI_in (by omega) (by decide)) ?_
  rw [nI_clamp (show p < 2 ^ 31 by omega)]
  refine e_ifeq (tgt := 51) d_M_hear_6 (by decide) (fun h6 => absurd h6 ht.1) (fun h6 => ?_)
  refine e_aload_n d_M_hear_9 rfl rfl ?_
  refine g_M_57 (b := 7 + 16 * 10) rfl d_M_hear_10 hM.a_coming ?_
  refine e_bipush (v := 8) d_M_hear_13 (by decide) ?_
  refine e_iload_n d_M_hear_15 rfl rfl ?_
  refine e_imul d_M_hear_16 ?_
  rw [show (8) * (nI p) = nI (8 * p) from by rw [show (8 : Int32) = nI 8 from by decide +kernel, nJ_mul]]
  refine e_iconst (v := 4) d_M_hear_17 (by decide) ?_
  refine e_iadd d_M_hear_18 ?_
  rw [show (nI (8 * p)) + (4) = nI ((8 * p) + 4) from by rw [show (4 : Int32) = nI 4 from by decide +kernel, nJ_add]]
  refine e_iald d_M_hear_19 (show vp_in (nI ((8 * p) + 4)) (hl σ 7 10) from by rw [hM.l_coming]; exact nI_in (by omega) (by decide)) ?_
  rw [nI_clamp (show (8 * p) + 4 < 2 ^ 31 by omega)]
  refine e_bipush (v := 15) d_M_hear_20 (by decide) ?_
  refine e_icmpeq (tgt := 51) d_M_hear_22 (by decide) (fun h22 => absurd h22 ht.2.1) (fun h22 => ?_)
  refine e_aload_n d_M_hear_25 rfl rfl ?_
  refine g_M_57 (b := 7 + 16 * 10) rfl d_M_hear_26 hM.a_coming ?_
  refine e_bipush (v := 8) d_M_hear_29 (by decide) ?_
  refine e_iload_n d_M_hear_31 rfl rfl ?_
  refine e_imul d_M_hear_32 ?_
  rw [show (8) * (nI p) = nI (8 * p) from by rw [show (8 : Int32) = nI 8 from by decide +kernel, nJ_mul]]
  refine e_iconst (v := 3) d_M_hear_33 (by decide) ?_
  refine e_iadd d_M_hear_34 ?_
  rw [show (nI (8 * p)) + (3) = nI ((8 * p) + 3) from by rw [show (3 : Int32) = nI 3 from by decide +kernel, nJ_add]]
  refine e_iald d_M_hear_35 (show vp_in (nI ((8 * p) + 3)) (hl σ 7 10) from by rw [hM.l_coming]; exact nI_in (by omega) (by decide)) ?_
  rw [nI_clamp (show (8 * p) + 3 < 2 ^ 31 by omega)]
  refine e_aload_n d_M_hear_36 rfl rfl ?_
  refine g_M_7 (b := 7 + 16 * 0) rfl d_M_hear_37 hM.a_identities ?_
  refine e_iload_n d_M_hear_40 rfl rfl ?_
  refine e_iconst (v := 4) d_M_hear_41 (by decide) ?_
  refine e_idiv d_M_hear_42 (by decide) ?_
  rw [show (nI p) / (4) = nI (p / 4) from nI_div4 (by omega)]
  refine e_iald d_M_hear_43 (show vp_in (nI (p / 4)) (hl σ 7 0) from by rw [hM.l_identities]; exact nI_in (by omega) (by decide)) ?_
  rw [nI_clamp (show p / 4 < 2 ^ 31 by omega)]
  refine e_icmpeq (tgt := 51) d_M_hear_44 (by decide) (fun h44 => absurd h44 ht.2.2) (fun h44 => ?_)
  refine e_iconst (v := 1) d_M_hear_47 (by decide) ?_
  refine e_goto (tgt := 52) d_M_hear_48 (by decide) ?_
  refine e_istore_n (lv' := [(2, .int (1)), (0, .ref (6 + 16 * 0)), (1, .int (nI p))]) d_M_hear_52 rfl (by decide) rfl ?_
  refine e_iload_n d_M_hear_53 rfl rfl ?_
  refine e_ifeq (tgt := 110) d_M_hear_54 (by decide) (fun h54 => absurd h54 (by decide +kernel)) (fun h54 => ?_)
  refine e_aload_n d_M_hear_57 rfl rfl ?_
  refine g_M_45 (b := 8 + 16 * 1) rfl d_M_hear_58 hM.a_keeps ?_
  refine e_iload_n d_M_hear_61 rfl rfl ?_
  refine e_iconst (v := 1) d_M_hear_62 (by decide) ?_
  refine e_zast d_M_hear_63 (show vp_in (nI p) (hl σ 8 1) from by rw [hM.l_keeps]; exact nI_in (by omega) (by decide)) (by first | exact Or.inl rfl | exact Or.inr rfl) ?_
  rw [nI_clamp (show p < 2 ^ 31 by omega)]
  refine e_aload_n d_M_hear_64 rfl rfl ?_
  refine g_M_48 (b := 7 + 16 * 8) rfl d_M_hear_65 hM.a_ages ?_
  refine e_iload_n d_M_hear_68 rfl rfl ?_
  refine e_iconst (v := 0) d_M_hear_69 (by decide) ?_
  refine e_iast d_M_hear_70 (show vp_in (nI p) (hl σ 7 8) from by rw [hM.l_ages]; exact nI_in (by omega) (by decide)) ?_
  rw [nI_clamp (show p < 2 ^ 31 by omega)]
  refine e_iconst (v := 0) d_M_hear_71 (by decide) ?_
  refine e_istore_n (lv' := [(3, .int (0)), (2, .int (1)), (0, .ref (6 + 16 * 0)), (1, .int (nI p))]) d_M_hear_72 rfl (by decide) rfl ?_
  exact e_lv (lv' := [(3, .int (nI 0)), (2, .int (1)), (0, .ref (6 + 16 * 0)), (1, .int (nI p))]) ⟨rfl, rfl, rfl, rfl, trivial⟩ (by have h := lp_M_hear (l := l) (G := G) hl0 hM hp 8 0 rfl; rw [cpr_0, htK_self] at h; exact h)
set_option maxHeartbeats 4000000 in
set_option maxRecDepth 100000 in
theorem ct_M_hear_n {l : Launch} (hl0 : l.stackTraces = false) {G : LG} {σ : HS} {p : Nat} (hM : MS σ) (hp : p < 40) (hnt : ¬ heT σ p) (hk : hI σ 8 1 p = 0) : Ct l G m_M_hear [.ref (6 + 16 * 0), .int (nI p)] (σ) (qd (.inr none) σ) := by
  refine Ct.of hl0 rfl rfl (Nat.le_of_ble_eq_true rfl) ?_
  show Ex l G m_M_hear (pmV G m_M_hear (qd (.inr none) σ)) 0 [(0, .ref (6 + 16 * 0)), (1, .int (nI p))] [] (σ) 0 0
  refine e_aload_n d_M_hear_0 rfl rfl ?_
  refine g_M_54 (b := 8 + 16 * 2) rfl d_M_hear_1 hM.a_comes ?_
  refine e_iload_n d_M_hear_4 rfl rfl ?_
  refine e_zald d_M_hear_5 (show vp_in (nI p) (hl σ 8 2) from by rw [hM.l_comes]; exact nI_in (by omega) (by decide)) ?_
  rw [nI_clamp (show p < 2 ^ 31 by omega)]
  refine e_ifeq (tgt := 51) d_M_hear_6 (by decide) (fun h6 => ?_) (fun h6 => ?_)
  ·
    refine e_iconst (v := 0) d_M_hear_51 (by decide) ?_
    refine e_istore_n (lv' := [(2, .int (0)), (0, .ref (6 + 16 * 0)), (1, .int (nI p))]) d_M_hear_52 rfl (by decide) rfl ?_
    refine e_iload_n d_M_hear_53 rfl rfl ?_
    refine e_ifeq (tgt := 110) d_M_hear_54 (by decide) (fun h54 => ?_) (fun h54 => absurd (by decide +kernel) h54)
    refine e_aload_n d_M_hear_110 rfl rfl ?_
    refine g_M_45 (b := 8 + 16 * 1) rfl d_M_hear_111 hM.a_keeps ?_
    refine e_iload_n d_M_hear_114 rfl rfl ?_
    refine e_zald d_M_hear_115 (show vp_in (nI p) (hl σ 8 1) from by rw [hM.l_keeps]; exact nI_in (by omega) (by decide)) ?_
    rw [nI_clamp (show p < 2 ^ 31 by omega)]
    refine e_ifeq (tgt := 150) d_M_hear_116 (by decide) (fun h116 => ?_) (fun h116 => absurd hk h116)
    exact e_vret d_M_hear_150 rfl ⟨rfl, rfl⟩
  ·
    refine e_aload_n d_M_hear_9 rfl rfl ?_
    refine g_M_57 (b := 7 + 16 * 10) rfl d_M_hear_10 hM.a_coming ?_
    refine e_bipush (v := 8) d_M_hear_13 (by decide) ?_
    refine e_iload_n d_M_hear_15 rfl rfl ?_
    refine e_imul d_M_hear_16 ?_
    rw [show (8) * (nI p) = nI (8 * p) from by rw [show (8 : Int32) = nI 8 from by decide +kernel, nJ_mul]]
    refine e_iconst (v := 4) d_M_hear_17 (by decide) ?_
    refine e_iadd d_M_hear_18 ?_
    rw [show (nI (8 * p)) + (4) = nI ((8 * p) + 4) from by rw [show (4 : Int32) = nI 4 from by decide +kernel, nJ_add]]
    refine e_iald d_M_hear_19 (show vp_in (nI ((8 * p) + 4)) (hl σ 7 10) from by rw [hM.l_coming]; exact nI_in (by omega) (by decide)) ?_
    rw [nI_clamp (show (8 * p) + 4 < 2 ^ 31 by omega)]
    refine e_bipush (v := 15) d_M_hear_20 (by decide) ?_
    refine e_icmpeq (tgt := 51) d_M_hear_22 (by decide) (fun h22 => ?_) (fun h22 => ?_)
    ·
      refine e_iconst (v := 0) d_M_hear_51 (by decide) ?_
      refine e_istore_n (lv' := [(2, .int (0)), (0, .ref (6 + 16 * 0)), (1, .int (nI p))]) d_M_hear_52 rfl (by decide) rfl ?_
      refine e_iload_n d_M_hear_53 rfl rfl ?_
      refine e_ifeq (tgt := 110) d_M_hear_54 (by decide) (fun h54 => ?_) (fun h54 => absurd (by decide +kernel) h54)
      refine e_aload_n d_M_hear_110 rfl rfl ?_
      refine g_M_45 (b := 8 + 16 * 1) rfl d_M_hear_111 hM.a_keeps ?_
      refine e_iload_n d_M_hear_114 rfl rfl ?_
      refine e_zald d_M_hear_115 (show vp_in (nI p) (hl σ 8 1) from by rw [hM.l_keeps]; exact nI_in (by omega) (by decide)) ?_
      rw [nI_clamp (show p < 2 ^ 31 by omega)]
      refine e_ifeq (tgt := 150) d_M_hear_116 (by decide) (fun h116 => ?_) (fun h116 => absurd hk h116)
      exact e_vret d_M_hear_150 rfl ⟨rfl, rfl⟩
    ·
      refine e_aload_n d_M_hear_25 rfl rfl ?_
      refine g_M_57 (b := 7 + 16 * 10) rfl d_M_hear_26 hM.a_coming ?_
      refine e_bipush (v := 8) d_M_hear_29 (by decide) ?_
      refine e_iload_n d_M_hear_31 rfl rfl ?_
      refine e_imul d_M_hear_32 ?_
      rw [show (8) * (nI p) = nI (8 * p) from by rw [show (8 : Int32) = nI 8 from by decide +kernel, nJ_mul]]
      refine e_iconst (v := 3) d_M_hear_33 (by decide) ?_
      refine e_iadd d_M_hear_34 ?_
      rw [show (nI (8 * p)) + (3) = nI ((8 * p) + 3) from by rw [show (3 : Int32) = nI 3 from by decide +kernel, nJ_add]]
      refine e_iald d_M_hear_35 (show vp_in (nI ((8 * p) + 3)) (hl σ 7 10) from by rw [hM.l_coming]; exact nI_in (by omega) (by decide)) ?_
      rw [nI_clamp (show (8 * p) + 3 < 2 ^ 31 by omega)]
      refine e_aload_n d_M_hear_36 rfl rfl ?_
      refine g_M_7 (b := 7 + 16 * 0) rfl d_M_hear_37 hM.a_identities ?_
      refine e_iload_n d_M_hear_40 rfl rfl ?_
      refine e_iconst (v := 4) d_M_hear_41 (by decide) ?_
      refine e_idiv d_M_hear_42 (by decide) ?_
      rw [show (nI p) / (4) = nI (p / 4) from nI_div4 (by omega)]
      refine e_iald d_M_hear_43 (show vp_in (nI (p / 4)) (hl σ 7 0) from by rw [hM.l_identities]; exact nI_in (by omega) (by decide)) ?_
      rw [nI_clamp (show p / 4 < 2 ^ 31 by omega)]
      refine e_icmpeq (tgt := 51) d_M_hear_44 (by decide) (fun h44 => ?_) (fun h44 => absurd (Decidable.byContradiction fun z => hnt ⟨h6, h22, z⟩) h44)
      refine e_iconst (v := 0) d_M_hear_51 (by decide) ?_
      refine e_istore_n (lv' := [(2, .int (0)), (0, .ref (6 + 16 * 0)), (1, .int (nI p))]) d_M_hear_52 rfl (by decide) rfl ?_
      refine e_iload_n d_M_hear_53 rfl rfl ?_
      refine e_ifeq (tgt := 110) d_M_hear_54 (by decide) (fun h54 => ?_) (fun h54 => absurd (by decide +kernel) h54)
      refine e_aload_n d_M_hear_110 rfl rfl ?_
      refine g_M_45 (b := 8 + 16 * 1) rfl d_M_hear_111 hM.a_keeps ?_
      refine e_iload_n d_M_hear_114 rfl rfl ?_
      refine e_zald d_M_hear_115 (show vp_in (nI p) (hl σ 8 1) from by rw [hM.l_keeps]; exact nI_in (by omega) (by decide)) ?_
      rw [nI_clamp (show p < 2 ^ 31 by omega)]
      refine e_ifeq (tgt := 150) d_M_hear_116 (by decide) (fun h116 => ?_) (fun h116 => absurd hk h116)
      exact e_vret d_M_hear_150 rfl ⟨rfl, rfl⟩
set_option maxHeartbeats 4000000 in
set_option maxRecDepth 100000 in
theorem ct_M_hear_g {l : Launch} (hl0 : l.stackTraces = false) {G : LG} {σ : HS} {p : Nat} (hM : MS σ) (hp : p < 40) (hnt : ¬ heT σ p) (hk : ¬ hI σ 8 1 p = 0) : Ct l G m_M_hear [.ref (6 + 16 * 0), .int (nI p)] (σ) (qd (.inr none) (hgS σ p)) := by
  refine Ct.of hl0 rfl rfl (Nat.le_of_ble_eq_true rfl) ?_
  show Ex l G m_M_hear (pmV G m_M_hear (qd (.inr none) (hgS σ p))) 0 [(0, .ref (6 + 16 * 0)), (1, .int (nI p))] [] (σ) 0 0
  refine e_aload_n d_M_hear_0 rfl rfl ?_
  refine g_M_54 (b := 8 + 16 * 2) rfl d_M_hear_1 hM.a_comes ?_
  refine e_iload_n d_M_hear_4 rfl rfl ?_
  refine e_zald d_M_hear_5 (show vp_in (nI p) (hl σ 8 2) from by rw [hM.l_comes]; exact nI_in (by omega) (by decide)) ?_
  rw [nI_clamp (show p < 2 ^ 31 by omega)]
  refine e_ifeq (tgt := 51) d_M_hear_6 (by decide) (fun h6 => ?_) (fun h6 => ?_)
  ·
    refine e_iconst (v := 0) d_M_hear_51 (by decide) ?_
    refine e_istore_n (lv' := [(2, .int (0)), (0, .ref (6 + 16 * 0)), (1, .int (nI p))]) d_M_hear_52 rfl (by decide) rfl ?_
    refine e_iload_n d_M_hear_53 rfl rfl ?_
    refine e_ifeq (tgt := 110) d_M_hear_54 (by decide) (fun h54 => ?_) (fun h54 => absurd (by decide +kernel) h54)
    refine e_aload_n d_M_hear_110 rfl rfl ?_
    refine g_M_45 (b := 8 + 16 * 1) rfl d_M_hear_111 hM.a_keeps ?_
    refine e_iload_n d_M_hear_114 rfl rfl ?_
    refine e_zald d_M_hear_115 (show vp_in (nI p) (hl σ 8 1) from by rw [hM.l_keeps]; exact nI_in (by omega) (by decide)) ?_
    rw [nI_clamp (show p < 2 ^ 31 by omega)]
    refine e_ifeq (tgt := 150) d_M_hear_116 (by decide) (fun h116 => absurd h116 hk) (fun h116 => ?_)
    refine e_aload_n d_M_hear_119 rfl rfl ?_
    refine g_M_48 (b := 7 + 16 * 8) rfl d_M_hear_120 hM.a_ages ?_
    refine e_iload_n d_M_hear_123 rfl rfl ?_
    refine e_dup2 d_M_hear_124 rfl rfl ?_
    refine e_iald d_M_hear_125 (show vp_in (nI p) (hl σ 7 8) from by rw [hM.l_ages]; exact nI_in (by omega) (by decide)) ?_
    rw [nI_clamp (show p < 2 ^ 31 by omega)]
    refine e_iconst (v := 1) d_M_hear_126 (by decide) ?_
    refine e_iadd d_M_hear_127 ?_
    refine e_iast d_M_hear_128 (show vp_in (nI p) (hl σ 7 8) from by rw [hM.l_ages]; exact nI_in (by omega) (by decide)) ?_
    rw [nI_clamp (show p < 2 ^ 31 by omega)]
    refine e_aload_n d_M_hear_129 rfl rfl ?_
    refine g_M_45 (b := 8 + 16 * 1) rfl d_M_hear_130 hM.a_keeps ?_
    refine e_iload_n d_M_hear_133 rfl rfl ?_
    refine e_aload_n d_M_hear_134 rfl rfl ?_
    refine g_M_48 (b := 7 + 16 * 8) rfl d_M_hear_135 hM.a_ages ?_
    refine e_iload_n d_M_hear_138 rfl rfl ?_
    refine e_iald d_M_hear_139 (show vp_in (nI p) (hl σ 7 8) from by rw [hM.l_ages]; exact nI_in (by omega) (by decide)) ?_
    rw [nI_clamp (show p < 2 ^ 31 by omega)]
    rw [show hI (sI (σ) 7 (8) (p) ((hI (σ) 7 (8) (p)) + (1))) 7 (8) (p) = hI σ 7 8 p + 1 from by rw [I_sI, if_pos ⟨rfl, rfl, rfl⟩]]
    refine e_iconst (v := 3) d_M_hear_140 (by decide) ?_
    refine e_icmpge (tgt := 148) d_M_hear_141 (by decide) (fun h141 => ?_) (fun h141 => ?_)
    ·
      refine e_iconst (v := 0) d_M_hear_148 (by decide) ?_
      refine e_zast d_M_hear_149 (show vp_in (nI p) (hl σ 8 1) from by rw [hM.l_keeps]; exact nI_in (by omega) (by decide)) (by first | exact Or.inl rfl | exact Or.inr rfl) ?_
      rw [nI_clamp (show p < 2 ^ 31 by omega)]
      exact e_vret d_M_hear_150 rfl ⟨rfl, by unfold hgS; rw [if_pos h141]⟩
    ·
      refine e_iconst (v := 1) d_M_hear_144 (by decide) ?_
      refine e_goto (tgt := 149) d_M_hear_145 (by decide) ?_
      refine e_zast d_M_hear_149 (show vp_in (nI p) (hl σ 8 1) from by rw [hM.l_keeps]; exact nI_in (by omega) (by decide)) (by first | exact Or.inl rfl | exact Or.inr rfl) ?_
      rw [nI_clamp (show p < 2 ^ 31 by omega)]
      exact e_vret d_M_hear_150 rfl ⟨rfl, by unfold hgS; rw [if_neg h141]⟩
  ·
    refine e_aload_n d_M_hear_9 rfl rfl ?_
    refine g_M_57 (b := 7 + 16 * 10) rfl d_M_hear_10 hM.a_coming ?_
    refine e_bipush (v := 8) d_M_hear_13 (by decide) ?_
    refine e_iload_n d_M_hear_15 rfl rfl ?_
    refine e_imul d_M_hear_16 ?_
    rw [show (8) * (nI p) = nI (8 * p) from by rw [show (8 : Int32) = nI 8 from by decide +kernel, nJ_mul]]
    refine e_iconst (v := 4) d_M_hear_17 (by decide) ?_
    refine e_iadd d_M_hear_18 ?_
    rw [show (nI (8 * p)) + (4) = nI ((8 * p) + 4) from by rw [show (4 : Int32) = nI 4 from by decide +kernel, nJ_add]]
    refine e_iald d_M_hear_19 (show vp_in (nI ((8 * p) + 4)) (hl σ 7 10) from by rw [hM.l_coming]; exact nI_in (by omega) (by decide)) ?_
    rw [nI_clamp (show (8 * p) + 4 < 2 ^ 31 by omega)]
    refine e_bipush (v := 15) d_M_hear_20 (by decide) ?_
    refine e_icmpeq (tgt := 51) d_M_hear_22 (by decide) (fun h22 => ?_) (fun h22 => ?_)
    ·
      refine e_iconst (v := 0) d_M_hear_51 (by decide) ?_
      refine e_istore_n (lv' := [(2, .int (0)), (0, .ref (6 + 16 * 0)), (1, .int (nI p))]) d_M_hear_52 rfl (by decide) rfl ?_
      refine e_iload_n d_M_hear_53 rfl rfl ?_
      refine e_ifeq (tgt := 110) d_M_hear_54 (by decide) (fun h54 => ?_) (fun h54 => absurd (by decide +kernel) h54)
      refine e_aload_n d_M_hear_110 rfl rfl ?_
      refine g_M_45 (b := 8 + 16 * 1) rfl d_M_hear_111 hM.a_keeps ?_
      refine e_iload_n d_M_hear_114 rfl rfl ?_
      refine e_zald d_M_hear_115 (show vp_in (nI p) (hl σ 8 1) from by rw [hM.l_keeps]; exact nI_in (by omega) (by decide)) ?_
      rw [nI_clamp (show p < 2 ^ 31 by omega)]
      refine e_ifeq (tgt := 150) d_M_hear_116 (by decide) (fun h116 => absurd h116 hk) (fun h116 => ?_)
      refine e_aload_n d_M_hear_119 rfl rfl ?_
      refine g_M_48 (b := 7 + 16 * 8) rfl d_M_hear_120 hM.a_ages ?_
      refine e_iload_n d_M_hear_123 rfl rfl ?_
      refine e_dup2 d_M_hear_124 rfl rfl ?_
      refine e_iald d_M_hear_125 (show vp_in (nI p) (hl σ 7 8) from by rw [hM.l_ages]; exact nI_in (by omega) (by decide)) ?_
      rw [nI_clamp (show p < 2 ^ 31 by omega)]
      refine e_iconst (v := 1) d_M_hear_126 (by decide) ?_
      refine e_iadd d_M_hear_127 ?_
      refine e_iast d_M_hear_128 (show vp_in (nI p) (hl σ 7 8) from by rw [hM.l_ages]; exact nI_in (by omega) (by decide)) ?_
      rw [nI_clamp (show p < 2 ^ 31 by omega)]
      refine e_aload_n d_M_hear_129 rfl rfl ?_
      refine g_M_45 (b := 8 + 16 * 1) rfl d_M_hear_130 hM.a_keeps ?_
      refine e_iload_n d_M_hear_133 rfl rfl ?_
      refine e_aload_n d_M_hear_134 rfl rfl ?_
      refine g_M_48 (b := 7 + 16 * 8) rfl d_M_hear_135 hM.a_ages ?_
      refine e_iload_n d_M_hear_138 rfl rfl ?_
      refine e_iald d_M_hear_139 (show vp_in (nI p) (hl σ 7 8) from by rw [hM.l_ages]; exact nI_in (by omega) (by decide)) ?_
      rw [nI_clamp (show p < 2 ^ 31 by omega)]
      rw [show hI (sI (σ) 7 (8) (p) ((hI (σ) 7 (8) (p)) + (1))) 7 (8) (p) = hI σ 7 8 p + 1 from by rw [I_sI, if_pos ⟨rfl, rfl, rfl⟩]]
      refine e_iconst (v := 3) d_M_hear_140 (by decide) ?_
      refine e_icmpge (tgt := 148) d_M_hear_141 (by decide) (fun h141 => ?_) (fun h141 => ?_)
      ·
        refine e_iconst (v := 0) d_M_hear_148 (by decide) ?_
        refine e_zast d_M_hear_149 (show vp_in (nI p) (hl σ 8 1) from by rw [hM.l_keeps]; exact nI_in (by omega) (by decide)) (by first | exact Or.inl rfl | exact Or.inr rfl) ?_
        rw [nI_clamp (show p < 2 ^ 31 by omega)]
        exact e_vret d_M_hear_150 rfl ⟨rfl, by unfold hgS; rw [if_pos h141]⟩
      ·
        refine e_iconst (v := 1) d_M_hear_144 (by decide) ?_
        refine e_goto (tgt := 149) d_M_hear_145 (by decide) ?_
        refine e_zast d_M_hear_149 (show vp_in (nI p) (hl σ 8 1) from by rw [hM.l_keeps]; exact nI_in (by omega) (by decide)) (by first | exact Or.inl rfl | exact Or.inr rfl) ?_
        rw [nI_clamp (show p < 2 ^ 31 by omega)]
        exact e_vret d_M_hear_150 rfl ⟨rfl, by unfold hgS; rw [if_neg h141]⟩
    ·
      refine e_aload_n d_M_hear_25 rfl rfl ?_
      refine g_M_57 (b := 7 + 16 * 10) rfl d_M_hear_26 hM.a_coming ?_
      refine e_bipush (v := 8) d_M_hear_29 (by decide) ?_
      refine e_iload_n d_M_hear_31 rfl rfl ?_
      refine e_imul d_M_hear_32 ?_
      rw [show (8) * (nI p) = nI (8 * p) from by rw [show (8 : Int32) = nI 8 from by decide +kernel, nJ_mul]]
      refine e_iconst (v := 3) d_M_hear_33 (by decide) ?_
      refine e_iadd d_M_hear_34 ?_
      rw [show (nI (8 * p)) + (3) = nI ((8 * p) + 3) from by rw [show (3 : Int32) = nI 3 from by decide +kernel, nJ_add]]
      refine e_iald d_M_hear_35 (show vp_in (nI ((8 * p) + 3)) (hl σ 7 10) from by rw [hM.l_coming]; exact nI_in (by omega) (by decide)) ?_
      rw [nI_clamp (show (8 * p) + 3 < 2 ^ 31 by omega)]
      refine e_aload_n d_M_hear_36 rfl rfl ?_
      refine g_M_7 (b := 7 + 16 * 0) rfl d_M_hear_37 hM.a_identities ?_
      refine e_iload_n d_M_hear_40 rfl rfl ?_
      refine e_iconst (v := 4) d_M_hear_41 (by decide) ?_
      refine e_idiv d_M_hear_42 (by decide) ?_
      rw [show (nI p) / (4) = nI (p / 4) from nI_div4 (by omega)]
      refine e_iald d_M_hear_43 (show vp_in (nI (p / 4)) (hl σ 7 0) from by rw [hM.l_identities]; exact nI_in (by omega) (by decide)) ?_
      rw [nI_clamp (show p / 4 < 2 ^ 31 by omega)]
      refine e_icmpeq (tgt := 51) d_M_hear_44 (by decide) (fun h44 => ?_) (fun h44 => absurd (Decidable.byContradiction fun z => hnt ⟨h6, h22, z⟩) h44)
      refine e_iconst (v := 0) d_M_hear_51 (by decide) ?_
      refine e_istore_n (lv' := [(2, .int (0)), (0, .ref (6 + 16 * 0)), (1, .int (nI p))]) d_M_hear_52 rfl (by decide) rfl ?_
      refine e_iload_n d_M_hear_53 rfl rfl ?_
      refine e_ifeq (tgt := 110) d_M_hear_54 (by decide) (fun h54 => ?_) (fun h54 => absurd (by decide +kernel) h54)
      refine e_aload_n d_M_hear_110 rfl rfl ?_
      refine g_M_45 (b := 8 + 16 * 1) rfl d_M_hear_111 hM.a_keeps ?_
      refine e_iload_n d_M_hear_114 rfl rfl ?_
      refine e_zald d_M_hear_115 (show vp_in (nI p) (hl σ 8 1) from by rw [hM.l_keeps]; exact nI_in (by omega) (by decide)) ?_
      rw [nI_clamp (show p < 2 ^ 31 by omega)]
      refine e_ifeq (tgt := 150) d_M_hear_116 (by decide) (fun h116 => absurd h116 hk) (fun h116 => ?_)
      refine e_aload_n d_M_hear_119 rfl rfl ?_
      refine g_M_48 (b := 7 + 16 * 8) rfl d_M_hear_120 hM.a_ages ?_
      refine e_iload_n d_M_hear_123 rfl rfl ?_
      refine e_dup2 d_M_hear_124 rfl rfl ?_
      refine e_iald d_M_hear_125 (show vp_in (nI p) (hl σ 7 8) from by rw [hM.l_ages]; exact nI_in (by omega) (by decide)) ?_
      rw [nI_clamp (show p < 2 ^ 31 by omega)]
      refine e_iconst (v := 1) d_M_hear_126 (by decide) ?_
      refine e_iadd d_M_hear_127 ?_
      refine e_iast d_M_hear_128 (show vp_in (nI p) (hl σ 7 8) from by rw [hM.l_ages]; exact nI_in (by omega) (by decide)) ?_
      rw [nI_clamp (show p < 2 ^ 31 by omega)]
      refine e_aload_n d_M_hear_129 rfl rfl ?_
      refine g_M_45 (b := 8 + 16 * 1) rfl d_M_hear_130 hM.a_keeps ?_
      refine e_iload_n d_M_hear_133 rfl rfl ?_
      refine e_aload_n d_M_hear_134 rfl rfl ?_
      refine g_M_48 (b := 7 + 16 * 8) rfl d_M_hear_135 hM.a_ages ?_
      refine e_iload_n d_M_hear_138 rfl rfl ?_
      refine e_iald d_M_hear_139 (show vp_in (nI p) (hl σ 7 8) from by rw [hM.l_ages]; exact nI_in (by omega) (by decide)) ?_
      rw [nI_clamp (show p < 2 ^ 31 by omega)]
      rw [show hI (sI (σ) 7 (8) (p) ((hI (σ) 7 (8) (p)) + (1))) 7 (8) (p) = hI σ 7 8 p + 1 from by rw [I_sI, if_pos ⟨rfl, rfl, rfl⟩]]
      refine e_iconst (v := 3) d_M_hear_140 (by decide) ?_
      refine e_icmpge (tgt := 148) d_M_hear_141 (by decide) (fun h141 => ?_) (fun h141 => ?_)
      ·
        refine e_iconst (v := 0) d_M_hear_148 (by decide) ?_
        refine e_zast d_M_hear_149 (show vp_in (nI p) (hl σ 8 1) from by rw [hM.l_keeps]; exact nI_in (by omega) (by decide)) (by first | exact Or.inl rfl | exact Or.inr rfl) ?_
        rw [nI_clamp (show p < 2 ^ 31 by omega)]
        exact e_vret d_M_hear_150 rfl ⟨rfl, by unfold hgS; rw [if_pos h141]⟩
      ·
        refine e_iconst (v := 1) d_M_hear_144 (by decide) ?_
        refine e_goto (tgt := 149) d_M_hear_145 (by decide) ?_
        refine e_zast d_M_hear_149 (show vp_in (nI p) (hl σ 8 1) from by rw [hM.l_keeps]; exact nI_in (by omega) (by decide)) (by first | exact Or.inl rfl | exact Or.inr rfl) ?_
        rw [nI_clamp (show p < 2 ^ 31 by omega)]
        exact e_vret d_M_hear_150 rfl ⟨rfl, by unfold hgS; rw [if_neg h141]⟩
