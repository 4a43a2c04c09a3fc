/-- is port p as it was remembered (s: all ports ahead of it are) -/
def ib1 (σ : HS) (s : Int32) (p : Nat) : Int32 := if s = 0 then 0 else if hI σ 8 3 p = hI σ 8 1 p then (if hI σ 7 12 p = hI σ 7 7 p then 1 else 0) else 0
def ib2 (σ : HS) (p : Nat) (s : Int32) : Nat → Int32
  | 0 => s
  | k + 1 => if ib2 σ p s k = 0 then 0 else if hI σ 7 11 (8 * p + k) = hI σ 7 9 (8 * p + k) then 1 else 0
def ibP (σ : HS) (p : Nat) (s : Int32) : Int32 := if hI σ 8 1 p = 0 then ib1 σ s p else ib2 σ p (ib1 σ s p) 8
def ibS (σ : HS) : Nat → Int32
  | 0 => 1
  | p + 1 => ibP σ p (ibS σ p)
theorem ib1_01 {σ : HS} {s : Int32} {p : Nat} : ib1 σ s p = 0 ∨ ib1 σ s p = 1 := by
  unfold ib1
  split
  · exact Or.inl rfl
  · split
    · split
      · exact Or.inr rfl
      · exact Or.inl rfl
    · exact Or.inl rfl
theorem ib2_01 {σ : HS} {p : Nat} {s : Int32} (h : s = 0 ∨ s = 1) : ∀ k, ib2 σ p s k = 0 ∨ ib2 σ p s k = 1
  | 0 => h
  | k + 1 => by
    unfold ib2
    split
    · exact Or.inl rfl
    · split
      · exact Or.inr rfl
      · exact Or.inl rfl
theorem ibS_01 {σ : HS} : ∀ p, ibS σ p = 0 ∨ ibS σ p = 1
  | 0 => Or.inr rfl
  | p + 1 => by
    show ibP σ p (ibS σ p) = 0 ∨ ibP σ p (ibS σ p) = 1
    unfold ibP
    split
    · exact ib1_01
    · exact ib2_01 ib1_01 8
set_option maxHeartbeats 4000000 in
theorem li_M_isAsBefore {l : Launch} (hl0 : l.stackTraces = false) {G : LG} {PM : LPM} {σ : HS} {p : Nat} {s : Int32} (hM : MS σ) (hp : p < 40) (hk : ¬ hI σ 8 1 p = 0) (hnext : Ex l G m_M_isAsBefore PM 108 [(2, .int (nI p)), (1, .int (ib2 σ p s 8)), (0, .ref (6 + 16 * 0))] [] (σ) 0 0) : ∀ m j, j + m = 8 → Ex l G m_M_isAsBefore PM 52 [(3, .int (nI j)), (1, .int (ib2 σ p s j)), (2, .int (nI p)), (0, .ref (6 + 16 * 0))] [] (σ) 0 0 := by
  intro m
  induction m with
  | zero =>
    intro j hj
    obtain rfl : j = 8 := by omega
    refine e_iload_n d_M_isAsBefore_52 rfl rfl ?_
    refine e_bipush (v := 8) d_M_isAsBefore_53 (by decide) ?_
    refine e_icmpge (tgt := 108) d_M_isAsBefore_55 (by decide) (fun h55 => ?_) (fun h55 => absurd lp8t h55)
    exact e_lv (lv' := [(2, .int (nI p)), (1, .int (ib2 σ p s 8)), (0, .ref (6 + 16 * 0))]) ⟨rfl, rfl, rfl, trivial⟩ hnext
  | succ m ih =>
    intro j hj
    have hj8 : j < 8 := by omega
    have h9 := ih (j + 1) (by omega)
    refine e_iload_n d_M_isAsBefore_52 rfl rfl ?_
    refine e_bipush (v := 8) d_M_isAsBefore_53 (by decide) ?_
    refine e_icmpge (tgt := 108) d_M_isAsBefore_55 (by decide) (fun h55 => absurd h55 (lp8f j hj8)) (fun h55 => ?_)
    refine e_aload_n d_M_isAsBefore_58 rfl rfl ?_
    refine g_M_45 (b := 8 + 16 * 1) rfl d_M_isAsBefore_59 hM.a_keeps ?_
    refine e_iload_n d_M_isAsBefore_62 rfl rfl ?_
    refine e_zald d_M_isAsBefore_63 (show vp_in (nI p) (hl σ 8 1) from by rw [hM.l_keeps]; exact nI_in (by omega) (by decide)) ?_
    rw [nI_clamp (show p < 2 ^ 31 by omega)]
    refine e_ifeq (tgt := 108) d_M_isAsBefore_64 (by decide) (fun h64 => absurd h64 hk) (fun h64 => ?_)
    refine e_iload_n d_M_isAsBefore_67 rfl rfl ?_
    refine e_ifeq (tgt := 100) d_M_isAsBefore_68 (by decide) (fun h68 => ?_) (fun h68 => ?_)
    ·
      refine e_iconst (v := 0) d_M_isAsBefore_100 (by decide) ?_
      refine e_istore_n (lv' := [(1, .int (0)), (3, .int (nI j)), (2, .int (nI p)), (0, .ref (6 + 16 * 0))]) d_M_isAsBefore_101 rfl (by decide) rfl ?_
      refine e_iinc (v := nI (j + 1)) (lv' := [(3, .int (nI (j + 1))), (1, .int (0)), (2, .int (nI p)), (0, .ref (6 + 16 * 0))]) d_M_isAsBefore_102 rfl (ofI1 j) (by decide) rfl ?_
      refine e_goto (tgt := 52) d_M_isAsBefore_105 (by decide) ?_
      exact e_lv (lv' := [(3, .int (nI (j + 1))), (1, .int (0)), (2, .int (nI p)), (0, .ref (6 + 16 * 0))]) ⟨rfl, rfl, rfl, rfl, trivial⟩ (by rw [show ib2 σ p s (j + 1) = 0 by simp [ib2, h68]] at h9; exact h9)
    ·
      refine e_aload_n d_M_isAsBefore_71 rfl rfl ?_
      refine g_M_63 (b := 7 + 16 * 11) rfl d_M_isAsBefore_72 hM.a_was ?_
      refine e_bipush (v := 8) d_M_isAsBefore_75 (by decide) ?_
      refine e_iload_n d_M_isAsBefore_77 rfl rfl ?_
      refine e_imul d_M_isAsBefore_78 ?_
      rw [show (8) * (nI p) = nI (8 * p) from by rw [show (8 : Int32) = nI 8 from by decide +kernel, nJ_mul]]
      refine e_iload_n d_M_isAsBefore_79 rfl rfl ?_
      refine e_iadd d_M_isAsBefore_80 ?_
      rw [show (nI (8 * p)) + (nI j) = nI ((8 * p) + j) from by rw [nJ_add]]
      refine e_iald d_M_isAsBefore_81 (show vp_in (nI ((8 * p) + j)) (hl σ 7 11) from by rw [hM.l_was]; exact nI_in (by omega) (by decide)) ?_
      rw [nI_clamp (show (8 * p) + j < 2 ^ 31 by omega)]
      refine e_aload_n d_M_isAsBefore_82 rfl rfl ?_
      refine g_M_51 (b := 7 + 16 * 9) rfl d_M_isAsBefore_83 hM.a_data ?_
      refine e_bipush (v := 8) d_M_isAsBefore_86 (by decide) ?_
      refine e_iload_n d_M_isAsBefore_88 rfl rfl ?_
      refine e_imul d_M_isAsBefore_89 ?_
      rw [show (8) * (nI p) = nI (8 * p) from by rw [show (8 : Int32) = nI 8 from by decide +kernel, nJ_mul]]
      refine e_iload_n d_M_isAsBefore_90 rfl rfl ?_
      refine e_iadd d_M_isAsBefore_91 ?_
      rw [show (nI (8 * p)) + (nI j) = nI ((8 * p) + j) from by rw [nJ_add]]
      refine e_iald d_M_isAsBefore_92 (show vp_in (nI ((8 * p) + j)) (hl σ 7 9) from by rw [hM.l_data]; exact nI_in (by omega) (by decide)) ?_
      rw [nI_clamp (show (8 * p) + j < 2 ^ 31 by omega)]
      refine e_icmpne (tgt := 100) d_M_isAsBefore_93 (by decide) (fun h93 => ?_) (fun h93 => ?_)
      ·
        refine e_iconst (v := 0) d_M_isAsBefore_100 (by decide) ?_
        refine e_istore_n (lv' := [(1, .int (0)), (3, .int (nI j)), (2, .int (nI p)), (0, .ref (6 + 16 * 0))]) d_M_isAsBefore_101 rfl (by decide) rfl ?_
        refine e_iinc (v := nI (j + 1)) (lv' := [(3, .int (nI (j + 1))), (1, .int (0)), (2, .int (nI p)), (0, .ref (6 + 16 * 0))]) d_M_isAsBefore_102 rfl (ofI1 j) (by decide) rfl ?_
        refine e_goto (tgt := 52) d_M_isAsBefore_105 (by decide) ?_
        exact e_lv (lv' := [(3, .int (nI (j + 1))), (1, .int (0)), (2, .int (nI p)), (0, .ref (6 + 16 * 0))]) ⟨rfl, rfl, rfl, rfl, trivial⟩ (by rw [show ib2 σ p s (j + 1) = 0 by simp [ib2, h68, h93]] at h9; exact h9)
      ·
        refine e_iconst (v := 1) d_M_isAsBefore_96 (by decide) ?_
        refine e_goto (tgt := 101) d_M_isAsBefore_97 (by decide) ?_
        refine e_istore_n (lv' := [(1, .int (1)), (3, .int (nI j)), (2, .int (nI p)), (0, .ref (6 + 16 * 0))]) d_M_isAsBefore_101 rfl (by decide) rfl ?_
        refine e_iinc (v := nI (j + 1)) (lv' := [(3, .int (nI (j + 1))), (1, .int (1)), (2, .int (nI p)), (0, .ref (6 + 16 * 0))]) d_M_isAsBefore_102 rfl (ofI1 j) (by decide) rfl ?_
        refine e_goto (tgt := 52) d_M_isAsBefore_105 (by decide) ?_
        exact e_lv (lv' := [(3, .int (nI (j + 1))), (1, .int (1)), (2, .int (nI p)), (0, .ref (6 + 16 * 0))]) ⟨rfl, rfl, rfl, rfl, trivial⟩ (by rw [show ib2 σ p s (j + 1) = 1 by simp [ib2, h68, h93]] at h9; exact h9)
set_option maxHeartbeats 4000000 in
theorem lp_M_isAsBefore {l : Launch} (hl0 : l.stackTraces = false) {G : LG} {σ : HS} (hM : MS σ) : ∀ m p, p + m = 40 → Ex l G m_M_isAsBefore (pmV G m_M_isAsBefore (qd (.inr (some (.int (ibS σ 40)))) σ)) 4 [(2, .int (nI p)), (1, .int (ibS σ p)), (0, .ref (6 + 16 * 0))] [] (σ) 0 0 := by
  intro m
  induction m with
  | zero =>
    intro p hp
    obtain rfl : p = 40 := by omega
    refine e_iload_n d_M_isAsBefore_4 rfl rfl ?_
    refine e_bipush (v := 40) d_M_isAsBefore_5 (by decide) ?_
    refine e_icmpge (tgt := 114) d_M_isAsBefore_7 (by decide) (fun h7 => ?_) (fun h7 => absurd lp40t h7)
    refine e_iload_n d_M_isAsBefore_114 rfl rfl ?_
    exact e_zret d_M_isAsBefore_115 rfl (ibS_01 40) ⟨rfl, rfl⟩
  | succ m ih =>
    intro p hp
    have hp4 : p < 40 := by omega
    have h9 := ih (p + 1) (by omega)
    have hx : Ex l G m_M_isAsBefore (pmV G m_M_isAsBefore (qd (.inr (some (.int (ibS σ 40)))) σ)) 52 [(3, .int (nI 0)), (1, .int (ib1 σ (ibS σ p) p)), (2, .int (nI p)), (0, .ref (6 + 16 * 0))] [] σ 0 0 := by
      by_cases hk : hI σ 8 1 p = 0
      ·
        refine e_iload_n d_M_isAsBefore_52 rfl rfl ?_
        refine e_bipush (v := 8) d_M_isAsBefore_53 (by decide) ?_
        refine e_icmpge (tgt := 108) d_M_isAsBefore_55 (by decide) (fun h55 => absurd h55 (lp8f 0 (by decide))) (fun h55 => ?_)
        refine e_aload_n d_M_isAsBefore_58 rfl rfl ?_
        refine g_M_45 (b := 8 + 16 * 1) rfl d_M_isAsBefore_59 hM.a_keeps ?_
        refine e_iload_n d_M_isAsBefore_62 rfl rfl ?_
        refine e_zald d_M_isAsBefore_63 (show vp_in (nI p) (hl σ 8 1) from by rw [hM.l_keeps]; exact nI_in (by omega) (by decide)) ?_
        rw [nI_clamp (show p < 2 ^ 31 by omega)]
        refine e_ifeq (tgt := 108) d_M_isAsBefore_64 (by decide) (fun h64 => ?_) (fun h64 => absurd hk h64)
        refine e_iinc (v := nI (p + 1)) (lv' := [(2, .int (nI (p + 1))), (3, .int (nI 0)), (1, .int (ib1 σ (ibS σ p) p)), (0, .ref (6 + 16 * 0))]) d_M_isAsBefore_108 rfl (ofI1 p) (by decide) rfl ?_
        refine e_goto (tgt := 4) d_M_isAsBefore_111 (by decide) ?_
        exact e_lv (lv' := [(2, .int (nI (p + 1))), (1, .int (ib1 σ (ibS σ p) p)), (0, .ref (6 + 16 * 0))]) ⟨rfl, rfl, rfl, trivial⟩ (by rw [show ibS σ (p + 1) = ib1 σ (ibS σ p) p by show ibP σ p (ibS σ p) = _; unfold ibP; rw [if_pos hk]] at h9; exact h9)
      ·
        have hnext : Ex l G m_M_isAsBefore (pmV G m_M_isAsBefore (qd (.inr (some (.int (ibS σ 40)))) σ)) 108 [(2, .int (nI p)), (1, .int (ib2 σ p (ib1 σ (ibS σ p) p) 8)), (0, .ref (6 + 16 * 0))] [] (σ) 0 0 := by
          refine e_iinc (v := nI (p + 1)) (lv' := [(2, .int (nI (p + 1))), (1, .int (ib2 σ p (ib1 σ (ibS σ p) p) 8)), (0, .ref (6 + 16 * 0))]) d_M_isAsBefore_108 rfl (ofI1 p) (by decide) rfl ?_
          refine e_goto (tgt := 4) d_M_isAsBefore_111 (by decide) ?_
          exact e_lv (lv' := [(2, .int (nI (p + 1))), (1, .int (ib2 σ p (ib1 σ (ibS σ p) p) 8)), (0, .ref (6 + 16 * 0))]) ⟨rfl, rfl, rfl, trivial⟩ (by rw [show ibS σ (p + 1) = ib2 σ p (ib1 σ (ibS σ p) p) 8 by show ibP σ p (ibS σ p) = _; unfold ibP; rw [if_neg hk]] at h9; exact h9)
        exact li_M_isAsBefore hl0 hM hp4 hk hnext 8 0 rfl
    refine e_iload_n d_M_isAsBefore_4 rfl rfl ?_
    refine e_bipush (v := 40) d_M_isAsBefore_5 (by decide) ?_
    refine e_icmpge (tgt := 114) d_M_isAsBefore_7 (by decide) (fun h7 => absurd h7 (lp40f p hp4)) (fun h7 => ?_)
    refine e_iload_n d_M_isAsBefore_10 rfl rfl ?_
    refine e_ifeq (tgt := 48) d_M_isAsBefore_11 (by decide) (fun h11 => ?_) (fun h11 => ?_)
    ·
      refine e_iconst (v := 0) d_M_isAsBefore_48 (by decide) ?_
      refine e_istore_n (lv' := [(1, .int (0)), (2, .int (nI p)), (0, .ref (6 + 16 * 0))]) d_M_isAsBefore_49 rfl (by decide) rfl ?_
      refine e_iconst (v := 0) d_M_isAsBefore_50 (by decide) ?_
      refine e_istore_n (lv' := [(3, .int (0)), (1, .int (0)), (2, .int (nI p)), (0, .ref (6 + 16 * 0))]) d_M_isAsBefore_51 rfl (by decide) rfl ?_
      exact e_lv (lv' := [(3, .int (nI 0)), (1, .int (0)), (2, .int (nI p)), (0, .ref (6 + 16 * 0))]) ⟨rfl, rfl, rfl, rfl, trivial⟩ (by rw [show ib1 σ (ibS σ p) p = 0 by simp [ib1, h11]] at hx; exact hx)
    ·
      refine e_aload_n d_M_isAsBefore_14 rfl rfl ?_
      refine g_M_60 (b := 8 + 16 * 3) rfl d_M_isAsBefore_15 hM.a_kept ?_
      refine e_iload_n d_M_isAsBefore_18 rfl rfl ?_
      refine e_zald d_M_isAsBefore_19 (show vp_in (nI p) (hl σ 8 3) from by rw [hM.l_kept]; exact nI_in (by omega) (by decide)) ?_
      rw [nI_clamp (show p < 2 ^ 31 by omega)]
      refine e_aload_n d_M_isAsBefore_20 rfl rfl ?_
      refine g_M_45 (b := 8 + 16 * 1) rfl d_M_isAsBefore_21 hM.a_keeps ?_
      refine e_iload_n d_M_isAsBefore_24 rfl rfl ?_
      refine e_zald d_M_isAsBefore_25 (show vp_in (nI p) (hl σ 8 1) from by rw [hM.l_keeps]; exact nI_in (by omega) (by decide)) ?_
      rw [nI_clamp (show p < 2 ^ 31 by omega)]
      refine e_icmpne (tgt := 48) d_M_isAsBefore_26 (by decide) (fun h26 => ?_) (fun h26 => ?_)
      ·
        refine e_iconst (v := 0) d_M_isAsBefore_48 (by decide) ?_
        refine e_istore_n (lv' := [(1, .int (0)), (2, .int (nI p)), (0, .ref (6 + 16 * 0))]) d_M_isAsBefore_49 rfl (by decide) rfl ?_
        refine e_iconst (v := 0) d_M_isAsBefore_50 (by decide) ?_
        refine e_istore_n (lv' := [(3, .int (0)), (1, .int (0)), (2, .int (nI p)), (0, .ref (6 + 16 * 0))]) d_M_isAsBefore_51 rfl (by decide) rfl ?_
        exact e_lv (lv' := [(3, .int (nI 0)), (1, .int (0)), (2, .int (nI p)), (0, .ref (6 + 16 * 0))]) ⟨rfl, rfl, rfl, rfl, trivial⟩ (by rw [show ib1 σ (ibS σ p) p = 0 by simp [ib1, h11, h26]] at hx; exact hx)
      ·
        refine e_aload_n d_M_isAsBefore_29 rfl rfl ?_
        refine g_M_66 (b := 7 + 16 * 12) rfl d_M_isAsBefore_30 hM.a_wasState ?_
        refine e_iload_n d_M_isAsBefore_33 rfl rfl ?_
        refine e_iald d_M_isAsBefore_34 (show vp_in (nI p) (hl σ 7 12) from by rw [hM.l_wasState]; exact nI_in (by omega) (by decide)) ?_
        rw [nI_clamp (show p < 2 ^ 31 by omega)]
        refine e_aload_n d_M_isAsBefore_35 rfl rfl ?_
        refine g_M_42 (b := 7 + 16 * 7) rfl d_M_isAsBefore_36 hM.a_states ?_
        refine e_iload_n d_M_isAsBefore_39 rfl rfl ?_
        refine e_iald d_M_isAsBefore_40 (show vp_in (nI p) (hl σ 7 7) from by rw [hM.l_states]; exact nI_in (by omega) (by decide)) ?_
        rw [nI_clamp (show p < 2 ^ 31 by omega)]
        refine e_icmpne (tgt := 48) d_M_isAsBefore_41 (by decide) (fun h41 => ?_) (fun h41 => ?_)
        ·
          refine e_iconst (v := 0) d_M_isAsBefore_48 (by decide) ?_
          refine e_istore_n (lv' := [(1, .int (0)), (2, .int (nI p)), (0, .ref (6 + 16 * 0))]) d_M_isAsBefore_49 rfl (by decide) rfl ?_
          refine e_iconst (v := 0) d_M_isAsBefore_50 (by decide) ?_
          refine e_istore_n (lv' := [(3, .int (0)), (1, .int (0)), (2, .int (nI p)), (0, .ref (6 + 16 * 0))]) d_M_isAsBefore_51 rfl (by decide) rfl ?_
          exact e_lv (lv' := [(3, .int (nI 0)), (1, .int (0)), (2, .int (nI p)), (0, .ref (6 + 16 * 0))]) ⟨rfl, rfl, rfl, rfl, trivial⟩ (by rw [show ib1 σ (ibS σ p) p = 0 by simp [ib1, h11, h26, h41]] at hx; exact hx)
        ·
          refine e_iconst (v := 1) d_M_isAsBefore_44 (by decide) ?_
          refine e_goto (tgt := 49) d_M_isAsBefore_45 (by decide) ?_
          refine e_istore_n (lv' := [(1, .int (1)), (2, .int (nI p)), (0, .ref (6 + 16 * 0))]) d_M_isAsBefore_49 rfl (by decide) rfl ?_
          refine e_iconst (v := 0) d_M_isAsBefore_50 (by decide) ?_
          refine e_istore_n (lv' := [(3, .int (0)), (1, .int (1)), (2, .int (nI p)), (0, .ref (6 + 16 * 0))]) d_M_isAsBefore_51 rfl (by decide) rfl ?_
          exact e_lv (lv' := [(3, .int (nI 0)), (1, .int (1)), (2, .int (nI p)), (0, .ref (6 + 16 * 0))]) ⟨rfl, rfl, rfl, rfl, trivial⟩ (by rw [show ib1 σ (ibS σ p) p = 1 by simp [ib1, h11, h26, h41]] at hx; exact hx)
set_option maxHeartbeats 4000000 in
set_option maxRecDepth 100000 in
theorem ct_M_isAsBefore {l : Launch} (hl0 : l.stackTraces = false) {G : LG} {σ : HS} (hM : MS σ)  : Ct l G m_M_isAsBefore [.ref (6 + 16 * 0)] (σ) (qd (.inr (some (.int (ibS σ 40)))) σ) := by
  refine Ct.of hl0 rfl rfl (Nat.le_of_ble_eq_true rfl) ?_
  show Ex l G m_M_isAsBefore (pmV G m_M_isAsBefore (qd (.inr (some (.int (ibS σ 40)))) σ)) 0 [(0, .ref (6 + 16 * 0))] [] (σ) 0 0
  refine e_iconst (v := 1) d_M_isAsBefore_0 (by decide) ?_
  refine e_istore_n (lv' := [(1, .int (1)), (0, .ref (6 + 16 * 0))]) d_M_isAsBefore_1 rfl (by decide) rfl ?_
  refine e_iconst (v := 0) d_M_isAsBefore_2 (by decide) ?_
  refine e_istore_n (lv' := [(2, .int (0)), (1, .int (1)), (0, .ref (6 + 16 * 0))]) d_M_isAsBefore_3 rfl (by decide) rfl ?_
  exact e_lv (lv' := [(2, .int (nI 0)), (1, .int (ibS σ 0)), (0, .ref (6 + 16 * 0))]) ⟨rfl, rfl, rfl, trivial⟩ (lp_M_isAsBefore hl0 hM 40 0 rfl)
