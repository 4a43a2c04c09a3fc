def sg0 (x : Int64) : Int32 := if 0 ≤ lg_cmp x 0 then 0 else 1
def suO (ov : Int32) (a b : Int64) : Int32 := if ov = 0 then (if sg0 a = sg0 b then (if sg0 (a + b) = sg0 a then 0 else 1) else 0) else 1
def dfO (ov : Int32) (a b : Int64) : Int32 := if ov = 0 then (if sg0 a = sg0 b then 0 else (if sg0 (a - b) = sg0 a then 0 else 1)) else 1
set_option maxHeartbeats 4000000 in
set_option maxRecDepth 100000 in
theorem ct_M_sum {l : Launch} (hl0 : l.stackTraces = false) {G : LG} {σ : HS} {a b : Int64}  : Ct l G m_M_sum [.ref (6 + 16 * 0), .long (a), .long (b)] (σ) (qd (.inr (some (.long (a + b)))) (sI σ 6 0 25 (suO (hI σ 6 0 25) a b))) := by
  refine Ct.of hl0 rfl rfl (Nat.le_of_ble_eq_true rfl) ?_
  show Ex l G m_M_sum (pmV G m_M_sum (qd (.inr (some (.long (a + b)))) (sI σ 6 0 25 (suO (hI σ 6 0 25) a b)))) 0 [(0, .ref (6 + 16 * 0)), (1, .long (a)), (3, .long (b))] [] (σ) 0 0
  refine e_lload_n d_M_sum_0 rfl rfl ?_
  refine e_lload_n d_M_sum_1 rfl rfl ?_
  refine e_ladd d_M_sum_2 ?_
  refine e_lstore (lv' := [(5, .long ((a) + (b))), (0, .ref (6 + 16 * 0)), (1, .long (a)), (3, .long (b))]) d_M_sum_3 (by decide) rfl ?_
  refine e_aload_n d_M_sum_5 rfl rfl ?_
  refine e_aload_n d_M_sum_6 rfl rfl ?_
  refine g_M_155 rfl d_M_sum_7 ?_
  refine e_ifne (tgt := 64) d_M_sum_10 (by decide) (fun h10 => ?_) (fun h10 => ?_)
  ·
    refine e_iconst (v := 1) d_M_sum_64 (by decide) ?_
    refine e_goto (tgt := 69) d_M_sum_65 (by decide) ?_
    refine p_M_155 (by first | exact Or.inl rfl | exact Or.inr rfl) rfl d_M_sum_69 ?_
    refine e_lload d_M_sum_72 rfl ?_
    exact e_lret d_M_sum_74 rfl ⟨rfl, by simp [suO, sg0, h10]⟩
  ·
    refine e_lload_n d_M_sum_13 rfl rfl ?_
    refine e_lconst (v := 0) d_M_sum_14 (by decide) ?_
    refine e_lcmp d_M_sum_15 ?_
    refine e_ifge (tgt := 23) d_M_sum_16 (by decide) (fun h16 => ?_) (fun h16 => ?_)
    ·
      refine e_iconst (v := 0) d_M_sum_23 (by decide) ?_
      refine e_lload_n d_M_sum_24 rfl rfl ?_
      refine e_lconst (v := 0) d_M_sum_25 (by decide) ?_
      refine e_lcmp d_M_sum_26 ?_
      refine e_ifge (tgt := 34) d_M_sum_27 (by decide) (fun h27 => ?_) (fun h27 => ?_)
      ·
        refine e_iconst (v := 0) d_M_sum_34 (by decide) ?_
        refine e_icmpne (tgt := 68) d_M_sum_35 (by decide) (fun h35 => absurd h35 (by decide +kernel)) (fun h35 => ?_)
        refine e_lload d_M_sum_38 rfl ?_
        refine e_lconst (v := 0) d_M_sum_40 (by decide) ?_
        refine e_lcmp d_M_sum_41 ?_
        refine e_ifge (tgt := 49) d_M_sum_42 (by decide) (fun h42 => ?_) (fun h42 => ?_)
        ·
          refine e_iconst (v := 0) d_M_sum_49 (by decide) ?_
          refine e_lload_n d_M_sum_50 rfl rfl ?_
          refine e_lconst (v := 0) d_M_sum_51 (by decide) ?_
          refine e_lcmp d_M_sum_52 ?_
          refine e_ifge (tgt := 60) d_M_sum_53 (by decide) (fun h53 => ?_) (fun h53 => ?_)
          ·
            refine e_iconst (v := 0) d_M_sum_60 (by decide) ?_
            refine e_icmpeq (tgt := 68) d_M_sum_61 (by decide) (fun h61 => ?_) (fun h61 => absurd (by decide +kernel) h61)
            refine e_iconst (v := 0) d_M_sum_68 (by decide) ?_
            refine p_M_155 (by first | exact Or.inl rfl | exact Or.inr rfl) rfl d_M_sum_69 ?_
            refine e_lload d_M_sum_72 rfl ?_
            exact e_lret d_M_sum_74 rfl ⟨rfl, by first | exact absurd h16 h53 | exact absurd h53 h16 | simp [suO, sg0, h10, h16, h27, h42, h53]⟩
          ·
            refine e_iconst (v := 1) d_M_sum_56 (by decide) ?_
            refine e_goto (tgt := 61) d_M_sum_57 (by decide) ?_
            refine e_icmpeq (tgt := 68) d_M_sum_61 (by decide) (fun h61 => absurd h61 (by decide +kernel)) (fun h61 => ?_)
            refine e_iconst (v := 1) d_M_sum_64 (by decide) ?_
            refine e_goto (tgt := 69) d_M_sum_65 (by decide) ?_
            refine p_M_155 (by first | exact Or.inl rfl | exact Or.inr rfl) rfl d_M_sum_69 ?_
            refine e_lload d_M_sum_72 rfl ?_
            exact e_lret d_M_sum_74 rfl ⟨rfl, by first | exact absurd h16 h53 | exact absurd h53 h16 | simp [suO, sg0, h10, h16, h27, h42, h53]⟩
        ·
          refine e_iconst (v := 1) d_M_sum_45 (by decide) ?_
          refine e_goto (tgt := 50) d_M_sum_46 (by decide) ?_
          refine e_lload_n d_M_sum_50 rfl rfl ?_
          refine e_lconst (v := 0) d_M_sum_51 (by decide) ?_
          refine e_lcmp d_M_sum_52 ?_
          refine e_ifge (tgt := 60) d_M_sum_53 (by decide) (fun h53 => ?_) (fun h53 => ?_)
          ·
            refine e_iconst (v := 0) d_M_sum_60 (by decide) ?_
            refine e_icmpeq (tgt := 68) d_M_sum_61 (by decide) (fun h61 => absurd h61 (by decide +kernel)) (fun h61 => ?_)
            refine e_iconst (v := 1) d_M_sum_64 (by decide) ?_
            refine e_goto (tgt := 69) d_M_sum_65 (by decide) ?_
            refine p_M_155 (by first | exact Or.inl rfl | exact Or.inr rfl) rfl d_M_sum_69 ?_
            refine e_lload d_M_sum_72 rfl ?_
            exact e_lret d_M_sum_74 rfl ⟨rfl, by first | exact absurd h16 h53 | exact absurd h53 h16 | simp [suO, sg0, h10, h16, h27, h42, h53]⟩
          ·
            refine e_iconst (v := 1) d_M_sum_56 (by decide) ?_
            refine e_goto (tgt := 61) d_M_sum_57 (by decide) ?_
            refine e_icmpeq (tgt := 68) d_M_sum_61 (by decide) (fun h61 => ?_) (fun h61 => absurd (by decide +kernel) h61)
            refine e_iconst (v := 0) d_M_sum_68 (by decide) ?_
            refine p_M_155 (by first | exact Or.inl rfl | exact Or.inr rfl) rfl d_M_sum_69 ?_
            refine e_lload d_M_sum_72 rfl ?_
            exact e_lret d_M_sum_74 rfl ⟨rfl, by first | exact absurd h16 h53 | exact absurd h53 h16 | simp [suO, sg0, h10, h16, h27, h42, h53]⟩
      ·
        refine e_iconst (v := 1) d_M_sum_30 (by decide) ?_
        refine e_goto (tgt := 35) d_M_sum_31 (by decide) ?_
        refine e_icmpne (tgt := 68) d_M_sum_35 (by decide) (fun h35 => ?_) (fun h35 => absurd h35 (by decide +kernel))
        refine e_iconst (v := 0) d_M_sum_68 (by decide) ?_
        refine p_M_155 (by first | exact Or.inl rfl | exact Or.inr rfl) rfl d_M_sum_69 ?_
        refine e_lload d_M_sum_72 rfl ?_
        exact e_lret d_M_sum_74 rfl ⟨rfl, by simp [suO, sg0, h10, h16, h27]⟩
    ·
      refine e_iconst (v := 1) d_M_sum_19 (by decide) ?_
      refine e_goto (tgt := 24) d_M_sum_20 (by decide) ?_
      refine e_lload_n d_M_sum_24 rfl rfl ?_
      refine e_lconst (v := 0) d_M_sum_25 (by decide) ?_
      refine e_lcmp d_M_sum_26 ?_
      refine e_ifge (tgt := 34) d_M_sum_27 (by decide) (fun h27 => ?_) (fun h27 => ?_)
      ·
        refine e_iconst (v := 0) d_M_sum_34 (by decide) ?_
        refine e_icmpne (tgt := 68) d_M_sum_35 (by decide) (fun h35 => ?_) (fun h35 => absurd h35 (by decide +kernel))
        refine e_iconst (v := 0) d_M_sum_68 (by decide) ?_
        refine p_M_155 (by first | exact Or.inl rfl | exact Or.inr rfl) rfl d_M_sum_69 ?_
        refine e_lload d_M_sum_72 rfl ?_
        exact e_lret d_M_sum_74 rfl ⟨rfl, by simp [suO, sg0, h10, h16, h27]⟩
      ·
        refine e_iconst (v := 1) d_M_sum_30 (by decide) ?_
        refine e_goto (tgt := 35) d_M_sum_31 (by decide) ?_
        refine e_icmpne (tgt := 68) d_M_sum_35 (by decide) (fun h35 => absurd h35 (by decide +kernel)) (fun h35 => ?_)
        refine e_lload d_M_sum_38 rfl ?_
        refine e_lconst (v := 0) d_M_sum_40 (by decide) ?_
        refine e_lcmp d_M_sum_41 ?_
        refine e_ifge (tgt := 49) d_M_sum_42 (by decide) (fun h42 => ?_) (fun h42 => ?_)
        ·
          refine e_iconst (v := 0) d_M_sum_49 (by decide) ?_
          refine e_lload_n d_M_sum_50 rfl rfl ?_
          refine e_lconst (v := 0) d_M_sum_51 (by decide) ?_
          refine e_lcmp d_M_sum_52 ?_
          refine e_ifge (tgt := 60) d_M_sum_53 (by decide) (fun h53 => ?_) (fun h53 => ?_)
          ·
            refine e_iconst (v := 0) d_M_sum_60 (by decide) ?_
            refine e_icmpeq (tgt := 68) d_M_sum_61 (by decide) (fun h61 => ?_) (fun h61 => absurd (by decide +kernel) h61)
            refine e_iconst (v := 0) d_M_sum_68 (by decide) ?_
            refine p_M_155 (by first | exact Or.inl rfl | exact Or.inr rfl) rfl d_M_sum_69 ?_
            refine e_lload d_M_sum_72 rfl ?_
            exact e_lret d_M_sum_74 rfl ⟨rfl, by first | exact absurd h16 h53 | exact absurd h53 h16 | simp [suO, sg0, h10, h16, h27, h42, h53]⟩
          ·
            refine e_iconst (v := 1) d_M_sum_56 (by decide) ?_
            refine e_goto (tgt := 61) d_M_sum_57 (by decide) ?_
            refine e_icmpeq (tgt := 68) d_M_sum_61 (by decide) (fun h61 => absurd h61 (by decide +kernel)) (fun h61 => ?_)
            refine e_iconst (v := 1) d_M_sum_64 (by decide) ?_
            refine e_goto (tgt := 69) d_M_sum_65 (by decide) ?_
            refine p_M_155 (by first | exact Or.inl rfl | exact Or.inr rfl) rfl d_M_sum_69 ?_
            refine e_lload d_M_sum_72 rfl ?_
            exact e_lret d_M_sum_74 rfl ⟨rfl, by first | exact absurd h16 h53 | exact absurd h53 h16 | simp [suO, sg0, h10, h16, h27, h42, h53]⟩
        ·
          refine e_iconst (v := 1) d_M_sum_45 (by decide) ?_
          refine e_goto (tgt := 50) d_M_sum_46 (by decide) ?_
          refine e_lload_n d_M_sum_50 rfl rfl ?_
          refine e_lconst (v := 0) d_M_sum_51 (by decide) ?_
          refine e_lcmp d_M_sum_52 ?_
          refine e_ifge (tgt := 60) d_M_sum_53 (by decide) (fun h53 => ?_) (fun h53 => ?_)
          ·
            refine e_iconst (v := 0) d_M_sum_60 (by decide) ?_
            refine e_icmpeq (tgt := 68) d_M_sum_61 (by decide) (fun h61 => absurd h61 (by decide +kernel)) (fun h61 => ?_)
            refine e_iconst (v := 1) d_M_sum_64 (by decide) ?_
            refine e_goto (tgt := 69) d_M_sum_65 (by decide) ?_
            refine p_M_155 (by first | exact Or.inl rfl | exact Or.inr rfl) rfl d_M_sum_69 ?_
            refine e_lload d_M_sum_72 rfl ?_
            exact e_lret d_M_sum_74 rfl ⟨rfl, by first | exact absurd h16 h53 | exact absurd h53 h16 | simp [suO, sg0, h10, h16, h27, h42, h53]⟩
          ·
            refine e_iconst (v := 1) d_M_sum_56 (by decide) ?_
            refine e_goto (tgt := 61) d_M_sum_57 (by decide) ?_
            refine e_icmpeq (tgt := 68) d_M_sum_61 (by decide) (fun h61 => ?_) (fun h61 => absurd (by decide +kernel) h61)
            refine e_iconst (v := 0) d_M_sum_68 (by decide) ?_
            refine p_M_155 (by first | exact Or.inl rfl | exact Or.inr rfl) rfl d_M_sum_69 ?_
            refine e_lload d_M_sum_72 rfl ?_
            exact e_lret d_M_sum_74 rfl ⟨rfl, by first | exact absurd h16 h53 | exact absurd h53 h16 | simp [suO, sg0, h10, h16, h27, h42, h53]⟩
set_option maxHeartbeats 4000000 in
set_option maxRecDepth 100000 in
theorem ct_M_difference {l : Launch} (hl0 : l.stackTraces = false) {G : LG} {σ : HS} {a b : Int64}  : Ct l G m_M_difference [.ref (6 + 16 * 0), .long (a), .long (b)] (σ) (qd (.inr (some (.long (a - b)))) (sI σ 6 0 25 (dfO (hI σ 6 0 25) a b))) := by
  refine Ct.of hl0 rfl rfl (Nat.le_of_ble_eq_true rfl) ?_
  show Ex l G m_M_difference (pmV G m_M_difference (qd (.inr (some (.long (a - b)))) (sI σ 6 0 25 (dfO (hI σ 6 0 25) a b)))) 0 [(0, .ref (6 + 16 * 0)), (1, .long (a)), (3, .long (b))] [] (σ) 0 0
  refine e_lload_n d_M_difference_0 rfl rfl ?_
  refine e_lload_n d_M_difference_1 rfl rfl ?_
  refine e_lsub d_M_difference_2 ?_
  refine e_lstore (lv' := [(5, .long ((a) - (b))), (0, .ref (6 + 16 * 0)), (1, .long (a)), (3, .long (b))]) d_M_difference_3 (by decide) rfl ?_
  refine e_aload_n d_M_difference_5 rfl rfl ?_
  refine e_aload_n d_M_difference_6 rfl rfl ?_
  refine g_M_155 rfl d_M_difference_7 ?_
  refine e_ifne (tgt := 64) d_M_difference_10 (by decide) (fun h10 => ?_) (fun h10 => ?_)
  ·
    refine e_iconst (v := 1) d_M_difference_64 (by decide) ?_
    refine e_goto (tgt := 69) d_M_difference_65 (by decide) ?_
    refine p_M_155 (by first | exact Or.inl rfl | exact Or.inr rfl) rfl d_M_difference_69 ?_
    refine e_lload d_M_difference_72 rfl ?_
    exact e_lret d_M_difference_74 rfl ⟨rfl, by simp [dfO, sg0, h10]⟩
  ·
    refine e_lload_n d_M_difference_13 rfl rfl ?_
    refine e_lconst (v := 0) d_M_difference_14 (by decide) ?_
    refine e_lcmp d_M_difference_15 ?_
    refine e_ifge (tgt := 23) d_M_difference_16 (by decide) (fun h16 => ?_) (fun h16 => ?_)
    ·
      refine e_iconst (v := 0) d_M_difference_23 (by decide) ?_
      refine e_lload_n d_M_difference_24 rfl rfl ?_
      refine e_lconst (v := 0) d_M_difference_25 (by decide) ?_
      refine e_lcmp d_M_difference_26 ?_
      refine e_ifge (tgt := 34) d_M_difference_27 (by decide) (fun h27 => ?_) (fun h27 => ?_)
      ·
        refine e_iconst (v := 0) d_M_difference_34 (by decide) ?_
        refine e_icmpeq (tgt := 68) d_M_difference_35 (by decide) (fun h35 => ?_) (fun h35 => absurd (by decide +kernel) h35)
        refine e_iconst (v := 0) d_M_difference_68 (by decide) ?_
        refine p_M_155 (by first | exact Or.inl rfl | exact Or.inr rfl) rfl d_M_difference_69 ?_
        refine e_lload d_M_difference_72 rfl ?_
        exact e_lret d_M_difference_74 rfl ⟨rfl, by simp [dfO, sg0, h10, h16, h27]⟩
      ·
        refine e_iconst (v := 1) d_M_difference_30 (by decide) ?_
        refine e_goto (tgt := 35) d_M_difference_31 (by decide) ?_
        refine e_icmpeq (tgt := 68) d_M_difference_35 (by decide) (fun h35 => absurd h35 (by decide +kernel)) (fun h35 => ?_)
        refine e_lload d_M_difference_38 rfl ?_
        refine e_lconst (v := 0) d_M_difference_40 (by decide) ?_
        refine e_lcmp d_M_difference_41 ?_
        refine e_ifge (tgt := 49) d_M_difference_42 (by decide) (fun h42 => ?_) (fun h42 => ?_)
        ·
          refine e_iconst (v := 0) d_M_difference_49 (by decide) ?_
          refine e_lload_n d_M_difference_50 rfl rfl ?_
          refine e_lconst (v := 0) d_M_difference_51 (by decide) ?_
          refine e_lcmp d_M_difference_52 ?_
          refine e_ifge (tgt := 60) d_M_difference_53 (by decide) (fun h53 => ?_) (fun h53 => ?_)
          ·
            refine e_iconst (v := 0) d_M_difference_60 (by decide) ?_
            refine e_icmpeq (tgt := 68) d_M_difference_61 (by decide) (fun h61 => ?_) (fun h61 => absurd (by decide +kernel) h61)
            refine e_iconst (v := 0) d_M_difference_68 (by decide) ?_
            refine p_M_155 (by first | exact Or.inl rfl | exact Or.inr rfl) rfl d_M_difference_69 ?_
            refine e_lload d_M_difference_72 rfl ?_
            exact e_lret d_M_difference_74 rfl ⟨rfl, by first | exact absurd h16 h53 | exact absurd h53 h16 | simp [dfO, sg0, h10, h16, h27, h42, h53]⟩
          ·
            refine e_iconst (v := 1) d_M_difference_56 (by decide) ?_
            refine e_goto (tgt := 61) d_M_difference_57 (by decide) ?_
            refine e_icmpeq (tgt := 68) d_M_difference_61 (by decide) (fun h61 => absurd h61 (by decide +kernel)) (fun h61 => ?_)
            refine e_iconst (v := 1) d_M_difference_64 (by decide) ?_
            refine e_goto (tgt := 69) d_M_difference_65 (by decide) ?_
            refine p_M_155 (by first | exact Or.inl rfl | exact Or.inr rfl) rfl d_M_difference_69 ?_
            refine e_lload d_M_difference_72 rfl ?_
            exact e_lret d_M_difference_74 rfl ⟨rfl, by first | exact absurd h16 h53 | exact absurd h53 h16 | simp [dfO, sg0, h10, h16, h27, h42, h53]⟩
        ·
          refine e_iconst (v := 1) d_M_difference_45 (by decide) ?_
          refine e_goto (tgt := 50) d_M_difference_46 (by decide) ?_
          refine e_lload_n d_M_difference_50 rfl rfl ?_
          refine e_lconst (v := 0) d_M_difference_51 (by decide) ?_
          refine e_lcmp d_M_difference_52 ?_
          refine e_ifge (tgt := 60) d_M_difference_53 (by decide) (fun h53 => ?_) (fun h53 => ?_)
          ·
            refine e_iconst (v := 0) d_M_difference_60 (by decide) ?_
            refine e_icmpeq (tgt := 68) d_M_difference_61 (by decide) (fun h61 => absurd h61 (by decide +kernel)) (fun h61 => ?_)
            refine e_iconst (v := 1) d_M_difference_64 (by decide) ?_
            refine e_goto (tgt := 69) d_M_difference_65 (by decide) ?_
            refine p_M_155 (by first | exact Or.inl rfl | exact Or.inr rfl) rfl d_M_difference_69 ?_
            refine e_lload d_M_difference_72 rfl ?_
            exact e_lret d_M_difference_74 rfl ⟨rfl, by first | exact absurd h16 h53 | exact absurd h53 h16 | simp [dfO, sg0, h10, h16, h27, h42, h53]⟩
          ·
            refine e_iconst (v := 1) d_M_difference_56 (by decide) ?_
            refine e_goto (tgt := 61) d_M_difference_57 (by decide) ?_
            refine e_icmpeq (tgt := 68) d_M_difference_61 (by decide) (fun h61 => ?_) (fun h61 => absurd (by decide +kernel) h61)
            refine e_iconst (v := 0) d_M_difference_68 (by decide) ?_
            refine p_M_155 (by first | exact Or.inl rfl | exact Or.inr rfl) rfl d_M_difference_69 ?_
            refine e_lload d_M_difference_72 rfl ?_
            exact e_lret d_M_difference_74 rfl ⟨rfl, by first | exact absurd h16 h53 | exact absurd h53 h16 | simp [dfO, sg0, h10, h16, h27, h42, h53]⟩
    ·
      refine e_iconst (v := 1) d_M_difference_19 (by decide) ?_
      refine e_goto (tgt := 24) d_M_difference_20 (by decide) ?_
      refine e_lload_n d_M_difference_24 rfl rfl ?_
      refine e_lconst (v := 0) d_M_difference_25 (by decide) ?_
      refine e_lcmp d_M_difference_26 ?_
      refine e_ifge (tgt := 34) d_M_difference_27 (by decide) (fun h27 => ?_) (fun h27 => ?_)
      ·
        refine e_iconst (v := 0) d_M_difference_34 (by decide) ?_
        refine e_icmpeq (tgt := 68) d_M_difference_35 (by decide) (fun h35 => absurd h35 (by decide +kernel)) (fun h35 => ?_)
        refine e_lload d_M_difference_38 rfl ?_
        refine e_lconst (v := 0) d_M_difference_40 (by decide) ?_
        refine e_lcmp d_M_difference_41 ?_
        refine e_ifge (tgt := 49) d_M_difference_42 (by decide) (fun h42 => ?_) (fun h42 => ?_)
        ·
          refine e_iconst (v := 0) d_M_difference_49 (by decide) ?_
          refine e_lload_n d_M_difference_50 rfl rfl ?_
          refine e_lconst (v := 0) d_M_difference_51 (by decide) ?_
          refine e_lcmp d_M_difference_52 ?_
          refine e_ifge (tgt := 60) d_M_difference_53 (by decide) (fun h53 => ?_) (fun h53 => ?_)
          ·
            refine e_iconst (v := 0) d_M_difference_60 (by decide) ?_
            refine e_icmpeq (tgt := 68) d_M_difference_61 (by decide) (fun h61 => ?_) (fun h61 => absurd (by decide +kernel) h61)
            refine e_iconst (v := 0) d_M_difference_68 (by decide) ?_
            refine p_M_155 (by first | exact Or.inl rfl | exact Or.inr rfl) rfl d_M_difference_69 ?_
            refine e_lload d_M_difference_72 rfl ?_
            exact e_lret d_M_difference_74 rfl ⟨rfl, by first | exact absurd h16 h53 | exact absurd h53 h16 | simp [dfO, sg0, h10, h16, h27, h42, h53]⟩
          ·
            refine e_iconst (v := 1) d_M_difference_56 (by decide) ?_
            refine e_goto (tgt := 61) d_M_difference_57 (by decide) ?_
            refine e_icmpeq (tgt := 68) d_M_difference_61 (by decide) (fun h61 => absurd h61 (by decide +kernel)) (fun h61 => ?_)
            refine e_iconst (v := 1) d_M_difference_64 (by decide) ?_
            refine e_goto (tgt := 69) d_M_difference_65 (by decide) ?_
            refine p_M_155 (by first | exact Or.inl rfl | exact Or.inr rfl) rfl d_M_difference_69 ?_
            refine e_lload d_M_difference_72 rfl ?_
            exact e_lret d_M_difference_74 rfl ⟨rfl, by first | exact absurd h16 h53 | exact absurd h53 h16 | simp [dfO, sg0, h10, h16, h27, h42, h53]⟩
        ·
          refine e_iconst (v := 1) d_M_difference_45 (by decide) ?_
          refine e_goto (tgt := 50) d_M_difference_46 (by decide) ?_
          refine e_lload_n d_M_difference_50 rfl rfl ?_
          refine e_lconst (v := 0) d_M_difference_51 (by decide) ?_
          refine e_lcmp d_M_difference_52 ?_
          refine e_ifge (tgt := 60) d_M_difference_53 (by decide) (fun h53 => ?_) (fun h53 => ?_)
          ·
            refine e_iconst (v := 0) d_M_difference_60 (by decide) ?_
            refine e_icmpeq (tgt := 68) d_M_difference_61 (by decide) (fun h61 => absurd h61 (by decide +kernel)) (fun h61 => ?_)
            refine e_iconst (v := 1) d_M_difference_64 (by decide) ?_
            refine e_goto (tgt := 69) d_M_difference_65 (by decide) ?_
            refine p_M_155 (by first | exact Or.inl rfl | exact Or.inr rfl) rfl d_M_difference_69 ?_
            refine e_lload d_M_difference_72 rfl ?_
            exact e_lret d_M_difference_74 rfl ⟨rfl, by first | exact absurd h16 h53 | exact absurd h53 h16 | simp [dfO, sg0, h10, h16, h27, h42, h53]⟩
          ·
            refine e_iconst (v := 1) d_M_difference_56 (by decide) ?_
            refine e_goto (tgt := 61) d_M_difference_57 (by decide) ?_
            refine e_icmpeq (tgt := 68) d_M_difference_61 (by decide) (fun h61 => ?_) (fun h61 => absurd (by decide +kernel) h61)
            refine e_iconst (v := 0) d_M_difference_68 (by decide) ?_
            refine p_M_155 (by first | exact Or.inl rfl | exact Or.inr rfl) rfl d_M_difference_69 ?_
            refine e_lload d_M_difference_72 rfl ?_
            exact e_lret d_M_difference_74 rfl ⟨rfl, by first | exact absurd h16 h53 | exact absurd h53 h16 | simp [dfO, sg0, h10, h16, h27, h42, h53]⟩
      ·
        refine e_iconst (v := 1) d_M_difference_30 (by decide) ?_
        refine e_goto (tgt := 35) d_M_difference_31 (by decide) ?_
        refine e_icmpeq (tgt := 68) d_M_difference_35 (by decide) (fun h35 => ?_) (fun h35 => absurd (by decide +kernel) h35)
        refine e_iconst (v := 0) d_M_difference_68 (by decide) ?_
        refine p_M_155 (by first | exact Or.inl rfl | exact Or.inr rfl) rfl d_M_difference_69 ?_
        refine e_lload d_M_difference_72 rfl ?_
        exact e_lret d_M_difference_74 rfl ⟨rfl, by simp [dfO, sg0, h10, h16, h27]⟩
set_option maxHeartbeats 4000000 in
set_option maxRecDepth 100000 in
theorem ct_M_endOf_f {l : Launch} (hl0 : l.stackTraces = false) {G : LG} {σ : HS} {p k : Nat} (hM : MS σ) (hp : p < 40) (hk : hI σ 7 6 p = nI k) (hk16 : k < 16) (he : hI σ 7 4 (2 * k) = nI p) : Ct l G m_M_endOf [.ref (6 + 16 * 0), .int (nI p)] (σ) (qd (.inr (some (.int (nI (2 * k))))) σ) := by
  refine Ct.of hl0 rfl rfl (Nat.le_of_ble_eq_true rfl) ?_
  show Ex l G m_M_endOf (pmV G m_M_endOf (qd (.inr (some (.int (nI (2 * k))))) σ)) 0 [(0, .ref (6 + 16 * 0)), (1, .int (nI p))] [] (σ) 0 0
  refine e_aload_n d_M_endOf_0 rfl rfl ?_
  refine g_M_39 (b := 7 + 16 * 6) rfl d_M_endOf_1 hM.a_linkOf ?_
  refine e_iload_n d_M_endOf_4 rfl rfl ?_
  refine e_iald d_M_endOf_5 (show vp_in (nI p) (hl σ 7 6) from by rw [hM.l_linkOf]; exact nI_in (by omega) (by decide)) ?_
  rw [nI_clamp (show p < 2 ^ 31 by omega)]
  rw [hk]
  refine e_istore_n (lv' := [(2, .int (nI k)), (0, .ref (6 + 16 * 0)), (1, .int (nI p))]) d_M_endOf_6 rfl (by decide) rfl ?_
  refine e_aload_n d_M_endOf_7 rfl rfl ?_
  refine g_M_29 (b := 7 + 16 * 4) rfl d_M_endOf_8 hM.a_ends ?_
  refine e_iconst (v := 2) d_M_endOf_11 (by decide) ?_
  refine e_iload_n d_M_endOf_12 rfl rfl ?_
  refine e_imul d_M_endOf_13 ?_
  rw [show (2) * (nI k) = nI (2 * k) from by rw [show (2 : Int32) = nI 2 from by decide +kernel, nJ_mul]]
  refine e_iald d_M_endOf_14 (show vp_in (nI (2 * k)) (hl σ 7 4) from by rw [hM.l_ends]; exact nI_in (by omega) (by decide)) ?_
  rw [nI_clamp (show 2 * k < 2 ^ 31 by omega)]
  refine e_iload_n d_M_endOf_15 rfl rfl ?_
  refine e_icmpne (tgt := 25) d_M_endOf_16 (by decide) (fun h16 => absurd h16 (fun z => z he)) (fun h16 => ?_)
  refine e_iconst (v := 2) d_M_endOf_19 (by decide) ?_
  refine e_iload_n d_M_endOf_20 rfl rfl ?_
  refine e_imul d_M_endOf_21 ?_
  rw [show (2) * (nI k) = nI (2 * k) from by rw [show (2 : Int32) = nI 2 from by decide +kernel, nJ_mul]]
  refine e_goto (tgt := 30) d_M_endOf_22 (by decide) ?_
  exact e_iret d_M_endOf_30 rfl ⟨rfl, rfl⟩
set_option maxHeartbeats 4000000 in
set_option maxRecDepth 100000 in
theorem ct_M_endOf_s {l : Launch} (hl0 : l.stackTraces = false) {G : LG} {σ : HS} {p k : Nat} (hM : MS σ) (hp : p < 40) (hk : hI σ 7 6 p = nI k) (hk16 : k < 16) (he : ¬ hI σ 7 4 (2 * k) = nI p) : Ct l G m_M_endOf [.ref (6 + 16 * 0), .int (nI p)] (σ) (qd (.inr (some (.int (nI (2 * k + 1))))) σ) := by
  refine Ct.of hl0 rfl rfl (Nat.le_of_ble_eq_true rfl) ?_
  show Ex l G m_M_endOf (pmV G m_M_endOf (qd (.inr (some (.int (nI (2 * k + 1))))) σ)) 0 [(0, .ref (6 + 16 * 0)), (1, .int (nI p))] [] (σ) 0 0
  refine e_aload_n d_M_endOf_0 rfl rfl ?_
  refine g_M_39 (b := 7 + 16 * 6) rfl d_M_endOf_1 hM.a_linkOf ?_
  refine e_iload_n d_M_endOf_4 rfl rfl ?_
  refine e_iald d_M_endOf_5 (show vp_in (nI p) (hl σ 7 6) from by rw [hM.l_linkOf]; exact nI_in (by omega) (by decide)) ?_
  rw [nI_clamp (show p < 2 ^ 31 by omega)]
  rw [hk]
  refine e_istore_n (lv' := [(2, .int (nI k)), (0, .ref (6 + 16 * 0)), (1, .int (nI p))]) d_M_endOf_6 rfl (by decide) rfl ?_
  refine e_aload_n d_M_endOf_7 rfl rfl ?_
  refine g_M_29 (b := 7 + 16 * 4) rfl d_M_endOf_8 hM.a_ends ?_
  refine e_iconst (v := 2) d_M_endOf_11 (by decide) ?_
  refine e_iload_n d_M_endOf_12 rfl rfl ?_
  refine e_imul d_M_endOf_13 ?_
  rw [show (2) * (nI k) = nI (2 * k) from by rw [show (2 : Int32) = nI 2 from by decide +kernel, nJ_mul]]
  refine e_iald d_M_endOf_14 (show vp_in (nI (2 * k)) (hl σ 7 4) from by rw [hM.l_ends]; exact nI_in (by omega) (by decide)) ?_
  rw [nI_clamp (show 2 * k < 2 ^ 31 by omega)]
  refine e_iload_n d_M_endOf_15 rfl rfl ?_
  refine e_icmpne (tgt := 25) d_M_endOf_16 (by decide) (fun h16 => ?_) (fun h16 => absurd h16 he)
  refine e_iconst (v := 2) d_M_endOf_25 (by decide) ?_
  refine e_iload_n d_M_endOf_26 rfl rfl ?_
  refine e_imul d_M_endOf_27 ?_
  rw [show (2) * (nI k) = nI (2 * k) from by rw [show (2 : Int32) = nI 2 from by decide +kernel, nJ_mul]]
  refine e_iconst (v := 1) d_M_endOf_28 (by decide) ?_
  refine e_iadd d_M_endOf_29 ?_
  rw [show (nI (2 * k)) + (1) = nI ((2 * k) + 1) from by rw [show (1 : Int32) = nI 1 from by decide +kernel, nJ_add]]
  exact e_iret d_M_endOf_30 rfl ⟨rfl, rfl⟩
set_option maxHeartbeats 4000000 in
set_option maxRecDepth 100000 in
theorem ct_M_across_f {l : Launch} (hl0 : l.stackTraces = false) {G : LG} {σ : HS} {p k : Nat} (hM : MS σ) (hp : p < 40) (hk : hI σ 7 6 p = nI k) (hk16 : k < 16) (he : hI σ 7 4 (2 * k) = nI p) : Ct l G m_M_across [.ref (6 + 16 * 0), .int (nI p)] (σ) (qd (.inr (some (.int (hI σ 7 4 (2 * k + 1))))) σ) := by
  refine Ct.of hl0 rfl rfl (Nat.le_of_ble_eq_true rfl) ?_
  show Ex l G m_M_across (pmV G m_M_across (qd (.inr (some (.int (hI σ 7 4 (2 * k + 1))))) σ)) 0 [(0, .ref (6 + 16 * 0)), (1, .int (nI p))] [] (σ) 0 0
  refine e_aload_n d_M_across_0 rfl rfl ?_
  refine e_iload_n d_M_across_1 rfl rfl ?_
  refine e_callVd (v := some (.int (nI (2 * k)))) (σ' := σ) (q := 6) (a := 0) (As := [.int (nI p)]) (st := []) 0 0 d_M_across_2 cb_M_across_129 iv_M_endOf rfl ⟨by decide, rfl⟩ rfl (Nat.le_of_ble_eq_true rfl) (by decide) (by decide) (ct_M_endOf_f hl0 hM hp hk hk16 he) ?_
  show Ex l G m_M_across (pmV G m_M_across (qd (.inr (some (.int (hI σ 7 4 (2 * k + 1))))) σ)) 5 [(0, .ref (6 + 16 * 0)), (1, .int (nI p))] [.int (nI (2 * k))] (σ) 0 0
  refine e_istore_n (lv' := [(2, .int (nI (2 * k))), (0, .ref (6 + 16 * 0)), (1, .int (nI p))]) d_M_across_5 rfl (by decide) rfl ?_
  refine e_aload_n d_M_across_6 rfl rfl ?_
  refine g_M_29 (b := 7 + 16 * 4) rfl d_M_across_7 hM.a_ends ?_
  refine e_iload_n d_M_across_10 rfl rfl ?_
  refine e_iconst (v := 2) d_M_across_11 (by decide) ?_
  refine e_irem d_M_across_12 (by decide) ?_
  rw [show (nI (2 * k)) - (nI (2 * k)) / (2) * (2) = nI ((2 * k) % 2) from nI_mod2 (by omega)]
  refine e_ifne (tgt := 22) d_M_across_13 (by decide) (fun h13 => absurd h13 (fun z => z (by rw [show 2 * k % 2 = 0 by omega]; decide +kernel))) (fun h13 => ?_)
  refine e_iload_n d_M_across_16 rfl rfl ?_
  refine e_iconst (v := 1) d_M_across_17 (by decide) ?_
  refine e_iadd d_M_across_18 ?_
  rw [show (nI (2 * k)) + (1) = nI ((2 * k) + 1) from by rw [show (1 : Int32) = nI 1 from by decide +kernel, nJ_add]]
  refine e_goto (tgt := 25) d_M_across_19 (by decide) ?_
  refine e_iald d_M_across_25 (show vp_in (nI ((2 * k) + 1)) (hl σ 7 4) from by rw [hM.l_ends]; exact nI_in (by omega) (by decide)) ?_
  rw [nI_clamp (show (2 * k) + 1 < 2 ^ 31 by omega)]
  exact e_iret d_M_across_26 rfl ⟨rfl, rfl⟩
set_option maxHeartbeats 4000000 in
set_option maxRecDepth 100000 in
theorem ct_M_across_s {l : Launch} (hl0 : l.stackTraces = false) {G : LG} {σ : HS} {p k : Nat} (hM : MS σ) (hp : p < 40) (hk : hI σ 7 6 p = nI k) (hk16 : k < 16) (he : ¬ hI σ 7 4 (2 * k) = nI p) : Ct l G m_M_across [.ref (6 + 16 * 0), .int (nI p)] (σ) (qd (.inr (some (.int (hI σ 7 4 (2 * k))))) σ) := by
  refine Ct.of hl0 rfl rfl (Nat.le_of_ble_eq_true rfl) ?_
  show Ex l G m_M_across (pmV G m_M_across (qd (.inr (some (.int (hI σ 7 4 (2 * k))))) σ)) 0 [(0, .ref (6 + 16 * 0)), (1, .int (nI p))] [] (σ) 0 0
  refine e_aload_n d_M_across_0 rfl rfl ?_
  refine e_iload_n d_M_across_1 rfl rfl ?_
  refine e_callVd (v := some (.int (nI (2 * k + 1)))) (σ' := σ) (q := 6) (a := 0) (As := [.int (nI p)]) (st := []) 0 0 d_M_across_2 cb_M_across_129 iv_M_endOf rfl ⟨by decide, rfl⟩ rfl (Nat.le_of_ble_eq_true rfl) (by decide) (by decide) (ct_M_endOf_s hl0 hM hp hk hk16 he) ?_
  show Ex l G m_M_across (pmV G m_M_across (qd (.inr (some (.int (hI σ 7 4 (2 * k))))) σ)) 5 [(0, .ref (6 + 16 * 0)), (1, .int (nI p))] [.int (nI (2 * k + 1))] (σ) 0 0
  refine e_istore_n (lv' := [(2, .int (nI (2 * k + 1))), (0, .ref (6 + 16 * 0)), (1, .int (nI p))]) d_M_across_5 rfl (by decide) rfl ?_
  refine e_aload_n d_M_across_6 rfl rfl ?_
  refine g_M_29 (b := 7 + 16 * 4) rfl d_M_across_7 hM.a_ends ?_
  refine e_iload_n d_M_across_10 rfl rfl ?_
  refine e_iconst (v := 2) d_M_across_11 (by decide) ?_
  refine e_irem d_M_across_12 (by decide) ?_
  rw [show (nI (2 * k + 1)) - (nI (2 * k + 1)) / (2) * (2) = nI ((2 * k + 1) % 2) from nI_mod2 (by omega)]
  refine e_ifne (tgt := 22) d_M_across_13 (by decide) (fun h13 => ?_) (fun h13 => absurd h13 (by rw [show (2 * k + 1) % 2 = 1 by omega]; decide +kernel))
  refine e_iload_n d_M_across_22 rfl rfl ?_
  refine e_iconst (v := 1) d_M_across_23 (by decide) ?_
  refine e_isub d_M_across_24 ?_
  rw [show (nI (2 * k + 1)) - (1) = nI (2 * k) from nI_pred (2 * k)]
  refine e_iald d_M_across_25 (show vp_in (nI (2 * k)) (hl σ 7 4) from by rw [hM.l_ends]; exact nI_in (by omega) (by decide)) ?_
  rw [nI_clamp (show 2 * k < 2 ^ 31 by omega)]
  exact e_iret d_M_across_26 rfl ⟨rfl, rfl⟩
set_option maxHeartbeats 4000000 in
set_option maxRecDepth 100000 in
theorem ct_M_canSwap_n {l : Launch} (hl0 : l.stackTraces = false) {G : LG} {σ : HS} {i : Nat} {b : Int32} (hM : MS σ) (hi : i < 10) (hb : hI σ 7 13 i = b) (hv : b < 0) : Ct l G m_M_canSwap [.ref (6 + 16 * 0), .int (nI i)] (σ) (qd (.inr (some (.int 0))) σ) := by
  refine Ct.of hl0 rfl rfl (Nat.le_of_ble_eq_true rfl) ?_
  show Ex l G m_M_canSwap (pmV G m_M_canSwap (qd (.inr (some (.int 0))) σ)) 0 [(0, .ref (6 + 16 * 0)), (1, .int (nI i))] [] (σ) 0 0
  refine e_aload_n d_M_canSwap_0 rfl rfl ?_
  refine g_M_69 (b := 7 + 16 * 13) rfl d_M_canSwap_1 hM.a_bests ?_
  refine e_iload_n d_M_canSwap_4 rfl rfl ?_
  refine e_iald d_M_canSwap_5 (show vp_in (nI i) (hl σ 7 13) from by rw [hM.l_bests]; exact nI_in (by omega) (by decide)) ?_
  rw [nI_clamp (show i < 2 ^ 31 by omega)]
  rw [hb]
  refine e_iflt (tgt := 47) d_M_canSwap_6 (by decide) (fun h6 => ?_) (fun h6 => absurd hv h6)
  refine e_iconst (v := 0) d_M_canSwap_47 (by decide) ?_
  exact e_zret d_M_canSwap_48 rfl (by first | exact Or.inl rfl | exact Or.inr rfl) ⟨rfl, rfl⟩
set_option maxHeartbeats 4000000 in
set_option maxRecDepth 100000 in
theorem ct_M_canSwap_o {l : Launch} (hl0 : l.stackTraces = false) {G : LG} {σ : HS} {i b : Nat} (hM : MS σ) (hi : i < 10) (hb : hI σ 7 13 i = nI b) (hb4 : b < 40) (hs : ¬ hI σ 7 7 b = 2) : Ct l G m_M_canSwap [.ref (6 + 16 * 0), .int (nI i)] (σ) (qd (.inr (some (.int 0))) σ) := by
  refine Ct.of hl0 rfl rfl (Nat.le_of_ble_eq_true rfl) ?_
  show Ex l G m_M_canSwap (pmV G m_M_canSwap (qd (.inr (some (.int 0))) σ)) 0 [(0, .ref (6 + 16 * 0)), (1, .int (nI i))] [] (σ) 0 0
  refine e_aload_n d_M_canSwap_0 rfl rfl ?_
  refine g_M_69 (b := 7 + 16 * 13) rfl d_M_canSwap_1 hM.a_bests ?_
  refine e_iload_n d_M_canSwap_4 rfl rfl ?_
  refine e_iald d_M_canSwap_5 (show vp_in (nI i) (hl σ 7 13) from by rw [hM.l_bests]; exact nI_in (by omega) (by decide)) ?_
  rw [nI_clamp (show i < 2 ^ 31 by omega)]
  rw [hb]
  refine e_iflt (tgt := 47) d_M_canSwap_6 (by decide) (fun h6 => absurd h6 (nI_pos (by omega))) (fun h6 => ?_)
  refine e_aload_n d_M_canSwap_9 rfl rfl ?_
  refine g_M_42 (b := 7 + 16 * 7) rfl d_M_canSwap_10 hM.a_states ?_
  refine e_aload_n d_M_canSwap_13 rfl rfl ?_
  refine g_M_69 (b := 7 + 16 * 13) rfl d_M_canSwap_14 hM.a_bests ?_
  refine e_iload_n d_M_canSwap_17 rfl rfl ?_
  refine e_iald d_M_canSwap_18 (show vp_in (nI i) (hl σ 7 13) from by rw [hM.l_bests]; exact nI_in (by omega) (by decide)) ?_
  rw [nI_clamp (show i < 2 ^ 31 by omega)]
  rw [hb]
  refine e_iald d_M_canSwap_19 (show vp_in (nI b) (hl σ 7 7) from by rw [hM.l_states]; exact nI_in (by omega) (by decide)) ?_
  rw [nI_clamp (show b < 2 ^ 31 by omega)]
  refine e_iconst (v := 2) d_M_canSwap_20 (by decide) ?_
  refine e_icmpne (tgt := 47) d_M_canSwap_21 (by decide) (fun h21 => ?_) (fun h21 => absurd h21 hs)
  refine e_iconst (v := 0) d_M_canSwap_47 (by decide) ?_
  exact e_zret d_M_canSwap_48 rfl (by first | exact Or.inl rfl | exact Or.inr rfl) ⟨rfl, rfl⟩
set_option maxHeartbeats 4000000 in
set_option maxRecDepth 100000 in
theorem ct_M_canSwap_s {l : Launch} (hl0 : l.stackTraces = false) {G : LG} {σ : HS} {i b k : Nat} (hM : MS σ) (hi : i < 10) (hb : hI σ 7 13 i = nI b) (hb4 : b < 40) (hs : hI σ 7 7 b = 2) (hk : hI σ 7 6 b = nI k) (hk16 : k < 16) : Ct l G m_M_canSwap [.ref (6 + 16 * 0), .int (nI i)] (σ) (qd (.inr (some (.int (if hI σ 8 0 k = 0 then 0 else 1)))) σ) := by
  refine Ct.of hl0 rfl rfl (Nat.le_of_ble_eq_true rfl) ?_
  show Ex l G m_M_canSwap (pmV G m_M_canSwap (qd (.inr (some (.int (if hI σ 8 0 k = 0 then 0 else 1)))) σ)) 0 [(0, .ref (6 + 16 * 0)), (1, .int (nI i))] [] (σ) 0 0
  refine e_aload_n d_M_canSwap_0 rfl rfl ?_
  refine g_M_69 (b := 7 + 16 * 13) rfl d_M_canSwap_1 hM.a_bests ?_
  refine e_iload_n d_M_canSwap_4 rfl rfl ?_
  refine e_iald d_M_canSwap_5 (show vp_in (nI i) (hl σ 7 13) from by rw [hM.l_bests]; exact nI_in (by omega) (by decide)) ?_
  rw [nI_clamp (show i < 2 ^ 31 by omega)]
  rw [hb]
  refine e_iflt (tgt := 47) d_M_canSwap_6 (by decide) (fun h6 => absurd h6 (nI_pos (by omega))) (fun h6 => ?_)
  refine e_aload_n d_M_canSwap_9 rfl rfl ?_
  refine g_M_42 (b := 7 + 16 * 7) rfl d_M_canSwap_10 hM.a_states ?_
  refine e_aload_n d_M_canSwap_13 rfl rfl ?_
  refine g_M_69 (b := 7 + 16 * 13) rfl d_M_canSwap_14 hM.a_bests ?_
  refine e_iload_n d_M_canSwap_17 rfl rfl ?_
  refine e_iald d_M_canSwap_18 (show vp_in (nI i) (hl σ 7 13) from by rw [hM.l_bests]; exact nI_in (by omega) (by decide)) ?_
  rw [nI_clamp (show i < 2 ^ 31 by omega)]
  rw [hb]
  refine e_iald d_M_canSwap_19 (show vp_in (nI b) (hl σ 7 7) from by rw [hM.l_states]; exact nI_in (by omega) (by decide)) ?_
  rw [nI_clamp (show b < 2 ^ 31 by omega)]
  refine e_iconst (v := 2) d_M_canSwap_20 (by decide) ?_
  refine e_icmpne (tgt := 47) d_M_canSwap_21 (by decide) (fun h21 => absurd h21 (fun z => z hs)) (fun h21 => ?_)
  refine e_aload_n d_M_canSwap_24 rfl rfl ?_
  refine g_M_35 (b := 8 + 16 * 0) rfl d_M_canSwap_25 hM.a_isUp ?_
  refine e_aload_n d_M_canSwap_28 rfl rfl ?_
  refine g_M_39 (b := 7 + 16 * 6) rfl d_M_canSwap_29 hM.a_linkOf ?_
  refine e_aload_n d_M_canSwap_32 rfl rfl ?_
  refine g_M_69 (b := 7 + 16 * 13) rfl d_M_canSwap_33 hM.a_bests ?_
  refine e_iload_n d_M_canSwap_36 rfl rfl ?_
  refine e_iald d_M_canSwap_37 (show vp_in (nI i) (hl σ 7 13) from by rw [hM.l_bests]; exact nI_in (by omega) (by decide)) ?_
  rw [nI_clamp (show i < 2 ^ 31 by omega)]
  rw [hb]
  refine e_iald d_M_canSwap_38 (show vp_in (nI b) (hl σ 7 6) from by rw [hM.l_linkOf]; exact nI_in (by omega) (by decide)) ?_
  rw [nI_clamp (show b < 2 ^ 31 by omega)]
  rw [hk]
  refine e_zald d_M_canSwap_39 (show vp_in (nI k) (hl σ 8 0) from by rw [hM.l_isUp]; exact nI_in (by omega) (by decide)) ?_
  rw [nI_clamp (show k < 2 ^ 31 by omega)]
  refine e_ifeq (tgt := 47) d_M_canSwap_40 (by decide) (fun h40 => ?_) (fun h40 => ?_)
  ·
    refine e_iconst (v := 0) d_M_canSwap_47 (by decide) ?_
    exact e_zret d_M_canSwap_48 rfl (by first | exact Or.inl rfl | exact Or.inr rfl) ⟨by simp [h40], rfl⟩
  ·
    refine e_iconst (v := 1) d_M_canSwap_43 (by decide) ?_
    refine e_goto (tgt := 48) d_M_canSwap_44 (by decide) ?_
    exact e_zret d_M_canSwap_48 rfl (by first | exact Or.inl rfl | exact Or.inr rfl) ⟨by simp [h40], rfl⟩
set_option maxHeartbeats 4000000 in
set_option maxRecDepth 100000 in
theorem ct_M_up_x {l : Launch} (hl0 : l.stackTraces = false) {G : LG} {σ : HS} {v z : Int32} (hx : v < 0 ∨ hI σ 6 0 8 ≤ v) : Ct l G m_M_up [.ref (6 + 16 * 0), .int (v), .int (z)] (σ) (qd (.inr none) (sI σ 6 0 0 1)) := by
  refine Ct.of hl0 rfl rfl (Nat.le_of_ble_eq_true rfl) ?_
  show Ex l G m_M_up (pmV G m_M_up (qd (.inr none) (sI σ 6 0 0 1))) 0 [(0, .ref (6 + 16 * 0)), (1, .int (v)), (2, .int (z))] [] (σ) 0 0
  refine e_aload_n d_M_up_0 rfl rfl ?_
  refine e_iload_n d_M_up_1 rfl rfl ?_
  refine e_iflt (tgt := 13) d_M_up_2 (by decide) (fun h2 => ?_) (fun h2 => ?_)
  ·
    refine e_iconst (v := 1) d_M_up_13 (by decide) ?_
    refine e_goto (tgt := 18) d_M_up_14 (by decide) ?_
    refine p_M_78 rfl d_M_up_18 ?_
    refine e_aload_n d_M_up_21 rfl rfl ?_
    refine g_M_78 rfl d_M_up_22 ?_
    refine e_ifne (tgt := 35) d_M_up_25 (by decide) (fun h25 => ?_) (fun h25 => absurd h25 (by rw [th_1]; decide +kernel))
    exact e_vret d_M_up_35 rfl ⟨rfl, rfl⟩
  ·
    refine e_iload_n d_M_up_5 rfl rfl ?_
    refine e_aload_n d_M_up_6 rfl rfl ?_
    refine g_M_126 rfl d_M_up_7 ?_
    refine e_icmplt (tgt := 17) d_M_up_10 (by decide) (fun h10 => absurd h10 (Int32.not_lt.mpr (hx.resolve_left h2))) (fun h10 => ?_)
    refine e_iconst (v := 1) d_M_up_13 (by decide) ?_
    refine e_goto (tgt := 18) d_M_up_14 (by decide) ?_
    refine p_M_78 rfl d_M_up_18 ?_
    refine e_aload_n d_M_up_21 rfl rfl ?_
    refine g_M_78 rfl d_M_up_22 ?_
    refine e_ifne (tgt := 35) d_M_up_25 (by decide) (fun h25 => ?_) (fun h25 => absurd h25 (by rw [th_1]; decide +kernel))
    exact e_vret d_M_up_35 rfl ⟨rfl, rfl⟩
set_option maxHeartbeats 4000000 in
set_option maxRecDepth 100000 in
theorem ct_M_up {l : Launch} (hl0 : l.stackTraces = false) {G : LG} {σ : HS} {k L : Nat} {z : Int32} (hM : MS σ) (hL : hI σ 6 0 8 = nI L) (hL16 : L ≤ 16) (hk : k < L) (hz : z = 0 ∨ z = 1) : Ct l G m_M_up [.ref (6 + 16 * 0), .int (nI k), .int (z)] (σ) (qd (.inr none) (sI (sI σ 6 0 0 0) 8 0 k z)) := by
  refine Ct.of hl0 rfl rfl (Nat.le_of_ble_eq_true rfl) ?_
  show Ex l G m_M_up (pmV G m_M_up (qd (.inr none) (sI (sI σ 6 0 0 0) 8 0 k z))) 0 [(0, .ref (6 + 16 * 0)), (1, .int (nI k)), (2, .int (z))] [] (σ) 0 0
  refine e_aload_n d_M_up_0 rfl rfl ?_
  refine e_iload_n d_M_up_1 rfl rfl ?_
  refine e_iflt (tgt := 13) d_M_up_2 (by decide) (fun h2 => absurd h2 (nI_pos (by omega))) (fun h2 => ?_)
  refine e_iload_n d_M_up_5 rfl rfl ?_
  refine e_aload_n d_M_up_6 rfl rfl ?_
  refine g_M_126 rfl d_M_up_7 ?_
  refine e_icmplt (tgt := 17) d_M_up_10 (by decide) (fun h10 => ?_) (fun h10 => absurd (by rw [hL]; exact nI_lt hk (by omega)) h10)
  refine e_iconst (v := 0) d_M_up_17 (by decide) ?_
  refine p_M_78 rfl d_M_up_18 ?_
  refine e_aload_n d_M_up_21 rfl rfl ?_
  refine g_M_78 rfl d_M_up_22 ?_
  refine e_ifne (tgt := 35) d_M_up_25 (by decide) (fun h25 => absurd h25 (fun y => y (by rw [th_1]))) (fun h25 => ?_)
  refine e_aload_n d_M_up_28 rfl rfl ?_
  refine g_M_35 (b := 8 + 16 * 0) rfl d_M_up_29 hM.a_isUp ?_
  refine e_iload_n d_M_up_32 rfl rfl ?_
  refine e_iload_n d_M_up_33 rfl rfl ?_
  refine e_zast d_M_up_34 (show vp_in (nI k) (hl σ 8 0) from by rw [hM.l_isUp]; exact nI_in (by omega) (by decide)) hz ?_
  rw [nI_clamp (show k < 2 ^ 31 by omega)]
  exact e_vret d_M_up_35 rfl ⟨rfl, rfl⟩
set_option maxHeartbeats 4000000 in
set_option maxRecDepth 100000 in
theorem ct_M_priority_x {l : Launch} (hl0 : l.stackTraces = false) {G : LG} {σ : HS} {v u : Int32} (hx : ¬ nnV σ v = 0 ∨ bsV u = 0) : Ct l G m_M_priority [.ref (6 + 16 * 0), .int (v), .int (u)] (σ) (qd (.inr none) (sI σ 6 0 0 1)) := by
  refine Ct.of hl0 rfl rfl (Nat.le_of_ble_eq_true rfl) ?_
  show Ex l G m_M_priority (pmV G m_M_priority (qd (.inr none) (sI σ 6 0 0 1))) 0 [(0, .ref (6 + 16 * 0)), (1, .int (v)), (2, .int (u))] [] (σ) 0 0
  refine e_aload_n d_M_priority_0 rfl rfl ?_
  refine e_aload_n d_M_priority_1 rfl rfl ?_
  refine e_iload_n d_M_priority_2 rfl rfl ?_
  refine e_callVd (v := some (.int (nnV σ (v)))) (σ' := σ) (q := 6) (a := 0) (As := [.int (v)]) (st := [.ref (6 + 16 * 0)]) 0 0 d_M_priority_3 cb_M_priority_115 iv_M_noNode rfl ⟨by decide, rfl⟩ rfl (Nat.le_of_ble_eq_true rfl) (by decide) (by decide) (ct_M_noNode hl0) ?_
  show Ex l G m_M_priority (pmV G m_M_priority (qd (.inr none) (sI σ 6 0 0 1))) 6 [(0, .ref (6 + 16 * 0)), (1, .int (v)), (2, .int (u))] [.int (nnV σ (v)), .ref (6 + 16 * 0)] (σ) 0 0
  refine e_ifne (tgt := 17) d_M_priority_6 (by decide) (fun h6 => ?_) (fun h6 => ?_)
  ·
    refine e_iconst (v := 1) d_M_priority_17 (by decide) ?_
    refine e_goto (tgt := 22) d_M_priority_18 (by decide) ?_
    refine p_M_78 rfl d_M_priority_22 ?_
    refine e_aload_n d_M_priority_25 rfl rfl ?_
    refine g_M_78 rfl d_M_priority_26 ?_
    refine e_ifne (tgt := 43) d_M_priority_29 (by decide) (fun h29 => ?_) (fun h29 => absurd h29 (by rw [th_1]; decide +kernel))
    exact e_vret d_M_priority_43 rfl ⟨rfl, rfl⟩
  ·
    refine e_aload_n d_M_priority_9 rfl rfl ?_
    refine e_iload_n d_M_priority_10 rfl rfl ?_
    refine e_callVd (v := some (.int (bsV (u)))) (σ' := σ) (q := 6) (a := 0) (As := [.int (u)]) (st := [.ref (6 + 16 * 0)]) 0 0 d_M_priority_11 cb_M_priority_106 iv_M_byteSized rfl ⟨by decide, rfl⟩ rfl (Nat.le_of_ble_eq_true rfl) (by decide) (by decide) (ct_M_byteSized hl0) ?_
    show Ex l G m_M_priority (pmV G m_M_priority (qd (.inr none) (sI σ 6 0 0 1))) 14 [(0, .ref (6 + 16 * 0)), (1, .int (v)), (2, .int (u))] [.int (bsV (u)), .ref (6 + 16 * 0)] (σ) 0 0
    refine e_ifne (tgt := 21) d_M_priority_14 (by decide) (fun h14 => absurd h14 (fun z => z (hx.resolve_left (fun y => y h6)))) (fun h14 => ?_)
    refine e_iconst (v := 1) d_M_priority_17 (by decide) ?_
    refine e_goto (tgt := 22) d_M_priority_18 (by decide) ?_
    refine p_M_78 rfl d_M_priority_22 ?_
    refine e_aload_n d_M_priority_25 rfl rfl ?_
    refine g_M_78 rfl d_M_priority_26 ?_
    refine e_ifne (tgt := 43) d_M_priority_29 (by decide) (fun h29 => ?_) (fun h29 => absurd h29 (by rw [th_1]; decide +kernel))
    exact e_vret d_M_priority_43 rfl ⟨rfl, rfl⟩
set_option maxHeartbeats 4000000 in
set_option maxRecDepth 100000 in
theorem ct_M_priority {l : Launch} (hl0 : l.stackTraces = false) {G : LG} {σ : HS} {i n : Nat} {u : Int32} (hM : MS σ) (hi : i < 10) (hn10 : n ≤ 10) (hnn : hI σ 6 0 1 = nI n) (hx : nnV σ (nI i) = 0) (hy : ¬ bsV u = 0) : Ct l G m_M_priority [.ref (6 + 16 * 0), .int (nI i), .int (u)] (σ) (qd (.inr none) (faS (sI (sI σ 6 0 0 0) 7 1 i u) n)) := by
  refine Ct.of hl0 rfl rfl (Nat.le_of_ble_eq_true rfl) ?_
  show Ex l G m_M_priority (pmV G m_M_priority (qd (.inr none) (faS (sI (sI σ 6 0 0 0) 7 1 i u) n))) 0 [(0, .ref (6 + 16 * 0)), (1, .int (nI i)), (2, .int (u))] [] (σ) 0 0
  refine e_aload_n d_M_priority_0 rfl rfl ?_
  refine e_aload_n d_M_priority_1 rfl rfl ?_
  refine e_iload_n d_M_priority_2 rfl rfl ?_
  refine e_callVd (v := some (.int (nnV σ (nI i)))) (σ' := σ) (q := 6) (a := 0) (As := [.int (nI i)]) (st := [.ref (6 + 16 * 0)]) 0 0 d_M_priority_3 cb_M_priority_115 iv_M_noNode rfl ⟨by decide, rfl⟩ rfl (Nat.le_of_ble_eq_true rfl) (by decide) (by decide) (ct_M_noNode hl0) ?_
  show Ex l G m_M_priority (pmV G m_M_priority (qd (.inr none) (faS (sI (sI σ 6 0 0 0) 7 1 i u) n))) 6 [(0, .ref (6 + 16 * 0)), (1, .int (nI i)), (2, .int (u))] [.int (nnV σ (nI i)), .ref (6 + 16 * 0)] (σ) 0 0
  refine e_ifne (tgt := 17) d_M_priority_6 (by decide) (fun h6 => absurd h6 (fun z => z hx)) (fun h6 => ?_)
  refine e_aload_n d_M_priority_9 rfl rfl ?_
  refine e_iload_n d_M_priority_10 rfl rfl ?_
  refine e_callVd (v := some (.int (bsV (u)))) (σ' := σ) (q := 6) (a := 0) (As := [.int (u)]) (st := [.ref (6 + 16 * 0)]) 0 0 d_M_priority_11 cb_M_priority_106 iv_M_byteSized rfl ⟨by decide, rfl⟩ rfl (Nat.le_of_ble_eq_true rfl) (by decide) (by decide) (ct_M_byteSized hl0) ?_
  show Ex l G m_M_priority (pmV G m_M_priority (qd (.inr none) (faS (sI (sI σ 6 0 0 0) 7 1 i u) n))) 14 [(0, .ref (6 + 16 * 0)), (1, .int (nI i)), (2, .int (u))] [.int (bsV (u)), .ref (6 + 16 * 0)] (σ) 0 0
  refine e_ifne (tgt := 21) d_M_priority_14 (by decide) (fun h14 => ?_) (fun h14 => absurd h14 hy)
  refine e_iconst (v := 0) d_M_priority_21 (by decide) ?_
  refine p_M_78 rfl d_M_priority_22 ?_
  refine e_aload_n d_M_priority_25 rfl rfl ?_
  refine g_M_78 rfl d_M_priority_26 ?_
  refine e_ifne (tgt := 43) d_M_priority_29 (by decide) (fun h29 => absurd h29 (fun z => z (by rw [th_1]))) (fun h29 => ?_)
  refine e_aload_n d_M_priority_32 rfl rfl ?_
  refine g_M_13 (b := 7 + 16 * 1) rfl d_M_priority_33 hM.a_priorities ?_
  refine e_iload_n d_M_priority_36 rfl rfl ?_
  refine e_iload_n d_M_priority_37 rfl rfl ?_
  refine e_iast d_M_priority_38 (show vp_in (nI i) (hl σ 7 1) from by rw [hM.l_priorities]; exact nI_in (by omega) (by decide)) ?_
  rw [nI_clamp (show i < 2 ^ 31 by omega)]
  refine e_aload_n d_M_priority_39 rfl rfl ?_
  refine e_callVd (v := none) (σ' := faS (sI (sI σ 6 0 0 0) 7 1 i u) n) (q := 6) (a := 0) (As := []) (st := []) 0 0 d_M_priority_40 cb_M_priority_112 iv_M_findAll rfl ⟨by decide, rfl⟩ rfl (Nat.le_of_ble_eq_true rfl) (by decide) (by decide) (ct_M_findAll hl0 (hM.of rfl rfl) hn10 (by rw [I_sI, if_neg (by omega), I_sI, if_neg (by omega)]; exact hnn)) ?_
  show Ex l G m_M_priority (pmV G m_M_priority (qd (.inr none) (faS (sI (sI σ 6 0 0 0) 7 1 i u) n))) 43 [(0, .ref (6 + 16 * 0)), (1, .int (nI i)), (2, .int (u))] [] (faS (sI (sI σ 6 0 0 0) 7 1 i u) n) 0 0
  exact e_vret d_M_priority_43 rfl ⟨rfl, rfl⟩
