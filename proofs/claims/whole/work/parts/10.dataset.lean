/-! pure: a dataset as its eight numbers -/
abbrev DV : Type := Nat → Int32
/-- a is better than b, as a number, from place k on, n places left -/
def lexI (a b : DV) : Nat → Nat → Int32
  | _, 0 => 0
  | k, n + 1 => if a k = b k then lexI a b (k + 1) n else if b k ≤ a k then 0 else 1
def btI (a b : DV) : Int32 := lexI a b 0 8
def samI (a b : DV) : Nat → Nat → Int32
  | _, 0 => 1
  | k, n + 1 => if a k = b k then samI a b (k + 1) n else 0
def tsI (a b : DV) : Int32 := samI a b 0 7
def cpRoot (σ : HS) (a b : Nat) : HS := sI (sI (sI (sI σ 0 a 0 (hI σ 0 b 0)) 0 a 1 (hI σ 0 b 1)) 0 a 2 (hI σ 0 b 2)) 0 a 3 (hI σ 0 b 3)
def setOwnS (σ : HS) (a : Nat) (i p k e : Int32) : HS := sI (sI (sI (sI (sI (sI (sI (sI σ 0 a 0 p) 0 a 1 k) 0 a 2 e) 0 a 3 i) 0 a 4 0) 0 a 5 i) 0 a 6 (-1)) 0 a 7 (-1)
theorem ne_of_nle {x y : Int32} (h : ¬ y ≤ x) : ¬ x = y := fun e => h (by rw [e]; exact Int32.le_refl _)
set_option maxHeartbeats 4000000 in
theorem ct_D_init {l : Launch} (hl0 : l.stackTraces = false) {G : LG} {σ : HS} {a : Nat}  : Ct l G m_D_init [.ref (0 + 16 * a)] σ (qd (.inr none) σ) := by
  refine Ct.of hl0 rfl rfl (Nat.le_of_ble_eq_true rfl) ?_
  show Ex l G m_D_init (pmV G m_D_init (qd (.inr none) σ)) 0 [(0, .ref (0 + 16 * a))] [] σ 0 0
  refine e_aload_n d_D_init_0 rfl rfl ?_
  refine e_obji d_D_init_1 ol_D_3 ⟨by decide, by decide⟩ ?_
  exact e_vret d_D_init_4 rfl ⟨rfl, rfl⟩
set_option maxHeartbeats 4000000 in
theorem ct_D_setOwn {l : Launch} (hl0 : l.stackTraces = false) {G : LG} {σ : HS} {a : Nat} {i p k e : Int32}  : Ct l G m_D_setOwn [.ref (0 + 16 * a), .int (i), .int (p), .int (k), .int (e)] σ (qd (.inr none) (setOwnS σ a i p k e)) := by
  refine Ct.of hl0 rfl rfl (Nat.le_of_ble_eq_true rfl) ?_
  show Ex l G m_D_setOwn (pmV G m_D_setOwn (qd (.inr none) (setOwnS σ a i p k e))) 0 [(0, .ref (0 + 16 * a)), (1, .int (i)), (2, .int (p)), (3, .int (k)), (4, .int (e))] [] σ 0 0
  refine e_aload_n d_D_setOwn_0 rfl rfl ?_
  refine e_iload_n d_D_setOwn_1 rfl rfl ?_
  refine p_D_9 rfl d_D_setOwn_2 ?_
  refine e_aload_n d_D_setOwn_5 rfl rfl ?_
  refine e_iload_n d_D_setOwn_6 rfl rfl ?_
  refine p_D_15 rfl d_D_setOwn_7 ?_
  refine e_aload_n d_D_setOwn_10 rfl rfl ?_
  refine e_iload d_D_setOwn_11 rfl ?_
  refine p_D_18 rfl d_D_setOwn_13 ?_
  refine e_aload_n d_D_setOwn_16 rfl rfl ?_
  refine e_iload_n d_D_setOwn_17 rfl rfl ?_
  refine p_D_21 rfl d_D_setOwn_18 ?_
  refine e_aload_n d_D_setOwn_21 rfl rfl ?_
  refine e_iconst (v := 0) d_D_setOwn_22 (by decide) ?_
  refine p_D_24 rfl d_D_setOwn_23 ?_
  refine e_aload_n d_D_setOwn_26 rfl rfl ?_
  refine e_iload_n d_D_setOwn_27 rfl rfl ?_
  refine p_D_27 rfl d_D_setOwn_28 ?_
  refine e_aload_n d_D_setOwn_31 rfl rfl ?_
  refine e_iconst (v := -1) d_D_setOwn_32 (by decide) ?_
  refine p_D_30 rfl d_D_setOwn_33 ?_
  refine e_aload_n d_D_setOwn_36 rfl rfl ?_
  refine e_iconst (v := -1) d_D_setOwn_37 (by decide) ?_
  refine p_D_33 rfl d_D_setOwn_38 ?_
  exact e_vret d_D_setOwn_41 rfl ⟨rfl, rfl⟩
set_option maxHeartbeats 4000000 in
theorem ct_D_setRootOf {l : Launch} (hl0 : l.stackTraces = false) {G : LG} {σ : HS} {a b : Nat}  : Ct l G m_D_setRootOf [.ref (0 + 16 * a), .ref (0 + 16 * b)] σ (qd (.inr none) (cpRoot σ a b)) := by
  refine Ct.of hl0 rfl rfl (Nat.le_of_ble_eq_true rfl) ?_
  show Ex l G m_D_setRootOf (pmV G m_D_setRootOf (qd (.inr none) (cpRoot σ a b))) 0 [(0, .ref (0 + 16 * a)), (1, .ref (0 + 16 * b))] [] σ 0 0
  refine e_aload_n d_D_setRootOf_0 rfl rfl ?_
  refine e_aload_n d_D_setRootOf_1 rfl rfl ?_
  refine g_D_9 rfl d_D_setRootOf_2 ?_
  refine p_D_9 rfl d_D_setRootOf_5 ?_
  refine e_aload_n d_D_setRootOf_8 rfl rfl ?_
  refine e_aload_n d_D_setRootOf_9 rfl rfl ?_
  refine g_D_15 rfl d_D_setRootOf_10 ?_
  refine p_D_15 rfl d_D_setRootOf_13 ?_
  refine e_aload_n d_D_setRootOf_16 rfl rfl ?_
  refine e_aload_n d_D_setRootOf_17 rfl rfl ?_
  refine g_D_18 rfl d_D_setRootOf_18 ?_
  refine p_D_18 rfl d_D_setRootOf_21 ?_
  refine e_aload_n d_D_setRootOf_24 rfl rfl ?_
  refine e_aload_n d_D_setRootOf_25 rfl rfl ?_
  refine g_D_21 rfl d_D_setRootOf_26 ?_
  refine p_D_21 rfl d_D_setRootOf_29 ?_
  exact e_vret d_D_setRootOf_32 rfl ⟨rfl, (by simp [cpRoot, I_sI])⟩
set_option maxHeartbeats 4000000 in
theorem ct_D_betterThan {l : Launch} (hl0 : l.stackTraces = false) {G : LG} {σ : HS} {a b : Nat}  : Ct l G m_D_betterThan [.ref (0 + 16 * a), .ref (0 + 16 * b)] σ (qd (.inr (some (.int (btI (hI σ 0 a) (hI σ 0 b))))) σ) := by
  refine Ct.of hl0 rfl rfl (Nat.le_of_ble_eq_true rfl) ?_
  show Ex l G m_D_betterThan (pmV G m_D_betterThan (qd (.inr (some (.int (btI (hI σ 0 a) (hI σ 0 b))))) σ)) 0 [(0, .ref (0 + 16 * a)), (1, .ref (0 + 16 * b))] [] σ 0 0
  refine e_aload_n d_D_betterThan_0 rfl rfl ?_
  refine g_D_9 rfl d_D_betterThan_1 ?_
  refine e_aload_n d_D_betterThan_4 rfl rfl ?_
  refine g_D_9 rfl d_D_betterThan_5 ?_
  refine e_icmpeq (tgt := 28) d_D_betterThan_8 (by decide) (fun h8 => ?_) (fun h8 => ?_)
  ·
    refine e_aload_n d_D_betterThan_28 rfl rfl ?_
    refine g_D_15 rfl d_D_betterThan_29 ?_
    refine e_aload_n d_D_betterThan_32 rfl rfl ?_
    refine g_D_15 rfl d_D_betterThan_33 ?_
    refine e_icmpeq (tgt := 56) d_D_betterThan_36 (by decide) (fun h36 => ?_) (fun h36 => ?_)
    ·
      refine e_aload_n d_D_betterThan_56 rfl rfl ?_
      refine g_D_18 rfl d_D_betterThan_57 ?_
      refine e_aload_n d_D_betterThan_60 rfl rfl ?_
      refine g_D_18 rfl d_D_betterThan_61 ?_
      refine e_icmpeq (tgt := 84) d_D_betterThan_64 (by decide) (fun h64 => ?_) (fun h64 => ?_)
      ·
        refine e_aload_n d_D_betterThan_84 rfl rfl ?_
        refine g_D_21 rfl d_D_betterThan_85 ?_
        refine e_aload_n d_D_betterThan_88 rfl rfl ?_
        refine g_D_21 rfl d_D_betterThan_89 ?_
        refine e_icmpeq (tgt := 112) d_D_betterThan_92 (by decide) (fun h92 => ?_) (fun h92 => ?_)
        ·
          refine e_aload_n d_D_betterThan_112 rfl rfl ?_
          refine g_D_24 rfl d_D_betterThan_113 ?_
          refine e_aload_n d_D_betterThan_116 rfl rfl ?_
          refine g_D_24 rfl d_D_betterThan_117 ?_
          refine e_icmpeq (tgt := 140) d_D_betterThan_120 (by decide) (fun h120 => ?_) (fun h120 => ?_)
          ·
            refine e_aload_n d_D_betterThan_140 rfl rfl ?_
            refine g_D_27 rfl d_D_betterThan_141 ?_
            refine e_aload_n d_D_betterThan_144 rfl rfl ?_
            refine g_D_27 rfl d_D_betterThan_145 ?_
            refine e_icmpeq (tgt := 168) d_D_betterThan_148 (by decide) (fun h148 => ?_) (fun h148 => ?_)
            ·
              refine e_aload_n d_D_betterThan_168 rfl rfl ?_
              refine g_D_30 rfl d_D_betterThan_169 ?_
              refine e_aload_n d_D_betterThan_172 rfl rfl ?_
              refine g_D_30 rfl d_D_betterThan_173 ?_
              refine e_icmpeq (tgt := 196) d_D_betterThan_176 (by decide) (fun h176 => ?_) (fun h176 => ?_)
              ·
                refine e_aload_n d_D_betterThan_196 rfl rfl ?_
                refine g_D_33 rfl d_D_betterThan_197 ?_
                refine e_aload_n d_D_betterThan_200 rfl rfl ?_
                refine g_D_33 rfl d_D_betterThan_201 ?_
                refine e_icmpge (tgt := 211) d_D_betterThan_204 (by decide) (fun h204 => ?_) (fun h204 => ?_)
                ·
                  refine e_iconst (v := 0) d_D_betterThan_211 (by decide) ?_
                  exact e_zret d_D_betterThan_212 rfl (by first | exact Or.inl rfl | exact Or.inr rfl) ⟨(by simp [btI, lexI, h8, h36, h64, h92, h120, h148, h176, h204]), rfl⟩
                ·
                  refine e_iconst (v := 1) d_D_betterThan_207 (by decide) ?_
                  refine e_goto (tgt := 212) d_D_betterThan_208 (by decide) ?_
                  exact e_zret d_D_betterThan_212 rfl (by first | exact Or.inl rfl | exact Or.inr rfl) ⟨(by simp [btI, lexI, h8, h36, h64, h92, h120, h148, h176, h204, ne_of_nle h204]), rfl⟩
              ·
                refine e_aload_n d_D_betterThan_179 rfl rfl ?_
                refine g_D_30 rfl d_D_betterThan_180 ?_
                refine e_aload_n d_D_betterThan_183 rfl rfl ?_
                refine g_D_30 rfl d_D_betterThan_184 ?_
                refine e_icmpge (tgt := 194) d_D_betterThan_187 (by decide) (fun h187 => ?_) (fun h187 => ?_)
                ·
                  refine e_iconst (v := 0) d_D_betterThan_194 (by decide) ?_
                  exact e_zret d_D_betterThan_195 rfl (by first | exact Or.inl rfl | exact Or.inr rfl) ⟨(by simp [btI, lexI, h8, h36, h64, h92, h120, h148, h176, h187]), rfl⟩
                ·
                  refine e_iconst (v := 1) d_D_betterThan_190 (by decide) ?_
                  refine e_goto (tgt := 195) d_D_betterThan_191 (by decide) ?_
                  exact e_zret d_D_betterThan_195 rfl (by first | exact Or.inl rfl | exact Or.inr rfl) ⟨(by simp [btI, lexI, h8, h36, h64, h92, h120, h148, h176, h187]), rfl⟩
            ·
              refine e_aload_n d_D_betterThan_151 rfl rfl ?_
              refine g_D_27 rfl d_D_betterThan_152 ?_
              refine e_aload_n d_D_betterThan_155 rfl rfl ?_
              refine g_D_27 rfl d_D_betterThan_156 ?_
              refine e_icmpge (tgt := 166) d_D_betterThan_159 (by decide) (fun h159 => ?_) (fun h159 => ?_)
              ·
                refine e_iconst (v := 0) d_D_betterThan_166 (by decide) ?_
                exact e_zret d_D_betterThan_167 rfl (by first | exact Or.inl rfl | exact Or.inr rfl) ⟨(by simp [btI, lexI, h8, h36, h64, h92, h120, h148, h159]), rfl⟩
              ·
                refine e_iconst (v := 1) d_D_betterThan_162 (by decide) ?_
                refine e_goto (tgt := 167) d_D_betterThan_163 (by decide) ?_
                exact e_zret d_D_betterThan_167 rfl (by first | exact Or.inl rfl | exact Or.inr rfl) ⟨(by simp [btI, lexI, h8, h36, h64, h92, h120, h148, h159]), rfl⟩
          ·
            refine e_aload_n d_D_betterThan_123 rfl rfl ?_
            refine g_D_24 rfl d_D_betterThan_124 ?_
            refine e_aload_n d_D_betterThan_127 rfl rfl ?_
            refine g_D_24 rfl d_D_betterThan_128 ?_
            refine e_icmpge (tgt := 138) d_D_betterThan_131 (by decide) (fun h131 => ?_) (fun h131 => ?_)
            ·
              refine e_iconst (v := 0) d_D_betterThan_138 (by decide) ?_
              exact e_zret d_D_betterThan_139 rfl (by first | exact Or.inl rfl | exact Or.inr rfl) ⟨(by simp [btI, lexI, h8, h36, h64, h92, h120, h131]), rfl⟩
            ·
              refine e_iconst (v := 1) d_D_betterThan_134 (by decide) ?_
              refine e_goto (tgt := 139) d_D_betterThan_135 (by decide) ?_
              exact e_zret d_D_betterThan_139 rfl (by first | exact Or.inl rfl | exact Or.inr rfl) ⟨(by simp [btI, lexI, h8, h36, h64, h92, h120, h131]), rfl⟩
        ·
          refine e_aload_n d_D_betterThan_95 rfl rfl ?_
          refine g_D_21 rfl d_D_betterThan_96 ?_
          refine e_aload_n d_D_betterThan_99 rfl rfl ?_
          refine g_D_21 rfl d_D_betterThan_100 ?_
          refine e_icmpge (tgt := 110) d_D_betterThan_103 (by decide) (fun h103 => ?_) (fun h103 => ?_)
          ·
            refine e_iconst (v := 0) d_D_betterThan_110 (by decide) ?_
            exact e_zret d_D_betterThan_111 rfl (by first | exact Or.inl rfl | exact Or.inr rfl) ⟨(by simp [btI, lexI, h8, h36, h64, h92, h103]), rfl⟩
          ·
            refine e_iconst (v := 1) d_D_betterThan_106 (by decide) ?_
            refine e_goto (tgt := 111) d_D_betterThan_107 (by decide) ?_
            exact e_zret d_D_betterThan_111 rfl (by first | exact Or.inl rfl | exact Or.inr rfl) ⟨(by simp [btI, lexI, h8, h36, h64, h92, h103]), rfl⟩
      ·
        refine e_aload_n d_D_betterThan_67 rfl rfl ?_
        refine g_D_18 rfl d_D_betterThan_68 ?_
        refine e_aload_n d_D_betterThan_71 rfl rfl ?_
        refine g_D_18 rfl d_D_betterThan_72 ?_
        refine e_icmpge (tgt := 82) d_D_betterThan_75 (by decide) (fun h75 => ?_) (fun h75 => ?_)
        ·
          refine e_iconst (v := 0) d_D_betterThan_82 (by decide) ?_
          exact e_zret d_D_betterThan_83 rfl (by first | exact Or.inl rfl | exact Or.inr rfl) ⟨(by simp [btI, lexI, h8, h36, h64, h75]), rfl⟩
        ·
          refine e_iconst (v := 1) d_D_betterThan_78 (by decide) ?_
          refine e_goto (tgt := 83) d_D_betterThan_79 (by decide) ?_
          exact e_zret d_D_betterThan_83 rfl (by first | exact Or.inl rfl | exact Or.inr rfl) ⟨(by simp [btI, lexI, h8, h36, h64, h75]), rfl⟩
    ·
      refine e_aload_n d_D_betterThan_39 rfl rfl ?_
      refine g_D_15 rfl d_D_betterThan_40 ?_
      refine e_aload_n d_D_betterThan_43 rfl rfl ?_
      refine g_D_15 rfl d_D_betterThan_44 ?_
      refine e_icmpge (tgt := 54) d_D_betterThan_47 (by decide) (fun h47 => ?_) (fun h47 => ?_)
      ·
        refine e_iconst (v := 0) d_D_betterThan_54 (by decide) ?_
        exact e_zret d_D_betterThan_55 rfl (by first | exact Or.inl rfl | exact Or.inr rfl) ⟨(by simp [btI, lexI, h8, h36, h47]), rfl⟩
      ·
        refine e_iconst (v := 1) d_D_betterThan_50 (by decide) ?_
        refine e_goto (tgt := 55) d_D_betterThan_51 (by decide) ?_
        exact e_zret d_D_betterThan_55 rfl (by first | exact Or.inl rfl | exact Or.inr rfl) ⟨(by simp [btI, lexI, h8, h36, h47]), rfl⟩
  ·
    refine e_aload_n d_D_betterThan_11 rfl rfl ?_
    refine g_D_9 rfl d_D_betterThan_12 ?_
    refine e_aload_n d_D_betterThan_15 rfl rfl ?_
    refine g_D_9 rfl d_D_betterThan_16 ?_
    refine e_icmpge (tgt := 26) d_D_betterThan_19 (by decide) (fun h19 => ?_) (fun h19 => ?_)
    ·
      refine e_iconst (v := 0) d_D_betterThan_26 (by decide) ?_
      exact e_zret d_D_betterThan_27 rfl (by first | exact Or.inl rfl | exact Or.inr rfl) ⟨(by simp [btI, lexI, h8, h19]), rfl⟩
    ·
      refine e_iconst (v := 1) d_D_betterThan_22 (by decide) ?_
      refine e_goto (tgt := 27) d_D_betterThan_23 (by decide) ?_
      exact e_zret d_D_betterThan_27 rfl (by first | exact Or.inl rfl | exact Or.inr rfl) ⟨(by simp [btI, lexI, h8, h19]), rfl⟩
set_option maxHeartbeats 4000000 in
theorem ct_D_tellsSameAs {l : Launch} (hl0 : l.stackTraces = false) {G : LG} {σ : HS} {a b : Nat}  : Ct l G m_D_tellsSameAs [.ref (0 + 16 * a), .ref (0 + 16 * b)] σ (qd (.inr (some (.int (tsI (hI σ 0 a) (hI σ 0 b))))) σ) := by
  refine Ct.of hl0 rfl rfl (Nat.le_of_ble_eq_true rfl) ?_
  show Ex l G m_D_tellsSameAs (pmV G m_D_tellsSameAs (qd (.inr (some (.int (tsI (hI σ 0 a) (hI σ 0 b))))) σ)) 0 [(0, .ref (0 + 16 * a)), (1, .ref (0 + 16 * b))] [] σ 0 0
  refine e_aload_n d_D_tellsSameAs_0 rfl rfl ?_
  refine g_D_9 rfl d_D_tellsSameAs_1 ?_
  refine e_aload_n d_D_tellsSameAs_4 rfl rfl ?_
  refine g_D_9 rfl d_D_tellsSameAs_5 ?_
  refine e_icmpne (tgt := 81) d_D_tellsSameAs_8 (by decide) (fun h8 => ?_) (fun h8 => ?_)
  ·
    refine e_iconst (v := 0) d_D_tellsSameAs_81 (by decide) ?_
    exact e_zret d_D_tellsSameAs_82 rfl (by first | exact Or.inl rfl | exact Or.inr rfl) ⟨(by simp [tsI, samI, h8]), rfl⟩
  ·
    refine e_aload_n d_D_tellsSameAs_11 rfl rfl ?_
    refine g_D_15 rfl d_D_tellsSameAs_12 ?_
    refine e_aload_n d_D_tellsSameAs_15 rfl rfl ?_
    refine g_D_15 rfl d_D_tellsSameAs_16 ?_
    refine e_icmpne (tgt := 81) d_D_tellsSameAs_19 (by decide) (fun h19 => ?_) (fun h19 => ?_)
    ·
      refine e_iconst (v := 0) d_D_tellsSameAs_81 (by decide) ?_
      exact e_zret d_D_tellsSameAs_82 rfl (by first | exact Or.inl rfl | exact Or.inr rfl) ⟨(by simp [tsI, samI, h8, h19]), rfl⟩
    ·
      refine e_aload_n d_D_tellsSameAs_22 rfl rfl ?_
      refine g_D_18 rfl d_D_tellsSameAs_23 ?_
      refine e_aload_n d_D_tellsSameAs_26 rfl rfl ?_
      refine g_D_18 rfl d_D_tellsSameAs_27 ?_
      refine e_icmpne (tgt := 81) d_D_tellsSameAs_30 (by decide) (fun h30 => ?_) (fun h30 => ?_)
      ·
        refine e_iconst (v := 0) d_D_tellsSameAs_81 (by decide) ?_
        exact e_zret d_D_tellsSameAs_82 rfl (by first | exact Or.inl rfl | exact Or.inr rfl) ⟨(by simp [tsI, samI, h8, h19, h30]), rfl⟩
      ·
        refine e_aload_n d_D_tellsSameAs_33 rfl rfl ?_
        refine g_D_21 rfl d_D_tellsSameAs_34 ?_
        refine e_aload_n d_D_tellsSameAs_37 rfl rfl ?_
        refine g_D_21 rfl d_D_tellsSameAs_38 ?_
        refine e_icmpne (tgt := 81) d_D_tellsSameAs_41 (by decide) (fun h41 => ?_) (fun h41 => ?_)
        ·
          refine e_iconst (v := 0) d_D_tellsSameAs_81 (by decide) ?_
          exact e_zret d_D_tellsSameAs_82 rfl (by first | exact Or.inl rfl | exact Or.inr rfl) ⟨(by simp [tsI, samI, h8, h19, h30, h41]), rfl⟩
        ·
          refine e_aload_n d_D_tellsSameAs_44 rfl rfl ?_
          refine g_D_24 rfl d_D_tellsSameAs_45 ?_
          refine e_aload_n d_D_tellsSameAs_48 rfl rfl ?_
          refine g_D_24 rfl d_D_tellsSameAs_49 ?_
          refine e_icmpne (tgt := 81) d_D_tellsSameAs_52 (by decide) (fun h52 => ?_) (fun h52 => ?_)
          ·
            refine e_iconst (v := 0) d_D_tellsSameAs_81 (by decide) ?_
            exact e_zret d_D_tellsSameAs_82 rfl (by first | exact Or.inl rfl | exact Or.inr rfl) ⟨(by simp [tsI, samI, h8, h19, h30, h41, h52]), rfl⟩
          ·
            refine e_aload_n d_D_tellsSameAs_55 rfl rfl ?_
            refine g_D_27 rfl d_D_tellsSameAs_56 ?_
            refine e_aload_n d_D_tellsSameAs_59 rfl rfl ?_
            refine g_D_27 rfl d_D_tellsSameAs_60 ?_
            refine e_icmpne (tgt := 81) d_D_tellsSameAs_63 (by decide) (fun h63 => ?_) (fun h63 => ?_)
            ·
              refine e_iconst (v := 0) d_D_tellsSameAs_81 (by decide) ?_
              exact e_zret d_D_tellsSameAs_82 rfl (by first | exact Or.inl rfl | exact Or.inr rfl) ⟨(by simp [tsI, samI, h8, h19, h30, h41, h52, h63]), rfl⟩
            ·
              refine e_aload_n d_D_tellsSameAs_66 rfl rfl ?_
              refine g_D_30 rfl d_D_tellsSameAs_67 ?_
              refine e_aload_n d_D_tellsSameAs_70 rfl rfl ?_
              refine g_D_30 rfl d_D_tellsSameAs_71 ?_
              refine e_icmpne (tgt := 81) d_D_tellsSameAs_74 (by decide) (fun h74 => ?_) (fun h74 => ?_)
              ·
                refine e_iconst (v := 0) d_D_tellsSameAs_81 (by decide) ?_
                exact e_zret d_D_tellsSameAs_82 rfl (by first | exact Or.inl rfl | exact Or.inr rfl) ⟨(by simp [tsI, samI, h8, h19, h30, h41, h52, h63, h74]), rfl⟩
              ·
                refine e_iconst (v := 1) d_D_tellsSameAs_77 (by decide) ?_
                refine e_goto (tgt := 82) d_D_tellsSameAs_78 (by decide) ?_
                exact e_zret d_D_tellsSameAs_82 rfl (by first | exact Or.inl rfl | exact Or.inr rfl) ⟨(by simp [tsI, samI, h8, h19, h30, h41, h52, h63, h74]), rfl⟩
