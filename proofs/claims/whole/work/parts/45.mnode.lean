def mn0 (σ : HS) (n : Nat) (i p k e : Int32) (off : Int64) : HS := sI (sJ (sJ (sI (sI (sI (sI (sI σ 6 0 0 0) 7 0 n i) 7 1 n p) 7 2 n k) 7 3 n e) 9 0 n off) 9 1 n (-1)) 6 0 1 (nI (n + 1))
def ml0 (σ : HS) (L x y : Nat) (t b : Int32) : HS := sI (sI (sI (sI (sI (sI (sI (sI (sI σ 6 0 0 0) 7 4 (2 * L) (nI x)) 7 4 (2 * L + 1) (nI y)) 7 5 (2 * L) t) 7 5 (2 * L + 1) b) 8 0 L 1) 7 6 x (nI L)) 7 6 y (nI L)) 6 0 8 (nI (L + 1))
/-- is there a node of this identity? -/
def mbL (σ : HS) (id b : Int32) : Nat → Int32
  | 0 => b
  | i + 1 => if mbL σ id b i = 0 then (if hI σ 7 0 i = id then 1 else 0) else 1
theorem mbL_1 {σ : HS} {id b : Int32} (h : ¬ b = 0) : ∀ i, ¬ mbL σ id b i = 0
  | 0 => h
  | i + 1 => by rw [mbL, if_neg (mbL_1 h i)]; decide
theorem mbL_0 {σ : HS} {id : Int32} : ∀ i, mbL σ id 0 i = 0 ↔ ∀ x, x < i → ¬ hI σ 7 0 x = id
  | 0 => ⟨fun _ x hx => by omega, fun _ => rfl⟩
  | i + 1 => by
    rw [mbL]
    by_cases c : mbL σ id 0 i = 0
    · rw [if_pos c]
      have ih := (mbL_0 i).mp c
      by_cases d : hI σ 7 0 i = id
      · rw [if_pos d]; exact ⟨fun z => absurd z (by decide), fun z => absurd d (z i (by omega))⟩
      · rw [if_neg d]; exact ⟨fun _ x hx => by by_cases e : x = i; (rw [e]; exact d); exact ih x (by omega), fun _ => rfl⟩
    · rw [if_neg c]; exact ⟨fun z => absurd z (by decide), fun z => absurd ((mbL_0 i).mpr (fun x hx => z x (by omega))) c⟩
set_option maxHeartbeats 4000000 in
theorem li_M_node {l : Launch} (hl0 : l.stackTraces = false) {G : LG} {PM : LPM} {σ : HS} {i p k e b : Int32} {off : Int64} {n : Nat} (hM : MS σ) (hn10 : n ≤ 10) (hnn : hI σ 6 0 1 = nI n) (hnext : Ex l G m_M_node PM 84 [(8, .int (nI n)), (7, .int (mbL σ i b n)), (0, .ref (6 + 16 * 0)), (1, .int (i)), (2, .int (p)), (3, .int (k)), (4, .int (e)), (5, .long (off))] [] (σ) 0 0) : ∀ m x, x + m = n → Ex l G m_M_node PM 46 [(8, .int (nI x)), (7, .int (mbL σ i b x)), (0, .ref (6 + 16 * 0)), (1, .int (i)), (2, .int (p)), (3, .int (k)), (4, .int (e)), (5, .long (off))] [] (σ) 0 0 := by
  intro m
  induction m with
  | zero =>
    intro x hx
    obtain rfl : x = n := by omega
    refine e_iload d_M_node_46 rfl ?_
    refine e_aload_n d_M_node_48 rfl rfl ?_
    refine g_M_100 rfl d_M_node_49 ?_
    refine e_icmpge (tgt := 84) d_M_node_52 (by decide) (fun h52 => ?_) (fun h52 => absurd (by rw [hnn]; exact nI_le (Nat.le_refl _) (by omega)) h52)
    exact hnext
  | succ m ih =>
    intro x hx
    have hxn : x < n := by omega
    refine e_iload d_M_node_46 rfl ?_
    refine e_aload_n d_M_node_48 rfl rfl ?_
    refine g_M_100 rfl d_M_node_49 ?_
    refine e_icmpge (tgt := 84) d_M_node_52 (by decide) (fun h52 => absurd h52 (by rw [hnn]; exact nI_ge hxn (by omega))) (fun h52 => ?_)
    refine e_iload d_M_node_55 rfl ?_
    refine e_ifne (tgt := 71) d_M_node_57 (by decide) (fun h57 => ?_) (fun h57 => ?_)
    ·
      refine e_iconst (v := 1) d_M_node_71 (by decide) ?_
      refine e_goto (tgt := 76) d_M_node_72 (by decide) ?_
      refine e_istore (lv' := [(7, .int (1)), (8, .int (nI x)), (0, .ref (6 + 16 * 0)), (1, .int (i)), (2, .int (p)), (3, .int (k)), (4, .int (e)), (5, .long (off))]) d_M_node_76 (by decide) rfl ?_
      refine e_iinc (v := nI (x + 1)) (lv' := [(8, .int (nI (x + 1))), (7, .int (1)), (0, .ref (6 + 16 * 0)), (1, .int (i)), (2, .int (p)), (3, .int (k)), (4, .int (e)), (5, .long (off))]) d_M_node_78 rfl (ofI1 x) (by decide) rfl ?_
      refine e_goto (tgt := 46) d_M_node_81 (by decide) ?_
      exact e_lv (lv' := [(8, .int (nI (x + 1))), (7, .int (1)), (0, .ref (6 + 16 * 0)), (1, .int (i)), (2, .int (p)), (3, .int (k)), (4, .int (e)), (5, .long (off))]) ⟨rfl, rfl, rfl, rfl, rfl, rfl, rfl, rfl, trivial⟩ (by have h9 := ih (x + 1) (by omega); rw [show mbL σ i b (x + 1) = 1 by rw [mbL]; first | rw [if_neg h57] | rw [if_pos (Decidable.not_not.mp h57), if_pos h68] | rw [if_pos (Decidable.not_not.mp h57), if_neg h68] | rw [if_pos h57, if_pos h68] | rw [if_pos h57, if_neg h68]] at h9; exact h9)
    ·
      refine e_aload_n d_M_node_60 rfl rfl ?_
      refine g_M_7 (b := 7 + 16 * 0) rfl d_M_node_61 hM.a_identities ?_
      refine e_iload d_M_node_64 rfl ?_
      refine e_iald d_M_node_66 (show vp_in (nI x) (hl σ 7 0) from by rw [hM.l_identities]; exact nI_in (by omega) (by decide)) ?_
      rw [nI_clamp (show x < 2 ^ 31 by omega)]
      refine e_iload_n d_M_node_67 rfl rfl ?_
      refine e_icmpne (tgt := 75) d_M_node_68 (by decide) (fun h68 => ?_) (fun h68 => ?_)
      ·
        refine e_iconst (v := 0) d_M_node_75 (by decide) ?_
        refine e_istore (lv' := [(7, .int (0)), (8, .int (nI x)), (0, .ref (6 + 16 * 0)), (1, .int (i)), (2, .int (p)), (3, .int (k)), (4, .int (e)), (5, .long (off))]) d_M_node_76 (by decide) rfl ?_
        refine e_iinc (v := nI (x + 1)) (lv' := [(8, .int (nI (x + 1))), (7, .int (0)), (0, .ref (6 + 16 * 0)), (1, .int (i)), (2, .int (p)), (3, .int (k)), (4, .int (e)), (5, .long (off))]) d_M_node_78 rfl (ofI1 x) (by decide) rfl ?_
        refine e_goto (tgt := 46) d_M_node_81 (by decide) ?_
        exact e_lv (lv' := [(8, .int (nI (x + 1))), (7, .int (0)), (0, .ref (6 + 16 * 0)), (1, .int (i)), (2, .int (p)), (3, .int (k)), (4, .int (e)), (5, .long (off))]) ⟨rfl, rfl, rfl, rfl, rfl, rfl, rfl, rfl, trivial⟩ (by have h9 := ih (x + 1) (by omega); rw [show mbL σ i b (x + 1) = 0 by rw [mbL]; first | rw [if_neg h57] | rw [if_pos (Decidable.not_not.mp h57), if_pos h68] | rw [if_pos (Decidable.not_not.mp h57), if_neg h68] | rw [if_pos h57, if_pos h68] | rw [if_pos h57, if_neg h68]] at h9; exact h9)
      ·
        refine e_iconst (v := 1) d_M_node_71 (by decide) ?_
        refine e_goto (tgt := 76) d_M_node_72 (by decide) ?_
        refine e_istore (lv' := [(7, .int (1)), (8, .int (nI x)), (0, .ref (6 + 16 * 0)), (1, .int (i)), (2, .int (p)), (3, .int (k)), (4, .int (e)), (5, .long (off))]) d_M_node_76 (by decide) rfl ?_
        refine e_iinc (v := nI (x + 1)) (lv' := [(8, .int (nI (x + 1))), (7, .int (1)), (0, .ref (6 + 16 * 0)), (1, .int (i)), (2, .int (p)), (3, .int (k)), (4, .int (e)), (5, .long (off))]) d_M_node_78 rfl (ofI1 x) (by decide) rfl ?_
        refine e_goto (tgt := 46) d_M_node_81 (by decide) ?_
        exact e_lv (lv' := [(8, .int (nI (x + 1))), (7, .int (1)), (0, .ref (6 + 16 * 0)), (1, .int (i)), (2, .int (p)), (3, .int (k)), (4, .int (e)), (5, .long (off))]) ⟨rfl, rfl, rfl, rfl, rfl, rfl, rfl, rfl, trivial⟩ (by have h9 := ih (x + 1) (by omega); rw [show mbL σ i b (x + 1) = 1 by rw [mbL]; first | rw [if_neg h57] | rw [if_pos (Decidable.not_not.mp h57), if_pos h68] | rw [if_pos (Decidable.not_not.mp h57), if_neg h68] | rw [if_pos h57, if_pos h68] | rw [if_pos h57, if_neg h68]] at h9; exact h9)
set_option maxHeartbeats 4000000 in
theorem lx_M_node {l : Launch} (hl0 : l.stackTraces = false) {G : LG} {σ : HS} {i p k e b : Int32} {off : Int64} {n : Nat} (hM : MS σ) (hn10 : n ≤ 10) (hnn : hI σ 6 0 1 = nI n) (hb : ¬ mbL σ i b n = 0) : Ex l G m_M_node (pmV G m_M_node (qd (.inr (some (.int 0))) (sI σ 6 0 0 1))) 84 [(8, .int (nI n)), (7, .int (mbL σ i b n)), (0, .ref (6 + 16 * 0)), (1, .int (i)), (2, .int (p)), (3, .int (k)), (4, .int (e)), (5, .long (off))] [] (σ) 0 0 := by
  refine e_aload_n d_M_node_84 rfl rfl ?_
  refine e_iload d_M_node_85 rfl ?_
  refine e_ifeq (tgt := 94) d_M_node_87 (by decide) (fun h87 => absurd h87 hb) (fun h87 => ?_)
  refine e_iconst (v := 1) d_M_node_90 (by decide) ?_
  refine e_goto (tgt := 108) d_M_node_91 (by decide) ?_
  refine p_M_78 rfl d_M_node_108 ?_
  refine e_aload_n d_M_node_111 rfl rfl ?_
  refine g_M_78 rfl d_M_node_112 ?_
  refine e_ifeq (tgt := 120) d_M_node_115 (by decide) (fun h115 => absurd h115 (by rw [th_1]; decide +kernel)) (fun h115 => ?_)
  refine e_iconst (v := 0) d_M_node_118 (by decide) ?_
  exact e_iret d_M_node_119 rfl ⟨rfl, rfl⟩
set_option maxHeartbeats 4000000 in
theorem lz_M_node {l : Launch} (hl0 : l.stackTraces = false) {G : LG} {σ : HS} {i p k e b : Int32} {off : Int64} {n : Nat} (hM : MS σ) (hn10 : n ≤ 10) (hnn : hI σ 6 0 1 = nI n) (hb : mbL σ i b n = 0) (hfull : n = 10) : Ex l G m_M_node (pmV G m_M_node (qd (.inr (some (.int 0))) (sI σ 6 0 0 2))) 84 [(8, .int (nI n)), (7, .int (mbL σ i b n)), (0, .ref (6 + 16 * 0)), (1, .int (i)), (2, .int (p)), (3, .int (k)), (4, .int (e)), (5, .long (off))] [] (σ) 0 0 := by
  refine e_aload_n d_M_node_84 rfl rfl ?_
  refine e_iload d_M_node_85 rfl ?_
  refine e_ifeq (tgt := 94) d_M_node_87 (by decide) (fun h87 => ?_) (fun h87 => absurd hb h87)
  refine e_aload_n d_M_node_94 rfl rfl ?_
  refine g_M_100 rfl d_M_node_95 ?_
  refine e_bipush (v := 10) d_M_node_98 (by decide) ?_
  refine e_icmpne (tgt := 107) d_M_node_100 (by decide) (fun h100 => absurd h100 (fun z => z (by rw [hnn, hfull]; decide +kernel))) (fun h100 => ?_)
  refine e_iconst (v := 2) d_M_node_103 (by decide) ?_
  refine e_goto (tgt := 108) d_M_node_104 (by decide) ?_
  refine p_M_78 rfl d_M_node_108 ?_
  refine e_aload_n d_M_node_111 rfl rfl ?_
  refine g_M_78 rfl d_M_node_112 ?_
  refine e_ifeq (tgt := 120) d_M_node_115 (by decide) (fun h115 => absurd h115 (by rw [th_1]; decide +kernel)) (fun h115 => ?_)
  refine e_iconst (v := 0) d_M_node_118 (by decide) ?_
  exact e_iret d_M_node_119 rfl ⟨rfl, rfl⟩
set_option maxHeartbeats 4000000 in
theorem lo_M_node {l : Launch} (hl0 : l.stackTraces = false) {G : LG} {σ : HS} {i p k e b : Int32} {off : Int64} {n : Nat} (hM : MS σ) (hn10 : n ≤ 10) (hnn : hI σ 6 0 1 = nI n) (hb : mbL σ i b n = 0) (hlt : n < 10) : Ex l G m_M_node (pmV G m_M_node (qd (.inr (some (.int (nI n)))) (faS (mn0 σ n i p k e off) (n + 1)))) 84 [(8, .int (nI n)), (7, .int (mbL σ i b n)), (0, .ref (6 + 16 * 0)), (1, .int (i)), (2, .int (p)), (3, .int (k)), (4, .int (e)), (5, .long (off))] [] (σ) 0 0 := by
  refine e_aload_n d_M_node_84 rfl rfl ?_
  refine e_iload d_M_node_85 rfl ?_
  refine e_ifeq (tgt := 94) d_M_node_87 (by decide) (fun h87 => ?_) (fun h87 => absurd hb h87)
  refine e_aload_n d_M_node_94 rfl rfl ?_
  refine g_M_100 rfl d_M_node_95 ?_
  refine e_bipush (v := 10) d_M_node_98 (by decide) ?_
  refine e_icmpne (tgt := 107) d_M_node_100 (by decide) (fun h100 => ?_) (fun h100 => absurd h100 (by rw [hnn, show (10 : Int32) = nI 10 by decide +kernel]; exact fun z => absurd ((nI_eq (by omega) (by omega)).mp z) (by omega)))
  refine e_iconst (v := 0) d_M_node_107 (by decide) ?_
  refine p_M_78 rfl d_M_node_108 ?_
  refine e_aload_n d_M_node_111 rfl rfl ?_
  refine g_M_78 rfl d_M_node_112 ?_
  refine e_ifeq (tgt := 120) d_M_node_115 (by decide) (fun h115 => ?_) (fun h115 => absurd (by rw [th_1]) h115)
  refine e_aload_n d_M_node_120 rfl rfl ?_
  refine g_M_7 (b := 7 + 16 * 0) rfl d_M_node_121 hM.a_identities ?_
  refine e_aload_n d_M_node_124 rfl rfl ?_
  refine g_M_100 rfl d_M_node_125 ?_
  rw [show hI (sI (σ) 6 (0) 0 (0)) 6 (0) 1 = nI n from by simp [I_sI, I_sJ, hnn]]
  refine e_iload_n d_M_node_128 rfl rfl ?_
  refine e_iast d_M_node_129 (show vp_in (nI n) (hl σ 7 0) from by rw [hM.l_identities]; exact nI_in (by omega) (by decide)) ?_
  rw [nI_clamp (show n < 2 ^ 31 by omega)]
  refine e_aload_n d_M_node_130 rfl rfl ?_
  refine g_M_13 (b := 7 + 16 * 1) rfl d_M_node_131 hM.a_priorities ?_
  refine e_aload_n d_M_node_134 rfl rfl ?_
  refine g_M_100 rfl d_M_node_135 ?_
  rw [show hI (sI (sI (σ) 6 (0) 0 (0)) 7 (0) (n) (i)) 6 (0) 1 = nI n from by simp [I_sI, I_sJ, hnn]]
  refine e_iload_n d_M_node_138 rfl rfl ?_
  refine e_iast d_M_node_139 (show vp_in (nI n) (hl σ 7 1) from by rw [hM.l_priorities]; exact nI_in (by omega) (by decide)) ?_
  rw [nI_clamp (show n < 2 ^ 31 by omega)]
  refine e_aload_n d_M_node_140 rfl rfl ?_
  refine g_M_16 (b := 7 + 16 * 2) rfl d_M_node_141 hM.a_classes ?_
  refine e_aload_n d_M_node_144 rfl rfl ?_
  refine g_M_100 rfl d_M_node_145 ?_
  rw [show hI (sI (sI (sI (σ) 6 (0) 0 (0)) 7 (0) (n) (i)) 7 (1) (n) (p)) 6 (0) 1 = nI n from by simp [I_sI, I_sJ, hnn]]
  refine e_iload_n d_M_node_148 rfl rfl ?_
  refine e_iast d_M_node_149 (show vp_in (nI n) (hl σ 7 2) from by rw [hM.l_classes]; exact nI_in (by omega) (by decide)) ?_
  rw [nI_clamp (show n < 2 ^ 31 by omega)]
  refine e_aload_n d_M_node_150 rfl rfl ?_
  refine g_M_19 (b := 7 + 16 * 3) rfl d_M_node_151 hM.a_lessers ?_
  refine e_aload_n d_M_node_154 rfl rfl ?_
  refine g_M_100 rfl d_M_node_155 ?_
  rw [show hI (sI (sI (sI (sI (σ) 6 (0) 0 (0)) 7 (0) (n) (i)) 7 (1) (n) (p)) 7 (2) (n) (k)) 6 (0) 1 = nI n from by simp [I_sI, I_sJ, hnn]]
  refine e_iload d_M_node_158 rfl ?_
  refine e_iast d_M_node_160 (show vp_in (nI n) (hl σ 7 3) from by rw [hM.l_lessers]; exact nI_in (by omega) (by decide)) ?_
  rw [nI_clamp (show n < 2 ^ 31 by omega)]
  refine e_aload_n d_M_node_161 rfl rfl ?_
  refine g_M_22 (b := 9 + 16 * 0) rfl d_M_node_162 hM.a_offsets ?_
  refine e_aload_n d_M_node_165 rfl rfl ?_
  refine g_M_100 rfl d_M_node_166 ?_
  rw [show hI (sI (sI (sI (sI (sI (σ) 6 (0) 0 (0)) 7 (0) (n) (i)) 7 (1) (n) (p)) 7 (2) (n) (k)) 7 (3) (n) (e)) 6 (0) 1 = nI n from by simp [I_sI, I_sJ, hnn]]
  refine e_lload d_M_node_169 rfl ?_
  refine e_last d_M_node_171 (show vp_in (nI n) (hl σ 9 0) from by rw [hM.l_offsets]; exact nI_in (by omega) (by decide)) ?_
  rw [nI_clamp (show n < 2 ^ 31 by omega)]
  refine e_aload_n d_M_node_172 rfl rfl ?_
  refine g_M_26 (b := 9 + 16 * 1) rfl d_M_node_173 hM.a_delays ?_
  refine e_aload_n d_M_node_176 rfl rfl ?_
  refine g_M_100 rfl d_M_node_177 ?_
  rw [show hI (sJ (sI (sI (sI (sI (sI (σ) 6 (0) 0 (0)) 7 (0) (n) (i)) 7 (1) (n) (p)) 7 (2) (n) (k)) 7 (3) (n) (e)) 9 (0) (n) (off)) 6 (0) 1 = nI n from by simp [I_sI, I_sJ, hnn]]
  refine e_ldc2 (v := -1) d_M_node_180 kc_M_110 ?_
  refine e_last d_M_node_183 (show vp_in (nI n) (hl σ 9 1) from by rw [hM.l_delays]; exact nI_in (by omega) (by decide)) ?_
  rw [nI_clamp (show n < 2 ^ 31 by omega)]
  refine e_aload_n d_M_node_184 rfl rfl ?_
  refine e_dup d_M_node_185 rfl ?_
  refine g_M_100 rfl d_M_node_186 ?_
  rw [show hI (sJ (sJ (sI (sI (sI (sI (sI (σ) 6 (0) 0 (0)) 7 (0) (n) (i)) 7 (1) (n) (p)) 7 (2) (n) (k)) 7 (3) (n) (e)) 9 (0) (n) (off)) 9 (1) (n) (-1)) 6 (0) 1 = nI n from by simp [I_sI, I_sJ, hnn]]
  refine e_iconst (v := 1) d_M_node_189 (by decide) ?_
  refine e_iadd d_M_node_190 ?_
  rw [show (nI n) + (1) = nI (n + 1) from by rw [show (1 : Int32) = nI 1 from by decide +kernel, nJ_add]]
  refine p_M_100 rfl d_M_node_191 ?_
  refine e_aload_n d_M_node_194 rfl rfl ?_
  refine e_callVd (v := none) (σ' := faS (sI (sJ (sJ (sI (sI (sI (sI (sI (σ) 6 (0) 0 (0)) 7 (0) (n) (i)) 7 (1) (n) (p)) 7 (2) (n) (k)) 7 (3) (n) (e)) 9 (0) (n) (off)) 9 (1) (n) (-1)) 6 (0) 1 (nI (n + 1))) (n + 1)) (q := 6) (a := 0) (As := []) (st := []) 0 0 d_M_node_195 cb_M_node_112 iv_M_findAll rfl ⟨by decide, rfl⟩ rfl (Nat.le_of_ble_eq_true rfl) (by decide) (by decide) (ct_M_findAll (σ := sI (sJ (sJ (sI (sI (sI (sI (sI (σ) 6 (0) 0 (0)) 7 (0) (n) (i)) 7 (1) (n) (p)) 7 (2) (n) (k)) 7 (3) (n) (e)) 9 (0) (n) (off)) 9 (1) (n) (-1)) 6 (0) 1 (nI (n + 1))) hl0 (hM.of rfl rfl) (show n + 1 ≤ 10 by omega) (by rw [I_sI, if_pos ⟨rfl, rfl, rfl⟩])) ?_
  show Ex l G m_M_node (pmV G m_M_node (qd (.inr (some (.int (nI n)))) (faS (mn0 σ n i p k e off) (n + 1)))) 198 [(8, .int (nI n)), (7, .int (mbL σ i b n)), (0, .ref (6 + 16 * 0)), (1, .int (i)), (2, .int (p)), (3, .int (k)), (4, .int (e)), (5, .long (off))] [] (faS (sI (sJ (sJ (sI (sI (sI (sI (sI (σ) 6 (0) 0 (0)) 7 (0) (n) (i)) 7 (1) (n) (p)) 7 (2) (n) (k)) 7 (3) (n) (e)) 9 (0) (n) (off)) 9 (1) (n) (-1)) 6 (0) 1 (nI (n + 1))) (n + 1)) 0 0
  refine e_aload_n d_M_node_198 rfl rfl ?_
  refine g_M_100 rfl d_M_node_199 ?_
  rw [show hI (faS (sI (sJ (sJ (sI (sI (sI (sI (sI (σ) 6 (0) 0 (0)) 7 (0) (n) (i)) 7 (1) (n) (p)) 7 (2) (n) (k)) 7 (3) (n) (e)) 9 (0) (n) (off)) 9 (1) (n) (-1)) 6 (0) 1 (nI (n + 1))) (n + 1)) 6 (0) 1 = nI (n + 1) from by rw [faS_I6, I_sI, if_pos ⟨rfl, rfl, rfl⟩]]
  refine e_iconst (v := 1) d_M_node_202 (by decide) ?_
  refine e_isub d_M_node_203 ?_
  rw [show (nI (n + 1)) - (1) = nI n from nI_pred n]
  exact e_iret d_M_node_204 rfl ⟨rfl, rfl⟩
set_option maxHeartbeats 4000000 in
set_option maxRecDepth 100000 in
theorem ct_M_node_x {l : Launch} (hl0 : l.stackTraces = false) {G : LG} {σ : HS} {i p k e : Int32} {off : Int64} {n : Nat} (hM : MS σ) (hn10 : n ≤ 10) (hnn : hI σ 6 0 1 = nI n) (hx : ¬ (¬ i < 0 ∧ ¬ 9999 < i ∧ ¬ bsV p = 0 ∧ ¬ bsV k = 0 ∧ ¬ bsV e = 0)) : Ct l G m_M_node [.ref (6 + 16 * 0), .int (i), .int (p), .int (k), .int (e), .long (off)] (σ) (qd (.inr (some (.int 0))) (sI σ 6 0 0 1)) := by
  refine Ct.of hl0 rfl rfl (Nat.le_of_ble_eq_true rfl) ?_
  show Ex l G m_M_node (pmV G m_M_node (qd (.inr (some (.int 0))) (sI σ 6 0 0 1))) 0 [(0, .ref (6 + 16 * 0)), (1, .int (i)), (2, .int (p)), (3, .int (k)), (4, .int (e)), (5, .long (off))] [] (σ) 0 0
  refine e_iload_n d_M_node_0 rfl rfl ?_
  refine e_iflt (tgt := 36) d_M_node_1 (by decide) (fun h1 => ?_) (fun h1 => ?_)
  ·
    refine e_iconst (v := 1) d_M_node_36 (by decide) ?_
    refine e_goto (tgt := 41) d_M_node_37 (by decide) ?_
    refine e_istore (lv' := [(7, .int (1)), (0, .ref (6 + 16 * 0)), (1, .int (i)), (2, .int (p)), (3, .int (k)), (4, .int (e)), (5, .long (off))]) d_M_node_41 (by decide) rfl ?_
    refine e_iconst (v := 0) d_M_node_43 (by decide) ?_
    refine e_istore (lv' := [(8, .int (0)), (7, .int (1)), (0, .ref (6 + 16 * 0)), (1, .int (i)), (2, .int (p)), (3, .int (k)), (4, .int (e)), (5, .long (off))]) d_M_node_44 (by decide) rfl ?_
    exact e_lv (lv' := [(8, .int (nI 0)), (7, .int (mbL σ i (1) 0)), (0, .ref (6 + 16 * 0)), (1, .int (i)), (2, .int (p)), (3, .int (k)), (4, .int (e)), (5, .long (off))]) ⟨rfl, rfl, rfl, rfl, rfl, rfl, rfl, rfl, trivial⟩ (li_M_node (b := 1) hl0 hM hn10 hnn (lx_M_node hl0 hM hn10 hnn (mbL_1 (by decide) n)) n 0 (by omega))
  ·
    refine e_iload_n d_M_node_4 rfl rfl ?_
    refine e_sipush (v := 9999) d_M_node_5 (by decide) ?_
    refine e_icmpgt (tgt := 36) d_M_node_8 (by decide) (fun h8 => ?_) (fun h8 => ?_)
    ·
      refine e_iconst (v := 1) d_M_node_36 (by decide) ?_
      refine e_goto (tgt := 41) d_M_node_37 (by decide) ?_
      refine e_istore (lv' := [(7, .int (1)), (0, .ref (6 + 16 * 0)), (1, .int (i)), (2, .int (p)), (3, .int (k)), (4, .int (e)), (5, .long (off))]) d_M_node_41 (by decide) rfl ?_
      refine e_iconst (v := 0) d_M_node_43 (by decide) ?_
      refine e_istore (lv' := [(8, .int (0)), (7, .int (1)), (0, .ref (6 + 16 * 0)), (1, .int (i)), (2, .int (p)), (3, .int (k)), (4, .int (e)), (5, .long (off))]) d_M_node_44 (by decide) rfl ?_
      exact e_lv (lv' := [(8, .int (nI 0)), (7, .int (mbL σ i (1) 0)), (0, .ref (6 + 16 * 0)), (1, .int (i)), (2, .int (p)), (3, .int (k)), (4, .int (e)), (5, .long (off))]) ⟨rfl, rfl, rfl, rfl, rfl, rfl, rfl, rfl, trivial⟩ (li_M_node (b := 1) hl0 hM hn10 hnn (lx_M_node hl0 hM hn10 hnn (mbL_1 (by decide) n)) n 0 (by omega))
    ·
      refine e_aload_n d_M_node_11 rfl rfl ?_
      refine e_iload_n d_M_node_12 rfl rfl ?_
      refine e_callVd (v := some (.int (bsV (p)))) (σ' := σ) (q := 6) (a := 0) (As := [.int (p)]) (st := []) 0 0 d_M_node_13 cb_M_node_106 iv_M_byteSized rfl ⟨by decide, rfl⟩ rfl (Nat.le_of_ble_eq_true rfl) (by decide) (by decide) (ct_M_byteSized hl0) ?_
      show Ex l G m_M_node (pmV G m_M_node (qd (.inr (some (.int 0))) (sI σ 6 0 0 1))) 16 [(0, .ref (6 + 16 * 0)), (1, .int (i)), (2, .int (p)), (3, .int (k)), (4, .int (e)), (5, .long (off))] [.int (bsV (p))] (σ) 0 0
      refine e_ifeq (tgt := 36) d_M_node_16 (by decide) (fun h16 => ?_) (fun h16 => ?_)
      ·
        refine e_iconst (v := 1) d_M_node_36 (by decide) ?_
        refine e_goto (tgt := 41) d_M_node_37 (by decide) ?_
        refine e_istore (lv' := [(7, .int (1)), (0, .ref (6 + 16 * 0)), (1, .int (i)), (2, .int (p)), (3, .int (k)), (4, .int (e)), (5, .long (off))]) d_M_node_41 (by decide) rfl ?_
        refine e_iconst (v := 0) d_M_node_43 (by decide) ?_
        refine e_istore (lv' := [(8, .int (0)), (7, .int (1)), (0, .ref (6 + 16 * 0)), (1, .int (i)), (2, .int (p)), (3, .int (k)), (4, .int (e)), (5, .long (off))]) d_M_node_44 (by decide) rfl ?_
        exact e_lv (lv' := [(8, .int (nI 0)), (7, .int (mbL σ i (1) 0)), (0, .ref (6 + 16 * 0)), (1, .int (i)), (2, .int (p)), (3, .int (k)), (4, .int (e)), (5, .long (off))]) ⟨rfl, rfl, rfl, rfl, rfl, rfl, rfl, rfl, trivial⟩ (li_M_node (b := 1) hl0 hM hn10 hnn (lx_M_node hl0 hM hn10 hnn (mbL_1 (by decide) n)) n 0 (by omega))
      ·
        refine e_aload_n d_M_node_19 rfl rfl ?_
        refine e_iload_n d_M_node_20 rfl rfl ?_
        refine e_callVd (v := some (.int (bsV (k)))) (σ' := σ) (q := 6) (a := 0) (As := [.int (k)]) (st := []) 0 0 d_M_node_21 cb_M_node_106 iv_M_byteSized rfl ⟨by decide, rfl⟩ rfl (Nat.le_of_ble_eq_true rfl) (by decide) (by decide) (ct_M_byteSized hl0) ?_
        show Ex l G m_M_node (pmV G m_M_node (qd (.inr (some (.int 0))) (sI σ 6 0 0 1))) 24 [(0, .ref (6 + 16 * 0)), (1, .int (i)), (2, .int (p)), (3, .int (k)), (4, .int (e)), (5, .long (off))] [.int (bsV (k))] (σ) 0 0
        refine e_ifeq (tgt := 36) d_M_node_24 (by decide) (fun h24 => ?_) (fun h24 => ?_)
        ·
          refine e_iconst (v := 1) d_M_node_36 (by decide) ?_
          refine e_goto (tgt := 41) d_M_node_37 (by decide) ?_
          refine e_istore (lv' := [(7, .int (1)), (0, .ref (6 + 16 * 0)), (1, .int (i)), (2, .int (p)), (3, .int (k)), (4, .int (e)), (5, .long (off))]) d_M_node_41 (by decide) rfl ?_
          refine e_iconst (v := 0) d_M_node_43 (by decide) ?_
          refine e_istore (lv' := [(8, .int (0)), (7, .int (1)), (0, .ref (6 + 16 * 0)), (1, .int (i)), (2, .int (p)), (3, .int (k)), (4, .int (e)), (5, .long (off))]) d_M_node_44 (by decide) rfl ?_
          exact e_lv (lv' := [(8, .int (nI 0)), (7, .int (mbL σ i (1) 0)), (0, .ref (6 + 16 * 0)), (1, .int (i)), (2, .int (p)), (3, .int (k)), (4, .int (e)), (5, .long (off))]) ⟨rfl, rfl, rfl, rfl, rfl, rfl, rfl, rfl, trivial⟩ (li_M_node (b := 1) hl0 hM hn10 hnn (lx_M_node hl0 hM hn10 hnn (mbL_1 (by decide) n)) n 0 (by omega))
        ·
          refine e_aload_n d_M_node_27 rfl rfl ?_
          refine e_iload d_M_node_28 rfl ?_
          refine e_callVd (v := some (.int (bsV (e)))) (σ' := σ) (q := 6) (a := 0) (As := [.int (e)]) (st := []) 0 0 d_M_node_30 cb_M_node_106 iv_M_byteSized rfl ⟨by decide, rfl⟩ rfl (Nat.le_of_ble_eq_true rfl) (by decide) (by decide) (ct_M_byteSized hl0) ?_
          show Ex l G m_M_node (pmV G m_M_node (qd (.inr (some (.int 0))) (sI σ 6 0 0 1))) 33 [(0, .ref (6 + 16 * 0)), (1, .int (i)), (2, .int (p)), (3, .int (k)), (4, .int (e)), (5, .long (off))] [.int (bsV (e))] (σ) 0 0
          refine e_ifne (tgt := 40) d_M_node_33 (by decide) (fun h33 => absurd h33 (fun z => hx ⟨h1, h8, h16, h24, z⟩)) (fun h33 => ?_)
          refine e_iconst (v := 1) d_M_node_36 (by decide) ?_
          refine e_goto (tgt := 41) d_M_node_37 (by decide) ?_
          refine e_istore (lv' := [(7, .int (1)), (0, .ref (6 + 16 * 0)), (1, .int (i)), (2, .int (p)), (3, .int (k)), (4, .int (e)), (5, .long (off))]) d_M_node_41 (by decide) rfl ?_
          refine e_iconst (v := 0) d_M_node_43 (by decide) ?_
          refine e_istore (lv' := [(8, .int (0)), (7, .int (1)), (0, .ref (6 + 16 * 0)), (1, .int (i)), (2, .int (p)), (3, .int (k)), (4, .int (e)), (5, .long (off))]) d_M_node_44 (by decide) rfl ?_
          exact e_lv (lv' := [(8, .int (nI 0)), (7, .int (mbL σ i (1) 0)), (0, .ref (6 + 16 * 0)), (1, .int (i)), (2, .int (p)), (3, .int (k)), (4, .int (e)), (5, .long (off))]) ⟨rfl, rfl, rfl, rfl, rfl, rfl, rfl, rfl, trivial⟩ (li_M_node (b := 1) hl0 hM hn10 hnn (lx_M_node hl0 hM hn10 hnn (mbL_1 (by decide) n)) n 0 (by omega))
set_option maxHeartbeats 4000000 in
set_option maxRecDepth 100000 in
theorem ct_M_node_y {l : Launch} (hl0 : l.stackTraces = false) {G : LG} {σ : HS} {i p k e : Int32} {off : Int64} {n : Nat} (hM : MS σ) (hn10 : n ≤ 10) (hnn : hI σ 6 0 1 = nI n) (hi1 : ¬ i < 0) (hi2 : ¬ 9999 < i) (hp1 : ¬ bsV p = 0) (hk1 : ¬ bsV k = 0) (he1 : ¬ bsV e = 0) (hb : ¬ mbL σ i 0 n = 0) : Ct l G m_M_node [.ref (6 + 16 * 0), .int (i), .int (p), .int (k), .int (e), .long (off)] (σ) (qd (.inr (some (.int 0))) (sI σ 6 0 0 1)) := by
  refine Ct.of hl0 rfl rfl (Nat.le_of_ble_eq_true rfl) ?_
  show Ex l G m_M_node (pmV G m_M_node (qd (.inr (some (.int 0))) (sI σ 6 0 0 1))) 0 [(0, .ref (6 + 16 * 0)), (1, .int (i)), (2, .int (p)), (3, .int (k)), (4, .int (e)), (5, .long (off))] [] (σ) 0 0
  refine e_iload_n d_M_node_0 rfl rfl ?_
  refine e_iflt (tgt := 36) d_M_node_1 (by decide) (fun h1 => absurd h1 hi1) (fun h1 => ?_)
  refine e_iload_n d_M_node_4 rfl rfl ?_
  refine e_sipush (v := 9999) d_M_node_5 (by decide) ?_
  refine e_icmpgt (tgt := 36) d_M_node_8 (by decide) (fun h8 => absurd h8 hi2) (fun h8 => ?_)
  refine e_aload_n d_M_node_11 rfl rfl ?_
  refine e_iload_n d_M_node_12 rfl rfl ?_
  refine e_callVd (v := some (.int (bsV (p)))) (σ' := σ) (q := 6) (a := 0) (As := [.int (p)]) (st := []) 0 0 d_M_node_13 cb_M_node_106 iv_M_byteSized rfl ⟨by decide, rfl⟩ rfl (Nat.le_of_ble_eq_true rfl) (by decide) (by decide) (ct_M_byteSized hl0) ?_
  show Ex l G m_M_node (pmV G m_M_node (qd (.inr (some (.int 0))) (sI σ 6 0 0 1))) 16 [(0, .ref (6 + 16 * 0)), (1, .int (i)), (2, .int (p)), (3, .int (k)), (4, .int (e)), (5, .long (off))] [.int (bsV (p))] (σ) 0 0
  refine e_ifeq (tgt := 36) d_M_node_16 (by decide) (fun h16 => absurd h16 hp1) (fun h16 => ?_)
  refine e_aload_n d_M_node_19 rfl rfl ?_
  refine e_iload_n d_M_node_20 rfl rfl ?_
  refine e_callVd (v := some (.int (bsV (k)))) (σ' := σ) (q := 6) (a := 0) (As := [.int (k)]) (st := []) 0 0 d_M_node_21 cb_M_node_106 iv_M_byteSized rfl ⟨by decide, rfl⟩ rfl (Nat.le_of_ble_eq_true rfl) (by decide) (by decide) (ct_M_byteSized hl0) ?_
  show Ex l G m_M_node (pmV G m_M_node (qd (.inr (some (.int 0))) (sI σ 6 0 0 1))) 24 [(0, .ref (6 + 16 * 0)), (1, .int (i)), (2, .int (p)), (3, .int (k)), (4, .int (e)), (5, .long (off))] [.int (bsV (k))] (σ) 0 0
  refine e_ifeq (tgt := 36) d_M_node_24 (by decide) (fun h24 => absurd h24 hk1) (fun h24 => ?_)
  refine e_aload_n d_M_node_27 rfl rfl ?_
  refine e_iload d_M_node_28 rfl ?_
  refine e_callVd (v := some (.int (bsV (e)))) (σ' := σ) (q := 6) (a := 0) (As := [.int (e)]) (st := []) 0 0 d_M_node_30 cb_M_node_106 iv_M_byteSized rfl ⟨by decide, rfl⟩ rfl (Nat.le_of_ble_eq_true rfl) (by decide) (by decide) (ct_M_byteSized hl0) ?_
  show Ex l G m_M_node (pmV G m_M_node (qd (.inr (some (.int 0))) (sI σ 6 0 0 1))) 33 [(0, .ref (6 + 16 * 0)), (1, .int (i)), (2, .int (p)), (3, .int (k)), (4, .int (e)), (5, .long (off))] [.int (bsV (e))] (σ) 0 0
  refine e_ifne (tgt := 40) d_M_node_33 (by decide) (fun h33 => ?_) (fun h33 => absurd h33 he1)
  refine e_iconst (v := 0) d_M_node_40 (by decide) ?_
  refine e_istore (lv' := [(7, .int (0)), (0, .ref (6 + 16 * 0)), (1, .int (i)), (2, .int (p)), (3, .int (k)), (4, .int (e)), (5, .long (off))]) d_M_node_41 (by decide) rfl ?_
  refine e_iconst (v := 0) d_M_node_43 (by decide) ?_
  refine e_istore (lv' := [(8, .int (0)), (7, .int (0)), (0, .ref (6 + 16 * 0)), (1, .int (i)), (2, .int (p)), (3, .int (k)), (4, .int (e)), (5, .long (off))]) d_M_node_44 (by decide) rfl ?_
  exact e_lv (lv' := [(8, .int (nI 0)), (7, .int (mbL σ i (0) 0)), (0, .ref (6 + 16 * 0)), (1, .int (i)), (2, .int (p)), (3, .int (k)), (4, .int (e)), (5, .long (off))]) ⟨rfl, rfl, rfl, rfl, rfl, rfl, rfl, rfl, trivial⟩ (li_M_node (b := 0) hl0 hM hn10 hnn (lx_M_node hl0 hM hn10 hnn hb) n 0 (by omega))
set_option maxHeartbeats 4000000 in
set_option maxRecDepth 100000 in
theorem ct_M_node_z {l : Launch} (hl0 : l.stackTraces = false) {G : LG} {σ : HS} {i p k e : Int32} {off : Int64} {n : Nat} (hM : MS σ) (hn10 : n ≤ 10) (hnn : hI σ 6 0 1 = nI n) (hi1 : ¬ i < 0) (hi2 : ¬ 9999 < i) (hp1 : ¬ bsV p = 0) (hk1 : ¬ bsV k = 0) (he1 : ¬ bsV e = 0) (hb : mbL σ i 0 n = 0) (hfull : n = 10) : Ct l G m_M_node [.ref (6 + 16 * 0), .int (i), .int (p), .int (k), .int (e), .long (off)] (σ) (qd (.inr (some (.int 0))) (sI σ 6 0 0 2)) := by
  refine Ct.of hl0 rfl rfl (Nat.le_of_ble_eq_true rfl) ?_
  show Ex l G m_M_node (pmV G m_M_node (qd (.inr (some (.int 0))) (sI σ 6 0 0 2))) 0 [(0, .ref (6 + 16 * 0)), (1, .int (i)), (2, .int (p)), (3, .int (k)), (4, .int (e)), (5, .long (off))] [] (σ) 0 0
  refine e_iload_n d_M_node_0 rfl rfl ?_
  refine e_iflt (tgt := 36) d_M_node_1 (by decide) (fun h1 => absurd h1 hi1) (fun h1 => ?_)
  refine e_iload_n d_M_node_4 rfl rfl ?_
  refine e_sipush (v := 9999) d_M_node_5 (by decide) ?_
  refine e_icmpgt (tgt := 36) d_M_node_8 (by decide) (fun h8 => absurd h8 hi2) (fun h8 => ?_)
  refine e_aload_n d_M_node_11 rfl rfl ?_
  refine e_iload_n d_M_node_12 rfl rfl ?_
  refine e_callVd (v := some (.int (bsV (p)))) (σ' := σ) (q := 6) (a := 0) (As := [.int (p)]) (st := []) 0 0 d_M_node_13 cb_M_node_106 iv_M_byteSized rfl ⟨by decide, rfl⟩ rfl (Nat.le_of_ble_eq_true rfl) (by decide) (by decide) (ct_M_byteSized hl0) ?_
  show Ex l G m_M_node (pmV G m_M_node (qd (.inr (some (.int 0))) (sI σ 6 0 0 2))) 16 [(0, .ref (6 + 16 * 0)), (1, .int (i)), (2, .int (p)), (3, .int (k)), (4, .int (e)), (5, .long (off))] [.int (bsV (p))] (σ) 0 0
  refine e_ifeq (tgt := 36) d_M_node_16 (by decide) (fun h16 => absurd h16 hp1) (fun h16 => ?_)
  refine e_aload_n d_M_node_19 rfl rfl ?_
  refine e_iload_n d_M_node_20 rfl rfl ?_
  refine e_callVd (v := some (.int (bsV (k)))) (σ' := σ) (q := 6) (a := 0) (As := [.int (k)]) (st := []) 0 0 d_M_node_21 cb_M_node_106 iv_M_byteSized rfl ⟨by decide, rfl⟩ rfl (Nat.le_of_ble_eq_true rfl) (by decide) (by decide) (ct_M_byteSized hl0) ?_
  show Ex l G m_M_node (pmV G m_M_node (qd (.inr (some (.int 0))) (sI σ 6 0 0 2))) 24 [(0, .ref (6 + 16 * 0)), (1, .int (i)), (2, .int (p)), (3, .int (k)), (4, .int (e)), (5, .long (off))] [.int (bsV (k))] (σ) 0 0
  refine e_ifeq (tgt := 36) d_M_node_24 (by decide) (fun h24 => absurd h24 hk1) (fun h24 => ?_)
  refine e_aload_n d_M_node_27 rfl rfl ?_
  refine e_iload d_M_node_28 rfl ?_
  refine e_callVd (v := some (.int (bsV (e)))) (σ' := σ) (q := 6) (a := 0) (As := [.int (e)]) (st := []) 0 0 d_M_node_30 cb_M_node_106 iv_M_byteSized rfl ⟨by decide, rfl⟩ rfl (Nat.le_of_ble_eq_true rfl) (by decide) (by decide) (ct_M_byteSized hl0) ?_
  show Ex l G m_M_node (pmV G m_M_node (qd (.inr (some (.int 0))) (sI σ 6 0 0 2))) 33 [(0, .ref (6 + 16 * 0)), (1, .int (i)), (2, .int (p)), (3, .int (k)), (4, .int (e)), (5, .long (off))] [.int (bsV (e))] (σ) 0 0
  refine e_ifne (tgt := 40) d_M_node_33 (by decide) (fun h33 => ?_) (fun h33 => absurd h33 he1)
  refine e_iconst (v := 0) d_M_node_40 (by decide) ?_
  refine e_istore (lv' := [(7, .int (0)), (0, .ref (6 + 16 * 0)), (1, .int (i)), (2, .int (p)), (3, .int (k)), (4, .int (e)), (5, .long (off))]) d_M_node_41 (by decide) rfl ?_
  refine e_iconst (v := 0) d_M_node_43 (by decide) ?_
  refine e_istore (lv' := [(8, .int (0)), (7, .int (0)), (0, .ref (6 + 16 * 0)), (1, .int (i)), (2, .int (p)), (3, .int (k)), (4, .int (e)), (5, .long (off))]) d_M_node_44 (by decide) rfl ?_
  exact e_lv (lv' := [(8, .int (nI 0)), (7, .int (mbL σ i (0) 0)), (0, .ref (6 + 16 * 0)), (1, .int (i)), (2, .int (p)), (3, .int (k)), (4, .int (e)), (5, .long (off))]) ⟨rfl, rfl, rfl, rfl, rfl, rfl, rfl, rfl, trivial⟩ (li_M_node (b := 0) hl0 hM hn10 hnn (lz_M_node hl0 hM hn10 hnn hb hfull) n 0 (by omega))
set_option maxHeartbeats 4000000 in
set_option maxRecDepth 100000 in
theorem ct_M_node {l : Launch} (hl0 : l.stackTraces = false) {G : LG} {σ : HS} {i p k e : Int32} {off : Int64} {n : Nat} (hM : MS σ) (hn10 : n ≤ 10) (hnn : hI σ 6 0 1 = nI n) (hi1 : ¬ i < 0) (hi2 : ¬ 9999 < i) (hp1 : ¬ bsV p = 0) (hk1 : ¬ bsV k = 0) (he1 : ¬ bsV e = 0) (hb : mbL σ i 0 n = 0) (hlt : n < 10) : Ct l G m_M_node [.ref (6 + 16 * 0), .int (i), .int (p), .int (k), .int (e), .long (off)] (σ) (qd (.inr (some (.int (nI n)))) (faS (mn0 σ n i p k e off) (n + 1))) := by
  refine Ct.of hl0 rfl rfl (Nat.le_of_ble_eq_true rfl) ?_
  show Ex l G m_M_node (pmV G m_M_node (qd (.inr (some (.int (nI n)))) (faS (mn0 σ n i p k e off) (n + 1)))) 0 [(0, .ref (6 + 16 * 0)), (1, .int (i)), (2, .int (p)), (3, .int (k)), (4, .int (e)), (5, .long (off))] [] (σ) 0 0
  refine e_iload_n d_M_node_0 rfl rfl ?_
  refine e_iflt (tgt := 36) d_M_node_1 (by decide) (fun h1 => absurd h1 hi1) (fun h1 => ?_)
  refine e_iload_n d_M_node_4 rfl rfl ?_
  refine e_sipush (v := 9999) d_M_node_5 (by decide) ?_
  refine e_icmpgt (tgt := 36) d_M_node_8 (by decide) (fun h8 => absurd h8 hi2) (fun h8 => ?_)
  refine e_aload_n d_M_node_11 rfl rfl ?_
  refine e_iload_n d_M_node_12 rfl rfl ?_
  refine e_callVd (v := some (.int (bsV (p)))) (σ' := σ) (q := 6) (a := 0) (As := [.int (p)]) (st := []) 0 0 d_M_node_13 cb_M_node_106 iv_M_byteSized rfl ⟨by decide, rfl⟩ rfl (Nat.le_of_ble_eq_true rfl) (by decide) (by decide) (ct_M_byteSized hl0) ?_
  show Ex l G m_M_node (pmV G m_M_node (qd (.inr (some (.int (nI n)))) (faS (mn0 σ n i p k e off) (n + 1)))) 16 [(0, .ref (6 + 16 * 0)), (1, .int (i)), (2, .int (p)), (3, .int (k)), (4, .int (e)), (5, .long (off))] [.int (bsV (p))] (σ) 0 0
  refine e_ifeq (tgt := 36) d_M_node_16 (by decide) (fun h16 => absurd h16 hp1) (fun h16 => ?_)
  refine e_aload_n d_M_node_19 rfl rfl ?_
  refine e_iload_n d_M_node_20 rfl rfl ?_
  refine e_callVd (v := some (.int (bsV (k)))) (σ' := σ) (q := 6) (a := 0) (As := [.int (k)]) (st := []) 0 0 d_M_node_21 cb_M_node_106 iv_M_byteSized rfl ⟨by decide, rfl⟩ rfl (Nat.le_of_ble_eq_true rfl) (by decide) (by decide) (ct_M_byteSized hl0) ?_
  show Ex l G m_M_node (pmV G m_M_node (qd (.inr (some (.int (nI n)))) (faS (mn0 σ n i p k e off) (n + 1)))) 24 [(0, .ref (6 + 16 * 0)), (1, .int (i)), (2, .int (p)), (3, .int (k)), (4, .int (e)), (5, .long (off))] [.int (bsV (k))] (σ) 0 0
  refine e_ifeq (tgt := 36) d_M_node_24 (by decide) (fun h24 => absurd h24 hk1) (fun h24 => ?_)
  refine e_aload_n d_M_node_27 rfl rfl ?_
  refine e_iload d_M_node_28 rfl ?_
  refine e_callVd (v := some (.int (bsV (e)))) (σ' := σ) (q := 6) (a := 0) (As := [.int (e)]) (st := []) 0 0 d_M_node_30 cb_M_node_106 iv_M_byteSized rfl ⟨by decide, rfl⟩ rfl (Nat.le_of_ble_eq_true rfl) (by decide) (by decide) (ct_M_byteSized hl0) ?_
  show Ex l G m_M_node (pmV G m_M_node (qd (.inr (some (.int (nI n)))) (faS (mn0 σ n i p k e off) (n + 1)))) 33 [(0, .ref (6 + 16 * 0)), (1, .int (i)), (2, .int (p)), (3, .int (k)), (4, .int (e)), (5, .long (off))] [.int (bsV (e))] (σ) 0 0
  refine e_ifne (tgt := 40) d_M_node_33 (by decide) (fun h33 => ?_) (fun h33 => absurd h33 he1)
  refine e_iconst (v := 0) d_M_node_40 (by decide) ?_
  refine e_istore (lv' := [(7, .int (0)), (0, .ref (6 + 16 * 0)), (1, .int (i)), (2, .int (p)), (3, .int (k)), (4, .int (e)), (5, .long (off))]) d_M_node_41 (by decide) rfl ?_
  refine e_iconst (v := 0) d_M_node_43 (by decide) ?_
  refine e_istore (lv' := [(8, .int (0)), (7, .int (0)), (0, .ref (6 + 16 * 0)), (1, .int (i)), (2, .int (p)), (3, .int (k)), (4, .int (e)), (5, .long (off))]) d_M_node_44 (by decide) rfl ?_
  exact e_lv (lv' := [(8, .int (nI 0)), (7, .int (mbL σ i (0) 0)), (0, .ref (6 + 16 * 0)), (1, .int (i)), (2, .int (p)), (3, .int (k)), (4, .int (e)), (5, .long (off))]) ⟨rfl, rfl, rfl, rfl, rfl, rfl, rfl, rfl, trivial⟩ (li_M_node (b := 0) hl0 hM hn10 hnn (lo_M_node hl0 hM hn10 hnn hb hlt) n 0 (by omega))
set_option maxHeartbeats 4000000 in
set_option maxRecDepth 100000 in
theorem ct_M_link_x {l : Launch} (hl0 : l.stackTraces = false) {G : LG} {σ : HS} {v u v2 u2 t bk : Int32} (hx : ¬ (npV σ v u = 0 ∧ npV σ v2 u2 = 0 ∧ ¬ v = v2 ∧ ndV 1000000000 t = 0 ∧ ndV 1000000000 bk = 0)) : Ct l G m_M_link [.ref (6 + 16 * 0), .int (v), .int (u), .int (v2), .int (u2), .int (t), .int (bk)] (σ) (qd (.inr (some (.int 0))) (sI σ 6 0 0 1)) := by
  refine Ct.of hl0 rfl rfl (Nat.le_of_ble_eq_true rfl) ?_
  show Ex l G m_M_link (pmV G m_M_link (qd (.inr (some (.int 0))) (sI σ 6 0 0 1))) 0 [(0, .ref (6 + 16 * 0)), (1, .int (v)), (2, .int (u)), (3, .int (v2)), (4, .int (u2)), (5, .int (t)), (6, .int (bk))] [] (σ) 0 0
  refine e_aload_n d_M_link_0 rfl rfl ?_
  refine e_iload_n d_M_link_1 rfl rfl ?_
  refine e_iload_n d_M_link_2 rfl rfl ?_
  refine e_callVd (v := some (.int (npV σ (v) (u)))) (σ' := σ) (q := 6) (a := 0) (As := [.int (v), .int (u)]) (st := []) 0 0 d_M_link_3 cb_M_link_119 iv_M_noPort rfl ⟨by decide, rfl⟩ rfl (Nat.le_of_ble_eq_true rfl) (by decide) (by decide) (ct_M_noPort hl0) ?_
  show Ex l G m_M_link (pmV G m_M_link (qd (.inr (some (.int 0))) (sI σ 6 0 0 1))) 6 [(0, .ref (6 + 16 * 0)), (1, .int (v)), (2, .int (u)), (3, .int (v2)), (4, .int (u2)), (5, .int (t)), (6, .int (bk))] [.int (npV σ (v) (u))] (σ) 0 0
  refine e_ifne (tgt := 42) d_M_link_6 (by decide) (fun h6 => ?_) (fun h6 => ?_)
  ·
    refine e_iconst (v := 1) d_M_link_42 (by decide) ?_
    refine e_goto (tgt := 47) d_M_link_43 (by decide) ?_
    refine e_istore (lv' := [(7, .int (1)), (0, .ref (6 + 16 * 0)), (1, .int (v)), (2, .int (u)), (3, .int (v2)), (4, .int (u2)), (5, .int (t)), (6, .int (bk))]) d_M_link_47 (by decide) rfl ?_
    refine e_aload_n d_M_link_49 rfl rfl ?_
    refine e_iload d_M_link_50 rfl ?_
    refine e_ifeq (tgt := 59) d_M_link_52 (by decide) (fun h52 => absurd h52 (by decide +kernel)) (fun h52 => ?_)
    refine e_iconst (v := 1) d_M_link_55 (by decide) ?_
    refine e_goto (tgt := 100) d_M_link_56 (by decide) ?_
    refine p_M_78 rfl d_M_link_100 ?_
    refine e_aload_n d_M_link_103 rfl rfl ?_
    refine g_M_78 rfl d_M_link_104 ?_
    refine e_ifeq (tgt := 112) d_M_link_107 (by decide) (fun h107 => absurd h107 (by rw [th_1]; decide +kernel)) (fun h107 => ?_)
    refine e_iconst (v := 0) d_M_link_110 (by decide) ?_
    exact e_iret d_M_link_111 rfl ⟨rfl, rfl⟩
  ·
    refine e_aload_n d_M_link_9 rfl rfl ?_
    refine e_iload_n d_M_link_10 rfl rfl ?_
    refine e_iload d_M_link_11 rfl ?_
    refine e_callVd (v := some (.int (npV σ (v2) (u2)))) (σ' := σ) (q := 6) (a := 0) (As := [.int (v2), .int (u2)]) (st := []) 0 0 d_M_link_13 cb_M_link_119 iv_M_noPort rfl ⟨by decide, rfl⟩ rfl (Nat.le_of_ble_eq_true rfl) (by decide) (by decide) (ct_M_noPort hl0) ?_
    show Ex l G m_M_link (pmV G m_M_link (qd (.inr (some (.int 0))) (sI σ 6 0 0 1))) 16 [(0, .ref (6 + 16 * 0)), (1, .int (v)), (2, .int (u)), (3, .int (v2)), (4, .int (u2)), (5, .int (t)), (6, .int (bk))] [.int (npV σ (v2) (u2))] (σ) 0 0
    refine e_ifne (tgt := 42) d_M_link_16 (by decide) (fun h16 => ?_) (fun h16 => ?_)
    ·
      refine e_iconst (v := 1) d_M_link_42 (by decide) ?_
      refine e_goto (tgt := 47) d_M_link_43 (by decide) ?_
      refine e_istore (lv' := [(7, .int (1)), (0, .ref (6 + 16 * 0)), (1, .int (v)), (2, .int (u)), (3, .int (v2)), (4, .int (u2)), (5, .int (t)), (6, .int (bk))]) d_M_link_47 (by decide) rfl ?_
      refine e_aload_n d_M_link_49 rfl rfl ?_
      refine e_iload d_M_link_50 rfl ?_
      refine e_ifeq (tgt := 59) d_M_link_52 (by decide) (fun h52 => absurd h52 (by decide +kernel)) (fun h52 => ?_)
      refine e_iconst (v := 1) d_M_link_55 (by decide) ?_
      refine e_goto (tgt := 100) d_M_link_56 (by decide) ?_
      refine p_M_78 rfl d_M_link_100 ?_
      refine e_aload_n d_M_link_103 rfl rfl ?_
      refine g_M_78 rfl d_M_link_104 ?_
      refine e_ifeq (tgt := 112) d_M_link_107 (by decide) (fun h107 => absurd h107 (by rw [th_1]; decide +kernel)) (fun h107 => ?_)
      refine e_iconst (v := 0) d_M_link_110 (by decide) ?_
      exact e_iret d_M_link_111 rfl ⟨rfl, rfl⟩
    ·
      refine e_iload_n d_M_link_19 rfl rfl ?_
      refine e_iload_n d_M_link_20 rfl rfl ?_
      refine e_icmpeq (tgt := 42) d_M_link_21 (by decide) (fun h21 => ?_) (fun h21 => ?_)
      ·
        refine e_iconst (v := 1) d_M_link_42 (by decide) ?_
        refine e_goto (tgt := 47) d_M_link_43 (by decide) ?_
        refine e_istore (lv' := [(7, .int (1)), (0, .ref (6 + 16 * 0)), (1, .int (v)), (2, .int (u)), (3, .int (v2)), (4, .int (u2)), (5, .int (t)), (6, .int (bk))]) d_M_link_47 (by decide) rfl ?_
        refine e_aload_n d_M_link_49 rfl rfl ?_
        refine e_iload d_M_link_50 rfl ?_
        refine e_ifeq (tgt := 59) d_M_link_52 (by decide) (fun h52 => absurd h52 (by decide +kernel)) (fun h52 => ?_)
        refine e_iconst (v := 1) d_M_link_55 (by decide) ?_
        refine e_goto (tgt := 100) d_M_link_56 (by decide) ?_
        refine p_M_78 rfl d_M_link_100 ?_
        refine e_aload_n d_M_link_103 rfl rfl ?_
        refine g_M_78 rfl d_M_link_104 ?_
        refine e_ifeq (tgt := 112) d_M_link_107 (by decide) (fun h107 => absurd h107 (by rw [th_1]; decide +kernel)) (fun h107 => ?_)
        refine e_iconst (v := 0) d_M_link_110 (by decide) ?_
        exact e_iret d_M_link_111 rfl ⟨rfl, rfl⟩
      ·
        refine e_aload_n d_M_link_24 rfl rfl ?_
        refine e_iload d_M_link_25 rfl ?_
        refine e_callVd (v := some (.int (ndV 1000000000 (t)))) (σ' := σ) (q := 6) (a := 0) (As := [.int (t)]) (st := []) 0 0 d_M_link_27 cb_M_link_123 iv_M_noDelay rfl ⟨by decide, rfl⟩ rfl (Nat.le_of_ble_eq_true rfl) (by decide) (by decide) (ct_M_noDelay hl0) ?_
        show Ex l G m_M_link (pmV G m_M_link (qd (.inr (some (.int 0))) (sI σ 6 0 0 1))) 30 [(0, .ref (6 + 16 * 0)), (1, .int (v)), (2, .int (u)), (3, .int (v2)), (4, .int (u2)), (5, .int (t)), (6, .int (bk))] [.int (ndV 1000000000 (t))] (σ) 0 0
        refine e_ifne (tgt := 42) d_M_link_30 (by decide) (fun h30 => ?_) (fun h30 => ?_)
        ·
          refine e_iconst (v := 1) d_M_link_42 (by decide) ?_
          refine e_goto (tgt := 47) d_M_link_43 (by decide) ?_
          refine e_istore (lv' := [(7, .int (1)), (0, .ref (6 + 16 * 0)), (1, .int (v)), (2, .int (u)), (3, .int (v2)), (4, .int (u2)), (5, .int (t)), (6, .int (bk))]) d_M_link_47 (by decide) rfl ?_
          refine e_aload_n d_M_link_49 rfl rfl ?_
          refine e_iload d_M_link_50 rfl ?_
          refine e_ifeq (tgt := 59) d_M_link_52 (by decide) (fun h52 => absurd h52 (by decide +kernel)) (fun h52 => ?_)
          refine e_iconst (v := 1) d_M_link_55 (by decide) ?_
          refine e_goto (tgt := 100) d_M_link_56 (by decide) ?_
          refine p_M_78 rfl d_M_link_100 ?_
          refine e_aload_n d_M_link_103 rfl rfl ?_
          refine g_M_78 rfl d_M_link_104 ?_
          refine e_ifeq (tgt := 112) d_M_link_107 (by decide) (fun h107 => absurd h107 (by rw [th_1]; decide +kernel)) (fun h107 => ?_)
          refine e_iconst (v := 0) d_M_link_110 (by decide) ?_
          exact e_iret d_M_link_111 rfl ⟨rfl, rfl⟩
        ·
          refine e_aload_n d_M_link_33 rfl rfl ?_
          refine e_iload d_M_link_34 rfl ?_
          refine e_callVd (v := some (.int (ndV 1000000000 (bk)))) (σ' := σ) (q := 6) (a := 0) (As := [.int (bk)]) (st := []) 0 0 d_M_link_36 cb_M_link_123 iv_M_noDelay rfl ⟨by decide, rfl⟩ rfl (Nat.le_of_ble_eq_true rfl) (by decide) (by decide) (ct_M_noDelay hl0) ?_
          show Ex l G m_M_link (pmV G m_M_link (qd (.inr (some (.int 0))) (sI σ 6 0 0 1))) 39 [(0, .ref (6 + 16 * 0)), (1, .int (v)), (2, .int (u)), (3, .int (v2)), (4, .int (u2)), (5, .int (t)), (6, .int (bk))] [.int (ndV 1000000000 (bk))] (σ) 0 0
          refine e_ifeq (tgt := 46) d_M_link_39 (by decide) (fun h39 => absurd h39 (fun z => hx ⟨h6, h16, h21, h30, z⟩)) (fun h39 => ?_)
          refine e_iconst (v := 1) d_M_link_42 (by decide) ?_
          refine e_goto (tgt := 47) d_M_link_43 (by decide) ?_
          refine e_istore (lv' := [(7, .int (1)), (0, .ref (6 + 16 * 0)), (1, .int (v)), (2, .int (u)), (3, .int (v2)), (4, .int (u2)), (5, .int (t)), (6, .int (bk))]) d_M_link_47 (by decide) rfl ?_
          refine e_aload_n d_M_link_49 rfl rfl ?_
          refine e_iload d_M_link_50 rfl ?_
          refine e_ifeq (tgt := 59) d_M_link_52 (by decide) (fun h52 => absurd h52 (by decide +kernel)) (fun h52 => ?_)
          refine e_iconst (v := 1) d_M_link_55 (by decide) ?_
          refine e_goto (tgt := 100) d_M_link_56 (by decide) ?_
          refine p_M_78 rfl d_M_link_100 ?_
          refine e_aload_n d_M_link_103 rfl rfl ?_
          refine g_M_78 rfl d_M_link_104 ?_
          refine e_ifeq (tgt := 112) d_M_link_107 (by decide) (fun h107 => absurd h107 (by rw [th_1]; decide +kernel)) (fun h107 => ?_)
          refine e_iconst (v := 0) d_M_link_110 (by decide) ?_
          exact e_iret d_M_link_111 rfl ⟨rfl, rfl⟩
set_option maxHeartbeats 4000000 in
set_option maxRecDepth 100000 in
theorem ct_M_link_z {l : Launch} (hl0 : l.stackTraces = false) {G : LG} {σ : HS} {i j i2 j2 : Nat} {t bk : Int32} (hM : MS σ) (hi : i < 10) (hj : j < 4) (hi2 : i2 < 10) (hj2 : j2 < 4) (hx : npV σ (nI i) (nI j) = 0 ∧ npV σ (nI i2) (nI j2) = 0 ∧ ¬ nI i = nI i2 ∧ ndV 1000000000 t = 0 ∧ ndV 1000000000 bk = 0) (hz : ¬ (¬ hI σ 6 0 8 = 16 ∧ hI σ 7 6 (4 * i + j) < 0 ∧ hI σ 7 6 (4 * i2 + j2) < 0)) : Ct l G m_M_link [.ref (6 + 16 * 0), .int (nI i), .int (nI j), .int (nI i2), .int (nI j2), .int (t), .int (bk)] (σ) (qd (.inr (some (.int 0))) (sI σ 6 0 0 2)) := by
  refine Ct.of hl0 rfl rfl (Nat.le_of_ble_eq_true rfl) ?_
  show Ex l G m_M_link (pmV G m_M_link (qd (.inr (some (.int 0))) (sI σ 6 0 0 2))) 0 [(0, .ref (6 + 16 * 0)), (1, .int (nI i)), (2, .int (nI j)), (3, .int (nI i2)), (4, .int (nI j2)), (5, .int (t)), (6, .int (bk))] [] (σ) 0 0
  refine e_aload_n d_M_link_0 rfl rfl ?_
  refine e_iload_n d_M_link_1 rfl rfl ?_
  refine e_iload_n d_M_link_2 rfl rfl ?_
  refine e_callVd (v := some (.int (npV σ (nI i) (nI j)))) (σ' := σ) (q := 6) (a := 0) (As := [.int (nI i), .int (nI j)]) (st := []) 0 0 d_M_link_3 cb_M_link_119 iv_M_noPort rfl ⟨by decide, rfl⟩ rfl (Nat.le_of_ble_eq_true rfl) (by decide) (by decide) (ct_M_noPort hl0) ?_
  show Ex l G m_M_link (pmV G m_M_link (qd (.inr (some (.int 0))) (sI σ 6 0 0 2))) 6 [(0, .ref (6 + 16 * 0)), (1, .int (nI i)), (2, .int (nI j)), (3, .int (nI i2)), (4, .int (nI j2)), (5, .int (t)), (6, .int (bk))] [.int (npV σ (nI i) (nI j))] (σ) 0 0
  refine e_ifne (tgt := 42) d_M_link_6 (by decide) (fun h6 => absurd h6 (fun z => z hx.1)) (fun h6 => ?_)
  refine e_aload_n d_M_link_9 rfl rfl ?_
  refine e_iload_n d_M_link_10 rfl rfl ?_
  refine e_iload d_M_link_11 rfl ?_
  refine e_callVd (v := some (.int (npV σ (nI i2) (nI j2)))) (σ' := σ) (q := 6) (a := 0) (As := [.int (nI i2), .int (nI j2)]) (st := []) 0 0 d_M_link_13 cb_M_link_119 iv_M_noPort rfl ⟨by decide, rfl⟩ rfl (Nat.le_of_ble_eq_true rfl) (by decide) (by decide) (ct_M_noPort hl0) ?_
  show Ex l G m_M_link (pmV G m_M_link (qd (.inr (some (.int 0))) (sI σ 6 0 0 2))) 16 [(0, .ref (6 + 16 * 0)), (1, .int (nI i)), (2, .int (nI j)), (3, .int (nI i2)), (4, .int (nI j2)), (5, .int (t)), (6, .int (bk))] [.int (npV σ (nI i2) (nI j2))] (σ) 0 0
  refine e_ifne (tgt := 42) d_M_link_16 (by decide) (fun h16 => absurd h16 (fun z => z hx.2.1)) (fun h16 => ?_)
  refine e_iload_n d_M_link_19 rfl rfl ?_
  refine e_iload_n d_M_link_20 rfl rfl ?_
  refine e_icmpeq (tgt := 42) d_M_link_21 (by decide) (fun h21 => absurd h21 hx.2.2.1) (fun h21 => ?_)
  refine e_aload_n d_M_link_24 rfl rfl ?_
  refine e_iload d_M_link_25 rfl ?_
  refine e_callVd (v := some (.int (ndV 1000000000 (t)))) (σ' := σ) (q := 6) (a := 0) (As := [.int (t)]) (st := []) 0 0 d_M_link_27 cb_M_link_123 iv_M_noDelay rfl ⟨by decide, rfl⟩ rfl (Nat.le_of_ble_eq_true rfl) (by decide) (by decide) (ct_M_noDelay hl0) ?_
  show Ex l G m_M_link (pmV G m_M_link (qd (.inr (some (.int 0))) (sI σ 6 0 0 2))) 30 [(0, .ref (6 + 16 * 0)), (1, .int (nI i)), (2, .int (nI j)), (3, .int (nI i2)), (4, .int (nI j2)), (5, .int (t)), (6, .int (bk))] [.int (ndV 1000000000 (t))] (σ) 0 0
  refine e_ifne (tgt := 42) d_M_link_30 (by decide) (fun h30 => absurd h30 (fun z => z hx.2.2.2.1)) (fun h30 => ?_)
  refine e_aload_n d_M_link_33 rfl rfl ?_
  refine e_iload d_M_link_34 rfl ?_
  refine e_callVd (v := some (.int (ndV 1000000000 (bk)))) (σ' := σ) (q := 6) (a := 0) (As := [.int (bk)]) (st := []) 0 0 d_M_link_36 cb_M_link_123 iv_M_noDelay rfl ⟨by decide, rfl⟩ rfl (Nat.le_of_ble_eq_true rfl) (by decide) (by decide) (ct_M_noDelay hl0) ?_
  show Ex l G m_M_link (pmV G m_M_link (qd (.inr (some (.int 0))) (sI σ 6 0 0 2))) 39 [(0, .ref (6 + 16 * 0)), (1, .int (nI i)), (2, .int (nI j)), (3, .int (nI i2)), (4, .int (nI j2)), (5, .int (t)), (6, .int (bk))] [.int (ndV 1000000000 (bk))] (σ) 0 0
  refine e_ifeq (tgt := 46) d_M_link_39 (by decide) (fun h39 => ?_) (fun h39 => absurd hx.2.2.2.2 h39)
  refine e_iconst (v := 0) d_M_link_46 (by decide) ?_
  refine e_istore (lv' := [(7, .int (0)), (0, .ref (6 + 16 * 0)), (1, .int (nI i)), (2, .int (nI j)), (3, .int (nI i2)), (4, .int (nI j2)), (5, .int (t)), (6, .int (bk))]) d_M_link_47 (by decide) rfl ?_
  refine e_aload_n d_M_link_49 rfl rfl ?_
  refine e_iload d_M_link_50 rfl ?_
  refine e_ifeq (tgt := 59) d_M_link_52 (by decide) (fun h52 => ?_) (fun h52 => absurd (by decide +kernel) h52)
  refine e_aload_n d_M_link_59 rfl rfl ?_
  refine g_M_126 rfl d_M_link_60 ?_
  refine e_bipush (v := 16) d_M_link_63 (by decide) ?_
  refine e_icmpeq (tgt := 95) d_M_link_65 (by decide) (fun h65 => ?_) (fun h65 => ?_)
  ·
    refine e_iconst (v := 2) d_M_link_95 (by decide) ?_
    refine e_goto (tgt := 100) d_M_link_96 (by decide) ?_
    refine p_M_78 rfl d_M_link_100 ?_
    refine e_aload_n d_M_link_103 rfl rfl ?_
    refine g_M_78 rfl d_M_link_104 ?_
    refine e_ifeq (tgt := 112) d_M_link_107 (by decide) (fun h107 => absurd h107 (by rw [th_1]; decide +kernel)) (fun h107 => ?_)
    refine e_iconst (v := 0) d_M_link_110 (by decide) ?_
    exact e_iret d_M_link_111 rfl ⟨rfl, rfl⟩
  ·
    refine e_aload_n d_M_link_68 rfl rfl ?_
    refine g_M_39 (b := 7 + 16 * 6) rfl d_M_link_69 hM.a_linkOf ?_
    refine e_iconst (v := 4) d_M_link_72 (by decide) ?_
    refine e_iload_n d_M_link_73 rfl rfl ?_
    refine e_imul d_M_link_74 ?_
    rw [show (4) * (nI i) = nI (4 * i) from by rw [show (4 : Int32) = nI 4 from by decide +kernel, nJ_mul]]
    refine e_iload_n d_M_link_75 rfl rfl ?_
    refine e_iadd d_M_link_76 ?_
    rw [show (nI (4 * i)) + (nI j) = nI ((4 * i) + j) from by rw [nJ_add]]
    refine e_iald d_M_link_77 (show vp_in (nI ((4 * i) + j)) (hl σ 7 6) from by rw [hM.l_linkOf]; exact nI_in (by omega) (by decide)) ?_
    rw [nI_clamp (show (4 * i) + j < 2 ^ 31 by omega)]
    refine e_ifge (tgt := 95) d_M_link_78 (by decide) (fun h78 => ?_) (fun h78 => ?_)
    ·
      refine e_iconst (v := 2) d_M_link_95 (by decide) ?_
      refine e_goto (tgt := 100) d_M_link_96 (by decide) ?_
      refine p_M_78 rfl d_M_link_100 ?_
      refine e_aload_n d_M_link_103 rfl rfl ?_
      refine g_M_78 rfl d_M_link_104 ?_
      refine e_ifeq (tgt := 112) d_M_link_107 (by decide) (fun h107 => absurd h107 (by rw [th_1]; decide +kernel)) (fun h107 => ?_)
      refine e_iconst (v := 0) d_M_link_110 (by decide) ?_
      exact e_iret d_M_link_111 rfl ⟨rfl, rfl⟩
    ·
      refine e_aload_n d_M_link_81 rfl rfl ?_
      refine g_M_39 (b := 7 + 16 * 6) rfl d_M_link_82 hM.a_linkOf ?_
      refine e_iconst (v := 4) d_M_link_85 (by decide) ?_
      refine e_iload_n d_M_link_86 rfl rfl ?_
      refine e_imul d_M_link_87 ?_
      rw [show (4) * (nI i2) = nI (4 * i2) from by rw [show (4 : Int32) = nI 4 from by decide +kernel, nJ_mul]]
      refine e_iload d_M_link_88 rfl ?_
      refine e_iadd d_M_link_90 ?_
      rw [show (nI (4 * i2)) + (nI j2) = nI ((4 * i2) + j2) from by rw [nJ_add]]
      refine e_iald d_M_link_91 (show vp_in (nI ((4 * i2) + j2)) (hl σ 7 6) from by rw [hM.l_linkOf]; exact nI_in (by omega) (by decide)) ?_
      rw [nI_clamp (show (4 * i2) + j2 < 2 ^ 31 by omega)]
      refine e_iflt (tgt := 99) d_M_link_92 (by decide) (fun h92 => absurd h92 (fun z => hz ⟨h65, Int32.not_le.mp h78, z⟩)) (fun h92 => ?_)
      refine e_iconst (v := 2) d_M_link_95 (by decide) ?_
      refine e_goto (tgt := 100) d_M_link_96 (by decide) ?_
      refine p_M_78 rfl d_M_link_100 ?_
      refine e_aload_n d_M_link_103 rfl rfl ?_
      refine g_M_78 rfl d_M_link_104 ?_
      refine e_ifeq (tgt := 112) d_M_link_107 (by decide) (fun h107 => absurd h107 (by rw [th_1]; decide +kernel)) (fun h107 => ?_)
      refine e_iconst (v := 0) d_M_link_110 (by decide) ?_
      exact e_iret d_M_link_111 rfl ⟨rfl, rfl⟩
set_option maxHeartbeats 4000000 in
set_option maxRecDepth 100000 in
theorem ct_M_link {l : Launch} (hl0 : l.stackTraces = false) {G : LG} {σ : HS} {i j i2 j2 : Nat} {t bk : Int32} (hM : MS σ) (hi : i < 10) (hj : j < 4) (hi2 : i2 < 10) (hj2 : j2 < 4) (hx : npV σ (nI i) (nI j) = 0 ∧ npV σ (nI i2) (nI j2) = 0 ∧ ¬ nI i = nI i2 ∧ ndV 1000000000 t = 0 ∧ ndV 1000000000 bk = 0) {n L : Nat} (hn10 : n ≤ 10) (hnn : hI σ 6 0 1 = nI n) (hL : hI σ 6 0 8 = nI L) (hL16 : L < 16) (hz1 : hI σ 7 6 (4 * i + j) < 0) (hz2 : hI σ 7 6 (4 * i2 + j2) < 0) : Ct l G m_M_link [.ref (6 + 16 * 0), .int (nI i), .int (nI j), .int (nI i2), .int (nI j2), .int (t), .int (bk)] (σ) (qd (.inr (some (.int (nI L)))) (faS (ml0 σ L (4 * i + j) (4 * i2 + j2) t bk) n)) := by
  refine Ct.of hl0 rfl rfl (Nat.le_of_ble_eq_true rfl) ?_
  show Ex l G m_M_link (pmV G m_M_link (qd (.inr (some (.int (nI L)))) (faS (ml0 σ L (4 * i + j) (4 * i2 + j2) t bk) n))) 0 [(0, .ref (6 + 16 * 0)), (1, .int (nI i)), (2, .int (nI j)), (3, .int (nI i2)), (4, .int (nI j2)), (5, .int (t)), (6, .int (bk))] [] (σ) 0 0
  refine e_aload_n d_M_link_0 rfl rfl ?_
  refine e_iload_n d_M_link_1 rfl rfl ?_
  refine e_iload_n d_M_link_2 rfl rfl ?_
  refine e_callVd (v := some (.int (npV σ (nI i) (nI j)))) (σ' := σ) (q := 6) (a := 0) (As := [.int (nI i), .int (nI j)]) (st := []) 0 0 d_M_link_3 cb_M_link_119 iv_M_noPort rfl ⟨by decide, rfl⟩ rfl (Nat.le_of_ble_eq_true rfl) (by decide) (by decide) (ct_M_noPort hl0) ?_
  show Ex l G m_M_link (pmV G m_M_link (qd (.inr (some (.int (nI L)))) (faS (ml0 σ L (4 * i + j) (4 * i2 + j2) t bk) n))) 6 [(0, .ref (6 + 16 * 0)), (1, .int (nI i)), (2, .int (nI j)), (3, .int (nI i2)), (4, .int (nI j2)), (5, .int (t)), (6, .int (bk))] [.int (npV σ (nI i) (nI j))] (σ) 0 0
  refine e_ifne (tgt := 42) d_M_link_6 (by decide) (fun h6 => absurd h6 (fun z => z hx.1)) (fun h6 => ?_)
  refine e_aload_n d_M_link_9 rfl rfl ?_
  refine e_iload_n d_M_link_10 rfl rfl ?_
  refine e_iload d_M_link_11 rfl ?_
  refine e_callVd (v := some (.int (npV σ (nI i2) (nI j2)))) (σ' := σ) (q := 6) (a := 0) (As := [.int (nI i2), .int (nI j2)]) (st := []) 0 0 d_M_link_13 cb_M_link_119 iv_M_noPort rfl ⟨by decide, rfl⟩ rfl (Nat.le_of_ble_eq_true rfl) (by decide) (by decide) (ct_M_noPort hl0) ?_
  show Ex l G m_M_link (pmV G m_M_link (qd (.inr (some (.int (nI L)))) (faS (ml0 σ L (4 * i + j) (4 * i2 + j2) t bk) n))) 16 [(0, .ref (6 + 16 * 0)), (1, .int (nI i)), (2, .int (nI j)), (3, .int (nI i2)), (4, .int (nI j2)), (5, .int (t)), (6, .int (bk))] [.int (npV σ (nI i2) (nI j2))] (σ) 0 0
  refine e_ifne (tgt := 42) d_M_link_16 (by decide) (fun h16 => absurd h16 (fun z => z hx.2.1)) (fun h16 => ?_)
  refine e_iload_n d_M_link_19 rfl rfl ?_
  refine e_iload_n d_M_link_20 rfl rfl ?_
  refine e_icmpeq (tgt := 42) d_M_link_21 (by decide) (fun h21 => absurd h21 hx.2.2.1) (fun h21 => ?_)
  refine e_aload_n d_M_link_24 rfl rfl ?_
  refine e_iload d_M_link_25 rfl ?_
  refine e_callVd (v := some (.int (ndV 1000000000 (t)))) (σ' := σ) (q := 6) (a := 0) (As := [.int (t)]) (st := []) 0 0 d_M_link_27 cb_M_link_123 iv_M_noDelay rfl ⟨by decide, rfl⟩ rfl (Nat.le_of_ble_eq_true rfl) (by decide) (by decide) (ct_M_noDelay hl0) ?_
  show Ex l G m_M_link (pmV G m_M_link (qd (.inr (some (.int (nI L)))) (faS (ml0 σ L (4 * i + j) (4 * i2 + j2) t bk) n))) 30 [(0, .ref (6 + 16 * 0)), (1, .int (nI i)), (2, .int (nI j)), (3, .int (nI i2)), (4, .int (nI j2)), (5, .int (t)), (6, .int (bk))] [.int (ndV 1000000000 (t))] (σ) 0 0
  refine e_ifne (tgt := 42) d_M_link_30 (by decide) (fun h30 => absurd h30 (fun z => z hx.2.2.2.1)) (fun h30 => ?_)
  refine e_aload_n d_M_link_33 rfl rfl ?_
  refine e_iload d_M_link_34 rfl ?_
  refine e_callVd (v := some (.int (ndV 1000000000 (bk)))) (σ' := σ) (q := 6) (a := 0) (As := [.int (bk)]) (st := []) 0 0 d_M_link_36 cb_M_link_123 iv_M_noDelay rfl ⟨by decide, rfl⟩ rfl (Nat.le_of_ble_eq_true rfl) (by decide) (by decide) (ct_M_noDelay hl0) ?_
  show Ex l G m_M_link (pmV G m_M_link (qd (.inr (some (.int (nI L)))) (faS (ml0 σ L (4 * i + j) (4 * i2 + j2) t bk) n))) 39 [(0, .ref (6 + 16 * 0)), (1, .int (nI i)), (2, .int (nI j)), (3, .int (nI i2)), (4, .int (nI j2)), (5, .int (t)), (6, .int (bk))] [.int (ndV 1000000000 (bk))] (σ) 0 0
  refine e_ifeq (tgt := 46) d_M_link_39 (by decide) (fun h39 => ?_) (fun h39 => absurd hx.2.2.2.2 h39)
  refine e_iconst (v := 0) d_M_link_46 (by decide) ?_
  refine e_istore (lv' := [(7, .int (0)), (0, .ref (6 + 16 * 0)), (1, .int (nI i)), (2, .int (nI j)), (3, .int (nI i2)), (4, .int (nI j2)), (5, .int (t)), (6, .int (bk))]) d_M_link_47 (by decide) rfl ?_
  refine e_aload_n d_M_link_49 rfl rfl ?_
  refine e_iload d_M_link_50 rfl ?_
  refine e_ifeq (tgt := 59) d_M_link_52 (by decide) (fun h52 => ?_) (fun h52 => absurd (by decide +kernel) h52)
  refine e_aload_n d_M_link_59 rfl rfl ?_
  refine g_M_126 rfl d_M_link_60 ?_
  rw [show hI (σ) 6 (0) 8 = nI L from by simp [I_sI, hL]]
  refine e_bipush (v := 16) d_M_link_63 (by decide) ?_
  refine e_icmpeq (tgt := 95) d_M_link_65 (by decide) (fun h65 => absurd h65 (by rw [show (16 : Int32) = nI 16 by decide +kernel]; exact fun z => absurd ((nI_eq (by omega) (by omega)).mp z) (by omega))) (fun h65 => ?_)
  refine e_aload_n d_M_link_68 rfl rfl ?_
  refine g_M_39 (b := 7 + 16 * 6) rfl d_M_link_69 hM.a_linkOf ?_
  refine e_iconst (v := 4) d_M_link_72 (by decide) ?_
  refine e_iload_n d_M_link_73 rfl rfl ?_
  refine e_imul d_M_link_74 ?_
  rw [show (4) * (nI i) = nI (4 * i) from by rw [show (4 : Int32) = nI 4 from by decide +kernel, nJ_mul]]
  refine e_iload_n d_M_link_75 rfl rfl ?_
  refine e_iadd d_M_link_76 ?_
  rw [show (nI (4 * i)) + (nI j) = nI ((4 * i) + j) from by rw [nJ_add]]
  refine e_iald d_M_link_77 (show vp_in (nI ((4 * i) + j)) (hl σ 7 6) from by rw [hM.l_linkOf]; exact nI_in (by omega) (by decide)) ?_
  rw [nI_clamp (show (4 * i) + j < 2 ^ 31 by omega)]
  refine e_ifge (tgt := 95) d_M_link_78 (by decide) (fun h78 => absurd h78 (Int32.not_le.mpr hz1)) (fun h78 => ?_)
  refine e_aload_n d_M_link_81 rfl rfl ?_
  refine g_M_39 (b := 7 + 16 * 6) rfl d_M_link_82 hM.a_linkOf ?_
  refine e_iconst (v := 4) d_M_link_85 (by decide) ?_
  refine e_iload_n d_M_link_86 rfl rfl ?_
  refine e_imul d_M_link_87 ?_
  rw [show (4) * (nI i2) = nI (4 * i2) from by rw [show (4 : Int32) = nI 4 from by decide +kernel, nJ_mul]]
  refine e_iload d_M_link_88 rfl ?_
  refine e_iadd d_M_link_90 ?_
  rw [show (nI (4 * i2)) + (nI j2) = nI ((4 * i2) + j2) from by rw [nJ_add]]
  refine e_iald d_M_link_91 (show vp_in (nI ((4 * i2) + j2)) (hl σ 7 6) from by rw [hM.l_linkOf]; exact nI_in (by omega) (by decide)) ?_
  rw [nI_clamp (show (4 * i2) + j2 < 2 ^ 31 by omega)]
  refine e_iflt (tgt := 99) d_M_link_92 (by decide) (fun h92 => ?_) (fun h92 => absurd hz2 h92)
  refine e_iconst (v := 0) d_M_link_99 (by decide) ?_
  refine p_M_78 rfl d_M_link_100 ?_
  refine e_aload_n d_M_link_103 rfl rfl ?_
  refine g_M_78 rfl d_M_link_104 ?_
  refine e_ifeq (tgt := 112) d_M_link_107 (by decide) (fun h107 => ?_) (fun h107 => absurd (by rw [th_1]) h107)
  refine e_aload_n d_M_link_112 rfl rfl ?_
  refine g_M_29 (b := 7 + 16 * 4) rfl d_M_link_113 hM.a_ends ?_
  refine e_iconst (v := 2) d_M_link_116 (by decide) ?_
  refine e_aload_n d_M_link_117 rfl rfl ?_
  refine g_M_126 rfl d_M_link_118 ?_
  rw [show hI (sI (σ) 6 (0) 0 (0)) 6 (0) 8 = nI L from by simp [I_sI, hL]]
  refine e_imul d_M_link_121 ?_
  rw [show (2) * (nI L) = nI (2 * L) from by rw [show (2 : Int32) = nI 2 from by decide +kernel, nJ_mul]]
  refine e_iconst (v := 4) d_M_link_122 (by decide) ?_
  refine e_iload_n d_M_link_123 rfl rfl ?_
  refine e_imul d_M_link_124 ?_
  rw [show (4) * (nI i) = nI (4 * i) from by rw [show (4 : Int32) = nI 4 from by decide +kernel, nJ_mul]]
  refine e_iload_n d_M_link_125 rfl rfl ?_
  refine e_iadd d_M_link_126 ?_
  rw [show (nI (4 * i)) + (nI j) = nI ((4 * i) + j) from by rw [nJ_add]]
  refine e_iast d_M_link_127 (show vp_in (nI (2 * L)) (hl σ 7 4) from by rw [hM.l_ends]; exact nI_in (by omega) (by decide)) ?_
  rw [nI_clamp (show 2 * L < 2 ^ 31 by omega)]
  refine e_aload_n d_M_link_128 rfl rfl ?_
  refine g_M_29 (b := 7 + 16 * 4) rfl d_M_link_129 hM.a_ends ?_
  refine e_iconst (v := 2) d_M_link_132 (by decide) ?_
  refine e_aload_n d_M_link_133 rfl rfl ?_
  refine g_M_126 rfl d_M_link_134 ?_
  rw [show hI (sI (sI (σ) 6 (0) 0 (0)) 7 (4) (2 * L) (nI ((4 * i) + j))) 6 (0) 8 = nI L from by simp [I_sI, hL]]
  refine e_imul d_M_link_137 ?_
  rw [show (2) * (nI L) = nI (2 * L) from by rw [show (2 : Int32) = nI 2 from by decide +kernel, nJ_mul]]
  refine e_iconst (v := 1) d_M_link_138 (by decide) ?_
  refine e_iadd d_M_link_139 ?_
  rw [show (nI (2 * L)) + (1) = nI ((2 * L) + 1) from by rw [show (1 : Int32) = nI 1 from by decide +kernel, nJ_add]]
  refine e_iconst (v := 4) d_M_link_140 (by decide) ?_
  refine e_iload_n d_M_link_141 rfl rfl ?_
  refine e_imul d_M_link_142 ?_
  rw [show (4) * (nI i2) = nI (4 * i2) from by rw [show (4 : Int32) = nI 4 from by decide +kernel, nJ_mul]]
  refine e_iload d_M_link_143 rfl ?_
  refine e_iadd d_M_link_145 ?_
  rw [show (nI (4 * i2)) + (nI j2) = nI ((4 * i2) + j2) from by rw [nJ_add]]
  refine e_iast d_M_link_146 (show vp_in (nI ((2 * L) + 1)) (hl σ 7 4) from by rw [hM.l_ends]; exact nI_in (by omega) (by decide)) ?_
  rw [nI_clamp (show (2 * L) + 1 < 2 ^ 31 by omega)]
  refine e_aload_n d_M_link_147 rfl rfl ?_
  refine g_M_32 (b := 7 + 16 * 5) rfl d_M_link_148 hM.a_ways ?_
  refine e_iconst (v := 2) d_M_link_151 (by decide) ?_
  refine e_aload_n d_M_link_152 rfl rfl ?_
  refine g_M_126 rfl d_M_link_153 ?_
  rw [show hI (sI (sI (sI (σ) 6 (0) 0 (0)) 7 (4) (2 * L) (nI ((4 * i) + j))) 7 (4) ((2 * L) + 1) (nI ((4 * i2) + j2))) 6 (0) 8 = nI L from by simp [I_sI, hL]]
  refine e_imul d_M_link_156 ?_
  rw [show (2) * (nI L) = nI (2 * L) from by rw [show (2 : Int32) = nI 2 from by decide +kernel, nJ_mul]]
  refine e_iload d_M_link_157 rfl ?_
  refine e_iast d_M_link_159 (show vp_in (nI (2 * L)) (hl σ 7 5) from by rw [hM.l_ways]; exact nI_in (by omega) (by decide)) ?_
  rw [nI_clamp (show 2 * L < 2 ^ 31 by omega)]
  refine e_aload_n d_M_link_160 rfl rfl ?_
  refine g_M_32 (b := 7 + 16 * 5) rfl d_M_link_161 hM.a_ways ?_
  refine e_iconst (v := 2) d_M_link_164 (by decide) ?_
  refine e_aload_n d_M_link_165 rfl rfl ?_
  refine g_M_126 rfl d_M_link_166 ?_
  rw [show hI (sI (sI (sI (sI (σ) 6 (0) 0 (0)) 7 (4) (2 * L) (nI ((4 * i) + j))) 7 (4) ((2 * L) + 1) (nI ((4 * i2) + j2))) 7 (5) (2 * L) (t)) 6 (0) 8 = nI L from by simp [I_sI, hL]]
  refine e_imul d_M_link_169 ?_
  rw [show (2) * (nI L) = nI (2 * L) from by rw [show (2 : Int32) = nI 2 from by decide +kernel, nJ_mul]]
  refine e_iconst (v := 1) d_M_link_170 (by decide) ?_
  refine e_iadd d_M_link_171 ?_
  rw [show (nI (2 * L)) + (1) = nI ((2 * L) + 1) from by rw [show (1 : Int32) = nI 1 from by decide +kernel, nJ_add]]
  refine e_iload d_M_link_172 rfl ?_
  refine e_iast d_M_link_174 (show vp_in (nI ((2 * L) + 1)) (hl σ 7 5) from by rw [hM.l_ways]; exact nI_in (by omega) (by decide)) ?_
  rw [nI_clamp (show (2 * L) + 1 < 2 ^ 31 by omega)]
  refine e_aload_n d_M_link_175 rfl rfl ?_
  refine g_M_35 (b := 8 + 16 * 0) rfl d_M_link_176 hM.a_isUp ?_
  refine e_aload_n d_M_link_179 rfl rfl ?_
  refine g_M_126 rfl d_M_link_180 ?_
  rw [show hI (sI (sI (sI (sI (sI (σ) 6 (0) 0 (0)) 7 (4) (2 * L) (nI ((4 * i) + j))) 7 (4) ((2 * L) + 1) (nI ((4 * i2) + j2))) 7 (5) (2 * L) (t)) 7 (5) ((2 * L) + 1) (bk)) 6 (0) 8 = nI L from by simp [I_sI, hL]]
  refine e_iconst (v := 1) d_M_link_183 (by decide) ?_
  refine e_zast d_M_link_184 (show vp_in (nI L) (hl σ 8 0) from by rw [hM.l_isUp]; exact nI_in (by omega) (by decide)) (by first | exact Or.inl rfl | exact Or.inr rfl) ?_
  rw [nI_clamp (show L < 2 ^ 31 by omega)]
  refine e_aload_n d_M_link_185 rfl rfl ?_
  refine g_M_39 (b := 7 + 16 * 6) rfl d_M_link_186 hM.a_linkOf ?_
  refine e_iconst (v := 4) d_M_link_189 (by decide) ?_
  refine e_iload_n d_M_link_190 rfl rfl ?_
  refine e_imul d_M_link_191 ?_
  rw [show (4) * (nI i) = nI (4 * i) from by rw [show (4 : Int32) = nI 4 from by decide +kernel, nJ_mul]]
  refine e_iload_n d_M_link_192 rfl rfl ?_
  refine e_iadd d_M_link_193 ?_
  rw [show (nI (4 * i)) + (nI j) = nI ((4 * i) + j) from by rw [nJ_add]]
  refine e_aload_n d_M_link_194 rfl rfl ?_
  refine g_M_126 rfl d_M_link_195 ?_
  rw [show hI (sI (sI (sI (sI (sI (sI (σ) 6 (0) 0 (0)) 7 (4) (2 * L) (nI ((4 * i) + j))) 7 (4) ((2 * L) + 1) (nI ((4 * i2) + j2))) 7 (5) (2 * L) (t)) 7 (5) ((2 * L) + 1) (bk)) 8 (0) (L) (1)) 6 (0) 8 = nI L from by simp [I_sI, hL]]
  refine e_iast d_M_link_198 (show vp_in (nI ((4 * i) + j)) (hl σ 7 6) from by rw [hM.l_linkOf]; exact nI_in (by omega) (by decide)) ?_
  rw [nI_clamp (show (4 * i) + j < 2 ^ 31 by omega)]
  refine e_aload_n d_M_link_199 rfl rfl ?_
  refine g_M_39 (b := 7 + 16 * 6) rfl d_M_link_200 hM.a_linkOf ?_
  refine e_iconst (v := 4) d_M_link_203 (by decide) ?_
  refine e_iload_n d_M_link_204 rfl rfl ?_
  refine e_imul d_M_link_205 ?_
  rw [show (4) * (nI i2) = nI (4 * i2) from by rw [show (4 : Int32) = nI 4 from by decide +kernel, nJ_mul]]
  refine e_iload d_M_link_206 rfl ?_
  refine e_iadd d_M_link_208 ?_
  rw [show (nI (4 * i2)) + (nI j2) = nI ((4 * i2) + j2) from by rw [nJ_add]]
  refine e_aload_n d_M_link_209 rfl rfl ?_
  refine g_M_126 rfl d_M_link_210 ?_
  rw [show hI (sI (sI (sI (sI (sI (sI (sI (σ) 6 (0) 0 (0)) 7 (4) (2 * L) (nI ((4 * i) + j))) 7 (4) ((2 * L) + 1) (nI ((4 * i2) + j2))) 7 (5) (2 * L) (t)) 7 (5) ((2 * L) + 1) (bk)) 8 (0) (L) (1)) 7 (6) ((4 * i) + j) (nI L)) 6 (0) 8 = nI L from by simp [I_sI, hL]]
  refine e_iast d_M_link_213 (show vp_in (nI ((4 * i2) + j2)) (hl σ 7 6) from by rw [hM.l_linkOf]; exact nI_in (by omega) (by decide)) ?_
  rw [nI_clamp (show (4 * i2) + j2 < 2 ^ 31 by omega)]
  refine e_aload_n d_M_link_214 rfl rfl ?_
  refine e_dup d_M_link_215 rfl ?_
  refine g_M_126 rfl d_M_link_216 ?_
  rw [show hI (sI (sI (sI (sI (sI (sI (sI (sI (σ) 6 (0) 0 (0)) 7 (4) (2 * L) (nI ((4 * i) + j))) 7 (4) ((2 * L) + 1) (nI ((4 * i2) + j2))) 7 (5) (2 * L) (t)) 7 (5) ((2 * L) + 1) (bk)) 8 (0) (L) (1)) 7 (6) ((4 * i) + j) (nI L)) 7 (6) ((4 * i2) + j2) (nI L)) 6 (0) 8 = nI L from by simp [I_sI, hL]]
  refine e_iconst (v := 1) d_M_link_219 (by decide) ?_
  refine e_iadd d_M_link_220 ?_
  rw [show (nI L) + (1) = nI (L + 1) from by rw [show (1 : Int32) = nI 1 from by decide +kernel, nJ_add]]
  refine p_M_126 rfl d_M_link_221 ?_
  refine e_aload_n d_M_link_224 rfl rfl ?_
  refine e_callVd (v := none) (σ' := faS (sI (sI (sI (sI (sI (sI (sI (sI (sI (σ) 6 (0) 0 (0)) 7 (4) (2 * L) (nI ((4 * i) + j))) 7 (4) ((2 * L) + 1) (nI ((4 * i2) + j2))) 7 (5) (2 * L) (t)) 7 (5) ((2 * L) + 1) (bk)) 8 (0) (L) (1)) 7 (6) ((4 * i) + j) (nI L)) 7 (6) ((4 * i2) + j2) (nI L)) 6 (0) 8 (nI (L + 1))) n) (q := 6) (a := 0) (As := []) (st := []) 0 0 d_M_link_225 cb_M_link_112 iv_M_findAll rfl ⟨by decide, rfl⟩ rfl (Nat.le_of_ble_eq_true rfl) (by decide) (by decide) (ct_M_findAll (σ := sI (sI (sI (sI (sI (sI (sI (sI (sI (σ) 6 (0) 0 (0)) 7 (4) (2 * L) (nI ((4 * i) + j))) 7 (4) ((2 * L) + 1) (nI ((4 * i2) + j2))) 7 (5) (2 * L) (t)) 7 (5) ((2 * L) + 1) (bk)) 8 (0) (L) (1)) 7 (6) ((4 * i) + j) (nI L)) 7 (6) ((4 * i2) + j2) (nI L)) 6 (0) 8 (nI (L + 1))) hl0 (hM.of rfl rfl) hn10 (by simp [I_sI, hnn])) ?_
  show Ex l G m_M_link (pmV G m_M_link (qd (.inr (some (.int (nI L)))) (faS (ml0 σ L (4 * i + j) (4 * i2 + j2) t bk) n))) 228 [(7, .int (0)), (0, .ref (6 + 16 * 0)), (1, .int (nI i)), (2, .int (nI j)), (3, .int (nI i2)), (4, .int (nI j2)), (5, .int (t)), (6, .int (bk))] [] (faS (sI (sI (sI (sI (sI (sI (sI (sI (sI (σ) 6 (0) 0 (0)) 7 (4) (2 * L) (nI ((4 * i) + j))) 7 (4) ((2 * L) + 1) (nI ((4 * i2) + j2))) 7 (5) (2 * L) (t)) 7 (5) ((2 * L) + 1) (bk)) 8 (0) (L) (1)) 7 (6) ((4 * i) + j) (nI L)) 7 (6) ((4 * i2) + j2) (nI L)) 6 (0) 8 (nI (L + 1))) n) 0 0
  refine e_aload_n d_M_link_228 rfl rfl ?_
  refine g_M_126 rfl d_M_link_229 ?_
  rw [show hI (faS (sI (sI (sI (sI (sI (sI (sI (sI (sI (σ) 6 (0) 0 (0)) 7 (4) (2 * L) (nI ((4 * i) + j))) 7 (4) ((2 * L) + 1) (nI ((4 * i2) + j2))) 7 (5) (2 * L) (t)) 7 (5) ((2 * L) + 1) (bk)) 8 (0) (L) (1)) 7 (6) ((4 * i) + j) (nI L)) 7 (6) ((4 * i2) + j2) (nI L)) 6 (0) 8 (nI (L + 1))) n) 6 (0) 8 = nI (L + 1) from by rw [faS_I6, I_sI, if_pos ⟨rfl, rfl, rfl⟩]]
  refine e_iconst (v := 1) d_M_link_232 (by decide) ?_
  refine e_isub d_M_link_233 ?_
  rw [show (nI (L + 1)) - (1) = nI L from nI_pred L]
  exact e_iret d_M_link_234 rfl ⟨rfl, rfl⟩
set_option maxHeartbeats 4000000 in
set_option maxRecDepth 100000 in
theorem ct_M_round_x {l : Launch} (hl0 : l.stackTraces = false) {G : LG} {σ : HS} {v : Int32} (hx : v < 1 ∨ ¬ v ≤ 50) : Ct l G m_M_round [.ref (6 + 16 * 0), .int (v)] (σ) (qd (.inr (some (.int 0))) (sI σ 6 0 0 1)) := by
  refine Ct.of hl0 rfl rfl (Nat.le_of_ble_eq_true rfl) ?_
  show Ex l G m_M_round (pmV G m_M_round (qd (.inr (some (.int 0))) (sI σ 6 0 0 1))) 0 [(0, .ref (6 + 16 * 0)), (1, .int (v))] [] (σ) 0 0
  refine e_aload_n d_M_round_0 rfl rfl ?_
  refine e_iload_n d_M_round_1 rfl rfl ?_
  refine e_iconst (v := 1) d_M_round_2 (by decide) ?_
  refine e_icmplt (tgt := 12) d_M_round_3 (by decide) (fun h3 => ?_) (fun h3 => ?_)
  ·
    refine e_iconst (v := 1) d_M_round_12 (by decide) ?_
    refine e_goto (tgt := 17) d_M_round_13 (by decide) ?_
    refine p_M_78 rfl d_M_round_17 ?_
    refine e_iconst (v := 0) d_M_round_20 (by decide) ?_
    refine e_istore_n (lv' := [(2, .int (0)), (0, .ref (6 + 16 * 0)), (1, .int (v))]) d_M_round_21 rfl (by decide) rfl ?_
    refine e_iconst (v := 0) d_M_round_22 (by decide) ?_
    refine e_istore_n (lv' := [(3, .int (0)), (2, .int (0)), (0, .ref (6 + 16 * 0)), (1, .int (v))]) d_M_round_23 rfl (by decide) rfl ?_
    refine e_iload_n d_M_round_24 rfl rfl ?_
    refine e_iload_n d_M_round_25 rfl rfl ?_
    refine e_icmpge (tgt := 49) d_M_round_26 (by decide) (fun h26 => ?_) (fun h26 => ?_)
    ·
      refine e_iload_n d_M_round_49 rfl rfl ?_
      exact e_iret d_M_round_50 rfl ⟨rfl, rfl⟩
    ·
      refine e_aload_n d_M_round_29 rfl rfl ?_
      refine g_M_78 rfl d_M_round_30 ?_
      refine e_ifne (tgt := 49) d_M_round_33 (by decide) (fun h33 => ?_) (fun h33 => absurd h33 (by rw [th_1]; decide +kernel))
      refine e_iload_n d_M_round_49 rfl rfl ?_
      exact e_iret d_M_round_50 rfl ⟨rfl, rfl⟩
  ·
    refine e_iload_n d_M_round_6 rfl rfl ?_
    refine e_bipush (v := 50) d_M_round_7 (by decide) ?_
    refine e_icmple (tgt := 16) d_M_round_9 (by decide) (fun h9 => absurd h9 (hx.resolve_left h3)) (fun h9 => ?_)
    refine e_iconst (v := 1) d_M_round_12 (by decide) ?_
    refine e_goto (tgt := 17) d_M_round_13 (by decide) ?_
    refine p_M_78 rfl d_M_round_17 ?_
    refine e_iconst (v := 0) d_M_round_20 (by decide) ?_
    refine e_istore_n (lv' := [(2, .int (0)), (0, .ref (6 + 16 * 0)), (1, .int (v))]) d_M_round_21 rfl (by decide) rfl ?_
    refine e_iconst (v := 0) d_M_round_22 (by decide) ?_
    refine e_istore_n (lv' := [(3, .int (0)), (2, .int (0)), (0, .ref (6 + 16 * 0)), (1, .int (v))]) d_M_round_23 rfl (by decide) rfl ?_
    refine e_iload_n d_M_round_24 rfl rfl ?_
    refine e_iload_n d_M_round_25 rfl rfl ?_
    refine e_icmpge (tgt := 49) d_M_round_26 (by decide) (fun h26 => ?_) (fun h26 => ?_)
    ·
      refine e_iload_n d_M_round_49 rfl rfl ?_
      exact e_iret d_M_round_50 rfl ⟨rfl, rfl⟩
    ·
      refine e_aload_n d_M_round_29 rfl rfl ?_
      refine g_M_78 rfl d_M_round_30 ?_
      refine e_ifne (tgt := 49) d_M_round_33 (by decide) (fun h33 => ?_) (fun h33 => absurd h33 (by rw [th_1]; decide +kernel))
      refine e_iload_n d_M_round_49 rfl rfl ?_
      exact e_iret d_M_round_50 rfl ⟨rfl, rfl⟩
