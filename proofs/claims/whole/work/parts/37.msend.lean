/-- n places from lo on are taken from the first ones of f -/
def cps (f : Nat → Int32) (lo n : Nat) (g : Nat → Int32) : Nat → Int32 := fun k => if lo ≤ k ∧ k < lo + n then f (k - lo) else g k
theorem cps_0 {f g : Nat → Int32} {lo : Nat} : cps f lo 0 g = g := by funext k; simp [cps]; omega
theorem cps_s {f g : Nat → Int32} {lo n : Nat} : upI (cps f lo n g) (lo + n) (f n) = cps f lo (n + 1) g := by
  funext k
  unfold upI cps
  by_cases h : k = lo + n
  · subst h; rw [if_pos rfl, if_pos ⟨by omega, by omega⟩, show lo + n - lo = n by omega]
  · rw [if_neg h]
    by_cases h2 : lo ≤ k ∧ k < lo + n
    · rw [if_pos h2, if_pos ⟨h2.1, by omega⟩]
    · rw [if_neg h2, if_neg (by omega)]
/-- the number of the port across -/
def mlk (τ : HS) (p : Nat) : Nat := (hI τ 7 6 p).toNatClampNeg
def acr (τ : HS) (p : Nat) : Nat := (if hI τ 7 4 (2 * mlk τ p) = nI p then hI τ 7 4 (2 * mlk τ p + 1) else hI τ 7 4 (2 * mlk τ p)).toNatClampNeg
def sdT (τ : HS) (p to : Nat) : HS := sI (sI (sA (toS τ p) 7 10 (cps (hI (toS τ p) 7 14) (8 * to) 7 (hI (toS τ p) 7 10))) 7 10 (8 * to + 7) (nI (to % 4))) 8 2 to 1
def sn1 (z : HS × Int32) (p : Nat) : HS × Int32 := if hI z.1 7 7 p = 1 then (if hI z.1 8 0 (mlk z.1 p) = 0 then z else (sdT z.1 p (acr z.1 p), z.2 + 1)) else z
def cmS (σ : HS) (p : Nat) : HS := sA σ 8 2 (cpy (fun _ => 0) p (hI σ 8 2))
def snS (σ : HS) : Nat → HS × Int32
  | 0 => (cmS σ 40, 0)
  | p + 1 => sn1 (snS σ p) p
theorem snS_s {σ : HS} {p : Nat} : snS σ (p + 1) = sn1 (snS σ p) p := by rw [snS]
theorem sdT_I {τ : HS} {p to q a k : Nat} (h1 : ¬ (q = 7 ∧ (a = 10 ∨ a = 14))) (h2 : ¬ (q = 8 ∧ a = 2)) : hI (sdT τ p to) q a k = hI τ q a k := by
  unfold sdT toS
  rw [I_sI, if_neg (by omega), I_sI, if_neg (by omega), I_sA, if_neg (by omega), I_sA, if_neg (by omega)]
theorem snS_I {σ : HS} {q a k : Nat} (h1 : ¬ (q = 7 ∧ (a = 10 ∨ a = 14))) (h2 : ¬ (q = 8 ∧ a = 2)) : ∀ p, hI (snS σ p).1 q a k = hI σ q a k
  | 0 => by
    rw [snS]
    show hI (cmS σ 40) q a k = _
    unfold cmS
    rw [I_sA, if_neg h2]
  | p + 1 => by
    have ih := snS_I (σ := σ) (k := k) h1 h2 p
    rw [snS_s]
    unfold sn1
    split
    · split
      · exact ih
      · dsimp only; rw [sdT_I h1 h2]; exact ih
    · exact ih
theorem sdT_R {τ : HS} {p to : Nat} : hR (sdT τ p to) = hR τ ∧ hl (sdT τ p to) = hl τ := ⟨rfl, rfl⟩
theorem snS_R {σ : HS} : ∀ p, hR (snS σ p).1 = hR σ ∧ hl (snS σ p).1 = hl σ
  | 0 => by rw [snS]; exact ⟨rfl, rfl⟩
  | p + 1 => by
    have ih := snS_R (σ := σ) p
    rw [snS_s]
    unfold sn1
    split
    · split
      · exact ih
      · exact ⟨sdT_R.1.trans ih.1, sdT_R.2.trans ih.2⟩
    · exact ih
/-- what a port that sends needs: its link, the port across -/
def lok (σ : HS) (p : Nat) : Prop := ∃ k to, k < 16 ∧ to < 40 ∧ hI σ 7 6 p = nI k ∧ (if hI σ 7 4 (2 * k) = nI p then hI σ 7 4 (2 * k + 1) else hI σ 7 4 (2 * k)) = nI to
theorem ct_M_across {l : Launch} (hl0 : l.stackTraces = false) {G : LG} {σ : HS} {p k to : Nat} (hM : MS σ) (hp : p < 40) (hk : hI σ 7 6 p = nI k) (hk16 : k < 16) (ht : (if hI σ 7 4 (2 * k) = nI p then hI σ 7 4 (2 * k + 1) else hI σ 7 4 (2 * k)) = nI to) : Ct l G m_M_across [.ref (6 + 16 * 0), .int (nI p)] σ (qd (.inr (some (.int (nI to)))) σ) := by
  by_cases he : hI σ 7 4 (2 * k) = nI p
  · rw [if_pos he] at ht; rw [← ht]; exact ct_M_across_f hl0 hM hp hk hk16 he
  · rw [if_neg he] at ht; rw [← ht]; exact ct_M_across_s hl0 hM hp hk hk16 he
theorem lp7f : ∀ k, k < 7 → ¬ (7 : Int32) ≤ nI k := by decide +kernel
theorem lp7t : (7 : Int32) ≤ nI 7 := by decide +kernel
set_option maxHeartbeats 4000000 in
theorem li_M_sendAll {l : Launch} (hl0 : l.stackTraces = false) {G : LG} {PM : LPM} {τ : HS} {p to : Nat} {c : Int32} (hM : MS τ) (hto : to < 40) (hnext : Ex l G m_M_sendAll PM 105 [(4, .int (nI 7)), (3, .int (nI to)), (2, .int (nI p)), (1, .int (c)), (0, .ref (6 + 16 * 0))] [] (sA τ 7 10 (cps (hI τ 7 14) (8 * to) 7 (hI τ 7 10))) 0 0) : ∀ m j, j + m = 7 → Ex l G m_M_sendAll PM 73 [(4, .int (nI j)), (3, .int (nI to)), (2, .int (nI p)), (1, .int (c)), (0, .ref (6 + 16 * 0))] [] (sA τ 7 10 (cps (hI τ 7 14) (8 * to) j (hI τ 7 10))) 0 0 := by
  intro m
  induction m with
  | zero =>
    intro j hj
    obtain rfl : j = 7 := by omega
    refine e_iload d_M_sendAll_73 rfl ?_
    refine e_bipush (v := 7) d_M_sendAll_75 (by decide) ?_
    refine e_icmpge (tgt := 105) d_M_sendAll_77 (by decide) (fun h77 => ?_) (fun h77 => absurd lp7t h77)
    exact hnext
  | succ m ih =>
    intro j hj
    have hj7 : j < 7 := by omega
    refine e_iload d_M_sendAll_73 rfl ?_
    refine e_bipush (v := 7) d_M_sendAll_75 (by decide) ?_
    refine e_icmpge (tgt := 105) d_M_sendAll_77 (by decide) (fun h77 => absurd h77 (lp7f j hj7)) (fun h77 => ?_)
    refine e_aload_n d_M_sendAll_80 rfl rfl ?_
    refine g_M_57 (b := 7 + 16 * 10) rfl d_M_sendAll_81 hM.a_coming ?_
    refine e_bipush (v := 8) d_M_sendAll_84 (by decide) ?_
    refine e_iload_n d_M_sendAll_86 rfl rfl ?_
    refine e_imul d_M_sendAll_87 ?_
    rw [show (8) * (nI to) = nI (8 * to) from by rw [show (8 : Int32) = nI 8 from by decide +kernel, nJ_mul]]
    refine e_iload d_M_sendAll_88 rfl ?_
    refine e_iadd d_M_sendAll_90 ?_
    rw [show (nI (8 * to)) + (nI j) = nI ((8 * to) + j) from by rw [nJ_add]]
    refine e_aload_n d_M_sendAll_91 rfl rfl ?_
    refine g_M_72 (b := 7 + 16 * 14) rfl d_M_sendAll_92 hM.a_one ?_
    refine e_iload d_M_sendAll_95 rfl ?_
    refine e_iald d_M_sendAll_97 (show vp_in (nI j) (hl τ 7 14) from by rw [hM.l_one]; exact nI_in (by omega) (by decide)) ?_
    rw [nI_clamp (show j < 2 ^ 31 by omega)]
    rw [show hI (sA τ 7 10 (cps (hI τ 7 14) (8 * to) j (hI τ 7 10))) 7 (14) (j) = hI τ 7 14 j from by rw [I_sA, if_neg (by omega)]]
    refine e_iast d_M_sendAll_98 (show vp_in (nI ((8 * to) + j)) (hl τ 7 10) from by rw [hM.l_coming]; exact nI_in (by omega) (by decide)) ?_
    rw [nI_clamp (show (8 * to) + j < 2 ^ 31 by omega)]
    rw [sA_sI, cps_s]
    refine e_iinc (v := nI (j + 1)) (lv' := [(4, .int (nI (j + 1))), (3, .int (nI to)), (2, .int (nI p)), (1, .int (c)), (0, .ref (6 + 16 * 0))]) d_M_sendAll_99 rfl (ofI1 j) (by decide) rfl ?_
    refine e_goto (tgt := 73) d_M_sendAll_102 (by decide) ?_
    exact ih (j + 1) (by omega)
set_option maxHeartbeats 4000000 in
theorem lq_M_sendAll {l : Launch} (hl0 : l.stackTraces = false) {G : LG} {σ : HS} (hM : MS σ) {n : Nat} (hn10 : n ≤ 10) (hnn : hI σ 6 0 1 = nI n) (hL : ∀ p, p < 4 * n → hI σ 7 7 p = 1 → lok σ p) (hB : ∀ i, i < n → bok σ i) : ∀ m p, p + m = 4 * n → Ex l G m_M_sendAll (pmV G m_M_sendAll (qd (.inr (some (.int (snS σ (4 * n)).2))) (snS σ (4 * n)).1)) 25 [(2, .int (nI p)), (1, .int ((snS σ p).2)), (0, .ref (6 + 16 * 0))] [] ((snS σ p).1) 0 0 := by
  intro m
  induction m with
  | zero =>
    intro p hp
    obtain rfl : p = 4 * n := by omega
    refine e_iload_n d_M_sendAll_25 rfl rfl ?_
    refine e_iconst (v := 4) d_M_sendAll_26 (by decide) ?_
    refine e_aload_n d_M_sendAll_27 rfl rfl ?_
    refine g_M_100 rfl d_M_sendAll_28 ?_
    rw [show hI ((snS σ (4 * n)).1) 6 (0) 1 = nI n from by rw [snS_I (by omega) (by omega)]; exact hnn]
    refine e_imul d_M_sendAll_31 ?_
    rw [show (4) * (nI n) = nI (4 * n) from by rw [show (4 : Int32) = nI 4 from by decide +kernel, nJ_mul]]
    refine e_icmpge (tgt := 136) d_M_sendAll_32 (by decide) (fun h32 => ?_) (fun h32 => absurd (nI_le (Nat.le_refl _) (by omega)) h32)
    refine e_iload_n d_M_sendAll_136 rfl rfl ?_
    exact e_iret d_M_sendAll_137 rfl ⟨rfl, rfl⟩
  | succ m ih =>
    intro p hp
    have hp4 : p < 4 * n := by omega
    have hM' : MS (snS σ p).1 := hM.of (snS_R p).1 (snS_R p).2
    have h9 := ih (p + 1) (by omega)
    by_cases hs : hI (snS σ p).1 7 7 p = 1
    ·
      obtain ⟨k, to, hk16, hto, hk, ht⟩ := hL p hp4 (by rw [← snS_I (by omega) (by omega) p]; exact hs)
      have hk' : hI (snS σ p).1 7 6 p = nI k := by rw [snS_I (by omega) (by omega)]; exact hk
      have ht' : (if hI (snS σ p).1 7 4 (2 * k) = nI p then hI (snS σ p).1 7 4 (2 * k + 1) else hI (snS σ p).1 7 4 (2 * k)) = nI to := by rw [snS_I (by omega) (by omega), snS_I (by omega) (by omega)]; exact ht
      have hb' : hI (snS σ p).1 7 13 (p / 4) < 0 ∨ ∃ b, b < 40 ∧ hI (snS σ p).1 7 13 (p / 4) = nI b := by rw [snS_I (by omega) (by omega)]; exact hB (p / 4) (by omega)
      have em : mlk (snS σ p).1 p = k := by unfold mlk; rw [hk', nI_clamp (by omega)]
      have ea : acr (snS σ p).1 p = to := by unfold acr; rw [em, ht', nI_clamp (by omega)]
      by_cases hu : hI (snS σ p).1 8 0 k = 0
      ·
        refine e_iload_n d_M_sendAll_25 rfl rfl ?_
        refine e_iconst (v := 4) d_M_sendAll_26 (by decide) ?_
        refine e_aload_n d_M_sendAll_27 rfl rfl ?_
        refine g_M_100 rfl d_M_sendAll_28 ?_
        rw [show hI ((snS σ p).1) 6 (0) 1 = nI n from by rw [snS_I (by omega) (by omega)]; exact hnn]
        refine e_imul d_M_sendAll_31 ?_
        rw [show (4) * (nI n) = nI (4 * n) from by rw [show (4 : Int32) = nI 4 from by decide +kernel, nJ_mul]]
        refine e_icmpge (tgt := 136) d_M_sendAll_32 (by decide) (fun h32 => absurd h32 (nI_ge (show p < 4 * n by omega) (by omega))) (fun h32 => ?_)
        refine e_aload_n d_M_sendAll_35 rfl rfl ?_
        refine g_M_42 (b := 7 + 16 * 7) rfl d_M_sendAll_36 hM'.a_states ?_
        refine e_iload_n d_M_sendAll_39 rfl rfl ?_
        refine e_iald d_M_sendAll_40 (show vp_in (nI p) (hl (snS σ p).1 7 7) from by rw [hM'.l_states]; exact nI_in (by omega) (by decide)) ?_
        rw [nI_clamp (show p < 2 ^ 31 by omega)]
        refine e_iconst (v := 1) d_M_sendAll_41 (by decide) ?_
        refine e_icmpne (tgt := 130) d_M_sendAll_42 (by decide) (fun h42 => absurd h42 (fun z => z hs)) (fun h42 => ?_)
        refine e_aload_n d_M_sendAll_45 rfl rfl ?_
        refine g_M_35 (b := 8 + 16 * 0) rfl d_M_sendAll_46 hM'.a_isUp ?_
        refine e_aload_n d_M_sendAll_49 rfl rfl ?_
        refine g_M_39 (b := 7 + 16 * 6) rfl d_M_sendAll_50 hM'.a_linkOf ?_
        refine e_iload_n d_M_sendAll_53 rfl rfl ?_
        refine e_iald d_M_sendAll_54 (show vp_in (nI p) (hl (snS σ p).1 7 6) from by rw [hM'.l_linkOf]; exact nI_in (by omega) (by decide)) ?_
        rw [nI_clamp (show p < 2 ^ 31 by omega)]
        rw [hk']
        refine e_zald d_M_sendAll_55 (show vp_in (nI k) (hl (snS σ p).1 8 0) from by rw [hM'.l_isUp]; exact nI_in (by omega) (by decide)) ?_
        rw [nI_clamp (show k < 2 ^ 31 by omega)]
        refine e_ifeq (tgt := 130) d_M_sendAll_56 (by decide) (fun h56 => ?_) (fun h56 => absurd hu h56)
        refine e_iinc (v := nI (p + 1)) (lv' := [(2, .int (nI (p + 1))), (1, .int ((snS σ p).2)), (0, .ref (6 + 16 * 0))]) d_M_sendAll_130 rfl (ofI1 p) (by decide) rfl ?_
        refine e_goto (tgt := 25) d_M_sendAll_133 (by decide) ?_
        exact e_lv (lv' := [(2, .int (nI (p + 1))), (1, .int ((snS σ p).2)), (0, .ref (6 + 16 * 0))]) ⟨rfl, rfl, rfl, trivial⟩ (by rw [show snS σ (p + 1) = ((snS σ p).1, (snS σ p).2) by rw [snS_s]; unfold sn1; rw [if_pos hs, em, if_pos hu]] at h9; exact h9)
      ·
        have hnext : Ex l G m_M_sendAll (pmV G m_M_sendAll (qd (.inr (some (.int (snS σ (4 * n)).2))) (snS σ (4 * n)).1)) 105 [(4, .int (nI 7)), (3, .int (nI to)), (2, .int (nI p)), (1, .int ((snS σ p).2)), (0, .ref (6 + 16 * 0))] [] (sA (toS (snS σ p).1 p) 7 10 (cps (hI (toS (snS σ p).1 p) 7 14) (8 * to) 7 (hI (toS (snS σ p).1 p) 7 10))) 0 0 := by
          refine e_aload_n d_M_sendAll_105 rfl rfl ?_
          refine g_M_57 (b := 7 + 16 * 10) rfl d_M_sendAll_106 hM'.a_coming ?_
          refine e_bipush (v := 8) d_M_sendAll_109 (by decide) ?_
          refine e_iload_n d_M_sendAll_111 rfl rfl ?_
          refine e_imul d_M_sendAll_112 ?_
          rw [show (8) * (nI to) = nI (8 * to) from by rw [show (8 : Int32) = nI 8 from by decide +kernel, nJ_mul]]
          refine e_bipush (v := 7) d_M_sendAll_113 (by decide) ?_
          refine e_iadd d_M_sendAll_115 ?_
          rw [show (nI (8 * to)) + (7) = nI ((8 * to) + 7) from by rw [show (7 : Int32) = nI 7 from by decide +kernel, nJ_add]]
          refine e_iload_n d_M_sendAll_116 rfl rfl ?_
          refine e_iconst (v := 4) d_M_sendAll_117 (by decide) ?_
          refine e_irem d_M_sendAll_118 (by decide) ?_
          rw [show (nI to) - (nI to) / (4) * (4) = nI (to % 4) from nI_mod4 (by omega)]
          refine e_iast d_M_sendAll_119 (show vp_in (nI ((8 * to) + 7)) (hl (snS σ p).1 7 10) from by rw [hM'.l_coming]; exact nI_in (by omega) (by decide)) ?_
          rw [nI_clamp (show (8 * to) + 7 < 2 ^ 31 by omega)]
          refine e_aload_n d_M_sendAll_120 rfl rfl ?_
          refine g_M_54 (b := 8 + 16 * 2) rfl d_M_sendAll_121 hM'.a_comes ?_
          refine e_iload_n d_M_sendAll_124 rfl rfl ?_
          refine e_iconst (v := 1) d_M_sendAll_125 (by decide) ?_
          refine e_zast d_M_sendAll_126 (show vp_in (nI to) (hl (snS σ p).1 8 2) from by rw [hM'.l_comes]; exact nI_in (by omega) (by decide)) (by first | exact Or.inl rfl | exact Or.inr rfl) ?_
          rw [nI_clamp (show to < 2 ^ 31 by omega)]
          refine e_iinc (v := (snS σ p).2 + 1) (lv' := [(1, .int ((snS σ p).2 + 1)), (4, .int (nI 7)), (3, .int (nI to)), (2, .int (nI p)), (0, .ref (6 + 16 * 0))]) d_M_sendAll_127 rfl rfl (by decide) rfl ?_
          refine e_iinc (v := nI (p + 1)) (lv' := [(2, .int (nI (p + 1))), (1, .int ((snS σ p).2 + 1)), (4, .int (nI 7)), (3, .int (nI to)), (0, .ref (6 + 16 * 0))]) d_M_sendAll_130 rfl (ofI1 p) (by decide) rfl ?_
          refine e_goto (tgt := 25) d_M_sendAll_133 (by decide) ?_
          exact e_lv (lv' := [(2, .int (nI (p + 1))), (1, .int ((snS σ p).2 + 1)), (0, .ref (6 + 16 * 0))]) ⟨rfl, rfl, rfl, trivial⟩ (by rw [show snS σ (p + 1) = (sI (sI (sA (toS (snS σ p).1 p) 7 10 (cps (hI (toS (snS σ p).1 p) 7 14) (8 * to) 7 (hI (toS (snS σ p).1 p) 7 10))) 7 (10) ((8 * to) + 7) (nI (to % 4))) 8 (2) (to) (1), (snS σ p).2 + 1) by rw [snS_s]; unfold sn1; rw [if_pos hs, em, if_neg hu, ea]; rfl] at h9; exact h9)
        refine e_iload_n d_M_sendAll_25 rfl rfl ?_
        refine e_iconst (v := 4) d_M_sendAll_26 (by decide) ?_
        refine e_aload_n d_M_sendAll_27 rfl rfl ?_
        refine g_M_100 rfl d_M_sendAll_28 ?_
        rw [show hI ((snS σ p).1) 6 (0) 1 = nI n from by rw [snS_I (by omega) (by omega)]; exact hnn]
        refine e_imul d_M_sendAll_31 ?_
        rw [show (4) * (nI n) = nI (4 * n) from by rw [show (4 : Int32) = nI 4 from by decide +kernel, nJ_mul]]
        refine e_icmpge (tgt := 136) d_M_sendAll_32 (by decide) (fun h32 => absurd h32 (nI_ge (show p < 4 * n by omega) (by omega))) (fun h32 => ?_)
        refine e_aload_n d_M_sendAll_35 rfl rfl ?_
        refine g_M_42 (b := 7 + 16 * 7) rfl d_M_sendAll_36 hM'.a_states ?_
        refine e_iload_n d_M_sendAll_39 rfl rfl ?_
        refine e_iald d_M_sendAll_40 (show vp_in (nI p) (hl (snS σ p).1 7 7) from by rw [hM'.l_states]; exact nI_in (by omega) (by decide)) ?_
        rw [nI_clamp (show p < 2 ^ 31 by omega)]
        refine e_iconst (v := 1) d_M_sendAll_41 (by decide) ?_
        refine e_icmpne (tgt := 130) d_M_sendAll_42 (by decide) (fun h42 => absurd h42 (fun z => z hs)) (fun h42 => ?_)
        refine e_aload_n d_M_sendAll_45 rfl rfl ?_
        refine g_M_35 (b := 8 + 16 * 0) rfl d_M_sendAll_46 hM'.a_isUp ?_
        refine e_aload_n d_M_sendAll_49 rfl rfl ?_
        refine g_M_39 (b := 7 + 16 * 6) rfl d_M_sendAll_50 hM'.a_linkOf ?_
        refine e_iload_n d_M_sendAll_53 rfl rfl ?_
        refine e_iald d_M_sendAll_54 (show vp_in (nI p) (hl (snS σ p).1 7 6) from by rw [hM'.l_linkOf]; exact nI_in (by omega) (by decide)) ?_
        rw [nI_clamp (show p < 2 ^ 31 by omega)]
        rw [hk']
        refine e_zald d_M_sendAll_55 (show vp_in (nI k) (hl (snS σ p).1 8 0) from by rw [hM'.l_isUp]; exact nI_in (by omega) (by decide)) ?_
        rw [nI_clamp (show k < 2 ^ 31 by omega)]
        refine e_ifeq (tgt := 130) d_M_sendAll_56 (by decide) (fun h56 => absurd h56 hu) (fun h56 => ?_)
        refine e_aload_n d_M_sendAll_59 rfl rfl ?_
        refine e_iload_n d_M_sendAll_60 rfl rfl ?_
        refine e_callVd (v := some (.int (nI to))) (σ' := (snS σ p).1) (q := 6) (a := 0) (As := [.int (nI p)]) (st := []) 0 0 d_M_sendAll_61 cb_M_sendAll_133 iv_M_across rfl ⟨by decide, rfl⟩ rfl (Nat.le_of_ble_eq_true rfl) (by decide) (by decide) (ct_M_across hl0 hM' (by omega) hk' hk16 ht') ?_
        show Ex l G m_M_sendAll (pmV G m_M_sendAll (qd (.inr (some (.int (snS σ (4 * n)).2))) (snS σ (4 * n)).1)) 64 [(2, .int (nI p)), (1, .int ((snS σ p).2)), (0, .ref (6 + 16 * 0))] [.int (nI to)] ((snS σ p).1) 0 0
        refine e_istore_n (lv' := [(3, .int (nI to)), (2, .int (nI p)), (1, .int ((snS σ p).2)), (0, .ref (6 + 16 * 0))]) d_M_sendAll_64 rfl (by decide) rfl ?_
        refine e_aload_n d_M_sendAll_65 rfl rfl ?_
        refine e_iload_n d_M_sendAll_66 rfl rfl ?_
        refine e_callVd (v := none) (σ' := toS (snS σ p).1 p) (q := 6) (a := 0) (As := [.int (nI p)]) (st := []) 0 0 d_M_sendAll_67 cb_M_sendAll_97 iv_M_toldOne rfl ⟨by decide, rfl⟩ rfl (Nat.le_of_ble_eq_true rfl) (by decide) (by decide) (ct_M_toldOne hl0 hM' (by omega) hb') ?_
        show Ex l G m_M_sendAll (pmV G m_M_sendAll (qd (.inr (some (.int (snS σ (4 * n)).2))) (snS σ (4 * n)).1)) 70 [(3, .int (nI to)), (2, .int (nI p)), (1, .int ((snS σ p).2)), (0, .ref (6 + 16 * 0))] [] (toS (snS σ p).1 p) 0 0
        refine e_iconst (v := 0) d_M_sendAll_70 (by decide) ?_
        refine e_istore (lv' := [(4, .int (0)), (3, .int (nI to)), (2, .int (nI p)), (1, .int ((snS σ p).2)), (0, .ref (6 + 16 * 0))]) d_M_sendAll_71 (by decide) rfl ?_
        exact e_lv (lv' := [(4, .int (nI 0)), (3, .int (nI to)), (2, .int (nI p)), (1, .int ((snS σ p).2)), (0, .ref (6 + 16 * 0))]) ⟨rfl, rfl, rfl, rfl, rfl, trivial⟩ (by have h := li_M_sendAll (l := l) (G := G) (τ := toS (snS σ p).1 p) hl0 (hM'.of rfl rfl) hto hnext 7 0 rfl; rw [cps_0, sA_self] at h; exact h)
    ·
      refine e_iload_n d_M_sendAll_25 rfl rfl ?_
      refine e_iconst (v := 4) d_M_sendAll_26 (by decide) ?_
      refine e_aload_n d_M_sendAll_27 rfl rfl ?_
      refine g_M_100 rfl d_M_sendAll_28 ?_
      rw [show hI ((snS σ p).1) 6 (0) 1 = nI n from by rw [snS_I (by omega) (by omega)]; exact hnn]
      refine e_imul d_M_sendAll_31 ?_
      rw [show (4) * (nI n) = nI (4 * n) from by rw [show (4 : Int32) = nI 4 from by decide +kernel, nJ_mul]]
      refine e_icmpge (tgt := 136) d_M_sendAll_32 (by decide) (fun h32 => absurd h32 (nI_ge (show p < 4 * n by omega) (by omega))) (fun h32 => ?_)
      refine e_aload_n d_M_sendAll_35 rfl rfl ?_
      refine g_M_42 (b := 7 + 16 * 7) rfl d_M_sendAll_36 hM'.a_states ?_
      refine e_iload_n d_M_sendAll_39 rfl rfl ?_
      refine e_iald d_M_sendAll_40 (show vp_in (nI p) (hl (snS σ p).1 7 7) from by rw [hM'.l_states]; exact nI_in (by omega) (by decide)) ?_
      rw [nI_clamp (show p < 2 ^ 31 by omega)]
      refine e_iconst (v := 1) d_M_sendAll_41 (by decide) ?_
      refine e_icmpne (tgt := 130) d_M_sendAll_42 (by decide) (fun h42 => ?_) (fun h42 => absurd h42 hs)
      refine e_iinc (v := nI (p + 1)) (lv' := [(2, .int (nI (p + 1))), (1, .int ((snS σ p).2)), (0, .ref (6 + 16 * 0))]) d_M_sendAll_130 rfl (ofI1 p) (by decide) rfl ?_
      refine e_goto (tgt := 25) d_M_sendAll_133 (by decide) ?_
      exact e_lv (lv' := [(2, .int (nI (p + 1))), (1, .int ((snS σ p).2)), (0, .ref (6 + 16 * 0))]) ⟨rfl, rfl, rfl, trivial⟩ (by rw [show snS σ (p + 1) = ((snS σ p).1, (snS σ p).2) by rw [snS_s]; unfold sn1; rw [if_neg hs]] at h9; exact h9)
theorem cmS_s {σ : HS} {p : Nat} : sI (cmS σ p) 8 2 p 0 = cmS σ (p + 1) := by unfold cmS; rw [sA_sI, show upI (cpy (fun _ => 0) p (hI σ 8 2)) p 0 = cpy (fun _ => 0) (p + 1) (hI σ 8 2) from cpy_s (f := fun _ => 0)]
set_option maxHeartbeats 4000000 in
theorem lp_M_sendAll {l : Launch} (hl0 : l.stackTraces = false) {G : LG} {σ : HS} (hM : MS σ) {n : Nat} (hn10 : n ≤ 10) (hnn : hI σ 6 0 1 = nI n) (hL : ∀ p, p < 4 * n → hI σ 7 7 p = 1 → lok σ p) (hB : ∀ i, i < n → bok σ i) : ∀ m p, p + m = 40 → Ex l G m_M_sendAll (pmV G m_M_sendAll (qd (.inr (some (.int (snS σ (4 * n)).2))) (snS σ (4 * n)).1)) 4 [(2, .int (nI p)), (1, .int (0)), (0, .ref (6 + 16 * 0))] [] (cmS σ p) 0 0 := by
  intro m
  induction m with
  | zero =>
    intro p hp
    obtain rfl : p = 40 := by omega
    refine e_iload_n d_M_sendAll_4 rfl rfl ?_
    refine e_bipush (v := 40) d_M_sendAll_5 (by decide) ?_
    refine e_icmpge (tgt := 23) d_M_sendAll_7 (by decide) (fun h7 => ?_) (fun h7 => absurd lp40t h7)
    refine e_iconst (v := 0) d_M_sendAll_23 (by decide) ?_
    refine e_istore_n (lv' := [(2, .int (0)), (1, .int (0)), (0, .ref (6 + 16 * 0))]) d_M_sendAll_24 rfl (by decide) rfl ?_
    exact e_lv (lv' := [(2, .int (nI 0)), (1, .int ((snS σ 0).2)), (0, .ref (6 + 16 * 0))]) ⟨rfl, rfl, rfl, trivial⟩ (lq_M_sendAll hl0 hM hn10 hnn hL hB (4 * n) 0 (by omega))
  | succ m ih =>
    intro p hp
    have hp4 : p < 40 := by omega
    have hM' : MS (cmS σ p) := hM.of rfl rfl
    refine e_iload_n d_M_sendAll_4 rfl rfl ?_
    refine e_bipush (v := 40) d_M_sendAll_5 (by decide) ?_
    refine e_icmpge (tgt := 23) d_M_sendAll_7 (by decide) (fun h7 => absurd h7 (lp40f p hp4)) (fun h7 => ?_)
    refine e_aload_n d_M_sendAll_10 rfl rfl ?_
    refine g_M_54 (b := 8 + 16 * 2) rfl d_M_sendAll_11 hM'.a_comes ?_
    refine e_iload_n d_M_sendAll_14 rfl rfl ?_
    refine e_iconst (v := 0) d_M_sendAll_15 (by decide) ?_
    refine e_zast d_M_sendAll_16 (show vp_in (nI p) (hl (cmS σ p) 8 2) from by rw [hM'.l_comes]; exact nI_in (by omega) (by decide)) (by first | exact Or.inl rfl | exact Or.inr rfl) ?_
    rw [nI_clamp (show p < 2 ^ 31 by omega)]
    rw [cmS_s]
    refine e_iinc (v := nI (p + 1)) (lv' := [(2, .int (nI (p + 1))), (1, .int (0)), (0, .ref (6 + 16 * 0))]) d_M_sendAll_17 rfl (ofI1 p) (by decide) rfl ?_
    refine e_goto (tgt := 4) d_M_sendAll_20 (by decide) ?_
    exact ih (p + 1) (by omega)
theorem cmS_0 {σ : HS} : cmS σ 0 = σ := by unfold cmS; rw [cpy_0]; exact sA_self
set_option maxHeartbeats 4000000 in
set_option maxRecDepth 100000 in
theorem ct_M_sendAll {l : Launch} (hl0 : l.stackTraces = false) {G : LG} {σ : HS} (hM : MS σ) {n : Nat} (hn10 : n ≤ 10) (hnn : hI σ 6 0 1 = nI n) (hL : ∀ p, p < 4 * n → hI σ 7 7 p = 1 → lok σ p) (hB : ∀ i, i < n → bok σ i)  : Ct l G m_M_sendAll [.ref (6 + 16 * 0)] (σ) (qd (.inr (some (.int (snS σ (4 * n)).2))) (snS σ (4 * n)).1) := by
  refine Ct.of hl0 rfl rfl (Nat.le_of_ble_eq_true rfl) ?_
  show Ex l G m_M_sendAll (pmV G m_M_sendAll (qd (.inr (some (.int (snS σ (4 * n)).2))) (snS σ (4 * n)).1)) 0 [(0, .ref (6 + 16 * 0))] [] (σ) 0 0
  refine e_iconst (v := 0) d_M_sendAll_0 (by decide) ?_
  refine e_istore_n (lv' := [(1, .int (0)), (0, .ref (6 + 16 * 0))]) d_M_sendAll_1 rfl (by decide) rfl ?_
  refine e_iconst (v := 0) d_M_sendAll_2 (by decide) ?_
  refine e_istore_n (lv' := [(2, .int (0)), (1, .int (0)), (0, .ref (6 + 16 * 0))]) d_M_sendAll_3 rfl (by decide) rfl ?_
  exact e_lv (lv' := [(2, .int (nI 0)), (1, .int (0)), (0, .ref (6 + 16 * 0))]) ⟨rfl, rfl, rfl, trivial⟩ (by have h := lp_M_sendAll (l := l) (G := G) hl0 hM hn10 hnn hL hB 40 0 rfl; rw [cmS_0] at h; exact h)
