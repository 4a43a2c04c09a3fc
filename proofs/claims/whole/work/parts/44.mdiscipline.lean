def md1 (t : Int64) (sv : Int32) (z : HS × Int32) (i : Nat) : HS × Int32 := if csV z.1 i = 0 then z else if msP z.1 i = sv then (swQ z.1 i (bP z.1 i) t 0 0, z.2 + (if mxO z.1 i (bP z.1 i) t 0 0 = 0 then 1 else 0)) else z
def mdI (t : Int64) (sv : Int32) (s : HS × Int32) : Nat → HS × Int32
  | 0 => s
  | i + 1 => md1 t sv (mdI t sv s i) i
def mdO (t : Int64) (n : Nat) (s : HS × Int32) : Nat → HS × Int32
  | 0 => s
  | k + 1 => mdI t (nI k) (mdO t n s k) n
/-- what a swap must keep -/
def swI (n : Nat) (t : Int64) (I : HS → Prop) : Prop := (∀ τ, I τ → MS τ ∧ hI τ 6 0 1 = nI n ∧ ∀ i, i < n → lbk τ i) ∧ ∀ τ i, I τ → i < n → ¬ csV τ i = 0 → I (swQ τ i (bP τ i) t 0 0)
theorem swI.d1 {n : Nat} {t : Int64} {I : HS → Prop} (h : swI n t I) {z : HS × Int32} {sv : Int32} {i : Nat} (hz : I z.1) (hi : i < n) : I (md1 t sv z i).1 := by
  by_cases c : csV z.1 i = 0
  · have e : md1 t sv z i = z := by unfold md1; rw [if_pos c]
    rw [e]; exact hz
  · by_cases d : msP z.1 i = sv
    · have e : (md1 t sv z i).1 = swQ z.1 i (bP z.1 i) t 0 0 := by unfold md1; rw [if_neg c, if_pos d]
      rw [e]; exact h.2 z.1 i hz hi c
    · have e : md1 t sv z i = z := by unfold md1; rw [if_neg c, if_neg d]
      rw [e]; exact hz
theorem swI.dI {n : Nat} {t : Int64} {I : HS → Prop} (h : swI n t I) {s : HS × Int32} {sv : Int32} (hz : I s.1) : ∀ i, i ≤ n → I (mdI t sv s i).1
  | 0, _ => by rw [mdI]; exact hz
  | i + 1, hi => by rw [mdI]; exact h.d1 (swI.dI h hz i (by omega)) (by omega)
theorem swI.dO {n : Nat} {t : Int64} {I : HS → Prop} (h : swI n t I) {s : HS × Int32} (hz : I s.1) : ∀ k, I (mdO t n s k).1
  | 0 => by rw [mdO]; exact hz
  | k + 1 => by rw [mdO]; exact h.dI (swI.dO h hz k) n (Nat.le_refl _)
set_option maxHeartbeats 4000000 in
theorem li_M_discipline {l : Launch} (hl0 : l.stackTraces = false) {G : LG} {PM : LPM} {n k : Nat} {t : Int64} {s : HS × Int32} {I : HS → Prop} (hn10 : n ≤ 10) (hS : swI n t I) (hs : I s.1) (hnext : Ex l G m_M_discipline PM 10 [(4, .int (nI (k + 1))), (3, .int ((mdI t (nI k) s n).2)), (0, .ref (6 + 16 * 0)), (1, .long (t))] [] ((mdI t (nI k) s n).1) 0 0) : ∀ m i, i + m = n → Ex l G m_M_discipline PM 20 [(5, .int (nI i)), (4, .int (nI k)), (3, .int ((mdI t (nI k) s i).2)), (0, .ref (6 + 16 * 0)), (1, .long (t))] [] ((mdI t (nI k) s i).1) 0 0 := by
  intro m
  induction m with
  | zero =>
    intro i hi
    have hT := (hS.1 _ (hS.dI (sv := nI k) hs i (by omega))).2.1
    obtain rfl : i = n := by omega
    refine e_iload d_M_discipline_20 rfl ?_
    refine e_aload_n d_M_discipline_22 rfl rfl ?_
    refine g_M_100 rfl d_M_discipline_23 ?_
    refine e_icmpge (tgt := 79) d_M_discipline_26 (by decide) (fun h26 => ?_) (fun h26 => absurd (by rw [hT]; exact nI_le (Nat.le_refl _) (by omega)) h26)
    refine e_iinc (v := nI (k + 1)) (lv' := [(4, .int (nI (k + 1))), (5, .int (nI i)), (3, .int ((mdI t (nI k) s i).2)), (0, .ref (6 + 16 * 0)), (1, .long (t))]) d_M_discipline_79 rfl (ofI1 k) (by decide) rfl ?_
    refine e_goto (tgt := 10) d_M_discipline_82 (by decide) ?_
    exact e_lv (lv' := [(4, .int (nI (k + 1))), (3, .int ((mdI t (nI k) s i).2)), (0, .ref (6 + 16 * 0)), (1, .long (t))]) ⟨rfl, rfl, rfl, rfl, trivial⟩ hnext
  | succ m ih =>
    intro i hi
    have hin : i < n := by omega
    have hi10 : i < 10 := by omega
    obtain ⟨hM, hT, hlb'⟩ := hS.1 _ (hS.dI (sv := nI k) hs i (by omega))
    have hlb := hlb' i hin
    refine e_iload d_M_discipline_20 rfl ?_
    refine e_aload_n d_M_discipline_22 rfl rfl ?_
    refine g_M_100 rfl d_M_discipline_23 ?_
    refine e_icmpge (tgt := 79) d_M_discipline_26 (by decide) (fun h26 => absurd h26 (by rw [hT]; exact nI_ge hin (by omega))) (fun h26 => ?_)
    refine e_aload_n d_M_discipline_29 rfl rfl ?_
    refine e_iload d_M_discipline_30 rfl ?_
    refine e_callVd (v := some (.int (csV (mdI t (nI k) s i).1 i))) (σ' := (mdI t (nI k) s i).1) (q := 6) (a := 0) (As := [.int (nI i)]) (st := []) 0 0 d_M_discipline_32 cb_M_discipline_181 iv_M_canSwap rfl ⟨by decide, rfl⟩ rfl (Nat.le_of_ble_eq_true rfl) (by decide) (by decide) (ct_M_canSwap hl0 hM hi10 hlb) ?_
    show Ex l G m_M_discipline PM 35 [(5, .int (nI i)), (4, .int (nI k)), (3, .int ((mdI t (nI k) s i).2)), (0, .ref (6 + 16 * 0)), (1, .long (t))] [.int (csV (mdI t (nI k) s i).1 i)] ((mdI t (nI k) s i).1) 0 0
    refine e_ifeq (tgt := 73) d_M_discipline_35 (by decide) (fun h35 => ?_) (fun h35 => ?_)
    ·
      refine e_iinc (v := nI (i + 1)) (lv' := [(5, .int (nI (i + 1))), (4, .int (nI k)), (3, .int ((mdI t (nI k) s i).2)), (0, .ref (6 + 16 * 0)), (1, .long (t))]) d_M_discipline_73 rfl (ofI1 i) (by decide) rfl ?_
      refine e_goto (tgt := 20) d_M_discipline_76 (by decide) ?_
      exact e_lv (lv' := [(5, .int (nI (i + 1))), (4, .int (nI k)), (3, .int ((mdI t (nI k) s i).2)), (0, .ref (6 + 16 * 0)), (1, .long (t))]) ⟨rfl, rfl, rfl, rfl, rfl, trivial⟩ (by have h9 := ih (i + 1) (by omega); rw [show (mdI t (nI k) s (i + 1)).1 = (mdI t (nI k) s i).1 by rw [mdI]; unfold md1; first | rw [if_neg h35, if_pos h46, hbe, if_pos h63] | rw [if_neg h35, if_pos h46, hbe, if_neg h63] | rw [if_neg h35, if_neg h46] | rw [if_pos h35], show (mdI t (nI k) s (i + 1)).2 = (mdI t (nI k) s i).2 by rw [mdI]; unfold md1; first | rw [if_neg h35, if_pos h46, hbe, if_pos h63] | rw [if_neg h35, if_pos h46, hbe, if_neg h63] | rw [if_neg h35, if_neg h46] | rw [if_pos h35]] at h9; exact h9)
    ·
      refine e_aload_n d_M_discipline_38 rfl rfl ?_
      refine e_iload d_M_discipline_39 rfl ?_
      refine e_callVd (v := some (.int (msP (mdI t (nI k) s i).1 i))) (σ' := (mdI t (nI k) s i).1) (q := 6) (a := 0) (As := [.int (nI i)]) (st := []) 0 0 d_M_discipline_41 cb_M_discipline_152 iv_M_stepsOf rfl ⟨by decide, rfl⟩ rfl (Nat.le_of_ble_eq_true rfl) (by decide) (by decide) (ct_M_stepsOf hl0 hM hi10 hlb.bok) ?_
      show Ex l G m_M_discipline PM 44 [(5, .int (nI i)), (4, .int (nI k)), (3, .int ((mdI t (nI k) s i).2)), (0, .ref (6 + 16 * 0)), (1, .long (t))] [.int (msP (mdI t (nI k) s i).1 i)] ((mdI t (nI k) s i).1) 0 0
      refine e_iload d_M_discipline_44 rfl ?_
      refine e_icmpne (tgt := 73) d_M_discipline_46 (by decide) (fun h46 => ?_) (fun h46 => ?_)
      ·
        refine e_iinc (v := nI (i + 1)) (lv' := [(5, .int (nI (i + 1))), (4, .int (nI k)), (3, .int ((mdI t (nI k) s i).2)), (0, .ref (6 + 16 * 0)), (1, .long (t))]) d_M_discipline_73 rfl (ofI1 i) (by decide) rfl ?_
        refine e_goto (tgt := 20) d_M_discipline_76 (by decide) ?_
        exact e_lv (lv' := [(5, .int (nI (i + 1))), (4, .int (nI k)), (3, .int ((mdI t (nI k) s i).2)), (0, .ref (6 + 16 * 0)), (1, .long (t))]) ⟨rfl, rfl, rfl, rfl, rfl, trivial⟩ (by have h9 := ih (i + 1) (by omega); rw [show (mdI t (nI k) s (i + 1)).1 = (mdI t (nI k) s i).1 by rw [mdI]; unfold md1; first | rw [if_neg h35, if_pos h46, hbe, if_pos h63] | rw [if_neg h35, if_pos h46, hbe, if_neg h63] | rw [if_neg h35, if_neg h46] | rw [if_pos h35], show (mdI t (nI k) s (i + 1)).2 = (mdI t (nI k) s i).2 by rw [mdI]; unfold md1; first | rw [if_neg h35, if_pos h46, hbe, if_pos h63] | rw [if_neg h35, if_pos h46, hbe, if_neg h63] | rw [if_neg h35, if_neg h46] | rw [if_pos h35]] at h9; exact h9)
      ·
        obtain ⟨b, hb4, hb1, hlk, hbe⟩ := csV_b hlb h35
        refine e_aload_n d_M_discipline_49 rfl rfl ?_
        refine e_iload d_M_discipline_50 rfl ?_
        refine e_lload_n d_M_discipline_52 rfl rfl ?_
        refine e_iconst (v := 0) d_M_discipline_53 (by decide) ?_
        refine e_iconst (v := 0) d_M_discipline_54 (by decide) ?_
        refine e_callVd (v := none) (σ' := swQ (mdI t (nI k) s i).1 i b t 0 0) (q := 6) (a := 0) (As := [.int (nI i), .long (t), .int (0), .int (0)]) (st := []) 0 0 d_M_discipline_55 cb_M_discipline_184 iv_M_swap rfl ⟨by decide, rfl⟩ rfl (Nat.le_of_ble_eq_true rfl) (by decide) (by decide) (ct_M_swap hl0 hM hi10 hb1 hb4 hlk) ?_
        show Ex l G m_M_discipline PM 58 [(5, .int (nI i)), (4, .int (nI k)), (3, .int ((mdI t (nI k) s i).2)), (0, .ref (6 + 16 * 0)), (1, .long (t))] [] (swQ (mdI t (nI k) s i).1 i b t 0 0) 0 0
        refine e_iload_n d_M_discipline_58 rfl rfl ?_
        refine e_aload_n d_M_discipline_59 rfl rfl ?_
        refine g_M_155 rfl d_M_discipline_60 ?_
        rw [show hI (swQ (mdI t (nI k) s i).1 i b t 0 0) 6 (0) 25 = mxO (mdI t (nI k) s i).1 i b t 0 0 from swQ_ov]
        refine e_ifeq (tgt := 70) d_M_discipline_63 (by decide) (fun h63 => ?_) (fun h63 => ?_)
        ·
          refine e_iconst (v := 1) d_M_discipline_70 (by decide) ?_
          refine e_iadd d_M_discipline_71 ?_
          refine e_istore_n (lv' := [(3, .int (((mdI t (nI k) s i).2) + (1))), (5, .int (nI i)), (4, .int (nI k)), (0, .ref (6 + 16 * 0)), (1, .long (t))]) d_M_discipline_72 rfl (by decide) rfl ?_
          refine e_iinc (v := nI (i + 1)) (lv' := [(5, .int (nI (i + 1))), (3, .int (((mdI t (nI k) s i).2) + (1))), (4, .int (nI k)), (0, .ref (6 + 16 * 0)), (1, .long (t))]) d_M_discipline_73 rfl (ofI1 i) (by decide) rfl ?_
          refine e_goto (tgt := 20) d_M_discipline_76 (by decide) ?_
          exact e_lv (lv' := [(5, .int (nI (i + 1))), (4, .int (nI k)), (3, .int (((mdI t (nI k) s i).2) + (1))), (0, .ref (6 + 16 * 0)), (1, .long (t))]) ⟨rfl, rfl, rfl, rfl, rfl, trivial⟩ (by have h9 := ih (i + 1) (by omega); rw [show (mdI t (nI k) s (i + 1)).1 = swQ (mdI t (nI k) s i).1 i b t 0 0 by rw [mdI]; unfold md1; first | rw [if_neg h35, if_pos h46, hbe, if_pos h63] | rw [if_neg h35, if_pos h46, hbe, if_neg h63] | rw [if_neg h35, if_neg h46] | rw [if_pos h35], show (mdI t (nI k) s (i + 1)).2 = ((mdI t (nI k) s i).2) + (1) by rw [mdI]; unfold md1; first | rw [if_neg h35, if_pos h46, hbe, if_pos h63] | rw [if_neg h35, if_pos h46, hbe, if_neg h63] | rw [if_neg h35, if_neg h46] | rw [if_pos h35]] at h9; exact h9)
        ·
          refine e_iconst (v := 0) d_M_discipline_66 (by decide) ?_
          refine e_goto (tgt := 71) d_M_discipline_67 (by decide) ?_
          refine e_iadd d_M_discipline_71 ?_
          refine e_istore_n (lv' := [(3, .int (((mdI t (nI k) s i).2) + (0))), (5, .int (nI i)), (4, .int (nI k)), (0, .ref (6 + 16 * 0)), (1, .long (t))]) d_M_discipline_72 rfl (by decide) rfl ?_
          refine e_iinc (v := nI (i + 1)) (lv' := [(5, .int (nI (i + 1))), (3, .int (((mdI t (nI k) s i).2) + (0))), (4, .int (nI k)), (0, .ref (6 + 16 * 0)), (1, .long (t))]) d_M_discipline_73 rfl (ofI1 i) (by decide) rfl ?_
          refine e_goto (tgt := 20) d_M_discipline_76 (by decide) ?_
          exact e_lv (lv' := [(5, .int (nI (i + 1))), (4, .int (nI k)), (3, .int (((mdI t (nI k) s i).2) + (0))), (0, .ref (6 + 16 * 0)), (1, .long (t))]) ⟨rfl, rfl, rfl, rfl, rfl, trivial⟩ (by have h9 := ih (i + 1) (by omega); rw [show (mdI t (nI k) s (i + 1)).1 = swQ (mdI t (nI k) s i).1 i b t 0 0 by rw [mdI]; unfold md1; first | rw [if_neg h35, if_pos h46, hbe, if_pos h63] | rw [if_neg h35, if_pos h46, hbe, if_neg h63] | rw [if_neg h35, if_neg h46] | rw [if_pos h35], show (mdI t (nI k) s (i + 1)).2 = ((mdI t (nI k) s i).2) + (0) by rw [mdI]; unfold md1; first | rw [if_neg h35, if_pos h46, hbe, if_pos h63] | rw [if_neg h35, if_pos h46, hbe, if_neg h63] | rw [if_neg h35, if_neg h46] | rw [if_pos h35]] at h9; exact h9)
theorem lq16f : ∀ k, k < 16 → ¬ (16 : Int32) ≤ nI k := by decide +kernel
theorem lq16t : (16 : Int32) ≤ nI 16 := by decide +kernel
set_option maxHeartbeats 4000000 in
theorem lp_M_discipline {l : Launch} (hl0 : l.stackTraces = false) {G : LG} {σ : HS} {n : Nat} {t : Int64} {I : HS → Prop} (hn10 : n ≤ 10) (hS : swI n t I) (hs : I (sI σ 6 0 0 0)) : ∀ m k, k + m = 16 → Ex l G m_M_discipline (pmV G m_M_discipline (qd (.inr (some (.int (mdO t n (sI σ 6 0 0 0, 0) 16).2))) (mdO t n (sI σ 6 0 0 0, 0) 16).1)) 10 [(4, .int (nI k)), (3, .int ((mdO t n (sI σ 6 0 0 0, 0) k).2)), (0, .ref (6 + 16 * 0)), (1, .long (t))] [] ((mdO t n (sI σ 6 0 0 0, 0) k).1) 0 0 := by
  intro m
  induction m with
  | zero =>
    intro k hk
    obtain rfl : k = 16 := by omega
    refine e_iload d_M_discipline_10 rfl ?_
    refine e_bipush (v := 16) d_M_discipline_12 (by decide) ?_
    refine e_icmpge (tgt := 85) d_M_discipline_14 (by decide) (fun h14 => ?_) (fun h14 => absurd lq16t h14)
    refine e_iload_n d_M_discipline_85 rfl rfl ?_
    exact e_iret d_M_discipline_86 rfl ⟨rfl, rfl⟩
  | succ m ih =>
    intro k hk
    refine e_iload d_M_discipline_10 rfl ?_
    refine e_bipush (v := 16) d_M_discipline_12 (by decide) ?_
    refine e_icmpge (tgt := 85) d_M_discipline_14 (by decide) (fun h14 => absurd h14 (lq16f k (by omega))) (fun h14 => ?_)
    refine e_iconst (v := 0) d_M_discipline_17 (by decide) ?_
    refine e_istore (lv' := [(5, .int (0)), (4, .int (nI k)), (3, .int ((mdO t n (sI σ 6 0 0 0, 0) k).2)), (0, .ref (6 + 16 * 0)), (1, .long (t))]) d_M_discipline_18 (by decide) rfl ?_
    exact e_lv (lv' := [(5, .int (nI 0)), (4, .int (nI k)), (3, .int ((mdO t n (sI σ 6 0 0 0, 0) k).2)), (0, .ref (6 + 16 * 0)), (1, .long (t))]) ⟨rfl, rfl, rfl, rfl, rfl, trivial⟩ (li_M_discipline hl0 hn10 hS (hS.dO hs k) (by have h9 := ih (k + 1) (by omega); rw [mdO] at h9; exact h9) n 0 (by omega))
set_option maxHeartbeats 4000000 in
set_option maxRecDepth 100000 in
theorem ct_M_discipline {l : Launch} (hl0 : l.stackTraces = false) {G : LG} {σ : HS} {n : Nat} {t : Int64} {I : HS → Prop} (hn10 : n ≤ 10) (hS : swI n t I) (hs : I (sI σ 6 0 0 0))  : Ct l G m_M_discipline [.ref (6 + 16 * 0), .long (t)] (σ) (qd (.inr (some (.int (mdO t n (sI σ 6 0 0 0, 0) 16).2))) (mdO t n (sI σ 6 0 0 0, 0) 16).1) := by
  refine Ct.of hl0 rfl rfl (Nat.le_of_ble_eq_true rfl) ?_
  show Ex l G m_M_discipline (pmV G m_M_discipline (qd (.inr (some (.int (mdO t n (sI σ 6 0 0 0, 0) 16).2))) (mdO t n (sI σ 6 0 0 0, 0) 16).1)) 0 [(0, .ref (6 + 16 * 0)), (1, .long (t))] [] (σ) 0 0
  refine e_aload_n d_M_discipline_0 rfl rfl ?_
  refine e_iconst (v := 0) d_M_discipline_1 (by decide) ?_
  refine p_M_78 rfl d_M_discipline_2 ?_
  refine e_iconst (v := 0) d_M_discipline_5 (by decide) ?_
  refine e_istore_n (lv' := [(3, .int (0)), (0, .ref (6 + 16 * 0)), (1, .long (t))]) d_M_discipline_6 rfl (by decide) rfl ?_
  refine e_iconst (v := 0) d_M_discipline_7 (by decide) ?_
  refine e_istore (lv' := [(4, .int (0)), (3, .int (0)), (0, .ref (6 + 16 * 0)), (1, .long (t))]) d_M_discipline_8 (by decide) rfl ?_
  exact e_lv (lv' := [(4, .int (nI 0)), (3, .int ((mdO t n (sI σ 6 0 0 0, 0) 0).2)), (0, .ref (6 + 16 * 0)), (1, .long (t))]) ⟨rfl, rfl, rfl, rfl, trivial⟩ (lp_M_discipline hl0 hn10 hS hs 16 0 rfl)
