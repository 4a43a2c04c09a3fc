theorem gfr.sc {σ : HS} {i : Nat} {O : Int32} {J : Nat → Int64} : gfr σ (scS σ i O J) := by
  have h : gfr σ (rk σ 0 O J) := ⟨fun _ _ _ _ => rfl, rfl, rfl, fun q a k hn => rk_hI (fun z => hn (by omega))⟩
  unfold scS
  split
  · exact ⟨h.1, h.2.1, h.2.2.1, h.2.2.2⟩
  · exact h
theorem gfr.ss {σ : HS} {i b : Nat} {t : Int64} : gfr σ (ssS σ i b t) := by
  unfold ssS
  split
  · exact gfr.rf
  · exact gfr.sc
theorem ssS_R {σ : HS} {i b : Nat} {t : Int64} : hR (ssS σ i b t) = hR σ := by
  unfold ssS
  split
  · rfl
  · exact scS_R
noncomputable def diI (bs : Nat → Nat) (t : Int64) (sv : Int32) (s : HS × Int32) : Nat → HS × Int32
  | 0 => s
  | i + 1 => if hI (diI bs t sv s i).1 0 (bs i) 4 = sv then (ssS (diI bs t sv s i).1 i (bs i) t, if ssV (diI bs t sv s i).1 i (bs i) t = 0 then (diI bs t sv s i).2 else (diI bs t sv s i).2 + 1) else diI bs t sv s i
noncomputable def diO (bs : Nat → Nat) (t : Int64) (n : Nat) (s : HS × Int32) : Nat → HS × Int32
  | 0 => s
  | k + 1 => diI bs t (nI k) (diO bs t n s k) n
theorem diI_g {bs : Nat → Nat} {t : Int64} {sv : Int32} {s : HS × Int32} : ∀ i, gfr s.1 (diI bs t sv s i).1 ∧ hR (diI bs t sv s i).1 = hR s.1
  | 0 => ⟨gfr.rf, rfl⟩
  | i + 1 => by
    have h := diI_g (bs := bs) (t := t) (sv := sv) (s := s) i
    unfold diI
    split
    · exact ⟨h.1.trans gfr.ss, ssS_R.trans h.2⟩
    · exact h
theorem diO_g {bs : Nat → Nat} {t : Int64} {n : Nat} {s : HS × Int32} : ∀ k, gfr s.1 (diO bs t n s k).1 ∧ hR (diO bs t n s k).1 = hR s.1
  | 0 => ⟨gfr.rf, rfl⟩
  | k + 1 => by
    have h := diO_g (bs := bs) (t := t) (n := n) (s := s) k
    have h2 := diI_g (bs := bs) (t := t) (sv := nI k) (s := diO bs t n s k) n
    exact ⟨h.1.trans h2.1, h2.2.trans h.2⟩
set_option maxHeartbeats 4000000 in
theorem li_T_discipline {l : Launch} (hl0 : l.stackTraces = false) {G : LG} {PM : LPM} {n L k : Nat} {bs : Nat → Nat} {t : Int64} {s : HS × Int32} (hT : TS s.1 n L) (hB : ∀ i, i < n → hR s.1 2 i 3 = some (0 + 16 * (bs i))) (hnext : Ex l G m_T_discipline PM 5 [(4, .int (nI (k + 1))), (3, .int ((diI bs t (nI k) s n).2)), (0, .ref (5 + 16 * 0)), (1, .long (t))] [] ((diI bs t (nI k) s n).1) 0 0) : ∀ m i, i + m = n → Ex l G m_T_discipline PM 15 [(5, .int (nI i)), (4, .int (nI k)), (3, .int ((diI bs t (nI k) s i).2)), (0, .ref (5 + 16 * 0)), (1, .long (t))] [] ((diI bs t (nI k) s i).1) 0 0 := by
  have hn10 := hT.2.2.1.2.2.1
  intro m
  induction m with
  | zero =>
    intro i hi
    have hT' : TS (diI bs t (nI k) s i).1 n L := hT.g (diI_g i).1
    obtain rfl : i = n := by omega
    refine e_iload d_T_discipline_15 rfl ?_
    refine e_aload_n d_T_discipline_17 rfl rfl ?_
    refine g_T_28 rfl d_T_discipline_18 ?_
    refine e_icmpge (tgt := 66) d_T_discipline_21 (by decide) (fun h21 => ?_) (fun h21 => absurd (by rw [hT'.2.2.1.1]; exact nI_le (Nat.le_refl _) (by omega)) h21)
    refine e_iinc (v := nI (k + 1)) (lv' := [(4, .int (nI (k + 1))), (5, .int (nI i)), (3, .int ((diI bs t (nI k) s i).2)), (0, .ref (5 + 16 * 0)), (1, .long (t))]) d_T_discipline_66 rfl (ofI1 k) (by decide) rfl ?_
    refine e_goto (tgt := 5) d_T_discipline_69 (by decide) ?_
    exact e_lv (lv' := [(4, .int (nI (k + 1))), (3, .int ((diI bs t (nI k) s i).2)), (0, .ref (5 + 16 * 0)), (1, .long (t))]) ⟨rfl, rfl, rfl, rfl, trivial⟩ hnext
  | succ m ih =>
    intro i hi
    have hin : i < n := by omega
    have hT' : TS (diI bs t (nI k) s i).1 n L := hT.g (diI_g i).1
    have hb : hR (diI bs t (nI k) s i).1 2 i 3 = some (0 + 16 * (bs i)) := by rw [(diI_g i).2]; exact hB i hin
    refine e_iload d_T_discipline_15 rfl ?_
    refine e_aload_n d_T_discipline_17 rfl rfl ?_
    refine g_T_28 rfl d_T_discipline_18 ?_
    refine e_icmpge (tgt := 66) d_T_discipline_21 (by decide) (fun h21 => absurd h21 (by rw [hT'.2.2.1.1]; exact nI_ge hin (by omega))) (fun h21 => ?_)
    refine e_aload_n d_T_discipline_24 rfl rfl ?_
    refine g_T_11 (b := 10 + 16 * 0) rfl d_T_discipline_25 hT'.1.1 ?_
    refine e_iload d_T_discipline_28 rfl ?_
    refine e_aald (b := 2 + 16 * i) (C := _) d_T_discipline_30 ⟨by decide, by decide⟩ rfl (by rw [hT'.2.1.1]; exact nI_in (by omega) (by decide)) (by rw [nI_clamp (by omega)]; exact (hT'.2.2.2.1 i hin).1) ?_
    refine g_T_126 (b := 0 + 16 * (bs i)) rfl d_T_discipline_31 hb ?_
    refine g_T_132 rfl d_T_discipline_34 ?_
    refine e_iload d_T_discipline_37 rfl ?_
    refine e_icmpne (tgt := 60) d_T_discipline_39 (by decide) (fun h39 => ?_) (fun h39 => ?_)
    ·
      refine e_iinc (v := nI (i + 1)) (lv' := [(5, .int (nI (i + 1))), (4, .int (nI k)), (3, .int ((diI bs t (nI k) s i).2)), (0, .ref (5 + 16 * 0)), (1, .long (t))]) d_T_discipline_60 rfl (ofI1 i) (by decide) rfl ?_
      refine e_goto (tgt := 15) d_T_discipline_63 (by decide) ?_
      exact e_lv (lv' := [(5, .int (nI (i + 1))), (4, .int (nI k)), (3, .int ((diI bs t (nI k) s i).2)), (0, .ref (5 + 16 * 0)), (1, .long (t))]) ⟨rfl, rfl, rfl, rfl, rfl, trivial⟩ (by have h9 := ih (i + 1) (by omega); rw [show diI bs t (nI k) s (i + 1) = ((diI bs t (nI k) s i).1, (diI bs t (nI k) s i).2) by rw [diI]; simp [h39]] at h9; exact h9)
    ·
      refine e_aload_n d_T_discipline_42 rfl rfl ?_
      refine e_aload_n d_T_discipline_43 rfl rfl ?_
      refine g_T_11 (b := 10 + 16 * 0) rfl d_T_discipline_44 hT'.1.1 ?_
      refine e_iload d_T_discipline_47 rfl ?_
      refine e_aald (b := 2 + 16 * i) (C := _) d_T_discipline_49 ⟨by decide, by decide⟩ rfl (by rw [hT'.2.1.1]; exact nI_in (by omega) (by decide)) (by rw [nI_clamp (by omega)]; exact (hT'.2.2.2.1 i hin).1) ?_
      refine e_lload_n d_T_discipline_50 rfl rfl ?_
      refine e_callVd (v := some (.int (ssV (diI bs t (nI k) s i).1 i (bs i) t))) (σ' := ssS (diI bs t (nI k) s i).1 i (bs i) t) (q := 5) (a := 0) (As := [.ref (2 + 16 * i), .long (t)]) (st := []) 0 0 d_T_discipline_51 cb_T_discipline_169 iv_T_setsClock rfl ⟨by decide, rfl⟩ rfl (Nat.le_of_ble_eq_true rfl) (by decide) (by decide) (ct_T_setsClock hl0 hT' hin hb) ?_
      show Ex l G m_T_discipline PM 54 [(5, .int (nI i)), (4, .int (nI k)), (3, .int ((diI bs t (nI k) s i).2)), (0, .ref (5 + 16 * 0)), (1, .long (t))] [.int (ssV (diI bs t (nI k) s i).1 i (bs i) t)] (ssS (diI bs t (nI k) s i).1 i (bs i) t) 0 0
      refine e_ifeq (tgt := 60) d_T_discipline_54 (by decide) (fun h54 => ?_) (fun h54 => ?_)
      ·
        refine e_iinc (v := nI (i + 1)) (lv' := [(5, .int (nI (i + 1))), (4, .int (nI k)), (3, .int ((diI bs t (nI k) s i).2)), (0, .ref (5 + 16 * 0)), (1, .long (t))]) d_T_discipline_60 rfl (ofI1 i) (by decide) rfl ?_
        refine e_goto (tgt := 15) d_T_discipline_63 (by decide) ?_
        exact e_lv (lv' := [(5, .int (nI (i + 1))), (4, .int (nI k)), (3, .int ((diI bs t (nI k) s i).2)), (0, .ref (5 + 16 * 0)), (1, .long (t))]) ⟨rfl, rfl, rfl, rfl, rfl, trivial⟩ (by have h9 := ih (i + 1) (by omega); rw [show diI bs t (nI k) s (i + 1) = (ssS (diI bs t (nI k) s i).1 i (bs i) t, (diI bs t (nI k) s i).2) by rw [diI]; simp [h39, h54]] at h9; exact h9)
      ·
        refine e_iinc (v := (diI bs t (nI k) s i).2 + 1) (lv' := [(3, .int ((diI bs t (nI k) s i).2 + 1)), (5, .int (nI i)), (4, .int (nI k)), (0, .ref (5 + 16 * 0)), (1, .long (t))]) d_T_discipline_57 rfl rfl (by decide) rfl ?_
        refine e_iinc (v := nI (i + 1)) (lv' := [(5, .int (nI (i + 1))), (3, .int ((diI bs t (nI k) s i).2 + 1)), (4, .int (nI k)), (0, .ref (5 + 16 * 0)), (1, .long (t))]) d_T_discipline_60 rfl (ofI1 i) (by decide) rfl ?_
        refine e_goto (tgt := 15) d_T_discipline_63 (by decide) ?_
        exact e_lv (lv' := [(5, .int (nI (i + 1))), (4, .int (nI k)), (3, .int ((diI bs t (nI k) s i).2 + 1)), (0, .ref (5 + 16 * 0)), (1, .long (t))]) ⟨rfl, rfl, rfl, rfl, rfl, trivial⟩ (by have h9 := ih (i + 1) (by omega); rw [show diI bs t (nI k) s (i + 1) = (ssS (diI bs t (nI k) s i).1 i (bs i) t, (diI bs t (nI k) s i).2 + 1) by rw [diI]; simp [h39, h54]] at h9; exact h9)
theorem lq15f : ∀ k, k < 15 → ¬ (15 : Int32) ≤ nI k := by decide +kernel
theorem lq15t : (15 : Int32) ≤ nI 15 := by decide +kernel
set_option maxHeartbeats 4000000 in
theorem lp_T_discipline {l : Launch} (hl0 : l.stackTraces = false) {G : LG} {σ : HS} {n L : Nat} {bs : Nat → Nat} {t : Int64} (hT : TS σ n L) (hB : ∀ i, i < n → hR σ 2 i 3 = some (0 + 16 * (bs i))) : ∀ m k, k + m = 15 → Ex l G m_T_discipline (pmV G m_T_discipline (qd (.inr (some (.int (diO bs t n (σ, 0) 15).2))) (diO bs t n (σ, 0) 15).1)) 5 [(4, .int (nI k)), (3, .int ((diO bs t n (σ, 0) k).2)), (0, .ref (5 + 16 * 0)), (1, .long (t))] [] ((diO bs t n (σ, 0) k).1) 0 0 := by
  intro m
  induction m with
  | zero =>
    intro k hk
    obtain rfl : k = 15 := by omega
    refine e_iload d_T_discipline_5 rfl ?_
    refine e_bipush (v := 15) d_T_discipline_7 (by decide) ?_
    refine e_icmpge (tgt := 72) d_T_discipline_9 (by decide) (fun h9 => ?_) (fun h9 => absurd lq15t h9)
    refine e_iload_n d_T_discipline_72 rfl rfl ?_
    exact e_iret d_T_discipline_73 rfl ⟨rfl, rfl⟩
  | succ m ih =>
    intro k hk
    have hT' : TS (diO bs t n (σ, 0) k).1 n L := hT.g (diO_g k).1
    refine e_iload d_T_discipline_5 rfl ?_
    refine e_bipush (v := 15) d_T_discipline_7 (by decide) ?_
    refine e_icmpge (tgt := 72) d_T_discipline_9 (by decide) (fun h9 => absurd h9 (lq15f k (by omega))) (fun h9 => ?_)
    refine e_iconst (v := 0) d_T_discipline_12 (by decide) ?_
    refine e_istore (lv' := [(5, .int (0)), (4, .int (nI k)), (3, .int ((diO bs t n (σ, 0) k).2)), (0, .ref (5 + 16 * 0)), (1, .long (t))]) d_T_discipline_13 (by decide) rfl ?_
    exact e_lv (lv' := [(5, .int (nI 0)), (4, .int (nI k)), (3, .int ((diO bs t n (σ, 0) k).2)), (0, .ref (5 + 16 * 0)), (1, .long (t))]) ⟨rfl, rfl, rfl, rfl, rfl, trivial⟩ (li_T_discipline hl0 hT' (fun i hi => by rw [(diO_g k).2]; exact hB i hi) (ih (k + 1) (by omega)) n 0 (by omega))
set_option maxHeartbeats 4000000 in
theorem ct_T_discipline {l : Launch} (hl0 : l.stackTraces = false) {G : LG} {σ : HS} {n L : Nat} {bs : Nat → Nat} {t : Int64} (hT : TS σ n L) (hB : ∀ i, i < n → hR σ 2 i 3 = some (0 + 16 * (bs i)))  : Ct l G m_T_discipline [.ref (5 + 16 * 0), .long (t)] (σ) (qd (.inr (some (.int (diO bs t n (σ, 0) 15).2))) (diO bs t n (σ, 0) 15).1) := by
  refine Ct.of hl0 rfl rfl (Nat.le_of_ble_eq_true rfl) ?_
  show Ex l G m_T_discipline (pmV G m_T_discipline (qd (.inr (some (.int (diO bs t n (σ, 0) 15).2))) (diO bs t n (σ, 0) 15).1)) 0 [(0, .ref (5 + 16 * 0)), (1, .long (t))] [] (σ) 0 0
  refine e_iconst (v := 0) d_T_discipline_0 (by decide) ?_
  refine e_istore_n (lv' := [(3, .int (0)), (0, .ref (5 + 16 * 0)), (1, .long (t))]) d_T_discipline_1 rfl (by decide) rfl ?_
  refine e_iconst (v := 0) d_T_discipline_2 (by decide) ?_
  refine e_istore (lv' := [(4, .int (0)), (3, .int (0)), (0, .ref (5 + 16 * 0)), (1, .long (t))]) d_T_discipline_3 (by decide) rfl ?_
  exact e_lv (lv' := [(4, .int (nI 0)), (3, .int ((diO bs t n (σ, 0) 0).2)), (0, .ref (5 + 16 * 0)), (1, .long (t))]) ⟨rfl, rfl, rfl, rfl, trivial⟩ (lp_T_discipline hl0 hT hB 15 0 rfl)
