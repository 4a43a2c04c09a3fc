/-- what a round's hearing may write -/
def hfr (σ τ : HS) : Prop := hR τ = hR σ ∧ hl τ = hl σ ∧ hn τ = hn σ ∧ hJ τ = hJ σ ∧ ∀ q a k, ¬ (q = 0 ∨ (q = 1 ∧ (k = 4 ∨ k = 5)) ∨ (q = 5 ∧ k = 5)) → hI τ q a k = hI σ q a k
theorem hfr.rf {σ : HS} : hfr σ σ := ⟨rfl, rfl, rfl, rfl, fun _ _ _ _ => rfl⟩
theorem hfr.trans {σ τ υ : HS} (h : hfr σ τ) (h' : hfr τ υ) : hfr σ υ := ⟨h'.1.trans h.1, h'.2.1.trans h.2.1, h'.2.2.1.trans h.2.2.1, h'.2.2.2.1.trans h.2.2.2.1, fun q a k hn => (h'.2.2.2.2 q a k hn).trans (h.2.2.2.2 q a k hn)⟩
theorem hfr.sI1 {σ τ : HS} (h : hfr σ τ) {p k : Nat} {v : Int32} (hk : k = 4 ∨ k = 5) : hfr σ (sI τ 1 p k v) := ⟨h.1, h.2.1, h.2.2.1, h.2.2.2.1, fun q a j hn => by
  rw [I_sI, if_neg (fun z => hn (Or.inr (Or.inl ⟨z.1, by rw [z.2.2]; exact hk⟩)))]; exact h.2.2.2.2 q a j hn⟩
theorem hfr.sI5 {σ τ : HS} (h : hfr σ τ) {v : Int32} : hfr σ (sI τ 5 0 5 v) := ⟨h.1, h.2.1, h.2.2.1, h.2.2.2.1, fun q a j hn => by
  rw [I_sI, if_neg (fun z => hn (Or.inr (Or.inr ⟨z.1, z.2.2⟩)))]; exact h.2.2.2.2 q a j hn⟩
theorem hfr.sD0 {σ τ : HS} (h : hfr σ τ) {d : Nat} {f : DV} : hfr σ (sD τ d f) := ⟨h.1, h.2.1, h.2.2.1, h.2.2.2.1, fun q a j hn => by
  rw [I_sD, if_neg (fun z => hn (Or.inl z.1))]; exact h.2.2.2.2 q a j hn⟩
theorem TS.hear {σ τ : HS} {n L : Nat} (hT : TS σ n L) (h : hfr σ τ) : TS τ n L := by
  obtain ⟨h1, h2, h3, h4, h5, h6, h7, h8⟩ := hT
  have hi := h.2.2.2.2
  refine ⟨by rw [h.1]; exact h1, by rw [h.2.1]; exact h2, ⟨?_, ?_, h3.2.2⟩, fun i hin => ⟨by rw [h.1]; exact (h4 i hin).1, ?_⟩, by rw [h.1]; exact h5, by rw [h.1]; exact h6, fun p hp => ⟨?_, ?_⟩, fun i hin => ?_⟩
  · rw [hi 5 0 3 (by omega)]; exact h3.1
  · rw [hi 5 0 4 (by omega)]; exact h3.2.1
  · have := (h4 i hin).2
    unfold NS at this ⊢
    rw [h.1, h.2.1]; exact this
  · rw [hi 1 p 0 (by omega)]; exact (h7 p hp).1
  · rw [hi 1 p 1 (by omega)]; exact (h7 p hp).2
  · rw [hi 2 i 0 (by omega)]; exact h8 i hin
/-- the port at a link's other end; the port that sends to p -/
def farP (τ : HS) (k p : Nat) : Nat := if hR τ 3 k 0 = some (1 + 16 * p) then ((hR τ 3 k 1).getD 0) / 16 else ((hR τ 3 k 0).getD 0) / 16
def sdP (τ : HS) (p : Nat) : Option Nat := match hR τ 1 p 7 with
  | none => none
  | some x => if hI τ 3 (x / 16) 4 = 0 then none else if hI τ 1 (farP τ (x / 16) p) 6 = 1 then some (farP τ (x / 16) p) else none
theorem farP_eq {τ : HS} {k p x y : Nat} (hf : hR τ 3 k 0 = some (1 + 16 * x)) (hs : hR τ 3 k 1 = some (1 + 16 * y)) : farP τ k p = if p = x then y else x := by
  unfold farP
  rw [hf, hs]
  by_cases e : p = x
  · rw [if_pos (by rw [e]), if_pos e]; show (1 + 16 * y) / 16 = y; omega
  · rw [if_neg (fun z => e (by have := Option.some.inj z; omega)), if_neg e]; show (1 + 16 * x) / 16 = x; omega
theorem TS.lk {σ : HS} {n L : Nat} (hT : TS σ n L) {p : Nat} (hp : p < 4 * n) : hR σ 1 p 7 = none ∨ ∃ k x y, k < L ∧ x < 4 * n ∧ y < 4 * n ∧ hR σ 1 p 7 = some (3 + 16 * k) ∧ hR σ 3 k 0 = some (1 + 16 * x) ∧ hR σ 3 k 1 = some (1 + 16 * y) := by
  rcases hT.2.2.2.2.1 p hp with h | ⟨k, hk, h⟩
  · exact Or.inl h
  · obtain ⟨-, x, y, hx, hy, hf, hs⟩ := hT.2.2.2.2.2.1 k hk
    exact Or.inr ⟨k, x, y, hk, hx, hy, h, hf, hs⟩
theorem sdP_lt {σ : HS} {n L : Nat} (hT : TS σ n L) {p f : Nat} (hp : p < 4 * n) (h : sdP σ p = some f) : f < 4 * n := by
  rcases hT.lk hp with h1 | ⟨k, x, y, hk, hx, hy, h1, hf, hs⟩
  · unfold sdP at h; rw [h1] at h; cases h
  · unfold sdP at h
    rw [h1] at h
    have e : (3 + 16 * k) / 16 = k := by omega
    have hz : (if p = x then y else x) < 4 * n := by split <;> assumption
    simp only [e, farP_eq hf hs] at h
    generalize (if p = x then y else x) = z at h hz
    split at h
    · cases h
    · split at h
      · cases h; exact hz
      · cases h
theorem ct_P_findSender {l : Launch} (hl0 : l.stackTraces = false) {G : LG} {σ : HS} {n L p : Nat} (hT : TS σ n L) (hp : p < 4 * n) : Ct l G m_P_findSender [.ref (1 + 16 * p)] σ (qd (.inr (some (va_rf ((sdP σ p).map (fun f => 1 + 16 * f))))) σ) := by
  rcases hT.lk hp with h1 | ⟨k, x, y, hk, hx, hy, h1, hf, hs⟩
  · have e : sdP σ p = none := by unfold sdP; rw [h1]
    rw [e]; exact ct_P_findSender_n hl0 h1
  · have h := ct_P_findSender_s (l := l) (G := G) hl0 h1 hf hs
    have e : va_rf ((sdP σ p).map (fun f => 1 + 16 * f)) = fsdV σ p k x y := by
      unfold sdP fsdV
      rw [h1]
      have e1 : (3 + 16 * k) / 16 = k := by omega
      simp only [e1, farP_eq hf hs]
      generalize (if p = x then y else x) = z
      split
      · rfl
      · split <;> rfl
    rw [e]; exact h
theorem TS.told {σ : HS} {n L : Nat} (hT : TS σ n L) {f : Nat} (hf : f < 4 * n) : hR σ 1 f 3 = some (0 + 16 * (9 * (f / 4) + 2 + 2 * (f % 4))) := by
  have h := ((hT.2.2.2.1 (f / 4) (by omega)).2.2.2.2 (f % 4) (by omega)).2.2
  rw [show 4 * (f / 4) + f % 4 = f by omega] at h
  exact h
/-- a port has heard: the flag of a change -/
def flg (τ : HS) (v : Int32) : HS := if v = 0 then τ else sI τ 5 0 5 1
def tld (f : Nat) : Nat := 9 * (f / 4) + 2 + 2 * (f % 4)
theorem tld_ne {f i j : Nat} (hj : j < 4) : ¬ tld f = 9 * i + 1 + 2 * j := by
  unfold tld
  have h := Nat.mod_lt f (show 0 < 4 by decide)
  generalize f / 4 = a
  generalize f % 4 = b at h ⊢
  omega
def hrS (τ : HS) (i j : Nat) : HS := match sdP τ (4 * i + j) with
  | none => flg (growS τ (4 * i + j)) (growV τ (4 * i + j))
  | some f => if accV τ i (tld f) = 0 then flg (growS τ (4 * i + j)) (growV τ (4 * i + j)) else flg (keepS τ (4 * i + j) (9 * i + 1 + 2 * j) (tld f)) (keepR τ (4 * i + j) (9 * i + 1 + 2 * j) (tld f))
def hrN (τ : HS) (p : Nat) : Int32 := match sdP τ p with
  | none => 0
  | some _ => 1
def heS (σ : HS) (i : Nat) : Nat → HS
  | 0 => σ
  | j + 1 => hrS (heS σ i j) i j
def heN (σ : HS) (i : Nat) : Nat → Int32
  | 0 => 0
  | j + 1 => heN σ i j + hrN (heS σ i j) (4 * i + j)
theorem hfr.flg {σ τ : HS} (h : hfr σ τ) {v : Int32} : hfr σ (flg τ v) := by
  show hfr σ (if v = 0 then τ else sI τ 5 0 5 1)
  split
  · exact h
  · exact h.sI5
theorem hfr.grow {σ τ : HS} (h : hfr σ τ) {p : Nat} : hfr σ (growS τ p) := by
  unfold growS
  split
  · exact h
  · split
    · exact (h.sI1 (Or.inr rfl)).sI1 (Or.inl rfl)
    · exact h.sI1 (Or.inr rfl)
theorem hfr.keep {σ τ : HS} (h : hfr σ τ) {p c s : Nat} : hfr σ (keepS τ p c s) := by
  unfold keepS
  exact (h.sD0.sI1 (Or.inl rfl)).sI1 (Or.inr rfl)
theorem hfr.hr {σ τ : HS} (h : hfr σ τ) {i j : Nat} : hfr σ (hrS τ i j) := by
  unfold hrS
  split
  · exact h.grow.flg
  · split
    · exact h.grow.flg
    · exact h.keep.flg
theorem hfr.he {σ : HS} {i : Nat} : ∀ j, hfr σ (heS σ i j)
  | 0 => hfr.rf
  | j + 1 => (hfr.he j).hr
set_option maxHeartbeats 4000000 in
theorem lp_T_hearAtPorts {l : Launch} (hl0 : l.stackTraces = false) {G : LG} {σ : HS} {n L : Nat} (hT : TS σ n L) {i : Nat} (hi : i < n) : ∀ m j, j + m = 4 → Ex l G m_T_hearAtPorts (pmV G m_T_hearAtPorts (qd (.inr (some (.int (heN σ i 4)))) (heS σ i 4))) 4 [(3, .int (nI j)), (2, .int (heN σ i j)), (0, .ref (5 + 16 * 0)), (1, .ref (2 + 16 * i))] [] (heS σ i j) 0 0 := by
  intro m
  induction m with
  | zero =>
    intro j hj
    obtain rfl : j = 4 := by omega
    refine e_iload_n d_T_hearAtPorts_4 rfl rfl ?_
    refine e_iconst (v := 4) d_T_hearAtPorts_5 (by decide) ?_
    refine e_icmpge (tgt := 87) d_T_hearAtPorts_6 (by decide) (fun h6 => ?_) (fun h6 => absurd lp4t h6)
    refine e_iload_n d_T_hearAtPorts_87 rfl rfl ?_
    exact e_iret d_T_hearAtPorts_88 rfl ⟨rfl, rfl⟩
  | succ m ih =>
    intro j hj
    have hj4 : j < 4 := by omega
    have hT' : TS (heS σ i j) n L := hT.hear (hfr.he j)
    have hp : 4 * i + j < 4 * n := by omega
    have hN := (hT'.2.2.2.1 i hi).2
    have hct := ct_P_findSender (l := l) (G := G) hl0 hT' hp
    cases hsd : sdP (heS σ i j) (4 * i + j) with
    | none =>
      refine e_iload_n d_T_hearAtPorts_4 rfl rfl ?_
      refine e_iconst (v := 4) d_T_hearAtPorts_5 (by decide) ?_
      refine e_icmpge (tgt := 87) d_T_hearAtPorts_6 (by decide) (fun h6 => absurd h6 (lp4f hj4)) (fun h6 => ?_)
      refine e_aload_n d_T_hearAtPorts_9 rfl rfl ?_
      refine g_T_177 (b := 12 + 16 * i) rfl d_T_hearAtPorts_10 hN.2.1 ?_
      refine e_iload_n d_T_hearAtPorts_13 rfl rfl ?_
      refine e_aald (b := 1 + 16 * (4 * i + j)) (C := _) d_T_hearAtPorts_14 ⟨by decide, by decide⟩ rfl (by rw [hN.2.2.1]; exact nI_in hj4 (by decide)) (by rw [nI_clamp (by omega)]; exact (hN.2.2.2 j hj4).1) ?_
      refine e_astore (lv' := [(4, .ref (1 + 16 * (4 * i + j))), (3, .int (nI j)), (2, .int (heN σ i j)), (0, .ref (5 + 16 * 0)), (1, .ref (2 + 16 * i))]) d_T_hearAtPorts_15 (by decide) rfl ?_
      refine e_aload d_T_hearAtPorts_17 rfl ?_
      refine e_callVd (v := some (.null)) (σ' := heS σ i j) (q := 1) (a := 4 * i + j) (As := []) (st := []) 0 0 d_T_hearAtPorts_19 cb_T_hearAtPorts_185 iv_P_findSender rfl ⟨by decide, rfl⟩ rfl (Nat.le_of_ble_eq_true rfl) (by decide) (by decide) ((by rw [hsd] at hct; exact hct)) ?_
      show Ex l G m_T_hearAtPorts (pmV G m_T_hearAtPorts (qd (.inr (some (.int (heN σ i 4)))) (heS σ i 4))) 22 [(4, .ref (1 + 16 * (4 * i + j))), (3, .int (nI j)), (2, .int (heN σ i j)), (0, .ref (5 + 16 * 0)), (1, .ref (2 + 16 * i))] [.null] (heS σ i j) 0 0
      refine e_astoreN (lv' := [(5, .null), (4, .ref (1 + 16 * (4 * i + j))), (3, .int (nI j)), (2, .int (heN σ i j)), (0, .ref (5 + 16 * 0)), (1, .ref (2 + 16 * i))]) d_T_hearAtPorts_22 (by decide) rfl ?_
      refine e_aloadN d_T_hearAtPorts_24 rfl ?_
      refine e_ifnullN (tgt := 32) d_T_hearAtPorts_26 (by decide) ?_
      refine e_aloadN d_T_hearAtPorts_32 rfl ?_
      refine e_ifnullN (tgt := 64) d_T_hearAtPorts_34 (by decide) ?_
      refine e_aload d_T_hearAtPorts_64 rfl ?_
      refine e_callVd (v := some (.int (growV (heS σ i j) (4 * i + j)))) (σ' := growS (heS σ i j) (4 * i + j)) (q := 1) (a := 4 * i + j) (As := []) (st := []) 0 0 d_T_hearAtPorts_66 cb_T_hearAtPorts_199 iv_P_growOlder rfl ⟨by decide, rfl⟩ rfl (Nat.le_of_ble_eq_true rfl) (by decide) (by decide) (ct_P_growOlder hl0) ?_
      show Ex l G m_T_hearAtPorts (pmV G m_T_hearAtPorts (qd (.inr (some (.int (heN σ i 4)))) (heS σ i 4))) 69 [(5, .null), (4, .ref (1 + 16 * (4 * i + j))), (3, .int (nI j)), (2, .int (heN σ i j)), (0, .ref (5 + 16 * 0)), (1, .ref (2 + 16 * i))] [.int (growV (heS σ i j) (4 * i + j))] (growS (heS σ i j) (4 * i + j)) 0 0
      refine e_istore (lv' := [(6, .int (growV (heS σ i j) (4 * i + j))), (5, .null), (4, .ref (1 + 16 * (4 * i + j))), (3, .int (nI j)), (2, .int (heN σ i j)), (0, .ref (5 + 16 * 0)), (1, .ref (2 + 16 * i))]) d_T_hearAtPorts_69 (by decide) rfl ?_
      refine e_iload d_T_hearAtPorts_71 rfl ?_
      refine e_ifeq (tgt := 81) d_T_hearAtPorts_73 (by decide) (fun h73 => ?_) (fun h73 => ?_)
      ·
        refine e_iinc (v := nI (j + 1)) (lv' := [(3, .int (nI (j + 1))), (6, .int (growV (heS σ i j) (4 * i + j))), (5, .null), (4, .ref (1 + 16 * (4 * i + j))), (2, .int (heN σ i j)), (0, .ref (5 + 16 * 0)), (1, .ref (2 + 16 * i))]) d_T_hearAtPorts_81 rfl (ofI1 j) (by decide) rfl ?_
        refine e_goto (tgt := 4) d_T_hearAtPorts_84 (by decide) ?_
        exact e_lv (lv' := [(3, .int (nI (j + 1))), (2, .int (heN σ i j)), (0, .ref (5 + 16 * 0)), (1, .ref (2 + 16 * i))]) ⟨rfl, rfl, rfl, rfl, trivial⟩ (by have h9 := ih (j + 1) (by omega); rw [show heS σ i (j + 1) = growS (heS σ i j) (4 * i + j) by simp [heS, hrS, flg, hsd, h73], show heN σ i (j + 1) = heN σ i j by simp [heN, hrN, hsd]] at h9; exact h9)
      ·
        refine e_aload_n d_T_hearAtPorts_76 rfl rfl ?_
        refine e_iconst (v := 1) d_T_hearAtPorts_77 (by decide) ?_
        refine p_T_35 (by first | exact Or.inl rfl | exact Or.inr rfl) rfl d_T_hearAtPorts_78 ?_
        refine e_iinc (v := nI (j + 1)) (lv' := [(3, .int (nI (j + 1))), (6, .int (growV (heS σ i j) (4 * i + j))), (5, .null), (4, .ref (1 + 16 * (4 * i + j))), (2, .int (heN σ i j)), (0, .ref (5 + 16 * 0)), (1, .ref (2 + 16 * i))]) d_T_hearAtPorts_81 rfl (ofI1 j) (by decide) rfl ?_
        refine e_goto (tgt := 4) d_T_hearAtPorts_84 (by decide) ?_
        exact e_lv (lv' := [(3, .int (nI (j + 1))), (2, .int (heN σ i j)), (0, .ref (5 + 16 * 0)), (1, .ref (2 + 16 * i))]) ⟨rfl, rfl, rfl, rfl, trivial⟩ (by have h9 := ih (j + 1) (by omega); rw [show heS σ i (j + 1) = sI (growS (heS σ i j) (4 * i + j)) 5 (0) 5 (1) by simp [heS, hrS, flg, hsd, h73], show heN σ i (j + 1) = heN σ i j by simp [heN, hrN, hsd]] at h9; exact h9)
    | some f =>
      have hf : f < 4 * n := sdP_lt hT' hp hsd
      refine e_iload_n d_T_hearAtPorts_4 rfl rfl ?_
      refine e_iconst (v := 4) d_T_hearAtPorts_5 (by decide) ?_
      refine e_icmpge (tgt := 87) d_T_hearAtPorts_6 (by decide) (fun h6 => absurd h6 (lp4f hj4)) (fun h6 => ?_)
      refine e_aload_n d_T_hearAtPorts_9 rfl rfl ?_
      refine g_T_177 (b := 12 + 16 * i) rfl d_T_hearAtPorts_10 hN.2.1 ?_
      refine e_iload_n d_T_hearAtPorts_13 rfl rfl ?_
      refine e_aald (b := 1 + 16 * (4 * i + j)) (C := _) d_T_hearAtPorts_14 ⟨by decide, by decide⟩ rfl (by rw [hN.2.2.1]; exact nI_in hj4 (by decide)) (by rw [nI_clamp (by omega)]; exact (hN.2.2.2 j hj4).1) ?_
      refine e_astore (lv' := [(4, .ref (1 + 16 * (4 * i + j))), (3, .int (nI j)), (2, .int (heN σ i j)), (0, .ref (5 + 16 * 0)), (1, .ref (2 + 16 * i))]) d_T_hearAtPorts_15 (by decide) rfl ?_
      refine e_aload d_T_hearAtPorts_17 rfl ?_
      refine e_callVd (v := some (.ref (1 + 16 * f))) (σ' := heS σ i j) (q := 1) (a := 4 * i + j) (As := []) (st := []) 0 0 d_T_hearAtPorts_19 cb_T_hearAtPorts_185 iv_P_findSender rfl ⟨by decide, rfl⟩ rfl (Nat.le_of_ble_eq_true rfl) (by decide) (by decide) ((by rw [hsd] at hct; exact hct)) ?_
      show Ex l G m_T_hearAtPorts (pmV G m_T_hearAtPorts (qd (.inr (some (.int (heN σ i 4)))) (heS σ i 4))) 22 [(4, .ref (1 + 16 * (4 * i + j))), (3, .int (nI j)), (2, .int (heN σ i j)), (0, .ref (5 + 16 * 0)), (1, .ref (2 + 16 * i))] [.ref (1 + 16 * f)] (heS σ i j) 0 0
      refine e_astore (lv' := [(5, .ref (1 + 16 * f)), (4, .ref (1 + 16 * (4 * i + j))), (3, .int (nI j)), (2, .int (heN σ i j)), (0, .ref (5 + 16 * 0)), (1, .ref (2 + 16 * i))]) d_T_hearAtPorts_22 (by decide) rfl ?_
      refine e_aload d_T_hearAtPorts_24 rfl ?_
      refine e_ifnull d_T_hearAtPorts_26 ?_
      refine e_iinc (v := (heN σ i j) + (1)) (lv' := [(2, .int ((heN σ i j) + (1))), (5, .ref (1 + 16 * f)), (4, .ref (1 + 16 * (4 * i + j))), (3, .int (nI j)), (0, .ref (5 + 16 * 0)), (1, .ref (2 + 16 * i))]) d_T_hearAtPorts_29 rfl rfl (by decide) rfl ?_
      refine e_aload d_T_hearAtPorts_32 rfl ?_
      refine e_ifnull d_T_hearAtPorts_34 ?_
      refine e_aload_n d_T_hearAtPorts_37 rfl rfl ?_
      refine e_aload d_T_hearAtPorts_38 rfl ?_
      refine g_T_189 (b := 0 + 16 * (tld f)) rfl d_T_hearAtPorts_40 (hT'.told hf) ?_
      refine e_callVd (v := some (.int (accV (heS σ i j) i (tld f)))) (σ' := heS σ i j) (q := 2) (a := i) (As := [.ref (0 + 16 * (tld f))]) (st := []) 0 0 d_T_hearAtPorts_43 cb_T_hearAtPorts_192 iv_N_accepts rfl ⟨by decide, rfl⟩ rfl (Nat.le_of_ble_eq_true rfl) (by decide) (by decide) (ct_N_accepts hl0 hN) ?_
      show Ex l G m_T_hearAtPorts (pmV G m_T_hearAtPorts (qd (.inr (some (.int (heN σ i 4)))) (heS σ i 4))) 46 [(2, .int ((heN σ i j) + (1))), (5, .ref (1 + 16 * f)), (4, .ref (1 + 16 * (4 * i + j))), (3, .int (nI j)), (0, .ref (5 + 16 * 0)), (1, .ref (2 + 16 * i))] [.int (accV (heS σ i j) i (tld f))] (heS σ i j) 0 0
      refine e_ifeq (tgt := 64) d_T_hearAtPorts_46 (by decide) (fun h46 => ?_) (fun h46 => ?_)
      ·
        refine e_aload d_T_hearAtPorts_64 rfl ?_
        refine e_callVd (v := some (.int (growV (heS σ i j) (4 * i + j)))) (σ' := growS (heS σ i j) (4 * i + j)) (q := 1) (a := 4 * i + j) (As := []) (st := []) 0 0 d_T_hearAtPorts_66 cb_T_hearAtPorts_199 iv_P_growOlder rfl ⟨by decide, rfl⟩ rfl (Nat.le_of_ble_eq_true rfl) (by decide) (by decide) (ct_P_growOlder hl0) ?_
        show Ex l G m_T_hearAtPorts (pmV G m_T_hearAtPorts (qd (.inr (some (.int (heN σ i 4)))) (heS σ i 4))) 69 [(2, .int ((heN σ i j) + (1))), (5, .ref (1 + 16 * f)), (4, .ref (1 + 16 * (4 * i + j))), (3, .int (nI j)), (0, .ref (5 + 16 * 0)), (1, .ref (2 + 16 * i))] [.int (growV (heS σ i j) (4 * i + j))] (growS (heS σ i j) (4 * i + j)) 0 0
        refine e_istore (lv' := [(6, .int (growV (heS σ i j) (4 * i + j))), (2, .int ((heN σ i j) + (1))), (5, .ref (1 + 16 * f)), (4, .ref (1 + 16 * (4 * i + j))), (3, .int (nI j)), (0, .ref (5 + 16 * 0)), (1, .ref (2 + 16 * i))]) d_T_hearAtPorts_69 (by decide) rfl ?_
        refine e_iload d_T_hearAtPorts_71 rfl ?_
        refine e_ifeq (tgt := 81) d_T_hearAtPorts_73 (by decide) (fun h73 => ?_) (fun h73 => ?_)
        ·
          refine e_iinc (v := nI (j + 1)) (lv' := [(3, .int (nI (j + 1))), (6, .int (growV (heS σ i j) (4 * i + j))), (2, .int ((heN σ i j) + (1))), (5, .ref (1 + 16 * f)), (4, .ref (1 + 16 * (4 * i + j))), (0, .ref (5 + 16 * 0)), (1, .ref (2 + 16 * i))]) d_T_hearAtPorts_81 rfl (ofI1 j) (by decide) rfl ?_
          refine e_goto (tgt := 4) d_T_hearAtPorts_84 (by decide) ?_
          exact e_lv (lv' := [(3, .int (nI (j + 1))), (2, .int ((heN σ i j) + (1))), (0, .ref (5 + 16 * 0)), (1, .ref (2 + 16 * i))]) ⟨rfl, rfl, rfl, rfl, trivial⟩ (by have h9 := ih (j + 1) (by omega); rw [show heS σ i (j + 1) = growS (heS σ i j) (4 * i + j) by simp [heS, hrS, flg, hsd, h46, h73], show heN σ i (j + 1) = (heN σ i j) + (1) by simp [heN, hrN, hsd]] at h9; exact h9)
        ·
          refine e_aload_n d_T_hearAtPorts_76 rfl rfl ?_
          refine e_iconst (v := 1) d_T_hearAtPorts_77 (by decide) ?_
          refine p_T_35 (by first | exact Or.inl rfl | exact Or.inr rfl) rfl d_T_hearAtPorts_78 ?_
          refine e_iinc (v := nI (j + 1)) (lv' := [(3, .int (nI (j + 1))), (6, .int (growV (heS σ i j) (4 * i + j))), (2, .int ((heN σ i j) + (1))), (5, .ref (1 + 16 * f)), (4, .ref (1 + 16 * (4 * i + j))), (0, .ref (5 + 16 * 0)), (1, .ref (2 + 16 * i))]) d_T_hearAtPorts_81 rfl (ofI1 j) (by decide) rfl ?_
          refine e_goto (tgt := 4) d_T_hearAtPorts_84 (by decide) ?_
          exact e_lv (lv' := [(3, .int (nI (j + 1))), (2, .int ((heN σ i j) + (1))), (0, .ref (5 + 16 * 0)), (1, .ref (2 + 16 * i))]) ⟨rfl, rfl, rfl, rfl, trivial⟩ (by have h9 := ih (j + 1) (by omega); rw [show heS σ i (j + 1) = sI (growS (heS σ i j) (4 * i + j)) 5 (0) 5 (1) by simp [heS, hrS, flg, hsd, h46, h73], show heN σ i (j + 1) = (heN σ i j) + (1) by simp [heN, hrN, hsd]] at h9; exact h9)
      ·
        refine e_aload d_T_hearAtPorts_49 rfl ?_
        refine e_aload d_T_hearAtPorts_51 rfl ?_
        refine g_T_189 (b := 0 + 16 * (tld f)) rfl d_T_hearAtPorts_53 (hT'.told hf) ?_
        refine e_callVd (v := some (.int (keepR (heS σ i j) (4 * i + j) (9 * i + 1 + 2 * j) (tld f)))) (σ' := keepS (heS σ i j) (4 * i + j) (9 * i + 1 + 2 * j) (tld f)) (q := 1) (a := 4 * i + j) (As := [.ref (0 + 16 * (tld f))]) (st := []) 0 0 d_T_hearAtPorts_56 cb_T_hearAtPorts_196 iv_P_keep rfl ⟨by decide, rfl⟩ rfl (Nat.le_of_ble_eq_true rfl) (by decide) (by decide) (ct_P_keep hl0 (hN.2.2.2 j hj4).2.1 (tld_ne hj4)) ?_
        show Ex l G m_T_hearAtPorts (pmV G m_T_hearAtPorts (qd (.inr (some (.int (heN σ i 4)))) (heS σ i 4))) 59 [(2, .int ((heN σ i j) + (1))), (5, .ref (1 + 16 * f)), (4, .ref (1 + 16 * (4 * i + j))), (3, .int (nI j)), (0, .ref (5 + 16 * 0)), (1, .ref (2 + 16 * i))] [.int (keepR (heS σ i j) (4 * i + j) (9 * i + 1 + 2 * j) (tld f))] (keepS (heS σ i j) (4 * i + j) (9 * i + 1 + 2 * j) (tld f)) 0 0
        refine e_istore (lv' := [(6, .int (keepR (heS σ i j) (4 * i + j) (9 * i + 1 + 2 * j) (tld f))), (2, .int ((heN σ i j) + (1))), (5, .ref (1 + 16 * f)), (4, .ref (1 + 16 * (4 * i + j))), (3, .int (nI j)), (0, .ref (5 + 16 * 0)), (1, .ref (2 + 16 * i))]) d_T_hearAtPorts_59 (by decide) rfl ?_
        refine e_goto (tgt := 71) d_T_hearAtPorts_61 (by decide) ?_
        refine e_iload d_T_hearAtPorts_71 rfl ?_
        refine e_ifeq (tgt := 81) d_T_hearAtPorts_73 (by decide) (fun h73 => ?_) (fun h73 => ?_)
        ·
          refine e_iinc (v := nI (j + 1)) (lv' := [(3, .int (nI (j + 1))), (6, .int (keepR (heS σ i j) (4 * i + j) (9 * i + 1 + 2 * j) (tld f))), (2, .int ((heN σ i j) + (1))), (5, .ref (1 + 16 * f)), (4, .ref (1 + 16 * (4 * i + j))), (0, .ref (5 + 16 * 0)), (1, .ref (2 + 16 * i))]) d_T_hearAtPorts_81 rfl (ofI1 j) (by decide) rfl ?_
          refine e_goto (tgt := 4) d_T_hearAtPorts_84 (by decide) ?_
          exact e_lv (lv' := [(3, .int (nI (j + 1))), (2, .int ((heN σ i j) + (1))), (0, .ref (5 + 16 * 0)), (1, .ref (2 + 16 * i))]) ⟨rfl, rfl, rfl, rfl, trivial⟩ (by have h9 := ih (j + 1) (by omega); rw [show heS σ i (j + 1) = keepS (heS σ i j) (4 * i + j) (9 * i + 1 + 2 * j) (tld f) by simp [heS, hrS, flg, hsd, h46, h73], show heN σ i (j + 1) = (heN σ i j) + (1) by simp [heN, hrN, hsd]] at h9; exact h9)
        ·
          refine e_aload_n d_T_hearAtPorts_76 rfl rfl ?_
          refine e_iconst (v := 1) d_T_hearAtPorts_77 (by decide) ?_
          refine p_T_35 (by first | exact Or.inl rfl | exact Or.inr rfl) rfl d_T_hearAtPorts_78 ?_
          refine e_iinc (v := nI (j + 1)) (lv' := [(3, .int (nI (j + 1))), (6, .int (keepR (heS σ i j) (4 * i + j) (9 * i + 1 + 2 * j) (tld f))), (2, .int ((heN σ i j) + (1))), (5, .ref (1 + 16 * f)), (4, .ref (1 + 16 * (4 * i + j))), (0, .ref (5 + 16 * 0)), (1, .ref (2 + 16 * i))]) d_T_hearAtPorts_81 rfl (ofI1 j) (by decide) rfl ?_
          refine e_goto (tgt := 4) d_T_hearAtPorts_84 (by decide) ?_
          exact e_lv (lv' := [(3, .int (nI (j + 1))), (2, .int ((heN σ i j) + (1))), (0, .ref (5 + 16 * 0)), (1, .ref (2 + 16 * i))]) ⟨rfl, rfl, rfl, rfl, trivial⟩ (by have h9 := ih (j + 1) (by omega); rw [show heS σ i (j + 1) = sI (keepS (heS σ i j) (4 * i + j) (9 * i + 1 + 2 * j) (tld f)) 5 (0) 5 (1) by simp [heS, hrS, flg, hsd, h46, h73], show heN σ i (j + 1) = (heN σ i j) + (1) by simp [heN, hrN, hsd]] at h9; exact h9)
set_option maxHeartbeats 4000000 in
theorem ct_T_hearAtPorts {l : Launch} (hl0 : l.stackTraces = false) {G : LG} {σ : HS} {n L : Nat} (hT : TS σ n L) {i : Nat} (hi : i < n)  : Ct l G m_T_hearAtPorts [.ref (5 + 16 * 0), .ref (2 + 16 * i)] (σ) (qd (.inr (some (.int (heN σ i 4)))) (heS σ i 4)) := by
  refine Ct.of hl0 rfl rfl (Nat.le_of_ble_eq_true rfl) ?_
  show Ex l G m_T_hearAtPorts (pmV G m_T_hearAtPorts (qd (.inr (some (.int (heN σ i 4)))) (heS σ i 4))) 0 [(0, .ref (5 + 16 * 0)), (1, .ref (2 + 16 * i))] [] (σ) 0 0
  refine e_iconst (v := 0) d_T_hearAtPorts_0 (by decide) ?_
  refine e_istore_n (lv' := [(2, .int (0)), (0, .ref (5 + 16 * 0)), (1, .ref (2 + 16 * i))]) d_T_hearAtPorts_1 rfl (by decide) rfl ?_
  refine e_iconst (v := 0) d_T_hearAtPorts_2 (by decide) ?_
  refine e_istore_n (lv' := [(3, .int (0)), (2, .int (0)), (0, .ref (5 + 16 * 0)), (1, .ref (2 + 16 * i))]) d_T_hearAtPorts_3 rfl (by decide) rfl ?_
  exact e_lv (lv' := [(3, .int (nI 0)), (2, .int (heN σ i 0)), (0, .ref (5 + 16 * 0)), (1, .ref (2 + 16 * i))]) ⟨rfl, rfl, rfl, rfl, trivial⟩ (lp_T_hearAtPorts hl0 hT hi 4 0 rfl)
