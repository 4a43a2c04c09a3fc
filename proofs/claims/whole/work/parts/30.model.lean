theorem nJ_add (a b : Nat) : nI a + nI b = nI (a + b) := by unfold nI; rw [Int32.ofNat_add]
theorem nJ_mul (a b : Nat) : nI a * nI b = nI (a * b) := by unfold nI; rw [Int32.ofNat_mul]
/-- the model's arrays: place of the field, kind, number, length -/
def mT : List (Nat × Nat × Nat × Nat) := [(2, 7, 0, 10), (3, 7, 1, 10), (4, 7, 2, 10), (5, 7, 3, 10), (6, 9, 0, 10), (7, 9, 1, 10), (9, 7, 4, 32), (10, 7, 5, 32), (11, 8, 0, 16), (12, 7, 6, 40), (13, 7, 7, 40), (14, 8, 1, 40), (15, 7, 8, 40), (16, 7, 9, 320), (17, 8, 2, 40), (18, 7, 10, 320), (19, 8, 3, 40), (20, 7, 11, 320), (21, 7, 12, 40), (22, 7, 13, 10), (23, 7, 14, 8), (24, 7, 15, 8)]
def MS (σ : HS) : Prop := ∀ x ∈ mT, hR σ 6 0 x.1 = some (x.2.1 + 16 * x.2.2.1) ∧ hl σ x.2.1 x.2.2.1 = x.2.2.2
theorem MS.a_identities {σ : HS} (h : MS σ) : hR σ 6 0 2 = some (7 + 16 * 0) := (h (2, 7, 0, 10) (by decide)).1
theorem MS.l_identities {σ : HS} (h : MS σ) : hl σ 7 0 = 10 := (h (2, 7, 0, 10) (by decide)).2
theorem MS.a_priorities {σ : HS} (h : MS σ) : hR σ 6 0 3 = some (7 + 16 * 1) := (h (3, 7, 1, 10) (by decide)).1
theorem MS.l_priorities {σ : HS} (h : MS σ) : hl σ 7 1 = 10 := (h (3, 7, 1, 10) (by decide)).2
theorem MS.a_classes {σ : HS} (h : MS σ) : hR σ 6 0 4 = some (7 + 16 * 2) := (h (4, 7, 2, 10) (by decide)).1
theorem MS.l_classes {σ : HS} (h : MS σ) : hl σ 7 2 = 10 := (h (4, 7, 2, 10) (by decide)).2
theorem MS.a_lessers {σ : HS} (h : MS σ) : hR σ 6 0 5 = some (7 + 16 * 3) := (h (5, 7, 3, 10) (by decide)).1
theorem MS.l_lessers {σ : HS} (h : MS σ) : hl σ 7 3 = 10 := (h (5, 7, 3, 10) (by decide)).2
theorem MS.a_offsets {σ : HS} (h : MS σ) : hR σ 6 0 6 = some (9 + 16 * 0) := (h (6, 9, 0, 10) (by decide)).1
theorem MS.l_offsets {σ : HS} (h : MS σ) : hl σ 9 0 = 10 := (h (6, 9, 0, 10) (by decide)).2
theorem MS.a_delays {σ : HS} (h : MS σ) : hR σ 6 0 7 = some (9 + 16 * 1) := (h (7, 9, 1, 10) (by decide)).1
theorem MS.l_delays {σ : HS} (h : MS σ) : hl σ 9 1 = 10 := (h (7, 9, 1, 10) (by decide)).2
theorem MS.a_ends {σ : HS} (h : MS σ) : hR σ 6 0 9 = some (7 + 16 * 4) := (h (9, 7, 4, 32) (by decide)).1
theorem MS.l_ends {σ : HS} (h : MS σ) : hl σ 7 4 = 32 := (h (9, 7, 4, 32) (by decide)).2
theorem MS.a_ways {σ : HS} (h : MS σ) : hR σ 6 0 10 = some (7 + 16 * 5) := (h (10, 7, 5, 32) (by decide)).1
theorem MS.l_ways {σ : HS} (h : MS σ) : hl σ 7 5 = 32 := (h (10, 7, 5, 32) (by decide)).2
theorem MS.a_isUp {σ : HS} (h : MS σ) : hR σ 6 0 11 = some (8 + 16 * 0) := (h (11, 8, 0, 16) (by decide)).1
theorem MS.l_isUp {σ : HS} (h : MS σ) : hl σ 8 0 = 16 := (h (11, 8, 0, 16) (by decide)).2
theorem MS.a_linkOf {σ : HS} (h : MS σ) : hR σ 6 0 12 = some (7 + 16 * 6) := (h (12, 7, 6, 40) (by decide)).1
theorem MS.l_linkOf {σ : HS} (h : MS σ) : hl σ 7 6 = 40 := (h (12, 7, 6, 40) (by decide)).2
theorem MS.a_states {σ : HS} (h : MS σ) : hR σ 6 0 13 = some (7 + 16 * 7) := (h (13, 7, 7, 40) (by decide)).1
theorem MS.l_states {σ : HS} (h : MS σ) : hl σ 7 7 = 40 := (h (13, 7, 7, 40) (by decide)).2
theorem MS.a_keeps {σ : HS} (h : MS σ) : hR σ 6 0 14 = some (8 + 16 * 1) := (h (14, 8, 1, 40) (by decide)).1
theorem MS.l_keeps {σ : HS} (h : MS σ) : hl σ 8 1 = 40 := (h (14, 8, 1, 40) (by decide)).2
theorem MS.a_ages {σ : HS} (h : MS σ) : hR σ 6 0 15 = some (7 + 16 * 8) := (h (15, 7, 8, 40) (by decide)).1
theorem MS.l_ages {σ : HS} (h : MS σ) : hl σ 7 8 = 40 := (h (15, 7, 8, 40) (by decide)).2
theorem MS.a_data {σ : HS} (h : MS σ) : hR σ 6 0 16 = some (7 + 16 * 9) := (h (16, 7, 9, 320) (by decide)).1
theorem MS.l_data {σ : HS} (h : MS σ) : hl σ 7 9 = 320 := (h (16, 7, 9, 320) (by decide)).2
theorem MS.a_comes {σ : HS} (h : MS σ) : hR σ 6 0 17 = some (8 + 16 * 2) := (h (17, 8, 2, 40) (by decide)).1
theorem MS.l_comes {σ : HS} (h : MS σ) : hl σ 8 2 = 40 := (h (17, 8, 2, 40) (by decide)).2
theorem MS.a_coming {σ : HS} (h : MS σ) : hR σ 6 0 18 = some (7 + 16 * 10) := (h (18, 7, 10, 320) (by decide)).1
theorem MS.l_coming {σ : HS} (h : MS σ) : hl σ 7 10 = 320 := (h (18, 7, 10, 320) (by decide)).2
theorem MS.a_kept {σ : HS} (h : MS σ) : hR σ 6 0 19 = some (8 + 16 * 3) := (h (19, 8, 3, 40) (by decide)).1
theorem MS.l_kept {σ : HS} (h : MS σ) : hl σ 8 3 = 40 := (h (19, 8, 3, 40) (by decide)).2
theorem MS.a_was {σ : HS} (h : MS σ) : hR σ 6 0 20 = some (7 + 16 * 11) := (h (20, 7, 11, 320) (by decide)).1
theorem MS.l_was {σ : HS} (h : MS σ) : hl σ 7 11 = 320 := (h (20, 7, 11, 320) (by decide)).2
theorem MS.a_wasState {σ : HS} (h : MS σ) : hR σ 6 0 21 = some (7 + 16 * 12) := (h (21, 7, 12, 40) (by decide)).1
theorem MS.l_wasState {σ : HS} (h : MS σ) : hl σ 7 12 = 40 := (h (21, 7, 12, 40) (by decide)).2
theorem MS.a_bests {σ : HS} (h : MS σ) : hR σ 6 0 22 = some (7 + 16 * 13) := (h (22, 7, 13, 10) (by decide)).1
theorem MS.l_bests {σ : HS} (h : MS σ) : hl σ 7 13 = 10 := (h (22, 7, 13, 10) (by decide)).2
theorem MS.a_one {σ : HS} (h : MS σ) : hR σ 6 0 23 = some (7 + 16 * 14) := (h (23, 7, 14, 8) (by decide)).1
theorem MS.l_one {σ : HS} (h : MS σ) : hl σ 7 14 = 8 := (h (23, 7, 14, 8) (by decide)).2
theorem MS.a_other {σ : HS} (h : MS σ) : hR σ 6 0 24 = some (7 + 16 * 15) := (h (24, 7, 15, 8) (by decide)).1
theorem MS.l_other {σ : HS} (h : MS σ) : hl σ 7 15 = 8 := (h (24, 7, 15, 8) (by decide)).2
/-- an int or boolean array written whole -/
def sA (σ : HS) (q a : Nat) (f : Nat → Int32) : HS := (σ.1, σ.2.1, fun q' a' k => if q' = q ∧ a' = a then f k else σ.2.2.1 q' a' k, σ.2.2.2)
theorem I_sA {σ : HS} {q a : Nat} {f : Nat → Int32} {q' a' k : Nat} : hI (sA σ q a f) q' a' k = if q' = q ∧ a' = a then f k else hI σ q' a' k := rfl
theorem sA_self {σ : HS} {q a : Nat} : sA σ q a (hI σ q a) = σ := by
  refine hs_ext rfl rfl (fun q' a' k => ?_) (fun _ _ _ => rfl) (fun _ _ _ => rfl)
  rw [I_sA]
  split
  · rename_i h; rw [h.1, h.2]
  · rfl
def upI (f : Nat → Int32) (k : Nat) (v : Int32) : Nat → Int32 := fun j => if j = k then v else f j
theorem sA_sI {σ : HS} {q a k : Nat} {f : Nat → Int32} {v : Int32} : sI (sA σ q a f) q a k v = sA σ q a (upI f k v) := by
  refine hs_ext rfl rfl (fun q' a' j => ?_) (fun _ _ _ => rfl) (fun _ _ _ => rfl)
  rw [I_sI, I_sA, I_sA]
  by_cases h : q' = q ∧ a' = a
  · by_cases h2 : j = k
    · simp [h, h2, upI]
    · simp [h, h2, upI]
  · have h' : ¬ (q' = q ∧ a' = a ∧ j = k) := fun z => h ⟨z.1, z.2.1⟩
    simp [h, h']
theorem sA_eq {σ : HS} {q a : Nat} {f g : Nat → Int32} (h : ∀ k, f k = g k) : sA σ q a f = sA σ q a g := by rw [funext h]
/-- the first n places of an array are taken from f -/
def cpy (f : Nat → Int32) (n : Nat) (g : Nat → Int32) : Nat → Int32 := fun k => if k < n then f k else g k
theorem cpy_0 {f g : Nat → Int32} : cpy f 0 g = g := by funext k; simp [cpy]
theorem cpy_s {f g : Nat → Int32} {n : Nat} : upI (cpy f n g) n (f n) = cpy f (n + 1) g := by
  funext k
  unfold upI cpy
  by_cases h : k = n
  · subst h; simp
  · by_cases h2 : k < n
    · simp [h, h2, show k < n + 1 by omega]
    · simp [h, h2, show ¬ k < n + 1 by omega]
theorem lp8f : ∀ k, k < 8 → ¬ (8 : Int32) ≤ nI k := by decide +kernel
theorem lp8t : (8 : Int32) ≤ nI 8 := by decide +kernel
set_option maxHeartbeats 4000000 in
set_option maxRecDepth 100000 in
theorem ct_M_thrown {l : Launch} (hl0 : l.stackTraces = false) {G : LG} {σ : HS}   : Ct l G m_M_thrown [.ref (6 + 16 * 0)] (σ) (qd (.inr (some (.int (hI σ 6 0 0)))) σ) := by
  refine Ct.of hl0 rfl rfl (Nat.le_of_ble_eq_true rfl) ?_
  show Ex l G m_M_thrown (pmV G m_M_thrown (qd (.inr (some (.int (hI σ 6 0 0)))) σ)) 0 [(0, .ref (6 + 16 * 0))] [] (σ) 0 0
  refine e_aload_n d_M_thrown_0 rfl rfl ?_
  refine g_M_78 rfl d_M_thrown_1 ?_
  exact e_iret d_M_thrown_4 rfl ⟨rfl, rfl⟩
def bsV (x : Int32) : Int32 := if x < 0 then 0 else if 255 < x then 0 else 1
def nnV (σ : HS) (v : Int32) : Int32 := if v < 0 then 1 else if hI σ 6 0 1 ≤ v then 1 else 0
def ndV (m x : Int32) : Int32 := if x < 0 then 1 else if m < x then 1 else 0
set_option maxHeartbeats 4000000 in
set_option maxRecDepth 100000 in
theorem ct_M_byteSized {l : Launch} (hl0 : l.stackTraces = false) {G : LG} {σ : HS} {x : Int32}  : Ct l G m_M_byteSized [.ref (6 + 16 * 0), .int (x)] (σ) (qd (.inr (some (.int (bsV x)))) σ) := by
  refine Ct.of hl0 rfl rfl (Nat.le_of_ble_eq_true rfl) ?_
  show Ex l G m_M_byteSized (pmV G m_M_byteSized (qd (.inr (some (.int (bsV x)))) σ)) 0 [(0, .ref (6 + 16 * 0)), (1, .int (x))] [] (σ) 0 0
  refine e_iload_n d_M_byteSized_0 rfl rfl ?_
  refine e_iflt (tgt := 15) d_M_byteSized_1 (by decide) (fun h1 => ?_) (fun h1 => ?_)
  ·
    refine e_iconst (v := 0) d_M_byteSized_15 (by decide) ?_
    exact e_zret d_M_byteSized_16 rfl (by first | exact Or.inl rfl | exact Or.inr rfl) ⟨(by simp [bsV, h1]), rfl⟩
  ·
    refine e_iload_n d_M_byteSized_4 rfl rfl ?_
    refine e_sipush (v := 255) d_M_byteSized_5 (by decide) ?_
    refine e_icmpgt (tgt := 15) d_M_byteSized_8 (by decide) (fun h8 => ?_) (fun h8 => ?_)
    ·
      refine e_iconst (v := 0) d_M_byteSized_15 (by decide) ?_
      exact e_zret d_M_byteSized_16 rfl (by first | exact Or.inl rfl | exact Or.inr rfl) ⟨(by simp [bsV, h1, h8]), rfl⟩
    ·
      refine e_iconst (v := 1) d_M_byteSized_11 (by decide) ?_
      refine e_goto (tgt := 16) d_M_byteSized_12 (by decide) ?_
      exact e_zret d_M_byteSized_16 rfl (by first | exact Or.inl rfl | exact Or.inr rfl) ⟨(by simp [bsV, h1, h8]), rfl⟩
set_option maxHeartbeats 4000000 in
set_option maxRecDepth 100000 in
theorem ct_M_noNode {l : Launch} (hl0 : l.stackTraces = false) {G : LG} {σ : HS} {x : Int32}  : Ct l G m_M_noNode [.ref (6 + 16 * 0), .int (x)] (σ) (qd (.inr (some (.int (nnV σ x)))) σ) := by
  refine Ct.of hl0 rfl rfl (Nat.le_of_ble_eq_true rfl) ?_
  show Ex l G m_M_noNode (pmV G m_M_noNode (qd (.inr (some (.int (nnV σ x)))) σ)) 0 [(0, .ref (6 + 16 * 0)), (1, .int (x))] [] (σ) 0 0
  refine e_iload_n d_M_noNode_0 rfl rfl ?_
  refine e_iflt (tgt := 12) d_M_noNode_1 (by decide) (fun h1 => ?_) (fun h1 => ?_)
  ·
    refine e_iconst (v := 1) d_M_noNode_12 (by decide) ?_
    refine e_goto (tgt := 17) d_M_noNode_13 (by decide) ?_
    exact e_zret d_M_noNode_17 rfl (by first | exact Or.inl rfl | exact Or.inr rfl) ⟨(by simp [nnV, h1]), rfl⟩
  ·
    refine e_iload_n d_M_noNode_4 rfl rfl ?_
    refine e_aload_n d_M_noNode_5 rfl rfl ?_
    refine g_M_100 rfl d_M_noNode_6 ?_
    refine e_icmplt (tgt := 16) d_M_noNode_9 (by decide) (fun h9 => ?_) (fun h9 => ?_)
    ·
      refine e_iconst (v := 0) d_M_noNode_16 (by decide) ?_
      exact e_zret d_M_noNode_17 rfl (by first | exact Or.inl rfl | exact Or.inr rfl) ⟨(by simp [nnV, h1, h9]), rfl⟩
    ·
      refine e_iconst (v := 1) d_M_noNode_12 (by decide) ?_
      refine e_goto (tgt := 17) d_M_noNode_13 (by decide) ?_
      exact e_zret d_M_noNode_17 rfl (by first | exact Or.inl rfl | exact Or.inr rfl) ⟨(by simp [nnV, h1, h9]), rfl⟩
set_option maxHeartbeats 4000000 in
set_option maxRecDepth 100000 in
theorem ct_M_noDelay {l : Launch} (hl0 : l.stackTraces = false) {G : LG} {σ : HS} {x : Int32}  : Ct l G m_M_noDelay [.ref (6 + 16 * 0), .int (x)] (σ) (qd (.inr (some (.int (ndV 1000000000 x)))) σ) := by
  refine Ct.of hl0 rfl rfl (Nat.le_of_ble_eq_true rfl) ?_
  show Ex l G m_M_noDelay (pmV G m_M_noDelay (qd (.inr (some (.int (ndV 1000000000 x)))) σ)) 0 [(0, .ref (6 + 16 * 0)), (1, .int (x))] [] (σ) 0 0
  refine e_iload_n d_M_noDelay_0 rfl rfl ?_
  refine e_iflt (tgt := 10) d_M_noDelay_1 (by decide) (fun h1 => ?_) (fun h1 => ?_)
  ·
    refine e_iconst (v := 1) d_M_noDelay_10 (by decide) ?_
    refine e_goto (tgt := 15) d_M_noDelay_11 (by decide) ?_
    exact e_zret d_M_noDelay_15 rfl (by first | exact Or.inl rfl | exact Or.inr rfl) ⟨(by simp [ndV, h1]), rfl⟩
  ·
    refine e_iload_n d_M_noDelay_4 rfl rfl ?_
    refine e_ldc (v := 1000000000) d_M_noDelay_5 kc_M_118 ?_
    refine e_icmple (tgt := 14) d_M_noDelay_7 (by decide) (fun h7 => ?_) (fun h7 => ?_)
    ·
      refine e_iconst (v := 0) d_M_noDelay_14 (by decide) ?_
      exact e_zret d_M_noDelay_15 rfl (by first | exact Or.inl rfl | exact Or.inr rfl) ⟨(by simp [ndV, h1, h7]), rfl⟩
    ·
      refine e_iconst (v := 1) d_M_noDelay_10 (by decide) ?_
      refine e_goto (tgt := 15) d_M_noDelay_11 (by decide) ?_
      exact e_zret d_M_noDelay_15 rfl (by first | exact Or.inl rfl | exact Or.inr rfl) ⟨(by simp [ndV, h1, h7]), rfl⟩
set_option maxHeartbeats 4000000 in
set_option maxRecDepth 100000 in
theorem ct_M_noRest {l : Launch} (hl0 : l.stackTraces = false) {G : LG} {σ : HS} {x : Int32}  : Ct l G m_M_noRest [.ref (6 + 16 * 0), .int (x)] (σ) (qd (.inr (some (.int (ndV 1000000 x)))) σ) := by
  refine Ct.of hl0 rfl rfl (Nat.le_of_ble_eq_true rfl) ?_
  show Ex l G m_M_noRest (pmV G m_M_noRest (qd (.inr (some (.int (ndV 1000000 x)))) σ)) 0 [(0, .ref (6 + 16 * 0)), (1, .int (x))] [] (σ) 0 0
  refine e_iload_n d_M_noRest_0 rfl rfl ?_
  refine e_iflt (tgt := 10) d_M_noRest_1 (by decide) (fun h1 => ?_) (fun h1 => ?_)
  ·
    refine e_iconst (v := 1) d_M_noRest_10 (by decide) ?_
    refine e_goto (tgt := 15) d_M_noRest_11 (by decide) ?_
    exact e_zret d_M_noRest_15 rfl (by first | exact Or.inl rfl | exact Or.inr rfl) ⟨(by simp [ndV, h1]), rfl⟩
  ·
    refine e_iload_n d_M_noRest_4 rfl rfl ?_
    refine e_ldc (v := 1000000) d_M_noRest_5 kc_M_177 ?_
    refine e_icmple (tgt := 14) d_M_noRest_7 (by decide) (fun h7 => ?_) (fun h7 => ?_)
    ·
      refine e_iconst (v := 0) d_M_noRest_14 (by decide) ?_
      exact e_zret d_M_noRest_15 rfl (by first | exact Or.inl rfl | exact Or.inr rfl) ⟨(by simp [ndV, h1, h7]), rfl⟩
    ·
      refine e_iconst (v := 1) d_M_noRest_10 (by decide) ?_
      refine e_goto (tgt := 15) d_M_noRest_11 (by decide) ?_
      exact e_zret d_M_noRest_15 rfl (by first | exact Or.inl rfl | exact Or.inr rfl) ⟨(by simp [ndV, h1, h7]), rfl⟩
set_option maxHeartbeats 4000000 in
theorem lp_M_keptOne {l : Launch} (hl0 : l.stackTraces = false) {G : LG} {σ : HS} {p : Nat} (hM : MS σ) (hp : p < 40) : ∀ m j, j + m = 8 → Ex l G m_M_keptOne (pmV G m_M_keptOne (qd (.inr none) (sA σ 7 14 (cpy (fun k => hI σ 7 9 (8 * p + k)) 8 (hI σ 7 14))))) 2 [(2, .int (nI j)), (0, .ref (6 + 16 * 0)), (1, .int (nI p))] [] (sA σ 7 14 (cpy (fun k => hI σ 7 9 (8 * p + k)) j (hI σ 7 14))) 0 0 := by
  intro m
  induction m with
  | zero =>
    intro j hj
    obtain rfl : j = 8 := by omega
    refine e_iload_n d_M_keptOne_2 rfl rfl ?_
    refine e_bipush (v := 8) d_M_keptOne_3 (by decide) ?_
    refine e_icmpge (tgt := 31) d_M_keptOne_5 (by decide) (fun h5 => ?_) (fun h5 => absurd lp8t h5)
    exact e_vret d_M_keptOne_31 rfl ⟨rfl, rfl⟩
  | succ m ih =>
    intro j hj
    have hj8 : j < 8 := by omega
    refine e_iload_n d_M_keptOne_2 rfl rfl ?_
    refine e_bipush (v := 8) d_M_keptOne_3 (by decide) ?_
    refine e_icmpge (tgt := 31) d_M_keptOne_5 (by decide) (fun h5 => absurd h5 (lp8f j hj8)) (fun h5 => ?_)
    refine e_aload_n d_M_keptOne_8 rfl rfl ?_
    refine g_M_72 (b := 7 + 16 * 14) rfl d_M_keptOne_9 hM.a_one ?_
    refine e_iload_n d_M_keptOne_12 rfl rfl ?_
    refine e_aload_n d_M_keptOne_13 rfl rfl ?_
    refine g_M_51 (b := 7 + 16 * 9) rfl d_M_keptOne_14 hM.a_data ?_
    refine e_bipush (v := 8) d_M_keptOne_17 (by decide) ?_
    refine e_iload_n d_M_keptOne_19 rfl rfl ?_
    refine e_imul d_M_keptOne_20 ?_
    rw [show (8) * (nI p) = nI (8 * p) from by rw [show (8 : Int32) = nI 8 from by decide +kernel, nJ_mul]]
    refine e_iload_n d_M_keptOne_21 rfl rfl ?_
    refine e_iadd d_M_keptOne_22 ?_
    rw [show (nI (8 * p)) + (nI j) = nI ((8 * p) + j) from by rw [nJ_add]]
    refine e_iald d_M_keptOne_23 (show vp_in (nI ((8 * p) + j)) (hl σ 7 9) from by rw [hM.l_data]; exact nI_in (by omega) (by decide)) ?_
    rw [nI_clamp (show (8 * p) + j < 2 ^ 31 by omega)]
    rw [show hI (sA σ 7 14 (cpy (fun k => hI σ 7 9 (8 * p + k)) j (hI σ 7 14))) 7 (9) ((8 * p) + j) = (fun k => hI σ 7 9 (8 * p + k)) j from by rw [I_sA, if_neg (by omega)]]
    refine e_iast d_M_keptOne_24 (show vp_in (nI j) (hl σ 7 14) from by rw [hM.l_one]; exact nI_in (by omega) (by decide)) ?_
    rw [nI_clamp (show j < 2 ^ 31 by omega)]
    rw [sA_sI, cpy_s]
    refine e_iinc (v := nI (j + 1)) (lv' := [(2, .int (nI (j + 1))), (0, .ref (6 + 16 * 0)), (1, .int (nI p))]) d_M_keptOne_25 rfl (ofI1 j) (by decide) rfl ?_
    refine e_goto (tgt := 2) d_M_keptOne_28 (by decide) ?_
    exact ih (j + 1) (by omega)
set_option maxHeartbeats 4000000 in
set_option maxRecDepth 100000 in
theorem ct_M_keptOne {l : Launch} (hl0 : l.stackTraces = false) {G : LG} {σ : HS} {p : Nat} (hM : MS σ) (hp : p < 40) : Ct l G m_M_keptOne [.ref (6 + 16 * 0), .int (nI p)] (σ) (qd (.inr none) (sA σ 7 14 (cpy (fun k => hI σ 7 9 (8 * p + k)) 8 (hI σ 7 14)))) := by
  refine Ct.of hl0 rfl rfl (Nat.le_of_ble_eq_true rfl) ?_
  show Ex l G m_M_keptOne (pmV G m_M_keptOne (qd (.inr none) (sA σ 7 14 (cpy (fun k => hI σ 7 9 (8 * p + k)) 8 (hI σ 7 14))))) 0 [(0, .ref (6 + 16 * 0)), (1, .int (nI p))] [] (σ) 0 0
  refine e_iconst (v := 0) d_M_keptOne_0 (by decide) ?_
  refine e_istore_n (lv' := [(2, .int (0)), (0, .ref (6 + 16 * 0)), (1, .int (nI p))]) d_M_keptOne_1 rfl (by decide) rfl ?_
  exact e_lv (lv' := [(2, .int (nI 0)), (0, .ref (6 + 16 * 0)), (1, .int (nI p))]) ⟨rfl, rfl, rfl, trivial⟩ (by have h := lp_M_keptOne (l := l) (G := G) hl0 hM hp 8 0 rfl; rw [cpy_0, sA_self] at h; exact h)
set_option maxHeartbeats 4000000 in
theorem lp_M_turnRound {l : Launch} (hl0 : l.stackTraces = false) {G : LG} {σ : HS} (hM : MS σ) : ∀ m j, j + m = 8 → Ex l G m_M_turnRound (pmV G m_M_turnRound (qd (.inr none) (sA σ 7 15 (cpy (hI σ 7 14) 8 (hI σ 7 15))))) 2 [(1, .int (nI j)), (0, .ref (6 + 16 * 0))] [] (sA σ 7 15 (cpy (hI σ 7 14) j (hI σ 7 15))) 0 0 := by
  intro m
  induction m with
  | zero =>
    intro j hj
    obtain rfl : j = 8 := by omega
    refine e_iload_n d_M_turnRound_2 rfl rfl ?_
    refine e_bipush (v := 8) d_M_turnRound_3 (by decide) ?_
    refine e_icmpge (tgt := 26) d_M_turnRound_5 (by decide) (fun h5 => ?_) (fun h5 => absurd lp8t h5)
    exact e_vret d_M_turnRound_26 rfl ⟨rfl, rfl⟩
  | succ m ih =>
    intro j hj
    have hj8 : j < 8 := by omega
    refine e_iload_n d_M_turnRound_2 rfl rfl ?_
    refine e_bipush (v := 8) d_M_turnRound_3 (by decide) ?_
    refine e_icmpge (tgt := 26) d_M_turnRound_5 (by decide) (fun h5 => absurd h5 (lp8f j hj8)) (fun h5 => ?_)
    refine e_aload_n d_M_turnRound_8 rfl rfl ?_
    refine g_M_75 (b := 7 + 16 * 15) rfl d_M_turnRound_9 hM.a_other ?_
    refine e_iload_n d_M_turnRound_12 rfl rfl ?_
    refine e_aload_n d_M_turnRound_13 rfl rfl ?_
    refine g_M_72 (b := 7 + 16 * 14) rfl d_M_turnRound_14 hM.a_one ?_
    refine e_iload_n d_M_turnRound_17 rfl rfl ?_
    refine e_iald d_M_turnRound_18 (show vp_in (nI j) (hl σ 7 14) from by rw [hM.l_one]; exact nI_in (by omega) (by decide)) ?_
    rw [nI_clamp (show j < 2 ^ 31 by omega)]
    rw [show hI (sA σ 7 15 (cpy (hI σ 7 14) j (hI σ 7 15))) 7 (14) (j) = (hI σ 7 14) j from by rw [I_sA, if_neg (by omega)]]
    refine e_iast d_M_turnRound_19 (show vp_in (nI j) (hl σ 7 15) from by rw [hM.l_other]; exact nI_in (by omega) (by decide)) ?_
    rw [nI_clamp (show j < 2 ^ 31 by omega)]
    rw [sA_sI, cpy_s]
    refine e_iinc (v := nI (j + 1)) (lv' := [(1, .int (nI (j + 1))), (0, .ref (6 + 16 * 0))]) d_M_turnRound_20 rfl (ofI1 j) (by decide) rfl ?_
    refine e_goto (tgt := 2) d_M_turnRound_23 (by decide) ?_
    exact ih (j + 1) (by omega)
set_option maxHeartbeats 4000000 in
set_option maxRecDepth 100000 in
theorem ct_M_turnRound {l : Launch} (hl0 : l.stackTraces = false) {G : LG} {σ : HS} (hM : MS σ)  : Ct l G m_M_turnRound [.ref (6 + 16 * 0)] (σ) (qd (.inr none) (sA σ 7 15 (cpy (hI σ 7 14) 8 (hI σ 7 15)))) := by
  refine Ct.of hl0 rfl rfl (Nat.le_of_ble_eq_true rfl) ?_
  show Ex l G m_M_turnRound (pmV G m_M_turnRound (qd (.inr none) (sA σ 7 15 (cpy (hI σ 7 14) 8 (hI σ 7 15))))) 0 [(0, .ref (6 + 16 * 0))] [] (σ) 0 0
  refine e_iconst (v := 0) d_M_turnRound_0 (by decide) ?_
  refine e_istore_n (lv' := [(1, .int (0)), (0, .ref (6 + 16 * 0))]) d_M_turnRound_1 rfl (by decide) rfl ?_
  exact e_lv (lv' := [(1, .int (nI 0)), (0, .ref (6 + 16 * 0))]) ⟨rfl, rfl, trivial⟩ (by have h := lp_M_turnRound (l := l) (G := G) hl0 hM 8 0 rfl; rw [cpy_0, sA_self] at h; exact h)
set_option maxHeartbeats 4000000 in
theorem lp_M_better {l : Launch} (hl0 : l.stackTraces = false) {G : LG} {σ : HS} (hM : MS σ) : ∀ m j, j + m = 8 → Ex l G m_M_better (pmV G m_M_better (qd (.inr (some (.int (lexI (hI σ 7 14) (hI σ 7 15) j m)))) σ)) 2 [(1, .int (nI j)), (0, .ref (6 + 16 * 0))] [] (σ) 0 0 := by
  intro m
  induction m with
  | zero =>
    intro j hj
    obtain rfl : j = 8 := by omega
    refine e_iload_n d_M_better_2 rfl rfl ?_
    refine e_bipush (v := 8) d_M_better_3 (by decide) ?_
    refine e_icmpge (tgt := 50) d_M_better_5 (by decide) (fun h5 => ?_) (fun h5 => absurd lp8t h5)
    refine e_iconst (v := 0) d_M_better_50 (by decide) ?_
    exact e_zret d_M_better_51 rfl (by first | exact Or.inl rfl | exact Or.inr rfl) ⟨rfl, rfl⟩
  | succ m ih =>
    intro j hj
    have hj8 : j < 8 := by omega
    refine e_iload_n d_M_better_2 rfl rfl ?_
    refine e_bipush (v := 8) d_M_better_3 (by decide) ?_
    refine e_icmpge (tgt := 50) d_M_better_5 (by decide) (fun h5 => absurd h5 (lp8f j hj8)) (fun h5 => ?_)
    refine e_aload_n d_M_better_8 rfl rfl ?_
    refine g_M_72 (b := 7 + 16 * 14) rfl d_M_better_9 hM.a_one ?_
    refine e_iload_n d_M_better_12 rfl rfl ?_
    refine e_iald d_M_better_13 (show vp_in (nI j) (hl σ 7 14) from by rw [hM.l_one]; exact nI_in (by omega) (by decide)) ?_
    rw [nI_clamp (show j < 2 ^ 31 by omega)]
    refine e_aload_n d_M_better_14 rfl rfl ?_
    refine g_M_75 (b := 7 + 16 * 15) rfl d_M_better_15 hM.a_other ?_
    refine e_iload_n d_M_better_18 rfl rfl ?_
    refine e_iald d_M_better_19 (show vp_in (nI j) (hl σ 7 15) from by rw [hM.l_other]; exact nI_in (by omega) (by decide)) ?_
    rw [nI_clamp (show j < 2 ^ 31 by omega)]
    refine e_icmpeq (tgt := 44) d_M_better_20 (by decide) (fun h20 => ?_) (fun h20 => ?_)
    ·
      refine e_iinc (v := nI (j + 1)) (lv' := [(1, .int (nI (j + 1))), (0, .ref (6 + 16 * 0))]) d_M_better_44 rfl (ofI1 j) (by decide) rfl ?_
      refine e_goto (tgt := 2) d_M_better_47 (by decide) ?_
      rw [show lexI (hI σ 7 14) (hI σ 7 15) j (m + 1) = lexI (hI σ 7 14) (hI σ 7 15) (j + 1) m by rw [lexI, if_pos h20]]; exact ih (j + 1) (by omega)
    ·
      refine e_aload_n d_M_better_23 rfl rfl ?_
      refine g_M_72 (b := 7 + 16 * 14) rfl d_M_better_24 hM.a_one ?_
      refine e_iload_n d_M_better_27 rfl rfl ?_
      refine e_iald d_M_better_28 (show vp_in (nI j) (hl σ 7 14) from by rw [hM.l_one]; exact nI_in (by omega) (by decide)) ?_
      rw [nI_clamp (show j < 2 ^ 31 by omega)]
      refine e_aload_n d_M_better_29 rfl rfl ?_
      refine g_M_75 (b := 7 + 16 * 15) rfl d_M_better_30 hM.a_other ?_
      refine e_iload_n d_M_better_33 rfl rfl ?_
      refine e_iald d_M_better_34 (show vp_in (nI j) (hl σ 7 15) from by rw [hM.l_other]; exact nI_in (by omega) (by decide)) ?_
      rw [nI_clamp (show j < 2 ^ 31 by omega)]
      refine e_icmpge (tgt := 42) d_M_better_35 (by decide) (fun h35 => ?_) (fun h35 => ?_)
      ·
        refine e_iconst (v := 0) d_M_better_42 (by decide) ?_
        exact e_zret d_M_better_43 rfl (by first | exact Or.inl rfl | exact Or.inr rfl) ⟨(by simp [lexI, h20, h35]), rfl⟩
      ·
        refine e_iconst (v := 1) d_M_better_38 (by decide) ?_
        refine e_goto (tgt := 43) d_M_better_39 (by decide) ?_
        exact e_zret d_M_better_43 rfl (by first | exact Or.inl rfl | exact Or.inr rfl) ⟨(by simp [lexI, h20, h35]), rfl⟩
set_option maxHeartbeats 4000000 in
set_option maxRecDepth 100000 in
theorem ct_M_better {l : Launch} (hl0 : l.stackTraces = false) {G : LG} {σ : HS} (hM : MS σ)  : Ct l G m_M_better [.ref (6 + 16 * 0)] (σ) (qd (.inr (some (.int (btI (hI σ 7 14) (hI σ 7 15))))) σ) := by
  refine Ct.of hl0 rfl rfl (Nat.le_of_ble_eq_true rfl) ?_
  show Ex l G m_M_better (pmV G m_M_better (qd (.inr (some (.int (btI (hI σ 7 14) (hI σ 7 15))))) σ)) 0 [(0, .ref (6 + 16 * 0))] [] (σ) 0 0
  refine e_iconst (v := 0) d_M_better_0 (by decide) ?_
  refine e_istore_n (lv' := [(1, .int (0)), (0, .ref (6 + 16 * 0))]) d_M_better_1 rfl (by decide) rfl ?_
  exact e_lv (lv' := [(1, .int (nI 0)), (0, .ref (6 + 16 * 0))]) ⟨rfl, rfl, trivial⟩ (lp_M_better hl0 hM 8 0 rfl)
