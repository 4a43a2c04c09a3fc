theorem TB.f5 {σ : HS} {V : AV} {v : Int32} (h : TB σ V) : TB (sI σ 5 0 5 v) V := by
  obtain ⟨h1, h2, h3, h4, h5⟩ := h
  refine ⟨h1.g gfr.rf.sI5, h2, fun i' hi => ⟨fun k hk => ?_, ?_, ?_⟩, fun p hp => ⟨?_, ?_, fun k hk => ?_, ?_⟩, fun k hk => ⟨?_, ?_, ?_, ?_, ?_⟩⟩
  · rw [I_sI, if_neg (by omega)]; exact (h3 i' hi).1 k hk
  · exact (h3 i' hi).2.1
  · exact (h3 i' hi).2.2
  · rw [I_sI, if_neg (by omega)]; exact (h4 p hp).1
  · rw [I_sI, if_neg (by omega)]; exact (h4 p hp).2.1
  · rw [I_sI, if_neg (by omega)]; exact (h4 p hp).2.2.1 k hk
  · exact (h4 p hp).2.2.2
  · exact (h5 k hk).1
  · exact (h5 k hk).2.1
  · rw [I_sI, if_neg (by omega)]; exact (h5 k hk).2.2.1
  · rw [I_sI, if_neg (by omega)]; exact (h5 k hk).2.2.2.1
  · rw [I_sI, if_neg (by omega)]; exact (h5 k hk).2.2.2.2
theorem TDn.f5 {σ : HS} {V : AV} {i : Nat} {v : Int32} (h : TDn σ V i) : TDn (sI σ 5 0 5 v) V i := ⟨h.1, fun j hj => ⟨by rw [I_sI, if_neg (by omega)]; exact (h.2 j hj).1, fun k hk => by rw [I_sI, if_neg (by omega)]; exact (h.2 j hj).2 k hk⟩⟩
theorem TB.fl {σ : HS} {V : AV} {v : Int32} (h : TB σ V) : TB (flg σ v) V := by
  unfold flg
  split
  · exact h
  · exact h.f5
theorem TDn.fl {σ : HS} {V : AV} {i : Nat} {v : Int32} (h : TDn σ V i) : TDn (flg σ v) V i := by
  unfold flg
  split
  · exact h
  · exact h.f5
theorem HB.he {τ : HS} {V : AV} {i : Nat} (h : HB τ V (4 * i)) (hi : i < ab_n V) (hc : hI τ 5 0 5 = chN V (4 * i)) : ∀ j, j ≤ 4 → HB (heS τ i j) V (4 * i + j) ∧ hI (heS τ i j) 5 0 5 = chN V (4 * i + j) ∧ cnN V (4 * i) + heN τ i j = cnN V (4 * i + j)
  | 0, _ => ⟨h, hc, by rw [heN]; exact Int32.add_zero _⟩
  | j + 1, hj => by
    obtain ⟨g1, g2, g3⟩ := HB.he h hi hc j (by omega)
    obtain ⟨k1, k2, k3⟩ := g1.hr hi (by omega)
    refine ⟨k1, ?_, ?_⟩
    · show hI (hrS (heS τ i j) i j) 5 0 5 = if chA V (4 * i + j) = 0 then chN V (4 * i + j) else 1
      rw [k2, g2]
    · show cnN V (4 * i) + (heN τ i j + hrN (heS τ i j) (4 * i + j)) = cnN V (4 * i + j) + rcI V (4 * i + j)
      rw [k3, ← g3, Int32.add_assoc]
theorem TR.hrA {σ : HS} {V : AV} (h : TR σ V) : ∀ i, i ≤ ab_n V → HB (prS σ i) V (4 * i) ∧ hI (prS σ i) 5 0 5 = chN V (4 * i) ∧ prN σ i = cnN V (4 * i)
  | 0, _ => ⟨⟨hrP_0 h.1.f5, fun p hp => ⟨by show hI (sI σ 5 0 5 0) 1 p 6 = _; rw [I_sI, if_neg (by omega)]; exact (h.st p hp).1, fun k hk => by show hI (sI σ 5 0 5 0) 0 _ k = _; rw [I_sI, if_neg (by omega)]; exact (h.st p hp).2 k hk⟩⟩, by show hI (sI σ 5 0 5 0) 5 0 5 = 0; rw [I_sI, if_pos ⟨rfl, rfl, rfl⟩], rfl⟩
  | i + 1, hi => by
    obtain ⟨g1, g2, g3⟩ := TR.hrA h i (by omega)
    obtain ⟨k1, k2, k3⟩ := g1.he (by omega) g2 4 (by omega)
    refine ⟨k1, k2, ?_⟩
    show prN σ i + heN (prS σ i) i 4 = _
    rw [g3]; exact k3
/-- whether a state has changed -/
def stN (V : AV) : Nat → Int32
  | 0 => 0
  | P + 1 => if stA (hrV V) P = stA V P then stN V P else 1
theorem fsC_eq {τ : HS} {V : AV} {i : Nat} (h : TB τ (hrV V)) (hi : i < ab_n V) (hs : ∀ j, j < 4 → hI τ 1 (4 * i + j) 6 = stA V (4 * i + j)) : ∀ j, j ≤ 4 → (if fsC τ i j = 0 then stN V (4 * i) else 1) = stN V (4 * i + j)
  | 0, _ => by rw [fsC, if_pos rfl]; rfl
  | j + 1, hj => by
    show (if fsC τ i (j + 1) = 0 then stN V (4 * i) else 1) = if stA (hrV V) (4 * i + j) = stA V (4 * i + j) then stN V (4 * i + j) else 1
    have e : svJ τ i j = stA (hrV V) (4 * i + j) := h.sv hi (by omega)
    have ih := fsC_eq h hi hs j (by omega)
    rw [fsC, e, hs j (by omega)]
    by_cases c : stA (hrV V) (4 * i + j) = stA V (4 * i + j)
    · rw [if_pos c, if_pos c]; exact ih
    · rw [if_neg c, if_neg c]; rfl
theorem TR.fnA {σ : HS} {V : AV} (h : TR σ V) : ∀ i, i ≤ ab_n V → TB (prF σ (ab_n V) i) (hrV V) ∧ (∀ i', i' < i → TDn (prF σ (ab_n V) i) (hrV V) i') ∧ (∀ p, 4 * i ≤ p → p < 4 * ab_n V → hI (prF σ (ab_n V) i) 1 p 6 = stA V p) ∧ hI (prF σ (ab_n V) i) 5 0 5 = if stN V (4 * i) = 0 then chN V (4 * ab_n V) else 1
  | 0, _ => by
    obtain ⟨g1, g2, g3⟩ := h.hrA (ab_n V) (by omega)
    exact ⟨g1.1, fun i' hi' => by omega, fun p _ hp => (g1.2 p hp).1, by rw [show stN V (4 * 0) = 0 from rfl, if_pos rfl]; exact g2⟩
  | i + 1, hi => by
    obtain ⟨g1, g2, g3, g4⟩ := TR.fnA h i (by omega)
    have ef := fsC_eq g1 (by omega) (fun j hj => g3 (4 * i + j) (by omega) (by omega)) 4 (by omega)
    refine ⟨(g1.fs).fl, fun i' hi' => ?_, fun p hp1 hp2 => ?_, ?_⟩
    · by_cases e : i' = i
      · subst e; exact (g1.fsD (V := hrV V) (show i' < ab_n V by omega)).fl
      · exact ((g2 i' (by omega)).fs e).fl
    · show hI (flg (fsS (prF σ (ab_n V) i) i 4) _) 1 p 6 = _
      rw [flg_I (by decide), fsS_I1 4 (fun _ j' hj' => by omega)]
      exact g3 p (by omega) hp2
    · show hI (flg (fsS (prF σ (ab_n V) i) i 4) _) 5 0 5 = _
      rw [flg_55, fsS_Io (by decide) (by decide), g4]
      rw [show stN V (4 * (i + 1)) = stN V (4 * i + 4) from rfl, ← ef]
      by_cases c : fsC (prF σ (ab_n V) i) i 4 = 0
      · rw [if_pos c, if_pos c]
      · rw [if_neg c, if_neg c]; rfl
def qtI (V : AV) : Int32 := if stN V (4 * ab_n V) = 0 then chN V (4 * ab_n V) else 1
/-- a round of the tree -/
theorem TR.rd1 {σ : HS} {V : AV} (h : TR σ V) : TR (prF σ (ab_n V) (ab_n V)) (hrV V) ∧ prN σ (ab_n V) = cnN V (4 * ab_n V) ∧ hI (prF σ (ab_n V) (ab_n V)) 5 0 5 = qtI V := by
  obtain ⟨g1, g2, g3, g4⟩ := h.fnA (ab_n V) (by omega)
  exact ⟨⟨g1, g2⟩, (h.hrA (ab_n V) (by omega)).2.2, g4⟩
def hrI (V : AV) : Nat → AV
  | 0 => V
  | k + 1 => hrV (hrI V k)
def rcN (V : AV) : Nat → Int32
  | 0 => 0
  | k + 1 => rcN V k + cnN (hrI V k) (4 * ab_n V)
theorem hrI_n {V : AV} : ∀ k, ab_n (hrI V k) = ab_n V
  | 0 => rfl
  | k + 1 => hrI_n k
theorem TR.rdk {σ : HS} {V : AV} (h : TR σ V) : ∀ k, TR (rdS σ (ab_n V) k) (hrI V k) ∧ rdN σ (ab_n V) k = rcN V k
  | 0 => ⟨h, rfl⟩
  | k + 1 => by
    obtain ⟨g1, g2⟩ := TR.rdk h k
    have g := g1.rd1
    rw [hrI_n] at g
    refine ⟨g.1, ?_⟩
    show rdN σ (ab_n V) k + prN (rdS σ (ab_n V) k) (ab_n V) = rcN V k + cnN (hrI V k) (4 * ab_n V)
    rw [g2, g.2.1]
def seA : Nat → Nat → AV → AV × Int32
  | 0, k, V => (V, nI k)
  | m + 1, k, V => if qtI V = 0 then (hrV V, nI (k + 1)) else if m = 0 then (hrV V, nI (k + 1)) else seA m (k + 1) (hrV V)
theorem TR.se {n : Nat} : ∀ m k (σ : HS) (V : AV), ab_n V = n → TR σ V → TR (seQ n m k σ).1 (seA m k V).1 ∧ (seQ n m k σ).2 = (seA m k V).2
  | 0, k, σ, V, _, h => ⟨h, rfl⟩
  | m + 1, k, σ, V, hn, h => by
    obtain ⟨g1, g2, g3⟩ := h.rd1
    rw [hn] at g1 g3
    rw [seQ, seA, g3]
    by_cases c : qtI V = 0
    · rw [if_pos c, if_pos c]; exact ⟨g1, rfl⟩
    · rw [if_neg c, if_neg c]
      by_cases d : m = 0
      · rw [if_pos d, if_pos d]; exact ⟨g1, rfl⟩
      · rw [if_neg d, if_neg d]; exact TR.se m (k + 1) _ _ hn g1
