/-! hearing -/
def farA (V : AV) (p : Nat) : Nat := match ab_k V p with
  | none => p
  | some k => if p = ab_X V k then ab_Y V k else ab_X V k
def rcI (V : AV) (p : Nat) : Int32 := match ab_k V p with
  | none => 0
  | some k => if ab_U V k = 0 then 0 else if stA V (farA V p) = 1 then 1 else 0
def acI (V : AV) (p : Nat) : Int32 := if rcI V p = 0 then 0 else if 15 ≤ tlD V (farA V p) 4 then 0 else if tlD V (farA V p) 3 = ab_O V (p / 4) 3 then 0 else 1
def hK (V : AV) (p : Nat) : Int32 := if acI V p = 0 then (if ab_K V p = 0 then ab_K V p else if 3 ≤ ab_A V p + 1 then 0 else ab_K V p) else 1
def hA (V : AV) (p : Nat) : Int32 := if acI V p = 0 then (if ab_K V p = 0 then ab_A V p else ab_A V p + 1) else 0
def hT (V : AV) (p : Nat) : DV := if acI V p = 0 then ab_T V p else keepV (tlD V (farA V p)) (nI (p % 4)) zD
def chA (V : AV) (p : Nat) : Int32 := if acI V p = 0 then (if ab_K V p = 0 then 0 else if 3 ≤ ab_A V p + 1 then 1 else 0) else (if ab_K V p = 0 then 1 else if tsI (ab_T V p) (tlD V (farA V p)) = 0 then 1 else 0)
def hrP (V : AV) (P : Nat) : AV := (V.1, V.2.1, V.2.2.1, (fun p => if p < P then hK V p else ab_K V p, fun p => if p < P then hA V p else ab_A V p, fun p => if p < P then hT V p else ab_T V p, ab_k V), V.2.2.2.2)
def hrV (V : AV) : AV := hrP V (4 * ab_n V)
def TSt (σ : HS) (V : AV) : Prop := ∀ p, p < 4 * ab_n V → hI σ 1 p 6 = stA V p ∧ ∀ k, k < 8 → hI σ 0 (tld p) k = tlD V p k
theorem TR.st {σ : HS} {V : AV} (h : TR σ V) : TSt σ V := fun p hp => by
  have := (h.2 (p / 4) (by omega)).2 (p % 4) (by omega)
  rw [p_ij] at this
  exact this
theorem hrP_0 {σ : HS} {V : AV} (h : TB σ V) : TB σ (hrP V 0) := ⟨h.1, h.2.1, h.2.2.1, fun p hp => by
  have := h.2.2.2.1 p hp
  refine ⟨?_, ?_, ?_, this.2.2.2⟩
  · show _ = if p < 0 then hK V p else ab_K V p; rw [if_neg (by omega)]; exact this.1
  · show _ = if p < 0 then hA V p else ab_A V p; rw [if_neg (by omega)]; exact this.2.1
  · intro k hk; show _ = (if p < 0 then hT V p else ab_T V p) k; rw [if_neg (by omega)]; exact this.2.2.1 k hk, h.2.2.2.2⟩
theorem TB.far {τ : HS} {V : AV} (h : TB τ V) {p k : Nat} (hp : p < 4 * ab_n V) (hk : ab_k V p = some k) : k < ab_L V ∧ hR τ 1 p 7 = some (3 + 16 * k) ∧ farP τ k p = farA V p ∧ farA V p < 4 * ab_n V := by
  have h7 := (h.2.2.2.1 p hp).2.2.2
  rw [hk] at h7
  have h7' : hR τ 1 p 7 = some (3 + 16 * k) := h7
  rcases h.1.lk hp with h1 | ⟨k', x, y, hkL, hx, hy, h1, hf, hs⟩
  · rw [h1] at h7'; cases h7'
  · have e : k' = k := by have := Option.some.inj (h1.symm.trans h7'); omega
    subst e
    obtain ⟨gx, gy, -⟩ := h.2.2.2.2 k' hkL
    have ex : x = ab_X V k' := by have := Option.some.inj (hf.symm.trans gx); omega
    have ey : y = ab_Y V k' := by have := Option.some.inj (hs.symm.trans gy); omega
    have ef : farA V p = if p = ab_X V k' then ab_Y V k' else ab_X V k' := by unfold farA; rw [hk]
    refine ⟨hkL, h7', ?_, ?_⟩
    · rw [farP_eq gx gy, ef]
    · rw [ef]; split
      · rw [← ey]; exact hy
      · rw [← ex]; exact hx
theorem sdP_eq {τ : HS} {V : AV} {P p : Nat} (h : TB τ (hrP V P)) (hs : TSt τ V) (hp : p < 4 * ab_n V) : sdP τ p = if rcI V p = 0 then none else some (farA V p) := by
  cases hk : ab_k V p with
  | none =>
    have h7 := (h.2.2.2.1 p hp).2.2.2
    have h7' : hR τ 1 p 7 = none := by rw [h7]; show (ab_k V p).map _ = none; rw [hk]; rfl
    unfold sdP rcI
    rw [h7', hk]
    rfl
  | some k =>
    obtain ⟨hkL, h7, hf, hfl⟩ := h.far (V := hrP V P) hp hk
    have hf' : farP τ k p = farA V p := hf
    have hu : hI τ 3 k 4 = ab_U V k := (h.2.2.2.2 k hkL).2.2.2.2
    have hst : hI τ 1 (farA V p) 6 = stA V (farA V p) := (hs _ hfl).1
    unfold sdP rcI
    rw [h7, hk]
    have e1 : (3 + 16 * k) / 16 = k := by omega
    simp only [e1, hf', hu, hst]
    by_cases c : ab_U V k = 0
    · simp [c]
    · by_cases d : stA V (farA V p) = 1
      · simp [c, d]
      · simp [c, d]
theorem far_lt {τ : HS} {V : AV} {P p : Nat} (h : TB τ (hrP V P)) (hp : p < 4 * ab_n V) (hr : ¬ rcI V p = 0) : farA V p < 4 * ab_n V := by
  cases hk : ab_k V p with
  | none => exact absurd (by unfold rcI; rw [hk]) hr
  | some k => exact (h.far (V := hrP V P) hp hk).2.2.2
theorem samI_congr {a b a' b' : DV} : ∀ n k, (∀ j, j < k + n → a j = a' j) → (∀ j, j < k + n → b j = b' j) → samI a b k n = samI a' b' k n
  | 0, k, _, _ => by rw [samI, samI]
  | n + 1, k, h1, h2 => by
    rw [samI, samI, h1 k (by omega), h2 k (by omega), samI_congr n (k + 1) (fun j hj => h1 j (by omega)) (fun j hj => h2 j (by omega))]
theorem flg_55 {τ : HS} {v : Int32} : hI (flg τ v) 5 0 5 = if v = 0 then hI τ 5 0 5 else 1 := by
  unfold flg
  split
  · rfl
  · rw [I_sI, if_pos ⟨rfl, rfl, rfl⟩]
theorem flg_I {τ : HS} {v : Int32} {q a k : Nat} (h : q ≠ 5) : hI (flg τ v) q a k = hI τ q a k := by
  unfold flg
  split
  · rfl
  · rw [I_sI, if_neg (fun z => h z.1)]
theorem hrP_k {V : AV} {P p : Nat} (h : p ≠ P) {α : Type} {x y : α} : (if p < P + 1 then x else y) = if p < P then x else y := by
  by_cases c : p < P
  · rw [if_pos c, if_pos (by omega)]
  · rw [if_neg c, if_neg (by omega)]
/-- a port hears -/
theorem TB.prt {τ τ' : HS} {V : AV} {P : Nat} (h : TB τ (hrP V P)) (hf : hfr τ τ') (ho : ∀ i k, i < ab_n V → k < 8 → hI τ' 0 (9 * i) k = hI τ 0 (9 * i) k)
    (hp : ∀ p, p < 4 * ab_n V → p ≠ P → hI τ' 1 p 4 = hI τ 1 p 4 ∧ hI τ' 1 p 5 = hI τ 1 p 5 ∧ ∀ k, k < 8 → hI τ' 0 (kpt p) k = hI τ 0 (kpt p) k)
    (hP : hI τ' 1 P 4 = hK V P ∧ hI τ' 1 P 5 = hA V P ∧ ∀ k, k < 8 → hI τ' 0 (kpt P) k = hT V P k) : TB τ' (hrP V (P + 1)) := by
  obtain ⟨h1, h2, h3, h4, h5⟩ := h
  refine ⟨h1.g hf.g, by rw [show CN τ' _ _ = CN τ _ _ by unfold CN; rw [hf.2.2.1], hf.2.2.1]; exact h2, fun i' hi => ⟨fun k hk => ?_, ?_, ?_⟩, fun p hp' => ?_, fun k hk => ⟨?_, ?_, ?_, ?_, ?_⟩⟩
  · rw [ho i' k hi hk]; exact (h3 i' hi).1 k hk
  · rw [hf.2.2.2.1]; exact (h3 i' hi).2.1
  · rw [hf.2.2.2.1]; exact (h3 i' hi).2.2
  · by_cases e : p = P
    · subst e
      refine ⟨?_, ?_, fun k hk => ?_, ?_⟩
      · show _ = if p < p + 1 then hK V p else ab_K V p; rw [if_pos (by omega)]; exact hP.1
      · show _ = if p < p + 1 then hA V p else ab_A V p; rw [if_pos (by omega)]; exact hP.2.1
      · show _ = (if p < p + 1 then hT V p else ab_T V p) k; rw [if_pos (by omega)]; exact hP.2.2 k hk
      · rw [hf.1]; exact (h4 p hp').2.2.2
    · have g := h4 p hp'
      obtain ⟨g1, g2, g3⟩ := hp p hp' e
      refine ⟨?_, ?_, fun k hk => ?_, ?_⟩
      · show _ = if p < P + 1 then hK V p else ab_K V p; rw [hrP_k (V := V) e, g1]; exact g.1
      · show _ = if p < P + 1 then hA V p else ab_A V p; rw [hrP_k (V := V) e, g2]; exact g.2.1
      · show _ = (if p < P + 1 then hT V p else ab_T V p) k; rw [hrP_k (V := V) e, g3 k hk]; exact g.2.2.1 k hk
      · rw [hf.1]; exact g.2.2.2
  · rw [hf.1]; exact (h5 k hk).1
  · rw [hf.1]; exact (h5 k hk).2.1
  · rw [hf.2.2.2.2 3 k 2 (by omega)]; exact (h5 k hk).2.2.1
  · rw [hf.2.2.2.2 3 k 3 (by omega)]; exact (h5 k hk).2.2.2.1
  · rw [hf.2.2.2.2 3 k 4 (by omega)]; exact (h5 k hk).2.2.2.2
theorem kpt_inj {p p' : Nat} (h : kpt p = kpt p') : p = p' := by
  unfold kpt at h
  have h1 := Nat.mod_lt p (show 0 < 4 by decide)
  have h2 := Nat.mod_lt p' (show 0 < 4 by decide)
  have h3 := p_ij p
  have h4 := p_ij p'
  generalize p / 4 = a at *
  generalize p % 4 = b at *
  generalize p' / 4 = a' at *
  generalize p' % 4 = b' at *
  omega
theorem kpt_own {p i : Nat} : ¬ 9 * i = kpt p := by
  unfold kpt
  have h1 := Nat.mod_lt p (show 0 < 4 by decide)
  generalize p / 4 = a at *
  generalize p % 4 = b at *
  omega
theorem kpt_tld {p f : Nat} : ¬ tld f = kpt p := by
  unfold kpt
  exact tld_ne (Nat.mod_lt p (by decide))
def HB (τ : HS) (V : AV) (P : Nat) : Prop := TB τ (hrP V P) ∧ TSt τ V
theorem HB.v {τ : HS} {V : AV} {P : Nat} (h : HB τ V P) (hP : P < 4 * ab_n V) : hI τ 1 P 4 = ab_K V P ∧ hI τ 1 P 5 = ab_A V P ∧ ∀ k, k < 8 → hI τ 0 (kpt P) k = ab_T V P k := by
  have g := h.1.2.2.2.1 P hP
  refine ⟨?_, ?_, fun k hk => ?_⟩
  · rw [g.1]; show (if P < P then _ else _) = _; rw [if_neg (by omega)]
  · rw [g.2.1]; show (if P < P then _ else _) = _; rw [if_neg (by omega)]
  · rw [g.2.2.1 k hk]; show (if P < P then hT V P else ab_T V P) k = _; rw [if_neg (by omega)]
theorem hfr.st {τ τ' : HS} {V : AV} (hf : hfr τ τ') (h : TSt τ V) (ht : ∀ f k, hI τ' 0 (tld f) k = hI τ 0 (tld f) k) : TSt τ' V := fun p hp => ⟨by rw [hf.2.2.2.2 1 p 6 (by omega)]; exact (h p hp).1, fun k hk => by rw [ht]; exact (h p hp).2 k hk⟩
theorem HB.grow {τ : HS} {V : AV} {P : Nat} (h : HB τ V P) (hP : P < 4 * ab_n V) (ha : acI V P = 0) : HB (flg (growS τ P) (growV τ P)) V (P + 1) ∧ hI (flg (growS τ P) (growV τ P)) 5 0 5 = if chA V P = 0 then hI τ 5 0 5 else 1 := by
  obtain ⟨v1, v2, v3⟩ := h.v hP
  have hf : hfr τ (flg (growS τ P) (growV τ P)) := hfr.rf.grow.flg
  have e0 : ∀ d k, hI (flg (growS τ P) (growV τ P)) 0 d k = hI τ 0 d k := fun d k => by
    rw [flg_I (by decide)]
    unfold growS
    split
    · rfl
    · split
      · rw [I_sI, if_neg (by omega), I_sI, if_neg (by omega)]
      · rw [I_sI, if_neg (by omega)]
  have e1 : ∀ p k, p ≠ P → hI (flg (growS τ P) (growV τ P)) 1 p k = hI τ 1 p k := fun p k hp => by
    rw [flg_I (by decide)]
    unfold growS
    split
    · rfl
    · split
      · rw [I_sI, if_neg (by omega), I_sI, if_neg (by omega)]
      · rw [I_sI, if_neg (by omega)]
  refine ⟨⟨h.1.prt hf (fun i k _ _ => e0 _ _) (fun p _ hp => ⟨e1 _ _ hp, e1 _ _ hp, fun k _ => e0 _ _⟩) ⟨?_, ?_, fun k hk => ?_⟩, hf.st h.2 (fun f k => e0 _ _)⟩, ?_⟩
  · rw [flg_I (by decide)]
    unfold growS hK
    rw [if_pos ha, v1, v2]
    split
    · exact v1
    · split
      · rw [I_sI, if_pos ⟨rfl, rfl, rfl⟩]
      · rw [I_sI, if_neg (by omega)]; exact v1
  · rw [flg_I (by decide)]
    unfold growS hA
    rw [if_pos ha, v1, v2]
    split
    · exact v2
    · split
      · rw [I_sI, if_neg (by omega), I_sI, if_pos ⟨rfl, rfl, rfl⟩]
      · rw [I_sI, if_pos ⟨rfl, rfl, rfl⟩]
  · rw [e0, v3 k hk]; unfold hT; rw [if_pos ha]
  · rw [flg_55]
    have e5 : hI (growS τ P) 5 0 5 = hI τ 5 0 5 := by
      unfold growS
      split
      · rfl
      · split
        · rw [I_sI, if_neg (by omega), I_sI, if_neg (by omega)]
        · rw [I_sI, if_neg (by omega)]
    have e6 : growV τ P = chA V P := by
      unfold growV chA
      rw [if_pos ha, v1, v2]
    rw [e5, e6]
theorem HB.keep {τ : HS} {V : AV} {P : Nat} (h : HB τ V P) (hP : P < 4 * ab_n V) (ha : ¬ acI V P = 0) (hfl : farA V P < 4 * ab_n V) : HB (flg (keepS τ P (kpt P) (tld (farA V P))) (keepR τ P (kpt P) (tld (farA V P)))) V (P + 1) ∧ hI (flg (keepS τ P (kpt P) (tld (farA V P))) (keepR τ P (kpt P) (tld (farA V P)))) 5 0 5 = if chA V P = 0 then hI τ 5 0 5 else 1 := by
  obtain ⟨v1, v2, v3⟩ := h.v hP
  have hs := (h.2 _ hfl).2
  have hf : hfr τ (flg (keepS τ P (kpt P) (tld (farA V P))) (keepR τ P (kpt P) (tld (farA V P)))) := hfr.rf.keep.flg
  have e0 : ∀ d k, d ≠ kpt P → hI (flg (keepS τ P (kpt P) (tld (farA V P))) (keepR τ P (kpt P) (tld (farA V P)))) 0 d k = hI τ 0 d k := fun d k hd => by
    rw [flg_I (by decide)]
    unfold keepS
    rw [I_sI, if_neg (by omega), I_sI, if_neg (by omega), I_sD, if_neg (fun z => hd z.2)]
  have e1 : ∀ p k, p ≠ P → hI (flg (keepS τ P (kpt P) (tld (farA V P))) (keepR τ P (kpt P) (tld (farA V P)))) 1 p k = hI τ 1 p k := fun p k hp => by
    rw [flg_I (by decide)]
    unfold keepS
    rw [I_sI, if_neg (by omega), I_sI, if_neg (by omega), I_sD, if_neg (by omega)]
  refine ⟨⟨h.1.prt hf (fun i k _ _ => e0 _ _ kpt_own) (fun p _ hp => ⟨e1 _ _ hp, e1 _ _ hp, fun k _ => e0 _ _ (fun z => hp (kpt_inj z))⟩) ⟨?_, ?_, fun k hk => ?_⟩, hf.st h.2 (fun f k => e0 _ _ kpt_tld)⟩, ?_⟩
  · rw [flg_I (by decide)]
    unfold keepS hK
    rw [if_neg ha, I_sI, if_neg (by omega), I_sI, if_pos ⟨rfl, rfl, rfl⟩]
  · rw [flg_I (by decide)]
    unfold keepS hA
    rw [if_neg ha, I_sI, if_pos ⟨rfl, rfl, rfl⟩]
  · rw [flg_I (by decide)]
    unfold keepS hT
    rw [if_neg ha, I_sI, if_neg (by omega), I_sI, if_neg (by omega), I_sD, if_pos ⟨rfl, rfl⟩]
    exact v8_congr (hs 0 (by omega)) (hs 1 (by omega)) (hs 2 (by omega)) (hs 3 (by omega)) (hs 4 (by omega)) (hs 5 (by omega)) (hs 6 (by omega)) (h.1.1.2.2.2.2.2.2.1 P hP).2 k hk
  · rw [flg_55]
    have e5 : hI (keepS τ P (kpt P) (tld (farA V P))) 5 0 5 = hI τ 5 0 5 := by
      unfold keepS
      rw [I_sI, if_neg (by omega), I_sI, if_neg (by omega), I_sD, if_neg (by omega)]
    have e6 : keepR τ P (kpt P) (tld (farA V P)) = chA V P := by
      unfold keepR chA tsI
      rw [if_neg ha, v1, samI_congr 7 0 (a := hI τ 0 (kpt P)) (a' := ab_T V P) (b := hI τ 0 (tld (farA V P))) (b' := tlD V (farA V P)) (fun j hj => v3 j (by omega)) (fun j hj => hs j (by omega))]
    rw [e5, e6]
theorem HB.hr {τ : HS} {V : AV} {i j : Nat} (h : HB τ V (4 * i + j)) (hi : i < ab_n V) (hj : j < 4) : HB (hrS τ i j) V (4 * i + j + 1) ∧ hI (hrS τ i j) 5 0 5 = (if chA V (4 * i + j) = 0 then hI τ 5 0 5 else 1) ∧ hrN τ (4 * i + j) = rcI V (4 * i + j) := by
  have hP : 4 * i + j < 4 * ab_n V := by omega
  have es := sdP_eq h.1 h.2 hP
  have e1 : (4 * i + j) / 4 = i := by omega
  by_cases hr : rcI V (4 * i + j) = 0
  · rw [if_pos hr] at es
    have ha : acI V (4 * i + j) = 0 := by unfold acI; rw [if_pos hr]
    have eS : hrS τ i j = flg (growS τ (4 * i + j)) (growV τ (4 * i + j)) := by unfold hrS; rw [es]
    have eN : hrN τ (4 * i + j) = 0 := by unfold hrN; rw [es]
    rw [eS, eN, hr]
    obtain ⟨g1, g2⟩ := h.grow hP ha
    exact ⟨g1, g2, rfl⟩
  · rw [if_neg hr] at es
    have hfl := far_lt h.1 hP hr
    have hs := (h.2 _ hfl).2
    have r1 : rcI V (4 * i + j) = 1 := by
      unfold rcI at hr ⊢
      cases hk : ab_k V (4 * i + j) with
      | none => rw [hk] at hr; exact absurd rfl hr
      | some k =>
        rw [hk] at hr
        simp only at hr ⊢
        split
        · rename_i c; rw [if_pos c] at hr; exact absurd rfl hr
        · rename_i c
          rw [if_neg c] at hr
          split
          · rfl
          · rename_i d; rw [if_neg d] at hr; exact absurd rfl hr
    have eN : hrN τ (4 * i + j) = 1 := by unfold hrN; rw [es]
    have eA : accV τ i (tld (farA V (4 * i + j))) = acI V (4 * i + j) := by
      unfold accV acI
      have ho : hI τ 0 (9 * i) 3 = ab_O V i 3 := (h.1.2.2.1 i hi).1 3 (by omega)
      rw [if_neg hr, hs 4 (by omega), hs 3 (by omega), ho, e1]
    by_cases ha : acI V (4 * i + j) = 0
    · have eS : hrS τ i j = flg (growS τ (4 * i + j)) (growV τ (4 * i + j)) := by unfold hrS; rw [es]; show (if accV τ i (tld (farA V (4 * i + j))) = 0 then _ else _) = _; rw [eA, if_pos ha]
      rw [eS, eN, r1]
      obtain ⟨g1, g2⟩ := h.grow hP ha
      exact ⟨g1, g2, rfl⟩
    · have eS : hrS τ i j = flg (keepS τ (4 * i + j) (kpt (4 * i + j)) (tld (farA V (4 * i + j)))) (keepR τ (4 * i + j) (kpt (4 * i + j)) (tld (farA V (4 * i + j)))) := by
        unfold hrS; rw [es]; show (if accV τ i (tld (farA V (4 * i + j))) = 0 then _ else _) = _; rw [eA, if_neg ha, kpt_ij hj]
      rw [eS, eN, r1]
      obtain ⟨g1, g2⟩ := h.keep hP ha hfl
      exact ⟨g1, g2, rfl⟩
/-- how many are sent; whether a port has changed -/
def cnN (V : AV) : Nat → Int32
  | 0 => 0
  | P + 1 => cnN V P + rcI V P
def chN (V : AV) : Nat → Int32
  | 0 => 0
  | P + 1 => if chA V P = 0 then chN V P else 1
