theorem acI_r {V : AV} {p : Nat} (h : ¬ acI V p = 0) : ¬ rcI V p = 0 := fun c => h (by unfold acI; rw [if_pos c])
theorem acI_4 {V : AV} {p : Nat} (h : ¬ acI V p = 0) : ¬ 15 ≤ tlD V (farA V p) 4 := fun c => h (by unfold acI; rw [if_neg (acI_r h), if_pos c])
theorem IV.hr {V : AV} (h : IV V) : IV (hrV V) := by
  obtain ⟨h1, h2, h3, h4, h5, h6⟩ := h
  have hv : IV V := ⟨h1, h2, h3, h4, h5, h6⟩
  refine ⟨h1, h2, h3, h4, fun p => ?_, fun p hp => ⟨?_, fun k hk => ?_⟩⟩
  · show ((if p < 4 * ab_n V then hK V p else ab_K V p) = 0 ∨ (if p < 4 * ab_n V then hK V p else ab_K V p) = 1) ∧ (¬ (if p < 4 * ab_n V then hK V p else ab_K V p) = 0 → p < 4 * ab_n V ∧ ab_k V p ≠ none ∧ (if p < 4 * ab_n V then hT V p else ab_T V p) 7 = nI (p % 4) ∧ ∃ s, s ≤ 14 ∧ (if p < 4 * ab_n V then hT V p else ab_T V p) 4 = nI s)
    by_cases c : p < 4 * ab_n V
    · rw [if_pos c, if_pos c]
      by_cases ha : acI V p = 0
      · have ek : hK V p = if ab_K V p = 0 then ab_K V p else if 3 ≤ ab_A V p + 1 then 0 else ab_K V p := by unfold hK; rw [if_pos ha]
        have et : hT V p = ab_T V p := by unfold hT; rw [if_pos ha]
        rw [et, ek]
        by_cases d : ab_K V p = 0
        · rw [if_pos d]; exact h5 p
        · rw [if_neg d]
          by_cases e : 3 ≤ ab_A V p + 1
          · rw [if_pos e]; exact ⟨Or.inl rfl, fun z => absurd rfl z⟩
          · rw [if_neg e]; exact h5 p
      · have ek : hK V p = 1 := by unfold hK; rw [if_neg ha]
        have et : hT V p = keepV (tlD V (farA V p)) (nI (p % 4)) zD := by unfold hT; rw [if_neg ha]
        rw [et, ek]
        refine ⟨Or.inr rfl, fun _ => ⟨c, ?_, rfl, ?_⟩⟩
        · obtain ⟨k, hk⟩ := rcI_k (acI_r ha)
          rw [hk]; intro z; cases z
        · obtain ⟨s, hs, e⟩ := hv.tl4 (farA V p)
          have e4 := acI_4 ha
          rw [e, n15 hs] at e4
          refine ⟨s, ?_, e⟩
          have : s ≠ 15 := fun z => e4 (by rw [z]; decide +kernel)
          omega
    · rw [if_neg c, if_neg c]; exact h5 p
  · show (if p < 4 * ab_n V then hA V p else ab_A V p) = 0
    have hp' : 4 * ab_n V ≤ p := hp
    rw [if_neg (by omega)]; exact (h6 p hp).1
  · show (if p < 4 * ab_n V then hT V p else ab_T V p) k = 0
    have hp' : 4 * ab_n V ≤ p := hp
    rw [if_neg (by omega)]; exact (h6 p hp).2 k hk
theorem IV.hrk {V : AV} (h : IV V) : ∀ k, IV (hrI V k)
  | 0 => h
  | k + 1 => (IV.hrk h k).hr
theorem obI_ok {i : Nat} {V : AV} (hi : i < 10) : obI i (bsA V i) < 0 ∨ ∃ b, b < 40 ∧ obI i (bsA V i) = nI b := by
  cases h : bsA V i with
  | none => exact Or.inl n1_lt0
  | some x => exact Or.inr ⟨4 * i + x, by have := bsJ_lt 4 x h; omega, rfl⟩
theorem MB.lk {σ : HS} {V : AV} (h : MB σ V) (hv : IV V) {p k : Nat} (hk : ab_k V p = some k) : lok σ p := by
  obtain ⟨hL, hp, hxy⟩ := hv.2.2.2.1 p k hk
  obtain ⟨x1, y1, ne, -, -⟩ := hv.2.1 k hL
  have hn := hv.1.1
  obtain ⟨g1, g2, -⟩ := h.2.2.2.2 k hL
  have h6 := (h.2.2.2.1 p (by omega)).2.2.2
  rw [hk] at h6
  by_cases c : hI σ 7 4 (2 * k) = nI p
  · exact ⟨k, ab_Y V k, hv.L16 p k hk, by omega, h6, by rw [if_pos c]; exact g2⟩
  · exact ⟨k, ab_X V k, hv.L16 p k hk, by omega, h6, by rw [if_neg c]; exact g1⟩
theorem MR.st {σ : HS} {V : AV} (h : MR σ V) {p : Nat} (hp : p < 4 * ab_n V) : hI σ 7 7 p = stA V p := by
  have := (h.2 (p / 4) (by omega)).2 (p % 4) (by omega)
  rwa [p_ij] at this
theorem MR.pkx {σ : HS} {V : AV} (h : MR σ V) (hv : IV V) : pok (ab_n V) σ := by
  refine ⟨h.1.1, hv.1.1, h.1.2.1.1, fun p hp hs => ?_, fun i hi => ?_⟩
  · rw [h.st hp] at hs
    obtain ⟨k, hk⟩ := st1_k hs
    exact h.1.lk hv hk
  · have hn := hv.1.1
    unfold bok
    rw [(h.2 i hi).1]
    exact obI_ok (by omega)
theorem MR.of {σ τ : HS} {V : AV} (h : MR σ V) (f : mfr σ τ) (h7 : ∀ p, hI τ 7 7 p = hI σ 7 7 p) (h13 : ∀ i, hI τ 7 13 i = hI σ 7 13 i) : MR τ V :=
  ⟨h.1.mf f, fun i hi => ⟨by rw [h13]; exact (h.2 i hi).1, fun j hj => by rw [h7]; exact (h.2 i hi).2 j hj⟩⟩
theorem MR.th {σ : HS} {V : AV} {v : Int32} (h : MR σ V) : MR (sI σ 6 0 0 v) V := h.of (mfr.oI6 (by omega)) (fun p => by rw [I_sI, if_neg (by omega)]) (fun p => by rw [I_sI, if_neg (by omega)])
theorem MR.mrk {σ : HS} {V : AV} (h : MR σ V) (hv : IV V) : ∀ k, MR (mrS σ (ab_n V) k) (hrI V k) ∧ mrN σ (ab_n V) k = rcN V k
  | 0 => by rw [mrS, mrN]; exact ⟨h, rfl⟩
  | k + 1 => by
    obtain ⟨g1, g2⟩ := MR.mrk h hv k
    have g := g1.pa (hv.hrk k)
    rw [hrI_n] at g
    rw [mrS, mrN]
    exact ⟨g.1, by rw [g2, g.2]; rfl⟩
theorem MR.mrp {σ : HS} {V : AV} (h : MR σ V) (hv : IV V) (k : Nat) : pok (ab_n V) (mrS σ (ab_n V) k) := by
  have g := (h.mrk hv k).1.pkx (hv.hrk k)
  rwa [hrI_n] at g
theorem MR.rw {σ : HS} {V : AV} (h : MR σ V) : MR (wrS (rmS σ 40) 320) V := by
  refine h.of ((mfr.oA8 (by omega)).trans ((mfr.oA7 (by omega)).trans (mfr.oA7 (by omega)))) (fun p => ?_) (fun p => ?_)
  · unfold wrS; rw [I_sA, if_neg (by omega), rmS_I (by omega) (by omega)]
  · unfold wrS; rw [I_sA, if_neg (by omega), rmS_I (by omega) (by omega)]
/-- is all as before? -/
def asP (τ : HS) (p : Nat) : Prop := hI τ 8 3 p = hI τ 8 1 p ∧ hI τ 7 12 p = hI τ 7 7 p ∧ (¬ hI τ 8 1 p = 0 → ∀ k, k < 8 → hI τ 7 11 (8 * p + k) = hI τ 7 9 (8 * p + k))
theorem ib1_iff {τ : HS} {s : Int32} {p : Nat} : ¬ ib1 τ s p = 0 ↔ ¬ s = 0 ∧ hI τ 8 3 p = hI τ 8 1 p ∧ hI τ 7 12 p = hI τ 7 7 p := by
  unfold ib1
  by_cases a : s = 0
  · rw [if_pos a]; exact ⟨fun z => absurd rfl z, fun z => absurd a z.1⟩
  · rw [if_neg a]
    by_cases b : hI τ 8 3 p = hI τ 8 1 p
    · rw [if_pos b]
      by_cases c : hI τ 7 12 p = hI τ 7 7 p
      · rw [if_pos c]; exact ⟨fun _ => ⟨a, b, c⟩, fun _ => by decide⟩
      · rw [if_neg c]; exact ⟨fun z => absurd rfl z, fun z => absurd z.2.2 c⟩
    · rw [if_neg b]; exact ⟨fun z => absurd rfl z, fun z => absurd z.2.1 b⟩
theorem ib2_iff {τ : HS} {p : Nat} {s : Int32} : ∀ n, ¬ ib2 τ p s n = 0 ↔ ¬ s = 0 ∧ ∀ k, k < n → hI τ 7 11 (8 * p + k) = hI τ 7 9 (8 * p + k)
  | 0 => by rw [ib2]; exact ⟨fun h => ⟨h, fun k hk => by omega⟩, fun h => h.1⟩
  | n + 1 => by
    rw [ib2]
    by_cases a : ib2 τ p s n = 0
    · rw [if_pos a]
      exact ⟨fun z => absurd rfl z, fun z => absurd a ((ib2_iff n).mpr ⟨z.1, fun k hk => z.2 k (by omega)⟩)⟩
    · rw [if_neg a]
      have ih := (ib2_iff n).mp a
      by_cases b : hI τ 7 11 (8 * p + n) = hI τ 7 9 (8 * p + n)
      · rw [if_pos b]
        exact ⟨fun _ => ⟨ih.1, fun k hk => by by_cases c : k = n; (rw [c]; exact b); exact ih.2 k (by omega)⟩, fun _ => by decide⟩
      · rw [if_neg b]; exact ⟨fun z => absurd rfl z, fun z => absurd (z.2 n (by omega)) b⟩
theorem ibS_iff {τ : HS} : ∀ P, ¬ ibS τ P = 0 ↔ ∀ p, p < P → asP τ p
  | 0 => by rw [ibS]; exact ⟨fun _ p hp => by omega, fun _ => by decide⟩
  | P + 1 => by
    have ih := ibS_iff (τ := τ) P
    have key : ¬ ibP τ P (ibS τ P) = 0 ↔ ¬ ibS τ P = 0 ∧ asP τ P := by
      unfold ibP
      by_cases a : hI τ 8 1 P = 0
      · rw [if_pos a, ib1_iff]
        exact ⟨fun h => ⟨h.1, h.2.1, h.2.2, fun z => absurd a z⟩, fun h => ⟨h.1, h.2.1, h.2.2.1⟩⟩
      · rw [if_neg a, ib2_iff, ib1_iff]
        exact ⟨fun h => ⟨h.1.1, h.1.2.1, h.1.2.2, fun _ => h.2⟩, fun h => ⟨⟨h.1, h.2.1, h.2.2.1⟩, h.2.2.2 a⟩⟩
    rw [ibS, key, ih]
    exact ⟨fun h p hp => by by_cases c : p = P; (rw [c]; exact h.2); exact h.1 p (by omega), fun h => ⟨fun p hp => h p (by omega), h P (by omega)⟩⟩
theorem chN_iff {V : AV} : ∀ P, chN V P = 0 ↔ ∀ p, p < P → chA V p = 0
  | 0 => ⟨fun _ p hp => by omega, fun _ => rfl⟩
  | P + 1 => by
    show (if chA V P = 0 then chN V P else 1) = 0 ↔ _
    by_cases a : chA V P = 0
    · rw [if_pos a, chN_iff P]
      exact ⟨fun h p hp => by by_cases c : p = P; (rw [c]; exact a); exact h p (by omega), fun h p hp => h p (by omega)⟩
    · rw [if_neg a]; exact ⟨fun z => absurd z (by decide), fun h => absurd (h P (by omega)) a⟩
theorem stN_iff {V : AV} : ∀ P, stN V P = 0 ↔ ∀ p, p < P → stA (hrV V) p = stA V p
  | 0 => ⟨fun _ p hp => by omega, fun _ => rfl⟩
  | P + 1 => by
    show (if stA (hrV V) P = stA V P then stN V P else 1) = 0 ↔ _
    by_cases a : stA (hrV V) P = stA V P
    · rw [if_pos a, stN_iff P]
      exact ⟨fun h p hp => by by_cases c : p = P; (rw [c]; exact a); exact h p (by omega), fun h p hp => h p (by omega)⟩
    · rw [if_neg a]; exact ⟨fun z => absurd z (by decide), fun h => absurd (h P (by omega)) a⟩
theorem samI_iff {a b : DV} : ∀ n k, ¬ samI a b k n = 0 ↔ ∀ j, k ≤ j → j < k + n → a j = b j
  | 0, k => by rw [samI]; exact ⟨fun _ j h1 h2 => by omega, fun _ => by decide⟩
  | n + 1, k => by
    rw [samI]
    by_cases c : a k = b k
    · rw [if_pos c, samI_iff n (k + 1)]
      exact ⟨fun h j h1 h2 => by by_cases d : j = k; (rw [d]; exact c); exact h j (by omega) (by omega), fun h j h1 h2 => h j (by omega) (by omega)⟩
    · rw [if_neg c]; exact ⟨fun z => absurd rfl z, fun h => absurd (h k (by omega) (by omega)) c⟩
theorem IV.ch {V : AV} (h : IV V) {p : Nat} : chA V p = 0 ↔ ab_K V p = hK V p ∧ (¬ hK V p = 0 → ∀ k, k < 8 → ab_T V p k = hT V p k) := by
  have h5 := h.2.2.2.2.1 p
  unfold chA hK hT
  by_cases ha : acI V p = 0
  · rw [if_pos ha, if_pos ha, if_pos ha]
    by_cases c : ab_K V p = 0
    · rw [if_pos c, if_pos c]; exact ⟨fun _ => ⟨rfl, fun z => absurd c z⟩, fun _ => rfl⟩
    · rw [if_neg c, if_neg c]
      by_cases d : 3 ≤ ab_A V p + 1
      · rw [if_pos d, if_pos d]; exact ⟨fun z => absurd z (by decide), fun z => absurd z.1 c⟩
      · rw [if_neg d, if_neg d]; exact ⟨fun _ => ⟨rfl, fun _ _ _ => rfl⟩, fun _ => rfl⟩
  · rw [if_neg ha, if_neg ha, if_neg ha]
    by_cases c : ab_K V p = 0
    · rw [if_pos c]; exact ⟨fun z => absurd z (by decide), fun z => absurd (c.symm.trans z.1) (by decide)⟩
    · rw [if_neg c]
      have k1 : ab_K V p = 1 := by rcases h5.1 with d | d; exact absurd d c; exact d
      have t7 := (h5.2 c).2.2.1
      have hs := samI_iff (a := ab_T V p) (b := tlD V (farA V p)) 7 0
      by_cases d : tsI (ab_T V p) (tlD V (farA V p)) = 0
      · rw [if_pos d]
        refine ⟨fun z => absurd z (by decide), fun z => absurd d (hs.mpr (fun j _ hj => ?_))⟩
        have := z.2 (by decide) j (by omega)
        rw [this]
        match j, hj with
        | 0, _ => rfl
        | 1, _ => rfl
        | 2, _ => rfl
        | 3, _ => rfl
        | 4, _ => rfl
        | 5, _ => rfl
        | 6, _ => rfl
        | j + 7, hj => omega
      · rw [if_neg d]
        have hd := hs.mp d
        refine ⟨fun _ => ⟨k1, fun _ k hk => ?_⟩, fun _ => rfl⟩
        match k, hk with
        | 0, _ => exact hd 0 (by omega) (by omega)
        | 1, _ => exact hd 1 (by omega) (by omega)
        | 2, _ => exact hd 2 (by omega) (by omega)
        | 3, _ => exact hd 3 (by omega) (by omega)
        | 4, _ => exact hd 4 (by omega) (by omega)
        | 5, _ => exact hd 5 (by omega) (by omega)
        | 6, _ => exact hd 6 (by omega) (by omega)
        | 7, _ => exact t7
        | k + 8, hk => omega
theorem MR.pao {σ : HS} {V : AV} (h : MR σ V) (hv : IV V) : (∀ k, hI (paS σ (ab_n V)) 8 3 k = hI σ 8 3 k) ∧ (∀ a k, a = 11 ∨ a = 12 → hI (paS σ (ab_n V)) 7 a k = hI σ 7 a k) ∧ ∀ p, 4 * ab_n V ≤ p → hI (paS σ (ab_n V)) 7 7 p = hI σ 7 7 p := by
  obtain ⟨g1, g2, g3⟩ := h.sn hv (4 * ab_n V) (by omega)
  obtain ⟨k1, k2⟩ := (h.1.mf g1).ph hv g2 (4 * ab_n V) (by omega)
  have k1' : MB (phS (snS σ (4 * ab_n V)).1 (4 * ab_n V)) (hrV V) := k1
  obtain ⟨f1, f2, f3, f4⟩ := k1'.fa hv.1.1 hv.L16 (ab_n V) (Nat.le_refl _)
  refine ⟨fun k => ?_, fun a k ha => ?_, fun p hp => ?_⟩
  · unfold paS; rw [faS_q (by decide), k2.2.2.2.2 8 3 k (by omega) (by omega), snS_I (by omega) (by omega)]
  · unfold paS; rw [f4 a k (by omega) (by omega), k2.2.2.2.2 7 a k (by omega) (by omega), snS_I (by omega) (by omega)]
  · unfold paS; rw [f3 p hp, k2.2.2.2.2 7 7 p (by omega) (by omega), snS_I (by omega) (by omega)]
theorem MR.stp {σ : HS} {V : AV} (h : MR σ V) (hv : IV V) : MR (mstp (ab_n V) σ) (hrV V) ∧ (ibS (mstp (ab_n V) σ) 40 = 0 ↔ ¬ qtI V = 0) := by
  have hw := h.rw
  obtain ⟨g0, -⟩ := hw.pa hv
  have g1 : MR (mstp (ab_n V) σ) (hrV V) := g0
  obtain ⟨p1, p2, p3⟩ := hw.pao hv
  refine ⟨g1, ?_⟩
  have hn := hv.1.1
  have e83 : ∀ p, p < 40 → hI (mstp (ab_n V) σ) 8 3 p = ab_K V p := fun p hp => by
    show hI (paS _ _) 8 3 p = _
    rw [p1]; unfold wrS rmS
    rw [I_sA, if_neg (by omega), I_sA, if_neg (by omega), I_sA, if_pos ⟨rfl, rfl⟩]; unfold cpy; rw [if_pos hp]
    exact (h.1.2.2.2.1 p hp).1
  have e12 : ∀ p, p < 40 → hI (mstp (ab_n V) σ) 7 12 p = hI σ 7 7 p := fun p hp => by
    show hI (paS _ _) 7 12 p = _
    rw [p2 12 p (by omega)]; unfold wrS rmS
    rw [I_sA, if_neg (by omega), I_sA, if_pos ⟨rfl, rfl⟩]; unfold cpy; rw [if_pos hp]
  have e11 : ∀ p k, p < 40 → k < 8 → hI (mstp (ab_n V) σ) 7 11 (8 * p + k) = ab_T V p k := fun p k hp hk => by
    show hI (paS _ _) 7 11 _ = _
    rw [p2 11 _ (by omega)]; unfold wrS
    rw [I_sA, if_pos ⟨rfl, rfl⟩]; unfold cpy; rw [if_pos (by omega), rmS_I (by omega) (by omega)]
    exact h.1.dt hp hk
  have e77 : ∀ p, 4 * ab_n V ≤ p → hI (mstp (ab_n V) σ) 7 7 p = hI σ 7 7 p := fun p hp => by
    show hI (paS _ _) 7 7 p = _
    rw [p3 p hp]; unfold wrS
    rw [I_sA, if_neg (by omega), rmS_I (by omega) (by omega)]
  have key : (∀ p, p < 40 → asP (mstp (ab_n V) σ) p) ↔ qtI V = 0 := by
    have q1 : qtI V = 0 ↔ (∀ p, p < 4 * ab_n V → stA (hrV V) p = stA V p) ∧ ∀ p, p < 4 * ab_n V → chA V p = 0 := by
      unfold qtI
      rw [← stN_iff, ← chN_iff]
      by_cases c : stN V (4 * ab_n V) = 0
      · rw [if_pos c]; exact ⟨fun z => ⟨c, z⟩, fun z => z.2⟩
      · rw [if_neg c]; exact ⟨fun z => absurd z (by decide), fun z => absurd z.1 c⟩
    rw [q1]
    have e81 : ∀ p, p < 40 → hI (mstp (ab_n V) σ) 8 1 p = if p < 4 * ab_n V then hK V p else ab_K V p := fun p hp => (g1.1.2.2.2.1 p hp).1
    have e79 : ∀ p k, p < 40 → k < 8 → hI (mstp (ab_n V) σ) 7 9 (8 * p + k) = (if p < 4 * ab_n V then hT V p else ab_T V p) k := fun p k hp hk => g1.1.dt hp hk
    constructor
    · intro z
      refine ⟨fun p hp => ?_, fun p hp => hv.ch.mpr ?_⟩
      · have := (z p (by omega)).2.1
        rw [e12 p (by omega), h.st hp, g1.st (V := hrV V) hp] at this
        exact this.symm
      · obtain ⟨z1, z2, z3⟩ := z p (by omega)
        rw [e81 p (by omega), if_pos hp] at z1 z3
        rw [e83 p (by omega)] at z1
        exact ⟨z1, fun hk k hk8 => by have := z3 hk k hk8; rwa [e11 p k (by omega) hk8, e79 p k (by omega) hk8, if_pos hp] at this⟩
    · intro z p hp
      by_cases c : p < 4 * ab_n V
      · obtain ⟨z1, z2⟩ := hv.ch.mp (z.2 p c)
        refine ⟨by rw [e83 p hp, e81 p hp, if_pos c]; exact z1, by rw [e12 p hp, h.st c, g1.st (V := hrV V) c]; exact (z.1 p c).symm, fun hk k hk8 => ?_⟩
        rw [e81 p hp, if_pos c] at hk
        rw [e11 p k hp hk8, e79 p k hp hk8, if_pos c]
        exact z2 hk k hk8
      · refine ⟨by rw [e83 p hp, e81 p hp, if_neg c], by rw [e12 p hp, e77 p (by omega)], fun hk k hk8 => ?_⟩
        rw [e11 p k hp hk8, e79 p k hp hk8, if_neg c]
  rw [← key, ← ibS_iff, Decidable.not_not]
theorem MR.se {n : Nat} : ∀ m k (σ : HS) (V : AV), ab_n V = n → IV V → MR σ V → k + m = 60 → 0 < m → MR (msQ n m (k + 1) σ).1 (seA m k V).1 ∧ (msQ n m (k + 1) σ).2 = (seA m k V).2 ∧ IV (seA m k V).1 ∧ ab_n (seA m k V).1 = n
  | 0, k, σ, V, _, _, _, _, h0 => by omega
  | m + 1, k, σ, V, hn, hv, h, hk, _ => by
    obtain ⟨g1, g2⟩ := h.stp hv
    rw [hn] at g1 g2
    rw [msQ, seA]
    by_cases c : qtI V = 0
    · rw [if_pos c, if_neg (fun z => g2.mp z c)]; exact ⟨g1, rfl, hv.hr, hn⟩
    · rw [if_neg c, if_pos (g2.mpr c)]
      by_cases d : m = 0
      · subst d
        rw [if_pos rfl, msQ]
        obtain rfl : k = 59 := by omega
        exact ⟨g1, show (60 : Int32) = nI 60 by decide +kernel, hv.hr, hn⟩
      · rw [if_neg d]; exact MR.se m (k + 1) _ _ hn hv.hr g1 (by omega) (by omega)
