/-- what holds of every view that calls lead to -/
def IV (V : AV) : Prop := (ab_n V ≤ 10 ∧ ab_L V ≤ 16) ∧
  (∀ k, k < ab_L V → ab_X V k < 4 * ab_n V ∧ ab_Y V k < 4 * ab_n V ∧ ab_X V k ≠ ab_Y V k ∧ ab_k V (ab_X V k) = some k ∧ ab_k V (ab_Y V k) = some k) ∧
  (∀ k, k < ab_L V → (0 ≤ ab_W V k ∧ ab_W V k ≤ 1000000000) ∧ (0 ≤ ab_B V k ∧ ab_B V k ≤ 1000000000) ∧ (ab_U V k = 0 ∨ ab_U V k = 1)) ∧
  (∀ p k, ab_k V p = some k → k < ab_L V ∧ p < 4 * ab_n V ∧ (p = ab_X V k ∨ p = ab_Y V k)) ∧
  (∀ p, (ab_K V p = 0 ∨ ab_K V p = 1) ∧ (¬ ab_K V p = 0 → p < 4 * ab_n V ∧ ab_k V p ≠ none ∧ ab_T V p 7 = nI (p % 4) ∧ ∃ s, s ≤ 14 ∧ ab_T V p 4 = nI s)) ∧
  (∀ p, 4 * ab_n V ≤ p → ab_A V p = 0 ∧ ∀ k, k < 8 → ab_T V p k = 0)
theorem IV.L16 {V : AV} (h : IV V) : ∀ p k, ab_k V p = some k → k < 16 := fun p k hk => by have := (h.2.2.2.1 p k hk).1; have := h.1.2; omega
theorem IV.far {V : AV} (h : IV V) {q k : Nat} (hk : ab_k V q = some k) : farA V (farA V q) = q ∧ ab_k V (farA V q) = some k ∧ farA V q < 4 * ab_n V ∧ farA V q ≠ q := by
  obtain ⟨hL, hq, hxy⟩ := h.2.2.2.1 q k hk
  obtain ⟨x1, y1, ne, kx, ky⟩ := h.2.1 k hL
  by_cases c : q = ab_X V k
  · have e : farA V q = ab_Y V k := by unfold farA; rw [hk]; show (if q = ab_X V k then _ else _) = _; rw [if_pos c]
    have e2 : farA V (ab_Y V k) = ab_X V k := by unfold farA; rw [ky]; show (if ab_Y V k = ab_X V k then _ else _) = _; rw [if_neg (fun z => ne z.symm)]
    rw [e, e2, ky]
    exact ⟨c.symm, rfl, y1, fun z => ne (z.trans c).symm⟩
  · have d : q = ab_Y V k := by rcases hxy with d | d; exact absurd d c; exact d
    have e : farA V q = ab_X V k := by unfold farA; rw [hk]; show (if q = ab_X V k then _ else _) = _; rw [if_neg c]
    have e2 : farA V (ab_X V k) = ab_Y V k := by unfold farA; rw [kx]; show (if ab_X V k = ab_X V k then _ else _) = _; rw [if_pos rfl]
    rw [e, e2, kx]
    exact ⟨d.symm, rfl, x1, fun z => ne (z.trans d)⟩
def sdI (V : AV) (p : Nat) : Int32 := match ab_k V p with
  | none => 0
  | some k => if ab_U V k = 0 then 0 else if stA V p = 1 then 1 else 0
theorem IV.sdr {V : AV} (h : IV V) {q k : Nat} (hk : ab_k V q = some k) : rcI V q = sdI V (farA V q) := by
  unfold rcI sdI
  rw [hk, (h.far hk).2.1]
theorem rcI_k {V : AV} {q : Nat} (h : ¬ rcI V q = 0) : ∃ k, ab_k V q = some k := by
  cases hk : ab_k V q with
  | none => exact absurd (by unfold rcI; rw [hk]) h
  | some k => exact ⟨k, rfl⟩
theorem sdI_k {V : AV} {q : Nat} (h : ¬ sdI V q = 0) : ∃ k, ab_k V q = some k := by
  cases hk : ab_k V q with
  | none => exact absurd (by unfold sdI; rw [hk]) h
  | some k => exact ⟨k, rfl⟩
theorem sdI_01 {V : AV} {q : Nat} : sdI V q = 0 ∨ sdI V q = 1 := by
  unfold sdI
  split
  · exact Or.inl rfl
  · split
    · exact Or.inl rfl
    · split
      · exact Or.inr rfl
      · exact Or.inl rfl
theorem rcI_01 {V : AV} {q : Nat} : rcI V q = 0 ∨ rcI V q = 1 := by
  unfold rcI
  split
  · exact Or.inl rfl
  · split
    · exact Or.inl rfl
    · split
      · exact Or.inr rfl
      · exact Or.inl rfl
theorem IV.acx {σ : HS} {V : AV} (h : IV V) (hM : MB σ V) {p k : Nat} (hk : ab_k V p = some k) : mlk σ p = k ∧ acr σ p = farA V p := by
  obtain ⟨hL, hp, hxy⟩ := h.2.2.2.1 p k hk
  obtain ⟨x1, y1, ne, -, -⟩ := h.2.1 k hL
  have hn := h.1.1
  have h16 := h.L16 p k hk
  have e1 : mlk σ p = k := by unfold mlk; rw [(hM.2.2.2.1 p (by omega)).2.2.2, hk]; exact nI_clamp (by omega)
  obtain ⟨g1, g2, -⟩ := hM.2.2.2.2 k hL
  refine ⟨e1, ?_⟩
  unfold acr farA
  rw [e1, g1, g2, hk]
  show (if nI (ab_X V k) = nI p then _ else _ : Int32).toNatClampNeg = if p = ab_X V k then _ else _
  by_cases c : p = ab_X V k
  · rw [if_pos c, if_pos (by rw [c]), nI_clamp (by omega)]
  · rw [if_neg c, if_neg (fun z => c ((nI_eq (by omega) (by omega)).mp z).symm), nI_clamp (by omega)]
theorem st1_k {V : AV} {p : Nat} (h : stA V p = 1) : ∃ k, ab_k V p = some k := by
  cases hk : ab_k V p with
  | none => unfold stA at h; rw [if_pos hk] at h; exact absurd h (by decide)
  | some k => exact ⟨k, rfl⟩
def sdN (V : AV) : Nat → Int32
  | 0 => 0
  | P + 1 => sdN V P + sdI V P
/-- what has been sent when the ports below P have -/
def SB (σ : HS) (V : AV) (P : Nat) : Prop := (∀ q, q < 40 → hI σ 8 2 q = if ¬ rcI V q = 0 ∧ farA V q < P then 1 else 0) ∧ ∀ q, q < 40 → ¬ rcI V q = 0 → farA V q < P → (∀ k, k < 7 → hI σ 7 10 (8 * q + k) = tlD V (farA V q) k) ∧ hI σ 7 10 (8 * q + 7) = nI (q % 4)
theorem sdT_eq {τ : HS} {V : AV} (hM : MB τ V) (h : IV V) {p : Nat} (hp : p < 4 * ab_n V) (hb : hI τ 7 13 (p / 4) = obI (p / 4) (bsA V (p / 4))) (to : Nat) : mfr τ (sdT τ p to) ∧ (∀ q, hI (sdT τ p to) 8 2 q = if q = to then 1 else hI τ 8 2 q) ∧ (∀ k, k < 7 → hI (sdT τ p to) 7 10 (8 * to + k) = tlD V p k) ∧ hI (sdT τ p to) 7 10 (8 * to + 7) = nI (to % 4) ∧ ∀ j, ¬ (8 * to ≤ j ∧ j < 8 * to + 8) → hI (sdT τ p to) 7 10 j = hI τ 7 10 j := by
  have hn := h.1.1
  have e14 := toS_14 hM (i := p / 4) (j := p % 4) (by omega) hn (by omega) hb
  rw [p_ij] at e14
  refine ⟨((mfr.to.trans (mfr.oA7 (by omega))).trans (mfr.oI7 (by omega))).trans (mfr.oI8 (by omega)), fun q => ?_, fun k hk => ?_, ?_, fun j hj => ?_⟩
  · unfold sdT
    rw [I_sI]
    by_cases c : q = to
    · rw [if_pos ⟨rfl, rfl, c⟩, if_pos c]
    · rw [if_neg (fun z => c z.2.2), if_neg c, I_sI, if_neg (by omega), I_sA, if_neg (by omega)]
      unfold toS; rw [I_sA, if_neg (by omega)]
  · unfold sdT
    rw [I_sI, if_neg (by omega), I_sI, if_neg (by omega), I_sA, if_pos ⟨rfl, rfl⟩]
    unfold cps
    rw [if_pos (by omega), show 8 * to + k - 8 * to = k by omega]
    exact e14 k (by omega)
  · unfold sdT
    rw [I_sI, if_neg (by omega), I_sI, if_pos ⟨rfl, rfl, rfl⟩]
  · unfold sdT
    rw [I_sI, if_neg (by omega), I_sI, if_neg (by omega), I_sA, if_pos ⟨rfl, rfl⟩]
    unfold cps
    rw [if_neg (by omega)]
    unfold toS; rw [I_sA, if_neg (by omega)]
theorem MR.sn {σ : HS} {V : AV} (hM : MR σ V) (h : IV V) : ∀ P, P ≤ 4 * ab_n V → mfr σ (snS σ P).1 ∧ SB (snS σ P).1 V P ∧ (snS σ P).2 = sdN V P
  | 0, _ => by
    rw [snS]
    refine ⟨mfr.oA8 (by omega), ⟨fun q hq => ?_, fun q hq _ z => by omega⟩, rfl⟩
    show hI (cmS σ 40) 8 2 q = _
    unfold cmS
    rw [I_sA, if_pos ⟨rfl, rfl⟩, if_neg (by omega)]
    unfold cpy
    rw [if_pos hq]
  | P + 1, hP => by
    obtain ⟨g1, ⟨g2, g3⟩, g4⟩ := MR.sn hM h P (by omega)
    have hI7 : ∀ a k, ¬ (a = 10 ∨ a = 14) → hI (snS σ P).1 7 a k = hI σ 7 a k := fun a k ha => snS_I (by omega) (by omega) P
    rw [snS_s]
    generalize snS σ P = z at g1 g2 g3 g4 hI7 ⊢
    have hz := hM.1.mf g1
    have hst : hI z.1 7 7 P = stA V P := by
      rw [hI7 7 P (by omega)]
      have := (hM.2 (P / 4) (by omega)).2 (P % 4) (by omega)
      rwa [p_ij] at this
    have hbs : hI z.1 7 13 (P / 4) = obI (P / 4) (bsA V (P / 4)) := by
      rw [hI7 13 _ (by omega)]; exact (hM.2 (P / 4) (by omega)).1
    have hn := h.1.1
    have e : sdN V (P + 1) = sdN V P + sdI V P := rfl
    by_cases hs : sdI V P = 0
    · have ez : sn1 z P = z := by
        unfold sn1
        rw [hst]
        split
        · rename_i c
          obtain ⟨k, hk⟩ := st1_k c
          obtain ⟨m1, -⟩ := h.acx hz hk
          have hL := (h.2.2.2.1 P k hk).1
          rw [m1, (hz.2.2.2.2 k hL).2.2.2.2]
          have : ab_U V k = 0 := by
            unfold sdI at hs
            rw [hk] at hs
            simp only at hs
            split at hs
            · assumption
            · exact absurd hs (by decide)
          rw [if_pos this]
        · rfl
      have hno : ∀ q, ¬ rcI V q = 0 → (farA V q < P + 1 ↔ farA V q < P) := fun q hq => by
        obtain ⟨k, hk⟩ := rcI_k hq
        have hne : farA V q ≠ P := fun z => hq (by rw [h.sdr hk, z]; exact hs)
        omega
      rw [ez, e, hs]
      refine ⟨g1, ⟨fun q hq => ?_, fun q hq hr hf => g3 q hq hr ((hno q hr).mp hf)⟩, by rw [g4]; exact (Int32.add_zero _).symm⟩
      rw [g2 q hq]
      by_cases c : ¬ rcI V q = 0 ∧ farA V q < P
      · rw [if_pos c, if_pos ⟨c.1, by omega⟩]
      · rw [if_neg c, if_neg (fun z => c ⟨z.1, (hno q z.1).mp z.2⟩)]
    · obtain ⟨k, hk⟩ := sdI_k hs
      obtain ⟨m1, m2⟩ := h.acx hz hk
      have hL := (h.2.2.2.1 P k hk).1
      obtain ⟨f1, f2, f3, f4⟩ := h.far hk
      have s1 : sdI V P = 1 := by rcases sdI_01 (V := V) (q := P) with c | c; exact absurd c hs; exact c
      have hU : ¬ ab_U V k = 0 := fun c => hs (by unfold sdI; rw [hk]; show (if ab_U V k = 0 then _ else _) = _; rw [if_pos c])
      have hS : stA V P = 1 := by
        unfold sdI at hs
        rw [hk] at hs
        simp only [if_neg hU] at hs
        split at hs
        · assumption
        · exact absurd rfl hs
      have ez : sn1 z P = (sdT z.1 P (farA V P), z.2 + 1) := by
        unfold sn1
        rw [hst, if_pos hS, m1, m2, (hz.2.2.2.2 k hL).2.2.2.2, if_neg hU]
      obtain ⟨t1, t2, t3, t4, t5⟩ := sdT_eq hz h (p := P) (by omega) hbs (farA V P)
      have hrt : ¬ rcI V (farA V P) = 0 := by rw [h.sdr f2, f1]; exact hs
      have hot : ∀ q, q ≠ farA V P → ¬ rcI V q = 0 → (farA V q < P + 1 ↔ farA V q < P) := fun q hq hr => by
        obtain ⟨k', hk'⟩ := rcI_k hr
        have hne : farA V q ≠ P := fun z => hq (by rw [← z, (h.far hk').1])
        omega
      rw [ez, e, s1]
      refine ⟨g1.trans t1, ⟨fun q hq => ?_, fun q hq hr hf => ?_⟩, by show z.2 + 1 = _; rw [g4]⟩
      · rw [t2 q]
        by_cases c : q = farA V P
        · rw [if_pos c, c, if_pos ⟨hrt, by rw [f1]; omega⟩]
        · rw [if_neg c, g2 q hq]
          by_cases d : ¬ rcI V q = 0 ∧ farA V q < P
          · rw [if_pos d, if_pos ⟨d.1, by omega⟩]
          · rw [if_neg d, if_neg (fun z => d ⟨z.1, (hot q c z.1).mp z.2⟩)]
      · by_cases c : q = farA V P
        · rw [c, f1]; exact ⟨t3, t4⟩
        · obtain ⟨k1, k2⟩ := g3 q hq hr ((hot q c hr).mp hf)
          exact ⟨fun k hk => by show hI (sdT z.1 P (farA V P)) 7 10 _ = _; rw [t5 _ (by omega)]; exact k1 k hk, by show hI (sdT z.1 P (farA V P)) 7 10 _ = _; rw [t5 _ (by omega)]; exact k2⟩
