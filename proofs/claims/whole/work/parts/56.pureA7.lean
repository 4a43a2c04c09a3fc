/-! sums -/
def Sm (f : Nat → Int32) : Nat → Int32
  | 0 => 0
  | N + 1 => Sm f N + f N
theorem Sm_congr {f g : Nat → Int32} : ∀ N, (∀ p, p < N → f p = g p) → Sm f N = Sm g N
  | 0, _ => rfl
  | N + 1, h => by
    show Sm f N + f N = Sm g N + g N
    rw [Sm_congr N (fun p hp => h p (by omega)), h N (by omega)]
theorem Sm_0 : ∀ N, Sm (fun _ => 0) N = 0
  | 0 => rfl
  | N + 1 => by
    show Sm (fun _ => 0) N + 0 = 0
    rw [Sm_0 N]; rfl
theorem Sm_add {f g : Nat → Int32} : ∀ N, Sm (fun p => f p + g p) N = Sm f N + Sm g N
  | 0 => rfl
  | N + 1 => by
    show Sm (fun p => f p + g p) N + (f N + g N) = (Sm f N + f N) + (Sm g N + g N)
    rw [Sm_add N]
    ac_rfl
theorem Sm_swap {h : Nat → Nat → Int32} {M : Nat} : ∀ N, Sm (fun p => Sm (fun q => h p q) M) N = Sm (fun q => Sm (fun p => h p q) N) M
  | 0 => by
    show 0 = Sm (fun q => 0) M
    rw [Sm_0]
  | N + 1 => by
    show Sm (fun p => Sm (fun q => h p q) M) N + Sm (fun q => h N q) M = Sm (fun q => Sm (fun p => h p q) N + h N q) M
    rw [Sm_add, Sm_swap N]
theorem Sm_delta {c : Nat} {x : Int32} : ∀ N, Sm (fun q => if q = c then x else 0) N = if c < N then x else 0
  | 0 => by rw [if_neg (by omega)]; rfl
  | N + 1 => by
    show Sm (fun q => if q = c then x else 0) N + (if N = c then x else 0) = _
    rw [Sm_delta N]
    by_cases a : N = c
    · rw [if_pos a, if_neg (by omega), if_pos (by omega)]; exact Int32.zero_add _
    · rw [if_neg a, Int32.add_zero]
      by_cases b : c < N
      · rw [if_pos b, if_pos (by omega)]
      · rw [if_neg b, if_neg (by omega)]
theorem Sm_inv {f : Nat → Int32} {g : Nat → Nat} {N : Nat} (h1 : ∀ q, q < N → g q < N) (h2 : ∀ q, q < N → g (g q) = q) : Sm f N = Sm (fun q => f (g q)) N := by
  have e1 : Sm f N = Sm (fun p => Sm (fun q => if q = g p then f p else 0) N) N := Sm_congr N (fun p hp => by
    show f p = Sm (fun q => if q = g p then f p else 0) N
    rw [Sm_delta, if_pos (h1 p hp)])
  rw [e1, Sm_swap]
  refine Sm_congr N (fun q hq => ?_)
  show Sm (fun p => if q = g p then f p else 0) N = f (g q)
  have e2 : Sm (fun p => if q = g p then f p else 0) N = Sm (fun p => if p = g q then f (g q) else 0) N := Sm_congr N (fun p hp => by
    show (if q = g p then f p else 0) = if p = g q then f (g q) else 0
    by_cases c : p = g q
    · rw [if_pos c, if_pos (by rw [c, h2 q hq]), c]
    · rw [if_neg c, if_neg (fun z => c (by rw [z, h2 p hp]))])
  rw [e2, Sm_delta, if_pos (h1 q hq)]
theorem sdN_Sm {V : AV} : ∀ N, sdN V N = Sm (sdI V) N
  | 0 => rfl
  | N + 1 => by show sdN V N + sdI V N = _; rw [sdN_Sm N]; rfl
theorem cnN_Sm {V : AV} : ∀ N, cnN V N = Sm (rcI V) N
  | 0 => rfl
  | N + 1 => by show cnN V N + rcI V N = _; rw [cnN_Sm N]; rfl
theorem farA_n {V : AV} {q : Nat} (h : ab_k V q = none) : farA V q = q := by unfold farA; rw [h]
/-- as many are heard as are sent -/
theorem IV.cnt {V : AV} (h : IV V) : sdN V (4 * ab_n V) = cnN V (4 * ab_n V) := by
  rw [sdN_Sm, cnN_Sm, Sm_inv (f := sdI V) (g := farA V)]
  · refine Sm_congr _ (fun q hq => ?_)
    show sdI V (farA V q) = rcI V q
    cases hk : ab_k V q with
    | none => rw [farA_n hk]; unfold sdI rcI; rw [hk]
    | some k => exact (h.sdr hk).symm
  · intro q hq
    cases hk : ab_k V q with
    | none => rw [farA_n hk]; exact hq
    | some k => exact (h.far hk).2.2.1
  · intro q hq
    cases hk : ab_k V q with
    | none => rw [farA_n hk, farA_n hk]
    | some k => exact (h.far hk).1
theorem bsJ_K {V : AV} {i : Nat} : ∀ j x, bsJ V i j = some x → ¬ ab_K V (4 * i + x) = 0
  | 0, x, h => by rw [bsJ] at h; cases h
  | j + 1, x, h => by
    rw [bsJ] at h
    split at h
    · exact bsJ_K j x h
    · rename_i c
      split at h
      · exact bsJ_K j x h
      · cases h; exact c
theorem IV.tl4 {V : AV} (h : IV V) (f : Nat) : ∃ s, s ≤ 15 ∧ tlD V f 4 = nI s := by
  show ∃ s, s ≤ 15 ∧ (if bsA V (f / 4) = none then (0 : Int32) else bD V (f / 4) 4 + 1) = nI s
  cases hb : bsA V (f / 4) with
  | none => exact ⟨0, by omega, by rw [if_pos rfl]; exact nI_0.symm⟩
  | some x =>
    obtain ⟨-, -, -, s, hs, e⟩ := (h.2.2.2.2.1 (4 * (f / 4) + x)).2 (bsJ_K 4 x hb)
    refine ⟨s + 1, by omega, ?_⟩
    rw [if_neg (by intro z; cases z)]
    unfold bD
    rw [hb]
    show ab_T V (4 * (f / 4) + x) 4 + 1 = _
    rw [e, nI_succ]
theorem n15 {s : Nat} (h : s ≤ 15) : ((15 : Int32) ≤ nI s ↔ nI s = 15) := by
  have e : (15 : Int32) = nI 15 := by decide +kernel
  rw [e]
  constructor
  · intro z
    by_cases c : s = 15
    · rw [c]
    · exact absurd z (nI_ge (by omega) (by omega))
  · intro z
    rw [z]; exact nI_le (Nat.le_refl _) (by omega)
/-- what hearing leaves alone -/
def gmf (σ τ : HS) : Prop := hR τ = hR σ ∧ hl τ = hl σ ∧ hJ τ = hJ σ ∧ hn τ = hn σ ∧ ∀ q a k, ¬ (q = 8 ∧ a = 1) → ¬ (q = 7 ∧ (a = 8 ∨ a = 9)) → hI τ q a k = hI σ q a k
theorem gmf.rf {σ : HS} : gmf σ σ := ⟨rfl, rfl, rfl, rfl, fun _ _ _ _ _ => rfl⟩
theorem gmf.trans {σ τ υ : HS} (h : gmf σ τ) (h' : gmf τ υ) : gmf σ υ := ⟨h'.1.trans h.1, h'.2.1.trans h.2.1, h'.2.2.1.trans h.2.2.1, h'.2.2.2.1.trans h.2.2.2.1, fun q a k h1 h2 => (h'.2.2.2.2 q a k h1 h2).trans (h.2.2.2.2 q a k h1 h2)⟩
theorem gmf.mg {τ : HS} {p : Nat} : gmf τ (mgS τ p) := by
  unfold mgS hgS
  split
  · exact gmf.rf
  · exact ⟨rfl, rfl, rfl, rfl, fun q a k h1 h2 => by rw [I_sI, if_neg (fun z => h1 ⟨z.1, z.2.1⟩), I_sI, if_neg (fun z => h2 (by omega))]⟩
theorem gmf.ht {τ : HS} {p : Nat} : gmf τ (htS τ p) := by
  unfold htS htK
  exact ⟨rfl, rfl, rfl, rfl, fun q a k h1 h2 => by rw [I_sA, if_neg (fun z => h2 (by omega)), I_sI, if_neg (fun z => h2 (by omega)), I_sI, if_neg (fun z => h1 ⟨z.1, z.2.1⟩)]⟩
theorem gmf.mh {τ : HS} {p : Nat} : gmf τ (mhS τ p) := by
  unfold mhS
  split
  · exact gmf.mg
  · split
    · exact gmf.mg
    · split
      · exact gmf.mg
      · exact gmf.ht
theorem MB.prt {τ τ' : HS} {V : AV} {P : Nat} (h : MB τ (hrP V P)) (hf : gmf τ τ')
    (hp : ∀ p, p < 40 → p ≠ P → hI τ' 8 1 p = hI τ 8 1 p ∧ hI τ' 7 8 p = hI τ 7 8 p ∧ ∀ k, k < 8 → hI τ' 7 9 (8 * p + k) = hI τ 7 9 (8 * p + k))
    (hP : hI τ' 8 1 P = hK V P ∧ hI τ' 7 8 P = hA V P ∧ ∀ k, k < 8 → hI τ' 7 9 (8 * P + k) = hT V P k) : MB τ' (hrP V (P + 1)) := by
  obtain ⟨h1, h2, h3, h4, h5⟩ := h
  obtain ⟨f1, f2, f3, -, f4⟩ := hf
  refine ⟨h1.of f1 f2, ⟨by rw [f4 6 0 1 (by omega) (by omega)]; exact h2.1, by rw [f4 6 0 8 (by omega) (by omega)]; exact h2.2⟩, fun i hi => ?_, fun p hp' => ?_, fun k hk => ?_⟩
  · rw [f4 7 1 i (by omega) (by omega), f4 7 2 i (by omega) (by omega), f4 7 3 i (by omega) (by omega), f4 7 0 i (by omega) (by omega), f3]; exact h3 i hi
  · rw [f4 7 6 p (by omega) (by omega)]
    by_cases e : p = P
    · subst e
      refine ⟨?_, ?_, fun k hk => ?_, (h4 p hp').2.2.2⟩
      · show _ = if p < p + 1 then hK V p else ab_K V p; rw [if_pos (by omega)]; exact hP.1
      · show _ = if p < p + 1 then hA V p else ab_A V p; rw [if_pos (by omega)]; exact hP.2.1
      · show _ = (if p < p + 1 then hT V p else ab_T V p) k; rw [if_pos (by omega)]; exact hP.2.2 k hk
    · have g := h4 p hp'
      obtain ⟨g1, g2, g3⟩ := hp p hp' e
      refine ⟨?_, ?_, fun k hk => ?_, g.2.2.2⟩
      · show _ = if p < P + 1 then hK V p else ab_K V p; rw [hrP_k (V := V) e, g1]; exact g.1
      · show _ = if p < P + 1 then hA V p else ab_A V p; rw [hrP_k (V := V) e, g2]; exact g.2.1
      · show _ = (if p < P + 1 then hT V p else ab_T V p) k; rw [hrP_k (V := V) e, g3 k hk]; exact g.2.2.1 k hk
  · rw [f4 7 4 _ (by omega) (by omega), f4 7 4 _ (by omega) (by omega), f4 7 5 _ (by omega) (by omega), f4 7 5 _ (by omega) (by omega), f4 8 0 k (by omega) (by omega)]; exact h5 k hk
theorem MB.pv {τ : HS} {V : AV} {P : Nat} (h : MB τ (hrP V P)) (hP : P < 40) : hI τ 8 1 P = ab_K V P ∧ hI τ 7 8 P = ab_A V P ∧ ∀ k, k < 8 → hI τ 7 9 (8 * P + k) = ab_T V P k := by
  have g := h.2.2.2.1 P hP
  refine ⟨?_, ?_, fun k hk => ?_⟩
  · rw [g.1]; show (if P < P then _ else _) = _; rw [if_neg (by omega)]
  · rw [g.2.1]; show (if P < P then _ else _) = _; rw [if_neg (by omega)]
  · rw [g.2.2.1 k hk]; show (if P < P then hT V P else ab_T V P) k = _; rw [if_neg (by omega)]
theorem MB.mg {τ : HS} {V : AV} {P : Nat} (h : MB τ (hrP V P)) (hv : IV V) (hP : P < 40) (ha : acI V P = 0) : MB (mgS τ P) (hrP V (P + 1)) := by
  obtain ⟨v1, v2, v3⟩ := h.pv hP
  have e0 : ∀ p, p ≠ P → hI (mgS τ P) 8 1 p = hI τ 8 1 p ∧ hI (mgS τ P) 7 8 p = hI τ 7 8 p := fun p hp => by
    unfold mgS hgS
    split
    · exact ⟨rfl, rfl⟩
    · exact ⟨by rw [I_sI, if_neg (by omega), I_sI, if_neg (by omega)], by rw [I_sI, if_neg (by omega), I_sI, if_neg (by omega)]⟩
  have e9 : ∀ j, hI (mgS τ P) 7 9 j = hI τ 7 9 j := fun j => by
    unfold mgS hgS
    split
    · rfl
    · rw [I_sI, if_neg (by omega), I_sI, if_neg (by omega)]
  refine h.prt gmf.mg (fun p _ hp => ⟨(e0 p hp).1, (e0 p hp).2, fun k _ => e9 _⟩) ⟨?_, ?_, fun k hk => ?_⟩
  · unfold mgS hgS hK
    rw [if_pos ha, v1, v2]
    split
    · rename_i c; rw [v1]
    · rename_i c
      rw [I_sI, if_pos ⟨rfl, rfl, rfl⟩]
      have : ab_K V P = 1 := by rcases (hv.2.2.2.2.1 P).1 with d | d; exact absurd d c; exact d
      rw [this]
  · unfold mgS hgS hA
    rw [if_pos ha, v1, v2]
    split
    · exact v2
    · rw [I_sI, if_neg (by omega), I_sI, if_pos ⟨rfl, rfl, rfl⟩]
  · rw [e9, v3 k hk]; unfold hT; rw [if_pos ha]
theorem MB.mh {τ : HS} {V : AV} {P : Nat} (h : MB τ (hrP V P)) (hv : IV V) (hs : SB τ V (4 * ab_n V)) (hP : P < 4 * ab_n V) : MB (mhS τ P) (hrP V (P + 1)) := by
  have hn := hv.1.1
  have hP4 : P < 40 := by omega
  have c8 := hs.1 P hP4
  have ho : hI τ 7 0 (P / 4) = ab_O V (P / 4) 3 := (h.2.2.1 (P / 4) (show P / 4 < ab_n V by omega)).2.2.2.1
  by_cases hr : rcI V P = 0
  · rw [if_neg (fun z => z.1 hr)] at c8
    have ha : acI V P = 0 := by unfold acI; rw [if_pos hr]
    have e : mhS τ P = mgS τ P := by unfold mhS; rw [if_pos c8]
    rw [e]; exact h.mg hv hP4 ha
  · obtain ⟨k, hk⟩ := rcI_k hr
    have hfl := (hv.far hk).2.2.1
    rw [if_pos ⟨hr, hfl⟩] at c8
    obtain ⟨d1, d2⟩ := hs.2 P hP4 hr hfl
    obtain ⟨s, hs15, e4⟩ := hv.tl4 (farA V P)
    have ea : acI V P = if nI s = 15 then 0 else if tlD V (farA V P) 3 = ab_O V (P / 4) 3 then 0 else 1 := by
      unfold acI
      rw [if_neg hr, e4]
      by_cases c : nI s = 15
      · rw [if_pos c, if_pos ((n15 hs15).mpr c)]
      · rw [if_neg c, if_neg (fun z => c ((n15 hs15).mp z))]
    have em : mhS τ P = if nI s = 15 then mgS τ P else if tlD V (farA V P) 3 = ab_O V (P / 4) 3 then mgS τ P else htS τ P := by
      unfold mhS
      rw [c8, if_neg (by decide), d1 4 (by omega), d1 3 (by omega), e4, ho]
    rw [em]
    by_cases c : nI s = 15
    · rw [if_pos c] at ea ⊢; exact h.mg hv hP4 ea
    · rw [if_neg c] at ea ⊢
      by_cases d : tlD V (farA V P) 3 = ab_O V (P / 4) 3
      · rw [if_pos d] at ea ⊢; exact h.mg hv hP4 ea
      · rw [if_neg d] at ea ⊢
        have ha : ¬ acI V P = 0 := by rw [ea]; decide
        refine h.prt gmf.ht (fun p _ hp => ⟨?_, ?_, fun k hk => ?_⟩) ⟨?_, ?_, fun k hk => ?_⟩
        · unfold htS htK; rw [I_sA, if_neg (by omega), I_sI, if_neg (by omega), I_sI, if_neg (by omega)]
        · unfold htS htK; rw [I_sA, if_neg (by omega), I_sI, if_neg (by omega), I_sI, if_neg (by omega)]
        · unfold htS htK; rw [I_sA, if_pos ⟨rfl, rfl⟩]; unfold cpr; rw [if_neg (by omega)]
        · unfold htS htK hK; rw [I_sA, if_neg (by omega), I_sI, if_neg (by omega), I_sI, if_pos ⟨rfl, rfl, rfl⟩, if_neg ha]
        · unfold htS htK hA; rw [I_sA, if_neg (by omega), I_sI, if_pos ⟨rfl, rfl, rfl⟩, if_neg ha]
        · unfold htS htK hT
          rw [I_sA, if_pos ⟨rfl, rfl⟩, if_neg ha]
          unfold cpr
          rw [if_pos (by omega)]
          match k, hk with
          | 0, _ => exact d1 0 (by omega)
          | 1, _ => exact d1 1 (by omega)
          | 2, _ => exact d1 2 (by omega)
          | 3, _ => exact d1 3 (by omega)
          | 4, _ => exact d1 4 (by omega)
          | 5, _ => exact d1 5 (by omega)
          | 6, _ => exact d1 6 (by omega)
          | 7, _ => exact d2
          | k + 8, hk => omega
theorem hrM_0 {σ : HS} {V : AV} (h : MB σ V) : MB σ (hrP V 0) := ⟨h.1, h.2.1, h.2.2.1, fun p hp => by
  have := h.2.2.2.1 p hp
  refine ⟨?_, ?_, ?_, this.2.2.2⟩
  · show _ = if p < 0 then hK V p else ab_K V p; rw [if_neg (by omega)]; exact this.1
  · show _ = if p < 0 then hA V p else ab_A V p; rw [if_neg (by omega)]; exact this.2.1
  · intro k hk; show _ = (if p < 0 then hT V p else ab_T V p) k; rw [if_neg (by omega)]; exact this.2.2.1 k hk, h.2.2.2.2⟩
theorem MB.ph {τ : HS} {V : AV} (h : MB τ V) (hv : IV V) (hs : SB τ V (4 * ab_n V)) : ∀ P, P ≤ 4 * ab_n V → MB (phS τ P) (hrP V P) ∧ gmf τ (phS τ P)
  | 0, _ => by rw [phS]; exact ⟨hrM_0 h, gmf.rf⟩
  | P + 1, hP => by
    obtain ⟨g1, g2⟩ := MB.ph h hv hs P (by omega)
    rw [phS]
    refine ⟨g1.mh hv ⟨fun q hq => ?_, fun q hq hr hf => ⟨fun k hk => ?_, ?_⟩⟩ (by omega), g2.trans gmf.mh⟩
    · rw [g2.2.2.2.2 8 2 q (by omega) (by omega)]; exact hs.1 q hq
    · rw [g2.2.2.2.2 7 10 _ (by omega) (by omega)]; exact (hs.2 q hq hr hf).1 k hk
    · rw [g2.2.2.2.2 7 10 _ (by omega) (by omega)]; exact (hs.2 q hq hr hf).2
/-- a round of the model -/
theorem MR.pa {σ : HS} {V : AV} (h : MR σ V) (hv : IV V) : MR (paS σ (ab_n V)) (hrV V) ∧ (snS σ (4 * ab_n V)).2 = cnN V (4 * ab_n V) := by
  obtain ⟨g1, g2, g3⟩ := h.sn hv (4 * ab_n V) (by omega)
  obtain ⟨k1, k2⟩ := (h.1.mf g1).ph hv g2 (4 * ab_n V) (by omega)
  have k1' : MB (phS (snS σ (4 * ab_n V)).1 (4 * ab_n V)) (hrV V) := k1
  exact ⟨k1'.MRfa hv.1.1 hv.L16, by rw [g3]; exact hv.cnt⟩
