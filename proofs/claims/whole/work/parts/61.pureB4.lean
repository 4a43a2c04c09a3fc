def da1 (t : Int64) (sv : Int32) (Z : AV × Int32) (i : Nat) : AV × Int32 := match osA Z.1 i with
  | none => Z
  | some p => if bD Z.1 i 4 = sv then (exV Z.1 i p t 0 0, if exO Z.1 i p t 0 0 = 0 then Z.2 + 1 else Z.2) else Z
def daI (t : Int64) (sv : Int32) (Z : AV × Int32) : Nat → AV × Int32
  | 0 => Z
  | i + 1 => da1 t sv (daI t sv Z i) i
def daO (t : Int64) (n : Nat) (Z : AV × Int32) : Nat → AV × Int32
  | 0 => Z
  | k + 1 => daI t (nI k) (daO t n Z k) n
/-- what the clocks don't touch -/
def sbs (V W : AV) : Prop := ab_n W = ab_n V ∧ IV W ∧ (∀ x, bsA W x = bsA V x) ∧ (∀ x, osA W x = osA V x) ∧ ∀ x k, bD W x k = bD V x k
theorem sbs.rf {V : AV} (h : IV V) : sbs V V := ⟨rfl, h, fun _ => rfl, fun _ => rfl, fun _ _ => rfl⟩
theorem sbs.ex {V W : AV} (h : sbs V W) {i p : Nat} {t : Int64} {r s : Int32} : sbs V (exV W i p t r s) := by
  obtain ⟨h1, h2, h3, h4, h5⟩ := h
  unfold exV
  split
  · exact ⟨h1, h2, h3, h4, h5⟩
  · exact ⟨h1, h2, h3, h4, h5⟩
theorem da1_n {t : Int64} {sv : Int32} {Z : AV × Int32} {i : Nat} (h : osA Z.1 i = none) : da1 t sv Z i = Z := by
  unfold da1; rw [h]
theorem da1_s {t : Int64} {sv : Int32} {Z : AV × Int32} {i p : Nat} (h : osA Z.1 i = some p) (c : bD Z.1 i 4 = sv) : da1 t sv Z i = (exV Z.1 i p t 0 0, if exO Z.1 i p t 0 0 = 0 then Z.2 + 1 else Z.2) := by
  unfold da1; rw [h]; exact if_pos c
theorem da1_s1 {t : Int64} {sv : Int32} {Z : AV × Int32} {i p : Nat} (h : osA Z.1 i = some p) (c : bD Z.1 i 4 = sv) : (da1 t sv Z i).1 = exV Z.1 i p t 0 0 := by rw [da1_s h c]
theorem da1_s2 {t : Int64} {sv : Int32} {Z : AV × Int32} {i p : Nat} (h : osA Z.1 i = some p) (c : bD Z.1 i 4 = sv) : (da1 t sv Z i).2 = if exO Z.1 i p t 0 0 = 0 then Z.2 + 1 else Z.2 := by rw [da1_s h c]
theorem da1_o {t : Int64} {sv : Int32} {Z : AV × Int32} {i p : Nat} (h : osA Z.1 i = some p) (c : ¬ bD Z.1 i 4 = sv) : da1 t sv Z i = Z := by
  unfold da1; rw [h]; exact if_neg c
theorem sbs.d1 {V : AV} {t : Int64} {sv : Int32} {Z : AV × Int32} {i : Nat} (h : sbs V Z.1) : sbs V (da1 t sv Z i).1 := by
  cases ho : osA Z.1 i with
  | none => rw [da1_n ho]; exact h
  | some p =>
    by_cases c : bD Z.1 i 4 = sv
    · rw [da1_s1 ho c]; exact h.ex (i := i) (p := p) (t := t) (r := 0) (s := 0)
    · rw [da1_o ho c]; exact h
theorem sbs.dI {V : AV} {t : Int64} {sv : Int32} {Z : AV × Int32} (h : sbs V Z.1) : ∀ i, sbs V (daI t sv Z i).1
  | 0 => h
  | i + 1 => (sbs.dI h i).d1
theorem sbs.dO {V : AV} {t : Int64} {n : Nat} {Z : AV × Int32} (h : sbs V Z.1) : ∀ k, sbs V (daO t n Z k).1
  | 0 => h
  | k + 1 => (sbs.dO h k).dI n
theorem z32 : 0 ≤ (0 : Int32).toInt ∧ (0 : Int32).toInt ≤ 1000000 := by decide +kernel
theorem TR.d1 {σ : HS} {c : Int32} {V : AV} {Z : AV × Int32} {t : Int64} {sv : Int32} {i : Nat} (h : TR σ Z.1) (hs : sbs V Z.1) (hc : c = Z.2) (hi : i < ab_n V) : TR (if hI σ 0 (dsI i (bsA V i)) 4 = sv then ssS σ i (dsI i (bsA V i)) t else σ) (da1 t sv Z i).1 ∧ (if hI σ 0 (dsI i (bsA V i)) 4 = sv then (if ssV σ i (dsI i (bsA V i)) t = 0 then c else c + 1) else c) = (da1 t sv Z i).2 := by
  obtain ⟨s1, s2, s3, s4, s5⟩ := hs
  have hi' : i < ab_n Z.1 := by rw [s1]; exact hi
  have e4 : hI σ 0 (dsI i (bsA V i)) 4 = bD Z.1 i 4 := by
    rw [← s3 i]; exact h.1.bd hi' (by omega) _ (fun x hx => bsJ_lt 4 x hx)
  have eo : osP σ i (dsI i (bsA V i)) = osA Z.1 i := by rw [← s3 i]; exact h.os s2 hi'
  rw [e4]
  cases ho : osA Z.1 i with
  | none =>
    have q1 : ssS σ i (dsI i (bsA V i)) t = σ := by unfold ssS; rw [eo, ho]
    have q2 : ssV σ i (dsI i (bsA V i)) t = 0 := by unfold ssV; rw [eo, ho]
    rw [da1_n ho, q1, q2, if_pos rfl]
    split
    · exact ⟨h, hc⟩
    · exact ⟨h, hc⟩
  | some p =>
    have q1 : ssS σ i (dsI i (bsA V i)) t = scS σ i (xO σ i p t 0 0) (xJ σ i p t 0 0) := by unfold ssS; rw [eo, ho]
    have q2 : ssV σ i (dsI i (bsA V i)) t = scV (xO σ i p t 0 0) := by unfold ssV; rw [eo, ho]
    obtain ⟨j, k, hj, hb, -, hk, hu⟩ := osA_some ho
    by_cases c1 : bD Z.1 i 4 = sv
    · rw [da1_s1 ho c1, da1_s2 ho c1, if_pos c1, if_pos c1, q1, q2]
      refine ⟨h.ex s2 hi' hk (t := t) z32 z32, ?_⟩
      obtain ⟨x0, -⟩ := h.1.xv s2 hi' hk (t := t) z32 z32
      unfold scV
      by_cases c2 : exO Z.1 i p t 0 0 = 0
      · rw [if_pos c2, if_pos (x0.mpr c2), if_neg (by decide), hc]
      · rw [if_neg c2, if_neg (fun z => c2 (x0.mp z)), if_pos rfl, hc]
    · rw [da1_o ho c1, if_neg c1, if_neg c1]; exact ⟨h, hc⟩
theorem TR.dI {s : HS × Int32} {V : AV} {Z : AV × Int32} {t : Int64} {sv : Int32} (h : TR s.1 Z.1) (hs : sbs V Z.1) (hc : s.2 = Z.2) : ∀ i, i ≤ ab_n V → TR (diI (fun i => dsI i (bsA V i)) t sv s i).1 (daI t sv Z i).1 ∧ (diI (fun i => dsI i (bsA V i)) t sv s i).2 = (daI t sv Z i).2
  | 0, _ => ⟨h, hc⟩
  | i + 1, hi => by
    obtain ⟨g1, g2⟩ := TR.dI (t := t) (sv := sv) h hs hc i (by omega)
    have g := g1.d1 (t := t) (sv := sv) (hs.dI i) g2 (show i < ab_n V by omega)
    rw [diI, daI]
    by_cases c : hI (diI (fun i => dsI i (bsA V i)) t sv s i).1 0 (dsI i (bsA V i)) 4 = sv
    · rw [if_pos c, if_pos c] at g; rw [if_pos c]; exact g
    · rw [if_neg c, if_neg c] at g; rw [if_neg c]; exact g
theorem TR.dO {s : HS × Int32} {V : AV} {Z : AV × Int32} {t : Int64} (h : TR s.1 Z.1) (hs : sbs V Z.1) (hc : s.2 = Z.2) : ∀ k, TR (diO (fun i => dsI i (bsA V i)) t (ab_n V) s k).1 (daO t (ab_n V) Z k).1 ∧ (diO (fun i => dsI i (bsA V i)) t (ab_n V) s k).2 = (daO t (ab_n V) Z k).2
  | 0 => ⟨h, hc⟩
  | k + 1 => by
    obtain ⟨g1, g2⟩ := TR.dO (t := t) h hs hc k
    rw [diO, daO]
    exact g1.dI (t := t) (sv := nI k) (hs.dO k) g2 (ab_n V) (Nat.le_refl _)
theorem MR.ms {σ : HS} {V : AV} (h : MR σ V) (hv : IV V) {i : Nat} (hi : i < ab_n V) : msP σ i = bD V i 4 := by
  have hn := hv.1.1
  unfold msP bD
  rw [(h.2 i hi).1]
  cases hb : bsA V i with
  | none => rw [if_pos (show obI i none < 0 from n1_lt0)]; rfl
  | some j =>
    have hj : j < 4 := bsJ_lt 4 j hb
    rw [if_neg (show ¬ obI i (some j) < 0 from nI_pos (by omega)), show (obI i (some j)).toNatClampNeg = 4 * i + j from nI_clamp (by omega)]
    exact h.1.dt (by omega) (by omega)
theorem MR.d1 {z : HS × Int32} {V : AV} {Z : AV × Int32} {t : Int64} {sv : Int32} {i : Nat} (h : MR z.1 Z.1) (hs : sbs V Z.1) (hc : z.2 = Z.2) (hi : i < ab_n V) : MR (md1 t sv z i).1 (da1 t sv Z i).1 ∧ (md1 t sv z i).2 = (da1 t sv Z i).2 := by
  obtain ⟨s1, s2, s3, s4, s5⟩ := hs
  have hi' : i < ab_n Z.1 := by rw [s1]; exact hi
  obtain ⟨c1, c2⟩ := h.cs s2 hi'
  cases ho : osA Z.1 i with
  | none =>
    rw [da1_n ho, show md1 t sv z i = z by unfold md1; rw [if_pos (c1.mpr ho)]]
    exact ⟨h, hc⟩
  | some p =>
    have cn : ¬ csV z.1 i = 0 := fun z => by have := c1.mp z; rw [ho] at this; cases this
    obtain ⟨j, k, hj, hb, -, hk, hu⟩ := osA_some ho
    have em := h.ms s2 hi'
    by_cases d : bD Z.1 i 4 = sv
    · have q : md1 t sv z i = (swQ z.1 i p t 0 0, z.2 + (if mxO z.1 i p t 0 0 = 0 then 1 else 0)) := by unfold md1; rw [if_neg cn, if_pos (em.trans d), c2 p ho]
      have q1 : (md1 t sv z i).1 = swQ z.1 i p t 0 0 := by rw [q]
      have q2 : (md1 t sv z i).2 = z.2 + (if mxO z.1 i p t 0 0 = 0 then 1 else 0) := by rw [q]
      rw [q1, q2, da1_s1 ho d, da1_s2 ho d]
      refine ⟨h.sw s2 hi' hk (t := t) (r := 0) (s := 0), ?_⟩
      rw [(h.mx s2 hi' hk (t := t) (r := 0) (s := 0)).1, hc]
      by_cases c3 : exO Z.1 i p t 0 0 = 0
      · rw [if_pos c3, if_pos c3]
      · rw [if_neg c3, if_neg c3]; exact Int32.add_zero _
    · rw [da1_o ho d, show md1 t sv z i = z by unfold md1; rw [if_neg cn, if_neg (fun w => d (em.symm.trans w))]]; exact ⟨h, hc⟩
theorem MR.dI {s : HS × Int32} {V : AV} {Z : AV × Int32} {t : Int64} {sv : Int32} (h : MR s.1 Z.1) (hs : sbs V Z.1) (hc : s.2 = Z.2) : ∀ i, i ≤ ab_n V → MR (mdI t sv s i).1 (daI t sv Z i).1 ∧ (mdI t sv s i).2 = (daI t sv Z i).2
  | 0, _ => ⟨h, hc⟩
  | i + 1, hi => by
    obtain ⟨g1, g2⟩ := MR.dI (t := t) (sv := sv) h hs hc i (by omega)
    rw [mdI, daI]
    exact g1.d1 (t := t) (sv := sv) (hs.dI i) g2 (show i < ab_n V by omega)
theorem MR.dO {s : HS × Int32} {V : AV} {Z : AV × Int32} {t : Int64} (h : MR s.1 Z.1) (hs : sbs V Z.1) (hc : s.2 = Z.2) : ∀ k, MR (mdO t (ab_n V) s k).1 (daO t (ab_n V) Z k).1 ∧ (mdO t (ab_n V) s k).2 = (daO t (ab_n V) Z k).2
  | 0 => ⟨h, hc⟩
  | k + 1 => by
    obtain ⟨g1, g2⟩ := MR.dO (t := t) h hs hc k
    rw [mdO, daO]
    exact g1.dI (t := t) (sv := nI k) (hs.dO k) g2 (ab_n V) (Nat.le_refl _)
theorem daI_15 {V : AV} {t : Int64} {Z : AV × Int32} (hs : sbs V Z.1) : ∀ i, daI t (nI 15) Z i = Z
  | 0 => rfl
  | i + 1 => by
    rw [daI, daI_15 hs i]
    cases ho : osA Z.1 i with
    | none => exact da1_n ho
    | some p =>
      obtain ⟨j, k, hj, hb, -, hk, hu⟩ := osA_some ho
      obtain ⟨-, -, -, s, hs14, e⟩ := (hs.2.1.2.2.2.2.1 (4 * i + j)).2 (bsJ_K 4 j hb)
      have e4 : bD Z.1 i 4 = nI s := by unfold bD; rw [hb]; exact e
      exact da1_o ho (fun z => by rw [e4] at z; have := (nI_eq (by omega) (by omega)).mp z; omega)
theorem daO_16 {V : AV} {t : Int64} {n : Nat} {Z : AV × Int32} (hs : sbs V Z.1) : daO t n Z 16 = daO t n Z 15 := by
  rw [daO]; exact daI_15 (hs.dO 15) n
