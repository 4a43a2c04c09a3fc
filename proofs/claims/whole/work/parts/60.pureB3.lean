def thA (V : AV) (p : Nat) : Int32 := match ab_k V p with
  | none => 0
  | some k => if p = ab_X V k then ab_B V k else ab_W V k
def bkA (V : AV) (p : Nat) : Int32 := match ab_k V p with
  | none => 0
  | some k => if p = ab_X V k then ab_W V k else ab_B V k
def exO (V : AV) (i p : Nat) (t : Int64) (r s : Int32) : Int32 := swO t (thA V p) (bkA V p) (ab_F V i) (ab_F V (farA V p / 4)) r s
def exF (V : AV) (i p : Nat) (t : Int64) (r s : Int32) : Int64 := swF t (thA V p) (bkA V p) (ab_F V i) (ab_F V (farA V p / 4)) r s
def exD (V : AV) (i p : Nat) (t : Int64) (r s : Int32) : Int64 := swD t (thA V p) (bkA V p) (ab_F V i) (ab_F V (farA V p / 4)) r s
def exN (V : AV) (i p : Nat) (t : Int64) (r s : Int32) : Int64 := swN t (thA V p) (bkA V p) (ab_F V i) (ab_F V (farA V p / 4)) r s
def exU (V : AV) (i : Nat) (nx d : Int64) : AV := (V.1, V.2.1, (fun x => if x = i then nx else ab_F V x, fun x => if x = i then d else ab_D V x), V.2.2.2.1, V.2.2.2.2)
def exV (V : AV) (i p : Nat) (t : Int64) (r s : Int32) : AV := if exO V i p t r s = 0 then exU V i (exN V i p t r s) (exD V i p t r s) else V
def osA (V : AV) (i : Nat) : Option Nat := match bsA V i with
  | none => none
  | some j => match ab_k V (4 * i + j) with
    | none => none
    | some k => if ab_U V k = 0 then none else some (4 * i + j)
theorem osA_some {V : AV} {i p : Nat} (h : osA V i = some p) : ∃ j k, j < 4 ∧ bsA V i = some j ∧ p = 4 * i + j ∧ ab_k V p = some k ∧ ¬ ab_U V k = 0 := by
  unfold osA at h
  cases hb : bsA V i with
  | none => rw [hb] at h; cases h
  | some j =>
    rw [hb] at h
    simp only at h
    cases hk : ab_k V (4 * i + j) with
    | none => rw [hk] at h; cases h
    | some k =>
      rw [hk] at h
      simp only at h
      split at h
      · cases h
      · rename_i c
        cases h
        exact ⟨j, k, bsJ_lt 4 j hb, rfl, rfl, hk, c⟩
/-- the tree's port to set the clock by -/
theorem TR.os {σ : HS} {V : AV} (h : TR σ V) (hv : IV V) {i : Nat} (hi : i < ab_n V) : osP σ i (dsI i (bsA V i)) = osA V i := by
  unfold osP osA
  cases hb : bsA V i with
  | none =>
    have e : hI σ 0 (dsI i none) 7 = -1 := (h.1.2.2.1 i hi).1 7 (by omega)
    rw [e, if_pos (Or.inl n1_lt0)]
  | some j =>
    have hj : j < 4 := bsJ_lt 4 j hb
    have hK := bsJ_K 4 j hb
    have e : hI σ 0 (dsI i (some j)) 7 = nI j := by
      have e1 : hI σ 0 (9 * i + 1 + 2 * j) 7 = ab_T V (4 * i + j) 7 := h.1.kd hi hj (by omega)
      have e2 := ((hv.2.2.2.2.1 (4 * i + j)).2 hK).2.2.1
      rw [show (4 * i + j) % 4 = j by omega] at e2
      exact e1.trans e2
    rw [e, nI_clamp (by omega), if_neg (by
      intro z
      rcases z with z | z
      · exact absurd z (nI_pos (by omega))
      · rw [show (4 : Int32) = nI 4 by decide +kernel] at z
        exact absurd z (nI_ge (by omega) (by omega)))]
    have h7 := (h.1.2.2.2.1 (4 * i + j) (by omega)).2.2.2
    rw [h7]
    simp only
    cases hk : ab_k V (4 * i + j) with
    | none => rfl
    | some k =>
      have hL := (hv.2.2.2.1 _ k hk).1
      have hu := (h.1.2.2.2.2 k hL).2.2.2.2
      show (if hI σ 3 ((3 + 16 * k) / 16) 4 = 0 then none else some (4 * i + j)) = if ab_U V k = 0 then none else some (4 * i + j)
      rw [show (3 + 16 * k) / 16 = k by omega, hu]
theorem le32 {a b : Int32} (h : a ≤ b) : a.toInt ≤ b.toInt := Int32.le_iff_toInt_le.mp h
theorem IV.dl {V : AV} (h : IV V) {p k : Nat} (hk : ab_k V p = some k) : (0 ≤ (thA V p).toInt ∧ (thA V p).toInt ≤ 1000000000) ∧ (0 ≤ (bkA V p).toInt ∧ (bkA V p).toInt ≤ 1000000000) := by
  have hL := (h.2.2.2.1 p k hk).1
  obtain ⟨⟨a1, a2⟩, ⟨b1, b2⟩, -⟩ := h.2.2.1 k hL
  have a1 := le32 a1
  have a2 := le32 a2
  have b1 := le32 b1
  have b2 := le32 b2
  have z0 : (0 : Int32).toInt = 0 := by decide +kernel
  have z1 : (1000000000 : Int32).toInt = 1000000000 := by decide +kernel
  rw [z0] at a1 b1
  rw [z1] at a2 b2
  unfold thA bkA
  rw [hk]
  show ((0 ≤ (if p = ab_X V k then ab_B V k else ab_W V k).toInt ∧ (if p = ab_X V k then ab_B V k else ab_W V k).toInt ≤ 1000000000) ∧ (0 ≤ (if p = ab_X V k then ab_W V k else ab_B V k).toInt ∧ (if p = ab_X V k then ab_W V k else ab_B V k).toInt ≤ 1000000000))
  by_cases c : p = ab_X V k
  · rw [if_pos c, if_pos c]; exact ⟨⟨b1, b2⟩, a1, a2⟩
  · rw [if_neg c, if_neg c]; exact ⟨⟨a1, a2⟩, b1, b2⟩
theorem TB.xv {σ : HS} {V : AV} (h : TB σ V) (hv : IV V) {i p k : Nat} (hi : i < ab_n V) (hk : ab_k V p = some k) {t : Int64} {r u : Int32} (hr : 0 ≤ r.toInt ∧ r.toInt ≤ 1000000) (hu : 0 ≤ u.toInt ∧ u.toInt ≤ 1000000) : (xO σ i p t r u = 0 ↔ exO V i p t r u = 0) ∧ xJ σ i p t r u 1 = exF V i p t r u ∧ xJ σ i p t r u 2 = exD V i p t r u ∧ xJ σ i p t r u 3 = exN V i p t r u := by
  have hp := (hv.2.2.2.1 p k hk).2.1
  obtain ⟨hL, h7, hf, hfl⟩ := h.far hp hk
  obtain ⟨gx, gy, gw, gb, gu⟩ := h.2.2.2.2 k hL
  have e1 : lkP σ p = k := by unfold lkP; rw [h7]; show (3 + 16 * k) / 16 = k; omega
  have e2 : (hR σ 3 k 0 = some (1 + 16 * p)) ↔ p = ab_X V k := by
    rw [gx]
    exact ⟨fun z => by have := Option.some.inj z; omega, fun z => by rw [z]⟩
  have e3 : dTP σ p = thA V p := by
    unfold dTP thA; rw [e1, hk, gb, gw]
    show _ = if p = ab_X V k then ab_B V k else ab_W V k
    by_cases e : p = ab_X V k
    · rw [if_pos (e2.mpr e), if_pos e]
    · rw [if_neg (fun z => e (e2.mp z)), if_neg e]
  have e4 : dFP σ p = bkA V p := by
    unfold dFP bkA; rw [e1, hk, gb, gw]
    show _ = if p = ab_X V k then ab_W V k else ab_B V k
    by_cases e : p = ab_X V k
    · rw [if_pos (e2.mpr e), if_pos e]
    · rw [if_neg (fun z => e (e2.mp z)), if_neg e]
  have e5 : hJ σ 2 (farP σ (lkP σ p) p / 4) 4 = ab_F V (farA V p / 4) := by
    rw [e1, hf]; exact (h.2.2.1 (farA V p / 4) (by omega)).2.1
  have e6 : hJ σ 2 i 4 = ab_F V i := (h.2.2.1 i hi).2.1
  obtain ⟨d1, d2⟩ := hv.dl hk
  unfold xO xJ exO exF exD exN
  rw [e3, e4, e5, e6]
  obtain ⟨x1, x2, x3⟩ := xJ_v (σ := σ) (t := t) (m := ab_F V (farA V p / 4)) (w := ab_F V i) d1 d2 hr hu
  exact ⟨xO_0 d1 d2 hr hu, x1, x2, x3⟩
theorem TR.sc {σ : HS} {V : AV} (h : TR σ V) {i : Nat} {O : Int32} {J : Nat → Int64} : TR (scS σ i O J) (if O = 0 then exU V i (J 3) (J 2) else V) := by
  obtain ⟨⟨h1, h2, h3, h4, h5⟩, hd⟩ := h
  have hg : gfr σ (scS σ i O J) := gfr.sc
  have hR' : hR (scS σ i O J) = hR σ := scS_R
  have hI' : ∀ q a k, q ≠ 4 → hI (scS σ i O J) q a k = hI σ q a k := fun q a k hq => by
    unfold scS
    split
    · exact rk_hI (js := J) hq
    · exact rk_hI (js := J) hq
  have hJ' : ∀ x, hJ (scS σ i O J) 2 x 4 = (if O = 0 then if x = i then J 3 else hJ σ 2 x 4 else hJ σ 2 x 4) ∧ hJ (scS σ i O J) 2 x 5 = (if O = 0 then if x = i then J 2 else hJ σ 2 x 5 else hJ σ 2 x 5) := fun x => by
    unfold scS
    by_cases c : O = 0
    · rw [if_pos c, if_pos c, if_pos c]
      by_cases d : x = i
      · rw [if_pos d, if_pos d, J_sJ, if_neg (by omega), J_sJ, if_pos ⟨rfl, d, rfl⟩, J_sJ, if_pos ⟨rfl, d, rfl⟩]; exact ⟨rfl, rfl⟩
      · rw [if_neg d, if_neg d, J_sJ, if_neg (by omega), J_sJ, if_neg (by omega), J_sJ, if_neg (by omega), J_sJ, if_neg (by omega)]
        exact ⟨rk_hJ (by decide), rk_hJ (by decide)⟩
    · rw [if_neg c, if_neg c, if_neg c]
      exact ⟨rk_hJ (by decide), rk_hJ (by decide)⟩
  by_cases c : O = 0
  · rw [if_pos c]
    refine ⟨⟨h1.g hg, by rw [show CN (scS σ i O J) _ _ = CN σ _ _ by unfold CN; rw [hg.2.2.1], hg.2.2.1]; exact h2, fun x hx => ⟨fun k hk => ?_, ?_, ?_⟩, fun p hp => ⟨?_, ?_, fun k hk => ?_, ?_⟩, fun k hk => ⟨?_, ?_, ?_, ?_, ?_⟩⟩, fun x hx => ⟨?_, fun j hj => ⟨?_, fun k hk => ?_⟩⟩⟩
    · rw [hI' _ _ _ (by decide)]; exact (h3 x hx).1 k hk
    · rw [(hJ' x).1, if_pos c]
      show _ = if x = i then J 3 else ab_F V x
      rw [(h3 x hx).2.1]
    · rw [(hJ' x).2, if_pos c]
      show _ = if x = i then J 2 else ab_D V x
      rw [(h3 x hx).2.2]
    · rw [hI' _ _ _ (by decide)]; exact (h4 p hp).1
    · rw [hI' _ _ _ (by decide)]; exact (h4 p hp).2.1
    · rw [hI' _ _ _ (by decide)]; exact (h4 p hp).2.2.1 k hk
    · rw [hR']; exact (h4 p hp).2.2.2
    · rw [hR']; exact (h5 k hk).1
    · rw [hR']; exact (h5 k hk).2.1
    · rw [hI' _ _ _ (by decide)]; exact (h5 k hk).2.2.1
    · rw [hI' _ _ _ (by decide)]; exact (h5 k hk).2.2.2.1
    · rw [hI' _ _ _ (by decide)]; exact (h5 k hk).2.2.2.2
    · rw [hR']; exact (hd x hx).1
    · rw [hI' _ _ _ (by decide)]; exact ((hd x hx).2 j hj).1
    · rw [hI' _ _ _ (by decide)]; exact ((hd x hx).2 j hj).2 k hk
  · rw [if_neg c]
    refine ⟨⟨h1.g hg, by rw [show CN (scS σ i O J) _ _ = CN σ _ _ by unfold CN; rw [hg.2.2.1], hg.2.2.1]; exact h2, fun x hx => ⟨fun k hk => ?_, ?_, ?_⟩, fun p hp => ⟨?_, ?_, fun k hk => ?_, ?_⟩, fun k hk => ⟨?_, ?_, ?_, ?_, ?_⟩⟩, fun x hx => ⟨?_, fun j hj => ⟨?_, fun k hk => ?_⟩⟩⟩
    · rw [hI' _ _ _ (by decide)]; exact (h3 x hx).1 k hk
    · rw [(hJ' x).1, if_neg c]; exact (h3 x hx).2.1
    · rw [(hJ' x).2, if_neg c]; exact (h3 x hx).2.2
    · rw [hI' _ _ _ (by decide)]; exact (h4 p hp).1
    · rw [hI' _ _ _ (by decide)]; exact (h4 p hp).2.1
    · rw [hI' _ _ _ (by decide)]; exact (h4 p hp).2.2.1 k hk
    · rw [hR']; exact (h4 p hp).2.2.2
    · rw [hR']; exact (h5 k hk).1
    · rw [hR']; exact (h5 k hk).2.1
    · rw [hI' _ _ _ (by decide)]; exact (h5 k hk).2.2.1
    · rw [hI' _ _ _ (by decide)]; exact (h5 k hk).2.2.2.1
    · rw [hI' _ _ _ (by decide)]; exact (h5 k hk).2.2.2.2
    · rw [hR']; exact (hd x hx).1
    · rw [hI' _ _ _ (by decide)]; exact ((hd x hx).2 j hj).1
    · rw [hI' _ _ _ (by decide)]; exact ((hd x hx).2 j hj).2 k hk
/-- the tree's exchange -/
theorem TR.ex {σ : HS} {V : AV} (h : TR σ V) (hv : IV V) {i p k : Nat} (hi : i < ab_n V) (hk : ab_k V p = some k) {t : Int64} {r u : Int32} (hr : 0 ≤ r.toInt ∧ r.toInt ≤ 1000000) (hu : 0 ≤ u.toInt ∧ u.toInt ≤ 1000000) : TR (scS σ i (xO σ i p t r u) (xJ σ i p t r u)) (exV V i p t r u) := by
  obtain ⟨x0, x1, x2, x3⟩ := h.1.xv hv hi hk (t := t) hr hu
  have g := h.sc (i := i) (O := xO σ i p t r u) (J := xJ σ i p t r u)
  rw [x2, x3] at g
  unfold exV
  by_cases c : exO V i p t r u = 0
  · rw [if_pos c]; rw [if_pos (x0.mpr c)] at g; exact g
  · rw [if_neg c]; rw [if_neg (fun z => c (x0.mp z))] at g; exact g
theorem IV.exu {V : AV} (h : IV V) {i : Nat} {a b : Int64} : IV (exU V i a b) := h
theorem IV.exv {V : AV} (h : IV V) {i p : Nat} {t : Int64} {r u : Int32} : IV (exV V i p t r u) := by
  unfold exV
  split
  · exact h
  · exact h
/-- the model's exchange -/
theorem MR.bp {σ : HS} {V : AV} (h : MR σ V) (hv : IV V) {i j : Nat} (hi : i < ab_n V) (hb : bsA V i = some j) : bP σ i = 4 * i + j := by
  have hj : j < 4 := bsJ_lt 4 j hb
  have hn := hv.1.1
  unfold bP
  rw [(h.2 i hi).1, hb]
  exact nI_clamp (by omega)
theorem IV.bk {V : AV} (hv : IV V) {i j : Nat} (hb : bsA V i = some j) : ∃ k, ab_k V (4 * i + j) = some k ∧ stA V (4 * i + j) = 2 := by
  have hj : j < 4 := bsJ_lt 4 j hb
  have hK := bsJ_K 4 j hb
  have hl := ((hv.2.2.2.2.1 (4 * i + j)).2 hK).2.1
  cases hk : ab_k V (4 * i + j) with
  | none => exact absurd hk hl
  | some k =>
    refine ⟨k, rfl, ?_⟩
    unfold stA
    rw [if_neg (by rw [hk]; intro z; cases z), show (4 * i + j) / 4 = i by omega, show (4 * i + j) % 4 = j by omega, if_pos hb]
theorem MR.lbx {σ : HS} {V : AV} (h : MR σ V) (hv : IV V) {i : Nat} (hi : i < ab_n V) : lbk σ i := by
  have hn := hv.1.1
  unfold lbk
  rw [(h.2 i hi).1]
  cases hb : bsA V i with
  | none => exact Or.inl n1_lt0
  | some j =>
    obtain ⟨k, hk, -⟩ := hv.bk hb
    have hj : j < 4 := bsJ_lt 4 j hb
    exact Or.inr ⟨4 * i + j, by omega, rfl, h.1.lk hv hk⟩
theorem MR.cs {σ : HS} {V : AV} (h : MR σ V) (hv : IV V) {i : Nat} (hi : i < ab_n V) : (csV σ i = 0 ↔ osA V i = none) ∧ ∀ p, osA V i = some p → bP σ i = p := by
  have hn := hv.1.1
  unfold csV osA
  cases hb : bsA V i with
  | none =>
    refine ⟨?_, fun p z => by cases z⟩
    rw [(h.2 i hi).1, hb, if_pos (show obI i none < 0 from n1_lt0)]
    exact ⟨fun _ => rfl, fun _ => rfl⟩
  | some j =>
    obtain ⟨k, hk, hs⟩ := hv.bk hb
    have hj : j < 4 := bsJ_lt 4 j hb
    have hL := (hv.2.2.2.1 _ k hk).1
    have hu := (h.1.2.2.2.2 k hL).2.2.2.2
    have e := h.bp hv hi hb
    obtain ⟨m1, -⟩ := hv.acx h.1 hk
    rw [e, (h.2 i hi).1, hb, if_neg (show ¬ obI i (some j) < 0 from nI_pos (by omega)), h.st (show 4 * i + j < 4 * ab_n V by omega), hs, if_pos rfl, m1, hu]
    simp only [hk]
    by_cases c : ab_U V k = 0
    · rw [if_pos c, if_pos c]; exact ⟨⟨fun _ => rfl, fun _ => rfl⟩, fun p z => by cases z⟩
    · rw [if_neg c, if_neg c]; exact ⟨⟨fun z => absurd z (by decide), fun z => by cases z⟩, fun p z => by cases z; rfl⟩
theorem MR.mx {σ : HS} {V : AV} (h : MR σ V) (hv : IV V) {i p k : Nat} (hi : i < ab_n V) (hk : ab_k V p = some k) {t : Int64} {r s : Int32} : mxO σ i p t r s = exO V i p t r s ∧ mxF σ i p t r s = exF V i p t r s ∧ mxD σ i p t r s = exD V i p t r s ∧ mxN σ i p t r s = exN V i p t r s := by
  obtain ⟨hL, hp, hxy⟩ := hv.2.2.2.1 p k hk
  obtain ⟨x1, y1, ne, -, -⟩ := hv.2.1 k hL
  have hn := hv.1.1
  obtain ⟨m1, m2⟩ := hv.acx h.1 hk
  obtain ⟨g1, g2, g3, g4, g5⟩ := h.1.2.2.2.2 k hL
  have hfl := (hv.far hk).2.2.1
  have e0 : hI σ 7 4 (2 * k) = nI p ↔ p = ab_X V k := by
    rw [g1, nI_eq (by omega) (by omega)]; exact ⟨fun z => z.symm, fun z => z.symm⟩
  have e1 : mTh σ p = thA V p := by
    unfold mTh thA; rw [m1, hk, g3, g4]
    show _ = if p = ab_X V k then ab_B V k else ab_W V k
    by_cases c : p = ab_X V k
    · rw [if_pos (e0.mpr c), if_pos c]
    · rw [if_neg (fun z => c (e0.mp z)), if_neg c]
  have e2 : mBk σ p = bkA V p := by
    unfold mBk bkA; rw [m1, hk, g3, g4]
    show _ = if p = ab_X V k then ab_W V k else ab_B V k
    by_cases c : p = ab_X V k
    · rw [if_pos (e0.mpr c), if_pos c]
    · rw [if_neg (fun z => c (e0.mp z)), if_neg c]
  have e3 : hJ σ 9 0 i = ab_F V i := (h.1.2.2.1 i hi).2.2.2.2.1
  have e4 : hJ σ 9 0 (acr σ p / 4) = ab_F V (farA V p / 4) := by rw [m2]; exact (h.1.2.2.1 (farA V p / 4) (by omega)).2.2.2.2.1
  unfold mxO mxF mxD mxN exO exF exD exN
  rw [e1, e2, e3, e4]
  exact ⟨rfl, rfl, rfl, rfl⟩
theorem mfr.mox {σ : HS} {ov : Int32} {f d : Int64} : mfr σ (mo σ ov f d) := ⟨rfl, rfl, fun a k _ => mo_hJ (by decide), fun a k _ => mo_hI (by decide), fun a k _ => mo_hI (by decide), fun k hk => by unfold mo; rw [I_sJ, I_sJ, I_sI, if_neg (by omega)]⟩
theorem MR.mox {σ : HS} {V : AV} (h : MR σ V) {ov : Int32} {f d : Int64} : MR (mo σ ov f d) V := h.of mfr.mox (fun p => mo_hI (by decide)) (fun i => mo_hI (by decide))
theorem MR.j9 {σ : HS} {V : AV} (h : MR σ V) {i : Nat} {nx d : Int64} : MR (sJ (sJ σ 9 0 i nx) 9 1 i d) (exU V i nx d) := by
  obtain ⟨⟨h1, h2, h3, h4, h5⟩, hd⟩ := h
  refine ⟨⟨h1.of rfl rfl, h2, fun x hx => ?_, h4, h5⟩, hd⟩
  obtain ⟨a1, a2, a3, a4, a5, a6⟩ := h3 x hx
  refine ⟨a1, a2, a3, a4, ?_, ?_⟩
  · show _ = if x = i then nx else ab_F V x
    rw [J_sJ, if_neg (by omega), J_sJ, a5]
    by_cases c : x = i
    · rw [if_pos c, if_pos ⟨rfl, rfl, c⟩]
    · rw [if_neg c, if_neg (fun z => c z.2.2)]
  · show _ = if x = i then d else ab_D V x
    rw [J_sJ]
    by_cases c : x = i
    · rw [if_pos c, if_pos ⟨rfl, rfl, c⟩]
    · rw [if_neg c, if_neg (fun z => c z.2.2), J_sJ, if_neg (by omega), a6]
theorem MR.sw {σ : HS} {V : AV} (h : MR σ V) (hv : IV V) {i p k : Nat} (hi : i < ab_n V) (hk : ab_k V p = some k) {t : Int64} {r s : Int32} : MR (swQ σ i p t r s) (exV V i p t r s) := by
  obtain ⟨x0, x1, x2, x3⟩ := h.mx hv hi hk (t := t) (r := r) (s := s)
  unfold swQ swS exV
  rw [x0, x1, x2, x3]
  split
  · exact h.mox.j9
  · exact h.mox
