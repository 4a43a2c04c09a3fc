/-! the model's side -/
def lkI : Option Nat → Int32
  | none => -1
  | some k => nI k
def obI (i : Nat) : Option Nat → Int32
  | none => -1
  | some j => nI (4 * i + j)
def MB (σ : HS) (V : AV) : Prop := MS σ ∧ (hI σ 6 0 1 = nI (ab_n V) ∧ hI σ 6 0 8 = nI (ab_L V)) ∧
  (∀ i, i < ab_n V → hI σ 7 1 i = ab_O V i 0 ∧ hI σ 7 2 i = ab_O V i 1 ∧ hI σ 7 3 i = ab_O V i 2 ∧ hI σ 7 0 i = ab_O V i 3 ∧ hJ σ 9 0 i = ab_F V i ∧ hJ σ 9 1 i = ab_D V i) ∧
  (∀ p, p < 40 → hI σ 8 1 p = ab_K V p ∧ hI σ 7 8 p = ab_A V p ∧ (∀ k, k < 8 → hI σ 7 9 (8 * p + k) = ab_T V p k) ∧ hI σ 7 6 p = lkI (ab_k V p)) ∧
  (∀ k, k < ab_L V → hI σ 7 4 (2 * k) = nI (ab_X V k) ∧ hI σ 7 4 (2 * k + 1) = nI (ab_Y V k) ∧ hI σ 7 5 (2 * k) = ab_W V k ∧ hI σ 7 5 (2 * k + 1) = ab_B V k ∧ hI σ 8 0 k = ab_U V k)
def MDn (σ : HS) (V : AV) (i : Nat) : Prop := hI σ 7 13 i = obI i (bsA V i) ∧ ∀ j, j < 4 → hI σ 7 7 (4 * i + j) = stA V (4 * i + j)
def MR (σ : HS) (V : AV) : Prop := MB σ V ∧ ∀ i, i < ab_n V → MDn σ V i
/-- what MB speaks of is as before -/
def mfr (σ τ : HS) : Prop := hR τ = hR σ ∧ hl τ = hl σ ∧ (∀ a k, a < 2 → hJ τ 9 a k = hJ σ 9 a k) ∧ (∀ a k, ¬ (a = 7 ∨ 10 ≤ a) → hI τ 7 a k = hI σ 7 a k) ∧ (∀ a k, a < 2 → hI τ 8 a k = hI σ 8 a k) ∧ (∀ k, k = 1 ∨ k = 8 → hI τ 6 0 k = hI σ 6 0 k)
theorem mfr.rf {σ : HS} : mfr σ σ := ⟨rfl, rfl, fun _ _ _ => rfl, fun _ _ _ => rfl, fun _ _ _ => rfl, fun _ _ => rfl⟩
theorem mfr.trans {σ τ υ : HS} (h : mfr σ τ) (h' : mfr τ υ) : mfr σ υ := ⟨h'.1.trans h.1, h'.2.1.trans h.2.1, fun a k ha => (h'.2.2.1 a k ha).trans (h.2.2.1 a k ha), fun a k ha => (h'.2.2.2.1 a k ha).trans (h.2.2.2.1 a k ha), fun a k ha => (h'.2.2.2.2.1 a k ha).trans (h.2.2.2.2.1 a k ha), fun k hk => (h'.2.2.2.2.2 k hk).trans (h.2.2.2.2.2 k hk)⟩
theorem mfr.oA7 {σ : HS} {a : Nat} {f : Nat → Int32} (h : a = 7 ∨ 10 ≤ a) : mfr σ (sA σ 7 a f) := ⟨rfl, rfl, fun _ _ _ => rfl, fun a' k ha => by rw [I_sA, if_neg (fun z => ha (by omega))], fun a' k ha => by rw [I_sA, if_neg (by omega)], fun k hk => by rw [I_sA, if_neg (by omega)]⟩
theorem mfr.oI7 {σ : HS} {a k : Nat} {v : Int32} (h : a = 7 ∨ 10 ≤ a) : mfr σ (sI σ 7 a k v) := ⟨rfl, rfl, fun _ _ _ => rfl, fun a' k ha => by rw [I_sI, if_neg (fun z => ha (by omega))], fun a' k ha => by rw [I_sI, if_neg (by omega)], fun k hk => by rw [I_sI, if_neg (by omega)]⟩
theorem mfr.oA8 {σ : HS} {a : Nat} {f : Nat → Int32} (h : 2 ≤ a) : mfr σ (sA σ 8 a f) := ⟨rfl, rfl, fun _ _ _ => rfl, fun a' k ha => by rw [I_sA, if_neg (by omega)], fun a' k ha => by rw [I_sA, if_neg (by omega)], fun k hk => by rw [I_sA, if_neg (by omega)]⟩
theorem mfr.oI8 {σ : HS} {a k : Nat} {v : Int32} (h : 2 ≤ a) : mfr σ (sI σ 8 a k v) := ⟨rfl, rfl, fun _ _ _ => rfl, fun a' k ha => by rw [I_sI, if_neg (by omega)], fun a' k ha => by rw [I_sI, if_neg (by omega)], fun k hk => by rw [I_sI, if_neg (by omega)]⟩
theorem mfr.oI6 {σ : HS} {k : Nat} {v : Int32} (h : ¬ (k = 1 ∨ k = 8)) : mfr σ (sI σ 6 0 k v) := ⟨rfl, rfl, fun _ _ _ => rfl, fun a' k ha => by rw [I_sI, if_neg (by omega)], fun a' k ha => by rw [I_sI, if_neg (by omega)], fun k hk => by rw [I_sI, if_neg (fun z => h (by omega))]⟩
theorem MB.mf {σ τ : HS} {V : AV} (h : MB σ V) (f : mfr σ τ) : MB τ V := by
  obtain ⟨h1, h2, h3, h4, h5⟩ := h
  obtain ⟨f1, f2, f3, f4, f5, f6⟩ := f
  refine ⟨h1.of f1 f2, ⟨by rw [f6 1 (by omega)]; exact h2.1, by rw [f6 8 (by omega)]; exact h2.2⟩, fun i hi => ?_, fun p hp => ?_, fun k hk => ?_⟩
  · rw [f4 1 i (by omega), f4 2 i (by omega), f4 3 i (by omega), f4 0 i (by omega), f3 0 i (by omega), f3 1 i (by omega)]; exact h3 i hi
  · rw [f5 1 p (by omega), f4 8 p (by omega), f4 6 p (by omega)]
    exact ⟨(h4 p hp).1, (h4 p hp).2.1, fun k hk => by rw [f4 9 _ (by omega)]; exact (h4 p hp).2.2.1 k hk, (h4 p hp).2.2.2⟩
  · rw [f4 4 _ (by omega), f4 4 _ (by omega), f4 5 _ (by omega), f4 5 _ (by omega), f5 0 k (by omega)]; exact h5 k hk
theorem koS_14 {τ : HS} {p k : Nat} (hk : k < 8) : hI (koS τ p) 7 14 k = hI τ 7 9 (8 * p + k) := by
  unfold koS; rw [I_sA, if_pos ⟨rfl, rfl⟩]; unfold cpy; rw [if_pos hk]
theorem koS_o {τ : HS} {p q a k : Nat} (h : ¬ (q = 7 ∧ a = 14)) : hI (koS τ p) q a k = hI τ q a k := by
  unfold koS; rw [I_sA, if_neg h]
theorem tr1_15 {τ : HS} {k : Nat} (hk : k < 8) : hI (trS1 τ) 7 15 k = hI τ 7 14 k := by
  unfold trS1; rw [I_sA, if_pos ⟨rfl, rfl⟩]; unfold cpy; rw [if_pos hk]
theorem tr1_o {τ : HS} {q a k : Nat} (h : ¬ (q = 7 ∧ a = 15)) : hI (trS1 τ) q a k = hI τ q a k := by
  unfold trS1; rw [I_sA, if_neg h]
theorem mfr.ko {τ : HS} {p : Nat} : mfr τ (koS τ p) := mfr.oA7 (by omega)
theorem mfr.tr {τ : HS} : mfr τ (trS1 τ) := mfr.oA7 (by omega)
theorem mfr.oo {τ : HS} {i : Nat} {u : Int32} : mfr τ (ooS τ i u) := mfr.oA7 (by omega)
theorem mfr.to {τ : HS} {p : Nat} : mfr τ (toS τ p) := mfr.oA7 (by omega)
theorem mfr.fdc {z : HS × Int32} {i : Nat} : mfr z.1 (fdC z i) := by
  unfold fdC
  split
  · exact mfr.oo
  · exact mfr.ko
theorem MB.dt {σ : HS} {V : AV} (h : MB σ V) {p k : Nat} (hp : p < 40) (hk : k < 8) : hI σ 7 9 (8 * p + k) = ab_T V p k := (h.2.2.2.1 p hp).2.2.1 k hk
theorem n1_lt0 : (-1 : Int32) < 0 := by decide +kernel
theorem MB.own {σ : HS} {V : AV} (h : MB σ V) {i k : Nat} (hi : i < ab_n V) (hk : k < 8) : mOwn σ i (-1) k = ownD V i k := by
  obtain ⟨a1, a2, a3, a4, -, -⟩ := h.2.2.1 i hi
  exact v8_congr a1 a2 a3 a4 rfl a4 rfl rfl k hk
theorem MB.fdc {z : HS × Int32} {V : AV} (h : MB z.1 V) {i : Nat} (hi : i < ab_n V) (hn : ab_n V ≤ 10) {o : Option Nat} (ho : ∀ x, o = some x → x < 4) (hz : z.2 = obI i o) : ∀ k, k < 8 → hI (fdC z i) 7 14 k = bdD V i o k := by
  intro k hk
  unfold fdC
  rw [hz]
  cases o with
  | none =>
    rw [if_pos (show obI i none < 0 from n1_lt0)]
    unfold ooS
    rw [I_sA, if_pos ⟨rfl, rfl⟩]
    exact h.own hi hk
  | some x =>
    have hx := ho x rfl
    rw [if_neg (show ¬ obI i (some x) < 0 from nI_pos (by omega)), koS_14 hk, show (obI i (some x)).toNatClampNeg = 4 * i + x from nI_clamp (by omega)]
    exact h.dt (by omega) hk
theorem MB.fd {σ : HS} {V : AV} (h : MB σ V) {i : Nat} (hi : i < ab_n V) (hn : ab_n V ≤ 10) : ∀ j, j ≤ 4 → mfr σ (fdS σ i j).1 ∧ (fdS σ i j).2 = obI i (bsJ V i j) ∧ ∀ a k, a < 14 → hI (fdS σ i j).1 7 a k = hI σ 7 a k
  | 0, _ => by rw [fdS]; exact ⟨mfr.rf, rfl, fun _ _ _ => rfl⟩
  | j + 1, hj => by
    obtain ⟨g1, g2, g3⟩ := MB.fd h hi hn j (by omega)
    rw [fdS_s]
    generalize fdS σ i j = z at g1 g2 g3 ⊢
    have hz := h.mf g1
    unfold fd1
    rw [(hz.2.2.2.1 (4 * i + j) (by omega)).1, bsJ]
    split
    · exact ⟨g1, g2, g3⟩
    · have hb := bsJ_lt (V := V) (i := i) j
      have e14 : ∀ k, k < 8 → hI (koS (trS1 (fdC z i)) (4 * i + j)) 7 14 k = ab_T V (4 * i + j) k := fun k hk => by
        rw [koS_14 hk]; exact (hz.mf (mfr.fdc.trans mfr.tr)).dt (by omega) hk
      have e15 : ∀ k, k < 8 → hI (koS (trS1 (fdC z i)) (4 * i + j)) 7 15 k = bdD V i (bsJ V i j) k := fun k hk => by
        rw [koS_o (by omega), tr1_15 hk]; exact hz.fdc hi hn (fun x hx => by have := hb x hx; omega) g2 k hk
      refine ⟨g1.trans ((mfr.fdc.trans mfr.tr).trans mfr.ko), ?_, fun a k ha => ?_⟩
      · show (if btI _ _ = 0 then z.2 else nI (4 * i + j)) = _
        rw [btI_congr e14 e15, g2]
        split <;> rfl
      · show hI (koS (trS1 (fdC z i)) (4 * i + j)) 7 a k = _
        rw [koS_o (by omega), tr1_o (by omega)]
        rw [← g3 a k ha]
        unfold fdC ooS koS
        split
        · rw [I_sA, if_neg (by omega)]
        · rw [I_sA, if_neg (by omega)]
theorem toS_14 {τ : HS} {V : AV} (h : MB τ V) {i j : Nat} (hi : i < ab_n V) (hn : ab_n V ≤ 10) (hj : j < 4) (hb : hI τ 7 13 i = obI i (bsA V i)) : ∀ k, k < 8 → hI (toS τ (4 * i + j)) 7 14 k = tlD V (4 * i + j) k := by
  intro k hk
  have e1 : (4 * i + j) / 4 = i := by omega
  have e2 : (4 * i + j) % 4 = j := by omega
  obtain ⟨a1, a2, a3, a4, -, -⟩ := h.2.2.1 i hi
  unfold toS
  rw [I_sA, if_pos ⟨rfl, rfl⟩]
  unfold mTold mOwn tlD bD
  rw [e1, e2, hb]
  have hlt : ∀ x, bsA V i = some x → x < 4 := fun x hx => bsJ_lt 4 x hx
  cases ho : bsA V i with
  | none =>
    rw [if_pos (show obI i none < 0 from n1_lt0)]
    exact v8_congr a1 a2 a3 a4 (by rw [if_pos rfl]) a4 rfl rfl k hk
  | some x =>
    have hx := hlt x ho
    have hd : ∀ k, k < 8 → hI τ 7 9 (8 * (4 * i + x) + k) = bdD V i (some x) k := fun k hk => h.dt (by omega) hk
    rw [if_neg (show ¬ obI i (some x) < 0 from nI_pos (by omega)), show (obI i (some x)).toNatClampNeg = 4 * i + x from nI_clamp (by omega)]
    refine v8_congr (hd 0 (by omega)) (hd 1 (by omega)) (hd 2 (by omega)) (hd 3 (by omega)) ?_ a4 rfl rfl k hk
    rw [if_neg (by intro z; cases z), hd 4 (by omega)]
theorem lk_neg {o : Option Nat} (h : ∀ k, o = some k → k < 16) : lkI o < 0 ↔ o = none := by
  cases o with
  | none => exact ⟨fun _ => rfl, fun _ => n1_lt0⟩
  | some k => exact ⟨fun z => absurd z (nI_pos (by have := h k rfl; omega)), fun z => by cases z⟩
theorem MB.f2 {τ : HS} {V : AV} (h : MB τ V) {i j : Nat} (hi : i < ab_n V) (hn : ab_n V ≤ 10) (hj : j < 4) (hL : ∀ p k, ab_k V p = some k → k < 16) (hb : hI τ 7 13 i = obI i (bsA V i)) : mfr τ (fd2 τ (4 * i + j) (obI i (bsA V i))) ∧ hI (fd2 τ (4 * i + j) (obI i (bsA V i))) 7 7 (4 * i + j) = stA V (4 * i + j) ∧ (∀ p, p ≠ 4 * i + j → hI (fd2 τ (4 * i + j) (obI i (bsA V i))) 7 7 p = hI τ 7 7 p) ∧ ∀ a k, a < 14 → a ≠ 7 → hI (fd2 τ (4 * i + j) (obI i (bsA V i))) 7 a k = hI τ 7 a k := by
  have m1 : mfr τ (koS (trS1 (toS τ (4 * i + j))) (4 * i + j)) := (mfr.to.trans mfr.tr).trans mfr.ko
  have h1 := h.mf m1
  have e14 : ∀ k, k < 8 → hI (koS (trS1 (toS τ (4 * i + j))) (4 * i + j)) 7 14 k = ab_T V (4 * i + j) k := fun k hk => by
    rw [koS_14 hk]; exact (h.mf (mfr.to.trans mfr.tr)).dt (by omega) hk
  have e15 : ∀ k, k < 8 → hI (koS (trS1 (toS τ (4 * i + j))) (4 * i + j)) 7 15 k = tlD V (4 * i + j) k := fun k hk => by
    rw [koS_o (by omega), tr1_15 hk]; exact toS_14 h hi hn hj hb k hk
  refine ⟨m1.trans (mfr.oI7 (by omega)), ?_, fun p hp => ?_, fun a k ha ha7 => ?_⟩
  · unfold fd2
    rw [I_sI, if_pos ⟨rfl, rfl, rfl⟩]
    unfold stV stA
    have e1 : (4 * i + j) / 4 = i := by omega
    have e2 : (4 * i + j) % 4 = j := by omega
    rw [btI_congr e14 e15, (h1.2.2.2.1 (4 * i + j) (by omega)).1, (h1.2.2.2.1 (4 * i + j) (by omega)).2.2.2, e1, e2]
    have hlt : ∀ x, bsA V i = some x → x < 4 := fun x hx => bsJ_lt 4 x hx
    by_cases c : ab_k V (4 * i + j) = none
    · rw [if_pos c, if_pos ((lk_neg (hL _)).mpr c)]
    · rw [if_neg c, if_neg (fun z => c ((lk_neg (hL _)).mp z))]
      by_cases d : bsA V i = some j
      · rw [if_pos d, d, if_pos (show nI (4 * i + j) = obI i (some j) from rfl)]
      · rw [if_neg d, if_neg ?_]
        intro z
        cases ho : bsA V i with
        | none =>
          rw [ho] at z
          exact absurd (z ▸ n1_lt0 : nI (4 * i + j) < 0) (nI_pos (by omega))
        | some x =>
          rw [ho] at z
          have hx := hlt x ho
          have := (nI_eq (a := 4 * i + j) (b := 4 * i + x) (by omega) (by omega)).mp z
          exact d (by rw [ho, show x = j by omega])
  · unfold fd2
    rw [I_sI, if_neg (fun z => hp z.2.2), koS_o (by omega), tr1_o (by omega)]
    unfold toS; rw [I_sA, if_neg (by omega)]
  · unfold fd2
    rw [I_sI, if_neg (by omega), koS_o (by omega), tr1_o (by omega)]
    unfold toS; rw [I_sA, if_neg (by omega)]
theorem MB.fT {σ : HS} {V : AV} (h : MB σ V) {i : Nat} (hi : i < ab_n V) (hn : ab_n V ≤ 10) (hL : ∀ p k, ab_k V p = some k → k < 16) : ∀ j, j ≤ 4 → mfr σ (fdT σ i j) ∧ hI (fdT σ i j) 7 13 i = obI i (bsA V i) ∧ (∀ i', i' ≠ i → hI (fdT σ i j) 7 13 i' = hI σ 7 13 i') ∧ (∀ j', j' < j → hI (fdT σ i j) 7 7 (4 * i + j') = stA V (4 * i + j')) ∧ (∀ p, ¬ (4 * i ≤ p ∧ p < 4 * i + j) → hI (fdT σ i j) 7 7 p = hI σ 7 7 p) ∧ (∀ a k, a < 13 → a ≠ 7 → hI (fdT σ i j) 7 a k = hI σ 7 a k)
  | 0, _ => by
    obtain ⟨g1, g2, g3⟩ := h.fd hi hn 4 (by omega)
    rw [fdT_0]
    refine ⟨g1.trans (mfr.oI7 (by omega)), ?_, fun i' hi' => ?_, fun j' hj' => by omega, fun p _ => ?_, fun a k ha ha7 => ?_⟩
    · rw [I_sI, if_pos ⟨rfl, rfl, rfl⟩, g2]; rfl
    · rw [I_sI, if_neg (by omega), g3 13 _ (by omega)]
    · rw [I_sI, if_neg (by omega), g3 7 _ (by omega)]
    · rw [I_sI, if_neg (by omega), g3 a _ (by omega)]
  | j + 1, hj => by
    obtain ⟨g1, g2, g3, g4, g5, g6⟩ := MB.fT h hi hn hL j (by omega)
    have e2 : (fdS σ i 4).2 = obI i (bsA V i) := (h.fd hi hn 4 (by omega)).2.1
    rw [fdT_s, e2]
    obtain ⟨k1, k2, k3, k4⟩ := (h.mf g1).f2 hi hn (show j < 4 by omega) hL g2
    refine ⟨g1.trans k1, ?_, fun i' hi' => ?_, fun j' hj' => ?_, fun p hp => ?_, fun a k ha ha7 => ?_⟩
    · rw [k4 13 _ (by omega) (by omega)]; exact g2
    · rw [k4 13 _ (by omega) (by omega)]; exact g3 i' hi'
    · by_cases e : j' = j
      · rw [e]; exact k2
      · rw [k3 _ (by omega)]; exact g4 j' (by omega)
    · rw [k3 _ (by omega)]; exact g5 p (by omega)
    · rw [k4 a _ (by omega) ha7]; exact g6 a k ha ha7
theorem MB.fa {σ : HS} {V : AV} (h : MB σ V) (hn : ab_n V ≤ 10) (hL : ∀ p k, ab_k V p = some k → k < 16) : ∀ i, i ≤ ab_n V → mfr σ (faS σ i) ∧ (∀ i', i' < i → MDn (faS σ i) V i') ∧ (∀ p, 4 * i ≤ p → hI (faS σ i) 7 7 p = hI σ 7 7 p) ∧ (∀ a k, a < 13 → a ≠ 7 → hI (faS σ i) 7 a k = hI σ 7 a k)
  | 0, _ => by rw [faS]; exact ⟨mfr.rf, fun i' hi' => by omega, fun _ _ => rfl, fun _ _ _ _ => rfl⟩
  | i + 1, hi => by
    obtain ⟨g1, g2, g3, g4⟩ := MB.fa h hn hL i (by omega)
    rw [faS]
    obtain ⟨k1, k2, k3, k4, k5, k6⟩ := (h.mf g1).fT (show i < ab_n V by omega) hn hL 4 (by omega)
    refine ⟨g1.trans k1, fun i' hi' => ?_, fun p hp => ?_, fun a k ha ha7 => ?_⟩
    · by_cases e : i' = i
      · rw [e]; exact ⟨k2, k4⟩
      · exact ⟨by rw [k3 i' e]; exact (g2 i' (by omega)).1, fun j hj => by rw [k5 _ (by omega)]; exact (g2 i' (by omega)).2 j hj⟩
    · rw [k5 _ (by omega)]; exact g3 p (by omega)
    · rw [k6 a k ha ha7]; exact g4 a k ha ha7
theorem MB.MRfa {σ : HS} {V : AV} (h : MB σ V) (hn : ab_n V ≤ 10) (hL : ∀ p k, ab_k V p = some k → k < 16) : MR (faS σ (ab_n V)) V := by
  obtain ⟨g1, g2, -, -⟩ := h.fa hn hL (ab_n V) (by omega)
  exact ⟨h.mf g1, g2⟩
