/-! the abstract view: nodes and links; of a node its four own numbers, offset and delay; of a port whether it keeps, the age, the dataset kept, the link; of a link its ends, delays, whether it is up -/
abbrev AV : Type := (Nat × Nat) × (Nat → Nat → Int32) × ((Nat → Int64) × (Nat → Int64)) × ((Nat → Int32) × (Nat → Int32) × (Nat → Nat → Int32) × (Nat → Option Nat)) × ((Nat → Nat) × (Nat → Nat) × (Nat → Int32) × (Nat → Int32) × (Nat → Int32))
def ab_n (V : AV) : Nat := V.1.1
def ab_L (V : AV) : Nat := V.1.2
def ab_O (V : AV) : Nat → Nat → Int32 := V.2.1
def ab_F (V : AV) : Nat → Int64 := V.2.2.1.1
def ab_D (V : AV) : Nat → Int64 := V.2.2.1.2
def ab_K (V : AV) : Nat → Int32 := V.2.2.2.1.1
def ab_A (V : AV) : Nat → Int32 := V.2.2.2.1.2.1
def ab_T (V : AV) : Nat → Nat → Int32 := V.2.2.2.1.2.2.1
def ab_k (V : AV) : Nat → Option Nat := V.2.2.2.1.2.2.2
def ab_X (V : AV) : Nat → Nat := V.2.2.2.2.1
def ab_Y (V : AV) : Nat → Nat := V.2.2.2.2.2.1
def ab_W (V : AV) : Nat → Int32 := V.2.2.2.2.2.2.1
def ab_B (V : AV) : Nat → Int32 := V.2.2.2.2.2.2.2.1
def ab_U (V : AV) : Nat → Int32 := V.2.2.2.2.2.2.2.2
def zD : DV := fun _ => 0
def ownD (V : AV) (i : Nat) : DV := v8 (ab_O V i 0) (ab_O V i 1) (ab_O V i 2) (ab_O V i 3) 0 (ab_O V i 3) (-1) (-1) zD
def bdD (V : AV) (i : Nat) : Option Nat → DV
  | none => ownD V i
  | some j => ab_T V (4 * i + j)
def bsJ (V : AV) (i : Nat) : Nat → Option Nat
  | 0 => none
  | j + 1 => if ab_K V (4 * i + j) = 0 then bsJ V i j else if btI (ab_T V (4 * i + j)) (bdD V i (bsJ V i j)) = 0 then bsJ V i j else some j
def bsA (V : AV) (i : Nat) : Option Nat := bsJ V i 4
def bD (V : AV) (i : Nat) : DV := bdD V i (bsA V i)
def tlD (V : AV) (p : Nat) : DV := v8 (bD V (p / 4) 0) (bD V (p / 4) 1) (bD V (p / 4) 2) (bD V (p / 4) 3) (if bsA V (p / 4) = none then 0 else bD V (p / 4) 4 + 1) (ab_O V (p / 4) 3) (nI (p % 4)) (nI (p % 4)) zD
def stA (V : AV) (p : Nat) : Int32 := if ab_k V p = none then 0 else if bsA V (p / 4) = some (p % 4) then 2 else if ab_K V p = 0 then 1 else if btI (ab_T V p) (tlD V p) = 0 then 1 else 3
theorem lexI_congr {a b a' b' : DV} : ∀ n k, (∀ j, j < k + n → a j = a' j) → (∀ j, j < k + n → b j = b' j) → lexI a b k n = lexI a' b' k n
  | 0, k, _, _ => by rw [lexI, lexI]
  | n + 1, k, h1, h2 => by
    rw [lexI, lexI, h1 k (by omega), h2 k (by omega), lexI_congr n (k + 1) (fun j hj => h1 j (by omega)) (fun j hj => h2 j (by omega))]
theorem btI_congr {a b a' b' : DV} (h1 : ∀ j, j < 8 → a j = a' j) (h2 : ∀ j, j < 8 → b j = b' j) : btI a b = btI a' b' := lexI_congr 8 0 (fun j hj => h1 j (by omega)) (fun j hj => h2 j (by omega))
theorem v8_congr {x0 x1 x2 x3 x4 x5 x6 x7 y0 y1 y2 y3 y4 y5 y6 y7 : Int32} {o o' : DV} (h0 : x0 = y0) (h1 : x1 = y1) (h2 : x2 = y2) (h3 : x3 = y3) (h4 : x4 = y4) (h5 : x5 = y5) (h6 : x6 = y6) (h7 : x7 = y7) : ∀ k, k < 8 → v8 x0 x1 x2 x3 x4 x5 x6 x7 o k = v8 y0 y1 y2 y3 y4 y5 y6 y7 o' k
  | 0, _ => h0
  | 1, _ => h1
  | 2, _ => h2
  | 3, _ => h3
  | 4, _ => h4
  | 5, _ => h5
  | 6, _ => h6
  | 7, _ => h7
  | k + 8, h => by omega
theorem bsJ_lt {V : AV} {i : Nat} : ∀ j x, bsJ V i j = some x → x < j
  | 0, x, h => by rw [bsJ] at h; cases h
  | j + 1, x, h => by
    rw [bsJ] at h
    split at h
    · have := bsJ_lt j x h; omega
    · split at h
      · have := bsJ_lt j x h; omega
      · cases h; omega
/-- the dataset that a node goes by -/
def dsI (i : Nat) : Option Nat → Nat
  | none => 9 * i
  | some j => 9 * i + 1 + 2 * j
def kpt (p : Nat) : Nat := 9 * (p / 4) + 1 + 2 * (p % 4)
theorem kpt_ij {i j : Nat} (hj : j < 4) : kpt (4 * i + j) = 9 * i + 1 + 2 * j := by
  unfold kpt
  rw [show (4 * i + j) / 4 = i by omega, show (4 * i + j) % 4 = j by omega]
theorem tld_ij {i j : Nat} (hj : j < 4) : tld (4 * i + j) = 9 * i + 2 + 2 * j := by
  unfold tld
  rw [show (4 * i + j) / 4 = i by omega, show (4 * i + j) % 4 = j by omega]
theorem p_ij (p : Nat) : 4 * (p / 4) + p % 4 = p := by omega
def TB (σ : HS) (V : AV) : Prop := TS σ (ab_n V) (ab_L V) ∧ (CN σ (ab_n V) (ab_L V) ∧ 0 < hn σ 5 ∧ 0 < hn σ 10) ∧
  (∀ i, i < ab_n V → (∀ k, k < 8 → hI σ 0 (9 * i) k = ownD V i k) ∧ hJ σ 2 i 4 = ab_F V i ∧ hJ σ 2 i 5 = ab_D V i) ∧
  (∀ p, p < 4 * ab_n V → hI σ 1 p 4 = ab_K V p ∧ hI σ 1 p 5 = ab_A V p ∧ (∀ k, k < 8 → hI σ 0 (kpt p) k = ab_T V p k) ∧ hR σ 1 p 7 = (ab_k V p).map (fun k => 3 + 16 * k)) ∧
  (∀ k, k < ab_L V → hR σ 3 k 0 = some (1 + 16 * ab_X V k) ∧ hR σ 3 k 1 = some (1 + 16 * ab_Y V k) ∧ hI σ 3 k 2 = ab_W V k ∧ hI σ 3 k 3 = ab_B V k ∧ hI σ 3 k 4 = ab_U V k)
def TDn (σ : HS) (V : AV) (i : Nat) : Prop := hR σ 2 i 3 = some (0 + 16 * dsI i (bsA V i)) ∧ ∀ j, j < 4 → hI σ 1 (4 * i + j) 6 = stA V (4 * i + j) ∧ ∀ k, k < 8 → hI σ 0 (9 * i + 2 + 2 * j) k = tlD V (4 * i + j) k
def TR (σ : HS) (V : AV) : Prop := TB σ V ∧ ∀ i, i < ab_n V → TDn σ V i
theorem TB.kd {σ : HS} {V : AV} (h : TB σ V) {i j k : Nat} (hi : i < ab_n V) (hj : j < 4) (hk : k < 8) : hI σ 0 (9 * i + 1 + 2 * j) k = ab_T V (4 * i + j) k := by
  have := (h.2.2.2.1 (4 * i + j) (by omega)).2.2.1 k hk
  rwa [kpt_ij hj] at this
theorem TB.K {σ : HS} {V : AV} (h : TB σ V) {i j : Nat} (hi : i < ab_n V) (hj : j < 4) : hI σ 1 (4 * i + j) 4 = ab_K V (4 * i + j) := (h.2.2.2.1 (4 * i + j) (by omega)).1
theorem TB.bd {σ : HS} {V : AV} (h : TB σ V) {i k : Nat} (hi : i < ab_n V) (hk : k < 8) : ∀ o : Option Nat, (∀ x, o = some x → x < 4) → hI σ 0 (dsI i o) k = bdD V i o k
  | none, _ => (h.2.2.1 i hi).1 k hk
  | some x, hx => h.kd hi (hx x rfl) hk
theorem TB.fb {σ : HS} {V : AV} (h : TB σ V) {i : Nat} (hi : i < ab_n V) : ∀ j, j ≤ 4 → fbN σ i j = dsI i (bsJ V i j)
  | 0, _ => by rw [fbN, bsJ]; rfl
  | j + 1, hj => by
    rw [fbN, bsJ, h.K hi (by omega), TB.fb h hi j (by omega)]
    have e : btI (hI σ 0 (9 * i + 1 + 2 * j)) (hI σ 0 (dsI i (bsJ V i j))) = btI (ab_T V (4 * i + j)) (bdD V i (bsJ V i j)) := btI_congr (fun k hk => h.kd hi (by omega) hk) (fun k hk => h.bd hi hk _ (fun x hx => by have := bsJ_lt j x hx; omega))
    rw [e]
    split
    · rfl
    · split
      · rfl
      · rfl
theorem dsI_inj {i j : Nat} {o : Option Nat} : dsI i o = 9 * i + 1 + 2 * j ↔ o = some j := by
  cases o with
  | none => constructor
            · intro h; change 9 * i = _ at h; omega
            · intro h; cases h
  | some x => constructor
              · intro h; change 9 * i + 1 + 2 * x = _ at h; rw [show x = j by omega]
              · intro h; cases h; rfl
theorem dsI_own {i : Nat} {o : Option Nat} : dsI i o = 9 * i ↔ o = none := by
  cases o with
  | none => exact ⟨fun _ => rfl, fun _ => rfl⟩
  | some x => constructor
              · intro h; change 9 * i + 1 + 2 * x = _ at h; omega
              · intro h; cases h
theorem TB.tv {σ : HS} {V : AV} (h : TB σ V) {i j : Nat} (hi : i < ab_n V) (hj : j < 4) : ∀ k, k < 8 → tvJ σ i j k = tlD V (4 * i + j) k := by
  unfold tvJ tlD toldV
  have e1 : (4 * i + j) / 4 = i := by omega
  have e2 : (4 * i + j) % 4 = j := by omega
  rw [e1, e2, h.fb hi 4 (by omega)]
  have hb : ∀ k, k < 8 → hI σ 0 (dsI i (bsJ V i 4)) k = bD V i k := fun k hk => h.bd hi hk _ (fun x hx => bsJ_lt 4 x hx)
  have hn : hI σ 1 (4 * i + j) 1 = nI j := by
    have := (h.1.2.2.2.2.2.2.1 (4 * i + j) (by omega)).2
    rwa [e2] at this
  refine v8_congr (hb 0 (by omega)) (hb 1 (by omega)) (hb 2 (by omega)) (hb 3 (by omega)) ?_ ((h.2.2.1 i hi).1 3 (by omega)) hn hn
  show (if decide (dsI i (bsA V i) = 9 * i) = true then (0 : Int32) else _) = if bsA V i = none then 0 else _
  by_cases c : bsA V i = none
  · rw [if_pos c, if_pos (by rw [c]; exact decide_eq_true rfl)]
  · rw [if_neg c, if_neg (by rw [decide_eq_true_eq, dsI_own]; exact c)]
    show hI σ 0 (dsI i (bsJ V i 4)) 4 + 1 = _
    rw [hb 4 (by omega)]
theorem TB.sv {σ : HS} {V : AV} (h : TB σ V) {i j : Nat} (hi : i < ab_n V) (hj : j < 4) : svJ σ i j = stA V (4 * i + j) := by
  unfold svJ stA
  have e1 : (4 * i + j) / 4 = i := by omega
  have e2 : (4 * i + j) % 4 = j := by omega
  rw [e1, e2, h.fb hi 4 (by omega), show bsJ V i 4 = bsA V i from rfl, h.K hi hj, (h.2.2.2.1 (4 * i + j) (by omega)).2.2.2]
  have e : btI (hI σ 0 (9 * i + 1 + 2 * j)) (tvJ σ i j) = btI (ab_T V (4 * i + j)) (tlD V (4 * i + j)) := btI_congr (fun k hk => h.kd hi hj hk) (h.tv hi hj)
  rw [e]
  by_cases c : ab_k V (4 * i + j) = none
  · rw [if_pos c, if_pos (by rw [c]; rfl)]
  · rw [if_neg c, if_neg (by rw [Option.map_eq_none_iff]; exact c)]
    by_cases d : bsA V i = some j
    · rw [if_pos d, if_pos (dsI_inj.mpr d)]
    · rw [if_neg d, if_neg (fun z => d (dsI_inj.mp z))]
