/-! a link more: the tree -/
def lkA (V : AV) (x y : Nat) (t b : Int32) : AV := ((ab_n V, ab_L V + 1), V.2.1, V.2.2.1, (ab_K V, ab_A V, ab_T V, fun p => if p = y then some (ab_L V) else if p = x then some (ab_L V) else ab_k V p), (fun k => if k = ab_L V then x else ab_X V k, fun k => if k = ab_L V then y else ab_Y V k, fun k => if k = ab_L V then t else ab_W V k, fun k => if k = ab_L V then b else ab_B V k, fun k => if k = ab_L V then 1 else ab_U V k))
theorem lkA_k {V : AV} {x y p : Nat} {t b : Int32} : ab_k (lkA V x y t b) p = if p = y then some (ab_L V) else if p = x then some (ab_L V) else ab_k V p := rfl
theorem lkA_o {V : AV} {x y p k : Nat} {t b : Int32} (hx : ab_k V x = none) (hy : ab_k V y = none) (h : ab_k V p = some k) : ab_k (lkA V x y t b) p = some k := by
  rw [lkA_k, if_neg (fun z => by rw [z, hy] at h; cases h), if_neg (fun z => by rw [z, hx] at h; cases h)]; exact h
theorem IV.lk {V : AV} (h : IV V) {x y : Nat} {t b : Int32} (hL : ab_L V < 16) (hx : x < 4 * ab_n V) (hy : y < 4 * ab_n V) (hne : x ≠ y) (kx : ab_k V x = none) (ky : ab_k V y = none) (ht : 0 ≤ t ∧ t ≤ 1000000000) (hb : 0 ≤ b ∧ b ≤ 1000000000) : IV (lkA V x y t b) := by
  obtain ⟨h1, h2, h3, h4, h5, h6⟩ := h
  refine ⟨⟨h1.1, hL⟩, fun k hk => ?_, fun k hk => ?_, fun p k hk => ?_, fun p => ⟨(h5 p).1, fun hK => ?_⟩, h6⟩
  · have hk' : k < ab_L V + 1 := hk
    show (if k = ab_L V then x else ab_X V k) < 4 * ab_n V ∧ (if k = ab_L V then y else ab_Y V k) < 4 * ab_n V ∧ (if k = ab_L V then x else ab_X V k) ≠ (if k = ab_L V then y else ab_Y V k) ∧ ab_k (lkA V x y t b) (if k = ab_L V then x else ab_X V k) = some k ∧ ab_k (lkA V x y t b) (if k = ab_L V then y else ab_Y V k) = some k
    by_cases c : k = ab_L V
    · rw [if_pos c, if_pos c]
      refine ⟨hx, hy, hne, ?_, ?_⟩
      · rw [lkA_k, if_neg hne, if_pos rfl, c]
      · rw [lkA_k, if_pos rfl, c]
    · rw [if_neg c, if_neg c]
      obtain ⟨a1, a2, a3, a4, a5⟩ := h2 k (by omega)
      exact ⟨a1, a2, a3, lkA_o kx ky a4, lkA_o kx ky a5⟩
  · have hk' : k < ab_L V + 1 := hk
    show (0 ≤ (if k = ab_L V then t else ab_W V k) ∧ (if k = ab_L V then t else ab_W V k) ≤ 1000000000) ∧ (0 ≤ (if k = ab_L V then b else ab_B V k) ∧ (if k = ab_L V then b else ab_B V k) ≤ 1000000000) ∧ ((if k = ab_L V then 1 else ab_U V k) = 0 ∨ (if k = ab_L V then 1 else ab_U V k) = 1)
    by_cases c : k = ab_L V
    · rw [if_pos c, if_pos c, if_pos c]; exact ⟨ht, hb, Or.inr rfl⟩
    · rw [if_neg c, if_neg c, if_neg c]; exact h3 k (by omega)
  · show k < ab_L V + 1 ∧ p < 4 * ab_n V ∧ (p = (if k = ab_L V then x else ab_X V k) ∨ p = (if k = ab_L V then y else ab_Y V k))
    rw [lkA_k] at hk
    by_cases c : p = y
    · rw [if_pos c] at hk; cases hk
      rw [if_pos rfl, if_pos rfl]; exact ⟨by omega, by omega, Or.inr c⟩
    · rw [if_neg c] at hk
      by_cases d : p = x
      · rw [if_pos d] at hk; cases hk
        rw [if_pos rfl, if_pos rfl]; exact ⟨by omega, by omega, Or.inl d⟩
      · rw [if_neg d] at hk
        obtain ⟨a1, a2, a3⟩ := h4 p k hk
        rw [if_neg (by omega), if_neg (by omega)]; exact ⟨by omega, a2, a3⟩
  · obtain ⟨a1, a2, a3⟩ := (h5 p).2 hK
    refine ⟨a1, ?_, a3⟩
    rw [lkA_k]
    split
    · intro z; cases z
    · split
      · intro z; cases z
      · exact a2
theorem lkA_sN {V : AV} {x y i : Nat} {t b : Int32} (hx : i ≠ x / 4) (hy : i ≠ y / 4) : sN V (lkA V x y t b) i := ⟨fun _ => rfl, fun j hj => ⟨rfl, rfl, by rw [lkA_k, if_neg (by omega), if_neg (by omega)]⟩⟩
def lk0 (σ : HS) (L x y : Nat) (t b : Int32) : HS := sI (sR (lkS σ L x y t b) 11 0 L (some (3 + 16 * L))) 5 0 4 (nI L + 1)
theorem lkS_3 {σ : HS} {L x y k : Nat} {t b : Int32} (hn3 : hn σ 3 = L) (h : k ≠ L) : (∀ j, hR (lkS σ L x y t b) 3 k j = hR σ 3 k j) ∧ ∀ j, hI (lkS σ L x y t b) 3 k j = hI σ 3 k j := by
  unfold lkS lkK
  refine ⟨fun j => ?_, fun j => ?_⟩
  · simp only [R_sR, R_sI, R_nw, hn3]; simp [h]
  · simp only [I_sR, I_sI, I_nw, hn3]; simp [h]
theorem lkS_L {σ : HS} {L x y : Nat} {t b : Int32} : hR (lkS σ L x y t b) 3 L 0 = some (1 + 16 * x) ∧ hR (lkS σ L x y t b) 3 L 1 = some (1 + 16 * y) ∧ hI (lkS σ L x y t b) 3 L 2 = t ∧ hI (lkS σ L x y t b) 3 L 3 = b ∧ hI (lkS σ L x y t b) 3 L 4 = 1 := by
  unfold lkS lkK
  simp [R_sR, R_sI, R_nw, I_sR, I_sI, I_nw]
theorem lkS_n {σ : HS} {L x y q : Nat} {t b : Int32} : hn (lkS σ L x y t b) q = if q = 3 then hn σ 3 + 1 else hn σ q := rfl
theorem TB.lk {σ : HS} {V : AV} (h : TB σ V) {x y : Nat} {t b : Int32} (hL : ab_L V < 16) (hx : x < 4 * ab_n V) (hy : y < 4 * ab_n V) : TB (lk0 σ (ab_L V) x y t b) (lkA V x y t b) := by
  obtain ⟨h1, ⟨hC, h05, h010⟩, h3, h4, h5⟩ := h
  obtain ⟨t1, t2, t3, t4, t5, t6, t7, t8⟩ := h1
  obtain ⟨c0, c1, c2, c3, c12⟩ := hC
  have R' : ∀ q a j, ¬ (q = 11 ∧ j = ab_L V) → hR (lk0 σ (ab_L V) x y t b) q a j = hR (lkS σ (ab_L V) x y t b) q a j := fun q a j hx => by
    unfold lk0; rw [R_sI, R_sR, if_neg (fun z => hx ⟨z.1, z.2.2⟩)]
  have I' : ∀ q a j, ¬ (q = 5 ∧ j = 4) → hI (lk0 σ (ab_L V) x y t b) q a j = hI (lkS σ (ab_L V) x y t b) q a j := fun q a j hx => by
    unfold lk0; rw [I_sI, if_neg (fun z => hx ⟨z.1, z.2.2⟩)]; rfl
  have l' : ∀ q a, hl (lk0 σ (ab_L V) x y t b) q a = hl (lkS σ (ab_L V) x y t b) q a := fun q a => rfl
  have J' : ∀ q a j, hJ (lk0 σ (ab_L V) x y t b) q a j = hJ (lkS σ (ab_L V) x y t b) q a j := fun q a j => rfl
  have n' : ∀ q, hn (lk0 σ (ab_L V) x y t b) q = if q = 3 then hn σ 3 + 1 else hn σ q := fun q => rfl
  have k7 : ∀ p, hR (lk0 σ (ab_L V) x y t b) 1 p 7 = if p = y then some (3 + 16 * ab_L V) else if p = x then some (3 + 16 * ab_L V) else hR σ 1 p 7 := fun p => by rw [R' _ _ _ (by omega)]; exact lkS_R7
  have LL := lkS_L (σ := σ) (L := ab_L V) (x := x) (y := y) (t := t) (b := b)
  refine ⟨⟨⟨?_, ?_, ?_⟩, ⟨?_, ?_⟩, ⟨?_, ?_, t3.2.2.1, ?_⟩, fun i hi => ⟨?_, ?_⟩, fun q hq => ?_, fun k hk => ⟨?_, ?_⟩, fun q hq => ⟨?_, ?_⟩, fun i hi => ?_⟩, ⟨⟨?_, ?_, ?_, ?_, ?_⟩, ?_, ?_⟩, fun i hi => ⟨fun j hj => ?_, ?_, ?_⟩, fun q hq => ⟨?_, ?_, fun j hj => ?_, ?_⟩, fun k hk => ?_⟩
  · rw [R' _ _ _ (by omega), lkS_R (by decide) (by omega)]; exact t1.1
  · rw [R' _ _ _ (by omega), lkS_R (by decide) (by omega)]; exact t1.2.1
  · rw [R' _ _ _ (by omega), lkS_R (by decide) (by omega)]; exact t1.2.2
  · rw [l', lkS_l (by decide)]; exact t2.1
  · rw [l', lkS_l (by decide)]; exact t2.2
  · rw [I' _ _ _ (by omega), lkS_I (by decide)]; exact t3.1
  · unfold lk0; rw [I_sI, if_pos ⟨rfl, rfl, rfl⟩]; exact (nI_succ _).symm
  · show ab_L V + 1 ≤ 16; omega
  · rw [R' _ _ _ (by omega), lkS_R (by decide) (by omega)]; exact (t4 i hi).1
  · obtain ⟨a1, a2, a3, a4⟩ := (t4 i hi).2
    refine ⟨by rw [R' _ _ _ (by omega), lkS_R (by decide) (by omega)]; exact a1, by rw [R' _ _ _ (by omega), lkS_R (by decide) (by omega)]; exact a2, by rw [l', lkS_l (by decide)]; exact a3, fun j hj => ?_⟩
    rw [R' _ _ _ (by omega), lkS_R (by decide) (by omega), R' _ _ _ (by omega), lkS_R (by decide) (by omega), R' _ _ _ (by omega), lkS_R (by decide) (by omega)]; exact a4 j hj
  · rw [k7]
    by_cases c : q = y
    · rw [if_pos c]; exact Or.inr ⟨ab_L V, show ab_L V < ab_L V + 1 by omega, rfl⟩
    · rw [if_neg c]
      by_cases d : q = x
      · rw [if_pos d]; exact Or.inr ⟨ab_L V, show ab_L V < ab_L V + 1 by omega, rfl⟩
      · rw [if_neg d]
        rcases t5 q hq with z | ⟨k, hk, z⟩
        · exact Or.inl z
        · exact Or.inr ⟨k, show k < ab_L V + 1 by omega, z⟩
  · have hk' : k < ab_L V + 1 := hk
    by_cases c : k = ab_L V
    · rw [c]; unfold lk0; rw [R_sI, R_sR, if_pos ⟨rfl, rfl, rfl⟩]
    · rw [R' _ _ _ (by omega), lkS_R (by decide) (by omega)]; exact (t6 k (by omega)).1
  · have hk' : k < ab_L V + 1 := hk
    by_cases c : k = ab_L V
    · rw [c]
      exact ⟨x, y, hx, hy, by rw [R' _ _ _ (by omega)]; exact LL.1, by rw [R' _ _ _ (by omega)]; exact LL.2.1⟩
    · obtain ⟨-, a1, a2, a3, a4, a5, a6⟩ := t6 k (by omega)
      obtain ⟨z1, z2⟩ := lkS_3 (x := x) (y := y) (t := t) (b := b) c3 c
      exact ⟨a1, a2, a3, a4, by rw [R' _ _ _ (by omega), z1]; exact a5, by rw [R' _ _ _ (by omega), z1]; exact a6⟩
  · rw [I' _ _ _ (by omega), lkS_I (by decide)]; exact (t7 q hq).1
  · rw [I' _ _ _ (by omega), lkS_I (by decide)]; exact (t7 q hq).2
  · rw [I' _ _ _ (by omega), lkS_I (by decide)]; exact t8 i hi
  · rw [n', if_neg (by decide)]; exact c0
  · rw [n', if_neg (by decide)]; exact c1
  · rw [n', if_neg (by decide)]; exact c2
  · rw [n', if_pos rfl, c3]; rfl
  · rw [n', if_neg (by decide)]; exact c12
  · rw [n', if_neg (by decide)]; exact h05
  · rw [n', if_neg (by decide)]; exact h010
  · rw [I' _ _ _ (by omega), lkS_I (by decide)]; exact (h3 i hi).1 j hj
  · rw [J', lkS_J (by decide)]; exact (h3 i hi).2.1
  · rw [J', lkS_J (by decide)]; exact (h3 i hi).2.2
  · rw [I' _ _ _ (by omega), lkS_I (by decide)]; exact (h4 q hq).1
  · rw [I' _ _ _ (by omega), lkS_I (by decide)]; exact (h4 q hq).2.1
  · rw [I' _ _ _ (by omega), lkS_I (by decide)]; exact (h4 q hq).2.2.1 j hj
  · rw [k7, lkA_k]
    by_cases c : q = y
    · rw [if_pos c, if_pos c]; rfl
    · rw [if_neg c, if_neg c]
      by_cases d : q = x
      · rw [if_pos d, if_pos d]; rfl
      · rw [if_neg d, if_neg d]; exact (h4 q hq).2.2.2
  · have hk' : k < ab_L V + 1 := hk
    show _ = some (1 + 16 * (if k = ab_L V then x else ab_X V k)) ∧ _ = some (1 + 16 * (if k = ab_L V then y else ab_Y V k)) ∧ _ = (if k = ab_L V then t else ab_W V k) ∧ _ = (if k = ab_L V then b else ab_B V k) ∧ _ = (if k = ab_L V then 1 else ab_U V k)
    rw [R' _ _ _ (by omega), R' _ _ _ (by omega), I' _ _ _ (by omega), I' _ _ _ (by omega), I' _ _ _ (by omega)]
    by_cases c : k = ab_L V
    · rw [if_pos c, if_pos c, if_pos c, if_pos c, if_pos c, c]; exact LL
    · obtain ⟨z1, z2⟩ := lkS_3 (x := x) (y := y) (t := t) (b := b) c3 c
      rw [if_neg c, if_neg c, if_neg c, if_neg c, if_neg c, z1, z1, z2, z2, z2]; exact h5 k (by omega)
theorem TR.lk {σ : HS} {V : AV} (h : TR σ V) {x y : Nat} {t b : Int32} (hL : ab_L V < 16) (hx : x < 4 * ab_n V) (hy : y < 4 * ab_n V) : TR (mkL σ (ab_L V) x y t b) (lkA V x y t b) := by
  have g := h.1.lk (t := t) (b := b) hL hx hy
  have em : mkL σ (ab_L V) x y t b = fsS (fsS (lk0 σ (ab_L V) x y t b) (x / 4) 4) (y / 4) 4 := by
    unfold mkL lkF lk0; rw [fs_cm (by decide), fs_cm (by decide)]
  rw [em]
  refine ⟨g.fs.fs, fun i hi => ?_⟩
  by_cases c : i = y / 4
  · subst c; exact g.fs.fsD hi
  · refine TDn.fs ?_ c
    by_cases d : i = x / 4
    · subst d; exact g.fsD hi
    · refine TDn.fs (TDn.sn (V := V) ?_ (lkA_sN d c)) d
      have hd := h.2 i hi
      refine ⟨?_, fun j hj => ⟨?_, fun k hk => ?_⟩⟩
      · unfold lk0; rw [R_sI, R_sR, if_neg (by omega), lkS_R (by decide) (by omega)]; exact hd.1
      · unfold lk0; rw [I_sI, if_neg (by omega), I_sR, lkS_I (by decide)]; exact (hd.2 j hj).1
      · unfold lk0; rw [I_sI, if_neg (by omega), I_sR, lkS_I (by decide)]; exact (hd.2 j hj).2 k hk
