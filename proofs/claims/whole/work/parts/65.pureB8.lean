theorem MB.nd {σ : HS} {V : AV} (h : MB σ V) {i p k e : Int32} {off : Int64} : MB (mn0 σ (ab_n V) i p k e off) (ndA V i p k e off) := by
  obtain ⟨h1, h2, h3, h4, h5⟩ := h
  have I7 : ∀ a j, hI (mn0 σ (ab_n V) i p k e off) 7 a j = if a = 3 ∧ j = ab_n V then e else if a = 2 ∧ j = ab_n V then k else if a = 1 ∧ j = ab_n V then p else if a = 0 ∧ j = ab_n V then i else hI σ 7 a j := fun a j => by
    unfold mn0; simp [I_sI, I_sJ]
  have I8 : ∀ a j, hI (mn0 σ (ab_n V) i p k e off) 8 a j = hI σ 8 a j := fun a j => by
    unfold mn0; simp [I_sI, I_sJ]
  refine ⟨h1.of rfl rfl, ⟨?_, ?_⟩, fun x hx => ?_, fun q hq => ?_, fun x hx => ?_⟩
  · unfold mn0; rw [I_sI, if_pos ⟨rfl, rfl, rfl⟩]; rfl
  · unfold mn0; simp [I_sI, I_sJ]; exact h2.2
  · have hx' : x < ab_n V + 1 := hx
    show _ = (if x = ab_n V then (if 0 = 0 then p else if 0 = 1 then k else if 0 = 2 then e else i) else ab_O V x 0) ∧ _ = (if x = ab_n V then (if 1 = 0 then p else if 1 = 1 then k else if 1 = 2 then e else i) else ab_O V x 1) ∧ _ = (if x = ab_n V then (if 2 = 0 then p else if 2 = 1 then k else if 2 = 2 then e else i) else ab_O V x 2) ∧ _ = (if x = ab_n V then (if 3 = 0 then p else if 3 = 1 then k else if 3 = 2 then e else i) else ab_O V x 3) ∧ _ = (if x = ab_n V then off else ab_F V x) ∧ _ = (if x = ab_n V then -1 else ab_D V x)
    rw [I7, I7, I7, I7]
    have J0 : hJ (mn0 σ (ab_n V) i p k e off) 9 0 x = if x = ab_n V then off else hJ σ 9 0 x := by unfold mn0; simp [J_sI, J_sJ]
    have J1 : hJ (mn0 σ (ab_n V) i p k e off) 9 1 x = if x = ab_n V then -1 else hJ σ 9 1 x := by unfold mn0; simp [J_sI, J_sJ]
    rw [J0, J1]
    by_cases c : x = ab_n V
    · simp [c]
    · obtain ⟨a1, a2, a3, a4, a5, a6⟩ := h3 x (by omega)
      simp [c, a1, a2, a3, a4, a5, a6]
  · rw [I8, I7, I7, if_neg (by omega), if_neg (by omega), if_neg (by omega), if_neg (by omega), if_neg (by omega), if_neg (by omega), if_neg (by omega), if_neg (by omega)]
    refine ⟨(h4 q hq).1, (h4 q hq).2.1, fun j hj => ?_, (h4 q hq).2.2.2⟩
    rw [I7, if_neg (by omega), if_neg (by omega), if_neg (by omega), if_neg (by omega)]; exact (h4 q hq).2.2.1 j hj
  · have J : ∀ a j, 4 ≤ a → hI (mn0 σ (ab_n V) i p k e off) 7 a j = hI σ 7 a j := fun a j ha => by rw [I7, if_neg (by omega), if_neg (by omega), if_neg (by omega), if_neg (by omega)]
    rw [J 4 _ (by omega), J 4 _ (by omega), J 5 _ (by omega), J 5 _ (by omega), I8]; exact h5 x hx
theorem MR.nd {σ : HS} {V : AV} (h : MR σ V) (hv : IV V) {i p k e : Int32} {off : Int64} (h10 : ab_n V < 10) : MR (faS (mn0 σ (ab_n V) i p k e off) (ab_n V + 1)) (ndA V i p k e off) := (h.1.nd (i := i) (p := p) (k := k) (e := e) (off := off)).MRfa (show ab_n V + 1 ≤ 10 by omega) hv.L16
theorem MB.lkm {σ : HS} {V : AV} (h : MB σ V) {x y : Nat} {t b : Int32} (hx : x < 40) (hy : y < 40) : MB (ml0 σ (ab_L V) x y t b) (lkA V x y t b) := by
  obtain ⟨h1, h2, h3, h4, h5⟩ := h
  have I0 : ∀ a j, ¬ (a = 4 ∨ a = 5 ∨ a = 6) → hI (ml0 σ (ab_L V) x y t b) 7 a j = hI σ 7 a j := fun a j ha => by
    have ha4 : a ≠ 4 := fun z => ha (by omega)
    have ha5 : a ≠ 5 := fun z => ha (by omega)
    have ha6 : a ≠ 6 := fun z => ha (by omega)
    unfold ml0; simp [I_sI, ha4, ha5, ha6]
  have I4 : ∀ j, hI (ml0 σ (ab_L V) x y t b) 7 4 j = if j = 2 * ab_L V + 1 then nI y else if j = 2 * ab_L V then nI x else hI σ 7 4 j := fun j => by
    unfold ml0; simp [I_sI]
  have I5 : ∀ j, hI (ml0 σ (ab_L V) x y t b) 7 5 j = if j = 2 * ab_L V + 1 then b else if j = 2 * ab_L V then t else hI σ 7 5 j := fun j => by
    unfold ml0; simp [I_sI]
  have I6 : ∀ j, hI (ml0 σ (ab_L V) x y t b) 7 6 j = if j = y then nI (ab_L V) else if j = x then nI (ab_L V) else hI σ 7 6 j := fun j => by
    unfold ml0; simp [I_sI]
  have I8 : ∀ j, hI (ml0 σ (ab_L V) x y t b) 8 0 j = if j = ab_L V then 1 else hI σ 8 0 j := fun j => by
    unfold ml0; simp [I_sI]
  have I81 : ∀ j, hI (ml0 σ (ab_L V) x y t b) 8 1 j = hI σ 8 1 j := fun j => by
    unfold ml0; simp [I_sI]
  refine ⟨h1.of rfl rfl, ⟨?_, ?_⟩, fun i hi => ?_, fun q hq => ?_, fun k hk => ?_⟩
  · unfold ml0; simp [I_sI]; exact h2.1
  · unfold ml0; rw [I_sI, if_pos ⟨rfl, rfl, rfl⟩]; rfl
  · rw [I0 1 _ (by omega), I0 2 _ (by omega), I0 3 _ (by omega), I0 0 _ (by omega)]; exact h3 i hi
  · rw [I81, I0 8 _ (by omega), I6]
    refine ⟨(h4 q hq).1, (h4 q hq).2.1, fun j hj => by rw [I0 9 _ (by omega)]; exact (h4 q hq).2.2.1 j hj, ?_⟩
    rw [lkA_k]
    by_cases c : q = y
    · rw [if_pos c, if_pos c]; rfl
    · rw [if_neg c, if_neg c]
      by_cases d : q = x
      · rw [if_pos d, if_pos d]; rfl
      · rw [if_neg d, if_neg d]; exact (h4 q hq).2.2.2
  · have hk' : k < ab_L V + 1 := hk
    show _ = nI (if k = ab_L V then x else ab_X V k) ∧ _ = nI (if k = ab_L V then y else ab_Y V k) ∧ _ = (if k = ab_L V then t else ab_W V k) ∧ _ = (if k = ab_L V then b else ab_B V k) ∧ _ = (if k = ab_L V then 1 else ab_U V k)
    rw [I4, I4, I5, I5, I8]
    by_cases c : k = ab_L V
    · rw [c, if_neg (by omega), if_pos rfl, if_pos rfl, if_pos rfl, if_pos rfl, if_neg (by omega), if_pos rfl, if_pos rfl, if_pos rfl, if_pos rfl, if_pos rfl]
      refine ⟨rfl, rfl, rfl, rfl, ?_⟩
      rw [if_pos rfl]
    · rw [if_neg (by omega), if_neg (by omega), if_neg c, if_neg (by omega), if_neg (by omega), if_neg c, if_neg (by omega), if_neg (by omega), if_neg c, if_neg (by omega), if_neg (by omega), if_neg c, if_neg c, if_neg c]
      exact h5 k (by omega)
theorem MR.lkm {σ : HS} {V : AV} (h : MR σ V) {x y : Nat} {t b : Int32} (hx : x < 40) (hy : y < 40) (hv : IV (lkA V x y t b)) : MR (faS (ml0 σ (ab_L V) x y t b) (ab_n V)) (lkA V x y t b) := (h.1.lkm (t := t) (b := b) hx hy).MRfa hv.1.1 hv.L16
