/-- what a node finds depends on it alone -/
def sN (V W : AV) (i : Nat) : Prop := (∀ k, ab_O W i k = ab_O V i k) ∧ ∀ j, j < 4 → ab_K W (4 * i + j) = ab_K V (4 * i + j) ∧ ab_T W (4 * i + j) = ab_T V (4 * i + j) ∧ ab_k W (4 * i + j) = ab_k V (4 * i + j)
theorem sN.ow {V W : AV} {i : Nat} (h : sN V W i) : ownD W i = ownD V i := by unfold ownD; rw [h.1, h.1, h.1, h.1]
theorem sN.bj {V W : AV} {i : Nat} (h : sN V W i) : ∀ j, j ≤ 4 → bsJ W i j = bsJ V i j
  | 0, _ => rfl
  | j + 1, hj => by
    have hb : bdD W i (bsJ V i j) = bdD V i (bsJ V i j) := by
      cases ho : bsJ V i j with
      | none => exact h.ow
      | some x => exact (h.2 x (by have := bsJ_lt j x ho; omega)).2.1
    rw [bsJ, bsJ, sN.bj h j (by omega), (h.2 j (by omega)).1, (h.2 j (by omega)).2.1, hb]
theorem sN.bs {V W : AV} {i : Nat} (h : sN V W i) : bsA W i = bsA V i := h.bj 4 (by omega)
theorem sN.bd {V W : AV} {i : Nat} (h : sN V W i) : bD W i = bD V i := by
  unfold bD
  rw [h.bs]
  cases ho : bsA V i with
  | none => exact h.ow
  | some x => exact (h.2 x (bsJ_lt 4 x ho)).2.1
theorem sN.tl {V W : AV} {i j : Nat} (h : sN V W i) (hj : j < 4) : tlD W (4 * i + j) = tlD V (4 * i + j) := by
  unfold tlD
  rw [show (4 * i + j) / 4 = i by omega, h.bd, h.bs, h.1]
theorem sN.st {V W : AV} {i j : Nat} (h : sN V W i) (hj : j < 4) : stA W (4 * i + j) = stA V (4 * i + j) := by
  unfold stA
  rw [h.tl hj, show (4 * i + j) / 4 = i by omega, h.bs, (h.2 j hj).1, (h.2 j hj).2.1, (h.2 j hj).2.2]
theorem TDn.sn {σ : HS} {V W : AV} {i : Nat} (h : TDn σ V i) (hs : sN V W i) : TDn σ W i := ⟨by rw [hs.bs]; exact h.1, fun j hj => ⟨by rw [hs.st hj]; exact (h.2 j hj).1, fun k hk => by rw [hs.tl hj]; exact (h.2 j hj).2 k hk⟩⟩
theorem MDn.sn {σ : HS} {V W : AV} {i : Nat} (h : MDn σ V i) (hs : sN V W i) : MDn σ W i := ⟨by rw [hs.bs]; exact h.1, fun j hj => by rw [hs.st hj]; exact h.2 j hj⟩
/-! up -/
def upV (V : AV) (k : Nat) (z : Int32) : AV := (V.1, V.2.1, V.2.2.1, V.2.2.2.1, (ab_X V, ab_Y V, ab_W V, ab_B V, fun x => if x = k then z else ab_U V x))
theorem IV.upv {V : AV} (h : IV V) {k : Nat} {z : Int32} (hz : z = 0 ∨ z = 1) : IV (upV V k z) := by
  obtain ⟨h1, h2, h3, h4, h5, h6⟩ := h
  refine ⟨h1, h2, fun x hx => ?_, h4, h5, h6⟩
  obtain ⟨a, b, c⟩ := h3 x hx
  refine ⟨a, b, ?_⟩
  show (if x = k then z else ab_U V x) = 0 ∨ (if x = k then z else ab_U V x) = 1
  split
  · exact hz
  · exact c
theorem gfr.s3 {σ : HS} {k : Nat} {z : Int32} (hq : True) : ∀ q a j, ¬ (q = 3 ∧ j = 4) → hI (sI σ 3 k 4 z) q a j = hI σ q a j := fun q a j h => by rw [I_sI, if_neg (fun w => h ⟨w.1, w.2.2⟩)]
theorem TR.upv {σ : HS} {V : AV} (h : TR σ V) {k : Nat} {z : Int32} : TR (sI σ 3 k 4 z) (upV V k z) := by
  obtain ⟨⟨h1, h2, h3, h4, h5⟩, hd⟩ := h
  have e : ∀ q a j, ¬ (q = 3 ∧ j = 4) → hI (sI σ 3 k 4 z) q a j = hI σ q a j := gfr.s3 trivial
  obtain ⟨t1, t2, t3, t4, t5, t6, t7, t8⟩ := h1
  refine ⟨⟨⟨t1, t2, ⟨by rw [e _ _ _ (by omega)]; exact t3.1, by rw [e _ _ _ (by omega)]; exact t3.2.1, t3.2.2⟩, t4, t5, t6, fun p hp => by rw [e _ _ _ (by omega), e _ _ _ (by omega)]; exact t7 p hp, fun i hi => by rw [e _ _ _ (by omega)]; exact t8 i hi⟩, h2, fun x hx => ⟨fun k hk => by rw [e _ _ _ (by omega)]; exact (h3 x hx).1 k hk, (h3 x hx).2⟩, fun p hp => ⟨by rw [e _ _ _ (by omega)]; exact (h4 p hp).1, by rw [e _ _ _ (by omega)]; exact (h4 p hp).2.1, fun k hk => by rw [e _ _ _ (by omega)]; exact (h4 p hp).2.2.1 k hk, (h4 p hp).2.2.2⟩, fun x hx => ⟨(h5 x hx).1, (h5 x hx).2.1, by rw [e _ _ _ (by omega)]; exact (h5 x hx).2.2.1, by rw [e _ _ _ (by omega)]; exact (h5 x hx).2.2.2.1, ?_⟩⟩, fun x hx => ⟨(hd x hx).1, fun j hj => ⟨by rw [e _ _ _ (by omega)]; exact ((hd x hx).2 j hj).1, fun k hk => by rw [e _ _ _ (by omega)]; exact ((hd x hx).2 j hj).2 k hk⟩⟩⟩
  show _ = if x = k then z else ab_U V x
  rw [I_sI]
  by_cases c : x = k
  · rw [if_pos c, if_pos ⟨rfl, c, rfl⟩]
  · rw [if_neg c, if_neg (fun w => c w.2.1)]; exact (h5 x hx).2.2.2.2
theorem MR.upv {σ : HS} {V : AV} (h : MR σ V) {k : Nat} {z : Int32} : MR (sI σ 8 0 k z) (upV V k z) := by
  obtain ⟨⟨h1, h2, h3, h4, h5⟩, hd⟩ := h
  have e : ∀ q a j, ¬ (q = 8 ∧ a = 0) → hI (sI σ 8 0 k z) q a j = hI σ q a j := fun q a j h => by rw [I_sI, if_neg (fun w => h ⟨w.1, w.2.1⟩)]
  refine ⟨⟨h1.of rfl rfl, ⟨by rw [e _ _ _ (by omega)]; exact h2.1, by rw [e _ _ _ (by omega)]; exact h2.2⟩, fun x hx => ?_, fun p hp => ?_, fun x hx => ?_⟩, fun x hx => ⟨by rw [e _ _ _ (by omega)]; exact (hd x hx).1, fun j hj => by rw [e _ _ _ (by omega)]; exact (hd x hx).2 j hj⟩⟩
  · rw [e _ _ _ (by omega), e _ _ _ (by omega), e _ _ _ (by omega), e _ _ _ (by omega)]; exact h3 x hx
  · rw [e _ _ _ (by omega), e _ _ _ (by omega), e 7 6 _ (by omega)]
    exact ⟨(h4 p hp).1, (h4 p hp).2.1, fun k hk => by rw [e _ _ _ (by omega)]; exact (h4 p hp).2.2.1 k hk, (h4 p hp).2.2.2⟩
  · rw [e _ _ _ (by omega), e _ _ _ (by omega), e _ _ _ (by omega), e _ _ _ (by omega)]
    refine ⟨(h5 x hx).1, (h5 x hx).2.1, (h5 x hx).2.2.1, (h5 x hx).2.2.2.1, ?_⟩
    show _ = if x = k then z else ab_U V x
    rw [I_sI]
    by_cases c : x = k
    · rw [if_pos c, if_pos ⟨rfl, rfl, c⟩]
    · rw [if_neg c, if_neg (fun w => c w.2.2)]; exact (h5 x hx).2.2.2.2
/-! priority -/
def prV (V : AV) (i : Nat) (u : Int32) : AV := (V.1, fun x k => if x = i ∧ k = 0 then u else ab_O V x k, V.2.2.1, V.2.2.2.1, V.2.2.2.2)
theorem IV.prv {V : AV} (h : IV V) {i : Nat} {u : Int32} : IV (prV V i u) := h
theorem prV_sN {V : AV} {i x : Nat} {u : Int32} (h : x ≠ i) : sN V (prV V i u) x := ⟨fun k => by show (if x = i ∧ k = 0 then u else ab_O V x k) = _; rw [if_neg (fun z => h z.1)], fun j hj => ⟨rfl, rfl, rfl⟩⟩
theorem prV_ow {V : AV} {i : Nat} {u : Int32} : ∀ k, k < 8 → ownD (prV V i u) i k = if k = 0 then u else ownD V i k
  | 0, _ => by show (if i = i ∧ 0 = 0 then u else ab_O V i 0) = _; rw [if_pos ⟨rfl, rfl⟩, if_pos rfl]
  | 1, _ => by show (if i = i ∧ 1 = 0 then u else ab_O V i 1) = ab_O V i 1; rw [if_neg (by omega)]
  | 2, _ => by show (if i = i ∧ 2 = 0 then u else ab_O V i 2) = ab_O V i 2; rw [if_neg (by omega)]
  | 3, _ => by show (if i = i ∧ 3 = 0 then u else ab_O V i 3) = ab_O V i 3; rw [if_neg (by omega)]
  | 4, _ => rfl
  | 5, _ => by show (if i = i ∧ 3 = 0 then u else ab_O V i 3) = ab_O V i 3; rw [if_neg (by omega)]
  | 6, _ => rfl
  | 7, _ => rfl
  | k + 8, h => by omega
theorem TB.prv {σ : HS} {V : AV} (h : TB σ V) {i : Nat} {u : Int32} (hi : i < ab_n V) : TB (sI σ 0 (9 * i) 0 u) (prV V i u) := by
  obtain ⟨h1, h2, h3, h4, h5⟩ := h
  have e : ∀ q a j, ¬ (q = 0 ∧ a = 9 * i) → hI (sI σ 0 (9 * i) 0 u) q a j = hI σ q a j := fun q a j h => by rw [I_sI, if_neg (fun w => h ⟨w.1, w.2.1⟩)]
  obtain ⟨t1, t2, t3, t4, t5, t6, t7, t8⟩ := h1
  refine ⟨⟨t1, t2, ⟨by rw [e _ _ _ (by omega)]; exact t3.1, by rw [e _ _ _ (by omega)]; exact t3.2.1, t3.2.2⟩, t4, t5, t6, fun p hp => by rw [e _ _ _ (by omega), e _ _ _ (by omega)]; exact t7 p hp, fun i hi => by rw [e _ _ _ (by omega)]; exact t8 i hi⟩, h2, fun x hx => ⟨fun k hk => ?_, (h3 x hx).2⟩, fun p hp => ⟨by rw [e _ _ _ (by omega)]; exact (h4 p hp).1, by rw [e _ _ _ (by omega)]; exact (h4 p hp).2.1, fun k hk => by rw [e _ _ _ (fun z => kpt_own z.2.symm)]; exact (h4 p hp).2.2.1 k hk, (h4 p hp).2.2.2⟩, fun x hx => ⟨(h5 x hx).1, (h5 x hx).2.1, by rw [e _ _ _ (by omega)]; exact (h5 x hx).2.2.1, by rw [e _ _ _ (by omega)]; exact (h5 x hx).2.2.2.1, by rw [e _ _ _ (by omega)]; exact (h5 x hx).2.2.2.2⟩⟩
  by_cases c : x = i
  · subst c
    rw [prV_ow k hk, I_sI]
    by_cases d : k = 0
    · rw [if_pos d, if_pos ⟨rfl, rfl, d⟩]
    · rw [if_neg d, if_neg (fun w => d w.2.2)]; exact (h3 x hx).1 k hk
  · rw [(prV_sN (V := V) (u := u) c).ow, e _ _ _ (by omega)]; exact (h3 x hx).1 k hk
theorem TR.prv {σ : HS} {V : AV} (h : TR σ V) {i : Nat} {u : Int32} (hi : i < ab_n V) : TR (fsS (sI σ 0 (9 * i) 0 u) i 4) (prV V i u) := by
  have g := h.1.prv (u := u) hi
  refine ⟨g.fs, fun x hx => ?_⟩
  by_cases c : x = i
  · subst c; exact g.fsD hx
  · have hx' : x < ab_n V := hx
    refine TDn.fs ?_ c
    refine TDn.sn (V := V) ?_ (prV_sN c)
    have hd := h.2 x hx'
    exact ⟨hd.1, fun j hj => ⟨by rw [I_sI, if_neg (by omega)]; exact (hd.2 j hj).1, fun k hk => by rw [I_sI, if_neg (by omega)]; exact (hd.2 j hj).2 k hk⟩⟩
theorem MB.prv {σ : HS} {V : AV} (h : MB σ V) {i : Nat} {u : Int32} : MB (sI σ 7 1 i u) (prV V i u) := by
  obtain ⟨h1, h2, h3, h4, h5⟩ := h
  have e : ∀ q a j, ¬ (q = 7 ∧ a = 1) → hI (sI σ 7 1 i u) q a j = hI σ q a j := fun q a j h => by rw [I_sI, if_neg (fun w => h ⟨w.1, w.2.1⟩)]
  refine ⟨h1.of rfl rfl, ⟨by rw [e _ _ _ (by omega)]; exact h2.1, by rw [e _ _ _ (by omega)]; exact h2.2⟩, fun x hx => ?_, fun p hp => ?_, fun x hx => ?_⟩
  · obtain ⟨a1, a2, a3, a4, a5⟩ := h3 x hx
    refine ⟨?_, ?_, ?_, ?_, a5⟩
    · show _ = if x = i ∧ 0 = 0 then u else ab_O V x 0
      rw [I_sI]
      by_cases c : x = i
      · rw [if_pos ⟨rfl, rfl, c⟩, if_pos ⟨c, rfl⟩]
      · rw [if_neg (fun z => c z.2.2), if_neg (fun z => c z.1)]; exact a1
    · show _ = if x = i ∧ 1 = 0 then u else ab_O V x 1
      rw [if_neg (by omega), e _ _ _ (by omega)]; exact a2
    · show _ = if x = i ∧ 2 = 0 then u else ab_O V x 2
      rw [if_neg (by omega), e _ _ _ (by omega)]; exact a3
    · show _ = if x = i ∧ 3 = 0 then u else ab_O V x 3
      rw [if_neg (by omega), e _ _ _ (by omega)]; exact a4
  · rw [e _ _ _ (by omega), e _ _ _ (by omega), e 7 6 _ (by omega)]
    exact ⟨(h4 p hp).1, (h4 p hp).2.1, fun k hk => by rw [e _ _ _ (by omega)]; exact (h4 p hp).2.2.1 k hk, (h4 p hp).2.2.2⟩
  · rw [e _ _ _ (by omega), e _ _ _ (by omega), e _ _ _ (by omega), e _ _ _ (by omega), e _ _ _ (by omega)]
    exact h5 x hx
theorem MR.prv {σ : HS} {V : AV} (h : MR σ V) (hv : IV V) {i : Nat} {u : Int32} : MR (faS (sI σ 7 1 i u) (ab_n V)) (prV V i u) := (h.1.prv (i := i) (u := u)).MRfa hv.1.1 hv.L16
