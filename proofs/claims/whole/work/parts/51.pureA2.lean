/-- what a state holds of some objects is as before -/
def fr (P : Nat → Nat → Prop) (σ τ : HS) : Prop := (∀ q a, P q a → (∀ k, hI τ q a k = hI σ q a k) ∧ (∀ k, hJ τ q a k = hJ σ q a k) ∧ (∀ k, hR τ q a k = hR σ q a k) ∧ hl τ q a = hl σ q a) ∧ ∀ q a, P q a → hn τ q = hn σ q
theorem nq {P : Nat → Nat → Prop} {q q' a a' : Nat} (hq : ¬ P q a) (h : P q' a') (z1 : q' = q) (z2 : a' = a) : False := by subst z1; subst z2; exact hq h
section FR
variable {P : Nat → Nat → Prop} {σ τ υ : HS} {q a k : Nat}
theorem fr.all (f : fr P σ τ) (hq : ∀ a, P q a) : (∀ a k, hI τ q a k = hI σ q a k) ∧ (∀ a k, hJ τ q a k = hJ σ q a k) ∧ (∀ a k, hR τ q a k = hR σ q a k) ∧ (∀ a, hl τ q a = hl σ q a) ∧ hn τ q = hn σ q := ⟨fun a k => (f.1 q a (hq a)).1 k, fun a k => (f.1 q a (hq a)).2.1 k, fun a k => (f.1 q a (hq a)).2.2.1 k, fun a => (f.1 q a (hq a)).2.2.2, f.2 q 0 (hq 0)⟩
theorem fr.rf : fr P σ σ := ⟨fun _ _ _ => ⟨fun _ => rfl, fun _ => rfl, fun _ => rfl, rfl⟩, fun _ _ _ => rfl⟩
theorem fr.trans (h : fr P σ τ) (h' : fr P τ υ) : fr P σ υ := ⟨fun q a hq => ⟨fun k => ((h'.1 q a hq).1 k).trans ((h.1 q a hq).1 k), fun k => ((h'.1 q a hq).2.1 k).trans ((h.1 q a hq).2.1 k), fun k => ((h'.1 q a hq).2.2.1 k).trans ((h.1 q a hq).2.2.1 k), ((h'.1 q a hq).2.2.2).trans ((h.1 q a hq).2.2.2)⟩, fun q a hq => (h'.2 q a hq).trans (h.2 q a hq)⟩
theorem fr.oI {v : Int32} (hq : ¬ P q a) : fr P σ (sI σ q a k v) := ⟨fun q' a' h => ⟨fun k => by rw [I_sI, if_neg (fun z => nq hq h z.1 z.2.1)], fun k => rfl, fun k => rfl, rfl⟩, fun _ _ _ => rfl⟩
theorem fr.oJ {v : Int64} (hq : ¬ P q a) : fr P σ (sJ σ q a k v) := ⟨fun q' a' h => ⟨fun k => rfl, fun k => by rw [J_sJ, if_neg (fun z => nq hq h z.1 z.2.1)], fun k => rfl, rfl⟩, fun _ _ _ => rfl⟩
theorem fr.oR {v : Option Nat} (hq : ¬ P q a) : fr P σ (sR σ q a k v) := ⟨fun q' a' h => ⟨fun k => rfl, fun k => rfl, fun k => by rw [R_sR, if_neg (fun z => nq hq h z.1 z.2.1)], rfl⟩, fun _ _ _ => rfl⟩
theorem fr.oD {d : Nat} {f : DV} (hq : ¬ P 0 d) : fr P σ (sD σ d f) := ⟨fun q' a' h => ⟨fun k => by rw [I_sD, if_neg (fun z => nq hq h z.1 z.2)], fun k => rfl, fun k => rfl, rfl⟩, fun _ _ _ => rfl⟩
theorem fr.oA {f : Nat → Int32} (hq : ¬ P q a) : fr P σ (sA σ q a f) := ⟨fun q' a' h => ⟨fun k => by rw [I_sA, if_neg (fun z => nq hq h z.1 z.2)], fun k => rfl, fun k => rfl, rfl⟩, fun _ _ _ => rfl⟩
theorem fr.ok {ov : Int32} {js : Nat → Int64} (hq : ¬ P 4 a) : fr P σ (rk σ a ov js) := ⟨fun q' a' h => ⟨fun k => if_neg (fun z => nq hq h z.1 z.2.1), fun k => if_neg (fun z => nq hq h z.1 z.2), fun k => rfl, rfl⟩, fun _ _ _ => rfl⟩
theorem fr.ow {n : Nat} (hq : ∀ a, ¬ P q a) : fr P σ (nw σ q n) := ⟨fun q' a' h => ⟨fun k => by rw [I_nw, if_neg (fun z => nq (hq _) h z.1 z.2)], fun k => by rw [J_nw, if_neg (fun z => nq (hq _) h z.1 z.2)], fun k => by rw [R_nw, if_neg (fun z => nq (hq _) h z.1 z.2)], by rw [l_nw, if_neg (fun z => nq (hq _) h z.1 z.2)]⟩, fun q' a' h => by rw [n_nw, if_neg (fun z => nq (hq _) h z rfl)]⟩
end FR
def pM (q _a : Nat) : Prop := 6 ≤ q ∧ q ≤ 9
def pT (q a : Nat) : Prop := q < 6 ∨ 9 < q ∨ (q = 9 ∧ a = 2)
theorem TS.frm {σ τ : HS} {n L : Nat} (hT : TS σ n L) (h : fr pT σ τ) : TS τ n L := by
  obtain ⟨h1, h2, h3, h4, h5, h6, h7, h8⟩ := hT
  have hi := fun q (hq : ∀ a, pT q a) => (fr.all h hq).1
  have hr := fun q (hq : ∀ a, pT q a) => (fr.all h hq).2.2.1
  have hl' := fun q (hq : ∀ a, pT q a) => (fr.all h hq).2.2.2.1
  have c0 : ∀ a, pT 0 a := fun _ => Or.inl (by omega)
  have c1 : ∀ a, pT 1 a := fun _ => Or.inl (by omega)
  have c2 : ∀ a, pT 2 a := fun _ => Or.inl (by omega)
  have c3 : ∀ a, pT 3 a := fun _ => Or.inl (by omega)
  have c5 : ∀ a, pT 5 a := fun _ => Or.inl (by omega)
  have c10 : ∀ a, pT 10 a := fun _ => Or.inr (Or.inl (by omega))
  have c11 : ∀ a, pT 11 a := fun _ => Or.inr (Or.inl (by omega))
  have c12 : ∀ a, pT 12 a := fun _ => Or.inr (Or.inl (by omega))
  refine ⟨⟨?_, ?_, ?_⟩, ⟨by rw [hl' 10 c10]; exact h2.1, by rw [hl' 11 c11]; exact h2.2⟩, ⟨?_, ?_, h3.2.2⟩, fun i hin => ⟨?_, ?_⟩, fun p hp => ?_, fun k hk => ⟨?_, ?_⟩, fun p hp => ⟨?_, ?_⟩, fun i hin => ?_⟩
  · rw [hr 5 c5]; exact h1.1
  · rw [hr 5 c5]; exact h1.2.1
  · rw [hr 5 c5]; exact h1.2.2
  · rw [hi 5 c5]; exact h3.1
  · rw [hi 5 c5]; exact h3.2.1
  · rw [hr 10 c10]; exact (h4 i hin).1
  · obtain ⟨a1, a2, a3, a4⟩ := (h4 i hin).2
    refine ⟨by rw [hr 2 c2]; exact a1, by rw [hr 2 c2]; exact a2, by rw [hl' 12 c12]; exact a3, fun j hj => ⟨?_, ?_, ?_⟩⟩
    · rw [hr 12 c12]; exact (a4 j hj).1
    · rw [hr 1 c1]; exact (a4 j hj).2.1
    · rw [hr 1 c1]; exact (a4 j hj).2.2
  · rw [hr 1 c1]; exact h5 p hp
  · rw [hr 11 c11]; exact (h6 k hk).1
  · obtain ⟨-, x, y, b1, b2, b3, b4⟩ := h6 k hk
    exact ⟨x, y, b1, b2, by rw [hr 3 c3]; exact b3, by rw [hr 3 c3]; exact b4⟩
  · rw [hi 1 c1]; exact (h7 p hp).1
  · rw [hi 1 c1]; exact (h7 p hp).2
  · rw [hi 2 c2]; exact h8 i hin
theorem TB.frm {σ τ : HS} {V : AV} (h : TB σ V) (f : fr pT σ τ) : TB τ V := by
  obtain ⟨h1, h2, h3, h4, h5⟩ := h
  have c0 := fr.all (q := 0) f (fun _ => Or.inl (by omega))
  have c1 := fr.all (q := 1) f (fun _ => Or.inl (by omega))
  have c2 := fr.all (q := 2) f (fun _ => Or.inl (by omega))
  have c3 := fr.all (q := 3) f (fun _ => Or.inl (by omega))
  have c5 := fr.all (q := 5) f (fun _ => Or.inl (by omega))
  have c10 := fr.all (q := 10) f (fun _ => Or.inr (Or.inl (by omega)))
  have c12 := fr.all (q := 12) f (fun _ => Or.inr (Or.inl (by omega)))
  obtain ⟨⟨m0, m1, m2, m3, m12⟩, m5, m10⟩ := h2
  refine ⟨h1.frm f, ⟨⟨?_, ?_, ?_, ?_, ?_⟩, ?_, ?_⟩, fun i hi => ⟨fun k hk => ?_, ?_, ?_⟩, fun p hp => ⟨?_, ?_, fun k hk => ?_, ?_⟩, fun k hk => ⟨?_, ?_, ?_, ?_, ?_⟩⟩
  · rw [c0.2.2.2.2]; exact m0
  · rw [c1.2.2.2.2]; exact m1
  · rw [c2.2.2.2.2]; exact m2
  · rw [c3.2.2.2.2]; exact m3
  · rw [c12.2.2.2.2]; exact m12
  · rw [c5.2.2.2.2]; exact m5
  · rw [c10.2.2.2.2]; exact m10
  · rw [c0.1]; exact (h3 i hi).1 k hk
  · rw [c2.2.1]; exact (h3 i hi).2.1
  · rw [c2.2.1]; exact (h3 i hi).2.2
  · rw [c1.1]; exact (h4 p hp).1
  · rw [c1.1]; exact (h4 p hp).2.1
  · rw [c0.1]; exact (h4 p hp).2.2.1 k hk
  · rw [c1.2.2.1]; exact (h4 p hp).2.2.2
  · rw [c3.2.2.1]; exact (h5 k hk).1
  · rw [c3.2.2.1]; exact (h5 k hk).2.1
  · rw [c3.1]; exact (h5 k hk).2.2.1
  · rw [c3.1]; exact (h5 k hk).2.2.2.1
  · rw [c3.1]; exact (h5 k hk).2.2.2.2
theorem TDn.frm {σ τ : HS} {V : AV} {i : Nat} (h : TDn σ V i) (f : fr pT σ τ) : TDn τ V i := by
  have c0 := fr.all (q := 0) f (fun _ => Or.inl (by omega))
  have c1 := fr.all (q := 1) f (fun _ => Or.inl (by omega))
  have c2 := fr.all (q := 2) f (fun _ => Or.inl (by omega))
  exact ⟨by rw [c2.2.2.1]; exact h.1, fun j hj => ⟨by rw [c1.1]; exact (h.2 j hj).1, fun k hk => by rw [c0.1]; exact (h.2 j hj).2 k hk⟩⟩
theorem TR.frm {σ τ : HS} {V : AV} (h : TR σ V) (f : fr pT σ τ) : TR τ V := ⟨h.1.frm f, fun i hi => (h.2 i hi).frm f⟩
/-- findStates -/
theorem fsS_st {σ : HS} {i j : Nat} : ∀ m, j < m → hI (fsS σ i m) 1 (4 * i + j) 6 = svJ σ i j
  | 0, h => by omega
  | m + 1, h => by
    show hI (sI (sD (fsS σ i m) (9 * i + 2 + 2 * m) (tvJ σ i m)) 1 (4 * i + m) 6 (svJ σ i m)) 1 (4 * i + j) 6 = _
    rw [I_sI]
    by_cases e : j = m
    · rw [if_pos ⟨rfl, by rw [e], rfl⟩, e]
    · rw [if_neg (fun z => e (by omega)), I_sD, if_neg (fun z => absurd z.1 (by decide))]; exact fsS_st m (by omega)
theorem fsS_tl {σ : HS} {i j k : Nat} : ∀ m, j < m → hI (fsS σ i m) 0 (9 * i + 2 + 2 * j) k = tvJ σ i j k
  | 0, h => by omega
  | m + 1, h => by
    show hI (sI (sD (fsS σ i m) (9 * i + 2 + 2 * m) (tvJ σ i m)) 1 (4 * i + m) 6 (svJ σ i m)) 0 (9 * i + 2 + 2 * j) k = _
    rw [I_sI, if_neg (fun z => absurd z.1 (by decide)), I_sD]
    by_cases e : j = m
    · rw [if_pos ⟨rfl, by rw [e]⟩, e]
    · rw [if_neg (fun z => e (by omega))]; exact fsS_tl m (by omega)
theorem fsS_Io {σ : HS} {i q a k : Nat} (h0 : q ≠ 0) (h1 : q ≠ 1) : ∀ m, hI (fsS σ i m) q a k = hI σ q a k
  | 0 => rfl
  | m + 1 => by
    show hI (sI (sD (fsS σ i m) (9 * i + 2 + 2 * m) (tvJ σ i m)) 1 (4 * i + m) 6 (svJ σ i m)) q a k = _
    rw [I_sI, if_neg (fun z => h1 z.1), I_sD, if_neg (fun z => h0 z.1)]; exact fsS_Io h0 h1 m
theorem fsS_fr {σ : HS} {i : Nat} {P : Nat → Nat → Prop} (h0 : ∀ a, ¬ P 0 a) (h1 : ∀ a, ¬ P 1 a) (h2 : ∀ a, ¬ P 2 a) : ∀ m, fr P σ (fsS σ i m)
  | 0 => fr.oR (h2 _)
  | m + 1 => ((fsS_fr h0 h1 h2 m).trans (fr.oD (h0 _))).trans (fr.oI (h1 _))
theorem dsk_ne {p i j : Nat} (hj : j < 4) : ¬ kpt p = 9 * i + 2 + 2 * j := by
  unfold kpt
  have h := Nat.mod_lt p (show 0 < 4 by decide)
  generalize p / 4 = a
  generalize p % 4 = b at h ⊢
  omega
theorem TB.fs {σ : HS} {V : AV} (h : TB σ V) {i : Nat} : TB (fsS σ i 4) V := by
  obtain ⟨h1, h2, h3, h4, h5⟩ := h
  refine ⟨h1.g (gfr.fs 4), by rw [show CN (fsS σ i 4) _ _ = CN σ _ _ by unfold CN; rw [fsS_n], fsS_n]; exact h2, fun i' hi => ⟨fun k hk => ?_, ?_, ?_⟩, fun p hp => ⟨?_, ?_, fun k hk => ?_, ?_⟩, fun k hk => ⟨?_, ?_, ?_, ?_, ?_⟩⟩
  · rw [fsS_I0 4 (fun j' hj => by omega)]; exact (h3 i' hi).1 k hk
  · rw [fsS_J]; exact (h3 i' hi).2.1
  · rw [fsS_J]; exact (h3 i' hi).2.2
  · rw [fsS_I1 4 (fun z => absurd z (by decide))]; exact (h4 p hp).1
  · rw [fsS_I1 4 (fun z => absurd z (by decide))]; exact (h4 p hp).2.1
  · rw [fsS_I0 4 (fun j' hj => dsk_ne hj)]; exact (h4 p hp).2.2.1 k hk
  · rw [fsS_Rn 4 (by omega)]; exact (h4 p hp).2.2.2
  · rw [fsS_Rn 4 (by omega)]; exact (h5 k hk).1
  · rw [fsS_Rn 4 (by omega)]; exact (h5 k hk).2.1
  · rw [fsS_Io (by decide) (by decide)]; exact (h5 k hk).2.2.1
  · rw [fsS_Io (by decide) (by decide)]; exact (h5 k hk).2.2.2.1
  · rw [fsS_Io (by decide) (by decide)]; exact (h5 k hk).2.2.2.2
theorem TB.fsD {σ : HS} {V : AV} (h : TB σ V) {i : Nat} (hi : i < ab_n V) : TDn (fsS σ i 4) V i := by
  refine ⟨?_, fun j hj => ⟨?_, fun k hk => ?_⟩⟩
  · rw [fsS_R, R_sR, if_pos ⟨rfl, rfl, rfl⟩, h.fb hi 4 (by omega)]; rfl
  · rw [fsS_st 4 hj, h.sv hi hj]
  · rw [fsS_tl 4 hj, h.tv hi hj k hk]
theorem TDn.fs {σ : HS} {V : AV} {i i' : Nat} (h : TDn σ V i') (hne : i' ≠ i) : TDn (fsS σ i 4) V i' := by
  refine ⟨?_, fun j hj => ⟨?_, fun k hk => ?_⟩⟩
  · rw [fsS_Rn 4 (by omega)]; exact h.1
  · rw [fsS_I1 4 (fun _ j' hj' => by omega)]; exact (h.2 j hj).1
  · rw [fsS_I0 4 (fun j' hj' => by omega)]; exact (h.2 j hj).2 k hk
