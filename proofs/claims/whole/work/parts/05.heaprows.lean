section HR
variable {l : Launch} {G : LG} {M : MI} {PM : LPM} {Q : LO → HS → Prop} {pc : Nat} {lv : List (Nat × Value)} {st : List Value} {σ : HS} {mc ms : Nat}
variable {p : Program} {e : Env} {R : Room} {s : State} {m : MethodId} {args : Array Value} {below : List Frame} {meth : Method} {c : Code} {B : Nat} {ad n0 ad0 : Nat → Nat} {H : Heap} {locs : List Loc} {ls : Array Slot} {cells slots : Nat} {Qm : State → Prop} {rest : List Value}
theorem lay_in {q : Nat} {r : vw_C} (hc : lcl[q]? = some r) : ∀ w ∈ u_ws r.1 r.2.1 r.2.2, w ∈ gt := (lcl_ok q r hc).1
theorem get_core (hC : CX l G M p s m args meth c B) (hw : LW G B ad σ H) {q a k idx : Nat} {r : vw_C} (hp : al σ (q + 16 * a)) (hq : q < 7) (hc : lcl[q]? = some r) (hk : k < r.2.2) (hf : FL M.1.cls idx r k) (hd : decode M.2.1 pc = .ok (.getfield idx, 3))
    (kk : W p l e R s m args below meth c H locs cells slots Qm (F0 m (pc + 3) ls (fv ad σ q a k :: rest))) : W p l e R s m args below meth c H locs cells slots Qm (F0 m pc ls (.ref (ad (q + 16 * a)) :: rest)) := by
  obtain ⟨cell, g1, g2, g3, g4⟩ := hw.obj hp hq hc
  obtain ⟨⟨hx, hb, hml, hown, hts⟩, -, -, -, -, -, hK, -⟩ := hC
  obtain ⟨hS, hfc, kC, hkC, hkind⟩ := hK.1 q r hc
  obtain ⟨cf, kf, fi, f, hi, hsl⟩ := hS k hk
  refine W.getf hx hb hown (hts _ hf.1) (ref := r.1) (by rw [hf.2] at hi; exact hi) (u_facts hfc hkC (u_lays hts (lay_in hc) hk) hi).1 g1 (by rw [g3]; exact fun h => by cases h) (v := fv ad σ q a k) ?_ rfl rfl hd kk
  rw [hsl]
  exact g4 k hk
/-- what a write of a field needs of the state behind it -/
def wrt (ad : Nat → Nat) (σ σ' : HS) (q a k : Nat) (v : Value) : Prop := (∀ j, fv ad σ' q a j = if j = k then v else fv ad σ q a j) ∧ hn σ' = hn σ ∧ (∀ cA p', p' ≠ q + 16 * a → lc cA ad σ' p' = lc cA ad σ p') ∧ ∀ p1 k1 p2, al σ p1 → hR σ' (p1 % 16) (p1 / 16) k1 = some p2 → al σ p2
theorem put_fin (hw : LW G B ad σ H) (hS0 : va_S (fun q => B ≤ q) s.heap H locs) {q a k i : Nat} {r : vw_C} {v : Value} {σ' : HS} {H' : Heap} {cell : Cell} (hp : al σ (q + 16 * a)) (hq : q < 7) (hc : lcl[q]? = some r) (hk : k < r.2.2) (g2 : cell.cls = G.1.1 q) (g3 : cell.vm = .none) (g4 : ∀ k, k < r.2.2 → cell.slots[G.1.2 q k]? = some (fv ad σ q a k))
    (hap : ∀ x y, x < r.2.2 → y < r.2.2 → x ≠ y → G.1.2 q x ≠ G.1.2 q y) (hwr : wrt ad σ σ' q a k v) (e1 : H'[ad (q + 16 * a)]? = some (cell.setSlot (G.1.2 q k) v)) (e2 : H'.size = H.size) (e3 : ∀ x : Nat, x ≠ ad (q + 16 * a) → H'[x]? = H[x]?) :
    LW G B ad σ' H' ∧ va_S (fun q => B ≤ q) s.heap H' (locs ++ [⟨ad (q + 16 * a), i⟩]) := by
  refine ⟨hw.set hp hwr.2.1 e3 (LW.mkobj hq hc e1 g2 g3 (fun j hj => ?_)) (fun p' h => hwr.2.2.1 _ p' h) hwr.2.2.2, hS0.put e2 e3 (hw.1 _ hp).2⟩
  rw [t_set g4 hap hk v j hj, hwr.1 j]
  rfl
theorem put_core (hC : CX l G M p s m args meth c B) (hw : LW G B ad σ H) (hS0 : va_S (fun q => B ≤ q) s.heap H locs) {q a k idx : Nat} {r : vw_C} {v : Value} {σ' : HS} (hp : al σ (q + 16 * a)) (hq : q < 7) (hc : lcl[q]? = some r) (hk : k < r.2.2) (hf : FL M.1.cls idx r k) (hfin : (r.2.1 k).2.2.2 = false)
    (hnr : narrow (ttab q k) v = v) (hft : fits (ttab q k) v = true) (hwr : wrt ad σ σ' q a k v) (hd : decode M.2.1 pc = .ok (.putfield idx, 3))
    (kk : ∀ (H1 : Heap) (locs1 : List Loc), LW G B ad σ' H1 → va_S (fun q => B ≤ q) s.heap H1 locs1 → W p l e R s m args below meth c H1 locs1 cells slots Qm (F0 m (pc + 3) ls rest)) : W p l e R s m args below meth c H locs cells slots Qm (F0 m pc ls (v :: .ref (ad (q + 16 * a)) :: rest)) := by
  obtain ⟨cell, g1, g2, g3, g4⟩ := hw.obj hp hq hc
  obtain ⟨⟨hx, hb, hml, hown, hts⟩, -, -, -, -, -, hK, -⟩ := hC
  obtain ⟨hin, hty, hnm⟩ := lcl_ok q r hc
  have hap := va_apart (own := M.1.cls) hts hin (ttab q) hty hnm hK (ci := q) (C := r.1) (T := r.2.1) (N := r.2.2) hc
  obtain ⟨hS, hfc, kC, hkC, hkind⟩ := hK.1 q r hc
  obtain ⟨cf, kf, fi, f, hi, hsl⟩ := hS k hk
  have hlay := hts _ (hin _ (u_in_lay hk))
  unfold u_lay at hlay
  rw [if_neg (by rw [hfin]; decide)] at hlay
  have hst := (u_facts hfc hkC (u_lays hts hin hk) hi).1
  have h6 := u_store hfc hkC hkind hlay hi (hty k hk) hnr hft
  refine W.putK hx hb (f := f) (ref := r.1) ⟨hown, hts _ hf.1, ⟨cf, kf, fi, by rw [hf.2] at hi; exact hi⟩, hst⟩ (by rw [g2]; exact h6) g1 g3 (by rw [hsl]; exact k2_hasslot (g4 k hk)) rfl rfl hd fun H' e1 e2 e3 => ?_
  rw [hsl] at e1 ⊢
  obtain ⟨z1, z2⟩ := put_fin (i := G.1.2 q k) hw hS0 hp hq hc hk g2 g3 g4 hap hwr e1 e2 e3
  exact kk H' _ z1 z2
theorem putF_core (hC : CX l G M p s m args meth c B) (hw : LW G B ad σ H) (hS0 : va_S (fun q => B ≤ q) s.heap H locs) {q a k idx : Nat} {r : vw_C} {v : Value} {σ' : HS} (hp : al σ (q + 16 * a)) (hq : q < 7) (hc : lcl[q]? = some r) (hk : k < r.2.2) (hf : FL M.1.cls idx r k) (hfin : (r.2.1 k).2.2.2 = true) (hini : M.1.name = "<init>") (hdecl : r.1 = M.1.cls)
    (hnr : narrow (ttab q k) v = v) (hft : fits (ttab q k) v = true) (hwr : wrt ad σ σ' q a k v) (hd : decode M.2.1 pc = .ok (.putfield idx, 3))
    (kk : ∀ (H1 : Heap) (locs1 : List Loc), LW G B ad σ' H1 → va_S (fun q => B ≤ q) s.heap H1 locs1 → W p l e R s m args below meth c H1 locs1 cells slots Qm (F0 m (pc + 3) ls rest)) : W p l e R s m args below meth c H locs cells slots Qm (F0 m pc ls (v :: .ref (ad (q + 16 * a)) :: rest)) := by
  obtain ⟨cell, g1, g2, g3, g4⟩ := hw.obj hp hq hc
  obtain ⟨⟨hx, hb, hml, hown, hts⟩, -, -, hnme, -, -, hK, -⟩ := hC
  obtain ⟨hin, hty, hnm⟩ := lcl_ok q r hc
  have hap := va_apart (own := M.1.cls) hts hin (ttab q) hty hnm hK (ci := q) (C := r.1) (T := r.2.1) (N := r.2.2) hc
  obtain ⟨hS, hfc, kC, hkC, hkind⟩ := hK.1 q r hc
  obtain ⟨cf, kf, fi, f, hi, hsl⟩ := hS k hk
  have hlay := hts _ (hin _ (u_in_lay hk))
  unfold u_lay at hlay
  rw [if_pos hfin] at hlay
  have hst := (u_facts hfc hkC (u_lays hts hin hk) hi).1
  have hcf : m.cls = cf := by
    obtain ⟨_, _, c', _, _, _, -, -, hf', -, -, -, hown2, -⟩ := Cond.laysFinal_spec hlay
    have e1 : c' = cf := by have := hi.symm.trans hf'; simp at this; exact this.1.symm
    rw [hf.2, hdecl] at hown2
    rw [← e1]; exact Option.some.inj (hown.symm.trans hown2)
  have h6 := u_fits hfc hkC hkind (Or.inr hlay) hi (hty k hk) hnr hft
  refine W.putFinK hx hb hown (hts _ hf.1) (ref := r.1) (f := f) (by rw [hf.2] at hi; exact hi) hst hcf (hnme.trans hini) (by rw [g2]; exact h6) g1 g3 (by rw [hsl]; exact k2_hasslot (g4 k hk)) rfl rfl hd fun H' e1 e2 e3 => ?_
  rw [hsl] at e1 ⊢
  obtain ⟨z1, z2⟩ := put_fin (i := G.1.2 q k) hw hS0 hp hq hc hk g2 g3 g4 hap hwr e1 e2 e3
  exact kk H' _ z1 z2
theorem wrt_I {q a k : Nat} {v : Int32} (h : LW G B ad σ H) (h0 : fk q k = 0) : wrt ad σ (sI σ q a k v) q a k (.int v) := by
  refine ⟨fun j => ?_, rfl, fun cA p' hp => lc_sI hp, fun p1 k1 p2 h1 h2 => h.2.2.1 p1 k1 p2 h1 h2⟩
  by_cases e : j = k
  · subst e; rw [if_pos rfl, fv_I h0, I_sI, if_pos ⟨rfl, rfl, rfl⟩]
  · rw [if_neg e]; unfold fv; rw [I_sI, if_neg (show ¬ (q = q ∧ a = a ∧ j = k) from fun z => e z.2.2)]; rfl
theorem wrt_J {q a k : Nat} {v : Int64} (h : LW G B ad σ H) (h0 : fk q k = 1) : wrt ad σ (sJ σ q a k v) q a k (.long v) := by
  refine ⟨fun j => ?_, rfl, fun cA p' hp => lc_sJ hp, fun p1 k1 p2 h1 h2 => h.2.2.1 p1 k1 p2 h1 h2⟩
  by_cases e : j = k
  · subst e; rw [if_pos rfl, fv_J h0, J_sJ, if_pos ⟨rfl, rfl, rfl⟩]
  · rw [if_neg e]; unfold fv; rw [J_sJ, if_neg (show ¬ (q = q ∧ a = a ∧ j = k) from fun z => e z.2.2)]; rfl
theorem wrt_R {q a k : Nat} {v : Option Nat} (h : LW G B ad σ H) (h0 : fk q k = 2) (hv : ∀ x, v = some x → al σ x) : wrt ad σ (sR σ q a k v) q a k (va_rf (v.map ad)) := by
  refine ⟨fun j => ?_, rfl, fun cA p' hp => lc_sR hp, h.clR hv⟩
  by_cases e : j = k
  · subst e; rw [if_pos rfl, fv_R h0, R_sR, if_pos ⟨rfl, rfl, rfl⟩]
  · rw [if_neg e]; unfold fv; rw [R_sR, if_neg (show ¬ (q = q ∧ a = a ∧ j = k) from fun z => e z.2.2)]; rfl
end HR
theorem okL.eq {σ σ' : HS} {st : List Value} (h : okL σ st) (e : hn σ' = hn σ) : okL σ' st := okL.mono (fun q => by rw [e]; exact Nat.le_refl _) h
theorem okP.eq {σ σ' : HS} {st : List (Nat × Value)} (h : okP σ st) (e : hn σ' = hn σ) : okP σ' st := okP.mono (fun q => by rw [e]; exact Nat.le_refl _) h
section HR2
variable {l : Launch} {G : LG} {M : MI} {PM : LPM} {Q : LO → HS → Prop} {pc : Nat} {lv : List (Nat × Value)} {st : List Value} {σ : HS} {mc ms : Nat}
theorem e_getI {q a f idx : Nat} {r : vw_C} (hd : decode M.2.1 pc = .ok (.getfield idx, 3)) (hf : FL M.1.cls idx r f) (hc0 : lcl[q]? = some r) (hk0 : f < r.2.2 ∧ q < 7) (h0 : fk q f = 0) (k : Ex l G M PM (pc + 3) lv (.int (hI σ q a f) :: st) σ mc ms) : Ex l G M PM pc lv (.ref (q + 16 * a) :: st) σ mc ms := fun p e s m args below meth c B ad n0 ad0 H locs ls cells slots hC he hw hS hv hP hL hc hs => by
  have hp : al σ (q + 16 * a) := okR (Nat.lt_trans hk0.2 (by decide)) hL.1
  refine get_core hC hw hp hk0.2 hc0 hk0.1 hf hd ?_
  rw [fv_I h0]
  exact k p e s m args below meth c B ad n0 ad0 H locs ls cells slots hC he hw hS hv hP ⟨trivial, hL.2⟩ hc hs
theorem e_getJ {q a f idx : Nat} {r : vw_C} (hd : decode M.2.1 pc = .ok (.getfield idx, 3)) (hf : FL M.1.cls idx r f) (hc0 : lcl[q]? = some r) (hk0 : f < r.2.2 ∧ q < 7) (h0 : fk q f = 1) (k : Ex l G M PM (pc + 3) lv (.long (hJ σ q a f) :: st) σ mc ms) : Ex l G M PM pc lv (.ref (q + 16 * a) :: st) σ mc ms := fun p e s m args below meth c B ad n0 ad0 H locs ls cells slots hC he hw hS hv hP hL hc hs => by
  have hp : al σ (q + 16 * a) := okR (Nat.lt_trans hk0.2 (by decide)) hL.1
  refine get_core hC hw hp hk0.2 hc0 hk0.1 hf hd ?_
  rw [fv_J h0]
  exact k p e s m args below meth c B ad n0 ad0 H locs ls cells slots hC he hw hS hv hP ⟨trivial, hL.2⟩ hc hs
theorem e_getR {q a f idx : Nat} {r : vw_C} (hd : decode M.2.1 pc = .ok (.getfield idx, 3)) (hf : FL M.1.cls idx r f) (hc0 : lcl[q]? = some r) (hk0 : f < r.2.2 ∧ q < 7) {b : Nat} (h0 : fk q f = 2) (hr : hR σ q a f = some b) (k : Ex l G M PM (pc + 3) lv (.ref b :: st) σ mc ms) : Ex l G M PM pc lv (.ref (q + 16 * a) :: st) σ mc ms := fun p e s m args below meth c B ad n0 ad0 H locs ls cells slots hC he hw hS hv hP hL hc hs => by
  have hp : al σ (q + 16 * a) := okR (Nat.lt_trans hk0.2 (by decide)) hL.1
  have hq7 := hk0.2
  have hb : al σ b := by
    refine hw.2.2.1 (q + 16 * a) f b hp ?_
    rw [show (q + 16 * a) % 16 = q by omega, show (q + 16 * a) / 16 = a by omega]; exact hr
  refine get_core hC hw hp hk0.2 hc0 hk0.1 hf hd ?_
  rw [fv_R h0, hr]
  exact k p e s m args below meth c B ad n0 ad0 H locs ls cells slots hC he hw hS hv hP ⟨Or.inl hb, hL.2⟩ hc hs
theorem e_getN {q a f idx : Nat} {r : vw_C} (hd : decode M.2.1 pc = .ok (.getfield idx, 3)) (hf : FL M.1.cls idx r f) (hc0 : lcl[q]? = some r) (hk0 : f < r.2.2 ∧ q < 7) (h0 : fk q f = 2) (hr : hR σ q a f = none) (k : Ex l G M PM (pc + 3) lv (.null :: st) σ mc ms) : Ex l G M PM pc lv (.ref (q + 16 * a) :: st) σ mc ms := fun p e s m args below meth c B ad n0 ad0 H locs ls cells slots hC he hw hS hv hP hL hc hs => by
  have hp : al σ (q + 16 * a) := okR (Nat.lt_trans hk0.2 (by decide)) hL.1
  refine get_core hC hw hp hk0.2 hc0 hk0.1 hf hd ?_
  rw [fv_R h0, hr]
  exact k p e s m args below meth c B ad n0 ad0 H locs ls cells slots hC he hw hS hv hP ⟨trivial, hL.2⟩ hc hs
theorem e_putI {q a f idx : Nat} {r : vw_C} (hd : decode M.2.1 pc = .ok (.putfield idx, 3)) (hf : FL M.1.cls idx r f) (hc0 : lcl[q]? = some r) (hk0 : f < r.2.2 ∧ q < 7) {v : Int32} (hfin : (r.2.1 f).2.2.2 = false) (h0 : fk q f = 0) (ht : ttab q f = .int) (k : Ex l G M PM (pc + 3) lv st (sI σ q a f v) mc ms) : Ex l G M PM pc lv (.int v :: .ref (q + 16 * a) :: st) σ mc ms := fun p e s m args below meth c B ad n0 ad0 H locs ls cells slots hC he hw hS hv hP hL hc hs => by
  have hp : al σ (q + 16 * a) := okR (Nat.lt_trans hk0.2 (by decide)) hL.2.1
  exact put_core (σ' := sI σ q a f v) (v := .int v) hC hw hS hp hk0.2 hc0 hk0.1 hf hfin (by rw [ht]; rfl) (by rw [ht]; rfl) (wrt_I hw h0) hd (fun H1 locs1 hw1 hS1 => k p e s m args below meth c B ad n0 ad0 H1 locs1 ls cells slots hC he hw1 hS1 hv (okP.eq hP (by rfl)) (okL.eq hL.2.2 (by rfl)) hc hs)
theorem e_putZ {q a f idx : Nat} {r : vw_C} (hd : decode M.2.1 pc = .ok (.putfield idx, 3)) (hf : FL M.1.cls idx r f) (hc0 : lcl[q]? = some r) (hk0 : f < r.2.2 ∧ q < 7) {v : Int32} (hfin : (r.2.1 f).2.2.2 = false) (h0 : fk q f = 0) (ht : ttab q f = .boolean) (hz : v = 0 ∨ v = 1) (k : Ex l G M PM (pc + 3) lv st (sI σ q a f v) mc ms) : Ex l G M PM pc lv (.int v :: .ref (q + 16 * a) :: st) σ mc ms := fun p e s m args below meth c B ad n0 ad0 H locs ls cells slots hC he hw hS hv hP hL hc hs => by
  have hp : al σ (q + 16 * a) := okR (Nat.lt_trans hk0.2 (by decide)) hL.2.1
  exact put_core (σ' := sI σ q a f v) (v := .int v) hC hw hS hp hk0.2 hc0 hk0.1 hf hfin (by rw [ht]; exact nb_ok hz) (by rw [ht]; exact fb_ok hz) (wrt_I hw h0) hd (fun H1 locs1 hw1 hS1 => k p e s m args below meth c B ad n0 ad0 H1 locs1 ls cells slots hC he hw1 hS1 hv (okP.eq hP (by rfl)) (okL.eq hL.2.2 (by rfl)) hc hs)
theorem e_putJ {q a f idx : Nat} {r : vw_C} (hd : decode M.2.1 pc = .ok (.putfield idx, 3)) (hf : FL M.1.cls idx r f) (hc0 : lcl[q]? = some r) (hk0 : f < r.2.2 ∧ q < 7) {v : Int64} (hfin : (r.2.1 f).2.2.2 = false) (h0 : fk q f = 1) (ht : ttab q f = .long) (k : Ex l G M PM (pc + 3) lv st (sJ σ q a f v) mc ms) : Ex l G M PM pc lv (.long v :: .ref (q + 16 * a) :: st) σ mc ms := fun p e s m args below meth c B ad n0 ad0 H locs ls cells slots hC he hw hS hv hP hL hc hs => by
  have hp : al σ (q + 16 * a) := okR (Nat.lt_trans hk0.2 (by decide)) hL.2.1
  exact put_core (σ' := sJ σ q a f v) (v := .long v) hC hw hS hp hk0.2 hc0 hk0.1 hf hfin (by rw [ht]; rfl) (by rw [ht]; rfl) (wrt_J hw h0) hd (fun H1 locs1 hw1 hS1 => k p e s m args below meth c B ad n0 ad0 H1 locs1 ls cells slots hC he hw1 hS1 hv (okP.eq hP (by rfl)) (okL.eq hL.2.2 (by rfl)) hc hs)
theorem e_putR {q a f idx : Nat} {r : vw_C} (hd : decode M.2.1 pc = .ok (.putfield idx, 3)) (hf : FL M.1.cls idx r f) (hc0 : lcl[q]? = some r) (hk0 : f < r.2.2 ∧ q < 7) {b : Nat} (hb : ¬ b = 13) (hfin : (r.2.1 f).2.2.2 = false) (h0 : fk q f = 2) (ht : (∃ n, ttab q f = .object n) ∨ ∃ t, ttab q f = .array t) (k : Ex l G M PM (pc + 3) lv st (sR σ q a f (some b)) mc ms) : Ex l G M PM pc lv (.ref b :: .ref (q + 16 * a) :: st) σ mc ms := fun p e s m args below meth c B ad n0 ad0 H locs ls cells slots hC he hw hS hv hP hL hc hs => by
  have hp : al σ (q + 16 * a) := okR (Nat.lt_trans hk0.2 (by decide)) hL.2.1
  exact put_core (σ' := sR σ q a f (some b)) (v := trV ad (.ref b)) hC hw hS hp hk0.2 hc0 hk0.1 hf hfin (by rcases ht with ⟨n, h⟩ | ⟨n, h⟩ <;> rw [h] <;> rfl) (by rcases ht with ⟨n, h⟩ | ⟨n, h⟩ <;> rw [h] <;> rfl) (wrt_R hw h0 (fun x hx => by cases hx; exact hL.1.resolve_right hb)) hd (fun H1 locs1 hw1 hS1 => k p e s m args below meth c B ad n0 ad0 H1 locs1 ls cells slots hC he hw1 hS1 hv (okP.eq hP (by rfl)) (okL.eq hL.2.2 (by rfl)) hc hs)
theorem e_putN {q a f idx : Nat} {r : vw_C} (hd : decode M.2.1 pc = .ok (.putfield idx, 3)) (hf : FL M.1.cls idx r f) (hc0 : lcl[q]? = some r) (hk0 : f < r.2.2 ∧ q < 7)  (hfin : (r.2.1 f).2.2.2 = false) (h0 : fk q f = 2) (ht : (∃ n, ttab q f = .object n) ∨ ∃ t, ttab q f = .array t) (k : Ex l G M PM (pc + 3) lv st (sR σ q a f (none)) mc ms) : Ex l G M PM pc lv (.null :: .ref (q + 16 * a) :: st) σ mc ms := fun p e s m args below meth c B ad n0 ad0 H locs ls cells slots hC he hw hS hv hP hL hc hs => by
  have hp : al σ (q + 16 * a) := okR (Nat.lt_trans hk0.2 (by decide)) hL.2.1
  exact put_core (σ' := sR σ q a f (none)) (v := trV ad (.null)) hC hw hS hp hk0.2 hc0 hk0.1 hf hfin (by rcases ht with ⟨n, h⟩ | ⟨n, h⟩ <;> rw [h] <;> rfl) (by rcases ht with ⟨n, h⟩ | ⟨n, h⟩ <;> rw [h] <;> rfl) (wrt_R hw h0 (fun x hx => by cases hx)) hd (fun H1 locs1 hw1 hS1 => k p e s m args below meth c B ad n0 ad0 H1 locs1 ls cells slots hC he hw1 hS1 hv (okP.eq hP (by rfl)) (okL.eq hL.2.2 (by rfl)) hc hs)
theorem e_putIF {q a f idx : Nat} {r : vw_C} (hd : decode M.2.1 pc = .ok (.putfield idx, 3)) (hf : FL M.1.cls idx r f) (hc0 : lcl[q]? = some r) (hk0 : f < r.2.2 ∧ q < 7) {v : Int32} (hfin : (r.2.1 f).2.2.2 = true ∧ M.1.name = "<init>" ∧ r.1 = M.1.cls) (h0 : fk q f = 0) (ht : ttab q f = .int) (k : Ex l G M PM (pc + 3) lv st (sI σ q a f v) mc ms) : Ex l G M PM pc lv (.int v :: .ref (q + 16 * a) :: st) σ mc ms := fun p e s m args below meth c B ad n0 ad0 H locs ls cells slots hC he hw hS hv hP hL hc hs => by
  have hp : al σ (q + 16 * a) := okR (Nat.lt_trans hk0.2 (by decide)) hL.2.1
  exact putF_core (σ' := sI σ q a f v) (v := .int v) hC hw hS hp hk0.2 hc0 hk0.1 hf hfin.1 hfin.2.1 hfin.2.2 (by rw [ht]; rfl) (by rw [ht]; rfl) (wrt_I hw h0) hd (fun H1 locs1 hw1 hS1 => k p e s m args below meth c B ad n0 ad0 H1 locs1 ls cells slots hC he hw1 hS1 hv (okP.eq hP (by rfl)) (okL.eq hL.2.2 (by rfl)) hc hs)
theorem e_putZF {q a f idx : Nat} {r : vw_C} (hd : decode M.2.1 pc = .ok (.putfield idx, 3)) (hf : FL M.1.cls idx r f) (hc0 : lcl[q]? = some r) (hk0 : f < r.2.2 ∧ q < 7) {v : Int32} (hfin : (r.2.1 f).2.2.2 = true ∧ M.1.name = "<init>" ∧ r.1 = M.1.cls) (h0 : fk q f = 0) (ht : ttab q f = .boolean) (hz : v = 0 ∨ v = 1) (k : Ex l G M PM (pc + 3) lv st (sI σ q a f v) mc ms) : Ex l G M PM pc lv (.int v :: .ref (q + 16 * a) :: st) σ mc ms := fun p e s m args below meth c B ad n0 ad0 H locs ls cells slots hC he hw hS hv hP hL hc hs => by
  have hp : al σ (q + 16 * a) := okR (Nat.lt_trans hk0.2 (by decide)) hL.2.1
  exact putF_core (σ' := sI σ q a f v) (v := .int v) hC hw hS hp hk0.2 hc0 hk0.1 hf hfin.1 hfin.2.1 hfin.2.2 (by rw [ht]; exact nb_ok hz) (by rw [ht]; exact fb_ok hz) (wrt_I hw h0) hd (fun H1 locs1 hw1 hS1 => k p e s m args below meth c B ad n0 ad0 H1 locs1 ls cells slots hC he hw1 hS1 hv (okP.eq hP (by rfl)) (okL.eq hL.2.2 (by rfl)) hc hs)
theorem e_putJF {q a f idx : Nat} {r : vw_C} (hd : decode M.2.1 pc = .ok (.putfield idx, 3)) (hf : FL M.1.cls idx r f) (hc0 : lcl[q]? = some r) (hk0 : f < r.2.2 ∧ q < 7) {v : Int64} (hfin : (r.2.1 f).2.2.2 = true ∧ M.1.name = "<init>" ∧ r.1 = M.1.cls) (h0 : fk q f = 1) (ht : ttab q f = .long) (k : Ex l G M PM (pc + 3) lv st (sJ σ q a f v) mc ms) : Ex l G M PM pc lv (.long v :: .ref (q + 16 * a) :: st) σ mc ms := fun p e s m args below meth c B ad n0 ad0 H locs ls cells slots hC he hw hS hv hP hL hc hs => by
  have hp : al σ (q + 16 * a) := okR (Nat.lt_trans hk0.2 (by decide)) hL.2.1
  exact putF_core (σ' := sJ σ q a f v) (v := .long v) hC hw hS hp hk0.2 hc0 hk0.1 hf hfin.1 hfin.2.1 hfin.2.2 (by rw [ht]; rfl) (by rw [ht]; rfl) (wrt_J hw h0) hd (fun H1 locs1 hw1 hS1 => k p e s m args below meth c B ad n0 ad0 H1 locs1 ls cells slots hC he hw1 hS1 hv (okP.eq hP (by rfl)) (okL.eq hL.2.2 (by rfl)) hc hs)
theorem e_putRF {q a f idx : Nat} {r : vw_C} (hd : decode M.2.1 pc = .ok (.putfield idx, 3)) (hf : FL M.1.cls idx r f) (hc0 : lcl[q]? = some r) (hk0 : f < r.2.2 ∧ q < 7) {b : Nat} (hb : ¬ b = 13) (hfin : (r.2.1 f).2.2.2 = true ∧ M.1.name = "<init>" ∧ r.1 = M.1.cls) (h0 : fk q f = 2) (ht : (∃ n, ttab q f = .object n) ∨ ∃ t, ttab q f = .array t) (k : Ex l G M PM (pc + 3) lv st (sR σ q a f (some b)) mc ms) : Ex l G M PM pc lv (.ref b :: .ref (q + 16 * a) :: st) σ mc ms := fun p e s m args below meth c B ad n0 ad0 H locs ls cells slots hC he hw hS hv hP hL hc hs => by
  have hp : al σ (q + 16 * a) := okR (Nat.lt_trans hk0.2 (by decide)) hL.2.1
  exact putF_core (σ' := sR σ q a f (some b)) (v := trV ad (.ref b)) hC hw hS hp hk0.2 hc0 hk0.1 hf hfin.1 hfin.2.1 hfin.2.2 (by rcases ht with ⟨n, h⟩ | ⟨n, h⟩ <;> rw [h] <;> rfl) (by rcases ht with ⟨n, h⟩ | ⟨n, h⟩ <;> rw [h] <;> rfl) (wrt_R hw h0 (fun x hx => by cases hx; exact hL.1.resolve_right hb)) hd (fun H1 locs1 hw1 hS1 => k p e s m args below meth c B ad n0 ad0 H1 locs1 ls cells slots hC he hw1 hS1 hv (okP.eq hP (by rfl)) (okL.eq hL.2.2 (by rfl)) hc hs)
theorem e_putNF {q a f idx : Nat} {r : vw_C} (hd : decode M.2.1 pc = .ok (.putfield idx, 3)) (hf : FL M.1.cls idx r f) (hc0 : lcl[q]? = some r) (hk0 : f < r.2.2 ∧ q < 7)  (hfin : (r.2.1 f).2.2.2 = true ∧ M.1.name = "<init>" ∧ r.1 = M.1.cls) (h0 : fk q f = 2) (ht : (∃ n, ttab q f = .object n) ∨ ∃ t, ttab q f = .array t) (k : Ex l G M PM (pc + 3) lv st (sR σ q a f (none)) mc ms) : Ex l G M PM pc lv (.null :: .ref (q + 16 * a) :: st) σ mc ms := fun p e s m args below meth c B ad n0 ad0 H locs ls cells slots hC he hw hS hv hP hL hc hs => by
  have hp : al σ (q + 16 * a) := okR (Nat.lt_trans hk0.2 (by decide)) hL.2.1
  exact putF_core (σ' := sR σ q a f (none)) (v := trV ad (.null)) hC hw hS hp hk0.2 hc0 hk0.1 hf hfin.1 hfin.2.1 hfin.2.2 (by rcases ht with ⟨n, h⟩ | ⟨n, h⟩ <;> rw [h] <;> rfl) (by rcases ht with ⟨n, h⟩ | ⟨n, h⟩ <;> rw [h] <;> rfl) (wrt_R hw h0 (fun x hx => by cases hx)) hd (fun H1 locs1 hw1 hS1 => k p e s m args below meth c B ad n0 ad0 H1 locs1 ls cells slots hC he hw1 hS1 hv (okP.eq hP (by rfl)) (okL.eq hL.2.2 (by rfl)) hc hs)
theorem e_iald {a : Nat} {j : Int32} (hd : decode M.2.1 pc = .ok (.iaload, 1)) (hin : vp_in j (hl σ 7 a)) (k : Ex l G M PM (pc + 1) lv (.int (hI σ 7 a j.toNatClampNeg) :: st) σ mc ms) : Ex l G M PM pc lv (.int j :: .ref (7 + 16 * a) :: st) σ mc ms := fun p e s m args below meth c B ad n0 ad0 H locs ls cells slots hC he hw hS hv hP hL hc hs => by
  have hp : al σ (7 + 16 * a) := okR (by decide) hL.2.1
  have hlt : j.toNatClampNeg < hl σ 7 a := Nat.not_le.mp fun q => hin (Or.inr q)
  have hK := hC.2.2.2.2.2.2.1
  exact W.iald (v := .int (hI σ 7 a j.toNatClampNeg)) hC.1.1 hC.1.2.1 (hw.arI hp ⟨by decide, by decide⟩) ((hK.2 0 _ rfl).1 _ _) (fun q => by cases q) (by rw [arrV_size]; exact hin) (by rw [arrV_read _ _ hlt]) rfl rfl hd (k p e s m args below meth c B ad n0 ad0 H locs ls cells slots hC he hw hS hv hP ⟨trivial, hL.2.2⟩ hc hs)
theorem e_zald {a : Nat} {j : Int32} (hd : decode M.2.1 pc = .ok (.baload, 1)) (hin : vp_in j (hl σ 8 a)) (k : Ex l G M PM (pc + 1) lv (.int (hI σ 8 a j.toNatClampNeg) :: st) σ mc ms) : Ex l G M PM pc lv (.int j :: .ref (8 + 16 * a) :: st) σ mc ms := fun p e s m args below meth c B ad n0 ad0 H locs ls cells slots hC he hw hS hv hP hL hc hs => by
  have hp : al σ (8 + 16 * a) := okR (by decide) hL.2.1
  have hlt : j.toNatClampNeg < hl σ 8 a := Nat.not_le.mp fun q => hin (Or.inr q)
  have hK := hC.2.2.2.2.2.2.1
  exact W.zald (v := .int (hI σ 8 a j.toNatClampNeg)) hC.1.1 hC.1.2.1 (hw.arI hp ⟨by decide, by decide⟩) ((hK.2 1 _ rfl).1 _ _) (fun q => by cases q) (by rw [arrV_size]; exact hin) (by rw [arrV_read _ _ hlt]) rfl rfl hd (k p e s m args below meth c B ad n0 ad0 H locs ls cells slots hC he hw hS hv hP ⟨trivial, hL.2.2⟩ hc hs)
theorem e_lald {a : Nat} {j : Int32} (hd : decode M.2.1 pc = .ok (.laload, 1)) (hin : vp_in j (hl σ 9 a)) (k : Ex l G M PM (pc + 1) lv (.long (hJ σ 9 a j.toNatClampNeg) :: st) σ mc ms) : Ex l G M PM pc lv (.int j :: .ref (9 + 16 * a) :: st) σ mc ms := fun p e s m args below meth c B ad n0 ad0 H locs ls cells slots hC he hw hS hv hP hL hc hs => by
  have hp : al σ (9 + 16 * a) := okR (by decide) hL.2.1
  have hlt : j.toNatClampNeg < hl σ 9 a := Nat.not_le.mp fun q => hin (Or.inr q)
  have hK := hC.2.2.2.2.2.2.1
  exact W.lald (v := .long (hJ σ 9 a j.toNatClampNeg)) hC.1.1 hC.1.2.1 (hw.arJ hp) ((hK.2 2 _ rfl).1 _ _) (fun q => by cases q) (by rw [arrV_size]; exact hin) (by rw [arrV_read _ _ hlt]) rfl rfl hd (k p e s m args below meth c B ad n0 ad0 H locs ls cells slots hC he hw hS hv hP ⟨trivial, hL.2.2⟩ hc hs)
theorem e_aald {q a b : Nat} {C : String} {j : Int32} (hd : decode M.2.1 pc = .ok (.aaload, 1)) (hq : 10 ≤ q ∧ q < 13) (ht : (tyA G.2.1)[q - 7]? = some (G.2.1 (q - 7), .object C)) (hin : vp_in j (hl σ q a)) (hr : hR σ q a j.toNatClampNeg = some b) (k : Ex l G M PM (pc + 1) lv (.ref b :: st) σ mc ms) : Ex l G M PM pc lv (.int j :: .ref (q + 16 * a) :: st) σ mc ms := fun p e s m args below meth c B ad n0 ad0 H locs ls cells slots hC he hw hS hv hP hL hc hs => by
  have hp : al σ (q + 16 * a) := okR hq.2 hL.2.1
  have hlt : j.toNatClampNeg < hl σ q a := Nat.not_le.mp fun q => hin (Or.inr q)
  have hK := hC.2.2.2.2.2.2.1
  have hb : al σ b := by
    refine hw.2.2.1 (q + 16 * a) j.toNatClampNeg b hp ?_
    rw [show (q + 16 * a) % 16 = q by omega, show (q + 16 * a) / 16 = a by omega]; exact hr
  refine W.aald (v := va_rf ((hR σ q a j.toNatClampNeg).map ad)) (ty := .object C) hC.1.1 hC.1.2.1 (hw.arR hp hq) ((hK.2 (q - 7) _ ht).1 _ _) rfl (fun q => by cases q) (by rw [arrV_size]; exact hin) (by rw [arrV_read _ _ hlt]) rfl rfl hd ?_
  rw [hr]
  exact k p e s m args below meth c B ad n0 ad0 H locs ls cells slots hC he hw hS hv hP ⟨Or.inl hb, hL.2.2⟩ hc hs
theorem e_aaldN {q a : Nat} {C : String} {j : Int32} (hd : decode M.2.1 pc = .ok (.aaload, 1)) (hq : 10 ≤ q ∧ q < 13) (ht : (tyA G.2.1)[q - 7]? = some (G.2.1 (q - 7), .object C)) (hin : vp_in j (hl σ q a)) (hr : hR σ q a j.toNatClampNeg = none) (k : Ex l G M PM (pc + 1) lv (.null :: st) σ mc ms) : Ex l G M PM pc lv (.int j :: .ref (q + 16 * a) :: st) σ mc ms := fun p e s m args below meth c B ad n0 ad0 H locs ls cells slots hC he hw hS hv hP hL hc hs => by
  have hp : al σ (q + 16 * a) := okR hq.2 hL.2.1
  have hlt : j.toNatClampNeg < hl σ q a := Nat.not_le.mp fun q => hin (Or.inr q)
  have hK := hC.2.2.2.2.2.2.1
  refine W.aald (v := va_rf ((hR σ q a j.toNatClampNeg).map ad)) (ty := .object C) hC.1.1 hC.1.2.1 (hw.arR hp hq) ((hK.2 (q - 7) _ ht).1 _ _) rfl (fun q => by cases q) (by rw [arrV_size]; exact hin) (by rw [arrV_read _ _ hlt]) rfl rfl hd ?_
  rw [hr]
  exact k p e s m args below meth c B ad n0 ad0 H locs ls cells slots hC he hw hS hv hP ⟨trivial, hL.2.2⟩ hc hs
theorem e_alen {q a : Nat} {ty : FieldType} (hd : decode M.2.1 pc = .ok (.arraylength, 1)) (hq : 7 ≤ q ∧ q < 13) (ht : (tyA G.2.1)[q - 7]? = some (G.2.1 (q - 7), ty)) (k : Ex l G M PM (pc + 1) lv (.int (Int32.ofNat (hl σ q a)) :: st) σ mc ms) : Ex l G M PM pc lv (.ref (q + 16 * a) :: st) σ mc ms := fun p e s m args below meth c B ad n0 ad0 H locs ls cells slots hC he hw hS hv hP hL hc hs => by
  have hp : al σ (q + 16 * a) := okR hq.2 hL.1
  have hK := hC.2.2.2.2.2.2.1
  have hcell : ∃ f : Nat → Value, H[ad (q + 16 * a)]? = some (arrV (G.2.1 (q - 7)) (hl σ q a) f) := by
    by_cases h9 : q < 9
    · exact ⟨_, hw.arI hp ⟨hq.1, h9⟩⟩
    · by_cases h10 : q = 9
      · subst h10; exact ⟨_, hw.arJ hp⟩
      · exact ⟨_, hw.arR hp ⟨by omega, hq.2⟩⟩
  obtain ⟨f, hf⟩ := hcell
  exact W.alen (n := Int32.ofNat (hl σ q a)) hC.1.1 hC.1.2.1 hf ((hK.2 (q - 7) _ ht).1 _ _) (by rw [arrV_size]) rfl rfl hd (k p e s m args below meth c B ad n0 ad0 H locs ls cells slots hC he hw hS hv hP ⟨trivial, hL.2⟩ hc hs)
theorem updV_I {f : Nat → Int32} {k : Nat} {x : Int32} {g : Nat → Int32} (h : ∀ j, g j = if j = k then x else f j) : updV (fun j => Value.int (f j)) k (.int x) = fun j => Value.int (g j) := by
  funext j
  rw [h j]
  by_cases e : j = k
  · subst e; simp [updV]
  · simp [updV, e]
theorem updV_J {f : Nat → Int64} {k : Nat} {x : Int64} {g : Nat → Int64} (h : ∀ j, g j = if j = k then x else f j) : updV (fun j => Value.long (f j)) k (.long x) = fun j => Value.long (g j) := by
  funext j
  rw [h j]
  by_cases e : j = k
  · subst e; simp [updV]
  · simp [updV, e]
theorem updV_R {f : Nat → Option Nat} {k : Nat} {x : Option Nat} {g : Nat → Option Nat} (h : ∀ j, g j = if j = k then x else f j) : updV (fun j => va_rf (f j)) k (va_rf x) = fun j => va_rf (g j) := by
  funext j
  rw [h j]
  by_cases e : j = k
  · subst e; simp [updV]
  · simp [updV, e]
theorem e_iast {a : Nat} {j : Int32} {x : Int32} (hd : decode M.2.1 pc = .ok (.iastore, 1)) (hin : vp_in j (hl σ 7 a))  (k : Ex l G M PM (pc + 1) lv st (sI σ 7 a j.toNatClampNeg x) mc ms) : Ex l G M PM pc lv (.int x :: .int j :: .ref (7 + 16 * a) :: st) σ mc ms := fun p e s m args below meth c B ad n0 ad0 H locs ls cells slots hC he hw hS hv hP hL hc hs => by
  have hp : al σ (7 + 16 * a) := okR (by decide) hL.2.2.1
  have hK := hC.2.2.2.2.2.2.1
  refine W.iast hC.1.1 hC.1.2.1 (hw.arI hp ⟨by decide, by decide⟩) ((hK.2 0 _ rfl).1 _ _) (fun q => by cases q) (by rw [arrV_size]; exact hin) rfl rfl hd fun H1 e1 z oq => ?_
  rw [arrV_store] at e1
  have hw1 : LW G B ad (sI σ 7 a j.toNatClampNeg x) H1 := by
    refine hw.set hp rfl oq ?_ (fun p' h => lc_sI h) (fun p1 k1 p2 h1 h2 => hw.2.2.1 p1 k1 p2 h1 h2)
    rw [lc_arI ⟨by decide, by decide⟩]
    show H1[ad (7 + 16 * a)]? = some (vp_cell _ _)
    rw [e1, vp_cell_i, updV_I (g := hI (sI σ 7 a j.toNatClampNeg x) 7 a) (fun j2 => by rw [I_sI]; simp)]
    rfl
  exact k p e s m args below meth c B ad n0 ad0 H1 _ ls cells slots hC he hw1 (hS.put z oq (hw.1 _ hp).2) hv (okP.eq hP (by rfl)) (okL.eq hL.2.2.2 (by rfl)) hc hs
theorem e_zast {a : Nat} {j : Int32} {x : Int32} (hd : decode M.2.1 pc = .ok (.bastore, 1)) (hin : vp_in j (hl σ 8 a)) (hz : x = 0 ∨ x = 1) (k : Ex l G M PM (pc + 1) lv st (sI σ 8 a j.toNatClampNeg x) mc ms) : Ex l G M PM pc lv (.int x :: .int j :: .ref (8 + 16 * a) :: st) σ mc ms := fun p e s m args below meth c B ad n0 ad0 H locs ls cells slots hC he hw hS hv hP hL hc hs => by
  have hp : al σ (8 + 16 * a) := okR (by decide) hL.2.2.1
  have hK := hC.2.2.2.2.2.2.1
  refine W.zast hC.1.1 hC.1.2.1 (hw.arI hp ⟨by decide, by decide⟩) ((hK.2 1 _ rfl).1 _ _) (fun q => by cases q) (by rw [arrV_size]; exact hin) rfl rfl hd fun H1 e1 z oq => ?_
  rw [nb_ok hz] at e1
  rw [arrV_store] at e1
  have hw1 : LW G B ad (sI σ 8 a j.toNatClampNeg x) H1 := by
    refine hw.set hp rfl oq ?_ (fun p' h => lc_sI h) (fun p1 k1 p2 h1 h2 => hw.2.2.1 p1 k1 p2 h1 h2)
    rw [lc_arI ⟨by decide, by decide⟩]
    show H1[ad (8 + 16 * a)]? = some (vp_cell _ _)
    rw [e1, vp_cell_i, updV_I (g := hI (sI σ 8 a j.toNatClampNeg x) 8 a) (fun j2 => by rw [I_sI]; simp)]
    rfl
  exact k p e s m args below meth c B ad n0 ad0 H1 _ ls cells slots hC he hw1 (hS.put z oq (hw.1 _ hp).2) hv (okP.eq hP (by rfl)) (okL.eq hL.2.2.2 (by rfl)) hc hs
theorem e_last {a : Nat} {j : Int32} {x : Int64} (hd : decode M.2.1 pc = .ok (.lastore, 1)) (hin : vp_in j (hl σ 9 a))  (k : Ex l G M PM (pc + 1) lv st (sJ σ 9 a j.toNatClampNeg x) mc ms) : Ex l G M PM pc lv (.long x :: .int j :: .ref (9 + 16 * a) :: st) σ mc ms := fun p e s m args below meth c B ad n0 ad0 H locs ls cells slots hC he hw hS hv hP hL hc hs => by
  have hp : al σ (9 + 16 * a) := okR (by decide) hL.2.2.1
  have hK := hC.2.2.2.2.2.2.1
  refine W.last hC.1.1 hC.1.2.1 (hw.arJ hp) ((hK.2 2 _ rfl).1 _ _) (fun q => by cases q) (by rw [arrV_size]; exact hin) rfl rfl hd fun H1 e1 z oq => ?_
  rw [arrV_store] at e1
  have hw1 : LW G B ad (sJ σ 9 a j.toNatClampNeg x) H1 := by
    refine hw.set hp rfl oq ?_ (fun p' h => lc_sJ h) (fun p1 k1 p2 h1 h2 => hw.2.2.1 p1 k1 p2 h1 h2)
    rw [lc_arJ]
    show H1[ad (9 + 16 * a)]? = some (vp_cell _ _)
    rw [e1, vp_cell_l, updV_J (g := hJ (sJ σ 9 a j.toNatClampNeg x) 9 a) (fun j2 => by rw [J_sJ]; simp)]
    rfl
  exact k p e s m args below meth c B ad n0 ad0 H1 _ ls cells slots hC he hw1 (hS.put z oq (hw.1 _ hp).2) hv (okP.eq hP (by rfl)) (okL.eq hL.2.2.2 (by rfl)) hc hs
theorem e_aast {q a ci b : Nat} {r : vw_C} {j : Int32} (hd : decode M.2.1 pc = .ok (.aastore, 1)) (hq : 10 ≤ q ∧ q < 13) (hci : ci < 7) (hcr : lcl[ci]? = some r) (ht : (tyA G.2.1)[q - 7]? = some (G.2.1 (q - 7), .object r.1)) (hin : vp_in j (hl σ q a)) (k : Ex l G M PM (pc + 1) lv st (sR σ q a j.toNatClampNeg (some (ci + 16 * b))) mc ms) : Ex l G M PM pc lv (.ref (ci + 16 * b) :: .int j :: .ref (q + 16 * a) :: st) σ mc ms := fun p e s m args below meth c B ad n0 ad0 H locs ls cells slots hC he hw hS hv hP hL hc hs => by
  have hp : al σ (q + 16 * a) := okR hq.2 hL.2.2.1
  have hpb : al σ (ci + 16 * b) := okR (by omega) hL.1
  have hK := hC.2.2.2.2.2.2.1
  have hlt : j.toNatClampNeg < hl σ q a := Nat.not_le.mp fun q => hin (Or.inr q)
  have h0 : ¬ j < 0 := fun q => hin (Or.inl q)
  obtain ⟨cellV, g1, g2, g3, -⟩ := hw.obj hpb hci hcr
  have hcls := (hK.1 ci r hcr).2
  obtain ⟨kA, comp, k1, k2, k3, -⟩ := (hK.2 (q - 7) _ ht).2
  have hcomp : comp = G.1.1 ci := Option.some.inj (k3.symm.trans hcls.1)
  subst hcomp
  obtain ⟨kC, hkC, -⟩ := hcls.2
  refine W.aast hC.1.1 hC.1.2.1 (hw.arR hp hq) (fun q h => by cases h) (fun h => by cases h) k1 k2 rfl hkC ⟨h0, by rw [arrV_size]; exact hlt⟩ g1 (fun q h => by rw [g3] at h; cases h) (by rw [g2]; exact hkC) (by rw [g2]; exact va_assign hcls) rfl rfl hd fun H1 e1 z oq => ?_
  rw [arrV_store] at e1
  have hw1 : LW G B ad (sR σ q a j.toNatClampNeg (some (ci + 16 * b))) H1 := by
    refine hw.set hp rfl oq ?_ (fun p' h => lc_sR h) (hw.clR (fun x hx => by cases hx; exact hpb))
    rw [lc_arR hq]
    show H1[ad (q + 16 * a)]? = some (vp_cell _ _)
    rw [e1, vp_cell_q]
    congr 2
    exact updV_R (x := (some (ci + 16 * b)).map ad) (fun j2 => by
      show Option.map ad (hR (sR σ q a j.toNatClampNeg (some (ci + 16 * b))) q a j2) = _
      rw [R_sR]
      by_cases e : j2 = j.toNatClampNeg
      · simp [e]
      · simp [e])
  exact k p e s m args below meth c B ad n0 ad0 H1 _ ls cells slots hC he hw1 (hS.put z oq (hw.1 _ hp).2) hv (okP.eq hP (by rfl)) (okL.eq hL.2.2.2 (by rfl)) hc hs
theorem e_new {q idx : Nat} {r : vw_C} (hd : decode M.2.1 pc = .ok (.new idx, 3)) (hc0 : lcl[q]? = some r) (hq : q < 7) (hcl : Cond.classLink M.1.cls idx r.1 ∈ gt) (hins : Cond.instantiable r.1 r.2.2 ∈ gt) (hini : Cond.initialized r.1 ∈ gt) (k : Ex l G M PM (pc + 3) lv (.ref (q + 16 * hn σ q) :: st) (nw σ q 0) mc ms) : Ex l G M PM pc lv st σ (mc + 1) (ms + r.2.2) := fun p e s m args below meth c B ad n0 ad0 H locs ls cells slots hC he hw hS hv hP hL hc hs => by
  have hLr := hL
  have hK := hC.2.2.2.2.2.2.1
  have hts := hC.1.2.2.2.2
  have hKn := hK.1 q r hc0
  obtain ⟨hin, hty, hnm⟩ := lcl_ok q r hc0
  refine W.newcK hC.1.1 hC.1.2.1 hC.1.2.2.2.1 (hts _ hcl) (hts _ hins) (hts _ hini) rfl hd (by omega) (by omega) hKn.2.1 rfl fun H1 kC hkC e1 z1 o1 => ?_
  obtain ⟨ad2, hx2, hw2, had, hal⟩ := LW.new (n := 0) hw (show q < 13 by omega) rfl (Nat.le_trans hC.2.2.2.2.2.1 hS.1) o1 (fun ad' h9 => by
    obtain ⟨cell, c1, c2, c3, c4⟩ := u_born (ttab q) hts hin hKn hkC e1 hty
    refine LW.mkobj hq hc0 (by rw [h9]; exact c1) c2 c3 (fun k hk => ?_)
    rw [show cell.slots[G.1.2 q k]? = some (defaultValue (ttab q k)) from c4 k hk, dfl_ok q r hc0 k hk]
    unfold fv
    rw [I_nw, J_nw, R_nw, if_pos (show q = q ∧ hn σ q = hn σ q from ⟨rfl, rfl⟩), if_pos (show q = q ∧ hn σ q = hn σ q from ⟨rfl, rfl⟩), if_pos (show q = q ∧ hn σ q = hn σ q from ⟨rfl, rfl⟩)]
    rfl)
  have h13 : ad2 13 = ad 13 := hw2.2.2.2.trans hw.2.2.2.symm
  have hv2 : trL ad lv = trL ad2 lv := (trL_ext hx2 h13 hP).symm
  have hst2 : trS ad2 st = trS ad st := trS_ext hx2 h13 hL
  refine W.eq (g2 := F0 m (pc + 3) ls (trS ad2 (.ref (q + 16 * hn σ q) :: st))) ?_ (k p e s m args below meth c B ad2 n0 ad0 H1 locs ls (cells + 1) (slots + r.2.2) hC (he.trans hx2) hw2 ⟨Nat.le_trans hS.1 (by omega), fun x h1 h2 => (o1 x (Nat.lt_of_lt_of_le h1 hS.1)).trans (hS.2.1 x h1 h2), hS.2.2⟩ (hv2 ▸ hv) (okP.mono hx2.1 hP) ⟨Or.inl hal, okL.mono hx2.1 hLr⟩ (by omega) (by omega))
  show F0 m (pc + 3) ls (.ref H.size :: trS ad st) = F0 m (pc + 3) ls (.ref (ad2 (q + 16 * hn σ q)) :: trS ad2 st)
  rw [had, hst2]
theorem e_newai {n : Int32} {N : Nat} (hd : decode M.2.1 pc = .ok (.newarray .int, 2)) (hcl : Cond.arrayClass .int ∈ gt) (hn0 : ¬ n < 0) (hN : n.toNatClampNeg = N) (hby : N ≤ 60000000) (k : Ex l G M PM (pc + 2) lv (.ref (7 + 16 * hn σ 7) :: st) (nw σ 7 N) mc ms) : Ex l G M PM pc lv (.int n :: st) σ (mc + 1) (ms + N) := fun p e s m args below meth c B ad n0 ad0 H locs ls cells slots hC he hw hS hv hP hL hc hs => by
  have hLr := hL.2
  have hK := hC.2.2.2.2.2.2.1
  have hts := hC.1.2.2.2.2
  refine va_newaK hC.1.1 hC.1.2.1 (atype := .int) (hts _ hcl) rfl hd rfl hn0 hN (by show N * 4 ≤ _; omega) (by omega) (by omega) rfl fun H1 cA e1 z1 o1 hAr hNm => ?_
  have hcA : cA = G.2.1 0 := Option.some.inj (hNm.symm.trans (hK.2 0 _ rfl).2)
  subst hcA
  obtain ⟨ad2, hx2, hw2, had, hal⟩ := LW.new (n := N) (q := 7) hw (by decide) rfl (Nat.le_trans hC.2.2.2.2.2.1 hS.1) o1 (fun ad' h9 => by
    rw [lc_arI ⟨by decide, by decide⟩, h9, l_nw, if_pos ⟨rfl, rfl⟩, show hI (nw σ 7 N) 7 (hn σ 7) = fun _ => (0 : Int32) from funext fun j => by rw [I_nw, if_pos ⟨rfl, rfl⟩]]
    exact e1)
  have h13 : ad2 13 = ad 13 := hw2.2.2.2.trans hw.2.2.2.symm
  have hv2 : trL ad lv = trL ad2 lv := (trL_ext hx2 h13 hP).symm
  have hst2 : trS ad2 st = trS ad st := trS_ext hx2 h13 hLr
  refine W.eq (g2 := F0 m (pc + 2) ls (trS ad2 (.ref (7 + 16 * hn σ 7) :: st))) ?_ (k p e s m args below meth c B ad2 n0 ad0 H1 locs ls (cells + 1) (slots + N) hC (he.trans hx2) hw2 ⟨Nat.le_trans hS.1 (by omega), fun x h1 h2 => (o1 x (Nat.lt_of_lt_of_le h1 hS.1)).trans (hS.2.1 x h1 h2), hS.2.2⟩ (hv2 ▸ hv) (okP.mono hx2.1 hP) ⟨Or.inl hal, okL.mono hx2.1 hLr⟩ (by omega) (by omega))
  show F0 m (pc + 2) ls (.ref H.size :: trS ad st) = F0 m (pc + 2) ls (.ref (ad2 (7 + 16 * hn σ 7)) :: trS ad2 st)
  rw [had, hst2]
theorem e_newaz {n : Int32} {N : Nat} (hd : decode M.2.1 pc = .ok (.newarray .boolean, 2)) (hcl : Cond.arrayClass .boolean ∈ gt) (hn0 : ¬ n < 0) (hN : n.toNatClampNeg = N) (hby : N ≤ 60000000) (k : Ex l G M PM (pc + 2) lv (.ref (8 + 16 * hn σ 8) :: st) (nw σ 8 N) mc ms) : Ex l G M PM pc lv (.int n :: st) σ (mc + 1) (ms + N) := fun p e s m args below meth c B ad n0 ad0 H locs ls cells slots hC he hw hS hv hP hL hc hs => by
  have hLr := hL.2
  have hK := hC.2.2.2.2.2.2.1
  have hts := hC.1.2.2.2.2
  refine va_newaK hC.1.1 hC.1.2.1 (atype := .boolean) (hts _ hcl) rfl hd rfl hn0 hN (by show N * 1 ≤ _; omega) (by omega) (by omega) rfl fun H1 cA e1 z1 o1 hAr hNm => ?_
  have hcA : cA = G.2.1 1 := Option.some.inj (hNm.symm.trans (hK.2 1 _ rfl).2)
  subst hcA
  obtain ⟨ad2, hx2, hw2, had, hal⟩ := LW.new (n := N) (q := 8) hw (by decide) rfl (Nat.le_trans hC.2.2.2.2.2.1 hS.1) o1 (fun ad' h9 => by
    rw [lc_arI ⟨by decide, by decide⟩, h9, l_nw, if_pos ⟨rfl, rfl⟩, show hI (nw σ 8 N) 8 (hn σ 8) = fun _ => (0 : Int32) from funext fun j => by rw [I_nw, if_pos ⟨rfl, rfl⟩]]
    exact e1)
  have h13 : ad2 13 = ad 13 := hw2.2.2.2.trans hw.2.2.2.symm
  have hv2 : trL ad lv = trL ad2 lv := (trL_ext hx2 h13 hP).symm
  have hst2 : trS ad2 st = trS ad st := trS_ext hx2 h13 hLr
  refine W.eq (g2 := F0 m (pc + 2) ls (trS ad2 (.ref (8 + 16 * hn σ 8) :: st))) ?_ (k p e s m args below meth c B ad2 n0 ad0 H1 locs ls (cells + 1) (slots + N) hC (he.trans hx2) hw2 ⟨Nat.le_trans hS.1 (by omega), fun x h1 h2 => (o1 x (Nat.lt_of_lt_of_le h1 hS.1)).trans (hS.2.1 x h1 h2), hS.2.2⟩ (hv2 ▸ hv) (okP.mono hx2.1 hP) ⟨Or.inl hal, okL.mono hx2.1 hLr⟩ (by omega) (by omega))
  show F0 m (pc + 2) ls (.ref H.size :: trS ad st) = F0 m (pc + 2) ls (.ref (ad2 (8 + 16 * hn σ 8)) :: trS ad2 st)
  rw [had, hst2]
theorem e_newal {n : Int32} {N : Nat} (hd : decode M.2.1 pc = .ok (.newarray .long, 2)) (hcl : Cond.arrayClass .long ∈ gt) (hn0 : ¬ n < 0) (hN : n.toNatClampNeg = N) (hby : N ≤ 60000000) (k : Ex l G M PM (pc + 2) lv (.ref (9 + 16 * hn σ 9) :: st) (nw σ 9 N) mc ms) : Ex l G M PM pc lv (.int n :: st) σ (mc + 1) (ms + N) := fun p e s m args below meth c B ad n0 ad0 H locs ls cells slots hC he hw hS hv hP hL hc hs => by
  have hLr := hL.2
  have hK := hC.2.2.2.2.2.2.1
  have hts := hC.1.2.2.2.2
  refine va_newaK hC.1.1 hC.1.2.1 (atype := .long) (hts _ hcl) rfl hd rfl hn0 hN (by show N * 8 ≤ _; omega) (by omega) (by omega) rfl fun H1 cA e1 z1 o1 hAr hNm => ?_
  have hcA : cA = G.2.1 2 := Option.some.inj (hNm.symm.trans (hK.2 2 _ rfl).2)
  subst hcA
  obtain ⟨ad2, hx2, hw2, had, hal⟩ := LW.new (n := N) (q := 9) hw (by decide) rfl (Nat.le_trans hC.2.2.2.2.2.1 hS.1) o1 (fun ad' h9 => by
    rw [lc_arJ, h9, l_nw, if_pos ⟨rfl, rfl⟩, show hJ (nw σ 9 N) 9 (hn σ 9) = fun _ => (0 : Int64) from funext fun j => by rw [J_nw, if_pos ⟨rfl, rfl⟩]]
    exact e1)
  have h13 : ad2 13 = ad 13 := hw2.2.2.2.trans hw.2.2.2.symm
  have hv2 : trL ad lv = trL ad2 lv := (trL_ext hx2 h13 hP).symm
  have hst2 : trS ad2 st = trS ad st := trS_ext hx2 h13 hLr
  refine W.eq (g2 := F0 m (pc + 2) ls (trS ad2 (.ref (9 + 16 * hn σ 9) :: st))) ?_ (k p e s m args below meth c B ad2 n0 ad0 H1 locs ls (cells + 1) (slots + N) hC (he.trans hx2) hw2 ⟨Nat.le_trans hS.1 (by omega), fun x h1 h2 => (o1 x (Nat.lt_of_lt_of_le h1 hS.1)).trans (hS.2.1 x h1 h2), hS.2.2⟩ (hv2 ▸ hv) (okP.mono hx2.1 hP) ⟨Or.inl hal, okL.mono hx2.1 hLr⟩ (by omega) (by omega))
  show F0 m (pc + 2) ls (.ref H.size :: trS ad st) = F0 m (pc + 2) ls (.ref (ad2 (9 + 16 * hn σ 9)) :: trS ad2 st)
  rw [had, hst2]
theorem e_anew {q idx : Nat} {C : String} {n : Int32} {N : Nat} (hd : decode M.2.1 pc = .ok (.anewarray idx, 3)) (hq : 10 ≤ q ∧ q < 13) (ht : (tyA G.2.1)[q - 7]? = some (G.2.1 (q - 7), .object C)) (hcl : Cond.classLink M.1.cls idx C ∈ gt) (hov : C ∈ aoT) (hn0 : ¬ n < 0) (hN : n.toNatClampNeg = N) (hby : N ≤ 60000000) (k : Ex l G M PM (pc + 3) lv (.ref (q + 16 * hn σ q) :: st) (nw σ q N) mc ms) : Ex l G M PM pc lv (.int n :: st) σ (mc + 1) (ms + N) := fun p e s m args below meth c B ad n0 ad0 H locs ls cells slots hC he hw hS hv hP hL hc hs => by
  have hLr := hL.2
  have hK := hC.2.2.2.2.2.2.1
  have hts := hC.1.2.2.2.2
  subst hN
  refine W.anew hC.1.1 hC.1.2.1 hC.1.2.2.2.1 (hts _ hcl) (va_AO.use (hC.2.2.2.2.2.2.2.1.2.2.2.2.1 _ hov)) rfl hd rfl hn0 (by omega) (by omega) (by omega) fun cA kA comp f1 f2 f3 f4 => ?_
  obtain ⟨_, _, _, _, _, k4⟩ := (hK.2 (q - 7) _ ht).2
  have hcA : cA = G.2.1 (q - 7) := Option.some.inj (f1.symm.trans k4)
  subst hcA
  generalize hH1 : H.push ({ cls := G.2.1 (q - 7), slots := Array.replicate n.toNatClampNeg .null, vm := .none } : Cell) = H1
  have z1 : H1.size = H.size + 1 := by rw [← hH1, Array.size_push]
  have e1 : H1[H.size]? = some (arrV (G.2.1 (q - 7)) n.toNatClampNeg (fun _ => .null)) := by rw [← hH1, Array.getElem?_push_size, ← arrV_new]
  have o1 : ∀ x : Nat, x < H.size → H1[x]? = H[x]? := fun x hx => by rw [← hH1, Array.getElem?_push, if_neg (Nat.ne_of_lt hx)]
  obtain ⟨ad2, hx2, hw2, had, hal⟩ := LW.new (n := n.toNatClampNeg) (q := q) hw hq.2 rfl (Nat.le_trans hC.2.2.2.2.2.1 hS.1) o1 (fun ad' h9 => by
    rw [lc_arR hq, h9, l_nw, if_pos ⟨rfl, rfl⟩, show (fun k => (hR (nw σ q n.toNatClampNeg) q (hn σ q) k).map ad') = fun _ => none from funext fun j => by rw [R_nw, if_pos ⟨rfl, rfl⟩]; rfl]
    exact e1)
  have h13 : ad2 13 = ad 13 := hw2.2.2.2.trans hw.2.2.2.symm
  have hv2 : trL ad lv = trL ad2 lv := (trL_ext hx2 h13 hP).symm
  have hst2 : trS ad2 st = trS ad st := trS_ext hx2 h13 hLr
  refine W.eq (g2 := F0 m (pc + 3) ls (trS ad2 (.ref (q + 16 * hn σ q) :: st))) ?_ (k p e s m args below meth c B ad2 n0 ad0 H1 locs ls (cells + 1) (slots + n.toNatClampNeg) hC (he.trans hx2) hw2 ⟨Nat.le_trans hS.1 (by omega), fun x h1 h2 => (o1 x (Nat.lt_of_lt_of_le h1 hS.1)).trans (hS.2.1 x h1 h2), hS.2.2⟩ (hv2 ▸ hv) (okP.mono hx2.1 hP) ⟨Or.inl hal, okL.mono hx2.1 hLr⟩ (by omega) (by omega))
  show F0 m (pc + 3) ls (.ref H.size :: trS ad st) = F0 m (pc + 3) ls (.ref (ad2 (q + 16 * hn σ q)) :: trS ad2 st)
  rw [had, hst2]
theorem e_obji {x idx : Nat} (hd : decode M.2.1 pc = .ok (.invokespecial idx, 3)) (hlk : Cond.methodLink M.1.cls idx Lib.objectInit ∈ gt) (hR0 : 1 ≤ M.2.2.2.2.1.frames ∧ (st.map fun v => v.category).sum + 12 ≤ M.2.2.2.2.1.locals) (k : Ex l G M PM (pc + 3) lv st σ mc ms) : Ex l G M PM pc lv (.ref x :: st) σ mc ms := fun p e s m args below meth c B ad n0 ad0 H locs ls cells slots hC he hw hS hv hP hL hc hs => by
  have hts := hC.1.2.2.2.2
  have hcat : ((trS ad st).map fun v => v.category).sum = (st.map fun v => v.category).sum := by
    rw [List.map_map]; congr 1; exact List.map_congr_left (fun v _ => trV_cat ad v)
  refine W.objInit hC.1.1 hC.1.2.1 hC.1.2.2.2.1 (hts _ hlk) (hts _ obji_in.1) (hts _ obji_in.2) rfl (hv.1.trans hC.1.2.2.1.symm) rfl hd hR0.1 (by show 2 * 0 + _ + 12 ≤ _; rw [hcat]; omega) ?_
  exact k p e s m args below meth c B ad n0 ad0 H locs ls cells slots hC he hw hS hv hP hL.2 hc hs
theorem e_acmpne {x y : Nat} {off : Int} {tgt : Nat} (hd : decode M.2.1 pc = .ok (.if_acmp .ne off, 3)) (ht : (pc : Int) + off = (tgt : Int)) (hx9 : ¬ x = 13) (hy9 : ¬ y = 13) (kt : (¬ x = y) → Ex l G M PM tgt lv st σ mc ms) (kf : (x = y) → Ex l G M PM (pc + 3) lv st σ mc ms) : Ex l G M PM pc lv (.ref y :: .ref x :: st) σ mc ms := fun p e s m args below meth c B ad n0 ad0 H locs ls cells slots hC he hw hS hv hP hL hc hs => lv_acmp_ne (rx := some (ad x)) (ry := some (ad y)) hC.1.1 hC.1.2.1 hd ht (fun h => kt (fun z => h (by rw [z])) p e s m args below meth c B ad n0 ad0 H locs ls cells slots hC he hw hS hv hP hL.2.2 hc hs) (fun h => kf (hw.2.1 x y (hL.2.1.resolve_right hx9) (hL.1.resolve_right hy9) (Option.some.inj h)) p e s m args below meth c B ad n0 ad0 H locs ls cells slots hC he hw hS hv hP hL.2.2 hc hs)
theorem e_acmpeq {x y : Nat} {off : Int} {tgt : Nat} (hd : decode M.2.1 pc = .ok (.if_acmp .eq off, 3)) (ht : (pc : Int) + off = (tgt : Int)) (hx9 : ¬ x = 13) (hy9 : ¬ y = 13) (kt : (x = y) → Ex l G M PM tgt lv st σ mc ms) (kf : (¬ x = y) → Ex l G M PM (pc + 3) lv st σ mc ms) : Ex l G M PM pc lv (.ref y :: .ref x :: st) σ mc ms := fun p e s m args below meth c B ad n0 ad0 H locs ls cells slots hC he hw hS hv hP hL hc hs => lv_acmp_eq (rx := some (ad x)) (ry := some (ad y)) hC.1.1 hC.1.2.1 hd ht (fun h => kt (hw.2.1 x y (hL.2.1.resolve_right hx9) (hL.1.resolve_right hy9) (Option.some.inj h)) p e s m args below meth c B ad n0 ad0 H locs ls cells slots hC he hw hS hv hP hL.2.2 hc hs) (fun h => kf (fun z => h (by rw [z])) p e s m args below meth c B ad n0 ad0 H locs ls cells slots hC he hw hS hv hP hL.2.2 hc hs)
end HR2
