/-! the logical heap. A reference is a number q + 16 * a: the a-th object made of kind q. Kinds: 0 Dataset, 1 Port, 2 Node, 3 Link, 4 Reckoner, 5 ClockTree, 6 Model, 7 int[], 8 boolean[], 9 long[], 10 Node[], 11 Link[], 12 Port[]; 13 is the script. The state: how many of a kind there are, lengths of arrays, ints, longs, references by kind, number and place (of the field or the element). -/
abbrev HS : Type := (Nat → Nat) × (Nat → Nat → Nat) × (Nat → Nat → Nat → Int32) × (Nat → Nat → Nat → Int64) × (Nat → Nat → Nat → Option Nat)
def hn (σ : HS) : Nat → Nat := σ.1
def hl (σ : HS) : Nat → Nat → Nat := σ.2.1
def hI (σ : HS) : Nat → Nat → Nat → Int32 := σ.2.2.1
def hJ (σ : HS) : Nat → Nat → Nat → Int64 := σ.2.2.2.1
def hR (σ : HS) : Nat → Nat → Nat → Option Nat := σ.2.2.2.2
def up3 {α : Type} (g : Nat → Nat → Nat → α) (q a k : Nat) (v : α) : Nat → Nat → Nat → α := fun q' a' k' => if q' = q ∧ a' = a ∧ k' = k then v else g q' a' k'
def clr {α : Type} (g : Nat → Nat → Nat → α) (q a : Nat) (v : α) : Nat → Nat → Nat → α := fun q' a' k' => if q' = q ∧ a' = a then v else g q' a' k'
def sI (σ : HS) (q a k : Nat) (v : Int32) : HS := (σ.1, σ.2.1, up3 σ.2.2.1 q a k v, σ.2.2.2)
def sJ (σ : HS) (q a k : Nat) (v : Int64) : HS := (σ.1, σ.2.1, σ.2.2.1, up3 σ.2.2.2.1 q a k v, σ.2.2.2.2)
def sR (σ : HS) (q a k : Nat) (v : Option Nat) : HS := (σ.1, σ.2.1, σ.2.2.1, σ.2.2.2.1, up3 σ.2.2.2.2 q a k v)
def nw (σ : HS) (q n : Nat) : HS := (fun q' => if q' = q then σ.1 q + 1 else σ.1 q', fun q' a' => if q' = q ∧ a' = σ.1 q then n else σ.2.1 q' a', clr σ.2.2.1 q (σ.1 q) 0, clr σ.2.2.2.1 q (σ.1 q) 0, clr σ.2.2.2.2 q (σ.1 q) none)
section HSL
variable {σ : HS} {q a k n q' a' k' : Nat}
theorem n_sI {v : Int32} : hn (sI σ q a k v) = hn σ := rfl
theorem l_sI {v : Int32} : hl (sI σ q a k v) = hl σ := rfl
theorem I_sI {v : Int32} : hI (sI σ q a k v) q' a' k' = if q' = q ∧ a' = a ∧ k' = k then v else hI σ q' a' k' := rfl
theorem J_sI {v : Int32} : hJ (sI σ q a k v) = hJ σ := rfl
theorem R_sI {v : Int32} : hR (sI σ q a k v) = hR σ := rfl
theorem n_sJ {v : Int64} : hn (sJ σ q a k v) = hn σ := rfl
theorem l_sJ {v : Int64} : hl (sJ σ q a k v) = hl σ := rfl
theorem I_sJ {v : Int64} : hI (sJ σ q a k v) = hI σ := rfl
theorem J_sJ {v : Int64} : hJ (sJ σ q a k v) q' a' k' = if q' = q ∧ a' = a ∧ k' = k then v else hJ σ q' a' k' := rfl
theorem R_sJ {v : Int64} : hR (sJ σ q a k v) = hR σ := rfl
theorem n_sR {v : Option Nat} : hn (sR σ q a k v) = hn σ := rfl
theorem l_sR {v : Option Nat} : hl (sR σ q a k v) = hl σ := rfl
theorem I_sR {v : Option Nat} : hI (sR σ q a k v) = hI σ := rfl
theorem J_sR {v : Option Nat} : hJ (sR σ q a k v) = hJ σ := rfl
theorem R_sR {v : Option Nat} : hR (sR σ q a k v) q' a' k' = if q' = q ∧ a' = a ∧ k' = k then v else hR σ q' a' k' := rfl
theorem n_nw : hn (nw σ q n) q' = if q' = q then hn σ q + 1 else hn σ q' := rfl
theorem l_nw : hl (nw σ q n) q' a' = if q' = q ∧ a' = hn σ q then n else hl σ q' a' := rfl
theorem I_nw : hI (nw σ q n) q' a' k' = if q' = q ∧ a' = hn σ q then 0 else hI σ q' a' k' := rfl
theorem J_nw : hJ (nw σ q n) q' a' k' = if q' = q ∧ a' = hn σ q then 0 else hJ σ q' a' k' := rfl
theorem R_nw : hR (nw σ q n) q' a' k' = if q' = q ∧ a' = hn σ q then none else hR σ q' a' k' := rfl
end HSL
/-- there is an object of this number -/
def alN (n : Nat → Nat) (p : Nat) : Prop := p % 16 < 13 ∧ p / 16 < n (p % 16)
def al (σ : HS) (p : Nat) : Prop := alN (hn σ) p
theorem al_mk {σ : HS} {q a : Nat} (hq : q < 13) (h : a < hn σ q) : al σ (q + 16 * a) := by
  have h1 : (q + 16 * a) % 16 = q := by omega
  have h2 : (q + 16 * a) / 16 = a := by omega
  unfold al alN
  rw [h1, h2]
  exact ⟨hq, h⟩
theorem al_of {σ : HS} {q a : Nat} (hq : q < 16) (h : al σ (q + 16 * a)) : q < 13 ∧ a < hn σ q := by
  have h1 : (q + 16 * a) % 16 = q := by omega
  have h2 : (q + 16 * a) / 16 = a := by omega
  unfold al alN at h
  rw [h1, h2] at h
  exact h
def okv (σ : HS) : Value → Prop
  | .ref p => al σ p ∨ p = 13
  | _ => True
def okL (σ : HS) : List Value → Prop
  | [] => True
  | v :: r => okv σ v ∧ okL σ r
def okP (σ : HS) : List (Nat × Value) → Prop
  | [] => True
  | q :: r => okv σ q.2 ∧ okP σ r
def trV (ad : Nat → Nat) : Value → Value
  | .ref p => .ref (ad p)
  | v => v
abbrev trS (ad : Nat → Nat) (st : List Value) : List Value := st.map (trV ad)
abbrev trL (ad : Nat → Nat) (lv : List (Nat × Value)) : List (Nat × Value) := lv.map (fun q => (q.1, trV ad q.2))
theorem trV_cat (ad : Nat → Nat) (v : Value) : (trV ad v).category = v.category := by cases v <;> rfl
theorem trV_rf (ad : Nat → Nat) (r : Option Nat) : trV ad (va_rf r) = va_rf (r.map ad) := by cases r <;> rfl
/-- the codes of fields: 0 an int, 1 a long, 2 a reference -/
def fkT : FieldType → Nat
  | .int => 0
  | .boolean => 0
  | .long => 1
  | _ => 2
def fk (q k : Nat) : Nat := fkT (ttab q k)
def fv (ad : Nat → Nat) (σ : HS) (q a k : Nat) : Value := if fk q k = 0 then .int (hI σ q a k) else if fk q k = 1 then .long (hJ σ q a k) else va_rf ((hR σ q a k).map ad)
def nf (q : Nat) : Nat := match lcl[q]? with
  | some r => r.2.2
  | none => 0
def lc (cA : Nat → ClassId) (ad : Nat → Nat) (σ : HS) (p : Nat) : va_E :=
  if p % 16 < 7 then .inr (p % 16, (List.range (nf (p % 16))).map (fv ad σ (p % 16) (p / 16)))
  else .inl (cA (p % 16 - 7), hl σ (p % 16) (p / 16), if p % 16 < 9 then .inl (hI σ (p % 16) (p / 16)) else if p % 16 = 9 then .inr (.inl (hJ σ (p % 16) (p / 16))) else .inr (.inr (.inr (.inr (fun k => (hR σ (p % 16) (p / 16) k).map ad)))))
theorem lc_same {cA : Nat → ClassId} {ad ad' : Nat → Nat} {σ σ' : HS} {p : Nat} (h1 : ∀ k, hI σ' (p % 16) (p / 16) k = hI σ (p % 16) (p / 16) k) (h2 : ∀ k, hJ σ' (p % 16) (p / 16) k = hJ σ (p % 16) (p / 16) k)
    (h3 : ∀ k, (hR σ' (p % 16) (p / 16) k).map ad' = (hR σ (p % 16) (p / 16) k).map ad) (h4 : hl σ' (p % 16) (p / 16) = hl σ (p % 16) (p / 16)) : lc cA ad' σ' p = lc cA ad σ p := by
  have e1 : hI σ' (p % 16) (p / 16) = hI σ (p % 16) (p / 16) := funext h1
  have e2 : hJ σ' (p % 16) (p / 16) = hJ σ (p % 16) (p / 16) := funext h2
  have e3 : (fun k => (hR σ' (p % 16) (p / 16) k).map ad') = (fun k => (hR σ (p % 16) (p / 16) k).map ad) := funext h3
  have e5 : fv ad' σ' (p % 16) (p / 16) = fv ad σ (p % 16) (p / 16) := funext fun k => by unfold fv; rw [h1 k, h2 k, h3 k]
  unfold lc
  rw [e5, h4, e1, e2, e3]
abbrev LG : Type := va_G × (Nat → ClassId) × Nat
/-- the heap holds the state: each object in a cell of its own, from B on; references go to objects -/
def LW (G : LG) (B : Nat) (ad : Nat → Nat) (σ : HS) (H : Heap) : Prop :=
  (∀ p, al σ p → va_at G.1 lcl (ad p, lc G.2.1 ad σ p) H ∧ B ≤ ad p) ∧ (∀ p p', al σ p → al σ p' → ad p = ad p' → p = p') ∧ (∀ p k p', al σ p → hR σ (p % 16) (p / 16) k = some p' → al σ p') ∧ ad 13 = G.2.2
theorem lc_obj {cA : Nat → ClassId} {ad : Nat → Nat} {σ : HS} {q a : Nat} (hq : q < 7) : lc cA ad σ (q + 16 * a) = .inr (q, (List.range (nf q)).map (fv ad σ q a)) := by
  have h1 : (q + 16 * a) % 16 = q := by omega
  have h2 : (q + 16 * a) / 16 = a := by omega
  unfold lc
  rw [h1, h2, if_pos hq]
theorem lc_arI {cA : Nat → ClassId} {ad : Nat → Nat} {σ : HS} {q a : Nat} (hq : 7 ≤ q ∧ q < 9) : lc cA ad σ (q + 16 * a) = .inl (cA (q - 7), hl σ q a, .inl (hI σ q a)) := by
  have h1 : (q + 16 * a) % 16 = q := by omega
  have h2 : (q + 16 * a) / 16 = a := by omega
  unfold lc
  rw [h1, h2, if_neg (by omega), if_pos hq.2]
theorem lc_arJ {cA : Nat → ClassId} {ad : Nat → Nat} {σ : HS} {a : Nat} : lc cA ad σ (9 + 16 * a) = .inl (cA 2, hl σ 9 a, .inr (.inl (hJ σ 9 a))) := by
  have h1 : (9 + 16 * a) % 16 = 9 := by omega
  have h2 : (9 + 16 * a) / 16 = a := by omega
  unfold lc
  rw [h1, h2]
  rfl
theorem lc_arR {cA : Nat → ClassId} {ad : Nat → Nat} {σ : HS} {q a : Nat} (hq : 10 ≤ q ∧ q < 13) : lc cA ad σ (q + 16 * a) = .inl (cA (q - 7), hl σ q a, .inr (.inr (.inr (.inr (fun k => (hR σ q a k).map ad))))) := by
  have h1 : (q + 16 * a) % 16 = q := by omega
  have h2 : (q + 16 * a) / 16 = a := by omega
  unfold lc
  rw [h1, h2, if_neg (by omega), if_neg (by omega), if_neg (by omega)]
theorem nf_of {q : Nat} {r : vw_C} (h : lcl[q]? = some r) : nf q = r.2.2 := by
  unfold nf
  rw [h]
theorem vp_V_map {f : Nat → Value} {N k : Nat} (h : k < N) : vp_V ((List.range N).map f) k = f k := by
  simp [vp_V, h]
theorem LW.obj {G : LG} {B : Nat} {ad : Nat → Nat} {σ : HS} {H : Heap} (h : LW G B ad σ H) {q a : Nat} {r : vw_C} (hp : al σ (q + 16 * a)) (hq : q < 7) (hc : lcl[q]? = some r) :
    ∃ cell : Cell, H[ad (q + 16 * a)]? = some cell ∧ cell.cls = G.1.1 q ∧ cell.vm = .none ∧ ∀ k, k < r.2.2 → cell.slots[G.1.2 q k]? = some (fv ad σ q a k) := by
  obtain ⟨h1, -⟩ := h.1 _ hp
  rw [lc_obj hq] at h1
  obtain ⟨r', h2, cell, g1, g2, g3, g4⟩ := h1
  have hr : r' = r := Option.some.inj (h2.symm.trans hc)
  subst hr
  refine ⟨cell, g1, g2, g3, fun k hk => ?_⟩
  rw [g4 k hk]
  show some (vp_V ((List.range (nf q)).map (fv ad σ q a)) k) = _
  rw [nf_of hc, vp_V_map hk]
theorem LW.mkobj {G : LG} {ad : Nat → Nat} {σ : HS} {H : Heap} {q a : Nat} {r : vw_C} (hq : q < 7) (hc : lcl[q]? = some r) {cell : Cell} (g1 : H[ad (q + 16 * a)]? = some cell) (g2 : cell.cls = G.1.1 q) (g3 : cell.vm = .none) (g4 : ∀ k, k < r.2.2 → cell.slots[G.1.2 q k]? = some (fv ad σ q a k)) :
    va_at G.1 lcl (ad (q + 16 * a), lc G.2.1 ad σ (q + 16 * a)) H := by
  rw [lc_obj hq]
  refine ⟨r, hc, cell, g1, g2, g3, fun k hk => ?_⟩
  rw [g4 k hk]
  show _ = some (vp_V ((List.range (nf q)).map (fv ad σ q a)) k)
  rw [nf_of hc, vp_V_map hk]
theorem LW.arI {G : LG} {B : Nat} {ad : Nat → Nat} {σ : HS} {H : Heap} (h : LW G B ad σ H) {q a : Nat} (hp : al σ (q + 16 * a)) (hq : 7 ≤ q ∧ q < 9) : H[ad (q + 16 * a)]? = some (arrV (G.2.1 (q - 7)) (hl σ q a) (fun j => .int (hI σ q a j))) := by
  obtain ⟨h1, -⟩ := h.1 _ hp
  rw [lc_arI hq] at h1
  exact h1
theorem LW.arJ {G : LG} {B : Nat} {ad : Nat → Nat} {σ : HS} {H : Heap} (h : LW G B ad σ H) {a : Nat} (hp : al σ (9 + 16 * a)) : H[ad (9 + 16 * a)]? = some (arrV (G.2.1 2) (hl σ 9 a) (fun j => .long (hJ σ 9 a j))) := by
  obtain ⟨h1, -⟩ := h.1 _ hp
  rw [lc_arJ] at h1
  exact h1
theorem LW.arR {G : LG} {B : Nat} {ad : Nat → Nat} {σ : HS} {H : Heap} (h : LW G B ad σ H) {q a : Nat} (hp : al σ (q + 16 * a)) (hq : 10 ≤ q ∧ q < 13) : H[ad (q + 16 * a)]? = some (arrV (G.2.1 (q - 7)) (hl σ q a) (fun j => va_rf ((hR σ q a j).map ad))) := by
  obtain ⟨h1, -⟩ := h.1 _ hp
  rw [lc_arR hq] at h1
  exact h1
/-- one object's cell is written -/
theorem LW.set {G : LG} {B : Nat} {ad : Nat → Nat} {σ σ' : HS} {H H1 : Heap} {p : Nat} (h : LW G B ad σ H) (hp : al σ p) (hn' : hn σ' = hn σ) (ho : ∀ q : Nat, q ≠ ad p → H1[q]? = H[q]?) (hc : va_at G.1 lcl (ad p, lc G.2.1 ad σ' p) H1)
    (hj : ∀ p', p' ≠ p → lc G.2.1 ad σ' p' = lc G.2.1 ad σ p') (hr : ∀ p1 k p2, al σ p1 → hR σ' (p1 % 16) (p1 / 16) k = some p2 → al σ p2) : LW G B ad σ' H1 := by
  have ha : ∀ x, al σ' x = al σ x := fun x => by unfold al; rw [hn']
  refine ⟨fun x hx => ?_, fun x y hx hy => ?_, fun x k y hx => ?_, h.2.2.2⟩
  · rw [ha] at hx
    by_cases e : x = p
    · subst e; exact ⟨hc, (h.1 x hx).2⟩
    · rw [hj x e]; exact ⟨(h.1 x hx).1.kept (ho _ (fun z => e (h.2.1 x p hx hp z))), (h.1 x hx).2⟩
  · rw [ha] at hx hy; exact h.2.1 x y hx hy
  · rw [ha] at hx; rw [ha]; exact hr x k y hx
theorem lc_sI {cA : Nat → ClassId} {ad : Nat → Nat} {σ : HS} {q a k p' : Nat} {v : Int32} (h : p' ≠ q + 16 * a) : lc cA ad (sI σ q a k v) p' = lc cA ad σ p' :=
  lc_same (fun k' => by rw [I_sI, if_neg (fun z => h (by omega))]) (fun _ => rfl) (fun _ => rfl) rfl
theorem lc_sJ {cA : Nat → ClassId} {ad : Nat → Nat} {σ : HS} {q a k p' : Nat} {v : Int64} (h : p' ≠ q + 16 * a) : lc cA ad (sJ σ q a k v) p' = lc cA ad σ p' :=
  lc_same (fun _ => rfl) (fun k' => by rw [J_sJ, if_neg (fun z => h (by omega))]) (fun _ => rfl) rfl
theorem lc_sR {cA : Nat → ClassId} {ad : Nat → Nat} {σ : HS} {q a k p' : Nat} {v : Option Nat} (h : p' ≠ q + 16 * a) : lc cA ad (sR σ q a k v) p' = lc cA ad σ p' :=
  lc_same (fun _ => rfl) (fun _ => rfl) (fun k' => by rw [R_sR, if_neg (fun z => h (by omega))]) rfl
theorem LW.clR {G : LG} {B : Nat} {ad : Nat → Nat} {σ : HS} {H : Heap} {q a k : Nat} {v : Option Nat} (h : LW G B ad σ H) (hv : ∀ p, v = some p → al σ p) : ∀ p1 k1 p2, al σ p1 → hR (sR σ q a k v) (p1 % 16) (p1 / 16) k1 = some p2 → al σ p2 := by
  intro p1 k1 p2 h1 h2
  rw [R_sR] at h2
  split at h2
  · exact hv p2 h2
  · exact h.2.2.1 p1 k1 p2 h1 h2
/-- objects that were there keep their addresses -/
def ext (n0 : Nat → Nat) (ad0 : Nat → Nat) (n : Nat → Nat) (ad : Nat → Nat) : Prop := (∀ q, n0 q ≤ n q) ∧ ∀ p, alN n0 p → ad p = ad0 p
theorem ext.rf {n : Nat → Nat} {ad : Nat → Nat} : ext n ad n ad := ⟨fun _ => Nat.le_refl _, fun _ _ => rfl⟩
theorem alN.mono {n n' : Nat → Nat} (h : ∀ q, n q ≤ n' q) {p : Nat} (hp : alN n p) : alN n' p := ⟨hp.1, Nat.lt_of_lt_of_le hp.2 (h _)⟩
theorem ext.trans {n0 n1 n2 : Nat → Nat} {ad0 ad1 ad2 : Nat → Nat} (h : ext n0 ad0 n1 ad1) (h' : ext n1 ad1 n2 ad2) : ext n0 ad0 n2 ad2 :=
  ⟨fun q => Nat.le_trans (h.1 q) (h'.1 q), fun p hp => (h'.2 p (hp.mono h.1)).trans (h.2 p hp)⟩
theorem okv.mono {σ σ' : HS} (h : ∀ q, hn σ q ≤ hn σ' q) : ∀ {v : Value}, okv σ v → okv σ' v := by
  intro v hv
  cases v with
  | ref p => exact hv.elim (fun z => Or.inl (alN.mono h z)) Or.inr
  | _ => trivial
theorem okL.mono {σ σ' : HS} (h : ∀ q, hn σ q ≤ hn σ' q) : ∀ {st : List Value}, okL σ st → okL σ' st
  | [], _ => trivial
  | _ :: _, hs => ⟨okv.mono h hs.1, okL.mono h hs.2⟩
theorem okP.mono {σ σ' : HS} (h : ∀ q, hn σ q ≤ hn σ' q) : ∀ {st : List (Nat × Value)}, okP σ st → okP σ' st
  | [], _ => trivial
  | _ :: _, hs => ⟨okv.mono h hs.1, okP.mono h hs.2⟩
theorem trV_ext {σ : HS} {ad ad' n' : Nat → Nat} (h : ext (hn σ) ad n' ad') (h13 : ad' 13 = ad 13) {v : Value} (hv : okv σ v) : trV ad' v = trV ad v := by
  cases v with
  | ref p =>
    show Value.ref (ad' p) = Value.ref (ad p)
    rcases hv with z | z
    · rw [h.2 p z]
    · rw [z, h13]
  | _ => rfl
theorem trS_ext {σ : HS} {ad ad' n' : Nat → Nat} (h : ext (hn σ) ad n' ad') (h13 : ad' 13 = ad 13) : ∀ {st : List Value}, okL σ st → trS ad' st = trS ad st
  | [], _ => rfl
  | v :: r, hs => by
    show trV ad' v :: trS ad' r = trV ad v :: trS ad r
    rw [trV_ext h h13 hs.1, trS_ext h h13 hs.2]
theorem trL_ext {σ : HS} {ad ad' n' : Nat → Nat} (h : ext (hn σ) ad n' ad') (h13 : ad' 13 = ad 13) : ∀ {lv : List (Nat × Value)}, okP σ lv → trL ad' lv = trL ad lv
  | [], _ => rfl
  | q :: r, hs => by
    show (q.1, trV ad' q.2) :: trL ad' r = (q.1, trV ad q.2) :: trL ad r
    rw [trV_ext h h13 hs.1, trL_ext h h13 hs.2]
/-- a new object at the heap's end -/
theorem LW.new {G : LG} {B : Nat} {ad : Nat → Nat} {σ : HS} {H H1 : Heap} {q n h : Nat} (hw : LW G B ad σ H) (hq : q < 13) (hh : H.size = h) (hB : B ≤ h) (o1 : ∀ x : Nat, x < h → H1[x]? = H[x]?)
    (hc : ∀ ad' : Nat → Nat, ad' (q + 16 * hn σ q) = h → va_at G.1 lcl (ad' (q + 16 * hn σ q), lc G.2.1 ad' (nw σ q n) (q + 16 * hn σ q)) H1) :
    ∃ ad' : Nat → Nat, ext (hn σ) ad (hn (nw σ q n)) ad' ∧ LW G B ad' (nw σ q n) H1 ∧ ad' (q + 16 * hn σ q) = h ∧ al (nw σ q n) (q + 16 * hn σ q) := by
  have hm : ∀ q', hn σ q' ≤ hn (nw σ q n) q' := fun q' => by
    rw [n_nw]; split
    · rename_i e; rw [e]; omega
    · exact Nat.le_refl _
  have hid : al (nw σ q n) (q + 16 * hn σ q) := al_mk hq (by rw [n_nw, if_pos rfl]; omega)
  have hnot : ∀ p, al σ p → p ≠ q + 16 * hn σ q := fun p hp e => by
    rw [e] at hp
    have := (al_of (by omega) hp).2
    omega
  have hal : ∀ p, al (nw σ q n) p → al σ p ∨ p = q + 16 * hn σ q := fun p hp => by
    obtain ⟨z1, z2⟩ := hp
    rw [n_nw] at z2
    by_cases e : p % 16 = q
    · rw [if_pos e] at z2
      by_cases e2 : p / 16 = hn σ q
      · exact Or.inr (by omega)
      · exact Or.inl ⟨z1, by rw [e]; omega⟩
    · rw [if_neg e] at z2; exact Or.inl ⟨z1, z2⟩
  refine ⟨fun p => if p = q + 16 * hn σ q then h else ad p, ⟨hm, fun p hp => if_neg (hnot p hp)⟩, ⟨fun p hp => ?_, fun p p' hp hp' e => ?_, fun p k p' hp hr => ?_, ?_⟩, if_pos rfl, hid⟩
  · rcases hal p hp with z | z
    · have e1 : lc G.2.1 (fun p => if p = q + 16 * hn σ q then h else ad p) (nw σ q n) p = lc G.2.1 ad σ p := by
        have hne := hnot p z
        have hd : ¬ (p % 16 = q ∧ p / 16 = hn σ q) := fun y => hne (by omega)
        refine lc_same (fun k => by rw [I_nw, if_neg hd]) (fun k => by rw [J_nw, if_neg hd]) (fun k => ?_) (by rw [l_nw, if_neg hd])
        rw [R_nw, if_neg hd]
        cases hr : hR σ (p % 16) (p / 16) k with
        | none => rfl
        | some p2 => simp [hnot p2 (hw.2.2.1 p k p2 z hr)]
      show va_at G.1 lcl ((if p = q + 16 * hn σ q then h else ad p), lc G.2.1 (fun p => if p = q + 16 * hn σ q then h else ad p) (nw σ q n) p) H1 ∧ B ≤ (if p = q + 16 * hn σ q then h else ad p)
      rw [e1, if_neg (hnot p z)]
      have hz := (hw.1 p z).1.lt
      exact ⟨(hw.1 p z).1.kept (o1 _ (by rw [← hh]; exact hz)), (hw.1 p z).2⟩
    · subst z
      exact ⟨hc (fun p => if p = q + 16 * hn σ q then h else ad p) (if_pos rfl), by show B ≤ (if _ then h else _); rw [if_pos rfl]; exact hB⟩
  · have hlt : ∀ x, al σ x → ad x < h := fun x hx => by rw [← hh]; exact (hw.1 x hx).1.lt
    have e' : (if p = q + 16 * hn σ q then h else ad p) = (if p' = q + 16 * hn σ q then h else ad p') := e
    rcases hal p hp with z | z <;> rcases hal p' hp' with z' | z'
    · rw [if_neg (hnot p z), if_neg (hnot p' z')] at e'; exact hw.2.1 p p' z z' e'
    · rw [if_neg (hnot p z), if_pos z'] at e'; have := hlt p z; omega
    · rw [if_pos z, if_neg (hnot p' z')] at e'; have := hlt p' z'; omega
    · rw [z, z']
  · rw [R_nw] at hr
    rcases hal p hp with z | z
    · have hd : ¬ (p % 16 = q ∧ p / 16 = hn σ q) := fun y => hnot p z (by omega)
      rw [if_neg hd] at hr
      exact alN.mono hm (hw.2.2.1 p k p' z hr)
    · rw [if_pos (by omega)] at hr; cases hr
  · show (if 13 = q + 16 * hn σ q then h else ad 13) = G.2.2
    rw [if_neg (by omega)]; exact hw.2.2.2
theorem dfl_ok : ∀ (q : Nat) (r : vw_C), lcl[q]? = some r → ∀ k, k < r.2.2 → defaultValue (ttab q k) = (if fk q k = 0 then .int 0 else if fk q k = 1 then .long 0 else .null) := by
  intro q r h
  match q, h with
  | 0, h => cases h; exact (by decide +kernel : ∀ k, k < 8 → defaultValue (ttab 0 k) = (if fk 0 k = 0 then .int 0 else if fk 0 k = 1 then .long 0 else .null))
  | 1, h => cases h; exact (by decide +kernel : ∀ k, k < 8 → defaultValue (ttab 1 k) = (if fk 1 k = 0 then .int 0 else if fk 1 k = 1 then .long 0 else .null))
  | 2, h => cases h; exact (by decide +kernel : ∀ k, k < 6 → defaultValue (ttab 2 k) = (if fk 2 k = 0 then .int 0 else if fk 2 k = 1 then .long 0 else .null))
  | 3, h => cases h; exact (by decide +kernel : ∀ k, k < 5 → defaultValue (ttab 3 k) = (if fk 3 k = 0 then .int 0 else if fk 3 k = 1 then .long 0 else .null))
  | 4, h => cases h; exact (by decide +kernel : ∀ k, k < 12 → defaultValue (ttab 4 k) = (if fk 4 k = 0 then .int 0 else if fk 4 k = 1 then .long 0 else .null))
  | 5, h => cases h; exact (by decide +kernel : ∀ k, k < 6 → defaultValue (ttab 5 k) = (if fk 5 k = 0 then .int 0 else if fk 5 k = 1 then .long 0 else .null))
  | 6, h => cases h; exact (by decide +kernel : ∀ k, k < 28 → defaultValue (ttab 6 k) = (if fk 6 k = 0 then .int 0 else if fk 6 k = 1 then .long 0 else .null))
  | n + 7, h => simp at h
