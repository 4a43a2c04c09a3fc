theorem inr32 (x : Int32) : -2147483648 ≤ x.toInt ∧ x.toInt < 2147483648 := ⟨Int32.le_toInt x, Int32.toInt_lt x⟩
theorem add32 (a b : Int32) : (a + b).toInt = a.toInt + b.toInt ∨ (a + b).toInt = a.toInt + b.toInt - 4294967296 ∨ (a + b).toInt = a.toInt + b.toInt + 4294967296 := by
  have h1 := inr32 a
  have h2 := inr32 b
  have h3 : (a + b).toInt = (a.toInt + b.toInt).bmod (2 ^ 32) := Int32.toInt_add a b
  unfold Int.bmod at h3
  simp only at h3
  omega
theorem w32 (x : Int32) : x.toInt64.toInt = x.toInt := Int32.toInt_toInt64 x
/-- a delay and a rest, added at once -/
theorem dr_add {d r : Int32} (hd : 0 ≤ d.toInt ∧ d.toInt ≤ 1000000000) (hr : 0 ≤ r.toInt ∧ r.toInt ≤ 1000000) : (d + r).toInt64.toInt = d.toInt64.toInt + r.toInt64.toInt ∧ (d + r).toInt64 = d.toInt64 + r.toInt64 := by
  have h1 := add32 d r
  have h2 := inr32 (d + r)
  have e : (d + r).toInt = d.toInt + r.toInt := by omega
  have e1 : (d + r).toInt64.toInt = d.toInt64.toInt + r.toInt64.toInt := by rw [w32, w32, w32, e]
  refine ⟨e1, Int64.toInt_inj.mp ?_⟩
  have h3 := add64 d.toInt64 r.toInt64
  have h4 := inr64 (d.toInt64 + r.toInt64)
  have e2 := w32 d
  have e3 := w32 r
  omega
/-- the exchange, as the tree reckons it and as the model does -/
theorem xO_0 {σ : HS} {t : Int64} {dT dF r u : Int32} {m w : Int64} (hT : 0 ≤ dT.toInt ∧ dT.toInt ≤ 1000000000) (hF : 0 ≤ dF.toInt ∧ dF.toInt ≤ 1000000000) (hr : 0 ≤ r.toInt ∧ r.toInt ≤ 1000000) (hu : 0 ≤ u.toInt ∧ u.toInt ≤ 1000000) : xO3 σ t (dT + r) (dF + u) m w r u = 0 ↔ swO t dT dF w m r u = 0 := by
  obtain ⟨a1, a2⟩ := dr_add hT hr
  obtain ⟨b1, b2⟩ := dr_add hF hu
  have f1 := fit2 (t := t) (d := dT.toInt64) (r := r.toInt64) (by rw [w32]; exact hT.1) (by rw [w32]; exact hr.1) a1
  have f2 := fit2 (t := t + dT.toInt64 + r.toInt64 + 1000) (d := dF.toInt64) (r := u.toInt64) (by rw [w32]; exact hF.1) (by rw [w32]; exact hu.1) b1
  unfold xO3 xO2 xJ2 xO1 xJ1 R_find_O R_noteClocks_O R_noteClocks_J R_noteTimes_O R_noteTimes_J swO
  simp only [ovf_0, suO_0, dfO_0, okS_fit, okM_fit, upj, a2, b2, Nat.reduceEqDiff, if_true, if_false, ← Int64.add_assoc] at f1 f2 ⊢
  rw [f1, f2]
  simp only [and_assoc, true_and]
theorem xJ_v {σ : HS} {t : Int64} {dT dF r u : Int32} {m w : Int64} (hT : 0 ≤ dT.toInt ∧ dT.toInt ≤ 1000000000) (hF : 0 ≤ dF.toInt ∧ dF.toInt ≤ 1000000000) (hr : 0 ≤ r.toInt ∧ r.toInt ≤ 1000000) (hu : 0 ≤ u.toInt ∧ u.toInt ≤ 1000000) : xJ3 σ t (dT + r) (dF + u) m w r u 1 = swF t dT dF w m r u ∧ xJ3 σ t (dT + r) (dF + u) m w r u 2 = swD t dT dF w m r u ∧ xJ3 σ t (dT + r) (dF + u) m w r u 3 = swN t dT dF w m r u := by
  obtain ⟨a1, a2⟩ := dr_add hT hr
  obtain ⟨b1, b2⟩ := dr_add hF hu
  unfold xJ3 xO2 xJ2 xO1 xJ1 R_find_J R_noteClocks_J R_noteTimes_J swF swD swN
  simp only [upj, a2, b2, Nat.reduceEqDiff, if_true, if_false, ← Int64.add_assoc]
  refine ⟨?_, ?_, ?_⟩ <;> trivial
