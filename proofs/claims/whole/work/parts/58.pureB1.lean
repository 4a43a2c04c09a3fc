theorem cmp_neg {x : Int64} : 0 ≤ lg_cmp x 0 ↔ 0 ≤ x.toInt := by
  unfold lg_cmp
  have e0 : (0 : Int64).toInt = 0 := rfl
  by_cases a : x > 0
  · rw [if_pos a]
    have := Int64.lt_iff_toInt_lt.mp a
    exact ⟨fun _ => by omega, fun _ => by decide⟩
  · rw [if_neg a]
    have ha : ¬ (0 : Int64).toInt < x.toInt := fun z => a (Int64.lt_iff_toInt_lt.mpr z)
    rw [e0] at ha
    by_cases b : x = 0
    · rw [if_pos b, b]; exact ⟨fun _ => by decide, fun _ => by decide⟩
    · rw [if_neg b]
      have hb : x.toInt ≠ 0 := fun z => b (Int64.toInt_inj.mp z)
      exact ⟨fun z => absurd z (by decide), fun z => by omega⟩
theorem sg_neg {x : Int64} : sg0 x = if 0 ≤ x.toInt then 0 else 1 := by
  unfold sg0
  by_cases c : 0 ≤ x.toInt
  · rw [if_pos c, if_pos (cmp_neg.mpr c)]
  · rw [if_neg c, if_neg (fun z => c (cmp_neg.mp z))]
theorem msb64 (x : Int64) : x.toBitVec.msb = decide (x.toInt < 0) := BitVec.msb_eq_toInt
theorem inr64 (x : Int64) : -9223372036854775808 ≤ x.toInt ∧ x.toInt < 9223372036854775808 := ⟨Int64.le_toInt x, Int64.toInt_lt x⟩
theorem add64 (a b : Int64) : (a + b).toInt = a.toInt + b.toInt ∨ (a + b).toInt = a.toInt + b.toInt - 18446744073709551616 ∨ (a + b).toInt = a.toInt + b.toInt + 18446744073709551616 := by
  have h1 := inr64 a
  have h2 := inr64 b
  have h3 : (a + b).toInt = (a.toInt + b.toInt).bmod (2 ^ 64) := Int64.toInt_add a b
  unfold Int.bmod at h3
  simp only at h3
  omega
theorem sub64 (a b : Int64) : (a - b).toInt = a.toInt - b.toInt ∨ (a - b).toInt = a.toInt - b.toInt - 18446744073709551616 ∨ (a - b).toInt = a.toInt - b.toInt + 18446744073709551616 := by
  have h1 := inr64 a
  have h2 := inr64 b
  have h3 : (a - b).toInt = (a.toInt - b.toInt).bmod (2 ^ 64) := Int64.toInt_sub a b
  unfold Int.bmod at h3
  simp only at h3
  omega
def fitS (a b : Int64) : Prop := -9223372036854775808 ≤ a.toInt + b.toInt ∧ a.toInt + b.toInt < 9223372036854775808
def fitM (a b : Int64) : Prop := -9223372036854775808 ≤ a.toInt - b.toInt ∧ a.toInt - b.toInt < 9223372036854775808
theorem okS_fit {a b : Int64} : okS a b ↔ fitS a b := by
  unfold okS fitS
  have h1 := inr64 a
  have h2 := inr64 b
  have h3 := inr64 (a + b)
  have h4 := add64 a b
  have key : ((a ^^^ (a + b)) &&& (b ^^^ (a + b))).toBitVec.msb = ((decide (a.toInt < 0) ^^ decide ((a + b).toInt < 0)) && (decide (b.toInt < 0) ^^ decide ((a + b).toInt < 0))) := by
    rw [Int64.toBitVec_and, Int64.toBitVec_xor, Int64.toBitVec_xor, BitVec.msb_and, BitVec.msb_xor, BitVec.msb_xor, msb64, msb64, msb64]
  rw [msb64] at key
  rw [cmp_neg]
  generalize ((a ^^^ (a + b)) &&& (b ^^^ (a + b))).toInt = z at key ⊢
  generalize (a + b).toInt = s at *
  by_cases ca : a.toInt < 0 <;> by_cases cb : b.toInt < 0 <;> by_cases cs : s < 0 <;> by_cases cz : z < 0 <;> simp [ca, cb, cs, cz] at key <;> omega
theorem okM_fit {a b : Int64} : okM a b ↔ fitM a b := by
  unfold okM fitM
  have h1 := inr64 a
  have h2 := inr64 b
  have h3 := inr64 (a - b)
  have h4 := sub64 a b
  have key : ((a ^^^ b) &&& (a ^^^ (a - b))).toBitVec.msb = ((decide (a.toInt < 0) ^^ decide (b.toInt < 0)) && (decide (a.toInt < 0) ^^ decide ((a - b).toInt < 0))) := by
    rw [Int64.toBitVec_and, Int64.toBitVec_xor, Int64.toBitVec_xor, BitVec.msb_and, BitVec.msb_xor, BitVec.msb_xor, msb64, msb64, msb64]
  rw [msb64] at key
  rw [cmp_neg]
  generalize ((a ^^^ b) &&& (a ^^^ (a - b))).toInt = z at key ⊢
  generalize (a - b).toInt = s at *
  by_cases ca : a.toInt < 0 <;> by_cases cb : b.toInt < 0 <;> by_cases cs : s < 0 <;> by_cases cz : z < 0 <;> simp [ca, cb, cs, cz] at key <;> omega
theorem suO_0 {ov : Int32} {a b : Int64} : suO ov a b = 0 ↔ ov = 0 ∧ fitS a b := by
  unfold suO fitS
  rw [sg_neg, sg_neg, sg_neg]
  have h1 := inr64 a
  have h2 := inr64 b
  have h3 := inr64 (a + b)
  have h4 := add64 a b
  generalize (a + b).toInt = s at *
  by_cases co : ov = 0
  · by_cases ca : 0 ≤ a.toInt <;> by_cases cb : 0 ≤ b.toInt <;> by_cases cs : 0 ≤ s <;> simp [co, ca, cb, cs] <;> omega
  · simp [co]
theorem dfO_0 {ov : Int32} {a b : Int64} : dfO ov a b = 0 ↔ ov = 0 ∧ fitM a b := by
  unfold dfO fitM
  rw [sg_neg, sg_neg, sg_neg]
  have h1 := inr64 a
  have h2 := inr64 b
  have h3 := inr64 (a - b)
  have h4 := sub64 a b
  generalize (a - b).toInt = s at *
  by_cases co : ov = 0
  · by_cases ca : 0 ≤ a.toInt <;> by_cases cb : 0 ≤ b.toInt <;> by_cases cs : 0 ≤ s <;> simp [co, ca, cb, cs] <;> omega
  · simp [co]
theorem ovf_0 {ov : Int32} {p : Prop} : ovf ov p = 0 ↔ ov = 0 ∧ p := by
  unfold ovf
  by_cases c : p
  · rw [if_pos c]; exact ⟨fun z => ⟨z, c⟩, fun z => z.1⟩
  · rw [if_neg c]; exact ⟨fun z => absurd z (by decide), fun z => absurd z.2 c⟩
/-- two small steps are one -/
theorem fit2 {t d r e : Int64} (hd : 0 ≤ d.toInt) (hr : 0 ≤ r.toInt) (he : e.toInt = d.toInt + r.toInt) : fitS t e ↔ fitS t d ∧ fitS (t + d) r := by
  unfold fitS
  have h1 := inr64 t
  have h3 := inr64 (t + d)
  have h4 := add64 t d
  rw [he]
  constructor
  · intro h
    refine ⟨by omega, ?_⟩
    have : (t + d).toInt = t.toInt + d.toInt := by omega
    omega
  · intro h
    have : (t + d).toInt = t.toInt + d.toInt := by omega
    omega
