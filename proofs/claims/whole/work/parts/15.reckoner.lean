/-- the reckoner's numbers -/
def rk (σ : HS) (r : Nat) (ov : Int32) (js : Nat → Int64) : HS := (σ.1, σ.2.1, fun q a k => if q = 4 ∧ a = r ∧ k = 0 then ov else σ.2.2.1 q a k, fun q a k => if q = 4 ∧ a = r then js k else σ.2.2.2.1 q a k, σ.2.2.2.2)
def upj (js : Nat → Int64) (k : Nat) (v : Int64) : Nat → Int64 := fun j => if j = k then v else js j
noncomputable def ovf (x : Int32) (p : Prop) : Int32 := @ite _ p (Classical.propDecidable p) x 1
theorem ovf_01 {x : Int32} {p : Prop} (h : x = 0 ∨ x = 1) : ovf x p = 0 ∨ ovf x p = 1 := by
  unfold ovf
  split
  · exact h
  · exact Or.inr rfl
theorem rk_self {σ : HS} {r : Nat} : rk σ r (hI σ 4 r 0) (hJ σ 4 r) = σ := by
  refine hs_ext rfl rfl (fun q a k => ?_) (fun q a k => ?_) (fun _ _ _ => rfl)
  · show (if q = 4 ∧ a = r ∧ k = 0 then hI σ 4 r 0 else hI σ q a k) = hI σ q a k
    split
    · rename_i h; rw [h.1, h.2.1, h.2.2]
    · rfl
  · show (if q = 4 ∧ a = r then hJ σ 4 r k else hJ σ q a k) = hJ σ q a k
    split
    · rename_i h; rw [h.1, h.2]
    · rfl
theorem rk_I {σ : HS} {r : Nat} {ov v : Int32} {js : Nat → Int64} : sI (rk σ r ov js) 4 r 0 v = rk σ r v js := by
  refine hs_ext rfl rfl (fun q a k => ?_) (fun _ _ _ => rfl) (fun _ _ _ => rfl)
  rw [I_sI]
  show (if _ then v else if q = 4 ∧ a = r ∧ k = 0 then ov else hI σ q a k) = (if q = 4 ∧ a = r ∧ k = 0 then v else hI σ q a k)
  split <;> rfl
theorem rk_J {σ : HS} {r k : Nat} {ov : Int32} {v : Int64} {js : Nat → Int64} : sJ (rk σ r ov js) 4 r k v = rk σ r ov (upj js k v) := by
  refine hs_ext rfl rfl (fun _ _ _ => rfl) (fun q a j => ?_) (fun _ _ _ => rfl)
  rw [J_sJ]
  show (if q = 4 ∧ a = r ∧ j = k then v else if q = 4 ∧ a = r then js j else hJ σ q a j) = (if q = 4 ∧ a = r then (if j = k then v else js j) else hJ σ q a j)
  by_cases h : q = 4 ∧ a = r
  · by_cases h2 : j = k
    · simp [h, h2]
    · simp [h, h2]
  · have h' : ¬ (q = 4 ∧ a = r ∧ j = k) := fun z => h ⟨z.1, z.2.1⟩
    simp [h, h']
theorem rk_ov {σ : HS} {r : Nat} {ov : Int32} {p : Prop} {js : Nat → Int64} : ovS (rk σ r ov js) r p = rk σ r (ovf ov p) js := by
  unfold ovS ovf
  by_cases h : p
  · rw [if_pos h, if_pos h]
  · rw [if_neg h, if_neg h, rk_I]
theorem J_rk {σ : HS} {r k : Nat} {ov : Int32} {js : Nat → Int64} : hJ (rk σ r ov js) 4 r k = js k := by
  show (if 4 = 4 ∧ r = r then js k else hJ σ 4 r k) = js k
  rw [if_pos ⟨rfl, rfl⟩]
theorem I_rk {σ : HS} {r : Nat} {ov : Int32} {js : Nat → Int64} : hI (rk σ r ov js) 4 r 0 = ov := by
  show (if 4 = 4 ∧ r = r ∧ 0 = 0 then ov else hI σ 4 r 0) = ov
  rw [if_pos ⟨rfl, rfl, rfl⟩]
theorem ct_plus_rk {l : Launch} (hl0 : l.stackTraces = false) {G : LG} {σ : HS} {r : Nat} {ov : Int32} {js : Nat → Int64} {a b : Int64} : Ct l G m_R_plus [.ref (4 + 16 * r), .long a, .long b] (rk σ r ov js) (qd (.inr (some (.long (a + b)))) (rk σ r (ovf ov (okS a b)) js)) := by
  have h := ct_R_plus (l := l) (G := G) hl0 (σ := rk σ r ov js) (r := r) (a := a) (b := b)
  rw [rk_ov] at h
  exact h
theorem ct_minus_rk {l : Launch} (hl0 : l.stackTraces = false) {G : LG} {σ : HS} {r : Nat} {ov : Int32} {js : Nat → Int64} {a b : Int64} : Ct l G m_R_minus [.ref (4 + 16 * r), .long a, .long b] (rk σ r ov js) (qd (.inr (some (.long (a - b)))) (rk σ r (ovf ov (okM a b)) js)) := by
  have h := ct_R_minus (l := l) (G := G) hl0 (σ := rk σ r ov js) (r := r) (a := a) (b := b)
  rw [rk_ov] at h
  exact h
noncomputable def R_noteTimes_O (ov : Int32) (js : Nat → Int64) (t : Int64) (a b : Int32) : Int32 := ovf (ovf (ovf (0) (okS (t) ((a).toInt64))) (okS ((t) + ((a).toInt64)) (1000))) (okS (((t) + ((a).toInt64)) + (1000)) ((b).toInt64))
def R_noteTimes_J (ov : Int32) (js : Nat → Int64) (t : Int64) (a b : Int32) : Nat → Int64 := upj (upj (upj (upj (js) 4 (t)) 5 ((t) + ((a).toInt64))) 6 (((t) + ((a).toInt64)) + (1000))) 7 ((((t) + ((a).toInt64)) + (1000)) + ((b).toInt64))
set_option maxHeartbeats 4000000 in
theorem ct_R_noteTimes {l : Launch} (hl0 : l.stackTraces = false) {G : LG} {σ : HS} {r : Nat} {ov : Int32} {js : Nat → Int64} {t : Int64} {a b : Int32}  : Ct l G m_R_noteTimes [.ref (4 + 16 * r), .long (t), .int (a), .int (b)] (rk σ r ov js) (qd (.inr none) (rk σ r (R_noteTimes_O ov js t a b) (R_noteTimes_J ov js t a b))) := by
  refine Ct.of hl0 rfl rfl (Nat.le_of_ble_eq_true rfl) ?_
  show Ex l G m_R_noteTimes (pmV G m_R_noteTimes (qd (.inr none) (rk σ r (R_noteTimes_O ov js t a b) (R_noteTimes_J ov js t a b)))) 0 [(0, .ref (4 + 16 * r)), (1, .long (t)), (3, .int (a)), (4, .int (b))] [] (rk σ r ov js) 0 0
  refine e_aload_n d_R_noteTimes_0 rfl rfl ?_
  refine e_iconst (v := 0) d_R_noteTimes_1 (by decide) ?_
  refine p_R_9 (by first | exact Or.inl rfl | exact Or.inr rfl) rfl d_R_noteTimes_2 ?_
  rw [rk_I]
  refine e_aload_n d_R_noteTimes_5 rfl rfl ?_
  refine e_lload_n d_R_noteTimes_6 rfl rfl ?_
  refine p_R_15 rfl d_R_noteTimes_7 ?_
  rw [rk_J]
  refine e_aload_n d_R_noteTimes_10 rfl rfl ?_
  refine e_aload_n d_R_noteTimes_11 rfl rfl ?_
  refine e_aload_n d_R_noteTimes_12 rfl rfl ?_
  refine g_R_15 rfl d_R_noteTimes_13 ?_
  rw [show hJ (rk σ r (0) (upj (js) 4 (t))) 4 (r) 4 = t from by simp [J_rk, upj]]
  refine e_iload_n d_R_noteTimes_16 rfl rfl ?_
  refine e_i2l d_R_noteTimes_17 ?_
  refine e_callVd (v := some (.long ((t) + ((a).toInt64)))) (σ' := rk σ r (ovf (0) (okS (t) ((a).toInt64))) (upj (js) 4 (t))) (q := 4) (a := r) (As := [.long (t), .long ((a).toInt64)]) (st := [.ref (4 + 16 * r)]) 0 0 d_R_noteTimes_18 cb_R_noteTimes_19 iv_R_plus rfl ⟨by decide, rfl⟩ rfl (Nat.le_of_ble_eq_true rfl) (by decide) (by decide) (ct_plus_rk hl0) ?_
  show Ex l G m_R_noteTimes (pmV G m_R_noteTimes (qd (.inr none) (rk σ r (R_noteTimes_O ov js t a b) (R_noteTimes_J ov js t a b)))) 21 [(0, .ref (4 + 16 * r)), (1, .long (t)), (3, .int (a)), (4, .int (b))] [.long ((t) + ((a).toInt64)), .ref (4 + 16 * r)] (rk σ r (ovf (0) (okS (t) ((a).toInt64))) (upj (js) 4 (t))) 0 0
  refine p_R_23 rfl d_R_noteTimes_21 ?_
  rw [rk_J]
  refine e_aload_n d_R_noteTimes_24 rfl rfl ?_
  refine e_aload_n d_R_noteTimes_25 rfl rfl ?_
  refine e_aload_n d_R_noteTimes_26 rfl rfl ?_
  refine g_R_23 rfl d_R_noteTimes_27 ?_
  rw [show hJ (rk σ r (ovf (0) (okS (t) ((a).toInt64))) (upj (upj (js) 4 (t)) 5 ((t) + ((a).toInt64)))) 4 (r) 5 = (t) + ((a).toInt64) from by simp [J_rk, upj]]
  refine e_ldc2 (v := 1000) d_R_noteTimes_30 kc_R_26 ?_
  refine e_callVd (v := some (.long (((t) + ((a).toInt64)) + (1000)))) (σ' := rk σ r (ovf (ovf (0) (okS (t) ((a).toInt64))) (okS ((t) + ((a).toInt64)) (1000))) (upj (upj (js) 4 (t)) 5 ((t) + ((a).toInt64)))) (q := 4) (a := r) (As := [.long ((t) + ((a).toInt64)), .long (1000)]) (st := [.ref (4 + 16 * r)]) 0 0 d_R_noteTimes_33 cb_R_noteTimes_19 iv_R_plus rfl ⟨by decide, rfl⟩ rfl (Nat.le_of_ble_eq_true rfl) (by decide) (by decide) (ct_plus_rk hl0) ?_
  show Ex l G m_R_noteTimes (pmV G m_R_noteTimes (qd (.inr none) (rk σ r (R_noteTimes_O ov js t a b) (R_noteTimes_J ov js t a b)))) 36 [(0, .ref (4 + 16 * r)), (1, .long (t)), (3, .int (a)), (4, .int (b))] [.long (((t) + ((a).toInt64)) + (1000)), .ref (4 + 16 * r)] (rk σ r (ovf (ovf (0) (okS (t) ((a).toInt64))) (okS ((t) + ((a).toInt64)) (1000))) (upj (upj (js) 4 (t)) 5 ((t) + ((a).toInt64)))) 0 0
  refine p_R_28 rfl d_R_noteTimes_36 ?_
  rw [rk_J]
  refine e_aload_n d_R_noteTimes_39 rfl rfl ?_
  refine e_aload_n d_R_noteTimes_40 rfl rfl ?_
  refine e_aload_n d_R_noteTimes_41 rfl rfl ?_
  refine g_R_28 rfl d_R_noteTimes_42 ?_
  rw [show hJ (rk σ r (ovf (ovf (0) (okS (t) ((a).toInt64))) (okS ((t) + ((a).toInt64)) (1000))) (upj (upj (upj (js) 4 (t)) 5 ((t) + ((a).toInt64))) 6 (((t) + ((a).toInt64)) + (1000)))) 4 (r) 6 = ((t) + ((a).toInt64)) + (1000) from by simp [J_rk, upj]]
  refine e_iload d_R_noteTimes_45 rfl ?_
  refine e_i2l d_R_noteTimes_47 ?_
  refine e_callVd (v := some (.long ((((t) + ((a).toInt64)) + (1000)) + ((b).toInt64)))) (σ' := rk σ r (ovf (ovf (ovf (0) (okS (t) ((a).toInt64))) (okS ((t) + ((a).toInt64)) (1000))) (okS (((t) + ((a).toInt64)) + (1000)) ((b).toInt64))) (upj (upj (upj (js) 4 (t)) 5 ((t) + ((a).toInt64))) 6 (((t) + ((a).toInt64)) + (1000)))) (q := 4) (a := r) (As := [.long (((t) + ((a).toInt64)) + (1000)), .long ((b).toInt64)]) (st := [.ref (4 + 16 * r)]) 0 0 d_R_noteTimes_48 cb_R_noteTimes_19 iv_R_plus rfl ⟨by decide, rfl⟩ rfl (Nat.le_of_ble_eq_true rfl) (by decide) (by decide) (ct_plus_rk hl0) ?_
  show Ex l G m_R_noteTimes (pmV G m_R_noteTimes (qd (.inr none) (rk σ r (R_noteTimes_O ov js t a b) (R_noteTimes_J ov js t a b)))) 51 [(0, .ref (4 + 16 * r)), (1, .long (t)), (3, .int (a)), (4, .int (b))] [.long ((((t) + ((a).toInt64)) + (1000)) + ((b).toInt64)), .ref (4 + 16 * r)] (rk σ r (ovf (ovf (ovf (0) (okS (t) ((a).toInt64))) (okS ((t) + ((a).toInt64)) (1000))) (okS (((t) + ((a).toInt64)) + (1000)) ((b).toInt64))) (upj (upj (upj (js) 4 (t)) 5 ((t) + ((a).toInt64))) 6 (((t) + ((a).toInt64)) + (1000)))) 0 0
  refine p_R_31 rfl d_R_noteTimes_51 ?_
  rw [rk_J]
  exact e_vret d_R_noteTimes_54 rfl ⟨rfl, rfl⟩
noncomputable def R_noteClocks_O (ov : Int32) (js : Nat → Int64) (a b : Int64) : Int32 := ovf (ovf (ovf (ovf (ov) (okS (js 4) (a))) (okS (js 5) (b))) (okS (js 6) (b))) (okS (js 7) (a))
def R_noteClocks_J (ov : Int32) (js : Nat → Int64) (a b : Int64) : Nat → Int64 := upj (upj (upj (upj (js) 8 ((js 4) + (a))) 9 ((js 5) + (b))) 10 ((js 6) + (b))) 11 ((js 7) + (a))
set_option maxHeartbeats 4000000 in
theorem ct_R_noteClocks {l : Launch} (hl0 : l.stackTraces = false) {G : LG} {σ : HS} {r : Nat} {ov : Int32} {js : Nat → Int64} {a b : Int64}  : Ct l G m_R_noteClocks [.ref (4 + 16 * r), .long (a), .long (b)] (rk σ r ov js) (qd (.inr none) (rk σ r (R_noteClocks_O ov js a b) (R_noteClocks_J ov js a b))) := by
  refine Ct.of hl0 rfl rfl (Nat.le_of_ble_eq_true rfl) ?_
  show Ex l G m_R_noteClocks (pmV G m_R_noteClocks (qd (.inr none) (rk σ r (R_noteClocks_O ov js a b) (R_noteClocks_J ov js a b)))) 0 [(0, .ref (4 + 16 * r)), (1, .long (a)), (3, .long (b))] [] (rk σ r ov js) 0 0
  refine e_aload_n d_R_noteClocks_0 rfl rfl ?_
  refine e_aload_n d_R_noteClocks_1 rfl rfl ?_
  refine e_aload_n d_R_noteClocks_2 rfl rfl ?_
  refine g_R_15 rfl d_R_noteClocks_3 ?_
  rw [show hJ (rk σ r ov js) 4 (r) 4 = js 4 from by simp [J_rk, upj]]
  refine e_lload_n d_R_noteClocks_6 rfl rfl ?_
  refine e_callVd (v := some (.long ((js 4) + (a)))) (σ' := rk σ r (ovf (ov) (okS (js 4) (a))) (js)) (q := 4) (a := r) (As := [.long (js 4), .long (a)]) (st := [.ref (4 + 16 * r)]) 0 0 d_R_noteClocks_7 cb_R_noteClocks_19 iv_R_plus rfl ⟨by decide, rfl⟩ rfl (Nat.le_of_ble_eq_true rfl) (by decide) (by decide) (ct_plus_rk hl0) ?_
  show Ex l G m_R_noteClocks (pmV G m_R_noteClocks (qd (.inr none) (rk σ r (R_noteClocks_O ov js a b) (R_noteClocks_J ov js a b)))) 10 [(0, .ref (4 + 16 * r)), (1, .long (a)), (3, .long (b))] [.long ((js 4) + (a)), .ref (4 + 16 * r)] (rk σ r (ovf (ov) (okS (js 4) (a))) (js)) 0 0
  refine p_R_34 rfl d_R_noteClocks_10 ?_
  rw [rk_J]
  refine e_aload_n d_R_noteClocks_13 rfl rfl ?_
  refine e_aload_n d_R_noteClocks_14 rfl rfl ?_
  refine e_aload_n d_R_noteClocks_15 rfl rfl ?_
  refine g_R_23 rfl d_R_noteClocks_16 ?_
  rw [show hJ (rk σ r (ovf (ov) (okS (js 4) (a))) (upj (js) 8 ((js 4) + (a)))) 4 (r) 5 = js 5 from by simp [J_rk, upj]]
  refine e_lload_n d_R_noteClocks_19 rfl rfl ?_
  refine e_callVd (v := some (.long ((js 5) + (b)))) (σ' := rk σ r (ovf (ovf (ov) (okS (js 4) (a))) (okS (js 5) (b))) (upj (js) 8 ((js 4) + (a)))) (q := 4) (a := r) (As := [.long (js 5), .long (b)]) (st := [.ref (4 + 16 * r)]) 0 0 d_R_noteClocks_20 cb_R_noteClocks_19 iv_R_plus rfl ⟨by decide, rfl⟩ rfl (Nat.le_of_ble_eq_true rfl) (by decide) (by decide) (ct_plus_rk hl0) ?_
  show Ex l G m_R_noteClocks (pmV G m_R_noteClocks (qd (.inr none) (rk σ r (R_noteClocks_O ov js a b) (R_noteClocks_J ov js a b)))) 23 [(0, .ref (4 + 16 * r)), (1, .long (a)), (3, .long (b))] [.long ((js 5) + (b)), .ref (4 + 16 * r)] (rk σ r (ovf (ovf (ov) (okS (js 4) (a))) (okS (js 5) (b))) (upj (js) 8 ((js 4) + (a)))) 0 0
  refine p_R_37 rfl d_R_noteClocks_23 ?_
  rw [rk_J]
  refine e_aload_n d_R_noteClocks_26 rfl rfl ?_
  refine e_aload_n d_R_noteClocks_27 rfl rfl ?_
  refine e_aload_n d_R_noteClocks_28 rfl rfl ?_
  refine g_R_28 rfl d_R_noteClocks_29 ?_
  rw [show hJ (rk σ r (ovf (ovf (ov) (okS (js 4) (a))) (okS (js 5) (b))) (upj (upj (js) 8 ((js 4) + (a))) 9 ((js 5) + (b)))) 4 (r) 6 = js 6 from by simp [J_rk, upj]]
  refine e_lload_n d_R_noteClocks_32 rfl rfl ?_
  refine e_callVd (v := some (.long ((js 6) + (b)))) (σ' := rk σ r (ovf (ovf (ovf (ov) (okS (js 4) (a))) (okS (js 5) (b))) (okS (js 6) (b))) (upj (upj (js) 8 ((js 4) + (a))) 9 ((js 5) + (b)))) (q := 4) (a := r) (As := [.long (js 6), .long (b)]) (st := [.ref (4 + 16 * r)]) 0 0 d_R_noteClocks_33 cb_R_noteClocks_19 iv_R_plus rfl ⟨by decide, rfl⟩ rfl (Nat.le_of_ble_eq_true rfl) (by decide) (by decide) (ct_plus_rk hl0) ?_
  show Ex l G m_R_noteClocks (pmV G m_R_noteClocks (qd (.inr none) (rk σ r (R_noteClocks_O ov js a b) (R_noteClocks_J ov js a b)))) 36 [(0, .ref (4 + 16 * r)), (1, .long (a)), (3, .long (b))] [.long ((js 6) + (b)), .ref (4 + 16 * r)] (rk σ r (ovf (ovf (ovf (ov) (okS (js 4) (a))) (okS (js 5) (b))) (okS (js 6) (b))) (upj (upj (js) 8 ((js 4) + (a))) 9 ((js 5) + (b)))) 0 0
  refine p_R_40 rfl d_R_noteClocks_36 ?_
  rw [rk_J]
  refine e_aload_n d_R_noteClocks_39 rfl rfl ?_
  refine e_aload_n d_R_noteClocks_40 rfl rfl ?_
  refine e_aload_n d_R_noteClocks_41 rfl rfl ?_
  refine g_R_31 rfl d_R_noteClocks_42 ?_
  rw [show hJ (rk σ r (ovf (ovf (ovf (ov) (okS (js 4) (a))) (okS (js 5) (b))) (okS (js 6) (b))) (upj (upj (upj (js) 8 ((js 4) + (a))) 9 ((js 5) + (b))) 10 ((js 6) + (b)))) 4 (r) 7 = js 7 from by simp [J_rk, upj]]
  refine e_lload_n d_R_noteClocks_45 rfl rfl ?_
  refine e_callVd (v := some (.long ((js 7) + (a)))) (σ' := rk σ r (ovf (ovf (ovf (ovf (ov) (okS (js 4) (a))) (okS (js 5) (b))) (okS (js 6) (b))) (okS (js 7) (a))) (upj (upj (upj (js) 8 ((js 4) + (a))) 9 ((js 5) + (b))) 10 ((js 6) + (b)))) (q := 4) (a := r) (As := [.long (js 7), .long (a)]) (st := [.ref (4 + 16 * r)]) 0 0 d_R_noteClocks_46 cb_R_noteClocks_19 iv_R_plus rfl ⟨by decide, rfl⟩ rfl (Nat.le_of_ble_eq_true rfl) (by decide) (by decide) (ct_plus_rk hl0) ?_
  show Ex l G m_R_noteClocks (pmV G m_R_noteClocks (qd (.inr none) (rk σ r (R_noteClocks_O ov js a b) (R_noteClocks_J ov js a b)))) 49 [(0, .ref (4 + 16 * r)), (1, .long (a)), (3, .long (b))] [.long ((js 7) + (a)), .ref (4 + 16 * r)] (rk σ r (ovf (ovf (ovf (ovf (ov) (okS (js 4) (a))) (okS (js 5) (b))) (okS (js 6) (b))) (okS (js 7) (a))) (upj (upj (upj (js) 8 ((js 4) + (a))) 9 ((js 5) + (b))) 10 ((js 6) + (b)))) 0 0
  refine p_R_43 rfl d_R_noteClocks_49 ?_
  rw [rk_J]
  exact e_vret d_R_noteClocks_52 rfl ⟨rfl, rfl⟩
noncomputable def R_find_O (ov : Int32) (js : Nat → Int64) (f : Int64) (a b : Int32) : Int32 := ovf (ovf (ovf (ovf (ovf (ovf (ovf (ov) (okM (js 9) (js 8))) (okM ((js 9) - (js 8)) ((a).toInt64))) (okM (js 11) (js 10))) (okM ((js 11) - (js 10)) ((b).toInt64))) (okM (((js 9) - (js 8)) - ((a).toInt64)) (((js 11) - (js 10)) - ((b).toInt64)))) (okS (((js 9) - (js 8)) - ((a).toInt64)) (((js 11) - (js 10)) - ((b).toInt64)))) (okM (f) (((((js 9) - (js 8)) - ((a).toInt64)) - (((js 11) - (js 10)) - ((b).toInt64))) / (2)))
def R_find_J (ov : Int32) (js : Nat → Int64) (f : Int64) (a b : Int32) : Nat → Int64 := upj (upj (upj (js) 1 (((((js 9) - (js 8)) - ((a).toInt64)) - (((js 11) - (js 10)) - ((b).toInt64))) / (2))) 2 (((((js 9) - (js 8)) - ((a).toInt64)) + (((js 11) - (js 10)) - ((b).toInt64))) / (2))) 3 ((f) - (((((js 9) - (js 8)) - ((a).toInt64)) - (((js 11) - (js 10)) - ((b).toInt64))) / (2)))
set_option maxHeartbeats 4000000 in
theorem ct_R_find {l : Launch} (hl0 : l.stackTraces = false) {G : LG} {σ : HS} {r : Nat} {ov : Int32} {js : Nat → Int64} {f : Int64} {a b : Int32}  : Ct l G m_R_find [.ref (4 + 16 * r), .long (f), .int (a), .int (b)] (rk σ r ov js) (qd (.inr none) (rk σ r (R_find_O ov js f a b) (R_find_J ov js f a b))) := by
  refine Ct.of hl0 rfl rfl (Nat.le_of_ble_eq_true rfl) ?_
  show Ex l G m_R_find (pmV G m_R_find (qd (.inr none) (rk σ r (R_find_O ov js f a b) (R_find_J ov js f a b)))) 0 [(0, .ref (4 + 16 * r)), (1, .long (f)), (3, .int (a)), (4, .int (b))] [] (rk σ r ov js) 0 0
  refine e_aload_n d_R_find_0 rfl rfl ?_
  refine e_aload_n d_R_find_1 rfl rfl ?_
  refine e_aload_n d_R_find_2 rfl rfl ?_
  refine g_R_37 rfl d_R_find_3 ?_
  rw [show hJ (rk σ r ov js) 4 (r) 9 = js 9 from by simp [J_rk, upj]]
  refine e_aload_n d_R_find_6 rfl rfl ?_
  refine g_R_34 rfl d_R_find_7 ?_
  rw [show hJ (rk σ r ov js) 4 (r) 8 = js 8 from by simp [J_rk, upj]]
  refine e_callVd (v := some (.long ((js 9) - (js 8)))) (σ' := rk σ r (ovf (ov) (okM (js 9) (js 8))) (js)) (q := 4) (a := r) (As := [.long (js 9), .long (js 8)]) (st := [.ref (4 + 16 * r)]) 0 0 d_R_find_10 cb_R_find_46 iv_R_minus rfl ⟨by decide, rfl⟩ rfl (Nat.le_of_ble_eq_true rfl) (by decide) (by decide) (ct_minus_rk hl0) ?_
  show Ex l G m_R_find (pmV G m_R_find (qd (.inr none) (rk σ r (R_find_O ov js f a b) (R_find_J ov js f a b)))) 13 [(0, .ref (4 + 16 * r)), (1, .long (f)), (3, .int (a)), (4, .int (b))] [.long ((js 9) - (js 8)), .ref (4 + 16 * r)] (rk σ r (ovf (ov) (okM (js 9) (js 8))) (js)) 0 0
  refine e_iload_n d_R_find_13 rfl rfl ?_
  refine e_i2l d_R_find_14 ?_
  refine e_callVd (v := some (.long (((js 9) - (js 8)) - ((a).toInt64)))) (σ' := rk σ r (ovf (ovf (ov) (okM (js 9) (js 8))) (okM ((js 9) - (js 8)) ((a).toInt64))) (js)) (q := 4) (a := r) (As := [.long ((js 9) - (js 8)), .long ((a).toInt64)]) (st := []) 0 0 d_R_find_15 cb_R_find_46 iv_R_minus rfl ⟨by decide, rfl⟩ rfl (Nat.le_of_ble_eq_true rfl) (by decide) (by decide) (ct_minus_rk hl0) ?_
  show Ex l G m_R_find (pmV G m_R_find (qd (.inr none) (rk σ r (R_find_O ov js f a b) (R_find_J ov js f a b)))) 18 [(0, .ref (4 + 16 * r)), (1, .long (f)), (3, .int (a)), (4, .int (b))] [.long (((js 9) - (js 8)) - ((a).toInt64))] (rk σ r (ovf (ovf (ov) (okM (js 9) (js 8))) (okM ((js 9) - (js 8)) ((a).toInt64))) (js)) 0 0
  refine e_lstore (lv' := [(5, .long (((js 9) - (js 8)) - ((a).toInt64))), (0, .ref (4 + 16 * r)), (1, .long (f)), (3, .int (a)), (4, .int (b))]) d_R_find_18 (by decide) rfl ?_
  refine e_aload_n d_R_find_20 rfl rfl ?_
  refine e_aload_n d_R_find_21 rfl rfl ?_
  refine e_aload_n d_R_find_22 rfl rfl ?_
  refine g_R_43 rfl d_R_find_23 ?_
  rw [show hJ (rk σ r (ovf (ovf (ov) (okM (js 9) (js 8))) (okM ((js 9) - (js 8)) ((a).toInt64))) (js)) 4 (r) 11 = js 11 from by simp [J_rk, upj]]
  refine e_aload_n d_R_find_26 rfl rfl ?_
  refine g_R_40 rfl d_R_find_27 ?_
  rw [show hJ (rk σ r (ovf (ovf (ov) (okM (js 9) (js 8))) (okM ((js 9) - (js 8)) ((a).toInt64))) (js)) 4 (r) 10 = js 10 from by simp [J_rk, upj]]
  refine e_callVd (v := some (.long ((js 11) - (js 10)))) (σ' := rk σ r (ovf (ovf (ovf (ov) (okM (js 9) (js 8))) (okM ((js 9) - (js 8)) ((a).toInt64))) (okM (js 11) (js 10))) (js)) (q := 4) (a := r) (As := [.long (js 11), .long (js 10)]) (st := [.ref (4 + 16 * r)]) 0 0 d_R_find_30 cb_R_find_46 iv_R_minus rfl ⟨by decide, rfl⟩ rfl (Nat.le_of_ble_eq_true rfl) (by decide) (by decide) (ct_minus_rk hl0) ?_
  show Ex l G m_R_find (pmV G m_R_find (qd (.inr none) (rk σ r (R_find_O ov js f a b) (R_find_J ov js f a b)))) 33 [(5, .long (((js 9) - (js 8)) - ((a).toInt64))), (0, .ref (4 + 16 * r)), (1, .long (f)), (3, .int (a)), (4, .int (b))] [.long ((js 11) - (js 10)), .ref (4 + 16 * r)] (rk σ r (ovf (ovf (ovf (ov) (okM (js 9) (js 8))) (okM ((js 9) - (js 8)) ((a).toInt64))) (okM (js 11) (js 10))) (js)) 0 0
  refine e_iload d_R_find_33 rfl ?_
  refine e_i2l d_R_find_35 ?_
  refine e_callVd (v := some (.long (((js 11) - (js 10)) - ((b).toInt64)))) (σ' := rk σ r (ovf (ovf (ovf (ovf (ov) (okM (js 9) (js 8))) (okM ((js 9) - (js 8)) ((a).toInt64))) (okM (js 11) (js 10))) (okM ((js 11) - (js 10)) ((b).toInt64))) (js)) (q := 4) (a := r) (As := [.long ((js 11) - (js 10)), .long ((b).toInt64)]) (st := []) 0 0 d_R_find_36 cb_R_find_46 iv_R_minus rfl ⟨by decide, rfl⟩ rfl (Nat.le_of_ble_eq_true rfl) (by decide) (by decide) (ct_minus_rk hl0) ?_
  show Ex l G m_R_find (pmV G m_R_find (qd (.inr none) (rk σ r (R_find_O ov js f a b) (R_find_J ov js f a b)))) 39 [(5, .long (((js 9) - (js 8)) - ((a).toInt64))), (0, .ref (4 + 16 * r)), (1, .long (f)), (3, .int (a)), (4, .int (b))] [.long (((js 11) - (js 10)) - ((b).toInt64))] (rk σ r (ovf (ovf (ovf (ovf (ov) (okM (js 9) (js 8))) (okM ((js 9) - (js 8)) ((a).toInt64))) (okM (js 11) (js 10))) (okM ((js 11) - (js 10)) ((b).toInt64))) (js)) 0 0
  refine e_lstore (lv' := [(7, .long (((js 11) - (js 10)) - ((b).toInt64))), (5, .long (((js 9) - (js 8)) - ((a).toInt64))), (0, .ref (4 + 16 * r)), (1, .long (f)), (3, .int (a)), (4, .int (b))]) d_R_find_39 (by decide) rfl ?_
  refine e_aload_n d_R_find_41 rfl rfl ?_
  refine e_aload_n d_R_find_42 rfl rfl ?_
  refine e_lload d_R_find_43 rfl ?_
  refine e_lload d_R_find_45 rfl ?_
  refine e_callVd (v := some (.long ((((js 9) - (js 8)) - ((a).toInt64)) - (((js 11) - (js 10)) - ((b).toInt64))))) (σ' := rk σ r (ovf (ovf (ovf (ovf (ovf (ov) (okM (js 9) (js 8))) (okM ((js 9) - (js 8)) ((a).toInt64))) (okM (js 11) (js 10))) (okM ((js 11) - (js 10)) ((b).toInt64))) (okM (((js 9) - (js 8)) - ((a).toInt64)) (((js 11) - (js 10)) - ((b).toInt64)))) (js)) (q := 4) (a := r) (As := [.long (((js 9) - (js 8)) - ((a).toInt64)), .long (((js 11) - (js 10)) - ((b).toInt64))]) (st := [.ref (4 + 16 * r)]) 0 0 d_R_find_47 cb_R_find_46 iv_R_minus rfl ⟨by decide, rfl⟩ rfl (Nat.le_of_ble_eq_true rfl) (by decide) (by decide) (ct_minus_rk hl0) ?_
  show Ex l G m_R_find (pmV G m_R_find (qd (.inr none) (rk σ r (R_find_O ov js f a b) (R_find_J ov js f a b)))) 50 [(7, .long (((js 11) - (js 10)) - ((b).toInt64))), (5, .long (((js 9) - (js 8)) - ((a).toInt64))), (0, .ref (4 + 16 * r)), (1, .long (f)), (3, .int (a)), (4, .int (b))] [.long ((((js 9) - (js 8)) - ((a).toInt64)) - (((js 11) - (js 10)) - ((b).toInt64))), .ref (4 + 16 * r)] (rk σ r (ovf (ovf (ovf (ovf (ovf (ov) (okM (js 9) (js 8))) (okM ((js 9) - (js 8)) ((a).toInt64))) (okM (js 11) (js 10))) (okM ((js 11) - (js 10)) ((b).toInt64))) (okM (((js 9) - (js 8)) - ((a).toInt64)) (((js 11) - (js 10)) - ((b).toInt64)))) (js)) 0 0
  refine e_ldc2 (v := 2) d_R_find_50 kc_R_49 ?_
  refine e_ldiv d_R_find_53 (by decide) ?_
  refine p_R_51 rfl d_R_find_54 ?_
  rw [rk_J]
  refine e_aload_n d_R_find_57 rfl rfl ?_
  refine e_aload_n d_R_find_58 rfl rfl ?_
  refine e_lload d_R_find_59 rfl ?_
  refine e_lload d_R_find_61 rfl ?_
  refine e_callVd (v := some (.long ((((js 9) - (js 8)) - ((a).toInt64)) + (((js 11) - (js 10)) - ((b).toInt64))))) (σ' := rk σ r (ovf (ovf (ovf (ovf (ovf (ovf (ov) (okM (js 9) (js 8))) (okM ((js 9) - (js 8)) ((a).toInt64))) (okM (js 11) (js 10))) (okM ((js 11) - (js 10)) ((b).toInt64))) (okM (((js 9) - (js 8)) - ((a).toInt64)) (((js 11) - (js 10)) - ((b).toInt64)))) (okS (((js 9) - (js 8)) - ((a).toInt64)) (((js 11) - (js 10)) - ((b).toInt64)))) (upj (js) 1 (((((js 9) - (js 8)) - ((a).toInt64)) - (((js 11) - (js 10)) - ((b).toInt64))) / (2)))) (q := 4) (a := r) (As := [.long (((js 9) - (js 8)) - ((a).toInt64)), .long (((js 11) - (js 10)) - ((b).toInt64))]) (st := [.ref (4 + 16 * r)]) 0 0 d_R_find_63 cb_R_find_19 iv_R_plus rfl ⟨by decide, rfl⟩ rfl (Nat.le_of_ble_eq_true rfl) (by decide) (by decide) (ct_plus_rk hl0) ?_
  show Ex l G m_R_find (pmV G m_R_find (qd (.inr none) (rk σ r (R_find_O ov js f a b) (R_find_J ov js f a b)))) 66 [(7, .long (((js 11) - (js 10)) - ((b).toInt64))), (5, .long (((js 9) - (js 8)) - ((a).toInt64))), (0, .ref (4 + 16 * r)), (1, .long (f)), (3, .int (a)), (4, .int (b))] [.long ((((js 9) - (js 8)) - ((a).toInt64)) + (((js 11) - (js 10)) - ((b).toInt64))), .ref (4 + 16 * r)] (rk σ r (ovf (ovf (ovf (ovf (ovf (ovf (ov) (okM (js 9) (js 8))) (okM ((js 9) - (js 8)) ((a).toInt64))) (okM (js 11) (js 10))) (okM ((js 11) - (js 10)) ((b).toInt64))) (okM (((js 9) - (js 8)) - ((a).toInt64)) (((js 11) - (js 10)) - ((b).toInt64)))) (okS (((js 9) - (js 8)) - ((a).toInt64)) (((js 11) - (js 10)) - ((b).toInt64)))) (upj (js) 1 (((((js 9) - (js 8)) - ((a).toInt64)) - (((js 11) - (js 10)) - ((b).toInt64))) / (2)))) 0 0
  refine e_ldc2 (v := 2) d_R_find_66 kc_R_49 ?_
  refine e_ldiv d_R_find_69 (by decide) ?_
  refine p_R_54 rfl d_R_find_70 ?_
  rw [rk_J]
  refine e_aload_n d_R_find_73 rfl rfl ?_
  refine e_aload_n d_R_find_74 rfl rfl ?_
  refine e_lload_n d_R_find_75 rfl rfl ?_
  refine e_aload_n d_R_find_76 rfl rfl ?_
  refine g_R_51 rfl d_R_find_77 ?_
  rw [show hJ (rk σ r (ovf (ovf (ovf (ovf (ovf (ovf (ov) (okM (js 9) (js 8))) (okM ((js 9) - (js 8)) ((a).toInt64))) (okM (js 11) (js 10))) (okM ((js 11) - (js 10)) ((b).toInt64))) (okM (((js 9) - (js 8)) - ((a).toInt64)) (((js 11) - (js 10)) - ((b).toInt64)))) (okS (((js 9) - (js 8)) - ((a).toInt64)) (((js 11) - (js 10)) - ((b).toInt64)))) (upj (upj (js) 1 (((((js 9) - (js 8)) - ((a).toInt64)) - (((js 11) - (js 10)) - ((b).toInt64))) / (2))) 2 (((((js 9) - (js 8)) - ((a).toInt64)) + (((js 11) - (js 10)) - ((b).toInt64))) / (2)))) 4 (r) 1 = ((((js 9) - (js 8)) - ((a).toInt64)) - (((js 11) - (js 10)) - ((b).toInt64))) / (2) from by simp [J_rk, upj]]
  refine e_callVd (v := some (.long ((f) - (((((js 9) - (js 8)) - ((a).toInt64)) - (((js 11) - (js 10)) - ((b).toInt64))) / (2))))) (σ' := rk σ r (ovf (ovf (ovf (ovf (ovf (ovf (ovf (ov) (okM (js 9) (js 8))) (okM ((js 9) - (js 8)) ((a).toInt64))) (okM (js 11) (js 10))) (okM ((js 11) - (js 10)) ((b).toInt64))) (okM (((js 9) - (js 8)) - ((a).toInt64)) (((js 11) - (js 10)) - ((b).toInt64)))) (okS (((js 9) - (js 8)) - ((a).toInt64)) (((js 11) - (js 10)) - ((b).toInt64)))) (okM (f) (((((js 9) - (js 8)) - ((a).toInt64)) - (((js 11) - (js 10)) - ((b).toInt64))) / (2)))) (upj (upj (js) 1 (((((js 9) - (js 8)) - ((a).toInt64)) - (((js 11) - (js 10)) - ((b).toInt64))) / (2))) 2 (((((js 9) - (js 8)) - ((a).toInt64)) + (((js 11) - (js 10)) - ((b).toInt64))) / (2)))) (q := 4) (a := r) (As := [.long (f), .long (((((js 9) - (js 8)) - ((a).toInt64)) - (((js 11) - (js 10)) - ((b).toInt64))) / (2))]) (st := [.ref (4 + 16 * r)]) 0 0 d_R_find_80 cb_R_find_46 iv_R_minus rfl ⟨by decide, rfl⟩ rfl (Nat.le_of_ble_eq_true rfl) (by decide) (by decide) (ct_minus_rk hl0) ?_
  show Ex l G m_R_find (pmV G m_R_find (qd (.inr none) (rk σ r (R_find_O ov js f a b) (R_find_J ov js f a b)))) 83 [(7, .long (((js 11) - (js 10)) - ((b).toInt64))), (5, .long (((js 9) - (js 8)) - ((a).toInt64))), (0, .ref (4 + 16 * r)), (1, .long (f)), (3, .int (a)), (4, .int (b))] [.long ((f) - (((((js 9) - (js 8)) - ((a).toInt64)) - (((js 11) - (js 10)) - ((b).toInt64))) / (2))), .ref (4 + 16 * r)] (rk σ r (ovf (ovf (ovf (ovf (ovf (ovf (ovf (ov) (okM (js 9) (js 8))) (okM ((js 9) - (js 8)) ((a).toInt64))) (okM (js 11) (js 10))) (okM ((js 11) - (js 10)) ((b).toInt64))) (okM (((js 9) - (js 8)) - ((a).toInt64)) (((js 11) - (js 10)) - ((b).toInt64)))) (okS (((js 9) - (js 8)) - ((a).toInt64)) (((js 11) - (js 10)) - ((b).toInt64)))) (okM (f) (((((js 9) - (js 8)) - ((a).toInt64)) - (((js 11) - (js 10)) - ((b).toInt64))) / (2)))) (upj (upj (js) 1 (((((js 9) - (js 8)) - ((a).toInt64)) - (((js 11) - (js 10)) - ((b).toInt64))) / (2))) 2 (((((js 9) - (js 8)) - ((a).toInt64)) + (((js 11) - (js 10)) - ((b).toInt64))) / (2)))) 0 0
  refine p_R_57 rfl d_R_find_83 ?_
  rw [rk_J]
  exact e_vret d_R_find_86 rfl ⟨rfl, rfl⟩
