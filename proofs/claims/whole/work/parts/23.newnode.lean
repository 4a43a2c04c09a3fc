theorem piS_at {σ : HS} {p d : Nat} {o u : Int32} : hR (piS σ p o u d) 1 p 2 = some (0 + 16 * d) ∧ hR (piS σ p o u d) 1 p 3 = some (0 + 16 * (d + 1)) ∧ hR (piS σ p o u d) 1 p 7 = none ∧ hI (piS σ p o u d) 1 p 0 = o ∧ hI (piS σ p o u d) 1 p 1 = u ∧ hI (piS σ p o u d) 1 p 4 = 0 ∧ hI (piS σ p o u d) 1 p 5 = 0 ∧ hI (piS σ p o u d) 1 p 6 = 0 := by
  unfold piS
  simp [R_sI, R_sR, R_nw, I_sI, I_sR, I_nw]
/-- objects that were there are as they were -/
def olds (σ τ : HS) (q a : Nat) : Prop := (∀ k, hI τ q a k = hI σ q a k) ∧ (∀ k, hJ τ q a k = hJ σ q a k) ∧ (∀ k, hR τ q a k = hR σ q a k) ∧ hl τ q a = hl σ q a
theorem olds.trans {σ τ υ : HS} {q a : Nat} (h : olds σ τ q a) (h' : olds τ υ q a) : olds σ υ q a := ⟨fun k => (h'.1 k).trans (h.1 k), fun k => (h'.2.1 k).trans (h.2.1 k), fun k => (h'.2.2.1 k).trans (h.2.2.1 k), h'.2.2.2.trans h.2.2.2⟩
theorem olds.onw {σ : HS} {q a q' n : Nat} (h : a < hn σ q) : olds σ (nw σ q' n) q a := by
  have h' : ¬ (q = q' ∧ a = hn σ q') := fun z => by obtain ⟨z1, z2⟩ := z; subst z1; omega
  exact ⟨fun k => by rw [I_nw, if_neg h'], fun k => by rw [J_nw, if_neg h'], fun k => by rw [R_nw, if_neg h'], by rw [l_nw, if_neg h']⟩
theorem olds.oI {σ : HS} {q a q' a' k' : Nat} {v : Int32} (h : ¬ (q = q' ∧ a = a')) : olds σ (sI σ q' a' k' v) q a := ⟨fun k => by rw [I_sI, if_neg (fun z => h ⟨z.1, z.2.1⟩)], fun _ => rfl, fun _ => rfl, rfl⟩
theorem olds.oR {σ : HS} {q a q' a' k' : Nat} {v : Option Nat} (h : ¬ (q = q' ∧ a = a')) : olds σ (sR σ q' a' k' v) q a := ⟨fun _ => rfl, fun _ => rfl, fun k => by rw [R_sR, if_neg (fun z => h ⟨z.1, z.2.1⟩)], rfl⟩
theorem olds.oJ {σ : HS} {q a q' a' k' : Nat} {v : Int64} (h : ¬ (q = q' ∧ a = a')) : olds σ (sJ σ q' a' k' v) q a := ⟨fun _ => rfl, fun k => by rw [J_sJ, if_neg (fun z => h ⟨z.1, z.2.1⟩)], fun _ => rfl, rfl⟩
theorem olds.opi {σ : HS} {p d q a : Nat} {o u : Int32} (h : a < hn σ q) (h1 : ¬ (q = 1 ∧ a = p)) : olds σ (piS σ p o u d) q a := by
  have h' : ∀ x k : Nat, ¬ (q = 1 ∧ a = p ∧ k = x) := fun x k z => h1 ⟨z.1, z.2.1⟩
  have ha : ¬ (q = 0 ∧ a = hn σ 0) := fun z => by obtain ⟨z1, z2⟩ := z; subst z1; omega
  have hb : ¬ (q = 0 ∧ a = hn σ 0 + 1) := fun z => by obtain ⟨z1, z2⟩ := z; subst z1; omega
  refine ⟨fun k => ?_, fun k => ?_, fun k => ?_, ?_⟩ <;> unfold piS <;> simp [I_sI, I_sR, I_nw, J_sI, J_sR, J_nw, R_sI, R_sR, R_nw, l_sI, l_sR, l_nw, n_sI, n_sR, n_nw, h', ha, hb]
theorem olds.oni {σ : HS} {i q a : Nat} {v : Int32} {off : Int64} (hp : hn σ 1 = 4 * i) (ha : hn σ 12 = i) (h : a < hn σ q) (h2 : ¬ (q = 2 ∧ a = i)) : ∀ j, olds σ (niS σ i v off j) q a
  | 0 => by
    have h' : ∀ x k : Nat, ¬ (q = 2 ∧ a = i ∧ k = x) := fun x k z => h2 ⟨z.1, z.2.1⟩
    have hb : ¬ (q = 0 ∧ a = hn σ 0) := fun z => by obtain ⟨z1, z2⟩ := z; subst z1; omega
    have hc : ¬ (q = 12 ∧ a = hn σ 12) := fun z => by obtain ⟨z1, z2⟩ := z; subst z1; omega
    refine ⟨fun k => ?_, fun k => ?_, fun k => ?_, ?_⟩ <;> unfold niS <;> simp [I_sI, I_sJ, I_sR, I_nw, J_sI, J_sJ, J_sR, J_nw, R_sI, R_sJ, R_sR, R_nw, l_sI, l_sJ, l_sR, l_nw, n_sI, n_sJ, n_sR, n_nw, h', hb, hc]
  | j + 1 => by
    have e := olds.oni (v := v) (off := off) hp ha h h2 j
    have hq : a < hn (niS σ i v off j) q := by
      rw [niS_n]
      by_cases h0 : q = 0
      · subst h0; simp; omega
      · by_cases h1 : q = 1
        · subst h1; simp; omega
        · by_cases h12 : q = 12
          · subst h12; simp; omega
          · simp [h0, h1, h12]; exact h
    have hq2 : a < hn (nw (niS σ i v off j) 1 0) q := by
      rw [n_nw]; split
      · rename_i z; subst z; omega
      · exact hq
    show olds σ (sR (piS (nw (niS σ i v off j) 1 0) _ _ _ _) 12 i j _) q a
    refine ((e.trans (olds.onw hq)).trans (olds.opi hq2 ?_)).trans (olds.oR ?_)
    · intro z; obtain ⟨z1, z2⟩ := z; subst z1; omega
    · intro z; obtain ⟨z1, z2⟩ := z; subst z1; omega
theorem niS_node {σ : HS} {i : Nat} {v : Int32} {off : Int64} : ∀ j, hR (niS σ i v off j) 2 i 1 = some (0 + 16 * (9 * i)) ∧ hR (niS σ i v off j) 2 i 2 = some (12 + 16 * i) ∧ hR (niS σ i v off j) 2 i 3 = some (0 + 16 * (9 * i)) ∧ hI (niS σ i v off j) 2 i 0 = v ∧ hJ (niS σ i v off j) 2 i 4 = off ∧ hJ (niS σ i v off j) 2 i 5 = -1
  | 0 => by
    unfold niS
    simp [I_sI, I_sJ, I_sR, I_nw, J_sI, J_sJ, J_sR, J_nw, R_sI, R_sJ, R_sR, R_nw]
  | j + 1 => by
    have h := niS_node (σ := σ) (i := i) (v := v) (off := off) j
    have e : ∀ k, hR (niS σ i v off (j + 1)) 2 i k = hR (niS σ i v off j) 2 i k := fun k => by
      show hR (sR (piS (nw (niS σ i v off j) 1 0) _ _ _ _) 12 i j _) 2 i k = _
      rw [R_sR, if_neg (by omega), piS_R (by decide) (by omega), R_nw, if_neg (by omega)]
    have e2 : ∀ k, hI (niS σ i v off (j + 1)) 2 i k = hI (niS σ i v off j) 2 i k := fun k => by
      show hI (sR (piS (nw (niS σ i v off j) 1 0) _ _ _ _) 12 i j _) 2 i k = _
      rw [I_sR, piS_I (by decide) (by omega), I_nw, if_neg (by omega)]
    have e3 : ∀ k, hJ (niS σ i v off (j + 1)) 2 i k = hJ (niS σ i v off j) 2 i k := fun k => by
      show hJ (sR (piS (nw (niS σ i v off j) 1 0) _ _ _ _) 12 i j _) 2 i k = _
      rw [J_sR, piS_J (by decide), J_nw, if_neg (by omega)]
    rw [e, e, e, e2, e3, e3]
    exact h
theorem niS_port {σ : HS} {i : Nat} {v : Int32} {off : Int64} (hp : hn σ 1 = 4 * i) : ∀ j x, x < j → hR (niS σ i v off j) 12 i x = some (1 + 16 * (4 * i + x)) ∧ hR (niS σ i v off j) 1 (4 * i + x) 2 = some (0 + 16 * (9 * i + 1 + 2 * x)) ∧ hR (niS σ i v off j) 1 (4 * i + x) 3 = some (0 + 16 * (9 * i + 2 + 2 * x)) ∧ hR (niS σ i v off j) 1 (4 * i + x) 7 = none ∧ hI (niS σ i v off j) 1 (4 * i + x) 0 = v ∧ hI (niS σ i v off j) 1 (4 * i + x) 1 = nI x ∧ hI (niS σ i v off j) 1 (4 * i + x) 4 = 0 ∧ hI (niS σ i v off j) 1 (4 * i + x) 5 = 0 ∧ hI (niS σ i v off j) 1 (4 * i + x) 6 = 0
  | 0, x, h => by omega
  | j + 1, x, h => by
    have hnn : hn (niS σ i v off j) 1 = 4 * i + j := by rw [niS_n]; simp [hp]
    have eR : ∀ k, hR (niS σ i v off (j + 1)) 1 (4 * i + x) k = hR (piS (nw (niS σ i v off j) 1 0) (4 * i + j) v (nI j) (9 * i + 1 + 2 * j)) 1 (4 * i + x) k := fun k => by
      show hR (sR _ 12 i j _) 1 (4 * i + x) k = _
      rw [R_sR, if_neg (by omega)]
    have eI : ∀ k, hI (niS σ i v off (j + 1)) 1 (4 * i + x) k = hI (piS (nw (niS σ i v off j) 1 0) (4 * i + j) v (nI j) (9 * i + 1 + 2 * j)) 1 (4 * i + x) k := fun k => rfl
    have eP : hR (niS σ i v off (j + 1)) 12 i x = if x = j then some (1 + 16 * (4 * i + j)) else hR (niS σ i v off j) 12 i x := by
      show hR (sR (piS (nw (niS σ i v off j) 1 0) _ _ _ _) 12 i j _) 12 i x = _
      rw [R_sR, piS_R (by decide) (by omega), R_nw, if_neg (show ¬ (12 = 1 ∧ i = hn (niS σ i v off j) 1) by omega)]
      by_cases e : x = j
      · simp [e]
      · simp [e]
    rw [eR, eR, eR, eI, eI, eI, eI, eI, eP]
    by_cases e : x = j
    · subst e
      obtain ⟨a1, a2, a3, a4, a5, a6, a7, a8⟩ := piS_at (σ := nw (niS σ i v off x) 1 0) (p := 4 * i + x) (d := 9 * i + 1 + 2 * x) (o := v) (u := nI x)
      refine ⟨by simp, a1, ?_, a3, a4, a5, a6, a7, a8⟩
      rw [a2]; congr 1; omega
    · have ih := niS_port (v := v) (off := off) hp j x (by omega)
      have o1 : olds (niS σ i v off j) (nw (niS σ i v off j) 1 0) 1 (4 * i + x) := olds.onw (by rw [hnn]; omega)
      have o2 : olds (nw (niS σ i v off j) 1 0) (piS (nw (niS σ i v off j) 1 0) (4 * i + j) v (nI j) (9 * i + 1 + 2 * j)) 1 (4 * i + x) := olds.opi (by rw [n_nw, if_pos rfl, hnn]; omega) (by omega)
      have o3 := o1.trans o2
      rw [if_neg e, o3.2.2.1, o3.2.2.1, o3.2.2.1, o3.1, o3.1, o3.1, o3.1, o3.1]
      exact ih
/-- how many objects of each kind a tree of n nodes and L links has -/
def CN (σ : HS) (n L : Nat) : Prop := hn σ 0 = 9 * n ∧ hn σ 1 = 4 * n ∧ hn σ 2 = n ∧ hn σ 3 = L ∧ hn σ 12 = n
/-- the tree behind a node made -/
def mk1 (σ : HS) (n : Nat) (off : Int64) : HS := niS (nw σ 2 0) n (nI n) off 4
def mk2 (σ : HS) (n : Nat) (i p k e : Int32) (off : Int64) : HS := setOwnS (mk1 σ n off) (9 * n) i p k e
def mkN (σ : HS) (n : Nat) (i p k e : Int32) (off : Int64) : HS := sI (sR (fsS (mk2 σ n i p k e off) n 4) 10 0 n (some (2 + 16 * n))) 5 0 3 (nI n + 1)
theorem setOwnS_R {σ : HS} {a : Nat} {i p k e : Int32} : hR (setOwnS σ a i p k e) = hR σ := rfl
theorem setOwnS_l {σ : HS} {a : Nat} {i p k e : Int32} : hl (setOwnS σ a i p k e) = hl σ := rfl
theorem setOwnS_I {σ : HS} {a q b c : Nat} {i p k e : Int32} (h : q ≠ 0) : hI (setOwnS σ a i p k e) q b c = hI σ q b c := by
  unfold setOwnS
  simp [I_sI, h]
theorem mk2_NS {σ : HS} {n L : Nat} {i p k e : Int32} {off : Int64} (hC : CN σ n L) : NS (mk2 σ n i p k e off) n := by
  have hp : hn (nw σ 2 0) 1 = 4 * n := by rw [n_nw, if_neg (by decide)]; exact hC.2.1
  have ha : hn (nw σ 2 0) 12 = n := by rw [n_nw, if_neg (by decide)]; exact hC.2.2.2.2
  have h := niS_node (σ := nw σ 2 0) (i := n) (v := nI n) (off := off) 4
  unfold mk2
  refine ⟨by rw [setOwnS_R]; exact h.1, by rw [setOwnS_R]; exact h.2.1, by rw [setOwnS_l]; exact niS_l ha 4, fun j hj => ?_⟩
  rw [setOwnS_R]
  have h2 := niS_port (σ := nw σ 2 0) (i := n) (v := nI n) (off := off) hp 4 j hj
  exact ⟨h2.1, h2.2.1, h2.2.2.1⟩
theorem mk2_lk {σ : HS} {n L : Nat} {i p k e : Int32} {off : Int64} (hC : CN σ n L) : ∀ j, j < 4 → hR (mk2 σ n i p k e off) 1 (4 * n + j) 7 = none := fun j hj => by
  have hp : hn (nw σ 2 0) 1 = 4 * n := by rw [n_nw, if_neg (by decide)]; exact hC.2.1
  unfold mk2
  rw [setOwnS_R]
  exact (niS_port (σ := nw σ 2 0) (i := n) (v := nI n) (off := off) hp 4 j hj).2.2.2.1
theorem mk2_old {σ : HS} {n L : Nat} {i p k e : Int32} {off : Int64} (hC : CN σ n L) {q a : Nat} (hq : q ≠ 0) (h : a < hn σ q) : olds σ (mk2 σ n i p k e off) q a := by
  have hp : hn (nw σ 2 0) 1 = 4 * n := by rw [n_nw, if_neg (by decide)]; exact hC.2.1
  have ha : hn (nw σ 2 0) 12 = n := by rw [n_nw, if_neg (by decide)]; exact hC.2.2.2.2
  have h1 : a < hn (nw σ 2 0) q := by
    rw [n_nw]; split
    · rename_i z; subst z; omega
    · exact h
  have h2 : ¬ (q = 2 ∧ a = n) := fun z => by obtain ⟨z1, z2⟩ := z; subst z1; have := hC.2.2.1; omega
  have o1 : olds σ (nw σ 2 0) q a := olds.onw h
  have o2 : olds (nw σ 2 0) (mk1 σ n off) q a := olds.oni hp ha h1 h2 4
  have o3 : olds (mk1 σ n off) (mk2 σ n i p k e off) q a := ⟨fun c => setOwnS_I hq, fun _ => rfl, fun _ => rfl, rfl⟩
  exact (o1.trans o2).trans o3
set_option maxHeartbeats 4000000 in
set_option maxRecDepth 100000 in
theorem ct_T_node_x {l : Launch} (hl0 : l.stackTraces = false) {G : LG} {σ : HS} {i p k e : Int32} {off : Int64} (hx : wiV i 9999 = 0 ∨ wiV p 255 = 0 ∨ wiV k 255 = 0 ∨ wiV e 255 = 0) : Ct l G m_T_node [.ref (5 + 16 * 0), .int (i), .int (p), .int (k), .int (e), .long (off)] (σ) (qd (.inl 0) σ) := by
  refine Ct.of hl0 rfl rfl (Nat.le_of_ble_eq_true rfl) ?_
  show Ex l G m_T_node (pmV G m_T_node (qd (.inl 0) σ)) 0 [(0, .ref (5 + 16 * 0)), (1, .int (i)), (2, .int (p)), (3, .int (k)), (4, .int (e)), (5, .long (off))] [] (σ) 16 120
  refine e_iload_n d_T_node_0 rfl rfl ?_
  refine e_sipush (v := 9999) d_T_node_1 (by decide) ?_
  refine e_callSd (v := some (.int (wiV (i) (9999)))) (σ' := σ) (As := [.int (i), .int (9999)]) (st := []) 16 120 d_T_node_4 cb_T_node_39 is_T_isWithin rfl (Nat.le_of_ble_eq_true rfl) (by decide) (by decide) (ct_T_isWithin hl0) ?_
  show Ex l G m_T_node (pmV G m_T_node (qd (.inl 0) σ)) 7 [(0, .ref (5 + 16 * 0)), (1, .int (i)), (2, .int (p)), (3, .int (k)), (4, .int (e)), (5, .long (off))] [.int (wiV (i) (9999))] (σ) 16 120
  refine e_ifeq (tgt := 41) d_T_node_7 (by decide) (fun h7 => ?_) (fun h7 => ?_)
  ·
    exact e_iae rfl d_T_node_41 d_T_node_44 d_T_node_45 d_T_node_47 d_T_node_50 (by decide +kernel) ⟨by decide, Nat.le_of_ble_eq_true rfl⟩ ⟨by decide, by decide⟩ rfl ⟨rfl, rfl⟩
  ·
    refine e_iload_n d_T_node_10 rfl rfl ?_
    refine e_sipush (v := 255) d_T_node_11 (by decide) ?_
    refine e_callSd (v := some (.int (wiV (p) (255)))) (σ' := σ) (As := [.int (p), .int (255)]) (st := []) 16 120 d_T_node_14 cb_T_node_39 is_T_isWithin rfl (Nat.le_of_ble_eq_true rfl) (by decide) (by decide) (ct_T_isWithin hl0) ?_
    show Ex l G m_T_node (pmV G m_T_node (qd (.inl 0) σ)) 17 [(0, .ref (5 + 16 * 0)), (1, .int (i)), (2, .int (p)), (3, .int (k)), (4, .int (e)), (5, .long (off))] [.int (wiV (p) (255))] (σ) 16 120
    refine e_ifeq (tgt := 41) d_T_node_17 (by decide) (fun h17 => ?_) (fun h17 => ?_)
    ·
      exact e_iae rfl d_T_node_41 d_T_node_44 d_T_node_45 d_T_node_47 d_T_node_50 (by decide +kernel) ⟨by decide, Nat.le_of_ble_eq_true rfl⟩ ⟨by decide, by decide⟩ rfl ⟨rfl, rfl⟩
    ·
      refine e_iload_n d_T_node_20 rfl rfl ?_
      refine e_sipush (v := 255) d_T_node_21 (by decide) ?_
      refine e_callSd (v := some (.int (wiV (k) (255)))) (σ' := σ) (As := [.int (k), .int (255)]) (st := []) 16 120 d_T_node_24 cb_T_node_39 is_T_isWithin rfl (Nat.le_of_ble_eq_true rfl) (by decide) (by decide) (ct_T_isWithin hl0) ?_
      show Ex l G m_T_node (pmV G m_T_node (qd (.inl 0) σ)) 27 [(0, .ref (5 + 16 * 0)), (1, .int (i)), (2, .int (p)), (3, .int (k)), (4, .int (e)), (5, .long (off))] [.int (wiV (k) (255))] (σ) 16 120
      refine e_ifeq (tgt := 41) d_T_node_27 (by decide) (fun h27 => ?_) (fun h27 => ?_)
      ·
        exact e_iae rfl d_T_node_41 d_T_node_44 d_T_node_45 d_T_node_47 d_T_node_50 (by decide +kernel) ⟨by decide, Nat.le_of_ble_eq_true rfl⟩ ⟨by decide, by decide⟩ rfl ⟨rfl, rfl⟩
      ·
        refine e_iload d_T_node_30 rfl ?_
        refine e_sipush (v := 255) d_T_node_32 (by decide) ?_
        refine e_callSd (v := some (.int (wiV (e) (255)))) (σ' := σ) (As := [.int (e), .int (255)]) (st := []) 16 120 d_T_node_35 cb_T_node_39 is_T_isWithin rfl (Nat.le_of_ble_eq_true rfl) (by decide) (by decide) (ct_T_isWithin hl0) ?_
        show Ex l G m_T_node (pmV G m_T_node (qd (.inl 0) σ)) 38 [(0, .ref (5 + 16 * 0)), (1, .int (i)), (2, .int (p)), (3, .int (k)), (4, .int (e)), (5, .long (off))] [.int (wiV (e) (255))] (σ) 16 120
        refine e_ifne (tgt := 51) d_T_node_38 (by decide) (fun h38 => absurd h38 (fun z => z (((hx.resolve_left h7).resolve_left h17).resolve_left h27))) (fun h38 => ?_)
        exact e_iae rfl d_T_node_41 d_T_node_44 d_T_node_45 d_T_node_47 d_T_node_50 (by decide +kernel) ⟨by decide, Nat.le_of_ble_eq_true rfl⟩ ⟨by decide, by decide⟩ rfl ⟨rfl, rfl⟩
set_option maxHeartbeats 4000000 in
set_option maxRecDepth 100000 in
theorem ct_T_node_y {l : Launch} (hl0 : l.stackTraces = false) {G : LG} {σ : HS} {i p k e : Int32} {off : Int64} {n L : Nat} (hT : TS σ n L) (hx1 : ¬ wiV i 9999 = 0) (hx2 : ¬ wiV p 255 = 0) (hx3 : ¬ wiV k 255 = 0) (hx4 : ¬ wiV e 255 = 0) (hid : ¬ hiR σ i n 0 = 0) : Ct l G m_T_node [.ref (5 + 16 * 0), .int (i), .int (p), .int (k), .int (e), .long (off)] (σ) (qd (.inl 0) σ) := by
  refine Ct.of hl0 rfl rfl (Nat.le_of_ble_eq_true rfl) ?_
  show Ex l G m_T_node (pmV G m_T_node (qd (.inl 0) σ)) 0 [(0, .ref (5 + 16 * 0)), (1, .int (i)), (2, .int (p)), (3, .int (k)), (4, .int (e)), (5, .long (off))] [] (σ) 16 120
  refine e_iload_n d_T_node_0 rfl rfl ?_
  refine e_sipush (v := 9999) d_T_node_1 (by decide) ?_
  refine e_callSd (v := some (.int (wiV (i) (9999)))) (σ' := σ) (As := [.int (i), .int (9999)]) (st := []) 16 120 d_T_node_4 cb_T_node_39 is_T_isWithin rfl (Nat.le_of_ble_eq_true rfl) (by decide) (by decide) (ct_T_isWithin hl0) ?_
  show Ex l G m_T_node (pmV G m_T_node (qd (.inl 0) σ)) 7 [(0, .ref (5 + 16 * 0)), (1, .int (i)), (2, .int (p)), (3, .int (k)), (4, .int (e)), (5, .long (off))] [.int (wiV (i) (9999))] (σ) 16 120
  refine e_ifeq (tgt := 41) d_T_node_7 (by decide) (fun h7 => absurd h7 hx1) (fun h7 => ?_)
  refine e_iload_n d_T_node_10 rfl rfl ?_
  refine e_sipush (v := 255) d_T_node_11 (by decide) ?_
  refine e_callSd (v := some (.int (wiV (p) (255)))) (σ' := σ) (As := [.int (p), .int (255)]) (st := []) 16 120 d_T_node_14 cb_T_node_39 is_T_isWithin rfl (Nat.le_of_ble_eq_true rfl) (by decide) (by decide) (ct_T_isWithin hl0) ?_
  show Ex l G m_T_node (pmV G m_T_node (qd (.inl 0) σ)) 17 [(0, .ref (5 + 16 * 0)), (1, .int (i)), (2, .int (p)), (3, .int (k)), (4, .int (e)), (5, .long (off))] [.int (wiV (p) (255))] (σ) 16 120
  refine e_ifeq (tgt := 41) d_T_node_17 (by decide) (fun h17 => absurd h17 hx2) (fun h17 => ?_)
  refine e_iload_n d_T_node_20 rfl rfl ?_
  refine e_sipush (v := 255) d_T_node_21 (by decide) ?_
  refine e_callSd (v := some (.int (wiV (k) (255)))) (σ' := σ) (As := [.int (k), .int (255)]) (st := []) 16 120 d_T_node_24 cb_T_node_39 is_T_isWithin rfl (Nat.le_of_ble_eq_true rfl) (by decide) (by decide) (ct_T_isWithin hl0) ?_
  show Ex l G m_T_node (pmV G m_T_node (qd (.inl 0) σ)) 27 [(0, .ref (5 + 16 * 0)), (1, .int (i)), (2, .int (p)), (3, .int (k)), (4, .int (e)), (5, .long (off))] [.int (wiV (k) (255))] (σ) 16 120
  refine e_ifeq (tgt := 41) d_T_node_27 (by decide) (fun h27 => absurd h27 hx3) (fun h27 => ?_)
  refine e_iload d_T_node_30 rfl ?_
  refine e_sipush (v := 255) d_T_node_32 (by decide) ?_
  refine e_callSd (v := some (.int (wiV (e) (255)))) (σ' := σ) (As := [.int (e), .int (255)]) (st := []) 16 120 d_T_node_35 cb_T_node_39 is_T_isWithin rfl (Nat.le_of_ble_eq_true rfl) (by decide) (by decide) (ct_T_isWithin hl0) ?_
  show Ex l G m_T_node (pmV G m_T_node (qd (.inl 0) σ)) 38 [(0, .ref (5 + 16 * 0)), (1, .int (i)), (2, .int (p)), (3, .int (k)), (4, .int (e)), (5, .long (off))] [.int (wiV (e) (255))] (σ) 16 120
  refine e_ifne (tgt := 51) d_T_node_38 (by decide) (fun h38 => ?_) (fun h38 => absurd h38 hx4)
  refine e_aload_n d_T_node_51 rfl rfl ?_
  refine e_iload_n d_T_node_52 rfl rfl ?_
  refine e_callVd (v := some (.int (hiR σ i n 0))) (σ' := σ) (q := 5) (a := 0) (As := [.int (i)]) (st := []) 16 120 d_T_node_53 cb_T_node_50 iv_T_hasIdentity rfl ⟨by decide, rfl⟩ rfl (Nat.le_of_ble_eq_true rfl) (by decide) (by decide) (ct_T_hasIdentity hl0 hT) ?_
  show Ex l G m_T_node (pmV G m_T_node (qd (.inl 0) σ)) 56 [(0, .ref (5 + 16 * 0)), (1, .int (i)), (2, .int (p)), (3, .int (k)), (4, .int (e)), (5, .long (off))] [.int (hiR σ i n 0)] (σ) 16 120
  refine e_ifeq (tgt := 69) d_T_node_56 (by decide) (fun h56 => absurd h56 hid) (fun h56 => ?_)
  exact e_iae rfl d_T_node_59 d_T_node_62 d_T_node_63 d_T_node_65 d_T_node_68 (by decide +kernel) ⟨by decide, Nat.le_of_ble_eq_true rfl⟩ ⟨by decide, by decide⟩ rfl ⟨rfl, rfl⟩
set_option maxHeartbeats 4000000 in
set_option maxRecDepth 100000 in
theorem ct_T_node_z {l : Launch} (hl0 : l.stackTraces = false) {G : LG} {σ : HS} {i p k e : Int32} {off : Int64} {n L : Nat} (hT : TS σ n L) (hx1 : ¬ wiV i 9999 = 0) (hx2 : ¬ wiV p 255 = 0) (hx3 : ¬ wiV k 255 = 0) (hx4 : ¬ wiV e 255 = 0) (hid : hiR σ i n 0 = 0) (hfull : n = 10) : Ct l G m_T_node [.ref (5 + 16 * 0), .int (i), .int (p), .int (k), .int (e), .long (off)] (σ) (qd (.inl 1) σ) := by
  refine Ct.of hl0 rfl rfl (Nat.le_of_ble_eq_true rfl) ?_
  show Ex l G m_T_node (pmV G m_T_node (qd (.inl 1) σ)) 0 [(0, .ref (5 + 16 * 0)), (1, .int (i)), (2, .int (p)), (3, .int (k)), (4, .int (e)), (5, .long (off))] [] (σ) 16 120
  refine e_iload_n d_T_node_0 rfl rfl ?_
  refine e_sipush (v := 9999) d_T_node_1 (by decide) ?_
  refine e_callSd (v := some (.int (wiV (i) (9999)))) (σ' := σ) (As := [.int (i), .int (9999)]) (st := []) 16 120 d_T_node_4 cb_T_node_39 is_T_isWithin rfl (Nat.le_of_ble_eq_true rfl) (by decide) (by decide) (ct_T_isWithin hl0) ?_
  show Ex l G m_T_node (pmV G m_T_node (qd (.inl 1) σ)) 7 [(0, .ref (5 + 16 * 0)), (1, .int (i)), (2, .int (p)), (3, .int (k)), (4, .int (e)), (5, .long (off))] [.int (wiV (i) (9999))] (σ) 16 120
  refine e_ifeq (tgt := 41) d_T_node_7 (by decide) (fun h7 => absurd h7 hx1) (fun h7 => ?_)
  refine e_iload_n d_T_node_10 rfl rfl ?_
  refine e_sipush (v := 255) d_T_node_11 (by decide) ?_
  refine e_callSd (v := some (.int (wiV (p) (255)))) (σ' := σ) (As := [.int (p), .int (255)]) (st := []) 16 120 d_T_node_14 cb_T_node_39 is_T_isWithin rfl (Nat.le_of_ble_eq_true rfl) (by decide) (by decide) (ct_T_isWithin hl0) ?_
  show Ex l G m_T_node (pmV G m_T_node (qd (.inl 1) σ)) 17 [(0, .ref (5 + 16 * 0)), (1, .int (i)), (2, .int (p)), (3, .int (k)), (4, .int (e)), (5, .long (off))] [.int (wiV (p) (255))] (σ) 16 120
  refine e_ifeq (tgt := 41) d_T_node_17 (by decide) (fun h17 => absurd h17 hx2) (fun h17 => ?_)
  refine e_iload_n d_T_node_20 rfl rfl ?_
  refine e_sipush (v := 255) d_T_node_21 (by decide) ?_
  refine e_callSd (v := some (.int (wiV (k) (255)))) (σ' := σ) (As := [.int (k), .int (255)]) (st := []) 16 120 d_T_node_24 cb_T_node_39 is_T_isWithin rfl (Nat.le_of_ble_eq_true rfl) (by decide) (by decide) (ct_T_isWithin hl0) ?_
  show Ex l G m_T_node (pmV G m_T_node (qd (.inl 1) σ)) 27 [(0, .ref (5 + 16 * 0)), (1, .int (i)), (2, .int (p)), (3, .int (k)), (4, .int (e)), (5, .long (off))] [.int (wiV (k) (255))] (σ) 16 120
  refine e_ifeq (tgt := 41) d_T_node_27 (by decide) (fun h27 => absurd h27 hx3) (fun h27 => ?_)
  refine e_iload d_T_node_30 rfl ?_
  refine e_sipush (v := 255) d_T_node_32 (by decide) ?_
  refine e_callSd (v := some (.int (wiV (e) (255)))) (σ' := σ) (As := [.int (e), .int (255)]) (st := []) 16 120 d_T_node_35 cb_T_node_39 is_T_isWithin rfl (Nat.le_of_ble_eq_true rfl) (by decide) (by decide) (ct_T_isWithin hl0) ?_
  show Ex l G m_T_node (pmV G m_T_node (qd (.inl 1) σ)) 38 [(0, .ref (5 + 16 * 0)), (1, .int (i)), (2, .int (p)), (3, .int (k)), (4, .int (e)), (5, .long (off))] [.int (wiV (e) (255))] (σ) 16 120
  refine e_ifne (tgt := 51) d_T_node_38 (by decide) (fun h38 => ?_) (fun h38 => absurd h38 hx4)
  refine e_aload_n d_T_node_51 rfl rfl ?_
  refine e_iload_n d_T_node_52 rfl rfl ?_
  refine e_callVd (v := some (.int (hiR σ i n 0))) (σ' := σ) (q := 5) (a := 0) (As := [.int (i)]) (st := []) 16 120 d_T_node_53 cb_T_node_50 iv_T_hasIdentity rfl ⟨by decide, rfl⟩ rfl (Nat.le_of_ble_eq_true rfl) (by decide) (by decide) (ct_T_hasIdentity hl0 hT) ?_
  show Ex l G m_T_node (pmV G m_T_node (qd (.inl 1) σ)) 56 [(0, .ref (5 + 16 * 0)), (1, .int (i)), (2, .int (p)), (3, .int (k)), (4, .int (e)), (5, .long (off))] [.int (hiR σ i n 0)] (σ) 16 120
  refine e_ifeq (tgt := 69) d_T_node_56 (by decide) (fun h56 => ?_) (fun h56 => absurd hid h56)
  refine e_aload_n d_T_node_69 rfl rfl ?_
  refine g_T_28 rfl d_T_node_70 ?_
  refine e_bipush (v := 10) d_T_node_73 (by decide) ?_
  refine e_icmplt (tgt := 88) d_T_node_75 (by decide) (fun h75 => absurd h75 (by rw [hT.2.2.1.1, hfull]; decide +kernel)) (fun h75 => ?_)
  exact e_ise rfl d_T_node_78 d_T_node_81 d_T_node_82 d_T_node_84 d_T_node_87 (by decide +kernel) ⟨by decide, Nat.le_of_ble_eq_true rfl⟩ ⟨by decide, by decide⟩ rfl ⟨rfl, rfl⟩
theorem n10_lt : ∀ k, k < 10 → nI k < (10 : Int32) := by decide +kernel
set_option maxHeartbeats 4000000 in
set_option maxRecDepth 100000 in
theorem ct_T_node {l : Launch} (hl0 : l.stackTraces = false) {G : LG} {σ : HS} {i p k e : Int32} {off : Int64} {n L : Nat} (hT : TS σ n L) (hC : CN σ n L) (h50 : 0 < hn σ 5) (h10o : 0 < hn σ 10) (hx1 : ¬ wiV i 9999 = 0) (hx2 : ¬ wiV p 255 = 0) (hx3 : ¬ wiV k 255 = 0) (hx4 : ¬ wiV e 255 = 0) (hid : hiR σ i n 0 = 0) (hlt : n < 10) : Ct l G m_T_node [.ref (5 + 16 * 0), .int (i), .int (p), .int (k), .int (e), .long (off)] (σ) (qd (.inr (some (.int (nI n)))) (mkN σ n i p k e off)) := by
  refine Ct.of hl0 rfl rfl (Nat.le_of_ble_eq_true rfl) ?_
  show Ex l G m_T_node (pmV G m_T_node (qd (.inr (some (.int (nI n)))) (mkN σ n i p k e off))) 0 [(0, .ref (5 + 16 * 0)), (1, .int (i)), (2, .int (p)), (3, .int (k)), (4, .int (e)), (5, .long (off))] [] (σ) 16 120
  refine e_iload_n d_T_node_0 rfl rfl ?_
  refine e_sipush (v := 9999) d_T_node_1 (by decide) ?_
  refine e_callSd (v := some (.int (wiV (i) (9999)))) (σ' := σ) (As := [.int (i), .int (9999)]) (st := []) 16 120 d_T_node_4 cb_T_node_39 is_T_isWithin rfl (Nat.le_of_ble_eq_true rfl) (by decide) (by decide) (ct_T_isWithin hl0) ?_
  show Ex l G m_T_node (pmV G m_T_node (qd (.inr (some (.int (nI n)))) (mkN σ n i p k e off))) 7 [(0, .ref (5 + 16 * 0)), (1, .int (i)), (2, .int (p)), (3, .int (k)), (4, .int (e)), (5, .long (off))] [.int (wiV (i) (9999))] (σ) 16 120
  refine e_ifeq (tgt := 41) d_T_node_7 (by decide) (fun h7 => absurd h7 hx1) (fun h7 => ?_)
  refine e_iload_n d_T_node_10 rfl rfl ?_
  refine e_sipush (v := 255) d_T_node_11 (by decide) ?_
  refine e_callSd (v := some (.int (wiV (p) (255)))) (σ' := σ) (As := [.int (p), .int (255)]) (st := []) 16 120 d_T_node_14 cb_T_node_39 is_T_isWithin rfl (Nat.le_of_ble_eq_true rfl) (by decide) (by decide) (ct_T_isWithin hl0) ?_
  show Ex l G m_T_node (pmV G m_T_node (qd (.inr (some (.int (nI n)))) (mkN σ n i p k e off))) 17 [(0, .ref (5 + 16 * 0)), (1, .int (i)), (2, .int (p)), (3, .int (k)), (4, .int (e)), (5, .long (off))] [.int (wiV (p) (255))] (σ) 16 120
  refine e_ifeq (tgt := 41) d_T_node_17 (by decide) (fun h17 => absurd h17 hx2) (fun h17 => ?_)
  refine e_iload_n d_T_node_20 rfl rfl ?_
  refine e_sipush (v := 255) d_T_node_21 (by decide) ?_
  refine e_callSd (v := some (.int (wiV (k) (255)))) (σ' := σ) (As := [.int (k), .int (255)]) (st := []) 16 120 d_T_node_24 cb_T_node_39 is_T_isWithin rfl (Nat.le_of_ble_eq_true rfl) (by decide) (by decide) (ct_T_isWithin hl0) ?_
  show Ex l G m_T_node (pmV G m_T_node (qd (.inr (some (.int (nI n)))) (mkN σ n i p k e off))) 27 [(0, .ref (5 + 16 * 0)), (1, .int (i)), (2, .int (p)), (3, .int (k)), (4, .int (e)), (5, .long (off))] [.int (wiV (k) (255))] (σ) 16 120
  refine e_ifeq (tgt := 41) d_T_node_27 (by decide) (fun h27 => absurd h27 hx3) (fun h27 => ?_)
  refine e_iload d_T_node_30 rfl ?_
  refine e_sipush (v := 255) d_T_node_32 (by decide) ?_
  refine e_callSd (v := some (.int (wiV (e) (255)))) (σ' := σ) (As := [.int (e), .int (255)]) (st := []) 16 120 d_T_node_35 cb_T_node_39 is_T_isWithin rfl (Nat.le_of_ble_eq_true rfl) (by decide) (by decide) (ct_T_isWithin hl0) ?_
  show Ex l G m_T_node (pmV G m_T_node (qd (.inr (some (.int (nI n)))) (mkN σ n i p k e off))) 38 [(0, .ref (5 + 16 * 0)), (1, .int (i)), (2, .int (p)), (3, .int (k)), (4, .int (e)), (5, .long (off))] [.int (wiV (e) (255))] (σ) 16 120
  refine e_ifne (tgt := 51) d_T_node_38 (by decide) (fun h38 => ?_) (fun h38 => absurd h38 hx4)
  refine e_aload_n d_T_node_51 rfl rfl ?_
  refine e_iload_n d_T_node_52 rfl rfl ?_
  refine e_callVd (v := some (.int (hiR σ i n 0))) (σ' := σ) (q := 5) (a := 0) (As := [.int (i)]) (st := []) 16 120 d_T_node_53 cb_T_node_50 iv_T_hasIdentity rfl ⟨by decide, rfl⟩ rfl (Nat.le_of_ble_eq_true rfl) (by decide) (by decide) (ct_T_hasIdentity hl0 hT) ?_
  show Ex l G m_T_node (pmV G m_T_node (qd (.inr (some (.int (nI n)))) (mkN σ n i p k e off))) 56 [(0, .ref (5 + 16 * 0)), (1, .int (i)), (2, .int (p)), (3, .int (k)), (4, .int (e)), (5, .long (off))] [.int (hiR σ i n 0)] (σ) 16 120
  refine e_ifeq (tgt := 69) d_T_node_56 (by decide) (fun h56 => ?_) (fun h56 => absurd hid h56)
  refine e_aload_n d_T_node_69 rfl rfl ?_
  refine g_T_28 rfl d_T_node_70 ?_
  refine e_bipush (v := 10) d_T_node_73 (by decide) ?_
  refine e_icmplt (tgt := 88) d_T_node_75 (by decide) (fun h75 => ?_) (fun h75 => absurd (by rw [hT.2.2.1.1]; exact n10_lt n hlt) h75)
  refine e_bg (mc' := 15 + 1) (ms' := 114 + 6) (by decide) (by decide) ?_
  refine e_new (q := 2) (mc := 15) (ms := 114) d_T_node_88 rfl (by decide) cl_T_9 ki_N.1 ki_N.2 ?_
  rw [show hn (σ) 2 = n from hC.2.2.1]
  refine e_dup d_T_node_91 rfl ?_
  refine e_aload_n d_T_node_92 rfl rfl ?_
  refine g_T_28 rfl d_T_node_93 ?_
  rw [show hI (nw (σ) 2 0) 5 (0) 3 = nI n from (by rw [(olds.onw h50).1]; exact hT.2.2.1.1)]
  refine e_lload d_T_node_96 rfl ?_
  refine e_callId (v := none) (σ' := mk1 σ n off) (x := 2 + 16 * n) (As := [.int (nI n), .long (off)]) (st := [.ref (2 + 16 * n)]) 1 6 d_T_node_98 cb_T_node_61 ii_N_init rfl (Nat.le_of_ble_eq_true rfl) (by decide) (by decide) (ct_N_init hl0 (by rw [n_nw, if_neg (by decide)]; exact hC.1) (by rw [n_nw, if_neg (by decide)]; exact hC.2.1) (by rw [n_nw, if_neg (by decide)]; exact hC.2.2.2.2)) ?_
  show Ex l G m_T_node (pmV G m_T_node (qd (.inr (some (.int (nI n)))) (mkN σ n i p k e off))) 101 [(0, .ref (5 + 16 * 0)), (1, .int (i)), (2, .int (p)), (3, .int (k)), (4, .int (e)), (5, .long (off))] [.ref (2 + 16 * n)] (mk1 σ n off) 1 6
  refine e_astore (lv' := [(7, .ref (2 + 16 * n)), (0, .ref (5 + 16 * 0)), (1, .int (i)), (2, .int (p)), (3, .int (k)), (4, .int (e)), (5, .long (off))]) d_T_node_101 (by decide) rfl ?_
  refine e_aload d_T_node_103 rfl ?_
  refine g_T_64 (b := 0 + 16 * (9 * n)) rfl d_T_node_105 (niS_node 4).1 ?_
  refine e_iload_n d_T_node_108 rfl rfl ?_
  refine e_iload_n d_T_node_109 rfl rfl ?_
  refine e_iload_n d_T_node_110 rfl rfl ?_
  refine e_iload d_T_node_111 rfl ?_
  refine e_callVd (v := none) (σ' := mk2 σ n i p k e off) (q := 0) (a := 9 * n) (As := [.int (i), .int (p), .int (k), .int (e)]) (st := []) 1 6 d_T_node_113 cb_T_node_68 iv_D_setOwn rfl ⟨by decide, rfl⟩ rfl (Nat.le_of_ble_eq_true rfl) (by decide) (by decide) (ct_D_setOwn hl0) ?_
  show Ex l G m_T_node (pmV G m_T_node (qd (.inr (some (.int (nI n)))) (mkN σ n i p k e off))) 116 [(7, .ref (2 + 16 * n)), (0, .ref (5 + 16 * 0)), (1, .int (i)), (2, .int (p)), (3, .int (k)), (4, .int (e)), (5, .long (off))] [] (mk2 σ n i p k e off) 1 6
  refine e_aload d_T_node_116 rfl ?_
  refine e_callVd (v := some (.int (fsC (mk2 σ n i p k e off) n 4))) (σ' := fsS (mk2 σ n i p k e off) n 4) (q := 2) (a := n) (As := []) (st := []) 1 6 d_T_node_118 cb_T_node_74 iv_N_findStates rfl ⟨by decide, rfl⟩ rfl (Nat.le_of_ble_eq_true rfl) (by decide) (by decide) (ct_N_findStates hl0 (mk2_NS hC) (fun j hj => Or.inl (mk2_lk hC j hj))) ?_
  show Ex l G m_T_node (pmV G m_T_node (qd (.inr (some (.int (nI n)))) (mkN σ n i p k e off))) 121 [(7, .ref (2 + 16 * n)), (0, .ref (5 + 16 * 0)), (1, .int (i)), (2, .int (p)), (3, .int (k)), (4, .int (e)), (5, .long (off))] [.int (fsC (mk2 σ n i p k e off) n 4)] (fsS (mk2 σ n i p k e off) n 4) 1 6
  refine e_pop d_T_node_121 rfl ?_
  refine e_aload_n d_T_node_122 rfl rfl ?_
  refine g_T_11 (b := 10 + 16 * 0) rfl d_T_node_123 (by rw [fsS_Rn 4 (by omega), (mk2_old hC (by decide) h50).2.2.1]; exact hT.1.1) ?_
  refine e_aload_n d_T_node_126 rfl rfl ?_
  refine g_T_28 rfl d_T_node_127 ?_
  rw [show hI (fsS (mk2 σ n i p k e off) n 4) 5 (0) 3 = nI n from (by rw [(gfr.fs 4).2.2.2 5 0 3 (by omega), (mk2_old hC (by decide) h50).1]; exact hT.2.2.1.1)]
  refine e_aload d_T_node_130 rfl ?_
  refine e_aast (q := 10) (a := 0) (ci := 2) (b := n) d_T_node_132 ⟨by decide, by decide⟩ (by decide) rfl rfl (by rw [fsS_l, (mk2_old hC (by decide) h10o).2.2.2, hT.2.1.1]; exact nI_in (by omega) (by decide)) ?_
  rw [nI_clamp (by omega)]
  refine e_aload_n d_T_node_133 rfl rfl ?_
  refine e_dup d_T_node_134 rfl ?_
  refine g_T_28 rfl d_T_node_135 ?_
  rw [show hI (sR (fsS (mk2 σ n i p k e off) n 4) 10 (0) n (some (2 + 16 * (n)))) 5 (0) 3 = nI n from (by rw [I_sR, (gfr.fs 4).2.2.2 5 0 3 (by omega), (mk2_old hC (by decide) h50).1]; exact hT.2.2.1.1)]
  refine e_iconst (v := 1) d_T_node_138 (by decide) ?_
  refine e_iadd d_T_node_139 ?_
  refine p_T_28 rfl d_T_node_140 ?_
  refine e_aload d_T_node_143 rfl ?_
  refine g_T_78 rfl d_T_node_145 ?_
  exact e_iret d_T_node_148 rfl ⟨(by rw [I_sI, if_neg (by omega), I_sR, (gfr.fs 4).2.2.2 2 n 0 (by omega)]; show Sum.inr (some (Value.int (hI (setOwnS (mk1 σ n off) _ _ _ _ _) 2 n 0))) = _; rw [setOwnS_I (by decide), show hI (mk1 σ n off) 2 n 0 = nI n from (niS_node 4).2.2.2.1]), rfl⟩
