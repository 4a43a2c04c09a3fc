section HD
variable {l : Launch} {G : LG} {M M2 : MI} {PM : LPM} {Q Q2 : LO → HS → Prop} {pc : Nat} {lv : List (Nat × Value)} {st : List Value} {σ : HS} {mc ms : Nat}
def ent (h : Nat × Nat × Nat × Nat) : ExceptionTableEntry := ⟨h.1, h.2.1, h.2.2.1, h.2.2.2⟩
/-- a handler begins with a store of the exception -/
def HA (M : MI) (hpc len : Nat) : Prop := ∃ i, i < M.2.2.1 ∧ ((decode M.2.1 hpc = .ok (.astore i, 2) ∧ len = 2) ∨ ∃ k0 : Fin 4, (k0 : Nat) = i ∧ decode M.2.1 hpc = .ok (.astore_n k0, 1) ∧ len = 1)
/-- a call that throws, and this method's table has a row for it -/
theorem e_callVc {kx : Nat} {τ : HS} {q a idx n : Nat} {r : vw_C} {As : List Value} (mc' ms' : Nat) (hd : decode M.2.1 pc = .ok (.invokevirtual idx, 3)) (hcb : CB M M2 idx n) (hin : Cond.instanceMethod M2.1 ∈ gt ∧ Cond.selects M2.1.cls M2.1 M2.1 ∈ gt) (hc0 : lcl[q]? = some r) (hq7 : q < 7 ∧ r.1 = M2.1.cls) (hn1 : As.length = n) (hst8 : (st.map fun v => v.category).sum ≤ 8) (hb1 : mc' + M2.2.2.2.2.1.cells ≤ mc) (hb2 : ms' + M2.2.2.2.2.1.slots ≤ ms) (hct : Ct l G M2 (.ref (q + 16 * a) :: As) σ (qd (.inl kx) τ))
    (hp hs : List (Nat × Nat × Nat × Nat)) (hx : Nat × Nat × Nat × Nat) (hM : M.2.2.2.2.2 = some (hp ++ hx :: hs)) (hpass : ∀ z ∈ hp, z.2.2.2 ≠ 0 ∧ ∃ nm, Cond.classLink M.1.cls z.2.2.2 nm ∈ gt ∧ (xn kx, nm) ∈ ncT) (hcov : covers (ent hx) pc = true) (h0 : hx.2.2.2 ≠ 0) (hlink : Cond.classLink M.1.cls hx.2.2.2 (xn kx) ∈ gt) (hcast : Cond.castable (xn kx) (xn kx) ∈ nstT) {len : Nat} (hA : HA M hx.2.2.1 len)
    (k : Ex l G M PM (hx.2.2.1 + len) [] [] τ mc' ms') : Ex l G M PM pc lv (As.reverse ++ .ref (q + 16 * a) :: st) σ mc ms := fun p e s m args below meth c B ad n0 ad0 H locs ls cells slots hC he hw hS hv hP hL hc hs' => by
  have hLa := okL_app hL
  have hLs : okL σ st := hLa.2.2
  have hAs : okL σ As := okL_rev hLa.1
  have hp' : al σ (q + 16 * a) := okR (Nat.lt_trans hq7.1 (by decide)) hLa.2.1
  obtain ⟨cell, g1, g2, g3, -⟩ := hw.obj hp' hq7.1 hc0
  have hpr := pre_core hC hw hS (av := .ref (q + 16 * a) :: As) ⟨Or.inl hp', hAs⟩
  have hcl : s.vm.findClass M2.1.cls = some cell.cls := by rw [g2, ← hq7.2]; exact (hC.2.2.2.2.2.2.1.1 q r hc0).2.1
  have hrun := vx_runV (l := l) (e := e) (below := below) (meth := meth) (locs := locs) (cells := cells) (slots := slots) (As := trS ad As) (rest := trS ad st) (g := F0 m pc ls (trS ad (As.reverse ++ .ref (q + 16 * a) :: st))) hC.1 (hct B ad) ⟨hcb.b hC, hC.1.2.2.2.2 _ hin.1, hC.1.2.2.2.2 _ hin.2⟩ (C := M2.1.cls) (b := ad (q + 16 * a)) ⟨hpr.1, ⟨cell, g1, by rw [g3]; rfl, hcl⟩, hpr.2⟩ rfl (by rw [List.length_map]; exact hn1) hv.1 (by rw [rv_tr]; rfl) (lv_room (by rw [cat_tr]; exact hst8)) hd ⟨by omega, by omega⟩
  refine run_core hrun hS (fun k9 ce q9 σ2 ad2 H1 locs1 hq2 hw2 hx2 hS2 hce hcv hcl2 => ?_) (fun v σ2 ad2 H1 locs1 hq2 hw2 hx2 hok2 hS2 => by cases hq2.1)
  obtain ⟨z1, z2⟩ := hq2
  cases z1
  subst z2
  refine vx_catch (own := M.1.cls) (name := xn kx) (E := xn kx) hC.1.2.2.2.1 (tableOf hp) (ent hx) (tableOf hs) ((hC.2.2.2.2.1 _ hM).trans (by simp [tableOf, ent])) (fun z hz => ?_) hcov h0 (hC.1.2.2.2.2 _ hlink) (va_Nw.use (nw_on (nstT_ok _ hcast)) (hC.2.2.2.2.2.2.2.1.2.2.1 _ hcast)) hce hcv hcl2 ?_
  · obtain ⟨w, hw9, rfl⟩ := List.mem_map.mp hz
    obtain ⟨y0, nm, y1, y2⟩ := hpass w hw9
    exact Or.inr ⟨y0, nm, hC.1.2.2.2.2 _ y1, hC.2.2.2.2.2.2.2.1.2.2.2.2.2 _ y2⟩
  · obtain ⟨i, hi, hA⟩ := hA
    rcases hA with ⟨hdA, rfl⟩ | ⟨k0, hk0, hdA, rfl⟩
    · exact lv_astore hC.1.1 hC.1.2.1 hdA hv hi rfl (fun ls9 hv9 => k p e s m args below meth c B ad2 n0 ad0 H1 locs1 ls9 _ _ hC (he.trans hx2) hw2 hS2 ⟨hv9.1, hv9.2.1, fun q hq => absurd hq List.not_mem_nil⟩ trivial trivial (by omega) (by omega))
    · exact lv_astore_n hC.1.1 hC.1.2.1 hdA hk0 hv hi rfl (fun ls9 hv9 => k p e s m args below meth c B ad2 n0 ad0 H1 locs1 ls9 _ _ hC (he.trans hx2) hw2 hS2 ⟨hv9.1, hv9.2.1, fun q hq => absurd hq List.not_mem_nil⟩ trivial trivial (by omega) (by omega))
theorem Ct.ofH {av : List Value} {h0 : Nat × Nat × Nat × Nat} {t0 : List (Nat × Nat × Nat × Nat)} (hl0 : l.stackTraces = false) (hM : M.2.2.2.2.2 = some (h0 :: t0)) (hy : plainName M.1.cls = true) (hn0 : (lg_sl av).length ≤ M.2.2.1)
    (h : Ex l G M (pmV G M Q) 0 (lv_args 0 av) [] σ M.2.2.2.2.1.cells M.2.2.2.2.1.slots) : Ct l G M av σ Q := by
  intro B ad
  have hwc : wcM M = .codeWith M.1 M.2.1 M.2.2.1 M.2.2.2.1 (h0 :: t0) := by unfold wcM; rw [hM]
  refine vx_ofWH (cc := M.2.1) (maxL := M.2.2.1) (ret := M.2.2.2.1) (hh := h0 :: t0) (ws' := gt) hy (by unfold wsM; rw [hwc]) ?_
  intro p e s m args below meth c s₁ Bd hml hv0
  obtain ⟨rfl, hw, hok, hB, hK, hZ⟩ := hv0
  have hen := lv_entry (trS ad av) (n := M.2.2.1) (by rw [lg_sl_tr]; exact hn0)
  rw [lv_args_tr] at hen
  rw [lg_entry_eq]
  have hts : ∀ w ∈ gt, w.before (trS ad av).toArray s = true := fun w hw => atoms_spec (ws := wsM M) Bd.pre w (List.mem_cons_of_mem _ hw)
  have htab : ∀ hh, M.2.2.2.2.2 = some hh → c.exceptionTable.toList = tableOf hh := fun hh e9 => by
    rw [hM] at e9
    cases e9
    exact vx_table (x := M.1) Bd (atoms_spec (ws := wsM M) Bd.pre _ (by unfold wsM; rw [hwc]; exact List.mem_cons_self))
  exact h p e s m _ below meth c B ad (hn σ) ad s.heap [] _ 0 0 ⟨⟨Bd.exec, Bd.bytes, hml, findClass_of_methodNamed Bd.named, hts⟩, Bd.returns, Bd.notSynchronized, (name_of_methodNamed Bd.named Bd.method).1, htab, hB, hK, hZ, hl0⟩ ext.rf hw va_S.rf hen (okP_args hok) trivial (by omega) (by omega)
/-- what a call of a method with handlers needs of the tables and of the room -/
def CBH (M M2 : MI) (idx n : Nat) (hh : List (Nat × Nat × Nat × Nat)) : Prop := Cond.methodLink M.1.cls idx M2.1 ∈ gt ∧ (wcM M2 = Cond.codeWith M2.1 M2.2.1 M2.2.2.1 M2.2.2.2.1 hh ∧ Cond.codeWith M2.1 M2.2.1 M2.2.2.1 M2.2.2.2.1 hh ∈ gt ∧ Cond.initialized M2.1.cls ∈ gt ∧ Cond.static M2.1 ∈ gt) ∧ (M2.1.cls ≠ "java/lang/invoke/MethodHandle" ∧ M2.1.cls ≠ "java/lang/invoke/VarHandle" ∧ (parseMethodDescriptor M2.1.desc).map (fun d => d.parameters.length) = some n) ∧ (M2.2.2.2.2.1.frames + 1 ≤ M.2.2.2.2.1.frames ∧ 8 + (M2.2.2.1 + 11) + M2.2.2.2.2.1.locals ≤ M.2.2.2.2.1.locals)
theorem e_callSh {v : Option Value} {σ' : HS} {idx n : Nat} {As : List Value} {hh : List (Nat × Nat × Nat × Nat)} (mc' ms' : Nat) (hd : decode M.2.1 pc = .ok (.invokestatic idx, 3)) (hcb : CBH M M2 idx n hh) (hn1 : As.length = n) (hst8 : (st.map fun v => v.category).sum ≤ 8) (hb1 : mc' + M2.2.2.2.2.1.cells ≤ mc) (hb2 : ms' + M2.2.2.2.2.1.slots ≤ ms) (hct : Ct l G M2 As σ (qd (.inr v) σ')) (k : Ex l G M PM (pc + 3) lv (v.toList ++ st) σ' mc' ms') : Ex l G M PM pc lv (As.reverse ++ st) σ mc ms := fun p e s m args below meth c B ad n0 ad0 H locs ls cells slots hC he hw hS hv hP hL hc hs => by
  have hLa := okL_app hL
  have hLs : okL σ st := hLa.2
  have hpr := pre_core hC hw hS (av := As) (okL_rev hLa.1)
  have hG : GoodIn gt (va_wsS M.1.cls idx M2.1 (wsM M2)) := gi_of (fun w hw => by
    unfold va_wsS wsM at hw
    rw [hcb.2.1.1] at hw
    simp only [List.cons_append, List.nil_append, List.mem_cons] at hw
    rcases hw with z | z | z | z | z
    · rw [z]; exact hcb.1
    · rw [z]; exact hcb.2.1.2.2.2
    · rw [z]; exact hcb.2.1.2.2.1
    · rw [z]; exact hcb.2.1.2.1
    · exact z)
  have hrun := vx_runSX (l := l) (e := e) (below := below) (meth := meth) (locs := locs) (cells := cells) (slots := slots) (As := trS ad As) (rest := trS ad st) (g := F0 m pc ls (trS ad (As.reverse ++ st))) (hh := hh) hC.1 (hct B ad) (vx_cwSW (R := M.2.2.2.2.1) n hC.1.2.2.2.2 hG (by unfold wsM; rw [hcb.2.1.1]) rfl rfl hcb.2.2.1 hcb.2.2.2) hpr rfl (by rw [List.length_map]; exact hn1) hv.1 (by rw [rv_tr]) (lv_room (by rw [cat_tr]; exact hst8)) hd ⟨by omega, by omega⟩
  exact run_core hrun hS (fun k _ _ τ _ _ _ hq _ _ _ _ _ _ => by cases hq.1) (fun w σ2 ad2 H1 locs1 hq2 hw2 hx2 hok2 hS2 => by
    obtain ⟨z1, z2⟩ := hq2
    cases z1
    subst z2
    exact call_fin hC he hw hv hP hLs hc hs hb1 hb2 k hw2 hx2 hok2 hS2)
end HD
def outS (k : Nat) (τ : HS) (v : Int64) : HS := if k = 0 then sJ τ 9 2 0 v else τ
set_option maxHeartbeats 4000000 in
set_option maxRecDepth 100000 in
theorem ct_L_node_0 {l : Launch} (hl0 : l.stackTraces = false) {G : LG} {σ : HS} {τ : HS} {x : Int32} {a0 : Int32} {a1 : Int32} {a2 : Int32} {a3 : Int32} {a4 : Int64} (hO : hl τ 9 2 = 1) (hct : Ct l G m_T_node [.ref (5 + 16 * 0), .int (a0), .int (a1), .int (a2), .int (a3), .long (a4)] σ (qd (.inr (some (.int x))) τ))  : Ct l G m_L_node [.ref (5 + 16 * 0), .int (a0), .int (a1), .int (a2), .int (a3), .long (a4), .ref (9 + 16 * 2)] (σ) (qd (.inr (some (.int 0))) (sJ τ 9 2 0 ((x).toInt64))) := by
  refine Ct.ofH hl0 rfl rfl (Nat.le_of_ble_eq_true rfl) ?_
  show Ex l G m_L_node (pmV G m_L_node (qd (.inr (some (.int 0))) (sJ τ 9 2 0 ((x).toInt64)))) 0 [(0, .ref (5 + 16 * 0)), (1, .int (a0)), (2, .int (a1)), (3, .int (a2)), (4, .int (a3)), (5, .long (a4)), (7, .ref (9 + 16 * 2))] [] (σ) 16 120
  refine e_aload d_L_node_0 rfl ?_
  refine e_iconst (v := 0) d_L_node_2 (by decide) ?_
  refine e_aload_n d_L_node_3 rfl rfl ?_
  refine e_iload_n d_L_node_4 rfl rfl ?_
  refine e_iload_n d_L_node_5 rfl rfl ?_
  refine e_iload_n d_L_node_6 rfl rfl ?_
  refine e_iload d_L_node_7 rfl ?_
  refine e_lload d_L_node_9 rfl ?_
  refine e_callVd (v := some (.int (x))) (σ' := τ) (q := 5) (a := 0) (As := [.int (a0), .int (a1), .int (a2), .int (a3), .long (a4)]) (st := [.int (0), .ref (9 + 16 * 2)]) 0 0 d_L_node_11 cb_L_node_7 iv_T_node rfl ⟨by decide, rfl⟩ rfl (Nat.le_of_ble_eq_true rfl) (by decide) (by decide) (hct) ?_
  show Ex l G m_L_node (pmV G m_L_node (qd (.inr (some (.int 0))) (sJ τ 9 2 0 ((x).toInt64)))) 14 [(0, .ref (5 + 16 * 0)), (1, .int (a0)), (2, .int (a1)), (3, .int (a2)), (4, .int (a3)), (5, .long (a4)), (7, .ref (9 + 16 * 2))] [.int (x), .int (0), .ref (9 + 16 * 2)] (τ) 0 0
  refine e_i2l d_L_node_14 ?_
  refine e_last d_L_node_15 (by rw [hO]; unfold vp_in; decide +kernel) ?_
  rw [show (0 : Int32).toNatClampNeg = 0 from by decide +kernel]
  refine e_goto (tgt := 27) d_L_node_16 (by decide) ?_
  refine e_iconst (v := 0) d_L_node_27 (by decide) ?_
  exact e_iret d_L_node_28 rfl ⟨rfl, rfl⟩
set_option maxHeartbeats 4000000 in
set_option maxRecDepth 100000 in
theorem ct_L_node_1 {l : Launch} (hl0 : l.stackTraces = false) {G : LG} {σ : HS} {τ : HS} {a0 : Int32} {a1 : Int32} {a2 : Int32} {a3 : Int32} {a4 : Int64} (hct : Ct l G m_T_node [.ref (5 + 16 * 0), .int (a0), .int (a1), .int (a2), .int (a3), .long (a4)] σ (qd (.inl 0) τ))  : Ct l G m_L_node [.ref (5 + 16 * 0), .int (a0), .int (a1), .int (a2), .int (a3), .long (a4), .ref (9 + 16 * 2)] (σ) (qd (.inr (some (.int 1))) τ) := by
  refine Ct.ofH hl0 rfl rfl (Nat.le_of_ble_eq_true rfl) ?_
  show Ex l G m_L_node (pmV G m_L_node (qd (.inr (some (.int 1))) τ)) 0 [(0, .ref (5 + 16 * 0)), (1, .int (a0)), (2, .int (a1)), (3, .int (a2)), (4, .int (a3)), (5, .long (a4)), (7, .ref (9 + 16 * 2))] [] (σ) 16 120
  refine e_aload d_L_node_0 rfl ?_
  refine e_iconst (v := 0) d_L_node_2 (by decide) ?_
  refine e_aload_n d_L_node_3 rfl rfl ?_
  refine e_iload_n d_L_node_4 rfl rfl ?_
  refine e_iload_n d_L_node_5 rfl rfl ?_
  refine e_iload_n d_L_node_6 rfl rfl ?_
  refine e_iload d_L_node_7 rfl ?_
  refine e_lload d_L_node_9 rfl ?_
  refine e_callVc (kx := 0) (τ := τ) (q := 5) (a := 0) (As := [.int (a0), .int (a1), .int (a2), .int (a3), .long (a4)]) (st := [.int (0), .ref (9 + 16 * 2)]) 0 0 d_L_node_11 cb_L_node_7 iv_T_node rfl ⟨by decide, rfl⟩ rfl (Nat.le_of_ble_eq_true rfl) (by decide) (by decide) hct [] [(0, 16, 23, 15)] (0, 16, 19, 13) rfl (fun _ h => absurd h List.not_mem_nil) (by decide +kernel) (by decide) cl_L_13 (by decide +kernel) (len := 2) ⟨8, by decide, Or.inl ⟨d_L_node_19, rfl⟩⟩ ?_
  show Ex l G m_L_node (pmV G m_L_node (qd (.inr (some (.int 1))) τ)) 21 [] [] (τ) 0 0
  refine e_iconst (v := 1) d_L_node_21 (by decide) ?_
  exact e_iret d_L_node_22 rfl ⟨rfl, rfl⟩
set_option maxHeartbeats 4000000 in
set_option maxRecDepth 100000 in
theorem ct_L_node_2 {l : Launch} (hl0 : l.stackTraces = false) {G : LG} {σ : HS} {τ : HS} {a0 : Int32} {a1 : Int32} {a2 : Int32} {a3 : Int32} {a4 : Int64} (hct : Ct l G m_T_node [.ref (5 + 16 * 0), .int (a0), .int (a1), .int (a2), .int (a3), .long (a4)] σ (qd (.inl 1) τ))  : Ct l G m_L_node [.ref (5 + 16 * 0), .int (a0), .int (a1), .int (a2), .int (a3), .long (a4), .ref (9 + 16 * 2)] (σ) (qd (.inr (some (.int 2))) τ) := by
  refine Ct.ofH hl0 rfl rfl (Nat.le_of_ble_eq_true rfl) ?_
  show Ex l G m_L_node (pmV G m_L_node (qd (.inr (some (.int 2))) τ)) 0 [(0, .ref (5 + 16 * 0)), (1, .int (a0)), (2, .int (a1)), (3, .int (a2)), (4, .int (a3)), (5, .long (a4)), (7, .ref (9 + 16 * 2))] [] (σ) 16 120
  refine e_aload d_L_node_0 rfl ?_
  refine e_iconst (v := 0) d_L_node_2 (by decide) ?_
  refine e_aload_n d_L_node_3 rfl rfl ?_
  refine e_iload_n d_L_node_4 rfl rfl ?_
  refine e_iload_n d_L_node_5 rfl rfl ?_
  refine e_iload_n d_L_node_6 rfl rfl ?_
  refine e_iload d_L_node_7 rfl ?_
  refine e_lload d_L_node_9 rfl ?_
  refine e_callVc (kx := 1) (τ := τ) (q := 5) (a := 0) (As := [.int (a0), .int (a1), .int (a2), .int (a3), .long (a4)]) (st := [.int (0), .ref (9 + 16 * 2)]) 0 0 d_L_node_11 cb_L_node_7 iv_T_node rfl ⟨by decide, rfl⟩ rfl (Nat.le_of_ble_eq_true rfl) (by decide) (by decide) hct [(0, 16, 19, 13)] [] (0, 16, 23, 15) rfl (List.forall_mem_cons.mpr ⟨⟨by decide, _, cl_L_13, by decide +kernel⟩, fun _ h => absurd h List.not_mem_nil⟩) (by decide +kernel) (by decide) cl_L_15 (by decide +kernel) (len := 2) ⟨8, by decide, Or.inl ⟨d_L_node_23, rfl⟩⟩ ?_
  show Ex l G m_L_node (pmV G m_L_node (qd (.inr (some (.int 2))) τ)) 25 [] [] (τ) 0 0
  refine e_iconst (v := 2) d_L_node_25 (by decide) ?_
  exact e_iret d_L_node_26 rfl ⟨rfl, rfl⟩
theorem cw_L_node {l : Launch} (hl0 : l.stackTraces = false) {G : LG} {σ τ : HS} {x : Int32} {a0 : Int32} {a1 : Int32} {a2 : Int32} {a3 : Int32} {a4 : Int64} {k : Nat} (hk : k ≤ 2) (hO : hl τ 9 2 = 1) (hct : Ct l G m_T_node [.ref (5 + 16 * 0), .int (a0), .int (a1), .int (a2), .int (a3), .long (a4)] σ (qd (ansI k x) τ)) : Ct l G m_L_node [.ref (5 + 16 * 0), .int (a0), .int (a1), .int (a2), .int (a3), .long (a4), .ref (9 + 16 * 2)] σ (qd (.inr (some (.int (nI k)))) (outS k τ ((x).toInt64))) := by
  match k, hk, hct with
  | 0, _, hct => exact ct_L_node_0 hl0 hO hct
  | 1, _, hct => exact ct_L_node_1 hl0 hct
  | 2, _, hct => exact ct_L_node_2 hl0 hct
  | k + 3, hk, _ => omega
set_option maxHeartbeats 4000000 in
set_option maxRecDepth 100000 in
theorem ct_L_link_0 {l : Launch} (hl0 : l.stackTraces = false) {G : LG} {σ : HS} {τ : HS} {x : Int32} {a0 : Int32} {a1 : Int32} {a2 : Int32} {a3 : Int32} {a4 : Int32} {a5 : Int32} (hO : hl τ 9 2 = 1) (hct : Ct l G m_T_link [.ref (5 + 16 * 0), .int (a0), .int (a1), .int (a2), .int (a3), .int (a4), .int (a5)] σ (qd (.inr (some (.int x))) τ))  : Ct l G m_L_link [.ref (5 + 16 * 0), .int (a0), .int (a1), .int (a2), .int (a3), .int (a4), .int (a5), .ref (9 + 16 * 2)] (σ) (qd (.inr (some (.int 0))) (sJ τ 9 2 0 ((x).toInt64))) := by
  refine Ct.ofH hl0 rfl rfl (Nat.le_of_ble_eq_true rfl) ?_
  show Ex l G m_L_link (pmV G m_L_link (qd (.inr (some (.int 0))) (sJ τ 9 2 0 ((x).toInt64)))) 0 [(0, .ref (5 + 16 * 0)), (1, .int (a0)), (2, .int (a1)), (3, .int (a2)), (4, .int (a3)), (5, .int (a4)), (6, .int (a5)), (7, .ref (9 + 16 * 2))] [] (σ) 6 35
  refine e_aload d_L_link_0 rfl ?_
  refine e_iconst (v := 0) d_L_link_2 (by decide) ?_
  refine e_aload_n d_L_link_3 rfl rfl ?_
  refine e_iload_n d_L_link_4 rfl rfl ?_
  refine e_iload_n d_L_link_5 rfl rfl ?_
  refine e_iload_n d_L_link_6 rfl rfl ?_
  refine e_iload d_L_link_7 rfl ?_
  refine e_iload d_L_link_9 rfl ?_
  refine e_iload d_L_link_11 rfl ?_
  refine e_callVd (v := some (.int (x))) (σ' := τ) (q := 5) (a := 0) (As := [.int (a0), .int (a1), .int (a2), .int (a3), .int (a4), .int (a5)]) (st := [.int (0), .ref (9 + 16 * 2)]) 0 0 d_L_link_13 cb_L_link_17 iv_T_link rfl ⟨by decide, rfl⟩ rfl (Nat.le_of_ble_eq_true rfl) (by decide) (by decide) (hct) ?_
  show Ex l G m_L_link (pmV G m_L_link (qd (.inr (some (.int 0))) (sJ τ 9 2 0 ((x).toInt64)))) 16 [(0, .ref (5 + 16 * 0)), (1, .int (a0)), (2, .int (a1)), (3, .int (a2)), (4, .int (a3)), (5, .int (a4)), (6, .int (a5)), (7, .ref (9 + 16 * 2))] [.int (x), .int (0), .ref (9 + 16 * 2)] (τ) 0 0
  refine e_i2l d_L_link_16 ?_
  refine e_last d_L_link_17 (by rw [hO]; unfold vp_in; decide +kernel) ?_
  rw [show (0 : Int32).toNatClampNeg = 0 from by decide +kernel]
  refine e_goto (tgt := 29) d_L_link_18 (by decide) ?_
  refine e_iconst (v := 0) d_L_link_29 (by decide) ?_
  exact e_iret d_L_link_30 rfl ⟨rfl, rfl⟩
set_option maxHeartbeats 4000000 in
set_option maxRecDepth 100000 in
theorem ct_L_link_1 {l : Launch} (hl0 : l.stackTraces = false) {G : LG} {σ : HS} {τ : HS} {a0 : Int32} {a1 : Int32} {a2 : Int32} {a3 : Int32} {a4 : Int32} {a5 : Int32} (hct : Ct l G m_T_link [.ref (5 + 16 * 0), .int (a0), .int (a1), .int (a2), .int (a3), .int (a4), .int (a5)] σ (qd (.inl 0) τ))  : Ct l G m_L_link [.ref (5 + 16 * 0), .int (a0), .int (a1), .int (a2), .int (a3), .int (a4), .int (a5), .ref (9 + 16 * 2)] (σ) (qd (.inr (some (.int 1))) τ) := by
  refine Ct.ofH hl0 rfl rfl (Nat.le_of_ble_eq_true rfl) ?_
  show Ex l G m_L_link (pmV G m_L_link (qd (.inr (some (.int 1))) τ)) 0 [(0, .ref (5 + 16 * 0)), (1, .int (a0)), (2, .int (a1)), (3, .int (a2)), (4, .int (a3)), (5, .int (a4)), (6, .int (a5)), (7, .ref (9 + 16 * 2))] [] (σ) 6 35
  refine e_aload d_L_link_0 rfl ?_
  refine e_iconst (v := 0) d_L_link_2 (by decide) ?_
  refine e_aload_n d_L_link_3 rfl rfl ?_
  refine e_iload_n d_L_link_4 rfl rfl ?_
  refine e_iload_n d_L_link_5 rfl rfl ?_
  refine e_iload_n d_L_link_6 rfl rfl ?_
  refine e_iload d_L_link_7 rfl ?_
  refine e_iload d_L_link_9 rfl ?_
  refine e_iload d_L_link_11 rfl ?_
  refine e_callVc (kx := 0) (τ := τ) (q := 5) (a := 0) (As := [.int (a0), .int (a1), .int (a2), .int (a3), .int (a4), .int (a5)]) (st := [.int (0), .ref (9 + 16 * 2)]) 0 0 d_L_link_13 cb_L_link_17 iv_T_link rfl ⟨by decide, rfl⟩ rfl (Nat.le_of_ble_eq_true rfl) (by decide) (by decide) hct [] [(0, 18, 25, 15)] (0, 18, 21, 13) rfl (fun _ h => absurd h List.not_mem_nil) (by decide +kernel) (by decide) cl_L_13 (by decide +kernel) (len := 2) ⟨8, by decide, Or.inl ⟨d_L_link_21, rfl⟩⟩ ?_
  show Ex l G m_L_link (pmV G m_L_link (qd (.inr (some (.int 1))) τ)) 23 [] [] (τ) 0 0
  refine e_iconst (v := 1) d_L_link_23 (by decide) ?_
  exact e_iret d_L_link_24 rfl ⟨rfl, rfl⟩
set_option maxHeartbeats 4000000 in
set_option maxRecDepth 100000 in
theorem ct_L_link_2 {l : Launch} (hl0 : l.stackTraces = false) {G : LG} {σ : HS} {τ : HS} {a0 : Int32} {a1 : Int32} {a2 : Int32} {a3 : Int32} {a4 : Int32} {a5 : Int32} (hct : Ct l G m_T_link [.ref (5 + 16 * 0), .int (a0), .int (a1), .int (a2), .int (a3), .int (a4), .int (a5)] σ (qd (.inl 1) τ))  : Ct l G m_L_link [.ref (5 + 16 * 0), .int (a0), .int (a1), .int (a2), .int (a3), .int (a4), .int (a5), .ref (9 + 16 * 2)] (σ) (qd (.inr (some (.int 2))) τ) := by
  refine Ct.ofH hl0 rfl rfl (Nat.le_of_ble_eq_true rfl) ?_
  show Ex l G m_L_link (pmV G m_L_link (qd (.inr (some (.int 2))) τ)) 0 [(0, .ref (5 + 16 * 0)), (1, .int (a0)), (2, .int (a1)), (3, .int (a2)), (4, .int (a3)), (5, .int (a4)), (6, .int (a5)), (7, .ref (9 + 16 * 2))] [] (σ) 6 35
  refine e_aload d_L_link_0 rfl ?_
  refine e_iconst (v := 0) d_L_link_2 (by decide) ?_
  refine e_aload_n d_L_link_3 rfl rfl ?_
  refine e_iload_n d_L_link_4 rfl rfl ?_
  refine e_iload_n d_L_link_5 rfl rfl ?_
  refine e_iload_n d_L_link_6 rfl rfl ?_
  refine e_iload d_L_link_7 rfl ?_
  refine e_iload d_L_link_9 rfl ?_
  refine e_iload d_L_link_11 rfl ?_
  refine e_callVc (kx := 1) (τ := τ) (q := 5) (a := 0) (As := [.int (a0), .int (a1), .int (a2), .int (a3), .int (a4), .int (a5)]) (st := [.int (0), .ref (9 + 16 * 2)]) 0 0 d_L_link_13 cb_L_link_17 iv_T_link rfl ⟨by decide, rfl⟩ rfl (Nat.le_of_ble_eq_true rfl) (by decide) (by decide) hct [(0, 18, 21, 13)] [] (0, 18, 25, 15) rfl (List.forall_mem_cons.mpr ⟨⟨by decide, _, cl_L_13, by decide +kernel⟩, fun _ h => absurd h List.not_mem_nil⟩) (by decide +kernel) (by decide) cl_L_15 (by decide +kernel) (len := 2) ⟨8, by decide, Or.inl ⟨d_L_link_25, rfl⟩⟩ ?_
  show Ex l G m_L_link (pmV G m_L_link (qd (.inr (some (.int 2))) τ)) 27 [] [] (τ) 0 0
  refine e_iconst (v := 2) d_L_link_27 (by decide) ?_
  exact e_iret d_L_link_28 rfl ⟨rfl, rfl⟩
theorem cw_L_link {l : Launch} (hl0 : l.stackTraces = false) {G : LG} {σ τ : HS} {x : Int32} {a0 : Int32} {a1 : Int32} {a2 : Int32} {a3 : Int32} {a4 : Int32} {a5 : Int32} {k : Nat} (hk : k ≤ 2) (hO : hl τ 9 2 = 1) (hct : Ct l G m_T_link [.ref (5 + 16 * 0), .int (a0), .int (a1), .int (a2), .int (a3), .int (a4), .int (a5)] σ (qd (ansI k x) τ)) : Ct l G m_L_link [.ref (5 + 16 * 0), .int (a0), .int (a1), .int (a2), .int (a3), .int (a4), .int (a5), .ref (9 + 16 * 2)] σ (qd (.inr (some (.int (nI k)))) (outS k τ ((x).toInt64))) := by
  match k, hk, hct with
  | 0, _, hct => exact ct_L_link_0 hl0 hO hct
  | 1, _, hct => exact ct_L_link_1 hl0 hct
  | 2, _, hct => exact ct_L_link_2 hl0 hct
  | k + 3, hk, _ => omega
set_option maxHeartbeats 4000000 in
set_option maxRecDepth 100000 in
theorem ct_L_up_0 {l : Launch} (hl0 : l.stackTraces = false) {G : LG} {σ : HS} {τ : HS} {a0 : Int32} {a1 : Int32} (hct : Ct l G m_T_up [.ref (5 + 16 * 0), .int (a0), .int (a1)] σ (qd (.inr (none)) τ))  : Ct l G m_L_up [.ref (5 + 16 * 0), .int (a0), .int (a1)] (σ) (qd (.inr (some (.int 0))) (τ)) := by
  refine Ct.ofH hl0 rfl rfl (Nat.le_of_ble_eq_true rfl) ?_
  show Ex l G m_L_up (pmV G m_L_up (qd (.inr (some (.int 0))) (τ))) 0 [(0, .ref (5 + 16 * 0)), (1, .int (a0)), (2, .int (a1))] [] (σ) 1 6
  refine e_aload_n d_L_up_0 rfl rfl ?_
  refine e_iload_n d_L_up_1 rfl rfl ?_
  refine e_iload_n d_L_up_2 rfl rfl ?_
  refine e_callVd (v := none) (σ' := τ) (q := 5) (a := 0) (As := [.int (a0), .int (a1)]) (st := []) 0 0 d_L_up_3 cb_L_up_21 iv_T_up rfl ⟨by decide, rfl⟩ rfl (Nat.le_of_ble_eq_true rfl) (by decide) (by decide) (hct) ?_
  show Ex l G m_L_up (pmV G m_L_up (qd (.inr (some (.int 0))) (τ))) 6 [(0, .ref (5 + 16 * 0)), (1, .int (a0)), (2, .int (a1))] [] (τ) 0 0
  refine e_goto (tgt := 12) d_L_up_6 (by decide) ?_
  refine e_iconst (v := 0) d_L_up_12 (by decide) ?_
  exact e_iret d_L_up_13 rfl ⟨rfl, rfl⟩
set_option maxHeartbeats 4000000 in
set_option maxRecDepth 100000 in
theorem ct_L_up_1 {l : Launch} (hl0 : l.stackTraces = false) {G : LG} {σ : HS} {τ : HS} {a0 : Int32} {a1 : Int32} (hct : Ct l G m_T_up [.ref (5 + 16 * 0), .int (a0), .int (a1)] σ (qd (.inl 0) τ))  : Ct l G m_L_up [.ref (5 + 16 * 0), .int (a0), .int (a1)] (σ) (qd (.inr (some (.int 1))) τ) := by
  refine Ct.ofH hl0 rfl rfl (Nat.le_of_ble_eq_true rfl) ?_
  show Ex l G m_L_up (pmV G m_L_up (qd (.inr (some (.int 1))) τ)) 0 [(0, .ref (5 + 16 * 0)), (1, .int (a0)), (2, .int (a1))] [] (σ) 1 6
  refine e_aload_n d_L_up_0 rfl rfl ?_
  refine e_iload_n d_L_up_1 rfl rfl ?_
  refine e_iload_n d_L_up_2 rfl rfl ?_
  refine e_callVc (kx := 0) (τ := τ) (q := 5) (a := 0) (As := [.int (a0), .int (a1)]) (st := []) 0 0 d_L_up_3 cb_L_up_21 iv_T_up rfl ⟨by decide, rfl⟩ rfl (Nat.le_of_ble_eq_true rfl) (by decide) (by decide) hct [] [] (0, 6, 9, 13) rfl (fun _ h => absurd h List.not_mem_nil) (by decide +kernel) (by decide) cl_L_13 (by decide +kernel) (len := 1) ⟨3, by decide, Or.inr ⟨3, rfl, d_L_up_9, rfl⟩⟩ ?_
  show Ex l G m_L_up (pmV G m_L_up (qd (.inr (some (.int 1))) τ)) 10 [] [] (τ) 0 0
  refine e_iconst (v := 1) d_L_up_10 (by decide) ?_
  exact e_iret d_L_up_11 rfl ⟨rfl, rfl⟩
theorem cw_L_up {l : Launch} (hl0 : l.stackTraces = false) {G : LG} {σ τ : HS} {a0 : Int32} {a1 : Int32} {k : Nat} (hk : k ≤ 1) (hct : Ct l G m_T_up [.ref (5 + 16 * 0), .int (a0), .int (a1)] σ (qd (ansV k) τ)) : Ct l G m_L_up [.ref (5 + 16 * 0), .int (a0), .int (a1)] σ (qd (.inr (some (.int (nI k)))) (τ)) := by
  match k, hk, hct with
  | 0, _, hct => exact ct_L_up_0 hl0 hct
  | 1, _, hct => exact ct_L_up_1 hl0 hct
  | k + 2, hk, _ => omega
set_option maxHeartbeats 4000000 in
set_option maxRecDepth 100000 in
theorem ct_L_priority_0 {l : Launch} (hl0 : l.stackTraces = false) {G : LG} {σ : HS} {τ : HS} {a0 : Int32} {a1 : Int32} (hct : Ct l G m_T_priority [.ref (5 + 16 * 0), .int (a0), .int (a1)] σ (qd (.inr (none)) τ))  : Ct l G m_L_priority [.ref (5 + 16 * 0), .int (a0), .int (a1)] (σ) (qd (.inr (some (.int 0))) (τ)) := by
  refine Ct.ofH hl0 rfl rfl (Nat.le_of_ble_eq_true rfl) ?_
  show Ex l G m_L_priority (pmV G m_L_priority (qd (.inr (some (.int 0))) (τ))) 0 [(0, .ref (5 + 16 * 0)), (1, .int (a0)), (2, .int (a1))] [] (σ) 2 12
  refine e_aload_n d_L_priority_0 rfl rfl ?_
  refine e_iload_n d_L_priority_1 rfl rfl ?_
  refine e_iload_n d_L_priority_2 rfl rfl ?_
  refine e_callVd (v := none) (σ' := τ) (q := 5) (a := 0) (As := [.int (a0), .int (a1)]) (st := []) 0 0 d_L_priority_3 cb_L_priority_25 iv_T_priority rfl ⟨by decide, rfl⟩ rfl (Nat.le_of_ble_eq_true rfl) (by decide) (by decide) (hct) ?_
  show Ex l G m_L_priority (pmV G m_L_priority (qd (.inr (some (.int 0))) (τ))) 6 [(0, .ref (5 + 16 * 0)), (1, .int (a0)), (2, .int (a1))] [] (τ) 0 0
  refine e_goto (tgt := 12) d_L_priority_6 (by decide) ?_
  refine e_iconst (v := 0) d_L_priority_12 (by decide) ?_
  exact e_iret d_L_priority_13 rfl ⟨rfl, rfl⟩
set_option maxHeartbeats 4000000 in
set_option maxRecDepth 100000 in
theorem ct_L_priority_1 {l : Launch} (hl0 : l.stackTraces = false) {G : LG} {σ : HS} {τ : HS} {a0 : Int32} {a1 : Int32} (hct : Ct l G m_T_priority [.ref (5 + 16 * 0), .int (a0), .int (a1)] σ (qd (.inl 0) τ))  : Ct l G m_L_priority [.ref (5 + 16 * 0), .int (a0), .int (a1)] (σ) (qd (.inr (some (.int 1))) τ) := by
  refine Ct.ofH hl0 rfl rfl (Nat.le_of_ble_eq_true rfl) ?_
  show Ex l G m_L_priority (pmV G m_L_priority (qd (.inr (some (.int 1))) τ)) 0 [(0, .ref (5 + 16 * 0)), (1, .int (a0)), (2, .int (a1))] [] (σ) 2 12
  refine e_aload_n d_L_priority_0 rfl rfl ?_
  refine e_iload_n d_L_priority_1 rfl rfl ?_
  refine e_iload_n d_L_priority_2 rfl rfl ?_
  refine e_callVc (kx := 0) (τ := τ) (q := 5) (a := 0) (As := [.int (a0), .int (a1)]) (st := []) 0 0 d_L_priority_3 cb_L_priority_25 iv_T_priority rfl ⟨by decide, rfl⟩ rfl (Nat.le_of_ble_eq_true rfl) (by decide) (by decide) hct [] [] (0, 6, 9, 13) rfl (fun _ h => absurd h List.not_mem_nil) (by decide +kernel) (by decide) cl_L_13 (by decide +kernel) (len := 1) ⟨3, by decide, Or.inr ⟨3, rfl, d_L_priority_9, rfl⟩⟩ ?_
  show Ex l G m_L_priority (pmV G m_L_priority (qd (.inr (some (.int 1))) τ)) 10 [] [] (τ) 0 0
  refine e_iconst (v := 1) d_L_priority_10 (by decide) ?_
  exact e_iret d_L_priority_11 rfl ⟨rfl, rfl⟩
theorem cw_L_priority {l : Launch} (hl0 : l.stackTraces = false) {G : LG} {σ τ : HS} {a0 : Int32} {a1 : Int32} {k : Nat} (hk : k ≤ 1) (hct : Ct l G m_T_priority [.ref (5 + 16 * 0), .int (a0), .int (a1)] σ (qd (ansV k) τ)) : Ct l G m_L_priority [.ref (5 + 16 * 0), .int (a0), .int (a1)] σ (qd (.inr (some (.int (nI k)))) (τ)) := by
  match k, hk, hct with
  | 0, _, hct => exact ct_L_priority_0 hl0 hct
  | 1, _, hct => exact ct_L_priority_1 hl0 hct
  | k + 2, hk, _ => omega
set_option maxHeartbeats 4000000 in
set_option maxRecDepth 100000 in
theorem ct_L_round_0 {l : Launch} (hl0 : l.stackTraces = false) {G : LG} {σ : HS} {τ : HS} {x : Int32} {a0 : Int32} (hO : hl τ 9 2 = 1) (hct : Ct l G m_T_round [.ref (5 + 16 * 0), .int (a0)] σ (qd (.inr (some (.int x))) τ))  : Ct l G m_L_round [.ref (5 + 16 * 0), .int (a0), .ref (9 + 16 * 2)] (σ) (qd (.inr (some (.int 0))) (sJ τ 9 2 0 ((x).toInt64))) := by
  refine Ct.ofH hl0 rfl rfl (Nat.le_of_ble_eq_true rfl) ?_
  show Ex l G m_L_round (pmV G m_L_round (qd (.inr (some (.int 0))) (sJ τ 9 2 0 ((x).toInt64)))) 0 [(0, .ref (5 + 16 * 0)), (1, .int (a0)), (2, .ref (9 + 16 * 2))] [] (σ) 1 6
  refine e_aload_n d_L_round_0 rfl rfl ?_
  refine e_iconst (v := 0) d_L_round_1 (by decide) ?_
  refine e_aload_n d_L_round_2 rfl rfl ?_
  refine e_iload_n d_L_round_3 rfl rfl ?_
  refine e_callVd (v := some (.int (x))) (σ' := τ) (q := 5) (a := 0) (As := [.int (a0)]) (st := [.int (0), .ref (9 + 16 * 2)]) 0 0 d_L_round_4 cb_L_round_29 iv_T_round rfl ⟨by decide, rfl⟩ rfl (Nat.le_of_ble_eq_true rfl) (by decide) (by decide) (hct) ?_
  show Ex l G m_L_round (pmV G m_L_round (qd (.inr (some (.int 0))) (sJ τ 9 2 0 ((x).toInt64)))) 7 [(0, .ref (5 + 16 * 0)), (1, .int (a0)), (2, .ref (9 + 16 * 2))] [.int (x), .int (0), .ref (9 + 16 * 2)] (τ) 0 0
  refine e_i2l d_L_round_7 ?_
  refine e_last d_L_round_8 (by rw [hO]; unfold vp_in; decide +kernel) ?_
  rw [show (0 : Int32).toNatClampNeg = 0 from by decide +kernel]
  refine e_goto (tgt := 15) d_L_round_9 (by decide) ?_
  refine e_iconst (v := 0) d_L_round_15 (by decide) ?_
  exact e_iret d_L_round_16 rfl ⟨rfl, rfl⟩
set_option maxHeartbeats 4000000 in
set_option maxRecDepth 100000 in
theorem ct_L_round_1 {l : Launch} (hl0 : l.stackTraces = false) {G : LG} {σ : HS} {τ : HS} {a0 : Int32} (hct : Ct l G m_T_round [.ref (5 + 16 * 0), .int (a0)] σ (qd (.inl 0) τ))  : Ct l G m_L_round [.ref (5 + 16 * 0), .int (a0), .ref (9 + 16 * 2)] (σ) (qd (.inr (some (.int 1))) τ) := by
  refine Ct.ofH hl0 rfl rfl (Nat.le_of_ble_eq_true rfl) ?_
  show Ex l G m_L_round (pmV G m_L_round (qd (.inr (some (.int 1))) τ)) 0 [(0, .ref (5 + 16 * 0)), (1, .int (a0)), (2, .ref (9 + 16 * 2))] [] (σ) 1 6
  refine e_aload_n d_L_round_0 rfl rfl ?_
  refine e_iconst (v := 0) d_L_round_1 (by decide) ?_
  refine e_aload_n d_L_round_2 rfl rfl ?_
  refine e_iload_n d_L_round_3 rfl rfl ?_
  refine e_callVc (kx := 0) (τ := τ) (q := 5) (a := 0) (As := [.int (a0)]) (st := [.int (0), .ref (9 + 16 * 2)]) 0 0 d_L_round_4 cb_L_round_29 iv_T_round rfl ⟨by decide, rfl⟩ rfl (Nat.le_of_ble_eq_true rfl) (by decide) (by decide) hct [] [] (0, 9, 12, 13) rfl (fun _ h => absurd h List.not_mem_nil) (by decide +kernel) (by decide) cl_L_13 (by decide +kernel) (len := 1) ⟨3, by decide, Or.inr ⟨3, rfl, d_L_round_12, rfl⟩⟩ ?_
  show Ex l G m_L_round (pmV G m_L_round (qd (.inr (some (.int 1))) τ)) 13 [] [] (τ) 0 0
  refine e_iconst (v := 1) d_L_round_13 (by decide) ?_
  exact e_iret d_L_round_14 rfl ⟨rfl, rfl⟩
theorem cw_L_round {l : Launch} (hl0 : l.stackTraces = false) {G : LG} {σ τ : HS} {x : Int32} {a0 : Int32} {k : Nat} (hk : k ≤ 1) (hO : hl τ 9 2 = 1) (hct : Ct l G m_T_round [.ref (5 + 16 * 0), .int (a0)] σ (qd (ansI k x) τ)) : Ct l G m_L_round [.ref (5 + 16 * 0), .int (a0), .ref (9 + 16 * 2)] σ (qd (.inr (some (.int (nI k)))) (outS k τ ((x).toInt64))) := by
  match k, hk, hct with
  | 0, _, hct => exact ct_L_round_0 hl0 hO hct
  | 1, _, hct => exact ct_L_round_1 hl0 hct
  | k + 2, hk, _ => omega
set_option maxHeartbeats 4000000 in
set_option maxRecDepth 100000 in
theorem ct_L_state_0 {l : Launch} (hl0 : l.stackTraces = false) {G : LG} {σ : HS} {τ : HS} {x : Int32} {a0 : Int32} {a1 : Int32} (hO : hl τ 9 2 = 1) (hct : Ct l G m_T_state [.ref (5 + 16 * 0), .int (a0), .int (a1)] σ (qd (.inr (some (.int x))) τ))  : Ct l G m_L_state [.ref (5 + 16 * 0), .int (a0), .int (a1), .ref (9 + 16 * 2)] (σ) (qd (.inr (some (.int 0))) (sJ τ 9 2 0 ((x).toInt64))) := by
  refine Ct.ofH hl0 rfl rfl (Nat.le_of_ble_eq_true rfl) ?_
  show Ex l G m_L_state (pmV G m_L_state (qd (.inr (some (.int 0))) (sJ τ 9 2 0 ((x).toInt64)))) 0 [(0, .ref (5 + 16 * 0)), (1, .int (a0)), (2, .int (a1)), (3, .ref (9 + 16 * 2))] [] (σ) 2 12
  refine e_aload_n d_L_state_0 rfl rfl ?_
  refine e_iconst (v := 0) d_L_state_1 (by decide) ?_
  refine e_aload_n d_L_state_2 rfl rfl ?_
  refine e_iload_n d_L_state_3 rfl rfl ?_
  refine e_iload_n d_L_state_4 rfl rfl ?_
  refine e_callVd (v := some (.int (x))) (σ' := τ) (q := 5) (a := 0) (As := [.int (a0), .int (a1)]) (st := [.int (0), .ref (9 + 16 * 2)]) 0 0 d_L_state_5 cb_L_state_33 iv_T_state rfl ⟨by decide, rfl⟩ rfl (Nat.le_of_ble_eq_true rfl) (by decide) (by decide) (hct) ?_
  show Ex l G m_L_state (pmV G m_L_state (qd (.inr (some (.int 0))) (sJ τ 9 2 0 ((x).toInt64)))) 8 [(0, .ref (5 + 16 * 0)), (1, .int (a0)), (2, .int (a1)), (3, .ref (9 + 16 * 2))] [.int (x), .int (0), .ref (9 + 16 * 2)] (τ) 0 0
  refine e_i2l d_L_state_8 ?_
  refine e_last d_L_state_9 (by rw [hO]; unfold vp_in; decide +kernel) ?_
  rw [show (0 : Int32).toNatClampNeg = 0 from by decide +kernel]
  refine e_goto (tgt := 17) d_L_state_10 (by decide) ?_
  refine e_iconst (v := 0) d_L_state_17 (by decide) ?_
  exact e_iret d_L_state_18 rfl ⟨rfl, rfl⟩
set_option maxHeartbeats 4000000 in
set_option maxRecDepth 100000 in
theorem ct_L_state_1 {l : Launch} (hl0 : l.stackTraces = false) {G : LG} {σ : HS} {τ : HS} {a0 : Int32} {a1 : Int32} (hct : Ct l G m_T_state [.ref (5 + 16 * 0), .int (a0), .int (a1)] σ (qd (.inl 0) τ))  : Ct l G m_L_state [.ref (5 + 16 * 0), .int (a0), .int (a1), .ref (9 + 16 * 2)] (σ) (qd (.inr (some (.int 1))) τ) := by
  refine Ct.ofH hl0 rfl rfl (Nat.le_of_ble_eq_true rfl) ?_
  show Ex l G m_L_state (pmV G m_L_state (qd (.inr (some (.int 1))) τ)) 0 [(0, .ref (5 + 16 * 0)), (1, .int (a0)), (2, .int (a1)), (3, .ref (9 + 16 * 2))] [] (σ) 2 12
  refine e_aload_n d_L_state_0 rfl rfl ?_
  refine e_iconst (v := 0) d_L_state_1 (by decide) ?_
  refine e_aload_n d_L_state_2 rfl rfl ?_
  refine e_iload_n d_L_state_3 rfl rfl ?_
  refine e_iload_n d_L_state_4 rfl rfl ?_
  refine e_callVc (kx := 0) (τ := τ) (q := 5) (a := 0) (As := [.int (a0), .int (a1)]) (st := [.int (0), .ref (9 + 16 * 2)]) 0 0 d_L_state_5 cb_L_state_33 iv_T_state rfl ⟨by decide, rfl⟩ rfl (Nat.le_of_ble_eq_true rfl) (by decide) (by decide) hct [] [] (0, 10, 13, 13) rfl (fun _ h => absurd h List.not_mem_nil) (by decide +kernel) (by decide) cl_L_13 (by decide +kernel) (len := 2) ⟨4, by decide, Or.inl ⟨d_L_state_13, rfl⟩⟩ ?_
  show Ex l G m_L_state (pmV G m_L_state (qd (.inr (some (.int 1))) τ)) 15 [] [] (τ) 0 0
  refine e_iconst (v := 1) d_L_state_15 (by decide) ?_
  exact e_iret d_L_state_16 rfl ⟨rfl, rfl⟩
theorem cw_L_state {l : Launch} (hl0 : l.stackTraces = false) {G : LG} {σ τ : HS} {x : Int32} {a0 : Int32} {a1 : Int32} {k : Nat} (hk : k ≤ 1) (hO : hl τ 9 2 = 1) (hct : Ct l G m_T_state [.ref (5 + 16 * 0), .int (a0), .int (a1)] σ (qd (ansI k x) τ)) : Ct l G m_L_state [.ref (5 + 16 * 0), .int (a0), .int (a1), .ref (9 + 16 * 2)] σ (qd (.inr (some (.int (nI k)))) (outS k τ ((x).toInt64))) := by
  match k, hk, hct with
  | 0, _, hct => exact ct_L_state_0 hl0 hO hct
  | 1, _, hct => exact ct_L_state_1 hl0 hct
  | k + 2, hk, _ => omega
set_option maxHeartbeats 4000000 in
set_option maxRecDepth 100000 in
theorem ct_L_root_0 {l : Launch} (hl0 : l.stackTraces = false) {G : LG} {σ : HS} {τ : HS} {x : Int32} {a0 : Int32} (hO : hl τ 9 2 = 1) (hct : Ct l G m_T_root [.ref (5 + 16 * 0), .int (a0)] σ (qd (.inr (some (.int x))) τ))  : Ct l G m_L_root [.ref (5 + 16 * 0), .int (a0), .ref (9 + 16 * 2)] (σ) (qd (.inr (some (.int 0))) (sJ τ 9 2 0 ((x).toInt64))) := by
  refine Ct.ofH hl0 rfl rfl (Nat.le_of_ble_eq_true rfl) ?_
  show Ex l G m_L_root (pmV G m_L_root (qd (.inr (some (.int 0))) (sJ τ 9 2 0 ((x).toInt64)))) 0 [(0, .ref (5 + 16 * 0)), (1, .int (a0)), (2, .ref (9 + 16 * 2))] [] (σ) 1 6
  refine e_aload_n d_L_root_0 rfl rfl ?_
  refine e_iconst (v := 0) d_L_root_1 (by decide) ?_
  refine e_aload_n d_L_root_2 rfl rfl ?_
  refine e_iload_n d_L_root_3 rfl rfl ?_
  refine e_callVd (v := some (.int (x))) (σ' := τ) (q := 5) (a := 0) (As := [.int (a0)]) (st := [.int (0), .ref (9 + 16 * 2)]) 0 0 d_L_root_4 cb_L_root_37 iv_T_root rfl ⟨by decide, rfl⟩ rfl (Nat.le_of_ble_eq_true rfl) (by decide) (by decide) (hct) ?_
  show Ex l G m_L_root (pmV G m_L_root (qd (.inr (some (.int 0))) (sJ τ 9 2 0 ((x).toInt64)))) 7 [(0, .ref (5 + 16 * 0)), (1, .int (a0)), (2, .ref (9 + 16 * 2))] [.int (x), .int (0), .ref (9 + 16 * 2)] (τ) 0 0
  refine e_i2l d_L_root_7 ?_
  refine e_last d_L_root_8 (by rw [hO]; unfold vp_in; decide +kernel) ?_
  rw [show (0 : Int32).toNatClampNeg = 0 from by decide +kernel]
  refine e_goto (tgt := 15) d_L_root_9 (by decide) ?_
  refine e_iconst (v := 0) d_L_root_15 (by decide) ?_
  exact e_iret d_L_root_16 rfl ⟨rfl, rfl⟩
set_option maxHeartbeats 4000000 in
set_option maxRecDepth 100000 in
theorem ct_L_root_1 {l : Launch} (hl0 : l.stackTraces = false) {G : LG} {σ : HS} {τ : HS} {a0 : Int32} (hct : Ct l G m_T_root [.ref (5 + 16 * 0), .int (a0)] σ (qd (.inl 0) τ))  : Ct l G m_L_root [.ref (5 + 16 * 0), .int (a0), .ref (9 + 16 * 2)] (σ) (qd (.inr (some (.int 1))) τ) := by
  refine Ct.ofH hl0 rfl rfl (Nat.le_of_ble_eq_true rfl) ?_
  show Ex l G m_L_root (pmV G m_L_root (qd (.inr (some (.int 1))) τ)) 0 [(0, .ref (5 + 16 * 0)), (1, .int (a0)), (2, .ref (9 + 16 * 2))] [] (σ) 1 6
  refine e_aload_n d_L_root_0 rfl rfl ?_
  refine e_iconst (v := 0) d_L_root_1 (by decide) ?_
  refine e_aload_n d_L_root_2 rfl rfl ?_
  refine e_iload_n d_L_root_3 rfl rfl ?_
  refine e_callVc (kx := 0) (τ := τ) (q := 5) (a := 0) (As := [.int (a0)]) (st := [.int (0), .ref (9 + 16 * 2)]) 0 0 d_L_root_4 cb_L_root_37 iv_T_root rfl ⟨by decide, rfl⟩ rfl (Nat.le_of_ble_eq_true rfl) (by decide) (by decide) hct [] [] (0, 9, 12, 13) rfl (fun _ h => absurd h List.not_mem_nil) (by decide +kernel) (by decide) cl_L_13 (by decide +kernel) (len := 1) ⟨3, by decide, Or.inr ⟨3, rfl, d_L_root_12, rfl⟩⟩ ?_
  show Ex l G m_L_root (pmV G m_L_root (qd (.inr (some (.int 1))) τ)) 13 [] [] (τ) 0 0
  refine e_iconst (v := 1) d_L_root_13 (by decide) ?_
  exact e_iret d_L_root_14 rfl ⟨rfl, rfl⟩
theorem cw_L_root {l : Launch} (hl0 : l.stackTraces = false) {G : LG} {σ τ : HS} {x : Int32} {a0 : Int32} {k : Nat} (hk : k ≤ 1) (hO : hl τ 9 2 = 1) (hct : Ct l G m_T_root [.ref (5 + 16 * 0), .int (a0)] σ (qd (ansI k x) τ)) : Ct l G m_L_root [.ref (5 + 16 * 0), .int (a0), .ref (9 + 16 * 2)] σ (qd (.inr (some (.int (nI k)))) (outS k τ ((x).toInt64))) := by
  match k, hk, hct with
  | 0, _, hct => exact ct_L_root_0 hl0 hO hct
  | 1, _, hct => exact ct_L_root_1 hl0 hct
  | k + 2, hk, _ => omega
set_option maxHeartbeats 4000000 in
set_option maxRecDepth 100000 in
theorem ct_L_steps_0 {l : Launch} (hl0 : l.stackTraces = false) {G : LG} {σ : HS} {τ : HS} {x : Int32} {a0 : Int32} (hO : hl τ 9 2 = 1) (hct : Ct l G m_T_steps [.ref (5 + 16 * 0), .int (a0)] σ (qd (.inr (some (.int x))) τ))  : Ct l G m_L_steps [.ref (5 + 16 * 0), .int (a0), .ref (9 + 16 * 2)] (σ) (qd (.inr (some (.int 0))) (sJ τ 9 2 0 ((x).toInt64))) := by
  refine Ct.ofH hl0 rfl rfl (Nat.le_of_ble_eq_true rfl) ?_
  show Ex l G m_L_steps (pmV G m_L_steps (qd (.inr (some (.int 0))) (sJ τ 9 2 0 ((x).toInt64)))) 0 [(0, .ref (5 + 16 * 0)), (1, .int (a0)), (2, .ref (9 + 16 * 2))] [] (σ) 1 6
  refine e_aload_n d_L_steps_0 rfl rfl ?_
  refine e_iconst (v := 0) d_L_steps_1 (by decide) ?_
  refine e_aload_n d_L_steps_2 rfl rfl ?_
  refine e_iload_n d_L_steps_3 rfl rfl ?_
  refine e_callVd (v := some (.int (x))) (σ' := τ) (q := 5) (a := 0) (As := [.int (a0)]) (st := [.int (0), .ref (9 + 16 * 2)]) 0 0 d_L_steps_4 cb_L_steps_40 iv_T_steps rfl ⟨by decide, rfl⟩ rfl (Nat.le_of_ble_eq_true rfl) (by decide) (by decide) (hct) ?_
  show Ex l G m_L_steps (pmV G m_L_steps (qd (.inr (some (.int 0))) (sJ τ 9 2 0 ((x).toInt64)))) 7 [(0, .ref (5 + 16 * 0)), (1, .int (a0)), (2, .ref (9 + 16 * 2))] [.int (x), .int (0), .ref (9 + 16 * 2)] (τ) 0 0
  refine e_i2l d_L_steps_7 ?_
  refine e_last d_L_steps_8 (by rw [hO]; unfold vp_in; decide +kernel) ?_
  rw [show (0 : Int32).toNatClampNeg = 0 from by decide +kernel]
  refine e_goto (tgt := 15) d_L_steps_9 (by decide) ?_
  refine e_iconst (v := 0) d_L_steps_15 (by decide) ?_
  exact e_iret d_L_steps_16 rfl ⟨rfl, rfl⟩
set_option maxHeartbeats 4000000 in
set_option maxRecDepth 100000 in
theorem ct_L_steps_1 {l : Launch} (hl0 : l.stackTraces = false) {G : LG} {σ : HS} {τ : HS} {a0 : Int32} (hct : Ct l G m_T_steps [.ref (5 + 16 * 0), .int (a0)] σ (qd (.inl 0) τ))  : Ct l G m_L_steps [.ref (5 + 16 * 0), .int (a0), .ref (9 + 16 * 2)] (σ) (qd (.inr (some (.int 1))) τ) := by
  refine Ct.ofH hl0 rfl rfl (Nat.le_of_ble_eq_true rfl) ?_
  show Ex l G m_L_steps (pmV G m_L_steps (qd (.inr (some (.int 1))) τ)) 0 [(0, .ref (5 + 16 * 0)), (1, .int (a0)), (2, .ref (9 + 16 * 2))] [] (σ) 1 6
  refine e_aload_n d_L_steps_0 rfl rfl ?_
  refine e_iconst (v := 0) d_L_steps_1 (by decide) ?_
  refine e_aload_n d_L_steps_2 rfl rfl ?_
  refine e_iload_n d_L_steps_3 rfl rfl ?_
  refine e_callVc (kx := 0) (τ := τ) (q := 5) (a := 0) (As := [.int (a0)]) (st := [.int (0), .ref (9 + 16 * 2)]) 0 0 d_L_steps_4 cb_L_steps_40 iv_T_steps rfl ⟨by decide, rfl⟩ rfl (Nat.le_of_ble_eq_true rfl) (by decide) (by decide) hct [] [] (0, 9, 12, 13) rfl (fun _ h => absurd h List.not_mem_nil) (by decide +kernel) (by decide) cl_L_13 (by decide +kernel) (len := 1) ⟨3, by decide, Or.inr ⟨3, rfl, d_L_steps_12, rfl⟩⟩ ?_
  show Ex l G m_L_steps (pmV G m_L_steps (qd (.inr (some (.int 1))) τ)) 13 [] [] (τ) 0 0
  refine e_iconst (v := 1) d_L_steps_13 (by decide) ?_
  exact e_iret d_L_steps_14 rfl ⟨rfl, rfl⟩
theorem cw_L_steps {l : Launch} (hl0 : l.stackTraces = false) {G : LG} {σ τ : HS} {x : Int32} {a0 : Int32} {k : Nat} (hk : k ≤ 1) (hO : hl τ 9 2 = 1) (hct : Ct l G m_T_steps [.ref (5 + 16 * 0), .int (a0)] σ (qd (ansI k x) τ)) : Ct l G m_L_steps [.ref (5 + 16 * 0), .int (a0), .ref (9 + 16 * 2)] σ (qd (.inr (some (.int (nI k)))) (outS k τ ((x).toInt64))) := by
  match k, hk, hct with
  | 0, _, hct => exact ct_L_steps_0 hl0 hO hct
  | 1, _, hct => exact ct_L_steps_1 hl0 hct
  | k + 2, hk, _ => omega
set_option maxHeartbeats 4000000 in
set_option maxRecDepth 100000 in
theorem ct_L_kept_0 {l : Launch} (hl0 : l.stackTraces = false) {G : LG} {σ : HS} {τ : HS} {x : Int32} {a0 : Int32} {a1 : Int32} (hO : hl τ 9 2 = 1) (hct : Ct l G m_T_kept [.ref (5 + 16 * 0), .int (a0), .int (a1)] σ (qd (.inr (some (.int x))) τ))  : Ct l G m_L_kept [.ref (5 + 16 * 0), .int (a0), .int (a1), .ref (9 + 16 * 2)] (σ) (qd (.inr (some (.int 0))) (sJ τ 9 2 0 ((x).toInt64))) := by
  refine Ct.ofH hl0 rfl rfl (Nat.le_of_ble_eq_true rfl) ?_
  show Ex l G m_L_kept (pmV G m_L_kept (qd (.inr (some (.int 0))) (sJ τ 9 2 0 ((x).toInt64)))) 0 [(0, .ref (5 + 16 * 0)), (1, .int (a0)), (2, .int (a1)), (3, .ref (9 + 16 * 2))] [] (σ) 2 12
  refine e_aload_n d_L_kept_0 rfl rfl ?_
  refine e_iconst (v := 0) d_L_kept_1 (by decide) ?_
  refine e_aload_n d_L_kept_2 rfl rfl ?_
  refine e_iload_n d_L_kept_3 rfl rfl ?_
  refine e_iload_n d_L_kept_4 rfl rfl ?_
  refine e_callVd (v := some (.int (x))) (σ' := τ) (q := 5) (a := 0) (As := [.int (a0), .int (a1)]) (st := [.int (0), .ref (9 + 16 * 2)]) 0 0 d_L_kept_5 cb_L_kept_43 iv_T_kept rfl ⟨by decide, rfl⟩ rfl (Nat.le_of_ble_eq_true rfl) (by decide) (by decide) (hct) ?_
  show Ex l G m_L_kept (pmV G m_L_kept (qd (.inr (some (.int 0))) (sJ τ 9 2 0 ((x).toInt64)))) 8 [(0, .ref (5 + 16 * 0)), (1, .int (a0)), (2, .int (a1)), (3, .ref (9 + 16 * 2))] [.int (x), .int (0), .ref (9 + 16 * 2)] (τ) 0 0
  refine e_i2l d_L_kept_8 ?_
  refine e_last d_L_kept_9 (by rw [hO]; unfold vp_in; decide +kernel) ?_
  rw [show (0 : Int32).toNatClampNeg = 0 from by decide +kernel]
  refine e_goto (tgt := 17) d_L_kept_10 (by decide) ?_
  refine e_iconst (v := 0) d_L_kept_17 (by decide) ?_
  exact e_iret d_L_kept_18 rfl ⟨rfl, rfl⟩
set_option maxHeartbeats 4000000 in
set_option maxRecDepth 100000 in
theorem ct_L_kept_1 {l : Launch} (hl0 : l.stackTraces = false) {G : LG} {σ : HS} {τ : HS} {a0 : Int32} {a1 : Int32} (hct : Ct l G m_T_kept [.ref (5 + 16 * 0), .int (a0), .int (a1)] σ (qd (.inl 0) τ))  : Ct l G m_L_kept [.ref (5 + 16 * 0), .int (a0), .int (a1), .ref (9 + 16 * 2)] (σ) (qd (.inr (some (.int 1))) τ) := by
  refine Ct.ofH hl0 rfl rfl (Nat.le_of_ble_eq_true rfl) ?_
  show Ex l G m_L_kept (pmV G m_L_kept (qd (.inr (some (.int 1))) τ)) 0 [(0, .ref (5 + 16 * 0)), (1, .int (a0)), (2, .int (a1)), (3, .ref (9 + 16 * 2))] [] (σ) 2 12
  refine e_aload_n d_L_kept_0 rfl rfl ?_
  refine e_iconst (v := 0) d_L_kept_1 (by decide) ?_
  refine e_aload_n d_L_kept_2 rfl rfl ?_
  refine e_iload_n d_L_kept_3 rfl rfl ?_
  refine e_iload_n d_L_kept_4 rfl rfl ?_
  refine e_callVc (kx := 0) (τ := τ) (q := 5) (a := 0) (As := [.int (a0), .int (a1)]) (st := [.int (0), .ref (9 + 16 * 2)]) 0 0 d_L_kept_5 cb_L_kept_43 iv_T_kept rfl ⟨by decide, rfl⟩ rfl (Nat.le_of_ble_eq_true rfl) (by decide) (by decide) hct [] [] (0, 10, 13, 13) rfl (fun _ h => absurd h List.not_mem_nil) (by decide +kernel) (by decide) cl_L_13 (by decide +kernel) (len := 2) ⟨4, by decide, Or.inl ⟨d_L_kept_13, rfl⟩⟩ ?_
  show Ex l G m_L_kept (pmV G m_L_kept (qd (.inr (some (.int 1))) τ)) 15 [] [] (τ) 0 0
  refine e_iconst (v := 1) d_L_kept_15 (by decide) ?_
  exact e_iret d_L_kept_16 rfl ⟨rfl, rfl⟩
theorem cw_L_kept {l : Launch} (hl0 : l.stackTraces = false) {G : LG} {σ τ : HS} {x : Int32} {a0 : Int32} {a1 : Int32} {k : Nat} (hk : k ≤ 1) (hO : hl τ 9 2 = 1) (hct : Ct l G m_T_kept [.ref (5 + 16 * 0), .int (a0), .int (a1)] σ (qd (ansI k x) τ)) : Ct l G m_L_kept [.ref (5 + 16 * 0), .int (a0), .int (a1), .ref (9 + 16 * 2)] σ (qd (.inr (some (.int (nI k)))) (outS k τ ((x).toInt64))) := by
  match k, hk, hct with
  | 0, _, hct => exact ct_L_kept_0 hl0 hO hct
  | 1, _, hct => exact ct_L_kept_1 hl0 hct
  | k + 2, hk, _ => omega
set_option maxHeartbeats 4000000 in
set_option maxRecDepth 100000 in
theorem ct_L_exchange_0 {l : Launch} (hl0 : l.stackTraces = false) {G : LG} {σ : HS} {τ : HS} {x : Int64} {a0 : Int32} {a1 : Int64} {a2 : Int32} {a3 : Int32} (hO : hl τ 9 2 = 1) (hct : Ct l G m_T_exchange [.ref (5 + 16 * 0), .int (a0), .long (a1), .int (a2), .int (a3)] σ (qd (.inr (some (.long x))) τ))  : Ct l G m_L_exchange [.ref (5 + 16 * 0), .int (a0), .long (a1), .int (a2), .int (a3), .ref (9 + 16 * 2)] (σ) (qd (.inr (some (.int 0))) (sJ τ 9 2 0 (x))) := by
  refine Ct.ofH hl0 rfl rfl (Nat.le_of_ble_eq_true rfl) ?_
  show Ex l G m_L_exchange (pmV G m_L_exchange (qd (.inr (some (.int 0))) (sJ τ 9 2 0 (x)))) 0 [(0, .ref (5 + 16 * 0)), (1, .int (a0)), (2, .long (a1)), (4, .int (a2)), (5, .int (a3)), (6, .ref (9 + 16 * 2))] [] (σ) 2 12
  refine e_aload d_L_exchange_0 rfl ?_
  refine e_iconst (v := 0) d_L_exchange_2 (by decide) ?_
  refine e_aload_n d_L_exchange_3 rfl rfl ?_
  refine e_iload_n d_L_exchange_4 rfl rfl ?_
  refine e_lload_n d_L_exchange_5 rfl rfl ?_
  refine e_iload d_L_exchange_6 rfl ?_
  refine e_iload d_L_exchange_8 rfl ?_
  refine e_callVd (v := some (.long (x))) (σ' := τ) (q := 5) (a := 0) (As := [.int (a0), .long (a1), .int (a2), .int (a3)]) (st := [.int (0), .ref (9 + 16 * 2)]) 0 0 d_L_exchange_10 cb_L_exchange_46 iv_T_exchange rfl ⟨by decide, rfl⟩ rfl (Nat.le_of_ble_eq_true rfl) (by decide) (by decide) (hct) ?_
  show Ex l G m_L_exchange (pmV G m_L_exchange (qd (.inr (some (.int 0))) (sJ τ 9 2 0 (x)))) 13 [(0, .ref (5 + 16 * 0)), (1, .int (a0)), (2, .long (a1)), (4, .int (a2)), (5, .int (a3)), (6, .ref (9 + 16 * 2))] [.long (x), .int (0), .ref (9 + 16 * 2)] (τ) 0 0
  refine e_last d_L_exchange_13 (by rw [hO]; unfold vp_in; decide +kernel) ?_
  rw [show (0 : Int32).toNatClampNeg = 0 from by decide +kernel]
  refine e_goto (tgt := 29) d_L_exchange_14 (by decide) ?_
  refine e_iconst (v := 0) d_L_exchange_29 (by decide) ?_
  exact e_iret d_L_exchange_30 rfl ⟨rfl, rfl⟩
set_option maxHeartbeats 4000000 in
set_option maxRecDepth 100000 in
theorem ct_L_exchange_1 {l : Launch} (hl0 : l.stackTraces = false) {G : LG} {σ : HS} {τ : HS} {a0 : Int32} {a1 : Int64} {a2 : Int32} {a3 : Int32} (hct : Ct l G m_T_exchange [.ref (5 + 16 * 0), .int (a0), .long (a1), .int (a2), .int (a3)] σ (qd (.inl 0) τ))  : Ct l G m_L_exchange [.ref (5 + 16 * 0), .int (a0), .long (a1), .int (a2), .int (a3), .ref (9 + 16 * 2)] (σ) (qd (.inr (some (.int 1))) τ) := by
  refine Ct.ofH hl0 rfl rfl (Nat.le_of_ble_eq_true rfl) ?_
  show Ex l G m_L_exchange (pmV G m_L_exchange (qd (.inr (some (.int 1))) τ)) 0 [(0, .ref (5 + 16 * 0)), (1, .int (a0)), (2, .long (a1)), (4, .int (a2)), (5, .int (a3)), (6, .ref (9 + 16 * 2))] [] (σ) 2 12
  refine e_aload d_L_exchange_0 rfl ?_
  refine e_iconst (v := 0) d_L_exchange_2 (by decide) ?_
  refine e_aload_n d_L_exchange_3 rfl rfl ?_
  refine e_iload_n d_L_exchange_4 rfl rfl ?_
  refine e_lload_n d_L_exchange_5 rfl rfl ?_
  refine e_iload d_L_exchange_6 rfl ?_
  refine e_iload d_L_exchange_8 rfl ?_
  refine e_callVc (kx := 0) (τ := τ) (q := 5) (a := 0) (As := [.int (a0), .long (a1), .int (a2), .int (a3)]) (st := [.int (0), .ref (9 + 16 * 2)]) 0 0 d_L_exchange_10 cb_L_exchange_46 iv_T_exchange rfl ⟨by decide, rfl⟩ rfl (Nat.le_of_ble_eq_true rfl) (by decide) (by decide) hct [] [(0, 14, 21, 15), (0, 14, 25, 50)] (0, 14, 17, 13) rfl (fun _ h => absurd h List.not_mem_nil) (by decide +kernel) (by decide) cl_L_13 (by decide +kernel) (len := 2) ⟨7, by decide, Or.inl ⟨d_L_exchange_17, rfl⟩⟩ ?_
  show Ex l G m_L_exchange (pmV G m_L_exchange (qd (.inr (some (.int 1))) τ)) 19 [] [] (τ) 0 0
  refine e_iconst (v := 1) d_L_exchange_19 (by decide) ?_
  exact e_iret d_L_exchange_20 rfl ⟨rfl, rfl⟩
set_option maxHeartbeats 4000000 in
set_option maxRecDepth 100000 in
theorem ct_L_exchange_2 {l : Launch} (hl0 : l.stackTraces = false) {G : LG} {σ : HS} {τ : HS} {a0 : Int32} {a1 : Int64} {a2 : Int32} {a3 : Int32} (hct : Ct l G m_T_exchange [.ref (5 + 16 * 0), .int (a0), .long (a1), .int (a2), .int (a3)] σ (qd (.inl 1) τ))  : Ct l G m_L_exchange [.ref (5 + 16 * 0), .int (a0), .long (a1), .int (a2), .int (a3), .ref (9 + 16 * 2)] (σ) (qd (.inr (some (.int 2))) τ) := by
  refine Ct.ofH hl0 rfl rfl (Nat.le_of_ble_eq_true rfl) ?_
  show Ex l G m_L_exchange (pmV G m_L_exchange (qd (.inr (some (.int 2))) τ)) 0 [(0, .ref (5 + 16 * 0)), (1, .int (a0)), (2, .long (a1)), (4, .int (a2)), (5, .int (a3)), (6, .ref (9 + 16 * 2))] [] (σ) 2 12
  refine e_aload d_L_exchange_0 rfl ?_
  refine e_iconst (v := 0) d_L_exchange_2 (by decide) ?_
  refine e_aload_n d_L_exchange_3 rfl rfl ?_
  refine e_iload_n d_L_exchange_4 rfl rfl ?_
  refine e_lload_n d_L_exchange_5 rfl rfl ?_
  refine e_iload d_L_exchange_6 rfl ?_
  refine e_iload d_L_exchange_8 rfl ?_
  refine e_callVc (kx := 1) (τ := τ) (q := 5) (a := 0) (As := [.int (a0), .long (a1), .int (a2), .int (a3)]) (st := [.int (0), .ref (9 + 16 * 2)]) 0 0 d_L_exchange_10 cb_L_exchange_46 iv_T_exchange rfl ⟨by decide, rfl⟩ rfl (Nat.le_of_ble_eq_true rfl) (by decide) (by decide) hct [(0, 14, 17, 13)] [(0, 14, 25, 50)] (0, 14, 21, 15) rfl (List.forall_mem_cons.mpr ⟨⟨by decide, _, cl_L_13, by decide +kernel⟩, fun _ h => absurd h List.not_mem_nil⟩) (by decide +kernel) (by decide) cl_L_15 (by decide +kernel) (len := 2) ⟨7, by decide, Or.inl ⟨d_L_exchange_21, rfl⟩⟩ ?_
  show Ex l G m_L_exchange (pmV G m_L_exchange (qd (.inr (some (.int 2))) τ)) 23 [] [] (τ) 0 0
  refine e_iconst (v := 2) d_L_exchange_23 (by decide) ?_
  exact e_iret d_L_exchange_24 rfl ⟨rfl, rfl⟩
set_option maxHeartbeats 4000000 in
set_option maxRecDepth 100000 in
theorem ct_L_exchange_3 {l : Launch} (hl0 : l.stackTraces = false) {G : LG} {σ : HS} {τ : HS} {a0 : Int32} {a1 : Int64} {a2 : Int32} {a3 : Int32} (hct : Ct l G m_T_exchange [.ref (5 + 16 * 0), .int (a0), .long (a1), .int (a2), .int (a3)] σ (qd (.inl 2) τ))  : Ct l G m_L_exchange [.ref (5 + 16 * 0), .int (a0), .long (a1), .int (a2), .int (a3), .ref (9 + 16 * 2)] (σ) (qd (.inr (some (.int 3))) τ) := by
  refine Ct.ofH hl0 rfl rfl (Nat.le_of_ble_eq_true rfl) ?_
  show Ex l G m_L_exchange (pmV G m_L_exchange (qd (.inr (some (.int 3))) τ)) 0 [(0, .ref (5 + 16 * 0)), (1, .int (a0)), (2, .long (a1)), (4, .int (a2)), (5, .int (a3)), (6, .ref (9 + 16 * 2))] [] (σ) 2 12
  refine e_aload d_L_exchange_0 rfl ?_
  refine e_iconst (v := 0) d_L_exchange_2 (by decide) ?_
  refine e_aload_n d_L_exchange_3 rfl rfl ?_
  refine e_iload_n d_L_exchange_4 rfl rfl ?_
  refine e_lload_n d_L_exchange_5 rfl rfl ?_
  refine e_iload d_L_exchange_6 rfl ?_
  refine e_iload d_L_exchange_8 rfl ?_
  refine e_callVc (kx := 2) (τ := τ) (q := 5) (a := 0) (As := [.int (a0), .long (a1), .int (a2), .int (a3)]) (st := [.int (0), .ref (9 + 16 * 2)]) 0 0 d_L_exchange_10 cb_L_exchange_46 iv_T_exchange rfl ⟨by decide, rfl⟩ rfl (Nat.le_of_ble_eq_true rfl) (by decide) (by decide) hct [(0, 14, 17, 13), (0, 14, 21, 15)] [] (0, 14, 25, 50) rfl (List.forall_mem_cons.mpr ⟨⟨by decide, _, cl_L_13, by decide +kernel⟩, List.forall_mem_cons.mpr ⟨⟨by decide, _, cl_L_15, by decide +kernel⟩, fun _ h => absurd h List.not_mem_nil⟩⟩) (by decide +kernel) (by decide) cl_L_50 (by decide +kernel) (len := 2) ⟨7, by decide, Or.inl ⟨d_L_exchange_25, rfl⟩⟩ ?_
  show Ex l G m_L_exchange (pmV G m_L_exchange (qd (.inr (some (.int 3))) τ)) 27 [] [] (τ) 0 0
  refine e_iconst (v := 3) d_L_exchange_27 (by decide) ?_
  exact e_iret d_L_exchange_28 rfl ⟨rfl, rfl⟩
theorem cw_L_exchange {l : Launch} (hl0 : l.stackTraces = false) {G : LG} {σ τ : HS} {x : Int64} {a0 : Int32} {a1 : Int64} {a2 : Int32} {a3 : Int32} {k : Nat} (hk : k ≤ 3) (hO : hl τ 9 2 = 1) (hct : Ct l G m_T_exchange [.ref (5 + 16 * 0), .int (a0), .long (a1), .int (a2), .int (a3)] σ (qd (ansJ k x) τ)) : Ct l G m_L_exchange [.ref (5 + 16 * 0), .int (a0), .long (a1), .int (a2), .int (a3), .ref (9 + 16 * 2)] σ (qd (.inr (some (.int (nI k)))) (outS k τ (x))) := by
  match k, hk, hct with
  | 0, _, hct => exact ct_L_exchange_0 hl0 hO hct
  | 1, _, hct => exact ct_L_exchange_1 hl0 hct
  | 2, _, hct => exact ct_L_exchange_2 hl0 hct
  | 3, _, hct => exact ct_L_exchange_3 hl0 hct
  | k + 4, hk, _ => omega
set_option maxHeartbeats 4000000 in
set_option maxRecDepth 100000 in
theorem ct_L_delay_0 {l : Launch} (hl0 : l.stackTraces = false) {G : LG} {σ : HS} {τ : HS} {x : Int64} {a0 : Int32} (hO : hl τ 9 2 = 1) (hct : Ct l G m_T_delay [.ref (5 + 16 * 0), .int (a0)] σ (qd (.inr (some (.long x))) τ))  : Ct l G m_L_delay [.ref (5 + 16 * 0), .int (a0), .ref (9 + 16 * 2)] (σ) (qd (.inr (some (.int 0))) (sJ τ 9 2 0 (x))) := by
  refine Ct.ofH hl0 rfl rfl (Nat.le_of_ble_eq_true rfl) ?_
  show Ex l G m_L_delay (pmV G m_L_delay (qd (.inr (some (.int 0))) (sJ τ 9 2 0 (x)))) 0 [(0, .ref (5 + 16 * 0)), (1, .int (a0)), (2, .ref (9 + 16 * 2))] [] (σ) 1 6
  refine e_aload_n d_L_delay_0 rfl rfl ?_
  refine e_iconst (v := 0) d_L_delay_1 (by decide) ?_
  refine e_aload_n d_L_delay_2 rfl rfl ?_
  refine e_iload_n d_L_delay_3 rfl rfl ?_
  refine e_callVd (v := some (.long (x))) (σ' := τ) (q := 5) (a := 0) (As := [.int (a0)]) (st := [.int (0), .ref (9 + 16 * 2)]) 0 0 d_L_delay_4 cb_L_delay_52 iv_T_delay rfl ⟨by decide, rfl⟩ rfl (Nat.le_of_ble_eq_true rfl) (by decide) (by decide) (hct) ?_
  show Ex l G m_L_delay (pmV G m_L_delay (qd (.inr (some (.int 0))) (sJ τ 9 2 0 (x)))) 7 [(0, .ref (5 + 16 * 0)), (1, .int (a0)), (2, .ref (9 + 16 * 2))] [.long (x), .int (0), .ref (9 + 16 * 2)] (τ) 0 0
  refine e_last d_L_delay_7 (by rw [hO]; unfold vp_in; decide +kernel) ?_
  rw [show (0 : Int32).toNatClampNeg = 0 from by decide +kernel]
  refine e_goto (tgt := 14) d_L_delay_8 (by decide) ?_
  refine e_iconst (v := 0) d_L_delay_14 (by decide) ?_
  exact e_iret d_L_delay_15 rfl ⟨rfl, rfl⟩
set_option maxHeartbeats 4000000 in
set_option maxRecDepth 100000 in
theorem ct_L_delay_1 {l : Launch} (hl0 : l.stackTraces = false) {G : LG} {σ : HS} {τ : HS} {a0 : Int32} (hct : Ct l G m_T_delay [.ref (5 + 16 * 0), .int (a0)] σ (qd (.inl 0) τ))  : Ct l G m_L_delay [.ref (5 + 16 * 0), .int (a0), .ref (9 + 16 * 2)] (σ) (qd (.inr (some (.int 1))) τ) := by
  refine Ct.ofH hl0 rfl rfl (Nat.le_of_ble_eq_true rfl) ?_
  show Ex l G m_L_delay (pmV G m_L_delay (qd (.inr (some (.int 1))) τ)) 0 [(0, .ref (5 + 16 * 0)), (1, .int (a0)), (2, .ref (9 + 16 * 2))] [] (σ) 1 6
  refine e_aload_n d_L_delay_0 rfl rfl ?_
  refine e_iconst (v := 0) d_L_delay_1 (by decide) ?_
  refine e_aload_n d_L_delay_2 rfl rfl ?_
  refine e_iload_n d_L_delay_3 rfl rfl ?_
  refine e_callVc (kx := 0) (τ := τ) (q := 5) (a := 0) (As := [.int (a0)]) (st := [.int (0), .ref (9 + 16 * 2)]) 0 0 d_L_delay_4 cb_L_delay_52 iv_T_delay rfl ⟨by decide, rfl⟩ rfl (Nat.le_of_ble_eq_true rfl) (by decide) (by decide) hct [] [] (0, 8, 11, 13) rfl (fun _ h => absurd h List.not_mem_nil) (by decide +kernel) (by decide) cl_L_13 (by decide +kernel) (len := 1) ⟨3, by decide, Or.inr ⟨3, rfl, d_L_delay_11, rfl⟩⟩ ?_
  show Ex l G m_L_delay (pmV G m_L_delay (qd (.inr (some (.int 1))) τ)) 12 [] [] (τ) 0 0
  refine e_iconst (v := 1) d_L_delay_12 (by decide) ?_
  exact e_iret d_L_delay_13 rfl ⟨rfl, rfl⟩
theorem cw_L_delay {l : Launch} (hl0 : l.stackTraces = false) {G : LG} {σ τ : HS} {x : Int64} {a0 : Int32} {k : Nat} (hk : k ≤ 1) (hO : hl τ 9 2 = 1) (hct : Ct l G m_T_delay [.ref (5 + 16 * 0), .int (a0)] σ (qd (ansJ k x) τ)) : Ct l G m_L_delay [.ref (5 + 16 * 0), .int (a0), .ref (9 + 16 * 2)] σ (qd (.inr (some (.int (nI k)))) (outS k τ (x))) := by
  match k, hk, hct with
  | 0, _, hct => exact ct_L_delay_0 hl0 hO hct
  | 1, _, hct => exact ct_L_delay_1 hl0 hct
  | k + 2, hk, _ => omega
set_option maxHeartbeats 4000000 in
set_option maxRecDepth 100000 in
theorem ct_L_offset_0 {l : Launch} (hl0 : l.stackTraces = false) {G : LG} {σ : HS} {τ : HS} {x : Int64} {a0 : Int32} (hO : hl τ 9 2 = 1) (hct : Ct l G m_T_offset [.ref (5 + 16 * 0), .int (a0)] σ (qd (.inr (some (.long x))) τ))  : Ct l G m_L_offset [.ref (5 + 16 * 0), .int (a0), .ref (9 + 16 * 2)] (σ) (qd (.inr (some (.int 0))) (sJ τ 9 2 0 (x))) := by
  refine Ct.ofH hl0 rfl rfl (Nat.le_of_ble_eq_true rfl) ?_
  show Ex l G m_L_offset (pmV G m_L_offset (qd (.inr (some (.int 0))) (sJ τ 9 2 0 (x)))) 0 [(0, .ref (5 + 16 * 0)), (1, .int (a0)), (2, .ref (9 + 16 * 2))] [] (σ) 1 6
  refine e_aload_n d_L_offset_0 rfl rfl ?_
  refine e_iconst (v := 0) d_L_offset_1 (by decide) ?_
  refine e_aload_n d_L_offset_2 rfl rfl ?_
  refine e_iload_n d_L_offset_3 rfl rfl ?_
  refine e_callVd (v := some (.long (x))) (σ' := τ) (q := 5) (a := 0) (As := [.int (a0)]) (st := [.int (0), .ref (9 + 16 * 2)]) 0 0 d_L_offset_4 cb_L_offset_56 iv_T_offset rfl ⟨by decide, rfl⟩ rfl (Nat.le_of_ble_eq_true rfl) (by decide) (by decide) (hct) ?_
  show Ex l G m_L_offset (pmV G m_L_offset (qd (.inr (some (.int 0))) (sJ τ 9 2 0 (x)))) 7 [(0, .ref (5 + 16 * 0)), (1, .int (a0)), (2, .ref (9 + 16 * 2))] [.long (x), .int (0), .ref (9 + 16 * 2)] (τ) 0 0
  refine e_last d_L_offset_7 (by rw [hO]; unfold vp_in; decide +kernel) ?_
  rw [show (0 : Int32).toNatClampNeg = 0 from by decide +kernel]
  refine e_goto (tgt := 14) d_L_offset_8 (by decide) ?_
  refine e_iconst (v := 0) d_L_offset_14 (by decide) ?_
  exact e_iret d_L_offset_15 rfl ⟨rfl, rfl⟩
set_option maxHeartbeats 4000000 in
set_option maxRecDepth 100000 in
theorem ct_L_offset_1 {l : Launch} (hl0 : l.stackTraces = false) {G : LG} {σ : HS} {τ : HS} {a0 : Int32} (hct : Ct l G m_T_offset [.ref (5 + 16 * 0), .int (a0)] σ (qd (.inl 0) τ))  : Ct l G m_L_offset [.ref (5 + 16 * 0), .int (a0), .ref (9 + 16 * 2)] (σ) (qd (.inr (some (.int 1))) τ) := by
  refine Ct.ofH hl0 rfl rfl (Nat.le_of_ble_eq_true rfl) ?_
  show Ex l G m_L_offset (pmV G m_L_offset (qd (.inr (some (.int 1))) τ)) 0 [(0, .ref (5 + 16 * 0)), (1, .int (a0)), (2, .ref (9 + 16 * 2))] [] (σ) 1 6
  refine e_aload_n d_L_offset_0 rfl rfl ?_
  refine e_iconst (v := 0) d_L_offset_1 (by decide) ?_
  refine e_aload_n d_L_offset_2 rfl rfl ?_
  refine e_iload_n d_L_offset_3 rfl rfl ?_
  refine e_callVc (kx := 0) (τ := τ) (q := 5) (a := 0) (As := [.int (a0)]) (st := [.int (0), .ref (9 + 16 * 2)]) 0 0 d_L_offset_4 cb_L_offset_56 iv_T_offset rfl ⟨by decide, rfl⟩ rfl (Nat.le_of_ble_eq_true rfl) (by decide) (by decide) hct [] [] (0, 8, 11, 13) rfl (fun _ h => absurd h List.not_mem_nil) (by decide +kernel) (by decide) cl_L_13 (by decide +kernel) (len := 1) ⟨3, by decide, Or.inr ⟨3, rfl, d_L_offset_11, rfl⟩⟩ ?_
  show Ex l G m_L_offset (pmV G m_L_offset (qd (.inr (some (.int 1))) τ)) 12 [] [] (τ) 0 0
  refine e_iconst (v := 1) d_L_offset_12 (by decide) ?_
  exact e_iret d_L_offset_13 rfl ⟨rfl, rfl⟩
theorem cw_L_offset {l : Launch} (hl0 : l.stackTraces = false) {G : LG} {σ τ : HS} {x : Int64} {a0 : Int32} {k : Nat} (hk : k ≤ 1) (hO : hl τ 9 2 = 1) (hct : Ct l G m_T_offset [.ref (5 + 16 * 0), .int (a0)] σ (qd (ansJ k x) τ)) : Ct l G m_L_offset [.ref (5 + 16 * 0), .int (a0), .ref (9 + 16 * 2)] σ (qd (.inr (some (.int (nI k)))) (outS k τ (x))) := by
  match k, hk, hct with
  | 0, _, hct => exact ct_L_offset_0 hl0 hO hct
  | 1, _, hct => exact ct_L_offset_1 hl0 hct
  | k + 2, hk, _ => omega
