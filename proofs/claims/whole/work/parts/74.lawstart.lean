/-! the start: nothing is made yet -/
def σz : HS := (fun _ => 0, fun _ _ => 0, fun _ _ _ => 0, fun _ _ _ => 0, fun _ _ _ => none)
def Vz : AV := ((0, 0), fun _ _ => 0, (fun _ => 0, fun _ => 0), (fun _ => 0, fun _ => 0, fun _ _ => 0, fun _ => none), (fun _ => 0, fun _ => 0, fun _ => 0, fun _ => 0, fun _ => 0))
def zT : HS := tiS (nw σz 5 0)
def zM : HS := sA (miS0 (nw zT 6 0)) 7 6 (cpy (fun _ => -1) 40 (hI (miS0 (nw zT 6 0)) 7 6))
def zE : HS := nw zM 9 1
theorem zT_I (q a k : Nat) : hI zT q a k = 0 := by
  unfold zT tiS σz
  simp only [I_sI, I_sR, I_nw]
  simp [hI]
theorem mi_I {σ : HS} (h : ∀ q a k, hI σ q a k = 0) (q a k : Nat) : hI (miS0 σ) q a k = 0 := by
  unfold miS0
  simp only [I_sR, I_nw, h, ite_self]
theorem zX_I (q a k : Nat) : hI (miS0 (nw zT 6 0)) q a k = 0 := mi_I (fun q a k => by rw [I_nw, zT_I, ite_self]) q a k
theorem zE_I {q a k : Nat} (h : ¬ (q = 7 ∧ a = 6)) : hI zE q a k = 0 := by
  unfold zE zM
  rw [I_nw, I_sA, if_neg h, zX_I, ite_self]
theorem zE_6 {k : Nat} (h : k < 40) : hI zE 7 6 k = -1 := by
  unfold zE zM
  rw [I_nw, if_neg (fun z => absurd z.1 (by decide)), I_sA, if_pos ⟨rfl, rfl⟩]
  unfold cpy
  rw [if_pos h]
theorem zM_9 : hn zM 9 = 2 := by decide +kernel
theorem zE_MS : MS zE := by
  have h : MS zM := (mi_MS (σ := nw zT 6 0) (by decide +kernel) (by decide +kernel) (by decide +kernel)).of rfl rfl
  intro y hy
  have hq : ¬ (y.2.1 = 9 ∧ y.2.2.1 = 2) := by revert y; decide
  refine ⟨?_, ?_⟩
  · unfold zE; rw [R_nw, if_neg (fun z => absurd z.1 (by decide))]; exact (h y hy).1
  · unfold zE; rw [l_nw, zM_9, if_neg hq]; exact (h y hy).2
theorem IV_z : IV Vz := by
  refine ⟨⟨by decide, by decide⟩, fun k hk => absurd hk (Nat.not_lt_zero _), fun k hk => absurd hk (Nat.not_lt_zero _), (fun p k hk => by cases hk), fun p => ⟨Or.inl rfl, fun z => absurd rfl z⟩, fun p _ => ⟨rfl, fun _ _ => rfl⟩⟩
theorem TR_z : TR zE Vz := by
  refine ⟨⟨⟨⟨by decide +kernel, by decide +kernel, by decide +kernel⟩, ⟨by decide +kernel, by decide +kernel⟩, ⟨(zE_I (by omega)).trans nI_0.symm, (zE_I (by omega)).trans nI_0.symm, by decide, by decide⟩, fun i hi => absurd hi (Nat.not_lt_zero _), fun p hp => absurd hp (Nat.not_lt_zero _), fun k hk => absurd hk (Nat.not_lt_zero _), fun p hp => absurd hp (Nat.not_lt_zero _), fun i hi => absurd hi (Nat.not_lt_zero _)⟩, ⟨⟨by decide +kernel, by decide +kernel, by decide +kernel, by decide +kernel, by decide +kernel⟩, by decide +kernel, by decide +kernel⟩, fun i hi => absurd hi (Nat.not_lt_zero _), fun p hp => absurd hp (Nat.not_lt_zero _), fun k hk => absurd hk (Nat.not_lt_zero _)⟩, fun i hi => absurd hi (Nat.not_lt_zero _)⟩
theorem MR_z : MR zE Vz := by
  refine ⟨⟨zE_MS, ⟨(zE_I (by omega)).trans nI_0.symm, (zE_I (by omega)).trans nI_0.symm⟩, fun i hi => absurd hi (Nat.not_lt_zero _), fun p hp => ⟨zE_I (by omega), zE_I (by omega), fun k hk => zE_I (by omega), zE_6 hp⟩, fun k hk => absurd hk (Nat.not_lt_zero _)⟩, fun i hi => absurd hi (Nat.not_lt_zero _)⟩
theorem RR_z : RR zE Vz := ⟨IV_z, TR_z, MR_z, by decide +kernel⟩
set_option maxHeartbeats 4000000 in
set_option maxRecDepth 100000 in
theorem lw_begin {l : Launch} (hl0 : l.stackTraces = false) {G : LG} {L : Nat} {xs : Nat → Int32} (hL : L ≤ 3584) : Ex l G m_L_law (pmL G L xs) 0 [(0, .ref 13)] [] σz 10340 107400 := by
  refine e_bg (mc' := 10339 + 1) (ms' := 107394 + 6) (by decide) (by decide) ?_
  refine e_new (q := 5) (mc := 10339) (ms := 107394) d_L_law_0 rfl (by decide) cl_L_8 ki_T.1 ki_T.2 ?_
  rw [show hn (σz) 5 = 0 from rfl]
  refine e_dup d_L_law_3 rfl ?_
  refine e_callId (v := none) (σ' := zT) (x := 5 + 16 * 0) (As := []) (st := [.ref (5 + 16 * 0)]) 10336 107356 d_L_law_4 cb_L_law_59 ii_T_init rfl (Nat.le_of_ble_eq_true rfl) (by decide) (by decide) (ct_T_init hl0 (by decide +kernel) (by decide +kernel) (by decide +kernel)) ?_
  show Ex l G m_L_law (pmL G L xs) 7 [(0, .ref (13))] [.ref (5 + 16 * 0)] (zT) 10336 107356
  refine e_astore_n (lv' := [(1, .ref (5 + 16 * 0)), (0, .ref (13))]) d_L_law_7 rfl (by decide) rfl ?_
  refine e_bg (mc' := 10335 + 1) (ms' := 107328 + 28) (by decide) (by decide) ?_
  refine e_new (q := 6) (mc := 10335) (ms := 107328) d_L_law_8 rfl (by decide) cl_L_60 ki_M.1 ki_M.2 ?_
  rw [show hn (zT) 6 = 0 from (by decide +kernel)]
  refine e_dup d_L_law_11 rfl ?_
  refine e_callId (v := none) (σ' := zM) (x := 6 + 16 * 0) (As := []) (st := [.ref (6 + 16 * 0)]) 10313 105922 d_L_law_12 cb_L_law_62 ii_M_init rfl (Nat.le_of_ble_eq_true rfl) (by decide) (by decide) (ct_M_init hl0 (by decide +kernel) (by decide +kernel) (by decide +kernel)) ?_
  show Ex l G m_L_law (pmL G L xs) 15 [(1, .ref (5 + 16 * 0)), (0, .ref (13))] [.ref (6 + 16 * 0)] (zM) 10313 105922
  refine e_astore_n (lv' := [(2, .ref (6 + 16 * 0)), (1, .ref (5 + 16 * 0)), (0, .ref (13))]) d_L_law_15 rfl (by decide) rfl ?_
  refine e_iconst (v := 1) d_L_law_16 (by decide) ?_
  refine e_bg (mc' := 10312 + 1) (ms' := 105921 + 1) (by decide) (by decide) ?_
  refine e_newal (N := 1) (mc := 10312) (ms := 105921) d_L_law_17 ac_in.2.2 (by decide) (by decide) (by decide) ?_
  rw [show hn (zM) 9 = 2 from zM_9]
  refine e_astore_n (lv' := [(3, .ref (9 + 16 * 2)), (2, .ref (6 + 16 * 0)), (1, .ref (5 + 16 * 0)), (0, .ref (13))]) d_L_law_19 rfl (by decide) rfl ?_
  refine e_iconst (v := 0) d_L_law_20 (by decide) ?_
  refine e_istore (lv' := [(4, .int (0)), (3, .ref (9 + 16 * 2)), (2, .ref (6 + 16 * 0)), (1, .ref (5 + 16 * 0)), (0, .ref (13))]) d_L_law_21 (by decide) rfl ?_
  exact e_bg (mc' := 20 * 512) (ms' := 200 * 512) (by decide) (by decide) (e_lv (lv' := [(4, .int (nI 0)), (3, .ref (9 + 16 * 2)), (2, .ref (6 + 16 * 0)), (1, .ref (5 + 16 * 0)), (0, .ref (13))]) ⟨rfl, rfl, rfl, rfl, rfl, trivial⟩ (lw_loop hl0 hL 512 0 zE Vz (by omega) (by omega) RR_z))
/-- what holds at the law's entry: the machine, the code, the tables' words, the script of L ints xs at the cell b, what the Statement gives of the start, the method's name -/
def lw_At (p : Program) (s : State) (m : MethodId) (meth : Method) (c : Code) (b L : Nat) (xs : Nat → Int32) : Prop :=
  p.tables.exec = Jvm.exec ∧ c.code = code ∧ meth.sig.returnType = ret ∧ c.maxLocals = 8 ∧ s.vm.findClass R_law = some m.cls ∧ (∀ w ∈ lw_tbl, w.before #[Value.ref b] s = true) ∧ va_X b L xs s s.heap ∧ b < s.heap.size ∧ meth.locks = false ∧ (Jvm.Cond.and given_1 narrow_1).before #[Value.ref b] s = true ∧ meth.name = x.name
theorem arr_P {args : Array Value} {s : State} {ty : FieldType} (h : (Cond.arrayClass ty).before args s = true) : ∃ cA, ArrOfT s cA ty ∧ s.vm.findClass ("[" ++ ty.toString) = some cA := by
  obtain ⟨c, k, comp, h1, h2, h3⟩ := Cond.arrayClass_spec h
  exact ⟨c, fun N z => ⟨(fun k h => by cases h), k, h2, comp, h3⟩, h1⟩
theorem arr_O {args : Array Value} {s : State} {C : String} (h : (Cond.arrayOver (.object C)).before args s = true) : ∃ cA, ArrOfT s cA (.object C) ∧ va_RA s cA (.object C) := by
  obtain ⟨comp, c, k, h1, h2, h3, h4, h5⟩ := Cond.arrayOver_spec h
  exact ⟨c, fun N z => ⟨(fun k h => by cases h), k, h3, comp, h4⟩, ⟨k, comp, h3, h4, h1, h5⟩⟩
theorem nst_in : ∀ w ∈ nstT, w ∈ lw_tbl := by decide +kernel
theorem str_in : ∀ y ∈ strT, Cond.stringRef y.1 y.2.1 y.2.2 ∈ lw_tbl ∧ y.1 = R_T := by decide +kernel
theorem ao_in : ∀ C ∈ aoT, Cond.arrayOver (.object C) ∈ lw_tbl := by decide +kernel
theorem nc_in : ∀ y ∈ ncT, Cond.not (.castable y.1 y.2) ∈ flatC (Jvm.Cond.and given_1 narrow_1) := by decide +kernel
theorem inst_in : ∀ (q : Nat) (r : vw_C), lcl[q]? = some r → ∃ n, Cond.instantiable r.1 n ∈ gt := by
  intro q r h
  match q, h with
  | 0, h => cases h; exact ⟨_, ki_D.1⟩
  | 1, h => cases h; exact ⟨_, ki_P.1⟩
  | 2, h => cases h; exact ⟨_, ki_N.1⟩
  | 3, h => cases h; exact ⟨_, ki_K.1⟩
  | 4, h => cases h; exact ⟨_, ki_R.1⟩
  | 5, h => cases h; exact ⟨_, ki_T.1⟩
  | 6, h => cases h; exact ⟨_, ki_M.1⟩
  | n + 7, h => simp at h
theorem u_in : Cond.isRef (.static Bundle.tN "UNASSIGNED_STACK" Bundle.steD) ∈ flatC (Jvm.Cond.and given_1 narrow_1) ∧ Cond.isRef (.static Bundle.tN "SUPPRESSED_SENTINEL" Bundle.listD) ∈ flatC (Jvm.Cond.and given_1 narrow_1) ∧ Cond.laysStatic Bundle.tN "UNASSIGNED_STACK" Bundle.steD ∈ lw_tbl ∧ Cond.laysStatic Bundle.tN "SUPPRESSED_SENTINEL" Bundle.listD ∈ lw_tbl ∧ Cond.initialized Bundle.tN ∈ lw_tbl := by decide +kernel
/-- classes and arrays, by the tables -/
theorem lw_kn {args : Array Value} {s : State} (ht : ∀ w ∈ gt, w.before args s = true) (ha : ∀ w ∈ lw_tbl, w.before args s = true) : ∃ (D : va_G) (A : Nat → ClassId), va_K D lcl (tyA A) s := by
  have h1 : ∀ c : Nat, ∃ P : ClassId × (Nat → Nat), ∀ q, lcl[c]? = some q → u_Kn s q.1 q.2.1 q.2.2 P.1 P.2 := by
    have key : ∀ (c : Nat) (q : vw_C), lcl[c]? = some q → ∃ P : ClassId × (Nat → Nat), u_Kn s q.1 q.2.1 q.2.2 P.1 P.2 := fun c q hq => by
      obtain ⟨n, hn⟩ := inst_in c q hq
      obtain ⟨cC, iS, hk⟩ := u_known ht (lcl_ok c q hq).1 (ht _ hn)
      exact ⟨(cC, iS), hk⟩
    obtain ⟨P0, -⟩ := key 0 _ rfl
    intro c
    cases hq : lcl[c]? with
    | none => exact ⟨P0, fun q h => by cases h⟩
    | some q =>
      obtain ⟨P, hP⟩ := key c q hq
      exact ⟨P, fun q' h => by cases h; exact hP⟩
  obtain ⟨F, hF⟩ := Classical.axiomOfChoice h1
  obtain ⟨c0, a0, b0⟩ := arr_P (ht _ ac_in.1)
  obtain ⟨c1, a1, b1⟩ := arr_P (ht _ ac_in.2.1)
  obtain ⟨c2, a2, b2⟩ := arr_P (ht _ ac_in.2.2)
  obtain ⟨c3, a3, b3⟩ := arr_O (ha _ (ao_in R_N (by decide)))
  obtain ⟨c4, a4, b4⟩ := arr_O (ha _ (ao_in R_K (by decide)))
  obtain ⟨c5, a5, b5⟩ := arr_O (ha _ (ao_in R_P (by decide)))
  refine ⟨(fun c => (F c).1, fun c => (F c).2), fun k => match k with | 0 => c0 | 1 => c1 | 2 => c2 | 3 => c3 | 4 => c4 | _ => c5, fun c q h => hF c q h, fun k q hk => ?_⟩
  match k, hk with
  | 0, hk => cases hk; exact ⟨a0, b0⟩
  | 1, hk => cases hk; exact ⟨a1, b1⟩
  | 2, hk => cases hk; exact ⟨a2, b2⟩
  | 3, hk => cases hk; exact ⟨a3, b3⟩
  | 4, hk => cases hk; exact ⟨a4, b4⟩
  | 5, hk => cases hk; exact ⟨a5, b5⟩
  | n + 6, hk => simp at hk
theorem whole_start {p : Program} {e : Env} {s : State} {m : MethodId} {below : List Frame} {meth : Method} {c : Code} (l : Launch) (hl0 : l.stackTraces = false) {b L : Nat} {xs : Nat → Int32} (hL : L ≤ 3584) (C0 : lw_At p s m meth c b L xs) : W p l e room_1 s m #[Value.ref b] below meth c s.heap [] 0 0 (lw_Z below #[Value.ref b] s) (entryFrame m ([Value.ref b] : List Value).toArray 8) := by
  obtain ⟨hx, hb, hr, hml, hown, hts, hX, hbl, hlk, hgv, hnm⟩ := C0
  have hg : ∀ w ∈ gt, w.before #[Value.ref b] s = true := fun w hw => hts w (List.mem_filter.mp hw).1
  have hfl := flat_of_before _ hgv
  obtain ⟨D, A, hK⟩ := lw_kn hg hts
  obtain ⟨i1, i2, i3, i4, i5⟩ := u_in
  have hold : ∀ a : Nat, a < s.heap.size → ¬ s.heap.size ≤ a := fun a ha => Nat.not_le.mpr ha
  have hZ : ZS s.heap.size s := ⟨vx_Zqof (hts _ i3) (hts _ i5) (hfl _ i1) hold, vx_Zqof (hts _ i4) (hts _ i5) (hfl _ i2) hold, fun w hw => va_Nw.of (nw_on (nstT_ok w hw)) (hts w (nst_in w hw)), fun y hy => by
    obtain ⟨h1, h2⟩ := str_in y hy
    have h3 := hts _ h1
    obtain ⟨cT, -, hT, -⟩ := Cond.instantiable_spec (hg _ ki_T.1)
    obtain ⟨-, -, -, a, -, -, -, -, -, hev⟩ := Cond.stringRef_spec (by rw [h2]; exact hT) h3
    exact ⟨a, vk_R.of h3 hev⟩, fun C hC => va_AO.of (hts _ (ao_in C hC)), fun y hy => va_Nc.of (hfl _ (nc_in y hy))⟩
  have hw : LW (D, A, b) s.heap.size (fun _ => b) σz s.heap := ⟨fun p hp => absurd hp.2 (Nat.not_lt_zero _), fun p p' hp => absurd hp.2 (Nat.not_lt_zero _), fun p k p' hp => absurd hp.2 (Nat.not_lt_zero _), rfl⟩
  have hen := lv_entry [Value.ref b] (n := 8) (Nat.le_of_ble_eq_true rfl)
  have hE := lw_begin (l := l) hl0 (G := (D, A, b)) (L := L) (xs := xs) hL p e s m #[Value.ref b] below meth c s.heap.size (fun _ => b) (hn σz) (fun _ => b) s.heap [] _ 0 0 ⟨⟨hx, hb, hml, hown, hg⟩, hr, hlk, hnm, (fun hh h => by cases h), Nat.le_refl _, hK, hZ, hl0⟩ ext.rf hw va_S.rf hen ⟨Or.inr rfl, trivial⟩ trivial (by decide +kernel) (by decide +kernel)
  rw [lg_entry_eq]
  intro T hT X
  obtain ⟨t, a1, b1⟩ := hE T hT X
  exact ⟨t, a1, b1 ⟨hX, hbl, rfl, rfl⟩⟩
set_option maxHeartbeats 4000000 in
theorem lw_walk (l : Launch) (hl0 : l.stackTraces = false) (b : Addr) (xs : List Int32) : MetFree l x (headSpec (Jvm.Cond.code x code maxLocals ret :: tables_1) room_1) (lw_P b xs) (fun _ _ _ _ _ => True) lw_Q := by
  refine MetFree.of_bodyS (code := code) (maxLocals := maxLocals) (ret := ret) (by decide) ?_ ?_
  · intro args s m h hn
    obtain ⟨meth, c, h1, h2, h3, h4, h5, h6, -, -⟩ := Cond.code_spec hn (atoms_spec (ws := Jvm.Cond.code x code maxLocals ret :: tables_1) h _ List.mem_cons_self)
    exact ⟨meth, c, h1, h2, h3, h4, h5, h6⟩
  · intro p e s m args below meth c s₁ B hml0 hP _
    obtain ⟨rfl, hx, hbd, hgv⟩ := hP
    obtain ⟨scr, harrAt, hlist, hof, hsmall⟩ := hx
    obtain ⟨hcb, hkn, -, -⟩ := State.arrayAt?_spec harrAt
    have hown : s.vm.findClass R_law = some m.cls := findClass_of_methodNamed B.named
    have hts0 : ∀ c ∈ (Jvm.Cond.code x code maxLocals ret :: tables_1), c.before #[Value.ref b] s = true := atoms_spec (ws := Jvm.Cond.code x code maxLocals ret :: tables_1) B.pre
    have hts : ∀ w ∈ lw_tbl, w.before #[Value.ref b] s = true := k2_hts_sels lw_privs (fun w hw => hts0 w (List.mem_cons_of_mem _ hw)) lw_privs_ok
    have hml : c.maxLocals = 8 := B.maxLocals_eq (hts0 _ List.mem_cons_self)
    have X₀ : Stand p l e room_1 s m #[Value.ref b] below meth c s₁ [] 0 0 := Stand.of_body B
    have hh0 : s₁.heap = s.heap := by rw [B.state]; rfl
    have hsz : scr.slots.size = xs.length := by rw [← Array.length_toList, hlist, List.length_map]
    have hval : ∀ j : Nat, j < xs.length → scr.slots[j]? = some (.int (xs.getD j 0)) := fun j hj => by
      rw [← Array.getElem?_toList, hlist]
      simp [hj]
    have hbl : b < s.heap.size := (Array.getElem?_eq_some_iff.mp hcb).1
    have hX : va_X b xs.length (fun j => xs.getD j 0) s s.heap := ⟨scr, hcb, hof, hkn, hsz, hval⟩
    have K : W p l e room_1 s m #[Value.ref b] below meth c s₁.heap [] 0 0 (lw_Z below #[Value.ref b] s) (entryFrame m ([Value.ref b] : List Value).toArray 8) := by
      rw [hh0]
      exact whole_start l hl0 hbd ⟨B.exec, B.bytes, B.returns, hml, hown, hts, hX, hbl, B.notSynchronized, hgv, (name_of_methodNamed B.named B.method).1⟩
    obtain ⟨t, a1, o, b1, b2, b3⟩ := K s₁ rfl X₀
    exact ⟨t, o, a1, b1, b2, b3⟩
theorem lw_pre_spec {args : Array Value} {s : State} (h : (Jvm.Cond.and given_1 narrow_1).before args s = true) (hr : rest_1_c.before args s = true) : ∃ (b : Addr) (xs : List Int32), lw_P b xs args s := by
  have hs := flat_of_before _ h
  have hq := flat_of_before _ hr
  have hc : (Cond.count 1).before args s = true := hs _ (by decide +kernel)
  have harr : (Cond.arrayOf (.arg 0) .int).before args s = true := hs _ (by decide +kernel)
  have hle : (Cond.le (.length (.arg 0)) (.int 3584)).before args s = true := hs _ (by decide +kernel)
  have hlen : (Cond.isInt (.length (.arg 0))).before args s = true := hq _ (by decide +kernel)
  have hall : (Cond.all (.arg 0) (.isInt (.elem (.arg 0) (.index 0)))).before args s = true := hq _ (by decide +kernel)
  obtain ⟨b, xs, hb, hx⟩ := State.ints_of_pre rfl harr hlen hall
  have hsm : xs.length < 2 ^ 31 := hx.choose_spec.2.2.2
  have hev : (Term.length (.arg 0)).eval args s none [] s = some (.int xs.length.toInt32) := hx.length_eval hb
  have hv := Cond.le_ints hev (show (Term.int 3584).eval args s none [] s = some (.int 3584) from rfl)
  have hd : xs.length.toInt32 ≤ 3584 := by
    simpa [Cond.before, Cond.holds, hv] using hle
  have hN : xs.length ≤ 3584 := (Int32.ofNat_le_ofNat hsm (by decide)).mp (show Int32.ofNat xs.length ≤ Int32.ofNat 3584 from hd)
  exact ⟨b, xs, Cond.one_arg hc (show args[0]? = some (.ref b) from hb), hx, hN, h⟩
theorem lw_comes (l : Launch) (hl0 : l.stackTraces = false) : Comes l x (Jvm.Cond.code x code maxLocals ret :: tables_1) room_1 (fun tb e args s => Calls_1 tb e args s ∧ rest_1 tb e args s ∧ Pre_1 tb e args s)
    (fun _ _ args s o t => lw_Q args s o t) := by
  intro p e ha hc hk s m args below hf hfit hheap happ hpre
  obtain ⟨b, xs, hP⟩ := lw_pre_spec hpre.2.2 hpre.2.1
  obtain ⟨k, o, h1, h2, h3, hQ⟩ := lw_walk l hl0 b xs p e ha hc hk s m args below hf ((Spec.applies_iff_loose hf).mp happ).1 hP trivial
  exact ⟨k, o, h1, h2, h3, hQ⟩
theorem lw_frame {s t : State} {o : Outcome} {args : Array Value} (h : Framed s o t [] 601024 7293034) :
    Framed s o t (fieldLocs frame_1_writes args s ++ arrayLocs frame_1_arrays args s ++ staticLocs frame_1_statics s) 601024 7293034 := h
theorem lw_limb (L : Cond) (hL : ∀ (args : Array Value) (s t : State), L.after args s (.returned (some (.int 1))) t = true) :
    ArmFor flags0 classFile x code maxLocals ret World_1 tables_1 room_1 Calls_1 rest_1 Pre_1
      (fun tb e a s o t => postC L tb e a s o t ∧ Framed s o t (fieldLocs frame_1_writes a s ++ arrayLocs frame_1_arrays a s ++ staticLocs frame_1_statics s) 601024 7293034) := by
  intro l hfl _ _ p e ha hc hk s m args below hf hfit hheap happ hpre
  obtain ⟨k, o, h1, h2, h3, rfl, hF⟩ := lw_comes l (by unfold Launch.stackTraces; rw [hfl]; decide) p e ha hc hk s m args below hf hfit hheap happ hpre
  exact ⟨k, _, h1, h2, h3, hL args s _, lw_frame hF⟩
theorem i_vc : Claimed_1_1 ∧ Claimed_1_2 := ⟨lw_limb limb_1_1 (fun args s t => by simp [limb_1_1, Cond.after, Cond.holds, Cond.value]), lw_limb limb_1_2 (fun args s t => Cond.after_iff.mpr (by
  first | (rw [show limb_1_2 = Cond.eq .result (.int 1) from rfl, Cond.eq_ints (x := 1) (y := 1) rfl rfl]; simp; done) | (simp [limb_1_2, Cond.value, Term.eval]; done)))⟩

