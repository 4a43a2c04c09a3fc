/-! what the tree's methods and the model's leave alone -/
theorem nM0 {a : Nat} : ¬ pM 0 a := by unfold pM; omega
theorem nM1 {a : Nat} : ¬ pM 1 a := by unfold pM; omega
theorem nM2 {a : Nat} : ¬ pM 2 a := by unfold pM; omega
theorem nM3 {a : Nat} : ¬ pM 3 a := by unfold pM; omega
theorem nM4 {a : Nat} : ¬ pM 4 a := by unfold pM; omega
theorem nM5 {a : Nat} : ¬ pM 5 a := by unfold pM; omega
theorem nM10 {a : Nat} : ¬ pM 10 a := by unfold pM; omega
theorem nM11 {a : Nat} : ¬ pM 11 a := by unfold pM; omega
theorem nM12 {a : Nat} : ¬ pM 12 a := by unfold pM; omega
theorem nT6 {a : Nat} : ¬ pT 6 a := by unfold pT; omega
theorem nT7 {a : Nat} : ¬ pT 7 a := by unfold pT; omega
theorem nT8 {a : Nat} : ¬ pT 8 a := by unfold pT; omega
theorem nT90 : ¬ pT 9 0 := by unfold pT; omega
theorem nT91 : ¬ pT 9 1 := by unfold pT; omega
theorem fr.fs {σ : HS} {i : Nat} : fr pM σ (fsS σ i 4) := fsS_fr (fun _ => nM0) (fun _ => nM1) (fun _ => nM2) 4
theorem fr.fl {σ : HS} {v : Int32} : fr pM σ (flg σ v) := by
  unfold flg
  split
  · exact fr.rf
  · exact fr.oI nM5
theorem fr.grow {σ : HS} {p : Nat} : fr pM σ (growS σ p) := by
  unfold growS
  split
  · exact fr.rf
  · split
    · exact (fr.oI nM1).trans (fr.oI nM1)
    · exact fr.oI nM1
theorem fr.keep {σ : HS} {p c s : Nat} : fr pM σ (keepS σ p c s) := ((fr.oD nM0).trans (fr.oI nM1)).trans (fr.oI nM1)
theorem fr.hr {σ : HS} {i j : Nat} : fr pM σ (hrS σ i j) := by
  unfold hrS
  split
  · exact fr.grow.trans fr.fl
  · split
    · exact fr.grow.trans fr.fl
    · exact fr.keep.trans fr.fl
theorem fr.he {σ : HS} {i : Nat} : ∀ j, fr pM σ (heS σ i j)
  | 0 => fr.rf
  | j + 1 => (fr.he j).trans fr.hr
theorem fr.pr {σ : HS} : ∀ i, fr pM σ (prS σ i)
  | 0 => fr.oI nM5
  | i + 1 => (fr.pr i).trans (fr.he 4)
theorem fr.pf {σ : HS} {n : Nat} : ∀ i, fr pM σ (prF σ n i)
  | 0 => fr.pr n
  | i + 1 => ((fr.pf i).trans fr.fs).trans fr.fl
theorem fr.rd {σ : HS} {n : Nat} : ∀ k, fr pM σ (rdS σ n k)
  | 0 => fr.rf
  | k + 1 => (fr.rd k).trans (fr.pf n)
theorem fr.se {n : Nat} : ∀ m k (σ : HS), fr pM σ (seQ n m k σ).1
  | 0, k, σ => fr.rf
  | m + 1, k, σ => by
    rw [seQ]
    split
    · exact fr.pf n
    · split
      · exact fr.pf n
      · exact (fr.pf n).trans (fr.se m (k + 1) _)
theorem fr.sc {σ : HS} {i : Nat} {O : Int32} {J : Nat → Int64} : fr pM σ (scS σ i O J) := by
  unfold scS
  split
  · exact ((fr.ok nM4).trans (fr.oJ nM2)).trans (fr.oJ nM2)
  · exact fr.ok nM4
theorem fr.ss {σ : HS} {i b : Nat} {t : Int64} : fr pM σ (ssS σ i b t) := by
  unfold ssS
  split
  · exact fr.rf
  · exact fr.sc
theorem fr.di {bs : Nat → Nat} {t : Int64} {sv : Int32} {s : HS × Int32} : ∀ i, fr pM s.1 (diI bs t sv s i).1
  | 0 => fr.rf
  | i + 1 => by
    rw [diI]
    split
    · exact (fr.di i).trans fr.ss
    · exact fr.di i
theorem fr.dO {bs : Nat → Nat} {t : Int64} {n : Nat} {s : HS × Int32} : ∀ k, fr pM s.1 (diO bs t n s k).1
  | 0 => fr.rf
  | k + 1 => (fr.dO k).trans (fr.di n)
theorem fr.mkN {σ : HS} {n : Nat} {i p k e : Int32} {off : Int64} : fr pM σ (mkN σ n i p k e off) := (((fr.mk (fun _ => nM0) (fun _ => nM1) (fun _ => nM2) (fun _ => nM12)).trans fr.fs).trans (fr.oR nM10)).trans (fr.oI nM5)
theorem fr.lkS {σ : HS} {L x y : Nat} {t b : Int32} : fr pM σ (lkS σ L x y t b) := (((((((fr.ow (fun _ => nM3)).trans (fr.oR nM3)).trans (fr.oR nM3)).trans (fr.oI nM3)).trans (fr.oI nM3)).trans (fr.oI nM3)).trans (fr.oR nM1)).trans (fr.oR nM1)
theorem fr.mkL {σ : HS} {L x y : Nat} {t b : Int32} : fr pM σ (mkL σ L x y t b) := (((fr.lkS.trans fr.fs).trans fr.fs).trans (fr.oR nM11)).trans (fr.oI nM5)
theorem fr.ko {σ : HS} {p : Nat} : fr pT σ (koS σ p) := fr.oA nT7
theorem fr.tr {σ : HS} : fr pT σ (trS1 σ) := fr.oA nT7
theorem fr.to {σ : HS} {p : Nat} : fr pT σ (toS σ p) := fr.oA nT7
theorem fr.fc {z : HS × Int32} {i : Nat} : fr pT z.1 (fdC z i) := by
  unfold fdC
  split
  · exact fr.oA nT7
  · exact fr.ko
theorem fr.f1 {z : HS × Int32} {i p : Nat} : fr pT z.1 (fd1 z i p).1 := by
  unfold fd1
  split
  · exact fr.rf
  · exact (fr.fc.trans fr.tr).trans fr.ko
theorem fr.fdx {σ : HS} {i : Nat} : ∀ j, fr pT σ (fdS σ i j).1
  | 0 => by rw [fdS]; exact fr.rf
  | j + 1 => by rw [fdS]; exact (fr.fdx j).trans fr.f1
theorem fr.f2 {σ : HS} {p : Nat} {b : Int32} : fr pT σ (fd2 σ p b) := ((fr.to.trans fr.tr).trans fr.ko).trans (fr.oI nT7)
theorem fr.fT {σ : HS} {i : Nat} : ∀ j, fr pT σ (fdT σ i j)
  | 0 => by rw [fdT_0]; exact (fr.fdx 4).trans (fr.oI nT7)
  | j + 1 => by rw [fdT_s]; exact (fr.fT j).trans fr.f2
theorem fr.fa {σ : HS} : ∀ i, fr pT σ (faS σ i)
  | 0 => by rw [faS]; exact fr.rf
  | i + 1 => by rw [faS]; exact (fr.fa i).trans (fr.fT 4)
theorem fr.sT {σ : HS} {p to : Nat} : fr pT σ (sdT σ p to) := (((fr.to).trans (fr.oA nT7)).trans (fr.oI nT7)).trans (fr.oI nT8)
theorem fr.s1 {z : HS × Int32} {p : Nat} : fr pT z.1 (sn1 z p).1 := by
  unfold sn1
  split
  · split
    · exact fr.rf
    · exact fr.sT
  · exact fr.rf
theorem fr.sn {σ : HS} : ∀ p, fr pT σ (snS σ p).1
  | 0 => by rw [snS]; exact fr.oA nT8
  | p + 1 => by rw [snS]; exact (fr.sn p).trans fr.s1
theorem fr.mg {σ : HS} {p : Nat} : fr pT σ (mgS σ p) := by
  unfold mgS
  split
  · exact fr.rf
  · exact (fr.oI nT7).trans (fr.oI nT8)
theorem fr.mh {σ : HS} {p : Nat} : fr pT σ (mhS σ p) := by
  unfold mhS
  split
  · exact fr.mg
  · split
    · exact fr.mg
    · split
      · exact fr.mg
      · exact ((fr.oI nT8).trans (fr.oI nT7)).trans (fr.oA nT7)
theorem fr.ph {σ : HS} : ∀ p, fr pT σ (phS σ p)
  | 0 => by rw [phS]; exact fr.rf
  | p + 1 => by rw [phS]; exact (fr.ph p).trans fr.mh
theorem fr.pa {σ : HS} {n : Nat} : fr pT σ (paS σ n) := ((fr.sn _).trans (fr.ph _)).trans (fr.fa n)
theorem fr.mr {σ : HS} {n : Nat} : ∀ k, fr pT σ (mrS σ n k)
  | 0 => by rw [mrS]; exact fr.rf
  | k + 1 => by rw [mrS]; exact (fr.mr k).trans fr.pa
theorem fr.ms {σ : HS} {n : Nat} : fr pT σ (mstp n σ) := (((fr.oA nT8).trans (fr.oA nT7)).trans (fr.oA nT7)).trans fr.pa
theorem fr.mq {n : Nat} : ∀ m k (σ : HS), fr pT σ (msQ n m k σ).1
  | 0, k, σ => by rw [msQ]; exact fr.rf
  | m + 1, k, σ => by
    rw [msQ]
    split
    · exact fr.ms.trans (fr.mq m (k + 1) _)
    · exact fr.ms
theorem fr.mo {σ : HS} {ov : Int32} {f d : Int64} : fr pT σ (mo σ ov f d) := ((fr.oI nT6).trans (fr.oJ nT6)).trans (fr.oJ nT6)
theorem fr.sS {σ : HS} {i : Nat} {ov : Int32} {f d nx : Int64} : fr pT σ (swS σ i ov f d nx) := by
  unfold swS
  split
  · exact (fr.mo.trans (fr.oJ nT90)).trans (fr.oJ nT91)
  · exact fr.mo
theorem fr.sQ {σ : HS} {i b : Nat} {t : Int64} {r s : Int32} : fr pT σ (swQ σ i b t r s) := fr.sS
theorem fr.d1 {z : HS × Int32} {t : Int64} {sv : Int32} {i : Nat} : fr pT z.1 (md1 t sv z i).1 := by
  by_cases c : csV z.1 i = 0
  · have e : md1 t sv z i = z := by unfold md1; rw [if_pos c]
    rw [e]; exact fr.rf
  · by_cases d : msP z.1 i = sv
    · have e : (md1 t sv z i).1 = swQ z.1 i (bP z.1 i) t 0 0 := by unfold md1; rw [if_neg c, if_pos d]
      rw [e]; exact fr.sQ
    · have e : md1 t sv z i = z := by unfold md1; rw [if_neg c, if_neg d]
      rw [e]; exact fr.rf
theorem fr.mdx {t : Int64} {sv : Int32} {s : HS × Int32} : ∀ i, fr pT s.1 (mdI t sv s i).1
  | 0 => by rw [mdI]; exact fr.rf
  | i + 1 => by rw [mdI]; exact (fr.mdx i).trans fr.d1
theorem fr.mdy {t : Int64} {n : Nat} {s : HS × Int32} : ∀ k, fr pT s.1 (mdO t n s k).1
  | 0 => by rw [mdO]; exact fr.rf
  | k + 1 => by rw [mdO]; exact (fr.mdy k).trans (fr.mdx n)
theorem fr.n0 {σ : HS} {n : Nat} {i p k e : Int32} {off : Int64} : fr pT σ (mn0 σ n i p k e off) := (((((((fr.oI nT6).trans (fr.oI nT7)).trans (fr.oI nT7)).trans (fr.oI nT7)).trans (fr.oI nT7)).trans (fr.oJ nT90)).trans (fr.oJ nT91)).trans (fr.oI nT6)
theorem fr.l0 {σ : HS} {L x y : Nat} {t b : Int32} : fr pT σ (ml0 σ L x y t b) := ((((((((fr.oI nT6).trans (fr.oI nT7)).trans (fr.oI nT7)).trans (fr.oI nT7)).trans (fr.oI nT7)).trans (fr.oI nT8)).trans (fr.oI nT7)).trans (fr.oI nT7)).trans (fr.oI nT6)
/-- the model's part is what MR speaks of -/
theorem MR.frm {σ τ : HS} {V : AV} (h : MR σ V) (f : fr pM σ τ) : MR τ V := by
  obtain ⟨⟨h1, h2, h3, h4, h5⟩, hd⟩ := h
  have c6 := fr.all (q := 6) f (fun _ => ⟨by omega, by omega⟩)
  have c7 := fr.all (q := 7) f (fun _ => ⟨by omega, by omega⟩)
  have c8 := fr.all (q := 8) f (fun _ => ⟨by omega, by omega⟩)
  have c9 := fr.all (q := 9) f (fun _ => ⟨by omega, by omega⟩)
  refine ⟨⟨fun x hx => ?_, ⟨by rw [c6.1]; exact h2.1, by rw [c6.1]; exact h2.2⟩, fun i hi => ?_, fun p hp => ?_, fun k hk => ?_⟩, fun i hi => ⟨by rw [c7.1]; exact (hd i hi).1, fun j hj => by rw [c7.1]; exact (hd i hi).2 j hj⟩⟩
  · have hq : x.2.1 = 7 ∨ x.2.1 = 8 ∨ x.2.1 = 9 := by
      revert x; decide
    refine ⟨by rw [c6.2.2.1]; exact (h1 x hx).1, ?_⟩
    rw [← (h1 x hx).2]
    rcases hq with e | e | e
    · rw [e]; exact c7.2.2.2.1 _
    · rw [e]; exact c8.2.2.2.1 _
    · rw [e]; exact c9.2.2.2.1 _
  · rw [c7.1, c7.1, c7.1, c7.1, c9.2.1, c9.2.1]; exact h3 i hi
  · rw [c8.1, c7.1, c7.1]
    exact ⟨(h4 p hp).1, (h4 p hp).2.1, fun k hk => by rw [c7.1]; exact (h4 p hp).2.2.1 k hk, (h4 p hp).2.2.2⟩
  · rw [c7.1, c7.1, c7.1, c7.1, c8.1]; exact h5 k hk
theorem MR.out {σ : HS} {V : AV} {v : Int64} (h : MR σ V) : MR (sJ σ 9 2 0 v) V := h.of ⟨rfl, rfl, fun a k ha => by rw [J_sJ, if_neg (by omega)], fun _ _ _ => rfl, fun _ _ _ => rfl, fun _ _ => rfl⟩ (fun _ => rfl) (fun _ => rfl)
