-- what the answers are, in numbers
def lev (v : Int64) : Int32 := if v = 12 then 0 else if v = 9 then 1 else if v = 6 then 2 else if v = 3 then 3 else if v = 0 then 4 else if v = -12 then 5 else 6
def lvl (x v : Int64) : Int32 := if 0 ≤ x ∧ x ≤ 1000 then lev v else 6
def tf (x : Int32) : Int32 := if x < 80 ∨ 970 < x then 0 else if x < 100 then 60 else if x ≤ 850 then 6 * x / 10 else if x ≤ 960 then 25 * (x - 640) / 10 else 800
def ten (lv : Int32) (th : Int64) : Int32 := if 1 ≤ lv ∧ lv ≤ 3 then tf th.toInt32 else 0
def tg (x : Int32) : Int32 := if 80 ≤ x ∧ x < 100 then 60 else if 100 ≤ x ∧ x ≤ 850 then 6 * x / 10 else if 850 < x ∧ x ≤ 960 then 25 * (x - 640) / 10 else if 960 < x ∧ x ≤ 970 then 800 else 0
def tem (pi sh : Int32) : Int32 := if 0 < pi ∧ pi < 4 then tg sh else 0
def shr (x : Int64) : Int32 := if 0 ≤ x ∧ x ≤ 1000 then x.toInt32 else 0
def prOk (a b c : Int64) : Prop := (0 ≤ a ∧ a ≤ 1439) ∧ (a + 1 ≤ b ∧ b ≤ 1440) ∧ (0 ≤ c ∧ c ≤ 1000)
def mrOk (a b c : Int64) : Prop := (¬ a < 0 ∧ ¬ 1439 < a) ∧ (¬ b ≤ a ∧ ¬ 1440 < b) ∧ (¬ c < 0 ∧ c ≤ 1000)
-- bounds
theorem vinB (k : Int32) {i : Int32} {n : Nat} (h : 0 ≤ i) (c : ¬ k ≤ i) (hk : k.toInt ≤ n) : vp_in i n := by
  rw [vp_in_iff]
  rw [Int32.le_iff_toInt_le] at h c
  rw [Int32.toInt_zero] at h
  omega
theorem vinC (k : Int32) {i : Int32} {n : Nat} (h : 0 ≤ i) (c : ¬ k < i) (hk : k.toInt < n) : vp_in i n := by
  rw [vp_in_iff]
  rw [Int32.le_iff_toInt_le] at h
  rw [Int32.lt_iff_toInt_lt] at c
  rw [Int32.toInt_zero] at h
  omega
theorem vinL (k : Int64) {q : Int64} {x : Int32} {n : Nat} (h : ¬ q < 0) (c : q.toInt < n) (hn : n ≤ 100000) (e : x = q.toInt32) : vp_in x n := by
  rw [vp_in_iff, e]
  rw [Int64.lt_iff_toInt_lt, Int64.toInt_zero] at h
  rw [Jvm.Kit.i32_of_i64 (by omega) (by omega)]
  omega
theorem nle6 {a b : Int64} {n : Int} (c : ¬ a ≤ b) (h : a.toInt = n) : b.toInt < n := by rw [Int64.le_iff_toInt_le] at c; omega
theorem nlt6 {a b : Int64} {n : Int} (c : ¬ a < b) (h : a.toInt = n) : b.toInt ≤ n := by rw [Int64.lt_iff_toInt_lt] at c; omega
theorem ii0 (k : Int32) {i x : Int32} (h : 0 ≤ i) (c : ¬ k ≤ i) (e : x = i + 1) : 0 ≤ x ∧ x.toInt = i.toInt + 1 ∧ i.toInt < k.toInt ∧ 0 ≤ i.toInt := by
  rw [Int32.le_iff_toInt_le] at h c ⊢
  rw [Int32.toInt_zero] at h ⊢
  have h1 : (1 : Int32).toInt = 1 := by decide
  have h2 := Int32.toInt_lt k
  have h3 : x.toInt = i.toInt + 1 := by rw [e, Jvm.Kit.i32_add (by omega) (by omega), h1]
  omega
theorem ij0 (k : Int32) {i x : Int32} (h : 0 ≤ i) (c : ¬ k < i) (hk : k.toInt < 2147483647) (e : x = i + 1) : 0 ≤ x ∧ x.toInt = i.toInt + 1 ∧ i.toInt ≤ k.toInt ∧ 0 ≤ i.toInt := by
  rw [Int32.le_iff_toInt_le] at h ⊢
  rw [Int32.lt_iff_toInt_lt] at c
  rw [Int32.toInt_zero] at h ⊢
  have h1 : (1 : Int32).toInt = 1 := by decide
  have h3 : x.toInt = i.toInt + 1 := by rw [e, Jvm.Kit.i32_add (by omega) (by omega), h1]
  omega
theorem mx0 {x y : Int32} (e : x = if (0 : Int32) < y then y else 0) : 0 ≤ x ∧ 0 ≤ x.toInt := by
  have h : 0 ≤ x := by
    rw [e]; split
    · next h => exact Int32.le_of_lt h
    · exact Int32.le_refl 0
  exact ⟨h, by rw [Int32.le_iff_toInt_le, Int32.toInt_zero] at h; exact h⟩
theorem le0 : (0 : Int32) ≤ 0 := by decide
theorem vinM {p0 x : Int32} (h1 : ¬ p0 < 1) (h2 : ¬ 10 < p0) (e : x = p0 - 1) : vp_in x 10 := by
  rw [Int32.lt_iff_toInt_lt] at h1 h2
  have a1 : (1 : Int32).toInt = 1 := by decide
  have a2 : (10 : Int32).toInt = 10 := by decide
  rw [vp_in_iff, e, Jvm.Kit.i32_sub (by omega) (by omega)]
  omega
theorem vinI {i : Int32} {n : Nat} (h1 : 0 ≤ i.toInt) (h2 : i.toInt < n) : vp_in i n := vp_in_iff.mpr ⟨h1, h2⟩
theorem remlt {x y z : Int64} (hy : 0 < y.toInt) (e : z = x - x / y * y) : z.toInt < y.toInt := by
  rw [e, Jvm.Kit.i64_rem]
  exact (tmod_bounds hy).2
theorem i6z {y : Int64} : y = 0 ↔ y.toInt = 0 := by rw [← Int64.toInt_inj, Int64.toInt_zero]
theorem i6p {y : Int64} (h : ¬ y ≤ 0) : 0 < y.toInt := by rw [Int64.le_iff_toInt_le, Int64.toInt_zero] at h; omega
theorem i6nz {y : Int64} (h : ¬ y ≤ 0) : ¬ y = 0 := fun e => by have := i6p h; rw [e, Int64.toInt_zero] at this; omega
theorem i2l_w {w : Int32} {x : Int64} (e : x = w.toInt64) : (0 ≤ x ∧ x ≤ 1000) ↔ (0 ≤ w ∧ w ≤ 1000) := by
  have a1 : (1000 : Int64).toInt = 1000 := by decide
  have a2 : (1000 : Int32).toInt = 1000 := by decide
  have h : x.toInt = w.toInt := by rw [e, Jvm.Kit.i64_of_i32]
  rw [Int64.le_iff_toInt_le, Int64.le_iff_toInt_le, Int32.le_iff_toInt_le, Int32.le_iff_toInt_le, Int64.toInt_zero, Int32.toInt_zero, h, a1, a2]
theorem i32ge {i : Int32} (h : 0 ≤ i) : 0 ≤ i.toInt := by rw [Int32.le_iff_toInt_le, Int32.toInt_zero] at h; exact h
theorem i32nlt {a i : Int32} {n : Int} (h : ¬ a < i) (e : a.toInt = n) : i.toInt ≤ n := by rw [Int32.lt_iff_toInt_lt] at h; omega
theorem i32nle {a i : Int32} (h : ¬ a ≤ i) : i.toInt < a.toInt := by rw [Int32.le_iff_toInt_le] at h; omega
theorem vinK {k : Int32} (h : ¬ k < 0) (h2 : k.toInt < 20) : vp_in k 20 := by
  rw [Int32.lt_iff_toInt_lt, Int32.toInt_zero] at h
  exact vinI (by omega) (by omega)
theorem sp1 {sp x : Int32} (h0 : 0 ≤ sp.toInt) (h1 : sp.toInt ≤ 20) (e : x = sp - 1) : x.toInt < 20 ∧ (x.toInt + 1).toNat < 22 := by
  have a1 : (1 : Int32).toInt = 1 := by decide
  rw [e, Jvm.Kit.i32_sub (by omega) (by omega)]
  omega
theorem kd {k x : Int32} (h : ¬ k < 0) (h2 : k.toInt < 20) (e : x = k + (-1)) : x.toInt < 20 ∧ x.toInt = k.toInt - 1 ∧ 0 ≤ k.toInt := by
  rw [Int32.lt_iff_toInt_lt, Int32.toInt_zero] at h
  have a1 : (-1 : Int32).toInt = -1 := by decide
  have h3 : x.toInt = k.toInt - 1 := by rw [e, Jvm.Kit.i32_add (by omega) (by omega)]; omega
  omega
theorem vinSp {sp k : Int32} (h1 : sp.toInt ≤ 20) (h : 0 ≤ k) (c : ¬ sp ≤ k) : vp_in k 20 := vinI (i32ge h) (by have := i32nle c; omega)
theorem vinU {u x : Int64} {k : Int32} (hu : u.toInt ≤ 1440) (h : 0 ≤ k) (c : ¬ u ≤ x) (e : x = k.toInt64) : vp_in k 1440 := by
  rw [Int64.le_iff_toInt_le, e, Jvm.Kit.i64_of_i32] at c
  exact vinI (i32ge h) (by omega)
theorem nle6c {u : Int64} (h : u ≤ 1440) : u.toInt ≤ 1440 := by
  rw [Int64.le_iff_toInt_le] at h
  have : (1440 : Int64).toInt = 1440 := by decide
  omega
theorem le6 {u : Int64} (h : u ≤ 1439) : u.toInt < 1440 := by
  rw [Int64.le_iff_toInt_le] at h
  have : (1439 : Int64).toInt = 1439 := by decide
  omega
theorem kkup {sp k x : Int32} (h1 : sp.toInt ≤ 20) (h : 0 ≤ k) (c : ¬ sp ≤ k) (e : x = k + 1) : 0 ≤ x ∧ x.toInt = k.toInt + 1 ∧ k.toInt < 20 ∧ 0 ≤ k.toInt := by
  have := ii0 sp h c e
  exact ⟨this.1, this.2.1, by omega, this.2.2.2⟩
theorem kkU {u q : Int64} {k x : Int32} (hu : u.toInt ≤ 1440) (h : 0 ≤ k) (c : ¬ u ≤ q) (e : q = k.toInt64) (e2 : x = k + 1) : 0 ≤ x ∧ x.toInt = k.toInt + 1 ∧ k.toInt < 1440 ∧ 0 ≤ k.toInt := by
  have hk := (vp_in_iff.mp (vinU hu h c e))
  have := ii0 1440 h (fun q => by rw [Int32.le_iff_toInt_le] at q; have h9 : (1440 : Int32).toInt = 1440 := (by decide); omega) e2
  exact ⟨this.1, this.2.1, by omega, this.2.2.2⟩
theorem vinN {sp : Int32} (h0 : 0 ≤ sp.toInt) (h1 : sp.toInt ≤ 20) (c : ¬ sp = 20) : vp_in sp 20 := by
  refine vinI h0 ?_
  have h2 : sp.toInt ≠ 20 := fun h => c (Int32.toInt_inj.mp (h.trans (by decide)))
  omega
theorem vinCs {cs x : Int32} (h0 : 0 ≤ cs.toInt) (h1 : cs.toInt ≤ 10) (c : ¬ cs = 10) (e : x = cs + 1) : vp_in x 11 := by
  have h2 : cs.toInt ≠ 10 := fun h => c (Int32.toInt_inj.mp (h.trans (by decide)))
  have a1 : (1 : Int32).toInt = 1 := by decide
  have h3 : x.toInt = cs.toInt + 1 := by rw [e, Jvm.Kit.i32_add (by omega) (by omega), a1]
  exact vinI (by omega) (by omega)
theorem vinKs {cs k : Int32} (h1 : cs.toInt ≤ 10) (h : 0 ≤ k) (c : ¬ cs < k) : vp_in k 11 := vinI (i32ge h) (by have := i32nlt c rfl; omega)
theorem vinP {cs q : Int32} (h1 : cs.toInt ≤ 10) (h : 1 ≤ q.toInt ∧ q.toInt ≤ cs.toInt) : vp_in q 11 := vinI (by omega) (by omega)
theorem pcs {q cs : Int32} (c : ¬ q < 1) (d : q ≤ cs) : 1 ≤ q.toInt ∧ q.toInt ≤ cs.toInt := by
  rw [Int32.lt_iff_toInt_lt] at c
  rw [Int32.le_iff_toInt_le] at d
  have a1 : (1 : Int32).toInt = 1 := by decide
  omega
theorem kksh {cs k x : Int32} (h1 : cs.toInt ≤ 10) (h : 0 ≤ k) (c : ¬ cs < k) (e : x = k + 1) : 0 ≤ x ∧ x.toInt = k.toInt + 1 ∧ k.toInt ≤ 10 ∧ 0 ≤ k.toInt := by
  have := ij0 cs h c (by omega) e
  exact ⟨this.1, this.2.1, by omega, this.2.2.2⟩
-- the law
def sx (xs : Nat → Int32) (x4 k : Int32) : Int32 := xs (x4 + k).toNatClampNeg
def jn (a b : Int32) : Int64 := a.toInt64 <<< ((32 : Int32).toInt64 &&& 63) ||| b.toInt64 &&& 4294967295
theorem vinS0 {i L : Nat} {x4 : Int32} (hL : L ≤ 3584) (hi : i + 7 ≤ L) (e4 : x4 = nI i) : vp_in x4 L := by
  rw [e4]; exact vp_in_nI (by omega) (by omega)
theorem vinS (k : Nat) {i L : Nat} {x4 c : Int32} (hL : L ≤ 3584) (hi : i + 7 ≤ L) (e4 : x4 = nI i) (hk : k < 7) (hc : c = nI k) : vp_in (x4 + c) L := by
  rw [e4, hc, nI_add]; exact vp_in_nI (by omega) (by omega)
theorem ge32 {i : Int32} (h : 0 ≤ i.toInt) : 0 ≤ i := by rw [Int32.le_iff_toInt_le, Int32.toInt_zero]; exact h
def linv (lv mpi : Int32) (th : Int64) (msh sp msp cn mcs : Int32) : Prop := (lv = mpi ∧ (1 ≤ lv ∧ lv ≤ 3 → th.toInt32 = msh)) ∧ (sp = msp ∧ 0 ≤ sp.toInt ∧ sp.toInt ≤ 20) ∧ (cn = mcs ∧ 0 ≤ cn.toInt ∧ cn.toInt ≤ 10)
theorem pil {lv2 pi2 sh2 : Int32} {th2 a b : Int64} (h1 : lv2 = lvl a b ∧ th2 = a) (h2 : pi2 = lvl a b ∧ sh2 = shr a) : lv2 = pi2 ∧ (1 ≤ lv2 ∧ lv2 ≤ 3 → th2.toInt32 = sh2) := by
  refine ⟨h1.1.trans h2.1.symm, fun h => ?_⟩
  rw [h1.2, h2.2]
  by_cases g : 0 ≤ a ∧ a ≤ 1000
  · rw [shr, if_pos g]
  · rw [h1.1, lvl, if_neg g] at h
    exact absurd h.2 (by decide)
theorem tgf (x : Int32) : tf x = tg x := by
  have a1 : (80 : Int32).toInt = 80 := by decide
  have a2 : (970 : Int32).toInt = 970 := by decide
  have a3 : (100 : Int32).toInt = 100 := by decide
  have a4 : (850 : Int32).toInt = 850 := by decide
  have a5 : (960 : Int32).toInt = 960 := by decide
  unfold tf tg
  simp only [Int32.lt_iff_toInt_lt, Int32.le_iff_toInt_le, a1, a2, a3, a4, a5]
  repeat' split
  all_goals first | rfl | (exfalso; omega)
theorem alo {lv mpi msh ra rb : Int32} {th : Int64} (h : lv = mpi ∧ (1 ≤ lv ∧ lv ≤ 3 → th.toInt32 = msh)) (h1 : ra = ten lv th) (h2 : rb = tem mpi msh) : ra = rb := by
  obtain ⟨rfl, h⟩ := h
  have a1 : (1 : Int32).toInt = 1 := by decide
  have a2 : (3 : Int32).toInt = 3 := by decide
  have a3 : (4 : Int32).toInt = 4 := by decide
  rw [h1, h2, ten, tem]
  by_cases g : 1 ≤ lv ∧ lv ≤ 3
  · rw [if_pos g, if_pos, tgf, h g]
    simp only [Int32.lt_iff_toInt_lt, Int32.le_iff_toInt_le, Int32.toInt_zero, a1, a2, a3] at g ⊢
    omega
  · rw [if_neg g, if_neg]
    simp only [Int32.lt_iff_toInt_lt, Int32.le_iff_toInt_le, Int32.toInt_zero, a1, a2, a3] at g ⊢
    omega
theorem prmr {a b c : Int64} : prOk a b c ↔ mrOk a b c := by
  have a1 : (1439 : Int64).toInt = 1439 := by decide
  have a2 : (1440 : Int64).toInt = 1440 := by decide
  have a3 : (1000 : Int64).toInt = 1000 := by decide
  have a4 : (1 : Int64).toInt = 1 := by decide
  unfold prOk mrOk
  simp only [Int64.lt_iff_toInt_lt, Int64.le_iff_toInt_le, Int64.toInt_zero, a1, a2, a3]
  constructor
  · intro h
    have e : (a + 1).toInt = a.toInt + 1 := by rw [Jvm.Kit.i64_add (by omega) (by omega), a4]
    omega
  · intro h
    have e : (a + 1).toInt = a.toInt + 1 := by rw [Jvm.Kit.i64_add (by omega) (by omega), a4]
    omega
theorem pri {sp msp sp2 msp2 ra rb : Int32} {a b c : Int64} (hI : sp = msp ∧ 0 ≤ sp.toInt ∧ sp.toInt ≤ 20)
    (h1 : (¬ prOk a b c → ra = -2 ∧ sp2 = sp) ∧ (prOk a b c → 20 ≤ sp → ra = -4 ∧ sp2 = sp) ∧ (prOk a b c → ¬ 20 ≤ sp → ra = sp + 1 ∧ sp2 = sp + 1))
    (h2 : (¬ mrOk a b c → rb = -2 ∧ msp2 = msp) ∧ (mrOk a b c → msp = 20 → rb = -4 ∧ msp2 = msp) ∧ (mrOk a b c → ¬ msp = 20 → rb = msp + 1 ∧ msp2 = msp + 1)) :
    ra = rb ∧ sp2 = msp2 ∧ 0 ≤ sp2.toInt ∧ sp2.toInt ≤ 20 := by
  obtain ⟨rfl, i0, i1⟩ := hI
  have a1 : (20 : Int32).toInt = 20 := by decide
  have a2 : (1 : Int32).toInt = 1 := by decide
  by_cases g : prOk a b c
  · have g2 := prmr.mp g
    by_cases f : sp = 20
    · obtain ⟨rfl, rfl⟩ := h1.2.1 g (by rw [f]; exact Int32.le_refl _)
      obtain ⟨rfl, rfl⟩ := h2.2.1 g2 f
      exact ⟨rfl, rfl, i0, i1⟩
    · have f2 : sp.toInt ≠ 20 := fun h => f (Int32.toInt_inj.mp (h.trans a1.symm))
      obtain ⟨rfl, rfl⟩ := h1.2.2 g (by rw [Int32.le_iff_toInt_le]; omega)
      obtain ⟨rfl, rfl⟩ := h2.2.2 g2 f
      refine ⟨rfl, rfl, ?_, ?_⟩ <;> (rw [Jvm.Kit.i32_add (by omega) (by omega)]; omega)
  · obtain ⟨rfl, rfl⟩ := h1.1 g
    obtain ⟨rfl, rfl⟩ := h2.1 (fun h => g (prmr.mpr h))
    exact ⟨rfl, rfl, i0, i1⟩
theorem cri {cn mcs cn2 mcs2 ra rb w : Int32} (hI : cn = mcs ∧ 0 ≤ cn.toInt ∧ cn.toInt ≤ 10)
    (h1 : (¬ (0 ≤ w ∧ w ≤ 1000) → ra = -2 ∧ cn2 = cn) ∧ (0 ≤ w ∧ w ≤ 1000 → 10 ≤ cn → ra = -4 ∧ cn2 = cn) ∧ (0 ≤ w ∧ w ≤ 1000 → ¬ 10 ≤ cn → ra = cn + 1 ∧ cn2 = cn + 1))
    (h2 : (¬ (0 ≤ w ∧ w ≤ 1000) → rb = -2 ∧ mcs2 = mcs) ∧ (0 ≤ w ∧ w ≤ 1000 → mcs = 10 → rb = -4 ∧ mcs2 = mcs) ∧ (0 ≤ w ∧ w ≤ 1000 → ¬ mcs = 10 → rb = mcs + 1 ∧ mcs2 = mcs + 1)) :
    ra = rb ∧ cn2 = mcs2 ∧ 0 ≤ cn2.toInt ∧ cn2.toInt ≤ 10 := by
  obtain ⟨rfl, i0, i1⟩ := hI
  have a1 : (10 : Int32).toInt = 10 := by decide
  have a2 : (1 : Int32).toInt = 1 := by decide
  by_cases g : 0 ≤ w ∧ w ≤ 1000
  · by_cases f : cn = 10
    · obtain ⟨rfl, rfl⟩ := h1.2.1 g (by rw [f]; exact Int32.le_refl _)
      obtain ⟨rfl, rfl⟩ := h2.2.1 g f
      exact ⟨rfl, rfl, i0, i1⟩
    · have f2 : cn.toInt ≠ 10 := fun h => f (Int32.toInt_inj.mp (h.trans a1.symm))
      obtain ⟨rfl, rfl⟩ := h1.2.2 g (by rw [Int32.le_iff_toInt_le]; omega)
      obtain ⟨rfl, rfl⟩ := h2.2.2 g f
      refine ⟨rfl, rfl, ?_, ?_⟩ <;> (rw [Jvm.Kit.i32_add (by omega) (by omega)]; omega)
  · obtain ⟨rfl, rfl⟩ := h1.1 g
    obtain ⟨rfl, rfl⟩ := h2.1 g
    exact ⟨rfl, rfl, i0, i1⟩
theorem mx1 {x y : Int64} (e : x = if y < 1 then 1 else y) : ¬ x = 0 := by
  rw [e]; split
  · decide
  · next h => intro h2; rw [h2] at h; exact h (by decide)
theorem vin1 : vp_in 0 1 := vinI (by decide) (by decide)
theorem lwi7 {i L : Nat} {x4 : Int32} (hL : L ≤ 3584) (hi : i ≤ L) (e : x4 = nI i) (c : ¬ Int32.ofNat L - 7 < x4) : i + 7 ≤ L := by
  have a1 : (7 : Int32).toInt = 7 := by decide
  have h1 : (Int32.ofNat L).toInt = (L : Int) := nI_toInt (by omega)
  have h2 : (Int32.ofNat L - 7).toInt = (L : Int) - 7 := by rw [Jvm.Kit.i32_sub (by omega) (by omega), h1, a1]
  rw [Int32.lt_iff_toInt_lt, h2, e, nI_toInt (by omega)] at c
  omega
theorem linv0 : linv 0 0 0 0 0 0 0 0 := ⟨⟨rfl, fun h => absurd h.1 (by decide)⟩, ⟨rfl, by decide, by decide⟩, rfl, by decide, by decide⟩

