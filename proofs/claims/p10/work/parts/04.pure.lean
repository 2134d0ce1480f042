-- what the answers are, in numbers
def lev (v : Int64) : Int32 := if v = 12 then 0 else if v = 9 then 1 else if v = 6 then 2 else if v = 3 then 3 else if v = 0 then 4 else if v = -12 then 5 else 6
def lvl (x v : Int64) : Int32 := if 0 ≤ x ∧ x ≤ 1000 then lev v else 6
def tf (x : Int32) : Int32 := if x < 80 ∨ 970 < x then 0 else if x < 100 then 60 else if x ≤ 850 then 6 * x / 10 else if x ≤ 960 then 25 * (x - 640) / 10 else 800
def ten (lv : Int32) (th : Int64) : Int32 := if 1 ≤ lv ∧ lv ≤ 3 then tf th.toInt32 else 0
def tg (x : Int32) : Int32 := if 80 ≤ x ∧ x < 100 then 60 else if 100 ≤ x ∧ x ≤ 850 then 6 * x / 10 else if 850 < x ∧ x ≤ 960 then 25 * (x - 640) / 10 else if 960 < x ∧ x ≤ 970 then 800 else 0
def tem (pi sh : Int32) : Int32 := if 0 < pi ∧ pi < 4 then tg sh else 0
def shr (x : Int64) : Int32 := if 0 ≤ x ∧ x ≤ 1000 then x.toInt32 else 0
def prOk (a b c : Int64) : Prop := (0 ≤ a ∧ a ≤ 1439) ∧ (a + 1 ≤ b ∧ b ≤ 1440) ∧ (0 ≤ c ∧ c ≤ 1000)
def mrOk (a b c : Int64) : Prop := (¬ a < 0 ∧ ¬ 1439 < a) ∧ (¬ b ≤ a ∧ ¬ 1440 < b) ∧ (¬ c < 0 ∧ c ≤ 1000)
-- bounds
theorem vinB (k : Int32) {i : Int32} {n : Nat} (h : 0 ≤ i) (c : ¬ k ≤ i) (hk : k.toInt ≤ n) : vp_in i n := by
  rw [vp_in_iff]
  rw [Int32.le_iff_toInt_le] at h c
  rw [Int32.toInt_zero] at h
  omega
theorem vinC (k : Int32) {i : Int32} {n : Nat} (h : 0 ≤ i) (c : ¬ k < i) (hk : k.toInt < n) : vp_in i n := by
  rw [vp_in_iff]
  rw [Int32.le_iff_toInt_le] at h
  rw [Int32.lt_iff_toInt_lt] at c
  rw [Int32.toInt_zero] at h
  omega
theorem vinL (k : Int64) {q : Int64} {x : Int32} {n : Nat} (h : ¬ q < 0) (c : q.toInt < n) (hn : n ≤ 100000) (e : x = q.toInt32) : vp_in x n := by
  rw [vp_in_iff, e]
  rw [Int64.lt_iff_toInt_lt, Int64.toInt_zero] at h
  rw [Jvm.Kit.i32_of_i64 (by omega) (by omega)]
  omega
theorem nle6 {a b : Int64} {n : Int} (c : ¬ a ≤ b) (h : a.toInt = n) : b.toInt < n := by rw [Int64.le_iff_toInt_le] at c; omega
theorem nlt6 {a b : Int64} {n : Int} (c : ¬ a < b) (h : a.toInt = n) : b.toInt ≤ n := by rw [Int64.lt_iff_toInt_lt] at c; omega
theorem ii0 (k : Int32) {i x : Int32} (h : 0 ≤ i) (c : ¬ k ≤ i) (e : x = i + 1) : 0 ≤ x ∧ x.toInt = i.toInt + 1 ∧ i.toInt < k.toInt ∧ 0 ≤ i.toInt := by
  rw [Int32.le_iff_toInt_le] at h c ⊢
  rw [Int32.toInt_zero] at h ⊢
  have h1 : (1 : Int32).toInt = 1 := by decide
  have h2 := Int32.toInt_lt k
  have h3 : x.toInt = i.toInt + 1 := by rw [e, Jvm.Kit.i32_add (by omega) (by omega), h1]
  omega
theorem ij0 (k : Int32) {i x : Int32} (h : 0 ≤ i) (c : ¬ k < i) (hk : k.toInt < 2147483647) (e : x = i + 1) : 0 ≤ x ∧ x.toInt = i.toInt + 1 ∧ i.toInt ≤ k.toInt ∧ 0 ≤ i.toInt := by
  rw [Int32.le_iff_toInt_le] at h ⊢
  rw [Int32.lt_iff_toInt_lt] at c
  rw [Int32.toInt_zero] at h ⊢
  have h1 : (1 : Int32).toInt = 1 := by decide
  have h3 : x.toInt = i.toInt + 1 := by rw [e, Jvm.Kit.i32_add (by omega) (by omega), h1]
  omega
theorem mx0 {x y : Int32} (e : x = if (0 : Int32) < y then y else 0) : 0 ≤ x ∧ 0 ≤ x.toInt := by
  have h : 0 ≤ x := by
    rw [e]; split
    · next h => exact Int32.le_of_lt h
    · exact Int32.le_refl 0
  exact ⟨h, by rw [Int32.le_iff_toInt_le, Int32.toInt_zero] at h; exact h⟩
theorem le0 : (0 : Int32) ≤ 0 := by decide
theorem vinM {p0 x : Int32} (h1 : ¬ p0 < 1) (h2 : ¬ 10 < p0) (e : x = p0 - 1) : vp_in x 10 := by
  rw [Int32.lt_iff_toInt_lt] at h1 h2
  have a1 : (1 : Int32).toInt = 1 := by decide
  have a2 : (10 : Int32).toInt = 10 := by decide
  rw [vp_in_iff, e, Jvm.Kit.i32_sub (by omega) (by omega)]
  omega
theorem vinI {i : Int32} {n : Nat} (h1 : 0 ≤ i.toInt) (h2 : i.toInt < n) : vp_in i n := vp_in_iff.mpr ⟨h1, h2⟩
theorem remlt {x y z : Int64} (hy : 0 < y.toInt) (e : z = x - x / y * y) : z.toInt < y.toInt := by
  rw [e, Jvm.Kit.i64_rem]
  exact (tmod_bounds hy).2
theorem i6z {y : Int64} : y = 0 ↔ y.toInt = 0 := by rw [← Int64.toInt_inj, Int64.toInt_zero]
theorem i6p {y : Int64} (h : ¬ y ≤ 0) : 0 < y.toInt := by rw [Int64.le_iff_toInt_le, Int64.toInt_zero] at h; omega
theorem i6nz {y : Int64} (h : ¬ y ≤ 0) : ¬ y = 0 := fun e => by have := i6p h; rw [e, Int64.toInt_zero] at this; omega
theorem i2l_w {w : Int32} {x : Int64} (e : x = w.toInt64) : (0 ≤ x ∧ x ≤ 1000) ↔ (0 ≤ w ∧ w ≤ 1000) := by
  have a1 : (1000 : Int64).toInt = 1000 := by decide
  have a2 : (1000 : Int32).toInt = 1000 := by decide
  have h : x.toInt = w.toInt := by rw [e, Jvm.Kit.i64_of_i32]
  rw [Int64.le_iff_toInt_le, Int64.le_iff_toInt_le, Int32.le_iff_toInt_le, Int32.le_iff_toInt_le, Int64.toInt_zero, Int32.toInt_zero, h, a1, a2]
theorem i32ge {i : Int32} (h : 0 ≤ i) : 0 ≤ i.toInt := by rw [Int32.le_iff_toInt_le, Int32.toInt_zero] at h; exact h
theorem i32nlt {a i : Int32} {n : Int} (h : ¬ a < i) (e : a.toInt = n) : i.toInt ≤ n := by rw [Int32.lt_iff_toInt_lt] at h; omega
theorem i32nle {a i : Int32} (h : ¬ a ≤ i) : i.toInt < a.toInt := by rw [Int32.le_iff_toInt_le] at h; omega
theorem vinK {k : Int32} (h : ¬ k < 0) (h2 : k.toInt < 20) : vp_in k 20 := by
  rw [Int32.lt_iff_toInt_lt, Int32.toInt_zero] at h
  exact vinI (by omega) (by omega)
theorem sp1 {sp x : Int32} (h0 : 0 ≤ sp.toInt) (h1 : sp.toInt ≤ 20) (e : x = sp - 1) : x.toInt < 20 ∧ (x.toInt + 1).toNat < 22 := by
  have a1 : (1 : Int32).toInt = 1 := by decide
  rw [e, Jvm.Kit.i32_sub (by omega) (by omega)]
  omega
theorem kd {k x : Int32} (h : ¬ k < 0) (h2 : k.toInt < 20) (e : x = k + (-1)) : x.toInt < 20 ∧ x.toInt = k.toInt - 1 ∧ 0 ≤ k.toInt := by
  rw [Int32.lt_iff_toInt_lt, Int32.toInt_zero] at h
  have a1 : (-1 : Int32).toInt = -1 := by decide
  have h3 : x.toInt = k.toInt - 1 := by rw [e, Jvm.Kit.i32_add (by omega) (by omega)]; omega
  omega
theorem vinSp {sp k : Int32} (h1 : sp.toInt ≤ 20) (h : 0 ≤ k) (c : ¬ sp ≤ k) : vp_in k 20 := vinI (i32ge h) (by have := i32nle c; omega)
theorem vinU {u x : Int64} {k : Int32} (hu : u.toInt ≤ 1440) (h : 0 ≤ k) (c : ¬ u ≤ x) (e : x = k.toInt64) : vp_in k 1440 := by
  rw [Int64.le_iff_toInt_le, e, Jvm.Kit.i64_of_i32] at c
  exact vinI (i32ge h) (by omega)
theorem nle6c {u : Int64} (h : u ≤ 1440) : u.toInt ≤ 1440 := by
  rw [Int64.le_iff_toInt_le] at h
  have : (1440 : Int64).toInt = 1440 := by decide
  omega
theorem le6 {u : Int64} (h : u ≤ 1439) : u.toInt < 1440 := by
  rw [Int64.le_iff_toInt_le] at h
  have : (1439 : Int64).toInt = 1439 := by decide
  omega
theorem kkup {sp k x : Int32} (h1 : sp.toInt ≤ 20) (h : 0 ≤ k) (c : ¬ sp ≤ k) (e : x = k + 1) : 0 ≤ x ∧ x.toInt = k.toInt + 1 ∧ k.toInt < 20 ∧ 0 ≤ k.toInt := by
  have := ii0 sp h c e
  exact ⟨this.1, this.2.1, by omega, this.2.2.2⟩
theorem kkU {u q : Int64} {k x : Int32} (hu : u.toInt ≤ 1440) (h : 0 ≤ k) (c : ¬ u ≤ q) (e : q = k.toInt64) (e2 : x = k + 1) : 0 ≤ x ∧ x.toInt = k.toInt + 1 ∧ k.toInt < 1440 ∧ 0 ≤ k.toInt := by
  have hk := (vp_in_iff.mp (vinU hu h c e))
  have := ii0 1440 h (fun q => by rw [Int32.le_iff_toInt_le] at q; have h9 : (1440 : Int32).toInt = 1440 := (by decide); omega) e2
  exact ⟨this.1, this.2.1, by omega, this.2.2.2⟩
theorem vinN {sp : Int32} (h0 : 0 ≤ sp.toInt) (h1 : sp.toInt ≤ 20) (c : ¬ sp = 20) : vp_in sp 20 := by
  refine vinI h0 ?_
  have h2 : sp.toInt ≠ 20 := fun h => c (Int32.toInt_inj.mp (h.trans (by decide)))
  omega
theorem vinCs {cs x : Int32} (h0 : 0 ≤ cs.toInt) (h1 : cs.toInt ≤ 10) (c : ¬ cs = 10) (e : x = cs + 1) : vp_in x 11 := by
  have h2 : cs.toInt ≠ 10 := fun h => c (Int32.toInt_inj.mp (h.trans (by decide)))
  have a1 : (1 : Int32).toInt = 1 := by decide
  have h3 : x.toInt = cs.toInt + 1 := by rw [e, Jvm.Kit.i32_add (by omega) (by omega), a1]
  exact vinI (by omega) (by omega)
theorem vinKs {cs k : Int32} (h1 : cs.toInt ≤ 10) (h : 0 ≤ k) (c : ¬ cs < k) : vp_in k 11 := vinI (i32ge h) (by have := i32nlt c rfl; omega)
theorem vinP {cs q : Int32} (h1 : cs.toInt ≤ 10) (h : 1 ≤ q.toInt ∧ q.toInt ≤ cs.toInt) : vp_in q 11 := vinI (by omega) (by omega)
theorem pcs {q cs : Int32} (c : ¬ q < 1) (d : q ≤ cs) : 1 ≤ q.toInt ∧ q.toInt ≤ cs.toInt := by
  rw [Int32.lt_iff_toInt_lt] at c
  rw [Int32.le_iff_toInt_le] at d
  have a1 : (1 : Int32).toInt = 1 := by decide
  omega
theorem kksh {cs k x : Int32} (h1 : cs.toInt ≤ 10) (h : 0 ≤ k) (c : ¬ cs < k) (e : x = k + 1) : 0 ≤ x ∧ x.toInt = k.toInt + 1 ∧ k.toInt ≤ 10 ∧ 0 ≤ k.toInt := by
  have := ij0 cs h c (by omega) e
  exact ⟨this.1, this.2.1, by omega, this.2.2.2⟩
-- the law
def sx (xs : Nat → Int32) (x4 k : Int32) : Int32 := xs (x4 + k).toNatClampNeg
def jn (a b : Int32) : Int64 := a.toInt64 <<< ((32 : Int32).toInt64 &&& 63) ||| b.toInt64 &&& 4294967295
theorem vinS0 {i L : Nat} {x4 : Int32} (hL : L ≤ 3584) (hi : i + 7 ≤ L) (e4 : x4 = nI i) : vp_in x4 L := by
  rw [e4]; exact vp_in_nI (by omega) (by omega)
theorem vinS (k : Nat) {i L : Nat} {x4 c : Int32} (hL : L ≤ 3584) (hi : i + 7 ≤ L) (e4 : x4 = nI i) (hk : k < 7) (hc : c = nI k) : vp_in (x4 + c) L := by
  rw [e4, hc, nI_add]; exact vp_in_nI (by omega) (by omega)
theorem ge32 {i : Int32} (h : 0 ≤ i.toInt) : 0 ≤ i := by rw [Int32.le_iff_toInt_le, Int32.toInt_zero]; exact h
def linv (lv mpi : Int32) (th : Int64) (msh sp msp cn mcs : Int32) : Prop := (lv = mpi ∧ (1 ≤ lv ∧ lv ≤ 3 → th.toInt32 = msh)) ∧ (sp = msp ∧ 0 ≤ sp.toInt ∧ sp.toInt ≤ 20) ∧ (cn = mcs ∧ 0 ≤ cn.toInt ∧ cn.toInt ≤ 10)
theorem pil {lv2 pi2 sh2 : Int32} {th2 a b : Int64} (h1 : lv2 = lvl a b ∧ th2 = a) (h2 : pi2 = lvl a b ∧ sh2 = shr a) : lv2 = pi2 ∧ (1 ≤ lv2 ∧ lv2 ≤ 3 → th2.toInt32 = sh2) := by
  refine ⟨h1.1.trans h2.1.symm, fun h => ?_⟩
  rw [h1.2, h2.2]
  by_cases g : 0 ≤ a ∧ a ≤ 1000
  · rw [shr, if_pos g]
  · rw [h1.1, lvl, if_neg g] at h
    exact absurd h.2 (by decide)
theorem tgf (x : Int32) : tf x = tg x := by
  have a1 : (80 : Int32).toInt = 80 := by decide
  have a2 : (970 : Int32).toInt = 970 := by decide
  have a3 : (100 : Int32).toInt = 100 := by decide
  have a4 : (850 : Int32).toInt = 850 := by decide
  have a5 : (960 : Int32).toInt = 960 := by decide
  unfold tf tg
  simp only [Int32.lt_iff_toInt_lt, Int32.le_iff_toInt_le, a1, a2, a3, a4, a5]
  repeat' split
  all_goals first | rfl | (exfalso; omega)
theorem alo {lv mpi msh ra rb : Int32} {th : Int64} (h : lv = mpi ∧ (1 ≤ lv ∧ lv ≤ 3 → th.toInt32 = msh)) (h1 : ra = ten lv th) (h2 : rb = tem mpi msh) : ra = rb := by
  obtain ⟨rfl, h⟩ := h
  have a1 : (1 : Int32).toInt = 1 := by decide
  have a2 : (3 : Int32).toInt = 3 := by decide
  have a3 : (4 : Int32).toInt = 4 := by decide
  rw [h1, h2, ten, tem]
  by_cases g : 1 ≤ lv ∧ lv ≤ 3
  · rw [if_pos g, if_pos, tgf, h g]
    simp only [Int32.lt_iff_toInt_lt, Int32.le_iff_toInt_le, Int32.toInt_zero, a1, a2, a3] at g ⊢
    omega
  · rw [if_neg g, if_neg]
    simp only [Int32.lt_iff_toInt_lt, Int32.le_iff_toInt_le, Int32.toInt_zero, a1, a2, a3] at g ⊢
    omega
theorem prmr {a b c : Int64} : prOk a b c ↔ mrOk a b c := by
  have a1 : (1439 : Int64).toInt = 1439 := by decide
  have a2 : (1440 : Int64).toInt = 1440 := by decide
  have a3 : (1000 : Int64).toInt = 1000 := by decide
  have a4 : (1 : Int64).toInt = 1 := by decide
  unfold prOk mrOk
  simp only [Int64.lt_iff_toInt_lt, Int64.le_iff_toInt_le, Int64.toInt_zero, a1, a2, a3]
  constructor
  · intro h
    have e : (a + 1).toInt = a.toInt + 1 := by rw [Jvm.Kit.i64_add (by omega) (by omega), a4]
    omega
  · intro h
    have e : (a + 1).toInt = a.toInt + 1 := by rw [Jvm.Kit.i64_add (by omega) (by omega), a4]
    omega
theorem mx1 {x y : Int64} (e : x = if y < 1 then 1 else y) : ¬ x = 0 := by
  rw [e]; split
  · decide
  · next h => intro h2; rw [h2] at h; exact h (by decide)
theorem vin1 : vp_in 0 1 := vinI (by decide) (by decide)
theorem lwi7 {i L : Nat} {x4 : Int32} (hL : L ≤ 3584) (hi : i ≤ L) (e : x4 = nI i) (c : ¬ Int32.ofNat L - 7 < x4) : i + 7 ≤ L := by
  have a1 : (7 : Int32).toInt = 7 := by decide
  have h1 : (Int32.ofNat L).toInt = (L : Int) := nI_toInt (by omega)
  have h2 : (Int32.ofNat L - 7).toInt = (L : Int) - 7 := by rw [Jvm.Kit.i32_sub (by omega) (by omega), h1, a1]
  rw [Int32.lt_iff_toInt_lt, h2, e, nI_toInt (by omega)] at c
  omega
theorem linv0 : linv 0 0 0 0 0 0 0 0 := ⟨⟨rfl, fun h => absurd h.1 (by decide)⟩, ⟨rfl, by decide, by decide⟩, rfl, by decide, by decide⟩
-- cars, weights and shares
def wsum (f : Nat → Int32) : Nat → Int
  | 0 => 0
  | n + 1 => wsum f n + (f n).toInt
theorem wsum_upd {f : Nat → Int32} {n : Nat} {w : Int32} : ∀ m, m ≤ n → wsum (upd f n w) m = wsum f m := by
  intro m
  induction m with
  | zero => intro _; rfl
  | succ m ih =>
    intro h
    have e : upd f n w m = f m := pk_un (by omega)
    rw [wsum, wsum, ih (by omega), e]
theorem wsum_congr {f g : Nat → Int32} : ∀ n, (∀ k, k < n → f k = g k) → wsum f n = wsum g n := by
  intro n
  induction n with
  | zero => intro _; rfl
  | succ n ih =>
    intro h
    rw [wsum, wsum, ih (fun k hk => h k (by omega)), h n (by omega)]
theorem wsum_le {f : Nat → Int32} : ∀ n : Nat, (∀ k, k < n → 0 ≤ (f k).toInt ∧ (f k).toInt ≤ 1000) → 0 ≤ wsum f n ∧ wsum f n ≤ 1000 * (n : Int) := by
  intro n
  induction n with
  | zero => intro _; exact ⟨Int.le_refl 0, Int.le_refl 0⟩
  | succ n ih =>
    intro h
    have h1 := ih (fun k hk => h k (by omega))
    have h2 := h n (by omega)
    rw [wsum]
    omega
def wof (f : Nat → Int32) (q : Int32) : Int32 := if 1 ≤ q ∧ q ≤ 10 then f (q - 1).toNatClampNeg else 0
def srel (f4 : Nat → Int32) (to : Int64) (cn : Int32) (g5 : Nat → Int32) : Prop := (∀ k : Nat, (k : Int) < cn.toInt → f4 k = g5 (k + 1) ∧ 0 ≤ (f4 k).toInt ∧ (f4 k).toInt ≤ 1000) ∧ to.toInt = wsum f4 cn.toInt.toNat
theorem srel0 : srel (fun _ => 0) 0 0 (fun _ => 0) := by
  have a1 : (0 : Int32).toInt = 0 := by decide
  refine ⟨fun k hk => ?_, by decide⟩
  omega
theorem srb {f4 : Nat → Int32} {to : Int64} {cn : Int32} {g5 : Nat → Int32} (h : srel f4 to cn g5) (h0 : 0 ≤ cn.toInt) (h1 : cn.toInt ≤ 10) : 0 ≤ to.toInt ∧ to.toInt ≤ 10000 := by
  have h2 := wsum_le (f := f4) cn.toInt.toNat (fun k hk => (h.1 k (by omega)).2)
  rw [h.2]
  omega
theorem cri {cn mcs cn2 mcs2 ra rb w : Int32} {to to2 : Int64} {f4 f4b g5 g5b : Nat → Int32} (hI : cn = mcs ∧ 0 ≤ cn.toInt ∧ cn.toInt ≤ 10)
    (h1 : (¬ (0 ≤ w ∧ w ≤ 1000) → ra = -2 ∧ cn2 = cn ∧ to2 = to ∧ f4b = f4) ∧ (0 ≤ w ∧ w ≤ 1000 → 10 ≤ cn → ra = -4 ∧ cn2 = cn ∧ to2 = to ∧ f4b = f4) ∧ (0 ≤ w ∧ w ≤ 1000 → ¬ 10 ≤ cn → ra = cn + 1 ∧ cn2 = cn + 1 ∧ to2 = to + w.toInt64 ∧ f4b = upd f4 cn.toNatClampNeg w))
    (h2 : (¬ (0 ≤ w ∧ w ≤ 1000) → rb = -2 ∧ mcs2 = mcs ∧ g5b = g5) ∧ (0 ≤ w ∧ w ≤ 1000 → mcs = 10 → rb = -4 ∧ mcs2 = mcs ∧ g5b = g5) ∧ (0 ≤ w ∧ w ≤ 1000 → ¬ mcs = 10 → rb = mcs + 1 ∧ mcs2 = mcs + 1 ∧ g5b = upd g5 (mcs + 1).toNatClampNeg w)) :
    (ra = rb ∧ cn2 = mcs2 ∧ 0 ≤ cn2.toInt ∧ cn2.toInt ≤ 10) ∧ (srel f4 to cn g5 → srel f4b to2 cn2 g5b) := by
  obtain ⟨rfl, i0, i1⟩ := hI
  have a1 : (10 : Int32).toInt = 10 := by decide
  have a2 : (1 : Int32).toInt = 1 := by decide
  have a3 : (1000 : Int32).toInt = 1000 := by decide
  by_cases g : 0 ≤ w ∧ w ≤ 1000
  · by_cases f : cn = 10
    · obtain ⟨rfl, rfl, rfl, rfl⟩ := h1.2.1 g (by rw [f]; exact Int32.le_refl _)
      obtain ⟨rfl, rfl, rfl⟩ := h2.2.1 g f
      exact ⟨⟨rfl, rfl, i0, i1⟩, fun h => h⟩
    · have f2 : cn.toInt ≠ 10 := fun h => f (Int32.toInt_inj.mp (h.trans a1.symm))
      obtain ⟨rfl, rfl, rfl, rfl⟩ := h1.2.2 g (by rw [Int32.le_iff_toInt_le]; omega)
      obtain ⟨rfl, rfl, rfl⟩ := h2.2.2 g f
      have e : (cn + 1).toInt = cn.toInt + 1 := by rw [Jvm.Kit.i32_add (by omega) (by omega), a2]
      refine ⟨⟨rfl, rfl, by omega, by omega⟩, fun hs => ?_⟩
      rw [Int32.le_iff_toInt_le, Int32.le_iff_toInt_le, Int32.toInt_zero, a3] at g
      have e2 : (cn + 1).toNatClampNeg = cn.toInt.toNat + 1 := by
        show (cn + 1).toInt.toNat = cn.toInt.toNat + 1
        rw [e]; omega
      have e3 : cn.toNatClampNeg = cn.toInt.toNat := rfl
      rw [e2, e3]
      have hb := srb hs i0 i1
      refine ⟨fun k hk => ?_, ?_⟩
      · rw [e] at hk
        by_cases hkn : (k : Int) < cn.toInt
        · have h9 := hs.1 k hkn
          have q1 : upd f4 cn.toInt.toNat w k = f4 k := pk_un (by omega)
          have q2 : upd g5 (cn.toInt.toNat + 1) w (k + 1) = g5 (k + 1) := pk_un (by omega)
          rw [q1, q2]; exact h9
        · have hk2 : k = cn.toInt.toNat := by omega
          subst hk2
          have q1 : upd f4 cn.toInt.toNat w cn.toInt.toNat = w := pk_us
          have q2 : upd g5 (cn.toInt.toNat + 1) w (cn.toInt.toNat + 1) = w := pk_us
          rw [q1, q2]; exact ⟨rfl, g⟩
      · have q1 : upd f4 cn.toInt.toNat w cn.toInt.toNat = w := pk_us
        have q3 : w.toInt64.toInt = w.toInt := Jvm.Kit.i64_of_i32 w
        have q4 : (cn + 1).toInt.toNat = cn.toInt.toNat + 1 := by rw [e]; omega
        rw [q4, wsum, wsum_upd _ (Nat.le_refl _), q1, Jvm.Kit.i64_add (by omega) (by omega), q3, hs.2]
  · obtain ⟨rfl, rfl, rfl, rfl⟩ := h1.1 g
    obtain ⟨rfl, rfl, rfl⟩ := h2.1 g
    exact ⟨⟨rfl, rfl, i0, i1⟩, fun h => h⟩
-- the greatest common factor, twice
theorem gcd_step {X Y : Nat} : Nat.gcd Y (X % Y) = Nat.gcd X Y := by
  rw [Nat.gcd_comm X Y, Nat.gcd_rec Y X, Nat.gcd_comm]
theorem rem_nat {x y z : Int64} (hx : 0 ≤ x.toInt) (hy : 0 < y.toInt) (e : z = x - x / y * y) : 0 ≤ z.toInt ∧ z.toInt < y.toInt ∧ z.toInt.toNat = x.toInt.toNat % y.toInt.toNat := by
  have h : z.toInt = x.toInt % y.toInt := by rw [e, Jvm.Kit.i64_rem_nonneg hx]
  have h1 := Int.emod_nonneg x.toInt (by omega : y.toInt ≠ 0)
  have h2 := Int.emod_lt_of_pos x.toInt hy
  refine ⟨by omega, by omega, ?_⟩
  have hx' : ((x.toInt.toNat : Nat) : Int) = x.toInt := Int.toNat_of_nonneg hx
  have hy' : ((y.toInt.toNat : Nat) : Int) = y.toInt := Int.toNat_of_nonneg (by omega)
  have h3 : ((x.toInt.toNat % y.toInt.toNat : Nat) : Int) = x.toInt % y.toInt := by rw [Int.natCast_emod, hx', hy']
  omega
def cfI (p0 p1 xx yy : Int64) (i : Int32) : Prop := 0 ≤ xx.toInt ∧ 0 ≤ yy.toInt ∧ Nat.gcd xx.toInt.toNat yy.toInt.toNat = Nat.gcd p0.toInt.toNat p1.toInt.toNat ∧ ((i.toInt = 0 ∧ yy.toInt < 16384) ∨ (yy.toInt < xx.toInt ∧ ∃ a b : Nat, xx.toInt.toNat < 2 ^ a ∧ yy.toInt.toNat < 2 ^ b ∧ (a : Int) + (b : Int) ≤ 200 - i.toInt))
theorem cf_0 {p0 p1 : Int64} (h0 : 0 ≤ p0.toInt) (h1 : 0 ≤ p1.toInt) (h2 : p1.toInt < 16384) : cfI p0 p1 p0 p1 0 := ⟨h0, h1, rfl, Or.inl ⟨by decide, h2⟩⟩
theorem cf_s {p0 p1 xx yy z : Int64} {i j : Int32} (h : cfI p0 p1 xx yy i) (hi : 0 ≤ i) (c : ¬ 200 ≤ i) (hy : ¬ yy = 0) (ez : z = xx - xx / yy * yy) (ej : j = i + 1) : cfI p0 p1 yy z j := by
  obtain ⟨hx0, hy0, hg, hc⟩ := h
  have hy1 : 0 < yy.toInt := by
    have : yy.toInt ≠ 0 := fun e => hy (i6z.mpr e)
    omega
  obtain ⟨z0, z1, z2⟩ := rem_nat hx0 hy1 ez
  have hj := (ii0 200 hi c ej).2
  have a1 : (200 : Int32).toInt = 200 := by decide
  refine ⟨hy0, z0, by rw [z2, gcd_step, hg], Or.inr ⟨z1, ?_⟩⟩
  rcases hc with ⟨hi0, hlt⟩ | ⟨hlt, a, b, ha, hb, hs⟩
  · exact ⟨14, 14, by omega, by omega, by omega⟩
  · have hm : xx.toInt.toNat % yy.toInt.toNat ≤ xx.toInt.toNat - yy.toInt.toNat := by
      rw [Nat.mod_eq_sub_mod (by omega)]; exact Nat.mod_le _ _
    have hm2 : xx.toInt.toNat % yy.toInt.toNat < yy.toInt.toNat := Nat.mod_lt _ (by omega)
    cases a with
    | zero => rw [Nat.pow_zero] at ha; omega
    | succ a =>
      refine ⟨b, a, hb, ?_, by omega⟩
      rw [Nat.pow_succ] at ha
      omega
theorem cf_e {p0 p1 xx yy : Int64} {i : Int32} (h : cfI p0 p1 xx yy i) (he : 200 ≤ i ∨ yy = 0) : xx.toInt = (Nat.gcd p0.toInt.toNat p1.toInt.toNat : Nat) := by
  obtain ⟨hx0, hy0, hg, hc⟩ := h
  have a1 : (200 : Int32).toInt = 200 := by decide
  rcases he with h2 | h2
  · rw [Int32.le_iff_toInt_le, a1] at h2
    rcases hc with ⟨hi0, -⟩ | ⟨hlt, a, b, ha, hb, hs⟩
    · omega
    · have ha0 : a = 0 := by
        clear ha hb
        omega
      rw [ha0, Nat.pow_zero] at ha
      clear hb
      omega
  · have h3 : yy.toInt = 0 := i6z.mp h2
    rw [h3] at hg
    rw [show (0 : Int).toNat = 0 from rfl, Nat.gcd_zero_right] at hg
    clear hc
    omega
def mgI (su up xx yy : Int64) : Prop := 0 < xx.toInt ∧ 0 ≤ yy.toInt ∧ Nat.gcd xx.toInt.toNat yy.toInt.toNat = Nat.gcd su.toInt.toNat up.toInt.toNat
theorem mg_s {su up xx yy z : Int64} (h : mgI su up xx yy) (c : ¬ yy ≤ 0) (ez : z = xx - xx / yy * yy) : mgI su up yy z := by
  obtain ⟨hx, hy, hg⟩ := h
  have hy1 := i6p c
  obtain ⟨z0, z1, z2⟩ := rem_nat (Int.le_of_lt hx) hy1 ez
  exact ⟨hy1, z0, by rw [z2, gcd_step, hg]⟩
theorem mg_e {su up xx yy : Int64} (h : mgI su up xx yy) (c : yy ≤ 0) : xx.toInt = (Nat.gcd up.toInt.toNat su.toInt.toNat : Nat) := by
  obtain ⟨hx, hy, hg⟩ := h
  rw [Int64.le_iff_toInt_le, Int64.toInt_zero] at c
  have h3 : yy.toInt = 0 := by omega
  rw [h3, show (0 : Int).toNat = 0 from rfl, Nat.gcd_zero_right, Nat.gcd_comm] at hg
  omega
abbrev shT (c : Int32) (al : Int64) (cn : Int32) (S : Int) : Prop := (1 ≤ c ∧ c ≤ cn) ∧ (0 ≤ al ∧ al ≤ 1000000000000) ∧ S = 0
def shP (c : Int32) (al : Int64) (sd cn : Int32) (S : Int) (w r : Int64) : Prop := (¬ (1 ≤ c ∧ c ≤ cn) → r = -1) ∧ (1 ≤ c ∧ c ≤ cn → ¬ (0 ≤ al ∧ al ≤ 1000000000000) → r = -2) ∧ (1 ≤ c ∧ c ≤ cn → 0 ≤ al ∧ al ≤ 1000000000000 → ∃ g tt : Int64, tt.toInt = S ∧ g.toInt = (Nat.gcd (al * w).toInt.toNat S.toNat : Nat) ∧ r = if sd = 0 then al * w / g else tt / g)
theorem shP_u {c sd cn : Int32} {al w r1 r2 : Int64} {S : Int} (h1 : shP c al sd cn S w r1) (h2 : shP c al sd cn S w r2) : r1 = r2 := by
  by_cases a : 1 ≤ c ∧ c ≤ cn
  · by_cases b : 0 ≤ al ∧ al ≤ 1000000000000
    · obtain ⟨g, tt, t1, g1, e1⟩ := h1.2.2 a b
      obtain ⟨g', tt', t2, g2, e2⟩ := h2.2.2 a b
      have eg : g = g' := Int64.toInt_inj.mp (g1.trans g2.symm)
      have et : tt = tt' := Int64.toInt_inj.mp (t1.trans t2.symm)
      rw [e1, e2, eg, et]
    · rw [h1.2.1 a b, h2.2.1 a b]
  · rw [h1.1 a, h2.1 a]
theorem upB {al : Int64} {w : Int32} (ha : 0 ≤ al ∧ al ≤ 1000000000000) (hw : 0 ≤ w.toInt ∧ w.toInt ≤ 1000) {x y : Int64} (ey : y = w.toInt64) (e : x = al * y) : 0 ≤ x.toInt := by
  have a1 : (1000000000000 : Int64).toInt = 1000000000000 := by decide
  rw [Int64.le_iff_toInt_le, Int64.le_iff_toInt_le, Int64.toInt_zero, a1] at ha
  have h1 : w.toInt64.toInt = w.toInt := Jvm.Kit.i64_of_i32 w
  have h2 : 0 ≤ al.toInt * w.toInt := Int.mul_nonneg ha.1 hw.1
  have h3 : al.toInt * w.toInt ≤ 1000000000000 * 1000 := Int.mul_le_mul ha.2 hw.2 hw.1 (by omega)
  rw [e, ey, Jvm.Kit.i64_mul (by rw [h1]; omega) (by rw [h1]; omega), h1]
  exact h2
theorem mxg {x y : Int64} {G : Nat} (hG : 0 < G) (hy : y.toInt = (G : Nat)) (e : x = if y < 1 then 1 else y) : x = y := by
  have a1 : (1 : Int64).toInt = 1 := by decide
  rw [e, if_neg]
  rw [Int64.lt_iff_toInt_lt, a1]
  omega
theorem wofb {f4 : Nat → Int32} {c cn r : Int32} (hq : ∀ k : Nat, (k : Int) < cn.toInt → 0 ≤ (f4 k).toInt ∧ (f4 k).toInt ≤ 1000) (h4 : cn.toInt ≤ 10) (hc : 1 ≤ c ∧ c ≤ cn) (e : r = wof f4 c) : r = f4 (c - 1).toNatClampNeg ∧ 0 ≤ r.toInt ∧ r.toInt ≤ 1000 := by
  have a1 : (1 : Int32).toInt = 1 := by decide
  have a2 : (10 : Int32).toInt = 10 := by decide
  have hc2 := hc
  rw [Int32.le_iff_toInt_le, Int32.le_iff_toInt_le, a1] at hc2
  have h1 : r = f4 (c - 1).toNatClampNeg := by
    rw [e, wof, if_pos]
    rw [Int32.le_iff_toInt_le, Int32.le_iff_toInt_le, a1, a2]
    omega
  have h2 : (c - 1).toNatClampNeg = c.toInt.toNat - 1 := by
    show (c - 1).toInt.toNat = c.toInt.toNat - 1
    rw [Jvm.Kit.i32_sub (by omega) (by omega), a1]
    omega
  refine ⟨h1, ?_⟩
  rw [h1, h2]
  exact hq _ (by omega)
def mS (g5 : Nat → Int32) (cs : Int32) : Int := wsum (fun k => g5 (k + 1)) cs.toInt.toNat
theorem mS_le {g5 : Nat → Int32} {n : Nat} (hg : ∀ k : Nat, k < n → 0 ≤ (g5 (k + 1)).toInt ∧ (g5 (k + 1)).toInt ≤ 1000) : 0 ≤ wsum (fun k => g5 (k + 1)) n ∧ wsum (fun k => g5 (k + 1)) n ≤ 1000 * (n : Int) := wsum_le n hg
theorem sum_s {g5 : Nat → Int32} {cs kk x : Int32} {su su2 y : Int64} (h1 : cs.toInt ≤ 10) (hg : ∀ k : Nat, (k : Int) < cs.toInt → 0 ≤ (g5 (k + 1)).toInt ∧ (g5 (k + 1)).toInt ≤ 1000) (hk : 1 ≤ kk.toInt) (c : ¬ cs < kk) (hs : su.toInt = wsum (fun k => g5 (k + 1)) (kk.toInt.toNat - 1)) (ex : x = g5 kk.toNatClampNeg) (ey : y = x.toInt64) (e : su2 = su + y) {kk2 : Int32} (ek : kk2 = kk + 1) : su2.toInt = wsum (fun k => g5 (k + 1)) (kk2.toInt.toNat - 1) ∧ 1 ≤ kk2.toInt ∧ kk2.toInt ≤ cs.toInt + 1 ∧ kk2.toInt = kk.toInt + 1 := by
  rw [Int32.lt_iff_toInt_lt] at c
  have a1 : (1 : Int32).toInt = 1 := by decide
  have hk2 : kk2.toInt = kk.toInt + 1 := by rw [ek, Jvm.Kit.i32_add (by omega) (by omega), a1]
  have hb := mS_le (g5 := g5) (n := kk.toInt.toNat - 1) (fun k hk => hg k (by omega))
  have hx := hg (kk.toInt.toNat - 1) (by omega)
  have hn : kk.toNatClampNeg = kk.toInt.toNat - 1 + 1 := by
    show kk.toInt.toNat = _
    omega
  have hy : y.toInt = (g5 (kk.toInt.toNat - 1 + 1)).toInt := by rw [ey, Jvm.Kit.i64_of_i32, ex, hn]
  have hm : kk2.toInt.toNat - 1 = (kk.toInt.toNat - 1) + 1 := by omega
  refine ⟨?_, by omega, by omega, hk2⟩
  rw [hm, wsum, e, Jvm.Kit.i64_add (by omega) (by omega), hs, hy]
theorem she {cn cs : Int32} {f4 g5 : Nat → Int32} {to : Int64} {c sd k rt co2 : Int32} {al v rb : Int64} (hC : cn = cs ∧ 0 ≤ cn.toInt ∧ cn.toInt ≤ 10) (hD : srel f4 to cn g5)
    (h1 : (shT c al cn to.toInt → k = 1) ∧ (¬ shT c al cn to.toInt → k = 0 ∧ shP c al sd cn to.toInt (f4 (c - 1).toNatClampNeg).toInt64 v))
    (h2 : (shT c al cs (mS g5 cs) → co2 = 1) ∧ (¬ shT c al cs (mS g5 cs) → co2 = 0 ∧ shP c al sd cs (mS g5 cs) (g5 c.toNatClampNeg).toInt64 rb)) (h3 : rt = co2) : rt = k ∧ (k = 0 → v = rb) := by
  obtain ⟨rfl, i0, i1⟩ := hC
  have a1 : (1 : Int32).toInt = 1 := by decide
  have hS : mS g5 cn = to.toInt := by
    rw [hD.2, mS]
    exact (wsum_congr _ (fun k hk => (hD.1 k (by omega)).1)).symm
  rw [hS] at h2
  by_cases t : shT c al cn to.toInt
  · rw [h3, h2.1 t, h1.1 t]
    exact ⟨rfl, fun h => absurd h (by decide)⟩
  · obtain ⟨e1, p1⟩ := h1.2 t
    obtain ⟨e2, p2⟩ := h2.2 t
    refine ⟨by rw [h3, e1, e2], fun _ => ?_⟩
    by_cases a : 1 ≤ c ∧ c ≤ cn
    · have hc2 := a
      rw [Int32.le_iff_toInt_le, Int32.le_iff_toInt_le, a1] at hc2
      have hn : (c - 1).toNatClampNeg = c.toInt.toNat - 1 := by
        show (c - 1).toInt.toNat = c.toInt.toNat - 1
        rw [Jvm.Kit.i32_sub (by omega) (by omega), a1]
        omega
      have hn2 : c.toNatClampNeg = c.toInt.toNat - 1 + 1 := by
        show c.toInt.toNat = _
        omega
      have hw : f4 (c - 1).toNatClampNeg = g5 c.toNatClampNeg := by rw [hn, hn2]; exact (hD.1 _ (by omega)).1
      rw [hw] at p1
      exact shP_u p1 p2
    · rw [p1.1 a, p2.1 a]
theorem pcs9 {q cs : Int32} (h : 1 ≤ q ∧ q ≤ cs) : 1 ≤ q.toInt ∧ q.toInt ≤ cs.toInt := by
  have a1 : (1 : Int32).toInt = 1 := by decide
  rw [Int32.le_iff_toInt_le, Int32.le_iff_toInt_le, a1] at h
  exact h
theorem msb {g5 : Nat → Int32} {q cs x : Int32} (h0 : 0 ≤ cs.toInt) (hg : ∀ k : Nat, (k : Int) < cs.toInt → 0 ≤ (g5 (k + 1)).toInt ∧ (g5 (k + 1)).toInt ≤ 1000) (h : 1 ≤ q.toInt ∧ q.toInt ≤ cs.toInt) (e : x = g5 q.toNatClampNeg) : 0 ≤ x.toInt ∧ x.toInt ≤ 1000 := by
  have h1 : q.toNatClampNeg = q.toInt.toNat - 1 + 1 := by
    show q.toInt.toNat = _
    omega
  rw [e, h1]
  exact hg _ (by omega)
theorem hgs {f4 g5 : Nat → Int32} {to : Int64} {cn mcs : Int32} (e : cn = mcs) (h : srel f4 to cn g5) : ∀ k : Nat, (k : Int) < mcs.toInt → 0 ≤ (g5 (k + 1)).toInt ∧ (g5 (k + 1)).toInt ≤ 1000 := by
  subst e
  intro k hk
  have h1 := h.1 k hk
  rw [← h1.1]
  exact h1.2
-- PRICES and PLANS, in numbers
def cnt (P : Nat → Int32) (c : Int32) : Nat → Nat
  | 0 => 0
  | k + 1 => cnt P c k + (if P k = c then 1 else 0)
theorem cnt_s {P : Nat → Int32} {c : Int32} {k : Nat} (h : P k = c) : cnt P c (k + 1) = cnt P c k + 1 := by rw [cnt, if_pos h]
theorem cnt_n {P : Nat → Int32} {c : Int32} {k : Nat} (h : ¬ P k = c) : cnt P c (k + 1) = cnt P c k := by rw [cnt, if_neg h, Nat.add_zero]
theorem cnt_mono {P : Nat → Int32} {c : Int32} {a : Nat} : ∀ b, a ≤ b → cnt P c a ≤ cnt P c b := by
  intro b
  induction b with
  | zero => intro h; rw [show a = 0 by omega]; exact Nat.le_refl _
  | succ b ih =>
    intro h
    by_cases e : a = b + 1
    · rw [e]; exact Nat.le_refl _
    · exact Nat.le_trans (ih (by omega)) (by rw [cnt]; exact Nat.le_add_right _ _)
theorem cnt_lt {P : Nat → Int32} {k u : Nat} (h : k < u) : cnt P (P k) k + 1 ≤ cnt P (P k) u := by
  rw [← cnt_s (P := P) (c := P k) (k := k) rfl]; exact cnt_mono u h
theorem cnt_congr {P P2 : Nat → Int32} {c : Int32} : ∀ u, (∀ k, k < u → P k = P2 k) → cnt P c u = cnt P2 c u := by
  intro u
  induction u with
  | zero => intro _; rfl
  | succ u ih => intro h; rw [cnt, cnt, ih (fun k hk => h k (by omega)), h u (by omega)]
theorem cnt_0 {P : Nat → Int32} {c : Int32} : ∀ u, (∀ k, k < u → ¬ P k = c) → cnt P c u = 0 := by
  intro u
  induction u with
  | zero => intro _; rfl
  | succ u ih => intro h; rw [cnt_n (h u (by omega))]; exact ih (fun k hk => h k (by omega))
def lf (R : Nat → Nat) (w : Nat) : Nat → Nat
  | 0 => w
  | c + 1 => lf R w c - R c
def kost (R : Nat → Nat) (w : Nat) : Nat → Nat
  | 0 => 0
  | c + 1 => kost R w c + min (lf R w c) (R c) * c
theorem lf_mono {R : Nat → Nat} {w a : Nat} : ∀ b, a ≤ b → lf R w b ≤ lf R w a := by
  intro b
  induction b with
  | zero => intro h; rw [show a = 0 by omega]; exact Nat.le_refl _
  | succ b ih =>
    intro h
    by_cases e : a = b + 1
    · rw [e]; exact Nat.le_refl _
    · exact Nat.le_trans (by rw [lf]; exact Nat.sub_le _ _) (ih (by omega))
def Rm (P : Nat → Int32) (m u c : Nat) : Nat := m * cnt P (nI c) u
def Un (P : Nat → Int32) (m u w k : Nat) : Nat := if k < u ∧ 0 ≤ (P k).toInt ∧ (P k).toInt ≤ 1000 then min m (lf (Rm P m u) w (P k).toInt.toNat - m * cnt P (P k) k) else 0
theorem mulS {m C D : Nat} (h : C + 1 ≤ D) : m * C + m ≤ m * D := by
  have := Nat.mul_le_mul_left m h
  rw [Nat.mul_succ] at this
  exact this
theorem minB {m L C D : Nat} (h : C + 1 ≤ D) : min m (min L (m * D) - m * C) = min m (L - m * C) := by
  have h1 := mulS (m := m) h
  simp only [Nat.min_def]
  repeat' split
  all_goals omega
theorem Rm_congr {P P2 : Nat → Int32} {m u : Nat} (h : ∀ k, k < u → P k = P2 k) : Rm P m u = Rm P2 m u := funext fun c => by rw [Rm, Rm, cnt_congr u h]
theorem Un_congr {P P2 : Nat → Int32} {m u w k : Nat} (h : ∀ j, j < u → P j = P2 j) : Un P m u w k = Un P2 m u w k := by
  unfold Un
  by_cases hk : k < u
  · rw [Rm_congr h, h k hk, cnt_congr k (fun j hj => h j (by omega))]
  · rw [if_neg (fun q => hk q.1), if_neg (fun q => hk q.1)]
theorem vpL_s {f : Nat → Int64} {k : Nat} {x : Int64} : vp_updL f k x k = x := pk_uLs
theorem nIc {i : Int32} (h : 0 ≤ i.toInt) : i = nI i.toInt.toNat := Int32.toInt_inj.mp (by rw [nI_toInt (by have := Int32.toInt_lt i; omega)]; omega)
theorem lNc {x : Int64} (h : 0 ≤ x.toInt) : x = lN x.toInt.toNat := Int64.toInt_inj.mp (by rw [pk_lT (by have := Int64.toInt_lt x; omega)]; omega)
theorem i2lN {x : Int32} (h : 0 ≤ x.toInt) : x.toInt64 = lN x.toInt.toNat := Int64.toInt_inj.mp (by rw [Jvm.Kit.i64_of_i32, pk_lT (by have := Int32.toInt_lt x; omega)]; omega)
theorem lN0 : lN 0 = 0 := rfl
-- measureRoom
theorem mr_a {g g2 : Nat → Int64} {i j : Int32} (h : ∀ c : Nat, (c : Int) < i.toInt → g c = 0) (hi : 0 ≤ i) (c6 : ¬ 1000 < i) (ef : g2 = vp_updL g i.toNatClampNeg 0) (ej : j = i + 1) : ∀ c : Nat, (c : Int) < j.toInt → g2 c = 0 := by
  intro c hc
  have hj := (ij0 1000 hi c6 (by decide) ej).2
  by_cases e : c = i.toNatClampNeg
  · rw [ef, e]; exact pk_uLs
  · rw [ef, pk_uLn e]
    have e2 : i.toNatClampNeg = i.toInt.toNat := rfl
    exact h c (by omega)
theorem mr_b {P : Nat → Int32} {g : Nat → Int64} {i : Int32} {m : Nat} (h : ∀ c : Nat, (c : Int) < i.toInt → g c = 0) (c6 : 1000 < i) : ∀ c : Nat, c ≤ 1000 → g c = lN (m * cnt P (nI c) (0 : Int32).toInt.toNat) := by
  intro c hc
  have a1 : (1000 : Int32).toInt = 1000 := by decide
  rw [Int32.lt_iff_toInt_lt, a1] at c6
  rw [h c (by omega)]
  exact lN0.symm
theorem mr_c {P : Nat → Int32} {g g2 : Nat → Int64} {i j ce mo : Int32} {y z t : Int64} (h : ∀ c : Nat, c ≤ 1000 → g c = lN (mo.toInt.toNat * cnt P (nI c) i.toInt.toNat)) (hm : 0 ≤ mo.toInt) (hi : 0 ≤ i) (c33 : ¬ 1440 ≤ i) (ej : j = i + 1) (ece : ce = P i.toNatClampNeg) (hce : 0 ≤ ce ∧ ce ≤ 1000) (ey : y = g ce.toNatClampNeg) (ez : z = mo.toInt64) (et : t = y + z) (ef : g2 = vp_updL g ce.toNatClampNeg t) : ∀ c : Nat, c ≤ 1000 → g2 c = lN (mo.toInt.toNat * cnt P (nI c) j.toInt.toNat) := by
  intro c hc
  have hj := (ii0 1440 hi c33 ej).2
  have e2 : i.toNatClampNeg = i.toInt.toNat := rfl
  have e3 : ce.toNatClampNeg = ce.toInt.toNat := rfl
  have a1 : (1000 : Int32).toInt = 1000 := by decide
  rw [Int32.le_iff_toInt_le, Int32.le_iff_toInt_le, Int32.toInt_zero, a1] at hce
  have hjn : j.toInt.toNat = i.toInt.toNat + 1 := by omega
  have hcen := nIc hce.1
  rw [hjn]
  by_cases e : c = ce.toInt.toNat
  · have hp : P i.toInt.toNat = nI c := by rw [← e2, ← ece, e]; exact hcen
    rw [cnt_s hp, ef, e3, ← e, vpL_s, et, ey, e3, ← e, ez, i2lN hm, h c hc, lN_add, Nat.mul_succ]
  · have hp : ¬ P i.toInt.toNat = nI c := by
      rw [← e2, ← ece]
      intro q
      have := congrArg Int32.toInt q
      rw [nI_toInt (by omega)] at this
      omega
    rw [cnt_n hp, ef, e3, pk_uLn e, h c hc]
theorem mr_d {P : Nat → Int32} {g : Nat → Int64} {i j ce : Int32} {m : Nat} (h : ∀ c : Nat, c ≤ 1000 → g c = lN (m * cnt P (nI c) i.toInt.toNat)) (hi : 0 ≤ i) (c33 : ¬ 1440 ≤ i) (ej : j = i + 1) (ece : ce = P i.toNatClampNeg) (hce : ¬ (0 ≤ ce ∧ ce ≤ 1000)) : ∀ c : Nat, c ≤ 1000 → g c = lN (m * cnt P (nI c) j.toInt.toNat) := by
  intro c hc
  have hj := (ii0 1440 hi c33 ej).2
  have hjn : j.toInt.toNat = i.toInt.toNat + 1 := by omega
  have e2 : i.toNatClampNeg = i.toInt.toNat := rfl
  have a1 : (1000 : Int32).toInt = 1000 := by decide
  have hp : ¬ P i.toInt.toNat = nI c := by
    rw [← e2, ← ece]
    intro q
    have q2 := congrArg Int32.toInt q
    rw [nI_toInt (by omega)] at q2
    apply hce
    rw [Int32.le_iff_toInt_le, Int32.le_iff_toInt_le, Int32.toInt_zero, a1]
    omega
  rw [hjn, cnt_n hp, h c hc]
-- buyCheapest
theorem mnL {a b : Nat} (ha : a < 2 ^ 62) (hb : b < 2 ^ 62) {x : Int64} (e : x = if lN b < lN a then lN b else lN a) : x = lN (min a b) := by
  rw [e]
  by_cases h : b < a
  · rw [if_pos ((pk_lLT (by omega) (by omega)).mpr h), Nat.min_eq_right (by omega)]
  · rw [if_neg (fun q => h ((pk_lLT (by omega) (by omega)).mp q)), Nat.min_eq_left (by omega)]
theorem sub_mn (a b : Nat) : a - min a b = a - b := by
  simp only [Nat.min_def]
  split <;> omega
theorem bc_s {R : Nat → Nat} {w : Nat} {g g2 : Nat → Int64} {i j : Int32} {left cost rm bo l2 ii pr c2 : Int64} (hw : w < 2 ^ 62) (hR : ∀ c, R c < 2 ^ 62) (hi : 0 ≤ i) (c13 : ¬ 1000 < i)
    (hl : left = lN (lf R w i.toInt.toNat)) (hc : cost = lN (kost R w i.toInt.toNat)) (ha : ∀ c : Nat, (c : Int) < i.toInt → g c = lN (min (lf R w c) (R c))) (hb : ∀ c : Nat, i.toInt ≤ c → c ≤ 1000 → g c = lN (R c))
    (erm : rm = g i.toNatClampNeg) (ebo : bo = if rm < left then rm else left) (ef : g2 = vp_updL g i.toNatClampNeg bo) (el : l2 = left - bo) (eii : ii = i.toInt64) (epr : pr = bo * ii) (ec : c2 = cost + pr) (ej : j = i + 1) :
    (l2 = lN (lf R w j.toInt.toNat) ∧ c2 = lN (kost R w j.toInt.toNat)) ∧ (∀ c : Nat, (c : Int) < j.toInt → g2 c = lN (min (lf R w c) (R c))) ∧ (∀ c : Nat, j.toInt ≤ c → c ≤ 1000 → g2 c = lN (R c)) := by
  have hj := (ij0 1000 hi c13 (by decide) ej).2
  have a1 : (1000 : Int32).toInt = 1000 := by decide
  have e2 : i.toNatClampNeg = i.toInt.toNat := rfl
  have hjn : j.toInt.toNat = i.toInt.toNat + 1 := by omega
  have hrm : rm = lN (R i.toInt.toNat) := by rw [erm, e2]; exact hb _ (by omega) (by omega)
  have hlw : lf R w i.toInt.toNat ≤ w := lf_mono (a := 0) _ (Nat.zero_le _)
  have hbo : bo = lN (min (lf R w i.toInt.toNat) (R i.toInt.toNat)) := mnL (by omega) (hR _) (by rw [ebo, hrm, hl])
  refine ⟨⟨?_, ?_⟩, fun c hc2 => ?_, fun c hc2 hc3 => ?_⟩
  · rw [el, hl, hbo, lN_sub (Nat.min_le_left _ _), sub_mn, hjn, lf]
  · rw [ec, hc, epr, hbo, eii, i2lN (by omega), lN_mul, lN_add, hjn, kost]
  · by_cases e : c = i.toInt.toNat
    · rw [ef, e2, e, vpL_s, hbo]
    · rw [ef, e2, pk_uLn e]; exact ha c (by omega)
  · rw [ef, e2, pk_uLn (by omega)]; exact hb c (by omega) hc3
theorem bc_0 {R : Nat → Nat} {f3 : Nat → Int64} {w : Int64} (hw : 0 ≤ w.toInt) (hR : ∀ c : Nat, c ≤ 1000 → f3 c = lN (R c)) : (w = lN (lf R w.toInt.toNat (0 : Int32).toInt.toNat) ∧ (0 : Int64) = lN (kost R w.toInt.toNat (0 : Int32).toInt.toNat)) ∧ (∀ c : Nat, (c : Int) < (0 : Int32).toInt → f3 c = lN (min (lf R w.toInt.toNat c) (R c))) ∧ (∀ c : Nat, (0 : Int32).toInt ≤ c → c ≤ 1000 → f3 c = lN (R c)) := by
  have a1 : (0 : Int32).toInt = 0 := by decide
  refine ⟨⟨lNc hw, rfl⟩, fun c hc => ?_, fun c _ h => hR c h⟩
  omega
theorem bc_e {i : Int32} (hi2 : i.toInt ≤ 1001) (c13 : 1000 < i) : i.toInt.toNat = 1001 := by
  have a1 : (1000 : Int32).toInt = 1000 := by decide
  rw [Int32.lt_iff_toInt_lt, a1] at c13
  omega
-- spread
def Us (P : Nat → Int32) (m u : Nat) (B : Nat → Nat) (k : Nat) : Nat := if k < u ∧ 0 ≤ (P k).toInt ∧ (P k).toInt ≤ 1000 then min m (B (P k).toInt.toNat - m * cnt P (P k) k) else 0
theorem sp_a {P : Nat → Int32} {B : Nat → Nat} {g g2 : Nat → Int32} {gl gl2 : Nat → Int64} {i j ce gv mo un : Int32} {mo6 rm mn rm2 gv6 rs : Int64} (hB : ∀ c, B c < 2 ^ 62) (hm : 0 ≤ mo.toInt) (hi : 0 ≤ i) (c6 : ¬ 1440 ≤ i) (hu : un.toInt ≤ 1440)
    (hk : ∀ k : Nat, (k : Int) < i.toInt → g k = nI (Us P mo.toInt.toNat un.toInt.toNat B k)) (hg : ∀ c : Nat, c ≤ 1000 → gl c = lN (B c - mo.toInt.toNat * cnt P (nI c) (min i.toInt.toNat un.toInt.toNat)))
    (ece : ce = P i.toNatClampNeg) (c22 : ¬ un ≤ i) (hce : 0 ≤ ce ∧ ce ≤ 1000) (emo : mo6 = mo.toInt64) (erm : rm = gl ce.toNatClampNeg) (emn : mn = if rm < mo6 then rm else mo6) (egv : gv = mn.toInt32) (erm2 : rm2 = gl ce.toNatClampNeg) (egv6 : gv6 = gv.toInt64) (ers : rs = rm2 - gv6) (efl : gl2 = vp_updL gl ce.toNatClampNeg rs) (ef : g2 = upd g i.toNatClampNeg gv) (ej : j = i + 1) :
    (∀ k : Nat, (k : Int) < j.toInt → g2 k = nI (Us P mo.toInt.toNat un.toInt.toNat B k)) ∧ (∀ c : Nat, c ≤ 1000 → gl2 c = lN (B c - mo.toInt.toNat * cnt P (nI c) (min j.toInt.toNat un.toInt.toNat))) := by
  have hj := (ii0 1440 hi c6 ej).2
  have a1 : (1000 : Int32).toInt = 1000 := by decide
  have e2 : i.toNatClampNeg = i.toInt.toNat := rfl
  have e3 : ce.toNatClampNeg = ce.toInt.toNat := rfl
  rw [Int32.le_iff_toInt_le] at c22
  rw [Int32.le_iff_toInt_le, Int32.le_iff_toInt_le, Int32.toInt_zero, a1] at hce
  have hcen := nIc hce.1
  have hmo := Int32.toInt_lt mo
  have hjn : j.toInt.toNat = i.toInt.toNat + 1 := by omega
  have hmi : min i.toInt.toNat un.toInt.toNat = i.toInt.toNat := Nat.min_eq_left (by omega)
  have hmj : min j.toInt.toNat un.toInt.toNat = i.toInt.toNat + 1 := by rw [hjn]; exact Nat.min_eq_left (by omega)
  have hP : P i.toInt.toNat = ce := by rw [← e2]; exact ece.symm
  have hrm : rm = lN (B ce.toInt.toNat - mo.toInt.toNat * cnt P ce i.toInt.toNat) := by
    rw [erm, e3, hg _ (by omega), hmi, ← hcen]
  have hmn : mn = lN (min mo.toInt.toNat (B ce.toInt.toNat - mo.toInt.toNat * cnt P ce i.toInt.toNat)) := mnL (by omega) (by have := hB ce.toInt.toNat; omega) (by rw [emn, hrm, emo, i2lN hm])
  have hle : min mo.toInt.toNat (B ce.toInt.toNat - mo.toInt.toNat * cnt P ce i.toInt.toNat) ≤ mo.toInt.toNat := Nat.min_le_left _ _
  have hgv : gv = nI (min mo.toInt.toNat (B ce.toInt.toNat - mo.toInt.toNat * cnt P ce i.toInt.toNat)) := by rw [egv, hmn, lN_i]
  have hgv6 : gv6 = lN (min mo.toInt.toNat (B ce.toInt.toNat - mo.toInt.toNat * cnt P ce i.toInt.toNat)) := by rw [egv6, hgv, nI_l (by omega)]
  refine ⟨fun k hk2 => ?_, fun c hc => ?_⟩
  · by_cases e : k = i.toInt.toNat
    · have hU : Us P mo.toInt.toNat un.toInt.toNat B i.toInt.toNat = min mo.toInt.toNat (B ce.toInt.toNat - mo.toInt.toNat * cnt P ce i.toInt.toNat) := by
        rw [Us, hP, if_pos ⟨by omega, hce⟩]
      rw [ef, e2, e, pk_us, hU, hgv]
    · rw [ef, e2, pk_un e]; exact hk k (by omega)
  · rw [hmj]
    by_cases e : c = ce.toInt.toNat
    · have hp : P i.toInt.toNat = nI c := by rw [hP, e]; exact hcen
      have hcc : nI c = ce := by rw [e]; exact hcen.symm
      rw [cnt_s hp, hcc, efl, e3, e, vpL_s, ers, hgv6, erm2, e3, hg _ (by omega), hmi, ← hcen, lN_sub (Nat.min_le_right _ _), Nat.mul_succ, Nat.min_comm, sub_mn, Nat.sub_sub]
    · have hp : ¬ P i.toInt.toNat = nI c := by
        rw [hP]
        intro q
        have q2 := congrArg Int32.toInt q
        rw [nI_toInt (by omega)] at q2
        omega
      rw [cnt_n hp, efl, e3, pk_uLn e, hg c hc, hmi]
theorem sp_b {P : Nat → Int32} {B : Nat → Nat} {g g2 : Nat → Int32} {gl : Nat → Int64} {i j ce mo un : Int32} (hi : 0 ≤ i) (c6 : ¬ 1440 ≤ i) (hu0 : 0 ≤ un.toInt) 
    (hk : ∀ k : Nat, (k : Int) < i.toInt → g k = nI (Us P mo.toInt.toNat un.toInt.toNat B k)) (hg : ∀ c : Nat, c ≤ 1000 → gl c = lN (B c - mo.toInt.toNat * cnt P (nI c) (min i.toInt.toNat un.toInt.toNat)))
    (ece : ce = P i.toNatClampNeg) (hno : un ≤ i ∨ ¬ (0 ≤ ce ∧ ce ≤ 1000)) (ef : g2 = upd g i.toNatClampNeg 0) (ej : j = i + 1) :
    (∀ k : Nat, (k : Int) < j.toInt → g2 k = nI (Us P mo.toInt.toNat un.toInt.toNat B k)) ∧ (∀ c : Nat, c ≤ 1000 → gl c = lN (B c - mo.toInt.toNat * cnt P (nI c) (min j.toInt.toNat un.toInt.toNat))) := by
  have hj := (ii0 1440 hi c6 ej).2
  have a1 : (1000 : Int32).toInt = 1000 := by decide
  have e2 : i.toNatClampNeg = i.toInt.toNat := rfl
  have hjn : j.toInt.toNat = i.toInt.toNat + 1 := by omega
  have hP : P i.toInt.toNat = ce := by rw [← e2]; exact ece.symm
  rw [Int32.le_iff_toInt_le, Int32.le_iff_toInt_le, Int32.le_iff_toInt_le, Int32.toInt_zero, a1] at hno
  refine ⟨fun k hk2 => ?_, fun c hc => ?_⟩
  · by_cases e : k = i.toInt.toNat
    · have hU : Us P mo.toInt.toNat un.toInt.toNat B i.toInt.toNat = 0 := by
        rw [Us, hP, if_neg]
        intro q
        rcases hno with h | h
        · omega
        · exact h q.2
      rw [ef, e2, e, pk_us, hU]; rfl
    · rw [ef, e2, pk_un e]; exact hk k (by omega)
  · rw [hg c hc]
    by_cases hlt : i.toInt.toNat < un.toInt.toNat
    · have hp : ¬ P i.toInt.toNat = nI c := by
        rw [hP]
        intro q
        have q2 := congrArg Int32.toInt q
        rw [nI_toInt (by omega)] at q2
        rcases hno with h | h
        · omega
        · exact h (by omega)
      have h1 : min i.toInt.toNat un.toInt.toNat = i.toInt.toNat := Nat.min_eq_left (by omega)
      have h2 : min j.toInt.toNat un.toInt.toNat = i.toInt.toNat + 1 := by rw [hjn]; exact Nat.min_eq_left (by omega)
      rw [h1, h2, cnt_n hp]
    · have h1 : min i.toInt.toNat un.toInt.toNat = un.toInt.toNat := Nat.min_eq_right (by omega)
      have h2 : min j.toInt.toNat un.toInt.toNat = un.toInt.toNat := Nat.min_eq_right (by omega)
      rw [h1, h2]
theorem cnt_le {P : Nat → Int32} {c : Int32} : ∀ k, cnt P c k ≤ k := by
  intro k
  induction k with
  | zero => exact Nat.le_refl _
  | succ k ih =>
    rw [cnt]
    split <;> omega
theorem Rm_b {P : Nat → Int32} {m u c : Nat} (hm : m ≤ 800) (hu : u ≤ 1440) : Rm P m u c < 2 ^ 62 := by
  have h1 := cnt_le (P := P) (c := nI c) u
  have h2 : m * cnt P (nI c) u ≤ 800 * 1440 := Nat.mul_le_mul hm (by omega)
  rw [Rm]
  omega
theorem UsUn {P : Nat → Int32} {m u w k : Nat} : Us P m u (fun c => min (lf (Rm P m u) w c) (Rm P m u c)) k = Un P m u w k := by
  rw [Us, Un]
  by_cases h : k < u ∧ 0 ≤ (P k).toInt ∧ (P k).toInt ≤ 1000
  · rw [if_pos h, if_pos h]
    have hn : nI (P k).toInt.toNat = P k := (nIc h.2.1).symm
    show min m (min (lf (Rm P m u) w (P k).toInt.toNat) (m * cnt P (nI (P k).toInt.toNat) u) - m * cnt P (P k) k) = _
    rw [hn]
    exact minB (cnt_lt h.1)
  · rw [if_neg h, if_neg h]
-- the reference's side
def pof (g1 g2 g3 : Nat → Int32) (q : Int32) : Nat → Int32
  | 0 => -1
  | n + 1 => if g1 n ≤ q ∧ q < g2 n then g3 n else pof g1 g2 g3 q n
theorem po_y {g1 g2 g3 : Nat → Int32} {q kk a b x : Int32} {n : Nat} (c8 : ¬ kk < 0) (h : pof g1 g2 g3 q (kk.toInt + 1).toNat = pof g1 g2 g3 q n) (ea : a = g1 kk.toNatClampNeg) (eb : b = g2 kk.toNatClampNeg) (ex : x = g3 kk.toNatClampNeg) (c18 : ¬ q < a) (c28 : ¬ b ≤ q) : x = pof g1 g2 g3 q n := by
  rw [Int32.lt_iff_toInt_lt, Int32.toInt_zero] at c8
  have e : (kk.toInt + 1).toNat = kk.toInt.toNat + 1 := by omega
  have e2 : kk.toNatClampNeg = kk.toInt.toNat := rfl
  rw [← h, e, pof, if_pos, ex, e2]
  rw [← e2, ← ea, ← eb]
  exact ⟨Int32.not_lt.mp c18, Int32.not_le.mp c28⟩
theorem po_n {g1 g2 g3 : Nat → Int32} {q kk a k2 : Int32} {n : Nat} (c8 : ¬ kk < 0) (hk : kk.toInt < 20) (h : pof g1 g2 g3 q (kk.toInt + 1).toNat = pof g1 g2 g3 q n) (hno : ¬ (g1 kk.toNatClampNeg ≤ q ∧ q < g2 kk.toNatClampNeg)) (e : k2 = kk + (-1)) : pof g1 g2 g3 q (k2.toInt + 1).toNat = pof g1 g2 g3 q n := by
  have h9 := (kd c8 hk e).2
  have e1 : (kk.toInt + 1).toNat = kk.toInt.toNat + 1 := by omega
  have e3 : (k2.toInt + 1).toNat = kk.toInt.toNat := by omega
  have e2 : kk.toNatClampNeg = kk.toInt.toNat := rfl
  rw [e2] at hno
  rw [e1, pof, if_neg hno] at h
  rw [e3, h]
theorem po_0 {g1 g2 g3 : Nat → Int32} {q kk : Int32} {n : Nat} (c8 : kk < 0) (h : pof g1 g2 g3 q (kk.toInt + 1).toNat = pof g1 g2 g3 q n) : -1 = pof g1 g2 g3 q n := by
  rw [Int32.lt_iff_toInt_lt, Int32.toInt_zero] at c8
  have e : (kk.toInt + 1).toNat = 0 := by omega
  rw [← h, e, pof]
theorem po_s {g1 g2 g3 : Nat → Int32} {q sp x : Int32} (h0 : 0 ≤ sp.toInt) (h1 : sp.toInt ≤ 20) (e : x = sp - 1) : pof g1 g2 g3 q (x.toInt + 1).toNat = pof g1 g2 g3 q sp.toInt.toNat := by
  have a1 : (1 : Int32).toInt = 1 := by decide
  have h : x.toInt = sp.toInt - 1 := by rw [e, Jvm.Kit.i32_sub (by omega) (by omega), a1]
  rw [h]
  congr 1
  omega
theorem pof_none {g1 g2 g3 : Nat → Int32} {q pr : Int32} (hp : 0 ≤ pr.toInt) : ∀ n, (∀ j : Nat, j < n → ¬ g3 j = pr) → ¬ pof g1 g2 g3 q n = pr := by
  intro n
  induction n with
  | zero =>
    intro _ h
    have h2 := congrArg Int32.toInt h
    have a1 : (-1 : Int32).toInt = -1 := by decide
    rw [pof, a1] at h2
    omega
  | succ n ih =>
    intro h
    rw [pof]
    split
    · exact h n (by omega)
    · exact ih (fun j hj => h j (by omega))
def Vn (P : Nat → Int32) (m u w : Nat) (pr : Int) (k : Nat) : Nat := if 0 ≤ (P k).toInt ∧ (P k).toInt < pr then Un P m u w k else 0
theorem Vn_s {P : Nat → Int32} {m u w : Nat} {pr : Int} {k : Nat} (h : ¬ (P k).toInt = pr) : Vn P m u w (pr + 1) k = Vn P m u w pr k := by
  unfold Vn
  by_cases q : 0 ≤ (P k).toInt ∧ (P k).toInt < pr
  · rw [if_pos q, if_pos ⟨q.1, by omega⟩]
  · rw [if_neg q, if_neg (fun z => q ⟨z.1, by omega⟩)]
theorem Vn_e {P : Nat → Int32} {m u w k : Nat} : Vn P m u w 1001 k = Un P m u w k := by
  unfold Vn
  by_cases q : 0 ≤ (P k).toInt ∧ (P k).toInt < 1001
  · rw [if_pos q]
  · rw [if_neg q, Un, if_neg (fun z => q ⟨z.2.1, by omega⟩)]
theorem Vn_0 {P : Nat → Int32} {m u w k : Nat} : Vn P m u w 0 k = 0 := by
  unfold Vn
  rw [if_neg (fun z => by omega)]
/-- nothing is left: no minute from here on gets a unit -/
theorem Un_z {P : Nat → Int32} {m u w k c : Nat} (hc : (c : Int) ≤ (P k).toInt) (h : lf (Rm P m u) w c = 0) : Un P m u w k = 0 := by
  rw [Un]
  split
  · have h2 : lf (Rm P m u) w (P k).toInt.toNat ≤ lf (Rm P m u) w c := lf_mono _ (by omega)
    rw [h] at h2
    rw [Nat.le_zero.mp h2, Nat.zero_sub, Nat.min_zero]
  · rfl
theorem fin_z {R : Nat → Nat} {w c : Nat} (h : lf R w c = 0) : ∀ d, c ≤ d → lf R w d = 0 ∧ kost R w d = kost R w c := by
  intro d
  induction d with
  | zero => intro hc; rw [show c = 0 by omega] at h ⊢; exact ⟨h, rfl⟩
  | succ d ih =>
    intro hc
    by_cases e : c = d + 1
    · rw [← e]; exact ⟨h, rfl⟩
    · obtain ⟨h1, h2⟩ := ih (by omega)
      refine ⟨by rw [lf, h1, Nat.zero_sub], ?_⟩
      rw [kost, h1, Nat.zero_min, Nat.zero_mul, Nat.add_zero, h2]
theorem lNle {n : Nat} (hn : n < 2 ^ 62) (h : lN n ≤ 0) : n = 0 := by
  rw [Int64.le_iff_toInt_le, pk_lT (by omega), Int64.toInt_zero] at h
  omega
/-- a minute of that price -/
theorem pl_y {P : Nat → Int32} {m u w : Nat} {pr : Int32} {k L C : Nat} {left v cost pp vv c2 l2 pr6 : Int64} (hL : L = lf (Rm P m u) w pr.toInt.toNat) (hC : C = cnt P pr k) (hm : m < 2 ^ 62) (hw : w < 2 ^ 62) (h0 : 0 ≤ pr.toInt) (h1 : pr.toInt ≤ 1000) (hk : k < u) (hP : P k = pr)
    (hl : left = lN (L - m * C)) (hc : cost = lN (kost (Rm P m u) w pr.toInt.toNat + min L (m * C) * pr.toInt.toNat)) (hv : v = lN (min m (L - m * C))) (evv : vv = v) (el : l2 = left - vv) (e6 : pr6 = pr.toInt64) (ep : pp = v * pr6) (ec : c2 = cost + pp) :
    v = lN (Vn P m u w (pr.toInt + 1) k) ∧ l2 = lN (L - m * cnt P pr (k + 1)) ∧ c2 = lN (kost (Rm P m u) w pr.toInt.toNat + min L (m * cnt P pr (k + 1)) * pr.toInt.toNat) := by
  have hs : cnt P pr (k + 1) = C + 1 := by rw [hC]; exact cnt_s hP
  refine ⟨?_, ?_, ?_⟩
  · rw [hv, Vn, hP, if_pos ⟨h0, by omega⟩, Un, hP, if_pos ⟨hk, h0, h1⟩, hL, hC]
  · rw [el, hl, evv, hv, lN_sub (Nat.min_le_right _ _), Nat.min_comm, sub_mn, hs, Nat.mul_succ, Nat.sub_sub]
  · rw [ec, hc, ep, hv, e6, i2lN h0, lN_mul, lN_add, hs, Nat.add_assoc, ← Nat.add_mul]
    congr 3
    rw [Nat.mul_succ]
    simp only [Nat.min_def]
    repeat' split
    all_goals omega
theorem Un_u {P : Nat → Int32} {m u w k : Nat} (h : ¬ k < u) : Un P m u w k = 0 := by rw [Un, if_neg (fun z => h z.1)]
theorem Vn_u {P : Nat → Int32} {m u w k : Nat} {c : Int} (h : ¬ k < u) : Vn P m u w c k = 0 := by
  rw [Vn, Un_u h]; split <;> rfl
theorem pl_x {P : Nat → Int32} {m u w k : Nat} {pr j : Int32} {gx : Nat → Int64} {lft ct : Int64} (h0 : 0 ≤ pr) (h1 : ¬ 1000 < pr) (ej : j = pr + 1)
    (hl : lft = lN (lf (Rm P m u) w pr.toInt.toNat - m * cnt P pr k)) (hc : ct = lN (kost (Rm P m u) w pr.toInt.toNat + min (lf (Rm P m u) w pr.toInt.toNat) (m * cnt P pr k) * pr.toInt.toNat))
    (hg : ∀ q : Nat, q < 1440 → gx q = lN (if q < k then Vn P m u w (pr.toInt + 1) q else Vn P m u w pr.toInt q))
    (x1 : lf (Rm P m u) w pr.toInt.toNat - m * cnt P pr k = lf (Rm P m u) w pr.toInt.toNat - m * cnt P pr u) (x2 : min (lf (Rm P m u) w pr.toInt.toNat) (m * cnt P pr k) = min (lf (Rm P m u) w pr.toInt.toNat) (m * cnt P pr u)) (x3 : ∀ q : Nat, ¬ q < k → Vn P m u w (pr.toInt + 1) q = Vn P m u w pr.toInt q) :
    lft = lN (lf (Rm P m u) w j.toInt.toNat) ∧ ct = lN (kost (Rm P m u) w j.toInt.toNat) ∧ ∀ q : Nat, q < 1440 → gx q = lN (Vn P m u w j.toInt q) := by
  have hj := (ij0 1000 h0 h1 (by decide) ej).2
  have hn : nI pr.toInt.toNat = pr := (nIc hj.2.2).symm
  have hjn : j.toInt.toNat = pr.toInt.toNat + 1 := by omega
  refine ⟨?_, ?_, fun q hq => ?_⟩
  · rw [hl, x1, hjn, lf, Rm, hn]
  · rw [hc, x2, hjn, kost, Rm, hn]
  · rw [hg q hq, hj.1]
    split
    · rfl
    · next h => rw [x3 q h]
theorem pr_ne {P : Nat → Int32} {pr : Int32} {q : Nat} (h : ¬ P q = pr) : ¬ (P q).toInt = pr.toInt := fun e => h (Int32.toInt_inj.mp e)
theorem x3_u {P : Nat → Int32} {m u w k : Nat} {pr : Int32} (hk : u ≤ k) : ∀ q : Nat, ¬ q < k → Vn P m u w (pr.toInt + 1) q = Vn P m u w pr.toInt q := fun q hq => by rw [Vn_u (by omega), Vn_u (by omega)]
theorem x3_z {P : Nat → Int32} {m u w k : Nat} {pr : Int32} (h0 : 0 ≤ pr.toInt) (hz : lf (Rm P m u) w pr.toInt.toNat - m * cnt P pr k = 0) : ∀ q : Nat, ¬ q < k → Vn P m u w (pr.toInt + 1) q = Vn P m u w pr.toInt q := by
  intro q hq
  by_cases e : P q = pr
  · have hu : Un P m u w q = 0 := by
      rw [Un, e]
      split
      · have h1 := Nat.mul_le_mul_left m (cnt_mono (P := P) (c := pr) q (show k ≤ q by omega))
        rw [show lf (Rm P m u) w pr.toInt.toNat - m * cnt P pr q = 0 by omega, Nat.min_zero]
      · rfl
    rw [Vn, Vn, hu]
    split <;> split <;> rfl
  · exact Vn_s (pr_ne e)
theorem x3_n {P : Nat → Int32} {m u w k : Nat} {pr : Int32} (h : ∀ q : Nat, ¬ P q = pr) : ∀ q : Nat, ¬ q < k → Vn P m u w (pr.toInt + 1) q = Vn P m u w pr.toInt q := fun q _ => Vn_s (pr_ne (h q))
theorem x12_z {P : Nat → Int32} {m u k L : Nat} {pr : Int32} (hk : k ≤ u) (hz : L - m * cnt P pr k = 0) : L - m * cnt P pr k = L - m * cnt P pr u ∧ min L (m * cnt P pr k) = min L (m * cnt P pr u) := by
  have h1 := Nat.mul_le_mul_left m (cnt_mono (P := P) (c := pr) u hk)
  refine ⟨by omega, ?_⟩
  rw [Nat.min_eq_left (by omega), Nat.min_eq_left (by omega)]
theorem pof_congr {g1 g2 g3 h1 h2 h3 : Nat → Int32} {q : Int32} : ∀ n, (∀ j, j < n → g1 j = h1 j ∧ g2 j = h2 j ∧ g3 j = h3 j) → pof g1 g2 g3 q n = pof h1 h2 h3 q n := by
  intro n
  induction n with
  | zero => intro _; rfl
  | succ n ih =>
    intro h
    obtain ⟨e1, e2, e3⟩ := h n (by omega)
    rw [pof, pof, ih (fun j hj => h j (by omega)), e1, e2, e3]
def erel (f1 g1 g2 g3 : Nat → Int32) (n : Nat) : Prop := ∀ k : Nat, k < 1440 → f1 k = pof g1 g2 g3 (nI k) n
theorem erel_s {f1 f1b g1 g2 g3 g1b g2b g3b : Nat → Int32} {sp : Int32} {a b c : Int64} (h0 : 0 ≤ sp.toInt) (h1 : sp.toInt ≤ 20) (hf : ¬ sp = 20) (hok : prOk a b c) (h : erel f1 g1 g2 g3 sp.toInt.toNat) (hf1 : ∀ k : Nat, f1b k = if a.toInt ≤ k ∧ (k : Int) < b.toInt then c.toInt32 else f1 k)
    (e1 : g1b = upd g1 sp.toNatClampNeg a.toInt32) (e2 : g2b = upd g2 sp.toNatClampNeg b.toInt32) (e3 : g3b = upd g3 sp.toNatClampNeg c.toInt32) : erel f1b g1b g2b g3b (sp + 1).toInt.toNat := by
  have a1 : (1439 : Int64).toInt = 1439 := by decide
  have a2 : (1440 : Int64).toInt = 1440 := by decide
  have a3 : (1000 : Int64).toInt = 1000 := by decide
  have a4 : (1 : Int64).toInt = 1 := by decide
  have a5 : (1 : Int32).toInt = 1 := by decide
  unfold prOk at hok
  simp only [Int64.le_iff_toInt_le, Int64.toInt_zero, a1, a2, a3] at hok
  have hb0 : (a + 1).toInt = a.toInt + 1 := by rw [Jvm.Kit.i64_add (by omega) (by omega), a4]
  have es : (sp + 1).toInt.toNat = sp.toInt.toNat + 1 := by rw [Jvm.Kit.i32_add (by omega) (by omega), a5]; omega
  have en : sp.toNatClampNeg = sp.toInt.toNat := rfl
  have q1 : a.toInt32.toInt = a.toInt := Jvm.Kit.i32_of_i64 (by omega) (by omega)
  have q2 : b.toInt32.toInt = b.toInt := Jvm.Kit.i32_of_i64 (by omega) (by omega)
  intro k hk
  have hkn : (nI k).toInt = (k : Int) := nI_toInt (by omega)
  rw [es, pof, e1, e2, e3, en, pk_us, pk_us, pk_us, hf1 k]
  have hc : (a.toInt32 ≤ nI k ∧ nI k < b.toInt32) ↔ (a.toInt ≤ k ∧ (k : Int) < b.toInt) := by
    rw [Int32.le_iff_toInt_le, Int32.lt_iff_toInt_lt, q1, q2, hkn]
  by_cases q : a.toInt ≤ k ∧ (k : Int) < b.toInt
  · rw [if_pos q, if_pos (hc.mpr q)]
  · rw [if_neg q, if_neg (fun z => q (hc.mp z)), h k hk]
    exact pof_congr _ (fun j hj => ⟨(pk_un (by omega)).symm, (pk_un (by omega)).symm, (pk_un (by omega)).symm⟩)
def frel (f2 : Nat → Int32) (g4 : Nat → Int64) : Prop := ∀ k : Nat, k < 1440 → (f2 k).toInt64 = g4 k
theorem Un_le {P : Nat → Int32} {m u w k : Nat} : Un P m u w k ≤ m := by
  rw [Un]; split
  · exact Nat.min_le_left _ _
  · exact Nat.zero_le _
abbrev plOk (a b : Int64) : Prop := (0 ≤ a ∧ a ≤ 1000000) ∧ 0 ≤ b ∧ b ≤ 1440
def plP (P : Nat → Int32) (m u w : Nat) (r : Int32) (lk : Int64) : Prop := lk = lN (lf (Rm P m u) w 1001) ∧ r = if lk ≤ 0 then (lN (kost (Rm P m u) w 1001)).toInt32 else -1
theorem plan_eq {f1 f2 f2b g1 g2 g3 : Nat → Int32} {g4 g4b : Nat → Int64} {n : Nat} {mo mm ra rb : Int32} {a b lk lk2 mlk mlk2 : Int64} (hE : erel f1 g1 g2 g3 n) (hm : mo = mm) (hmb : 0 ≤ mo.toInt ∧ mo.toInt ≤ 800)
    (h1 : (¬ plOk a b → ra = -2 ∧ lk2 = lk ∧ f2b = f2) ∧ (plOk a b → plP f1 mo.toInt.toNat b.toInt.toNat a.toInt.toNat ra lk2 ∧ ∀ k : Nat, k < 1440 → f2b k = nI (Un f1 mo.toInt.toNat b.toInt.toNat a.toInt.toNat k)))
    (h2 : (¬ plOk a b → rb = -2 ∧ mlk2 = mlk ∧ g4b = g4) ∧ (plOk a b → plP (fun k => pof g1 g2 g3 (nI k) n) mm.toInt.toNat b.toInt.toNat a.toInt.toNat rb mlk2 ∧ ∀ k : Nat, k < 1440 → g4b k = lN (Un (fun k => pof g1 g2 g3 (nI k) n) mm.toInt.toNat b.toInt.toNat a.toInt.toNat k))) :
    ra = rb ∧ (lk = mlk → lk2 = mlk2) ∧ (frel f2 g4 → frel f2b g4b) := by
  subst hm
  by_cases t : plOk a b
  · obtain ⟨p1, u1⟩ := h1.2 t
    obtain ⟨p2, u2⟩ := h2.2 t
    have a2 : (1440 : Int64).toInt = 1440 := by decide
    have t2 := t.2
    rw [Int64.le_iff_toInt_le, Int64.le_iff_toInt_le, Int64.toInt_zero, a2] at t2
    have hPP : ∀ k, k < b.toInt.toNat → f1 k = (fun k => pof g1 g2 g3 (nI k) n) k := fun k hk => hE k (by omega)
    have hl : lk2 = mlk2 := by rw [p1.1, p2.1, Rm_congr hPP]
    refine ⟨?_, fun _ => hl, fun _ k hk => ?_⟩
    · rw [p1.2, p2.2, hl, Rm_congr hPP]
    · rw [u1 k hk, u2 k hk, Un_congr hPP, nI_l (by have := Un_le (P := fun k => pof g1 g2 g3 (nI k) n) (m := mo.toInt.toNat) (u := b.toInt.toNat) (w := a.toInt.toNat) (k := k); omega)]
  · obtain ⟨rfl, rfl, rfl⟩ := h1.1 t
    obtain ⟨rfl, rfl, rfl⟩ := h2.1 t
    exact ⟨rfl, fun h => h, fun h => h⟩
theorem tf_b (x : Int32) : 0 ≤ (tf x).toInt ∧ (tf x).toInt ≤ 800 := by
  have a1 : (80 : Int32).toInt = 80 := by decide
  have a2 : (970 : Int32).toInt = 970 := by decide
  have a3 : (100 : Int32).toInt = 100 := by decide
  have a4 : (850 : Int32).toInt = 850 := by decide
  have a5 : (960 : Int32).toInt = 960 := by decide
  have a6 : (10 : Int32).toInt = 10 := by decide
  have a7 : (6 : Int32).toInt = 6 := by decide
  have a8 : (25 : Int32).toInt = 25 := by decide
  have a9 : (640 : Int32).toInt = 640 := by decide
  unfold tf
  simp only [Int32.lt_iff_toInt_lt, Int32.le_iff_toInt_le, a1, a2, a3, a4, a5]
  split
  · decide
  split
  · decide
  split
  · have h1 : (6 * x).toInt = 6 * x.toInt := by rw [Jvm.Kit.i32_mul (by rw [a7]; omega) (by rw [a7]; omega), a7]
    rw [Jvm.Kit.i32_div (by rw [a6]; omega), h1, a6, Int.tdiv_eq_ediv_of_nonneg (by omega)]
    omega
  split
  · have h0 : (x - 640).toInt = x.toInt - 640 := by rw [Jvm.Kit.i32_sub (by rw [a9]; omega) (by rw [a9]; omega), a9]
    have h1 : (25 * (x - 640)).toInt = 25 * (x.toInt - 640) := by rw [Jvm.Kit.i32_mul (by rw [a8, h0]; omega) (by rw [a8, h0]; omega), a8, h0]
    rw [Jvm.Kit.i32_div (by rw [a6]; omega), h1, a6, Int.tdiv_eq_ediv_of_nonneg (by omega)]
    omega
  · decide
theorem ten_b (lv : Int32) (th : Int64) : 0 ≤ (ten lv th).toInt ∧ (ten lv th).toInt ≤ 800 := by
  rw [ten]; split
  · exact tf_b _
  · decide
theorem tem_b (a b : Int32) : 0 ≤ (tem a b).toInt ∧ (tem a b).toInt ≤ 800 := by
  rw [tem]; split
  · rw [← tgf]; exact tf_b _
  · decide
-- steps of the loops
theorem mxp {x y : Int32} (h : 0 ≤ y.toInt) (e : x = if (0 : Int32) < y then y else 0) : x = y := by
  rw [e]
  split
  · rfl
  · next q =>
    rw [Int32.lt_iff_toInt_lt, Int32.toInt_zero] at q
    exact Int32.toInt_inj.mp (by rw [Int32.toInt_zero]; omega)
theorem as_0 {f1 : Nat → Int32} {x p0 p2 : Int32} (hx : x = p0) : ∀ k : Nat, f1 k = if p0.toInt ≤ k ∧ (k : Int) < x.toInt then p2 else f1 k := by
  intro k
  rw [hx, if_neg (fun q => by omega)]
theorem as_s {f1 g g2 : Nat → Int32} {i j p0 p2 : Int32} (h : ∀ k : Nat, g k = if p0.toInt ≤ k ∧ (k : Int) < i.toInt then p2 else f1 k) (hp : p0.toInt ≤ i.toInt) (hi : 0 ≤ i) (c18 : ¬ 1440 ≤ i) (ef : g2 = upd g i.toNatClampNeg p2) (ej : j = i + 1) : ∀ k : Nat, g2 k = if p0.toInt ≤ k ∧ (k : Int) < j.toInt then p2 else f1 k := by
  intro k
  have hj := (ii0 1440 hi c18 ej).2
  have e2 : i.toNatClampNeg = i.toInt.toNat := rfl
  by_cases e : k = i.toInt.toNat
  · rw [ef, e2, e, pk_us, if_pos ⟨by omega, by omega⟩]
  · rw [ef, e2, pk_un e, h k]
    by_cases q : p0.toInt ≤ k ∧ (k : Int) < i.toInt
    · rw [if_pos q, if_pos ⟨q.1, by omega⟩]
    · rw [if_neg q, if_neg (fun z => q ⟨z.1, by omega⟩)]
theorem as_e {f1 g : Nat → Int32} {i p0 p1 p2 : Int32} (h : ∀ k : Nat, g k = if p0.toInt ≤ k ∧ (k : Int) < i.toInt then p2 else f1 k) (h2 : p0.toInt ≤ i.toInt ∧ i.toInt ≤ p1.toInt) (hp1 : p1.toInt ≤ 1440) (hx : p1 ≤ i ∨ 1440 ≤ i) : ∀ k : Nat, g k = if p0.toInt ≤ k ∧ (k : Int) < p1.toInt then p2 else f1 k := by
  have a1 : (1440 : Int32).toInt = 1440 := by decide
  rw [Int32.le_iff_toInt_le, Int32.le_iff_toInt_le, a1] at hx
  have e : i.toInt = p1.toInt := by omega
  rw [e] at h
  exact h
theorem mr_i {i p0 : Int32} (h : i.toInt ≤ p0.toInt) (hu : p0.toInt ≤ 1440) (hx : p0 ≤ i ∨ 1440 ≤ i) : i.toInt.toNat = p0.toInt.toNat := by
  have a1 : (1440 : Int32).toInt = 1440 := by decide
  rw [Int32.le_iff_toInt_le, Int32.le_iff_toInt_le, a1] at hx
  have e : i.toInt = p0.toInt := by omega
  rw [e]
theorem sp_0 {P : Nat → Int32} {B : Nat → Nat} {f3 : Nat → Int64} {m u : Nat} (hB : ∀ c : Nat, c ≤ 1000 → f3 c = lN (B c)) : ∀ c : Nat, c ≤ 1000 → f3 c = lN (B c - m * cnt P (nI c) (min (0 : Int32).toInt.toNat u)) := by
  intro c hc
  have a1 : (0 : Int32).toInt.toNat = 0 := by decide
  rw [a1, Nat.zero_min, cnt, Nat.mul_zero, Nat.sub_zero]
  exact hB c hc
theorem pl6 {a b : Int64} {x : Int32} (h1 : 0 ≤ a ∧ a ≤ 1000000) (h2 : 0 ≤ b ∧ b ≤ 1440) (e : x = b.toInt32) : (0 ≤ a.toInt ∧ a.toInt ≤ 1000000) ∧ (0 ≤ x.toInt ∧ x.toInt ≤ 1440) ∧ x.toInt.toNat = b.toInt.toNat := by
  have a1 : (1000000 : Int64).toInt = 1000000 := by decide
  have a2 : (1440 : Int64).toInt = 1440 := by decide
  rw [Int64.le_iff_toInt_le, Int64.le_iff_toInt_le, Int64.toInt_zero, a1] at h1
  rw [Int64.le_iff_toInt_le, Int64.le_iff_toInt_le, Int64.toInt_zero, a2] at h2
  have h3 : x.toInt = b.toInt := by rw [e]; exact Jvm.Kit.i32_of_i64 (by omega) (by omega)
  rw [h3]
  exact ⟨h1, h2, rfl⟩
theorem plb {a b : Int64} (h : plOk a b) : (0 ≤ a.toInt ∧ a.toInt ≤ 1000000) ∧ (0 ≤ b.toInt ∧ b.toInt ≤ 1440) := by
  have a1 : (1000000 : Int64).toInt = 1000000 := by decide
  have a2 : (1440 : Int64).toInt = 1440 := by decide
  have h1 := h.1
  have h2 := h.2
  rw [Int64.le_iff_toInt_le, Int64.le_iff_toInt_le, Int64.toInt_zero, a1] at h1
  rw [Int64.le_iff_toInt_le, Int64.le_iff_toInt_le, Int64.toInt_zero, a2] at h2
  exact ⟨h1, h2⟩
theorem pr6 {a b x : Int64} {p q : Int32} (h1 : 0 ≤ a ∧ a ≤ 1439) (h2 : x ≤ b ∧ b ≤ 1440) (ex : x = a + 1) (ep : p = a.toInt32) (eq : q = b.toInt32) : 0 ≤ p.toInt ∧ q.toInt ≤ 1440 ∧ p.toInt < q.toInt ∧ p.toInt = a.toInt ∧ q.toInt = b.toInt := by
  have a1 : (1439 : Int64).toInt = 1439 := by decide
  have a2 : (1440 : Int64).toInt = 1440 := by decide
  have a3 : (1 : Int64).toInt = 1 := by decide
  rw [Int64.le_iff_toInt_le, Int64.le_iff_toInt_le, Int64.toInt_zero, a1] at h1
  rw [Int64.le_iff_toInt_le, Int64.le_iff_toInt_le, a2] at h2
  have h3 : x.toInt = a.toInt + 1 := by rw [ex, Jvm.Kit.i64_add (by omega) (by omega), a3]
  have h4 : p.toInt = a.toInt := by rw [ep]; exact Jvm.Kit.i32_of_i64 (by omega) (by omega)
  have h5 : q.toInt = b.toInt := by rw [eq]; exact Jvm.Kit.i32_of_i64 (by omega) (by omega)
  omega
theorem pr7 {f1 f1b : Nat → Int32} {a b c : Int64} {p q z : Int32} (h : p.toInt = a.toInt ∧ q.toInt = b.toInt) (ez : z = c.toInt32) (hf : ∀ k : Nat, f1b k = if p.toInt ≤ k ∧ (k : Int) < q.toInt then z else f1 k) : ∀ k : Nat, f1b k = if a.toInt ≤ k ∧ (k : Int) < b.toInt then c.toInt32 else f1 k := by
  rw [h.1, h.2, ez] at hf
  exact hf
theorem xb {R : Nat → Nat} {w c y : Nat} (h : w < 2 ^ 62) : lf R w c - y < 2 ^ 62 := by
  have h1 : lf R w c ≤ w := lf_mono (a := 0) _ (Nat.zero_le _)
  omega
theorem pl_x1 {P : Nat → Int32} {m u w : Nat} {pr j kk : Int32} {gx : Nat → Int64} {lft ct : Int64} (h0 : 0 ≤ pr) (h1 : ¬ 1000 < pr) (ej : j = pr + 1)
    (hl : lft = lN (lf (Rm P m u) w pr.toInt.toNat - m * cnt P pr kk.toInt.toNat)) (hc : ct = lN (kost (Rm P m u) w pr.toInt.toNat + min (lf (Rm P m u) w pr.toInt.toNat) (m * cnt P pr kk.toInt.toNat) * pr.toInt.toNat))
    (hg : ∀ q : Nat, q < 1440 → gx q = lN (if q < kk.toInt.toNat then Vn P m u w (pr.toInt + 1) q else Vn P m u w pr.toInt q)) (hk : kk.toInt.toNat = u) :
    lft = lN (lf (Rm P m u) w j.toInt.toNat) ∧ ct = lN (kost (Rm P m u) w j.toInt.toNat) ∧ ∀ q : Nat, q < 1440 → gx q = lN (Vn P m u w j.toInt q) :=
  pl_x h0 h1 ej hl hc hg (by rw [hk]) (by rw [hk]) (x3_u (by omega))
theorem pl_x2 {P : Nat → Int32} {m u w : Nat} {pr j kk : Int32} {gx : Nat → Int64} {lft ct : Int64} (h0 : 0 ≤ pr) (h1 : ¬ 1000 < pr) (ej : j = pr + 1)
    (hl : lft = lN (lf (Rm P m u) w pr.toInt.toNat - m * cnt P pr kk.toInt.toNat)) (hc : ct = lN (kost (Rm P m u) w pr.toInt.toNat + min (lf (Rm P m u) w pr.toInt.toNat) (m * cnt P pr kk.toInt.toNat) * pr.toInt.toNat))
    (hg : ∀ q : Nat, q < 1440 → gx q = lN (if q < kk.toInt.toNat then Vn P m u w (pr.toInt + 1) q else Vn P m u w pr.toInt q)) (hk : kk.toInt.toNat ≤ u) (hw : w < 2 ^ 62) (c : lft ≤ 0) :
    lft = lN (lf (Rm P m u) w j.toInt.toNat) ∧ ct = lN (kost (Rm P m u) w j.toInt.toNat) ∧ ∀ q : Nat, q < 1440 → gx q = lN (Vn P m u w j.toInt q) := by
  have hz : lf (Rm P m u) w pr.toInt.toNat - m * cnt P pr kk.toInt.toNat = 0 := lNle (xb hw) (by rw [← hl]; exact c)
  exact pl_x h0 h1 ej hl hc hg (x12_z hk hz).1 (x12_z hk hz).2 (x3_z (i32ge h0) hz)
theorem pl_x3 {P : Nat → Int32} {m u w : Nat} {pr j kk : Int32} {gx : Nat → Int64} {lft ct : Int64} (h0 : 0 ≤ pr) (h1 : ¬ 1000 < pr) (ej : j = pr + 1)
    (hl : lft = lN (lf (Rm P m u) w pr.toInt.toNat - m * cnt P pr kk.toInt.toNat)) (hc : ct = lN (kost (Rm P m u) w pr.toInt.toNat + min (lf (Rm P m u) w pr.toInt.toNat) (m * cnt P pr kk.toInt.toNat) * pr.toInt.toNat))
    (hg : ∀ q : Nat, q < 1440 → gx q = lN (if q < kk.toInt.toNat then Vn P m u w (pr.toInt + 1) q else Vn P m u w pr.toInt q)) (hn : ∀ q : Nat, ¬ P q = pr) :
    lft = lN (lf (Rm P m u) w j.toInt.toNat) ∧ ct = lN (kost (Rm P m u) w j.toInt.toNat) ∧ ∀ q : Nat, q < 1440 → gx q = lN (Vn P m u w j.toInt q) :=
  pl_x h0 h1 ej hl hc hg (by rw [cnt_0 _ (fun k _ => hn k), cnt_0 _ (fun k _ => hn k)]) (by rw [cnt_0 _ (fun k _ => hn k), cnt_0 _ (fun k _ => hn k)]) (x3_n hn)
theorem pl_n {P : Nat → Int32} {m u w : Nat} {pr kk x : Int32} {gx : Nat → Int64} {lft ct : Int64} (h0 : 0 ≤ kk)
    (hl : lft = lN (lf (Rm P m u) w pr.toInt.toNat - m * cnt P pr kk.toInt.toNat)) (hc : ct = lN (kost (Rm P m u) w pr.toInt.toNat + min (lf (Rm P m u) w pr.toInt.toNat) (m * cnt P pr kk.toInt.toNat) * pr.toInt.toNat))
    (hg : ∀ q : Nat, q < 1440 → gx q = lN (if q < kk.toInt.toNat then Vn P m u w (pr.toInt + 1) q else Vn P m u w pr.toInt q)) (hne : ¬ P kk.toInt.toNat = pr) (hx : x.toInt = kk.toInt + 1) :
    lft = lN (lf (Rm P m u) w pr.toInt.toNat - m * cnt P pr x.toInt.toNat) ∧ ct = lN (kost (Rm P m u) w pr.toInt.toNat + min (lf (Rm P m u) w pr.toInt.toNat) (m * cnt P pr x.toInt.toNat) * pr.toInt.toNat) ∧ ∀ q : Nat, q < 1440 → gx q = lN (if q < x.toInt.toNat then Vn P m u w (pr.toInt + 1) q else Vn P m u w pr.toInt q) := by
  have h1 := i32ge h0
  have e : x.toInt.toNat = kk.toInt.toNat + 1 := by omega
  rw [e, cnt_n hne]
  refine ⟨hl, hc, fun q hq => ?_⟩
  rw [hg q hq]
  by_cases a : q < kk.toInt.toNat
  · rw [if_pos a, if_pos (by omega)]
  · rw [if_neg a]
    by_cases b : q = kk.toInt.toNat
    · rw [if_pos (by omega), b, Vn_s (pr_ne hne)]
    · rw [if_neg (by omega)]
theorem pl_s {P : Nat → Int32} {m u w : Nat} {pr kk x : Int32} {gx gx2 : Nat → Int64} {lft ct v a l2 b pr6 pp c2 : Int64} (hp : 0 ≤ pr) (hq : ¬ 1000 < pr) (h0 : 0 ≤ kk) (hm : m < 2 ^ 62) (hw : w < 2 ^ 62) (hk : kk.toInt.toNat < u) (hP : P kk.toInt.toNat = pr)
    (hl : lft = lN (lf (Rm P m u) w pr.toInt.toNat - m * cnt P pr kk.toInt.toNat)) (hc : ct = lN (kost (Rm P m u) w pr.toInt.toNat + min (lf (Rm P m u) w pr.toInt.toNat) (m * cnt P pr kk.toInt.toNat) * pr.toInt.toNat))
    (hg : ∀ q : Nat, q < 1440 → gx q = lN (if q < kk.toInt.toNat then Vn P m u w (pr.toInt + 1) q else Vn P m u w pr.toInt q))
    (hv : v = lN (min m (lf (Rm P m u) w pr.toInt.toNat - m * cnt P pr kk.toInt.toNat))) (ef : gx2 = vp_updL gx kk.toNatClampNeg v) (ea : a = gx2 kk.toNatClampNeg) (el : l2 = lft - a) (eb : b = gx2 kk.toNatClampNeg) (e6 : pr6 = pr.toInt64) (ep : pp = b * pr6) (ec : c2 = ct + pp) (hx : x.toInt = kk.toInt + 1) :
    l2 = lN (lf (Rm P m u) w pr.toInt.toNat - m * cnt P pr x.toInt.toNat) ∧ c2 = lN (kost (Rm P m u) w pr.toInt.toNat + min (lf (Rm P m u) w pr.toInt.toNat) (m * cnt P pr x.toInt.toNat) * pr.toInt.toNat) ∧ ∀ q : Nat, q < 1440 → gx2 q = lN (if q < x.toInt.toNat then Vn P m u w (pr.toInt + 1) q else Vn P m u w pr.toInt q) := by
  have h1 := i32ge h0
  have a1 : (1000 : Int32).toInt = 1000 := by decide
  have e : x.toInt.toNat = kk.toInt.toNat + 1 := by omega
  have e2 : kk.toNatClampNeg = kk.toInt.toNat := rfl
  have ha : a = v := by rw [ea, ef, vpL_s]
  have hb : b = v := by rw [eb, ef, vpL_s]
  obtain ⟨y1, y2, y3⟩ := pl_y (L := lf (Rm P m u) w pr.toInt.toNat) (C := cnt P pr kk.toInt.toNat) (k := kk.toInt.toNat) rfl rfl hm hw (i32ge hp) (i32nlt hq a1) hk hP hl hc hv ha el e6 (by rw [ep, hb]) ec
  rw [e]
  refine ⟨y2, y3, fun q hq2 => ?_⟩
  by_cases t : q = kk.toInt.toNat
  · rw [if_pos (by omega), ef, e2, t, vpL_s, y1]
  · rw [ef, e2, pk_uLn t, hg q hq2]
    by_cases z : q < kk.toInt.toNat
    · rw [if_pos z, if_pos (by omega)]
    · rw [if_neg z, if_neg (by omega)]
theorem ge_v {mo : Int32} {lft v : Int64} {X : Nat} (hm : 0 ≤ mo.toInt) (hl : lft = lN X) (hX : X < 2 ^ 62) (c : mo.toInt64 ≤ lft) (e : v = mo.toInt64) : v = lN (min mo.toInt.toNat X) := by
  have h1 := Int32.toInt_lt mo
  rw [i2lN hm] at c e
  rw [hl] at c
  have h2 := (pk_lLE (by omega) (by omega)).mp c
  rw [e, Nat.min_eq_left h2]
theorem lt_v {mo : Int32} {lft : Int64} {X : Nat} (hm : 0 ≤ mo.toInt) (hl : lft = lN X) (hX : X < 2 ^ 62) (c : ¬ mo.toInt64 ≤ lft) : lft = lN (min mo.toInt.toNat X) := by
  have h1 := Int32.toInt_lt mo
  rw [i2lN hm, hl] at c
  have h2 : ¬ mo.toInt.toNat ≤ X := fun q => c ((pk_lLE (by omega) (by omega)).mpr q)
  rw [hl, Nat.min_eq_right (by omega)]
theorem pl_e1 {P : Nat → Int32} {m u w : Nat} {pr : Int32} {gx : Nat → Int64} {lft ct : Int64} (h1 : pr.toInt ≤ 1001) (c : 1000 < pr) (hl : lft = lN (lf (Rm P m u) w pr.toInt.toNat)) (hc : ct = lN (kost (Rm P m u) w pr.toInt.toNat)) (hg : ∀ k : Nat, k < 1440 → gx k = lN (Vn P m u w pr.toInt k)) :
    lft = lN (lf (Rm P m u) w 1001) ∧ ct = lN (kost (Rm P m u) w 1001) ∧ ∀ k : Nat, k < 1440 → gx k = lN (Un P m u w k) := by
  have a1 : (1000 : Int32).toInt = 1000 := by decide
  rw [Int32.lt_iff_toInt_lt, a1] at c
  have e : pr.toInt = 1001 := by omega
  have e2 : pr.toInt.toNat = 1001 := by omega
  rw [e2] at hl hc
  rw [e] at hg
  exact ⟨hl, hc, fun k hk => by rw [hg k hk, Vn_e]⟩
theorem pl_e2 {P : Nat → Int32} {m u w : Nat} {pr : Int32} {gx : Nat → Int64} {lft ct : Int64} (h0 : 0 ≤ pr) (h1 : pr.toInt ≤ 1001) (hw : w < 2 ^ 62) (hl : lft = lN (lf (Rm P m u) w pr.toInt.toNat)) (hc : ct = lN (kost (Rm P m u) w pr.toInt.toNat)) (hg : ∀ k : Nat, k < 1440 → gx k = lN (Vn P m u w pr.toInt k)) (c : lft ≤ 0) :
    lft = lN (lf (Rm P m u) w 1001) ∧ ct = lN (kost (Rm P m u) w 1001) ∧ ∀ k : Nat, k < 1440 → gx k = lN (Un P m u w k) := by
  have hp := i32ge h0
  have hz : lf (Rm P m u) w pr.toInt.toNat = 0 := lNle (by have := xb (R := Rm P m u) (c := pr.toInt.toNat) (y := 0) hw; omega) (by rw [← hl]; exact c)
  obtain ⟨f1, f2⟩ := fin_z hz 1001 (by omega)
  refine ⟨by rw [hl, hz, f1], by rw [hc, f2], fun k hk => ?_⟩
  rw [hg k hk, Vn]
  by_cases q : 0 ≤ (P k).toInt ∧ (P k).toInt < pr.toInt
  · rw [if_pos q]
  · rw [if_neg q]
    by_cases n : 0 ≤ (P k).toInt
    · rw [Un_z (c := pr.toInt.toNat) (by omega) hz]
    · rw [Un, if_neg (fun z => n z.2.1)]
theorem zr_s {g g2 : Nat → Int64} {i j : Int32} (h : ∀ c : Nat, (c : Int) < i.toInt → g c = 0) (hi : 0 ≤ i) (c44 : ¬ 1440 ≤ i) (ef : g2 = vp_updL g i.toNatClampNeg 0) (ej : j = i + 1) : ∀ c : Nat, (c : Int) < j.toInt → g2 c = 0 := by
  intro c hc
  have hj := (ii0 1440 hi c44 ej).2
  have e2 : i.toNatClampNeg = i.toInt.toNat := rfl
  by_cases e : c = i.toInt.toNat
  · rw [ef, e2, e]; exact pk_uLs
  · rw [ef, e2, pk_uLn e]
    exact h c (by omega)
theorem pl_0 {P : Nat → Int32} {m u w : Nat} {g : Nat → Int64} {i : Int32} (h : ∀ c : Nat, (c : Int) < i.toInt → g c = 0) (c44 : 1440 ≤ i) : ∀ k : Nat, k < 1440 → g k = lN (Vn P m u w (0 : Int32).toInt k) := by
  intro k hk
  have a1 : (1440 : Int32).toInt = 1440 := by decide
  rw [Int32.le_iff_toInt_le, a1] at c44
  rw [h k (by omega), show (0 : Int32).toInt = 0 by decide, Vn_0]
  rfl
theorem pf_s {g3 : Nat → Int32} {kk x pr y : Int32} (h : ∀ j : Nat, (j : Int) < kk.toInt → ¬ g3 j = pr) (h0 : 0 ≤ kk) (hx : x.toInt = kk.toInt + 1 ∧ kk.toInt < 20 ∧ 0 ≤ kk.toInt) (ey : y = g3 kk.toNatClampNeg) (c : ¬ y = pr) : ∀ j : Nat, (j : Int) < x.toInt → ¬ g3 j = pr := by
  intro j hj
  by_cases e : j = kk.toInt.toNat
  · rw [e]
    have e2 : kk.toNatClampNeg = kk.toInt.toNat := rfl
    rw [← e2, ← ey]; exact c
  · exact h j (by omega)
theorem ti_s {g g2 : Nat → Int32} {i j : Int32} (h : ∀ k : Nat, (k : Int) < i.toInt → g k = -1) (hi : 0 ≤ i) (c : ¬ 1440 ≤ i) (ef : g2 = upd g i.toNatClampNeg (-1)) (ej : j = i + 1) : ∀ k : Nat, (k : Int) < j.toInt → g2 k = -1 := by
  intro k hk
  have hj := (ii0 1440 hi c ej).2
  have e2 : i.toNatClampNeg = i.toInt.toNat := rfl
  by_cases e : k = i.toInt.toNat
  · rw [ef, e2, e]; exact pk_us
  · rw [ef, e2, pk_un e]
    exact h k (by omega)
theorem erel0 {f1 : Nat → Int32} (h : ∀ k : Nat, k < 1440 → f1 k = -1) : erel f1 (fun _ => 0) (fun _ => 0) (fun _ => 0) (0 : Int32).toInt.toNat := fun k hk => h k hk
theorem frel0 : frel (fun _ => 0) (fun _ => 0) := fun _ _ => rfl
theorem pri {sp msp sp2 msp2 ra rb : Int32} {a b c : Int64} {f1 f1b g1 g2 g3 g1b g2b g3b : Nat → Int32} (hI : sp = msp ∧ 0 ≤ sp.toInt ∧ sp.toInt ≤ 20)
    (h1 : (¬ prOk a b c → ra = -2 ∧ sp2 = sp ∧ f1b = f1) ∧ (prOk a b c → 20 ≤ sp → ra = -4 ∧ sp2 = sp ∧ f1b = f1) ∧ (prOk a b c → ¬ 20 ≤ sp → ra = sp + 1 ∧ sp2 = sp + 1 ∧ ∀ k : Nat, f1b k = if a.toInt ≤ k ∧ (k : Int) < b.toInt then c.toInt32 else f1 k))
    (h2 : (¬ mrOk a b c → rb = -2 ∧ msp2 = msp ∧ g1b = g1 ∧ g2b = g2 ∧ g3b = g3) ∧ (mrOk a b c → msp = 20 → rb = -4 ∧ msp2 = msp ∧ g1b = g1 ∧ g2b = g2 ∧ g3b = g3) ∧ (mrOk a b c → ¬ msp = 20 → rb = msp + 1 ∧ msp2 = msp + 1 ∧ g1b = upd g1 msp.toNatClampNeg a.toInt32 ∧ g2b = upd g2 msp.toNatClampNeg b.toInt32 ∧ g3b = upd g3 msp.toNatClampNeg c.toInt32)) :
    (ra = rb ∧ sp2 = msp2 ∧ 0 ≤ sp2.toInt ∧ sp2.toInt ≤ 20) ∧ (erel f1 g1 g2 g3 msp.toInt.toNat → erel f1b g1b g2b g3b msp2.toInt.toNat) := by
  obtain ⟨rfl, i0, i1⟩ := hI
  have a1 : (20 : Int32).toInt = 20 := by decide
  have a2 : (1 : Int32).toInt = 1 := by decide
  by_cases g : prOk a b c
  · have g2' := prmr.mp g
    by_cases f : sp = 20
    · obtain ⟨rfl, rfl, rfl⟩ := h1.2.1 g (by rw [f]; exact Int32.le_refl _)
      obtain ⟨rfl, rfl, rfl, rfl, rfl⟩ := h2.2.1 g2' f
      exact ⟨⟨rfl, rfl, i0, i1⟩, fun h => h⟩
    · have f2 : sp.toInt ≠ 20 := fun h => f (Int32.toInt_inj.mp (h.trans a1.symm))
      obtain ⟨rfl, rfl, hf1⟩ := h1.2.2 g (by rw [Int32.le_iff_toInt_le]; omega)
      obtain ⟨rfl, rfl, e1, e2, e3⟩ := h2.2.2 g2' f
      have e : (sp + 1).toInt = sp.toInt + 1 := by rw [Jvm.Kit.i32_add (by omega) (by omega), a2]
      exact ⟨⟨rfl, rfl, by omega, by omega⟩, fun h => erel_s i0 i1 f g h hf1 e1 e2 e3⟩
  · obtain ⟨rfl, rfl, rfl⟩ := h1.1 g
    obtain ⟨rfl, rfl, rfl, rfl, rfl⟩ := h2.1 (fun h => g (prmr.mpr h))
    exact ⟨⟨rfl, rfl, i0, i1⟩, fun h => h⟩
theorem pln_eq {f2 : Nat → Int32} {g4 : Nat → Int64} {t ra rb : Int64} (h : frel f2 g4) (h1 : ra = (if ¬ t < 0 ∧ ¬ 1440 ≤ t then f2 t.toInt32.toNatClampNeg else 0).toInt64) (h2 : rb = if ¬ t < 0 ∧ t ≤ 1439 then g4 t.toInt32.toNatClampNeg else 0) : ra = rb := by
  have a1 : (1440 : Int64).toInt = 1440 := by decide
  have a2 : (1439 : Int64).toInt = 1439 := by decide
  by_cases q : ¬ t < 0 ∧ ¬ 1440 ≤ t
  · have q2 := q
    rw [Int64.lt_iff_toInt_lt, Int64.le_iff_toInt_le, Int64.toInt_zero, a1] at q2
    have q3 : ¬ t < 0 ∧ t ≤ 1439 := ⟨q.1, by rw [Int64.le_iff_toInt_le, a2]; omega⟩
    rw [h1, h2, if_pos q, if_pos q3]
    apply h
    show t.toInt32.toInt.toNat < 1440
    rw [Jvm.Kit.i32_of_i64 (by omega) (by omega)]
    omega
  · have q3 : ¬ (¬ t < 0 ∧ t ≤ 1439) := fun z => q ⟨z.1, fun y => by
      have z2 := z.2
      rw [Int64.le_iff_toInt_le, a2] at z2
      rw [Int64.le_iff_toInt_le, a1] at y
      omega⟩
    rw [h1, h2, if_neg q, if_neg q3]
    rfl

