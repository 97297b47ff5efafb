/-! The same values as whole numbers. -/
abbrev zin (n : Int) : Prop := -2147483648 ≤ n ∧ n < 2147483648
abbrev wi (n : Int) : Int := Int.bmod n 4294967296
abbrev wl (n : Int) : Int := Int.bmod n 18446744073709551616
def aA (f : Nat → Int32) : Nat → Int := fun j => (f j).toInt
def aAl (f : Nat → Int64) : Nat → Int := fun j => (f j).toInt
def updz (f : Nat → Int) (k : Nat) (x : Int) : Nat → Int := fun j => if j = k then x else f j
def zcpz (N : Nat) (f g : Nat → Int) : Nat → Int := fun j => if j < N then f j else g j
abbrev zminZ (x y : Int) : Int := if y < x then y else x
abbrev zmaxZ (x y : Int) : Int := if x < y then y else x
def zi2cZ (x : Int) : Int := x % 65536
def lg_cmpZ (x y : Int) : Int := if x > y then 1 else if x = y then 0 else -1
def zremlZ (x y : Int) : Int := Int.tmod x y
def zushrZ (x y : Int) : Int := (zushr (Int64.ofInt x) (Int32.ofInt y)).toInt
def zSvz : Nat → Nat → Int := fun j => match j with
  | 0 => fun k => ([4, 100, 0, 400, 0, 0] : List Int).getD k 0
  | 1 => fun k => ([1, 40, 0, 0, 0, 0] : List Int).getD k 0
  | _ => fun k => ([8, 200, 99, 4000, 4000, 99] : List Int).getD k 0
theorem zt_bm {n : Int} (h : zin n) : n.bmod (2 ^ 32) = n := by
  have e : ((2 : Nat) ^ 32 : Nat) = 4294967296 := by decide
  rw [e, Int.bmod_def]
  omega
section ZTL
variable {a b : Int32} {A B : Int}
theorem zt_add (ha : a.toInt = A) (hb : b.toInt = B) (h : zin (A + B)) : (a + b).toInt = A + B := by rw [Int32.toInt_add, ha, hb]; exact zt_bm h
theorem zt_sub (ha : a.toInt = A) (hb : b.toInt = B) (h : zin (A - B)) : (a - b).toInt = A - B := by rw [Int32.toInt_sub, ha, hb]; exact zt_bm h
theorem zt_mul (ha : a.toInt = A) (hb : b.toInt = B) (h : zin (A * B)) : (a * b).toInt = A * B := by rw [Int32.toInt_mul, ha, hb]; exact zt_bm h
theorem zt_neg (ha : a.toInt = A) (h : zin (-A)) : (-a).toInt = -A := by rw [Int32.toInt_neg, ha]; exact zt_bm h
theorem zt_div (ha : a.toInt = A) (hb : b.toInt = B) (h : ¬ B = -1) : (a / b).toInt = Int.tdiv A B := by
  rw [Int32.toInt_div_of_ne_right _ _ (fun e => h (by rw [← hb, e]; rfl)), ha, hb]
theorem zt_rem (ha : a.toInt = A) (hb : b.toInt = B) (h : ¬ B = -1) (h0 : ¬ B = 0) : (zrem a b).toInt = Int.tmod A B := by
  have hd := zt_div ha hb h
  have e : zrem a b = Int32.ofInt (A - Int.tdiv A B * B) := by
    rw [Int32.ofInt_sub, Int32.ofInt_mul, ← hd, ← ha, ← hb, Int32.ofInt_toInt, Int32.ofInt_toInt, Int32.ofInt_toInt]
  have e2 : A - Int.tdiv A B * B = Int.tmod A B := by rw [Int.tmod_def, Int.mul_comm]
  have hA := a.le_toInt
  have hA2 := a.toInt_lt
  rw [ha] at hA hA2
  rw [e, e2]
  have hB : (Int.tmod A B).natAbs = A.natAbs % B.natAbs := Int.natAbs_tmod A B
  have h1 : (Int.tmod A B).natAbs ≤ A.natAbs := by rw [Int.natAbs_tmod]; exact Nat.mod_le _ _
  refine Int32.toInt_ofInt_of_le ?_ ?_
  · omega
  · rcases Int.lt_or_le A 0 with q | q
    · have h3 := Int.tmod_nonneg (a := -A) B (by omega)
      rw [Int.neg_tmod] at h3
      omega
    · omega
theorem zt_lt (ha : a.toInt = A) (hb : b.toInt = B) : a < b ↔ A < B := by rw [Int32.lt_iff_toInt_lt, ha, hb]
theorem zt_le (ha : a.toInt = A) (hb : b.toInt = B) : a ≤ b ↔ A ≤ B := by rw [Int32.le_iff_toInt_le, ha, hb]
theorem zt_eq (ha : a.toInt = A) (hb : b.toInt = B) : a = b ↔ A = B := by rw [← Int32.toInt_inj, ha, hb]
theorem zt_min (ha : a.toInt = A) (hb : b.toInt = B) : (zmin a b).toInt = zminZ A B := by
  subst ha; subst hb
  show (if b < a then b else a).toInt = if b.toInt < a.toInt then b.toInt else a.toInt
  by_cases q : b < a
  · rw [if_pos q, if_pos (Int32.lt_iff_toInt_lt.mp q)]
  · rw [if_neg q, if_neg (fun k => q (Int32.lt_iff_toInt_lt.mpr k))]
theorem zt_max (ha : a.toInt = A) (hb : b.toInt = B) : (zmax a b).toInt = zmaxZ A B := by
  subst ha; subst hb
  show (if a < b then b else a).toInt = if a.toInt < b.toInt then b.toInt else a.toInt
  by_cases q : a < b
  · rw [if_pos q, if_pos (Int32.lt_iff_toInt_lt.mp q)]
  · rw [if_neg q, if_neg (fun k => q (Int32.lt_iff_toInt_lt.mpr k))]
theorem zt_in {N : Nat} (ha : a.toInt = A) (h : 0 ≤ A ∧ A < (N : Int)) : vp_in a N := by
  refine vp_i ?_
  have e : a.toNatClampNeg = a.toInt.toNat := rfl
  rw [Int32.lt_iff_toInt_lt, e, ha, show (0 : Int32).toInt = 0 from rfl]
  omega
theorem zt_zb (ha : a.toInt = A) (h : A = 0 ∨ A = 1) : zb a := by
  rcases h with h | h
  · exact Or.inl (Int32.toInt_inj.mp (by rw [ha, h]; rfl))
  · exact Or.inr (Int32.toInt_inj.mp (by rw [ha, h]; rfl))
theorem zt_i2l (ha : a.toInt = A) : (Int32.toInt64 a).toInt = A := by rw [Int32.toInt_toInt64, ha]
theorem zt_ofNat {N : Nat} (h : N < 2147483648) : (Int32.ofNat N).toInt = ((N : Nat) : Int) := Int32.toInt_ofNat_of_lt h
theorem zt_zi2c (ha : a.toInt = A) : (zi2c a).toInt = zi2cZ A := by
  subst ha
  have h1 : (a.toUInt32 % 65536).toNat = a.toUInt32.toNat % 65536 := by rw [UInt32.toNat_mod]; rfl
  have h2 : (a.toUInt32 % 65536).toNat < 65536 := by rw [h1]; exact Nat.mod_lt _ (by decide)
  have h3 : ((a.toUInt32 % 65536).toInt32).toInt = ((a.toUInt32 % 65536).toNat : Int) := by
    show (a.toUInt32 % 65536).toBitVec.toInt = _
    rw [BitVec.toInt_eq_toNat_of_lt]
    · rfl
    · show 2 * (a.toUInt32 % 65536).toNat < 2 ^ 32
      omega
  show ((a.toUInt32 % 65536).toInt32).toInt = _
  rw [h3, h1]
  have h4 : (a.toUInt32.toNat : Int) = a.toInt % 4294967296 := by
    have e : a.toInt = a.toBitVec.toInt := rfl
    have c := BitVec.toInt_eq_toNat_cond a.toBitVec
    have hl := a.toBitVec.isLt
    have e2 : a.toUInt32.toNat = a.toBitVec.toNat := rfl
    rw [e2, e]
    split at c <;> omega
  unfold zi2cZ
  omega
theorem zt_zc (ha : a.toInt = A) (h : 0 ≤ A ∧ A ≤ 65535) : zc a := by
  have h2 := zt_zi2c ha
  have e : zi2c a = a := Int32.toInt_inj.mp (by rw [h2, ha]; unfold zi2cZ; omega)
  show narrow .char (.int a) = .int a
  exact congrArg Value.int e
end ZTL
section ZTLL
variable {a b : Int64} {A B : Int}
theorem zt_ladd (ha : a.toInt = A) (hb : b.toInt = B) : (a + b).toInt = wl (A + B) := by rw [Int64.toInt_add, ha, hb]
theorem zt_lsub (ha : a.toInt = A) (hb : b.toInt = B) : (a - b).toInt = wl (A - B) := by rw [Int64.toInt_sub, ha, hb]
theorem zt_lmul (ha : a.toInt = A) (hb : b.toInt = B) : (a * b).toInt = wl (A * B) := by rw [Int64.toInt_mul, ha, hb]
theorem zt_ldiv (ha : a.toInt = A) (hb : b.toInt = B) : (a / b).toInt = wl (Int.tdiv A B) := by rw [Int64.toInt_div, ha, hb]
theorem zt_llt (ha : a.toInt = A) (hb : b.toInt = B) : a < b ↔ A < B := by rw [Int64.lt_iff_toInt_lt, ha, hb]
theorem zt_lle (ha : a.toInt = A) (hb : b.toInt = B) : a ≤ b ↔ A ≤ B := by rw [Int64.le_iff_toInt_le, ha, hb]
theorem zt_leq (ha : a.toInt = A) (hb : b.toInt = B) : a = b ↔ A = B := by rw [← Int64.toInt_inj, ha, hb]
theorem zt_l2i (ha : a.toInt = A) : (Int64.toInt32 a).toInt = wi A := by rw [Int64.toInt_toInt32, ha]
theorem zt_lg_cmp (ha : a.toInt = A) (hb : b.toInt = B) : (lg_cmp a b).toInt = lg_cmpZ A B := by
  subst ha; subst hb
  unfold lg_cmp lg_cmpZ
  simp only [gt_iff_lt, Int64.lt_iff_toInt_lt, ← Int64.toInt_inj]
  split
  · rfl
  · split <;> rfl
theorem zt_zushr {y : Int32} {Y : Int} (ha : a.toInt = A) (hy : y.toInt = Y) : (zushr a y).toInt = zushrZ A Y := by
  subst ha; subst hy
  unfold zushrZ
  rw [Int64.ofInt_toInt, Int32.ofInt_toInt]
theorem zt_reml (ha : a.toInt = A) (hb : b.toInt = B) (h0 : ¬ B = 0) : (zreml a b).toInt = zremlZ A B := by
  have e : zreml a b = Int64.ofInt (A - Int.tdiv A B * B) := by
    have e1 : a / b = Int64.ofInt (Int.tdiv A B) := Int64.toInt_inj.mp (by rw [Int64.toInt_div, ha, hb, Int64.toInt_ofInt])
    show a - a / b * b = _
    rw [Int64.ofInt_sub, Int64.ofInt_mul, ← e1, ← ha, ← hb, Int64.ofInt_toInt, Int64.ofInt_toInt]
  have e2 : A - Int.tdiv A B * B = Int.tmod A B := by rw [Int.tmod_def, Int.mul_comm]
  have hA := a.le_toInt
  have hA2 := a.toInt_lt
  rw [ha] at hA hA2
  rw [e, e2]
  have hB : (Int.tmod A B).natAbs = A.natAbs % B.natAbs := Int.natAbs_tmod A B
  have h1 : (Int.tmod A B).natAbs ≤ A.natAbs := by rw [Int.natAbs_tmod]; exact Nat.mod_le _ _
  refine Int64.toInt_ofInt_of_le ?_ ?_
  · omega
  · rcases Int.lt_or_le A 0 with q | q
    · have h3 := Int.tmod_nonneg (a := -A) B (by omega)
      rw [Int.neg_tmod] at h3
      omega
    · omega
end ZTLL
theorem zt_upd {f : Nat → Int32} {F : Nat → Int} {k K : Nat} {x : Int32} {X : Int} (hf : aA f = F) (hk : k = K) (hx : x.toInt = X) : aA (upd f k x) = updz F K X := by
  subst hf; subst hk; subst hx
  funext j
  show (if j = k then x else f j).toInt = if j = k then x.toInt else (f j).toInt
  by_cases q : j = k
  · rw [if_pos q, if_pos q]
  · rw [if_neg q, if_neg q]
theorem zt_updL {f : Nat → Int64} {F : Nat → Int} {k K : Nat} {x : Int64} {X : Int} (hf : aAl f = F) (hk : k = K) (hx : x.toInt = X) : aAl (vp_updL f k x) = updz F K X := by
  subst hf; subst hk; subst hx
  funext j
  show (if j = k then x else f j).toInt = if j = k then x.toInt else (f j).toInt
  by_cases q : j = k
  · rw [if_pos q, if_pos q]
  · rw [if_neg q, if_neg q]
theorem zt_Sv {j : Nat} : aA (zSv j) = zSvz j := by
  funext k
  match j with
  | 0 => match k with
    | 0 => rfl
    | 1 => rfl
    | 2 => rfl
    | 3 => rfl
    | 4 => rfl
    | 5 => rfl
    | k + 6 => rfl
  | 1 => match k with
    | 0 => rfl
    | 1 => rfl
    | 2 => rfl
    | 3 => rfl
    | 4 => rfl
    | 5 => rfl
    | k + 6 => rfl
  | j + 2 => match k with
    | 0 => rfl
    | 1 => rfl
    | 2 => rfl
    | 3 => rfl
    | 4 => rfl
    | 5 => rfl
    | k + 6 => rfl
theorem zt_cp {N : Nat} {f g : Nat → Int32} : aA (zcp N f g) = zcpz N (aA f) (aA g) := by
  funext j
  show (if j < N then f j else g j).toInt = if j < N then (f j).toInt else (g j).toInt
  by_cases q : j < N
  · rw [if_pos q, if_pos q]
  · rw [if_neg q, if_neg q]
abbrev LZ : Type := (Nat → Int) × (Nat → Int) × (Nat → Int) × (Nat → Int) × (Nat → Int) × (Nat → Int) × Int × Int × Int × Int × Int
abbrev Lz_keys (x : LZ) : (Nat → Int) := x.1
abbrev Lz_values (x : LZ) : (Nat → Int) := x.2.1
abbrev Lz_times (x : LZ) : (Nat → Int) := x.2.2.1
abbrev Lz_lengthsBelow (x : LZ) : (Nat → Int) := x.2.2.2.1
abbrev Lz_starts (x : LZ) : (Nat → Int) := x.2.2.2.2.1
abbrev Lz_dropValues (x : LZ) : (Nat → Int) := x.2.2.2.2.2.1
abbrev Lz_first (x : LZ) : Int := x.2.2.2.2.2.2.1
abbrev Lz_end (x : LZ) : Int := x.2.2.2.2.2.2.2.1
abbrev Lz_length (x : LZ) : Int := x.2.2.2.2.2.2.2.2.1
abbrev Lz_begun (x : LZ) : Int := x.2.2.2.2.2.2.2.2.2.1
abbrev Lz_dropped (x : LZ) : Int := x.2.2.2.2.2.2.2.2.2.2
abbrev Lz_set_keys (x : LZ) (v : (Nat → Int)) : LZ := (v, x.2.1, x.2.2.1, x.2.2.2.1, x.2.2.2.2.1, x.2.2.2.2.2.1, x.2.2.2.2.2.2.1, x.2.2.2.2.2.2.2.1, x.2.2.2.2.2.2.2.2.1, x.2.2.2.2.2.2.2.2.2.1, x.2.2.2.2.2.2.2.2.2.2)
abbrev Lz_set_values (x : LZ) (v : (Nat → Int)) : LZ := (x.1, v, x.2.2.1, x.2.2.2.1, x.2.2.2.2.1, x.2.2.2.2.2.1, x.2.2.2.2.2.2.1, x.2.2.2.2.2.2.2.1, x.2.2.2.2.2.2.2.2.1, x.2.2.2.2.2.2.2.2.2.1, x.2.2.2.2.2.2.2.2.2.2)
abbrev Lz_set_times (x : LZ) (v : (Nat → Int)) : LZ := (x.1, x.2.1, v, x.2.2.2.1, x.2.2.2.2.1, x.2.2.2.2.2.1, x.2.2.2.2.2.2.1, x.2.2.2.2.2.2.2.1, x.2.2.2.2.2.2.2.2.1, x.2.2.2.2.2.2.2.2.2.1, x.2.2.2.2.2.2.2.2.2.2)
abbrev Lz_set_lengthsBelow (x : LZ) (v : (Nat → Int)) : LZ := (x.1, x.2.1, x.2.2.1, v, x.2.2.2.2.1, x.2.2.2.2.2.1, x.2.2.2.2.2.2.1, x.2.2.2.2.2.2.2.1, x.2.2.2.2.2.2.2.2.1, x.2.2.2.2.2.2.2.2.2.1, x.2.2.2.2.2.2.2.2.2.2)
abbrev Lz_set_starts (x : LZ) (v : (Nat → Int)) : LZ := (x.1, x.2.1, x.2.2.1, x.2.2.2.1, v, x.2.2.2.2.2.1, x.2.2.2.2.2.2.1, x.2.2.2.2.2.2.2.1, x.2.2.2.2.2.2.2.2.1, x.2.2.2.2.2.2.2.2.2.1, x.2.2.2.2.2.2.2.2.2.2)
abbrev Lz_set_dropValues (x : LZ) (v : (Nat → Int)) : LZ := (x.1, x.2.1, x.2.2.1, x.2.2.2.1, x.2.2.2.2.1, v, x.2.2.2.2.2.2.1, x.2.2.2.2.2.2.2.1, x.2.2.2.2.2.2.2.2.1, x.2.2.2.2.2.2.2.2.2.1, x.2.2.2.2.2.2.2.2.2.2)
abbrev Lz_set_first (x : LZ) (v : Int) : LZ := (x.1, x.2.1, x.2.2.1, x.2.2.2.1, x.2.2.2.2.1, x.2.2.2.2.2.1, v, x.2.2.2.2.2.2.2.1, x.2.2.2.2.2.2.2.2.1, x.2.2.2.2.2.2.2.2.2.1, x.2.2.2.2.2.2.2.2.2.2)
abbrev Lz_set_end (x : LZ) (v : Int) : LZ := (x.1, x.2.1, x.2.2.1, x.2.2.2.1, x.2.2.2.2.1, x.2.2.2.2.2.1, x.2.2.2.2.2.2.1, v, x.2.2.2.2.2.2.2.2.1, x.2.2.2.2.2.2.2.2.2.1, x.2.2.2.2.2.2.2.2.2.2)
abbrev Lz_set_length (x : LZ) (v : Int) : LZ := (x.1, x.2.1, x.2.2.1, x.2.2.2.1, x.2.2.2.2.1, x.2.2.2.2.2.1, x.2.2.2.2.2.2.1, x.2.2.2.2.2.2.2.1, v, x.2.2.2.2.2.2.2.2.2.1, x.2.2.2.2.2.2.2.2.2.2)
abbrev Lz_set_begun (x : LZ) (v : Int) : LZ := (x.1, x.2.1, x.2.2.1, x.2.2.2.1, x.2.2.2.2.1, x.2.2.2.2.2.1, x.2.2.2.2.2.2.1, x.2.2.2.2.2.2.2.1, x.2.2.2.2.2.2.2.2.1, v, x.2.2.2.2.2.2.2.2.2.2)
abbrev Lz_set_dropped (x : LZ) (v : Int) : LZ := (x.1, x.2.1, x.2.2.1, x.2.2.2.1, x.2.2.2.2.1, x.2.2.2.2.2.1, x.2.2.2.2.2.2.1, x.2.2.2.2.2.2.2.1, x.2.2.2.2.2.2.2.2.1, x.2.2.2.2.2.2.2.2.2.1, v)
def aL (x : LT) : LZ := (aA (L_keys x), aA (L_values x), aA (L_times x), aA (L_lengthsBelow x), aA (L_starts x), aA (L_dropValues x), (L_first x).toInt, (L_end x).toInt, (L_length x).toInt, (L_begun x).toInt, (L_dropped x).toInt)
abbrev RZ : Type := (Nat → Int) × Int × Int × Int × Int × Int × Int × Int × Int
abbrev Rz_values (x : RZ) : (Nat → Int) := x.1
abbrev Rz_present (x : RZ) : Int := x.2.1
abbrev Rz_hasLeft (x : RZ) : Int := x.2.2.1
abbrev Rz_held (x : RZ) : Int := x.2.2.2.1
abbrev Rz_place (x : RZ) : Int := x.2.2.2.2.1
abbrev Rz_readSoFar (x : RZ) : Int := x.2.2.2.2.2.1
abbrev Rz_missedSoFar (x : RZ) : Int := x.2.2.2.2.2.2.1
abbrev Rz_lastRead (x : RZ) : Int := x.2.2.2.2.2.2.2.1
abbrev Rz_lostBy (x : RZ) : Int := x.2.2.2.2.2.2.2.2
abbrev Rz_set_values (x : RZ) (v : (Nat → Int)) : RZ := (v, x.2.1, x.2.2.1, x.2.2.2.1, x.2.2.2.2.1, x.2.2.2.2.2.1, x.2.2.2.2.2.2.1, x.2.2.2.2.2.2.2.1, x.2.2.2.2.2.2.2.2)
abbrev Rz_set_present (x : RZ) (v : Int) : RZ := (x.1, v, x.2.2.1, x.2.2.2.1, x.2.2.2.2.1, x.2.2.2.2.2.1, x.2.2.2.2.2.2.1, x.2.2.2.2.2.2.2.1, x.2.2.2.2.2.2.2.2)
abbrev Rz_set_hasLeft (x : RZ) (v : Int) : RZ := (x.1, x.2.1, v, x.2.2.2.1, x.2.2.2.2.1, x.2.2.2.2.2.1, x.2.2.2.2.2.2.1, x.2.2.2.2.2.2.2.1, x.2.2.2.2.2.2.2.2)
abbrev Rz_set_held (x : RZ) (v : Int) : RZ := (x.1, x.2.1, x.2.2.1, v, x.2.2.2.2.1, x.2.2.2.2.2.1, x.2.2.2.2.2.2.1, x.2.2.2.2.2.2.2.1, x.2.2.2.2.2.2.2.2)
abbrev Rz_set_place (x : RZ) (v : Int) : RZ := (x.1, x.2.1, x.2.2.1, x.2.2.2.1, v, x.2.2.2.2.2.1, x.2.2.2.2.2.2.1, x.2.2.2.2.2.2.2.1, x.2.2.2.2.2.2.2.2)
abbrev Rz_set_readSoFar (x : RZ) (v : Int) : RZ := (x.1, x.2.1, x.2.2.1, x.2.2.2.1, x.2.2.2.2.1, v, x.2.2.2.2.2.2.1, x.2.2.2.2.2.2.2.1, x.2.2.2.2.2.2.2.2)
abbrev Rz_set_missedSoFar (x : RZ) (v : Int) : RZ := (x.1, x.2.1, x.2.2.1, x.2.2.2.1, x.2.2.2.2.1, x.2.2.2.2.2.1, v, x.2.2.2.2.2.2.2.1, x.2.2.2.2.2.2.2.2)
abbrev Rz_set_lastRead (x : RZ) (v : Int) : RZ := (x.1, x.2.1, x.2.2.1, x.2.2.2.1, x.2.2.2.2.1, x.2.2.2.2.2.1, x.2.2.2.2.2.2.1, v, x.2.2.2.2.2.2.2.2)
abbrev Rz_set_lostBy (x : RZ) (v : Int) : RZ := (x.1, x.2.1, x.2.2.1, x.2.2.2.1, x.2.2.2.2.1, x.2.2.2.2.2.1, x.2.2.2.2.2.2.1, x.2.2.2.2.2.2.2.1, v)
def aR (x : RT) : RZ := (aA (R_values x), (R_present x).toInt, (R_hasLeft x).toInt, (R_held x).toInt, (R_place x).toInt, (R_readSoFar x).toInt, (R_missedSoFar x).toInt, (R_lastRead x).toInt, (R_lostBy x).toInt)
abbrev SZ : Type := LZ × (Nat → RZ) × (Nat → Int) × Int × Int × Int × Int
abbrev Sz_log (x : SZ) : LZ := x.1
abbrev Sz_readers (x : SZ) : (Nat → RZ) := x.2.1
abbrev Sz_settings (x : SZ) : (Nat → Int) := x.2.2.1
abbrev Sz_time (x : SZ) : Int := x.2.2.2.1
abbrev Sz_lostByLength (x : SZ) : Int := x.2.2.2.2.1
abbrev Sz_lostBySleep (x : SZ) : Int := x.2.2.2.2.2.1
abbrev Sz_missed (x : SZ) : Int := x.2.2.2.2.2.2
abbrev Sz_set_log (x : SZ) (v : LZ) : SZ := (v, x.2.1, x.2.2.1, x.2.2.2.1, x.2.2.2.2.1, x.2.2.2.2.2.1, x.2.2.2.2.2.2)
abbrev Sz_set_readers (x : SZ) (v : (Nat → RZ)) : SZ := (x.1, v, x.2.2.1, x.2.2.2.1, x.2.2.2.2.1, x.2.2.2.2.2.1, x.2.2.2.2.2.2)
abbrev Sz_seti_readers (x : SZ) (i : Nat) (v : RZ) : SZ := Sz_set_readers x (fun j => if j = i then v else Sz_readers x j)
abbrev Sz_set_settings (x : SZ) (v : (Nat → Int)) : SZ := (x.1, x.2.1, v, x.2.2.2.1, x.2.2.2.2.1, x.2.2.2.2.2.1, x.2.2.2.2.2.2)
abbrev Sz_set_time (x : SZ) (v : Int) : SZ := (x.1, x.2.1, x.2.2.1, v, x.2.2.2.2.1, x.2.2.2.2.2.1, x.2.2.2.2.2.2)
abbrev Sz_set_lostByLength (x : SZ) (v : Int) : SZ := (x.1, x.2.1, x.2.2.1, x.2.2.2.1, v, x.2.2.2.2.2.1, x.2.2.2.2.2.2)
abbrev Sz_set_lostBySleep (x : SZ) (v : Int) : SZ := (x.1, x.2.1, x.2.2.1, x.2.2.2.1, x.2.2.2.2.1, v, x.2.2.2.2.2.2)
abbrev Sz_set_missed (x : SZ) (v : Int) : SZ := (x.1, x.2.1, x.2.2.1, x.2.2.2.1, x.2.2.2.2.1, x.2.2.2.2.2.1, v)
def aS (x : ST) : SZ := (aL (S_log x), fun j => aR (S_readers x j), aA (S_settings x), (S_time x).toInt, (S_lostByLength x).toInt, (S_lostBySleep x).toInt, (S_missed x).toInt)
theorem zt_seti_S_readers {v : ST} {V : SZ} {i I : Nat} {w : RT} {W : RZ} (hv : aS v = V) (hi : i = I) (hw : aR w = W) : aS (S_seti_readers v i w) = Sz_seti_readers V I W := by
  subst hv; subst hi; subst hw
  have e : (fun j => aR (if j = i then w else S_readers v j)) = fun j => if j = i then aR w else aR (S_readers v j) := by
    funext j
    by_cases q : j = i
    · rw [if_pos q, if_pos q]
    · rw [if_neg q, if_neg q]
  exact congrArg (Sz_set_readers (aS v)) e
abbrev XZ : Type := (Nat → Int) × Int × Int × Int × Int × Int × Int × Int
abbrev Xz_signs (x : XZ) : (Nat → Int) := x.1
abbrev Xz_length (x : XZ) : Int := x.2.1
abbrev Xz_position (x : XZ) : Int := x.2.2.1
abbrev Xz_wrong (x : XZ) : Int := x.2.2.2.1
abbrev Xz_action (x : XZ) : Int := x.2.2.2.2.1
abbrev Xz_a (x : XZ) : Int := x.2.2.2.2.2.1
abbrev Xz_b (x : XZ) : Int := x.2.2.2.2.2.2.1
abbrev Xz_c (x : XZ) : Int := x.2.2.2.2.2.2.2
abbrev Xz_set_signs (x : XZ) (v : (Nat → Int)) : XZ := (v, x.2.1, x.2.2.1, x.2.2.2.1, x.2.2.2.2.1, x.2.2.2.2.2.1, x.2.2.2.2.2.2.1, x.2.2.2.2.2.2.2)
abbrev Xz_set_length (x : XZ) (v : Int) : XZ := (x.1, v, x.2.2.1, x.2.2.2.1, x.2.2.2.2.1, x.2.2.2.2.2.1, x.2.2.2.2.2.2.1, x.2.2.2.2.2.2.2)
abbrev Xz_set_position (x : XZ) (v : Int) : XZ := (x.1, x.2.1, v, x.2.2.2.1, x.2.2.2.2.1, x.2.2.2.2.2.1, x.2.2.2.2.2.2.1, x.2.2.2.2.2.2.2)
abbrev Xz_set_wrong (x : XZ) (v : Int) : XZ := (x.1, x.2.1, x.2.2.1, v, x.2.2.2.2.1, x.2.2.2.2.2.1, x.2.2.2.2.2.2.1, x.2.2.2.2.2.2.2)
abbrev Xz_set_action (x : XZ) (v : Int) : XZ := (x.1, x.2.1, x.2.2.1, x.2.2.2.1, v, x.2.2.2.2.2.1, x.2.2.2.2.2.2.1, x.2.2.2.2.2.2.2)
abbrev Xz_set_a (x : XZ) (v : Int) : XZ := (x.1, x.2.1, x.2.2.1, x.2.2.2.1, x.2.2.2.2.1, v, x.2.2.2.2.2.2.1, x.2.2.2.2.2.2.2)
abbrev Xz_set_b (x : XZ) (v : Int) : XZ := (x.1, x.2.1, x.2.2.1, x.2.2.2.1, x.2.2.2.2.1, x.2.2.2.2.2.1, v, x.2.2.2.2.2.2.2)
abbrev Xz_set_c (x : XZ) (v : Int) : XZ := (x.1, x.2.1, x.2.2.1, x.2.2.2.1, x.2.2.2.2.1, x.2.2.2.2.2.1, x.2.2.2.2.2.2.1, v)
def aX (x : XT) : XZ := (aA (X_signs x), (X_length x).toInt, (X_position x).toInt, (X_wrong x).toInt, (X_action x).toInt, (X_a x).toInt, (X_b x).toInt, (X_c x).toInt)
abbrev HZ : Type := (Nat → SZ) × Int × Int
abbrev Hz_states (x : HZ) : (Nat → SZ) := x.1
abbrev Hz_next (x : HZ) : Int := x.2.1
abbrev Hz_count (x : HZ) : Int := x.2.2
abbrev Hz_set_states (x : HZ) (v : (Nat → SZ)) : HZ := (v, x.2.1, x.2.2)
abbrev Hz_seti_states (x : HZ) (i : Nat) (v : SZ) : HZ := Hz_set_states x (fun j => if j = i then v else Hz_states x j)
abbrev Hz_set_next (x : HZ) (v : Int) : HZ := (x.1, v, x.2.2)
abbrev Hz_set_count (x : HZ) (v : Int) : HZ := (x.1, x.2.1, v)
def aH (x : HT) : HZ := (fun j => aS (H_states x j), (H_next x).toInt, (H_count x).toInt)
theorem zt_seti_H_states {v : HT} {V : HZ} {i I : Nat} {w : ST} {W : SZ} (hv : aH v = V) (hi : i = I) (hw : aS w = W) : aH (H_seti_states v i w) = Hz_seti_states V I W := by
  subst hv; subst hi; subst hw
  have e : (fun j => aS (if j = i then w else H_states v j)) = fun j => if j = i then aS w else aS (H_states v j) := by
    funext j
    by_cases q : j = i
    · rw [if_pos q, if_pos q]
    · rw [if_neg q, if_neg q]
  exact congrArg (Hz_set_states (aH v)) e
abbrev TZ : Type := XZ × SZ × SZ × HZ × (Nat → SZ) × (Nat → Int)
abbrev Tz_text (x : TZ) : XZ := x.1
abbrev Tz_state (x : TZ) : SZ := x.2.1
abbrev Tz_trial (x : TZ) : SZ := x.2.2.1
abbrev Tz_history (x : TZ) : HZ := x.2.2.2.1
abbrev Tz_slots (x : TZ) : (Nat → SZ) := x.2.2.2.2.1
abbrev Tz_filled (x : TZ) : (Nat → Int) := x.2.2.2.2.2
abbrev Tz_set_text (x : TZ) (v : XZ) : TZ := (v, x.2.1, x.2.2.1, x.2.2.2.1, x.2.2.2.2.1, x.2.2.2.2.2)
abbrev Tz_set_state (x : TZ) (v : SZ) : TZ := (x.1, v, x.2.2.1, x.2.2.2.1, x.2.2.2.2.1, x.2.2.2.2.2)
abbrev Tz_set_trial (x : TZ) (v : SZ) : TZ := (x.1, x.2.1, v, x.2.2.2.1, x.2.2.2.2.1, x.2.2.2.2.2)
abbrev Tz_set_history (x : TZ) (v : HZ) : TZ := (x.1, x.2.1, x.2.2.1, v, x.2.2.2.2.1, x.2.2.2.2.2)
abbrev Tz_set_slots (x : TZ) (v : (Nat → SZ)) : TZ := (x.1, x.2.1, x.2.2.1, x.2.2.2.1, v, x.2.2.2.2.2)
abbrev Tz_seti_slots (x : TZ) (i : Nat) (v : SZ) : TZ := Tz_set_slots x (fun j => if j = i then v else Tz_slots x j)
abbrev Tz_set_filled (x : TZ) (v : (Nat → Int)) : TZ := (x.1, x.2.1, x.2.2.1, x.2.2.2.1, x.2.2.2.2.1, v)
def aT (x : TT) : TZ := (aX (T_text x), aS (T_state x), aS (T_trial x), aH (T_history x), fun j => aS (T_slots x j), aA (T_filled x))
theorem zt_seti_T_slots {v : TT} {V : TZ} {i I : Nat} {w : ST} {W : SZ} (hv : aT v = V) (hi : i = I) (hw : aS w = W) : aT (T_seti_slots v i w) = Tz_seti_slots V I W := by
  subst hv; subst hi; subst hw
  have e : (fun j => aS (if j = i then w else T_slots v j)) = fun j => if j = i then aS w else aS (T_slots v j) := by
    funext j
    by_cases q : j = i
    · rw [if_pos q, if_pos q]
    · rw [if_neg q, if_neg q]
  exact congrArg (Tz_set_slots (aT v)) e
def Z_T_copy (N0 N1 : Nat) (v0 v1 : Nat → Int) (Q : (Nat → Int) → Prop) : Prop := N0 < 2147483648 ∧ N1 < 2147483648 ∧ Q (zcpz (min N0 N1) v0 v1)
theorem z_T_copy {v0 : Nat → Int32} {v0z : Nat → Int} {v1 : Nat → Int32} {v1z : Nat → Int} {N0 N0z N1 N1z : Nat} {Q : (Nat → Int32) → Prop} {Qz : (Nat → Int) → Prop} (e_N0 : N0 = N0z) (e_N1 : N1 = N1z) (e_v0 : aA v0 = v0z) (e_v1 : aA v1 = v1z) (h_Q : ∀ w, Qz (aA w) → Q w) (h : Z_T_copy N0z N1z v0z v1z Qz) : P_T_copy N0 N1 v0 v1 Q := by
  subst e_N0; subst e_N1; subst e_v0; subst e_v1
  exact ⟨h.1, h.2.1, h_Q _ (by rw [zt_cp]; exact h.2.2)⟩
