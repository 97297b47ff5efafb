/-! ### small methods, over whole numbers -/
theorem q_at {N : Nat} {i : Int} {v : Nat → Int} {Q : Int → Prop} (hN : N < 2147483648) (h0 : 0 ≤ i) (h1 : i < (N : Int)) (h : Q (v i.toNat)) : Z_T_at N i v Q :=
  ⟨fun c => absurd c (by omega), fun _ => ⟨hN, fun c => absurd c (by omega), fun _ => ⟨⟨h0, h1⟩, h⟩⟩⟩
theorem q_at_out {N : Nat} {i : Int} {v : Nat → Int} {Q : Int → Prop} (hN : N < 2147483648) (h0 : ¬ (0 ≤ i ∧ i < (N : Int))) (h : Q (-1)) : Z_T_at N i v Q :=
  ⟨fun _ => h, fun _ => ⟨hN, fun _ => h, fun _ => absurd (by omega) h0⟩⟩
theorem q_put {N : Nat} {i y : Int} {v : Nat → Int} {Q : (Nat → Int) → Prop} (hN : N < 2147483648) (h0 : 0 ≤ i) (h1 : i < (N : Int)) (h : Q (updz v i.toNat y)) : Z_T_put N i y v Q :=
  ⟨fun c => absurd c (by omega), fun _ => ⟨hN, fun c => absurd c (by omega), fun _ => ⟨⟨h0, h1⟩, fun _ e => e ▸ h⟩⟩⟩
theorem q_isIn {a b y : Int} {Q : Int → Prop} (h1 : a ≤ y → y ≤ b → Q 1) (h0 : ¬ (a ≤ y ∧ y ≤ b) → Q 0) : Z_T_isIn y a b Q :=
  ⟨fun c => h0 (by omega), fun c => ⟨fun c2 => h0 (by omega), fun c2 => h1 (by omega) (by omega)⟩⟩
theorem q_asNumber {y : Int} {Q : Int → Prop} (h0 : y = 0 → Q 0) (h1 : ¬ y = 0 → Q 1) : Z_T_asNumber y Q := ⟨h0, h1⟩
theorem q_copy {N : Nat} {f g : Nat → Int} {Q : (Nat → Int) → Prop} (hN : N < 2147483648) (h : Q (zcpz N f g)) : Z_T_copy N N f g Q := ⟨hN, hN, by rw [Nat.min_self]; exact h⟩
theorem zcpz_lt {N k : Nat} {f g : Nat → Int} (h : k < N) : zcpz N f g k = f k := if_pos h
theorem updz_eq {f : Nat → Int} {k : Nat} {y : Int} : updz f k y k = y := if_pos rfl
theorem updz_ne {f : Nat → Int} {k j : Nat} {y : Int} (h : j ≠ k) : updz f k y j = f j := if_neg h
/-! ### the log of the class -/
def LOK (x : LZ) (T : Int) : Prop :=
  (0 ≤ Lz_first x ∧ Lz_first x ≤ Lz_end x ∧ Lz_end x ≤ 200 ∧ 0 ≤ Lz_dropped x ∧ Lz_dropped x ≤ Lz_begun x ∧ Lz_begun x ≤ Lz_end x) ∧
  (Lz_lengthsBelow x 0 = 0 ∧ (∀ i : Nat, (i : Int) < Lz_end x → 1 ≤ Lz_lengthsBelow x (i + 1) - Lz_lengthsBelow x i ∧ Lz_lengthsBelow x (i + 1) - Lz_lengthsBelow x i ≤ 40) ∧ Lz_length x = Lz_lengthsBelow x (Lz_end x).toNat - Lz_lengthsBelow x (Lz_first x).toNat) ∧
  (Lz_begun x = 0 → Lz_end x = 0) ∧
  (0 < Lz_begun x → Lz_dropped x < Lz_begun x ∧ Lz_starts x 0 = 0 ∧ Lz_starts x (Lz_dropped x).toNat = Lz_first x ∧ (∀ j : Nat, (j : Int) + 1 < Lz_begun x → Lz_starts x j < Lz_starts x (j + 1)) ∧ Lz_starts x (Lz_begun x - 1).toNat < Lz_end x) ∧
  (∀ i : Nat, (i : Int) < Lz_end x → 0 ≤ Lz_keys x i ∧ Lz_keys x i < 8 ∧ 0 ≤ Lz_values x i ∧ Lz_values x i < 100 ∧ 0 ≤ Lz_times x i ∧ Lz_times x i ≤ T) ∧
  (∀ k : Nat, k < 8 → -1 ≤ Lz_dropValues x k ∧ Lz_dropValues x k ≤ 99)
section PL
variable {x : LZ} {T : Int}
theorem LOK.below (h : LOK x T) : ∀ (n i : Nat), ((i + n : Nat) : Int) ≤ Lz_end x → Lz_lengthsBelow x i + n ≤ Lz_lengthsBelow x (i + n) ∧ Lz_lengthsBelow x (i + n) ≤ Lz_lengthsBelow x i + 40 * n := by
  intro n
  induction n with
  | zero => intro i _; simp
  | succ n ih =>
    intro i hi
    have h1 := ih i (by omega)
    have h2 := h.2.1.2.1 (i + n) (by omega)
    rw [show i + (n + 1) = i + n + 1 by omega]
    omega
theorem LOK.bel (h : LOK x T) {i j : Int} (h0 : 0 ≤ i) (h1 : i ≤ j) (h2 : j ≤ Lz_end x) : Lz_lengthsBelow x i.toNat + (j - i) ≤ Lz_lengthsBelow x j.toNat ∧ Lz_lengthsBelow x j.toNat ≤ Lz_lengthsBelow x i.toNat + 40 * (j - i) := by
  have := h.below (j - i).toNat i.toNat (by omega)
  rw [show i.toNat + (j - i).toNat = j.toNat by omega] at this
  omega
theorem LOK.bel0 (h : LOK x T) {j : Int} (h0 : 0 ≤ j) (h2 : j ≤ Lz_end x) : j ≤ Lz_lengthsBelow x j.toNat ∧ Lz_lengthsBelow x j.toNat ≤ 40 * j := by
  have := h.bel (i := 0) (by omega) h0 h2
  have e : Lz_lengthsBelow x (0 : Int).toNat = 0 := h.2.1.1
  rw [e] at this
  omega
theorem LOK.len (h : LOK x T) : 0 ≤ Lz_length x ∧ Lz_length x ≤ 8000 := by
  have h1 := h.bel (i := Lz_first x) (j := Lz_end x) h.1.1 h.1.2.1 (by omega)
  have h2 := h.2.1.2.2
  have h3 := h.1
  omega
theorem LOK.stl (h : LOK x T) : ∀ (n j : Nat), ((j + n : Nat) : Int) < Lz_begun x → Lz_starts x j + n ≤ Lz_starts x (j + n) := by
  intro n
  induction n with
  | zero => intro j _; simp
  | succ n ih =>
    intro j hj
    have h1 := ih j (by omega)
    have h2 := (h.2.2.2.1 (by omega)).2.2.2.1 (j + n) (by omega)
    rw [show j + (n + 1) = j + n + 1 by omega]
    omega
/-- starts grow -/
theorem LOK.st (h : LOK x T) {i j : Int} (h0 : 0 ≤ i) (h1 : i ≤ j) (h2 : j < Lz_begun x) : Lz_starts x i.toNat + (j - i) ≤ Lz_starts x j.toNat := by
  have := h.stl (j - i).toNat i.toNat (by omega)
  rw [show i.toNat + (j - i).toNat = j.toNat by omega] at this
  omega
theorem LOK.st_end (h : LOK x T) {j : Int} (h0 : 0 ≤ j) (h2 : j < Lz_begun x) : j ≤ Lz_starts x j.toNat ∧ Lz_starts x j.toNat < Lz_end x := by
  have h3 := h.st h0 (j := Lz_begun x - 1) (by omega) (by omega)
  have h4 := h.st (i := 0) (j := j) (by omega) h0 h2
  have h5 := h.2.2.2.1 (by omega)
  have e : Lz_starts x (0 : Int).toNat = 0 := h5.2.1
  rw [e] at h4
  omega
/-- where the segment behind begins -/
def lnx (x : LZ) (j : Int) : Int := if j + 1 < Lz_begun x then Lz_starts x (j + 1).toNat else Lz_end x
theorem LOK.nx1 (h : LOK x T) {j : Int} (h0 : 0 ≤ j) (h2 : j < Lz_begun x) : Lz_starts x j.toNat < lnx x j ∧ lnx x j ≤ Lz_end x := by
  unfold lnx
  split
  · have h3 := h.st h0 (j := j + 1) (by omega) (by omega)
    have h4 := h.st_end (j := j + 1) (by omega) (by omega)
    omega
  · have h4 := h.st_end h0 h2
    omega
theorem LOK.seg (h : LOK x T) {i : Int} (h1 : Lz_first x ≤ i) (h2 : i < Lz_end x) : ∃ j : Int, Lz_dropped x ≤ j ∧ j < Lz_begun x ∧ Lz_starts x j.toNat ≤ i ∧ i < lnx x j := by
  have hb : 0 < Lz_begun x := by
    rcases Int.lt_or_le 0 (Lz_begun x) with q | q
    · exact q
    · have := h.2.2.1 (by have := h.1; omega)
      have := h.1
      omega
  have h5 := h.2.2.2.1 hb
  have key : ∀ n : Nat, ∀ j : Int, j + n + 1 = Lz_begun x → Lz_dropped x ≤ j → Lz_starts x j.toNat ≤ i → ∃ j : Int, Lz_dropped x ≤ j ∧ j < Lz_begun x ∧ Lz_starts x j.toNat ≤ i ∧ i < lnx x j := by
    intro n
    induction n with
    | zero =>
      intro j hj hd hs
      refine ⟨j, hd, by omega, hs, ?_⟩
      unfold lnx
      rw [if_neg (by omega)]
      exact h2
    | succ n ih =>
      intro j hj hd hs
      rcases Int.lt_or_le i (Lz_starts x (j + 1).toNat) with q | q
      · refine ⟨j, hd, by omega, hs, ?_⟩
        unfold lnx
        rw [if_pos (by omega)]
        exact q
      · exact ih (j + 1) (by omega) (by omega) q
  exact key (Lz_begun x - 1 - Lz_dropped x).toNat (Lz_dropped x) (by omega) (by omega) (by omega)
theorem q_segments {Q : Int → Prop} (h : LOK x T) (k : Q (Lz_begun x - Lz_dropped x)) : Z_L_segments x Q := ⟨by have := h.1; omega, k⟩
theorem q_startOf {i : Int} {Q : Int → Prop} (h : LOK x T) (h0 : 0 ≤ i) (h1 : i ≤ 400) (k1 : Lz_dropped x + i < Lz_begun x → Q (Lz_starts x (Lz_dropped x + i).toNat)) (k2 : ¬ Lz_dropped x + i < Lz_begun x → Q (Lz_end x)) : Z_L_startOf i x Q := by
  have h3 := h.1
  refine ⟨by omega, fun c => absurd c (by omega), fun c => ⟨fun c2 => k2 (by omega), fun c2 => ⟨fun c3 => absurd c3 (by omega), fun c3 => ⟨by omega, k1 (by omega)⟩⟩⟩⟩
theorem q_endOf {i : Int} {Q : Int → Prop} (h : LOK x T) (h0 : 0 ≤ i) (h1 : i < Lz_begun x - Lz_dropped x) (k : Q (lnx x (Lz_dropped x + i))) : Z_L_endOf i x Q := by
  have h3 := h.1
  refine ⟨by omega, q_startOf h (by omega) (by omega) (fun c => ?_) (fun c => ?_)⟩
  · unfold lnx at k
    rw [if_pos (by omega), show Lz_dropped x + i + 1 = Lz_dropped x + (i + 1) by omega] at k
    exact k
  · unfold lnx at k
    rw [if_neg (by omega)] at k
    exact k
theorem q_lengthOf {a b : Int} {Q : Int → Prop} (h : LOK x T) (h0 : 0 ≤ a) (h1 : a ≤ Lz_end x) (h2 : 0 ≤ b) (h3 : b ≤ Lz_end x) (k : Q (Lz_lengthsBelow x b.toNat - Lz_lengthsBelow x a.toNat)) : Z_L_lengthOf a b x Q := by
  have h4 := h.bel0 h0 h1
  have h5 := h.bel0 h2 h3
  have h6 := h.1
  exact q_at (by decide) h2 (by omega) (q_at (by decide) h0 (by omega) ⟨by omega, k⟩)
/-- the length of the rows from a place on -/
def lenFrom (x : LZ) (p : Int) : Int := if p ≤ Lz_first x then Lz_length x else Lz_lengthsBelow x (Lz_end x).toNat - Lz_lengthsBelow x p.toNat
theorem q_lengthFrom {p : Int} {Q : Int → Prop} (h : LOK x T) (h1 : p ≤ Lz_end x) (k : Q (lenFrom x p)) : Z_L_lengthFrom p x Q := by
  have h3 := h.1
  unfold lenFrom at k
  refine ⟨fun c => ?_, fun c => ?_⟩
  · rw [if_pos c] at k
    exact k
  · rw [if_neg c] at k
    have h4 := h.bel0 (j := p) (by omega) h1
    have h5 := h.bel0 (j := Lz_end x) (by omega) (by omega)
    exact q_at (by decide) (by omega) (by omega) (q_at (by decide) (by omega) (by omega) ⟨by omega, k⟩)
theorem q_startAround {i j : Int} {Q : Int → Prop} (h : LOK x T) (h1 : Lz_dropped x ≤ j) (h2 : j < Lz_begun x) (h3 : Lz_starts x j.toNat ≤ i) (h4 : i < lnx x j) (k : Q (Lz_starts x j.toNat)) : Z_L_startAround i x Q := by
  have h5 := h.1
  have h6 := h.2.2.2.1 (by omega)
  have key : ∀ (n : Nat) (m : Int), m + n = j - Lz_dropped x + 1 → 0 ≤ m → ∀ y2 : Int, (0 < m → y2 = Lz_starts x (Lz_dropped x + m - 1).toNat) → ZL_L_startAround_7 (n + 1) i x i y2 m Q := by
    intro n
    induction n with
    | zero =>
      intro m hm h0 y2 hy
      have ey := hy (by omega)
      rw [show Lz_dropped x + m - 1 = j by omega] at ey
      subst ey
      rw [ZL_L_startAround_7]
      refine q_segments h ⟨fun c => k, fun c => ?_⟩
      refine q_startOf h h0 (by omega) (fun c2 => ⟨fun _ => k, fun c3 => ?_⟩) (fun c2 => absurd c2 (by omega))
      unfold lnx at h4
      rw [if_pos (by omega)] at h4
      rw [show Lz_dropped x + m = j + 1 by omega] at c3
      omega
    | succ n ih =>
      intro m hm h0 y2 hy
      rw [ZL_L_startAround_7]
      refine q_segments h ⟨fun c => absurd c (by omega), fun c => ?_⟩
      have hs := h.st (i := Lz_dropped x + m) (j := j) (by omega) (by omega) h2
      refine q_startOf h h0 (by omega) (fun c2 => ⟨fun c3 => absurd c3 (by omega), fun c3 => ?_⟩) (fun c2 => absurd c2 (by omega))
      refine q_startOf h h0 (by omega) (fun c2 => ⟨by omega, ?_⟩) (fun c2 => absurd c2 (by omega))
      refine ih (m + 1) (by omega) (by omega) _ (fun _ => ?_)
      rw [show Lz_dropped x + (m + 1) - 1 = Lz_dropped x + m by omega]
  exact ⟨_, key (j - Lz_dropped x + 1).toNat 0 (by omega) (by omega) _ (fun c => absurd c (by omega))⟩
/-- what is told, row by row -/
def toldFn (K V : Nat → Int) (key : Int) : Nat → Int → Int → Int
  | 0, v, _ => v
  | n + 1, v, i => toldFn K V key n (if K i.toNat = key then V i.toNat else v) (i + 1)
def toldX (x : LZ) (key row : Int) : Int := toldFn (Lz_keys x) (Lz_values x) key (row - Lz_first x).toNat (Lz_dropValues x key.toNat) (Lz_first x)
theorem q_toldForwards {key row : Int} {Q : Int → Prop} (h : LOK x T) (h0 : 0 ≤ key) (h1 : key < 8) (h2 : Lz_first x ≤ row) (h3 : row ≤ Lz_end x) (k : Q (toldX x key row)) : Z_L_toldForwards key row x Q := by
  have h5 := h.1
  have key2 : ∀ (n : Nat) (i v : Int), i + n = row → 0 ≤ i → Q (toldFn (Lz_keys x) (Lz_values x) key n v i) → ZL_L_toldForwards_15 (n + 1) key row x key row v i Q := by
    intro n
    induction n with
    | zero =>
      intro i v hi h0 kk
      rw [ZL_L_toldForwards_15]
      exact ⟨fun _ => kk, fun c => absurd c (by omega)⟩
    | succ n ih =>
      intro i v hi h0 kk
      rw [ZL_L_toldForwards_15]
      refine ⟨fun c => absurd c (by omega), fun c => q_at (by decide) h0 (by omega) ⟨fun c2 => ⟨by omega, ih (i + 1) v (by omega) (by omega) ?_⟩, fun c2 => q_at (by decide) h0 (by omega) ⟨by omega, ih (i + 1) _ (by omega) (by omega) ?_⟩⟩⟩
      · unfold toldFn at kk
        rw [if_neg c2] at kk
        exact kk
      · unfold toldFn at kk
        rw [if_pos c2] at kk
        exact kk
  exact q_at (by decide) h0 (by omega) ⟨_, key2 (row - Lz_first x).toNat (Lz_first x) _ (by omega) (by omega) k⟩
/-- told backwards -/
def backFn (K V : Nat → Int) (key b : Int) : Nat → Int → Int
  | 0, _ => b
  | n + 1, i => if K i.toNat = key then V i.toNat else backFn K V key b n (i - 1)
def backX (x : LZ) (key row : Int) : Int := backFn (Lz_keys x) (Lz_values x) key (Lz_dropValues x key.toNat) (row - Lz_first x).toNat (row - 1)
theorem q_toldBackwards {key row : Int} {Q : Int → Prop} (h : LOK x T) (h0 : 0 ≤ key) (h1 : key < 8) (h2 : Lz_first x ≤ row) (h3 : row ≤ Lz_end x) (k : Q (backX x key row)) : Z_L_toldBackwards key row x Q := by
  have h5 := h.1
  have key2 : ∀ (n : Nat) (i : Int), i + 1 = Lz_first x + n → i < Lz_end x → Q (backFn (Lz_keys x) (Lz_values x) key (Lz_dropValues x key.toNat) n i) → ZL_L_toldBackwards_4 (n + 1) key row x key i Q := by
    intro n
    induction n with
    | zero =>
      intro i hi h0 kk
      rw [ZL_L_toldBackwards_4]
      exact ⟨fun _ => q_at (by decide) (by omega) (by omega) kk, fun c => absurd c (by omega)⟩
    | succ n ih =>
      intro i hi h0 kk
      rw [ZL_L_toldBackwards_4]
      unfold backFn at kk
      refine ⟨fun c => absurd c (by omega), fun c => q_at (by decide) (by omega) (by omega) ⟨fun c2 => ⟨by omega, ih (i + -1) (by omega) (by omega) ?_⟩, fun c2 => q_at (by decide) (by omega) (by omega) ?_⟩⟩
      · rw [if_neg c2] at kk
        exact kk
      · rw [if_pos c2] at kk
        exact kk
  exact ⟨_, by omega, key2 (row - Lz_first x).toNat (row - 1) (by omega) (by omega) k⟩
end PL
