/-! ### the state of the class -/
def ROK (σ : SZ) (T : Int) (r : RZ) : Prop :=
  (Rz_present r = 0 ∨ Rz_present r = 1) ∧ (Rz_hasLeft r = 0 ∨ Rz_hasLeft r = 1) ∧ (Rz_held r = 0 ∨ Rz_held r = 1) ∧ (Rz_held r = 1 → Rz_present r = 1 ∧ Lz_first (Sz_log σ) ≤ Rz_place r) ∧
  (Rz_present r = 1 ∨ Rz_hasLeft r = 1 → 0 ≤ Rz_place r ∧ Rz_place r ≤ Lz_end (Sz_log σ)) ∧
  (Rz_present r = 1 → 0 ≤ Rz_readSoFar r ∧ Rz_readSoFar r ≤ 200 * T ∧ 0 ≤ Rz_missedSoFar r ∧ Rz_missedSoFar r ≤ 200 * T ∧ 0 ≤ Rz_lastRead r ∧ Rz_lastRead r ≤ Sz_time σ)
def SetOK (s : Nat → Int) : Prop := (1 ≤ s 0 ∧ s 0 ≤ 8) ∧ (40 ≤ s 1 ∧ s 1 ≤ 200) ∧ (0 ≤ s 2 ∧ s 2 ≤ 99) ∧ (0 ≤ s 3 ∧ s 3 ≤ 4000) ∧ (0 ≤ s 4 ∧ s 4 ≤ 4000) ∧ (0 ≤ s 5 ∧ s 5 ≤ 99)
/-- T: a bound of the time -/
def SOK (σ : SZ) (T : Int) : Prop :=
  LOK (Sz_log σ) (Sz_time σ) ∧ (0 ≤ Sz_time σ ∧ Sz_time σ ≤ T ∧ 0 ≤ Sz_lostByLength σ ∧ Sz_lostByLength σ ≤ 8 * T ∧ 0 ≤ Sz_lostBySleep σ ∧ Sz_lostBySleep σ ≤ 8 * T ∧ 0 ≤ Sz_missed σ ∧ Sz_missed σ ≤ 200 * T ∧ T ≤ 5000000) ∧ SetOK (Sz_settings σ) ∧ (∀ n : Nat, n < 8 → ROK σ T (Sz_readers σ n))
def sumN (f : Nat → Int) : Nat → Int
  | 0 => 0
  | n + 1 => sumN f n + f n
theorem sumN_in {f : Nat → Int} : ∀ n : Nat, (∀ i : Nat, i < n → 0 ≤ f i ∧ f i ≤ 1) → 0 ≤ sumN f n ∧ sumN f n ≤ n := by
  intro n
  induction n with
  | zero => intro _; exact ⟨Int.le_refl 0, Int.le_refl 0⟩
  | succ n ih =>
    intro h
    have h1 := ih (fun i hi => h i (by omega))
    have h2 := h n (by omega)
    show 0 ≤ sumN f n + f n ∧ sumN f n + f n ≤ _
    omega
theorem sumN_congr {f g : Nat → Int} : ∀ n : Nat, (∀ i : Nat, i < n → f i = g i) → sumN f n = sumN g n := by
  intro n
  induction n with
  | zero => intro _; rfl
  | succ n ih =>
    intro h
    show sumN f n + f n = sumN g n + g n
    rw [ih (fun i hi => h i (by omega)), h n (by omega)]
abbrev isR (σ : SZ) (a : Int) : Prop := (0 ≤ a ∧ a < 8) ∧ Rz_present (Sz_readers σ a.toNat) = 1
abbrev hz (σ : SZ) (row : Int) (n : Nat) : Int := if Rz_held (Sz_readers σ n) = 1 ∧ Rz_place (Sz_readers σ n) ≤ row then 1 else 0
def holders (σ : SZ) (row : Int) : Int := sumN (hz σ row) 8
abbrev cz (σ : SZ) (n : Nat) : Int := if Rz_present (Sz_readers σ n) = 1 then 1 else 0
def readersN (σ : SZ) : Int := sumN (cz σ) 8
abbrev gz (σ : SZ) (n : Nat) : Int := if Rz_present (Sz_readers σ n) = 1 ∧ Rz_place (Sz_readers σ n) < Lz_first (Sz_log σ) then 1 else 0
abbrev dueS (σ : SZ) (row : Int) : Prop := Sz_settings σ 3 < Lz_length (Sz_log σ) ∨ (0 < Sz_settings σ 2 ∧ Sz_settings σ 2 ≤ Sz_time σ - Lz_times (Sz_log σ) row.toNat)
def whyS (σ : SZ) : Int :=
  if Lz_begun (Sz_log σ) - Lz_dropped (Sz_log σ) < 2 then 1 else
  if ¬ dueS σ (lnx (Sz_log σ) (Lz_dropped (Sz_log σ)) - 1) then 2 else
  if 0 < holders σ (lnx (Sz_log σ) (Lz_dropped (Sz_log σ)) - 1) then 3 else 0
section PS
variable {σ : SZ} {T : Int}
theorem q_named {a : Int} {Q : Option Nat → Prop} (h1 : ∀ i : Nat, a = i → i < 8 → Q (some i)) (h0 : ¬ (0 ≤ a ∧ a < 8) → Q none) : Z_S_named a σ Q :=
  ⟨fun c => h0 (by omega), fun c => ⟨fun c2 => h0 (by omega), fun c2 => ⟨⟨by omega, by omega⟩, h1 a.toNat (by omega) (by omega)⟩⟩⟩
theorem q_reader {a : Int} {Q : Option Nat → Prop} (h : SOK σ T) (h1 : ∀ i : Nat, a = i → i < 8 → Rz_present (Sz_readers σ i) = 1 → Q (some i)) (h0 : ¬ isR σ a → Q none) : Z_S_reader a σ Q := by
  unfold Z_S_reader
  refine q_named (fun i hi hi8 => ⟨fun c => (nomatch c), fun j c => ?_⟩) (fun c => ⟨fun _ => h0 (fun q => c q.1), fun j c => (nomatch c)⟩)
  cases c
  subst hi
  have h2 := h.2.2.2 i hi8
  refine ⟨fun c => h0 (fun q => ?_), fun c => h1 i rfl hi8 (by rcases h2.1 with q | q <;> omega)⟩
  have q2 := q.2
  rw [show ((i : Int)).toNat = i by omega] at q2
  omega
theorem q_hasHold {a : Int} {Q : Int → Prop} (h : SOK σ T) (h1 : isR σ a ∧ Rz_held (Sz_readers σ a.toNat) = 1 → Q 1) (h0 : ¬ (isR σ a ∧ Rz_held (Sz_readers σ a.toNat) = 1) → Q 0) : Z_S_hasHold a σ Q := by
  unfold Z_S_hasHold
  refine q_reader h (fun i hi hi8 hp => ⟨fun c => (nomatch c), fun j c => ?_⟩) (fun c => ⟨fun _ => h0 (fun q => c q.1), fun j c => (nomatch c)⟩)
  cases c
  subst hi
  have h2 := (h.2.2.2 i hi8).2.2.1
  have e : ((i : Int)).toNat = i := by omega
  refine ⟨fun c => h0 (fun q => ?_), fun c => h1 ⟨⟨by omega, by rw [e]; exact hp⟩, by rw [e]; rcases h2 with q | q <;> omega⟩⟩
  have q2 := q.2
  rw [e] at q2
  omega
theorem q_hasGap {a : Int} {Q : Int → Prop} (h : SOK σ T) (h1 : isR σ a ∧ Rz_place (Sz_readers σ a.toNat) < Lz_first (Sz_log σ) → Q 1) (h0 : ¬ (isR σ a ∧ Rz_place (Sz_readers σ a.toNat) < Lz_first (Sz_log σ)) → Q 0) : Z_S_hasGap a σ Q := by
  unfold Z_S_hasGap
  refine q_reader h (fun i hi hi8 hp => ⟨fun c => (nomatch c), fun j c => ?_⟩) (fun c => ⟨fun _ => h0 (fun q => c q.1), fun j c => (nomatch c)⟩)
  cases c
  subst hi
  have e : ((i : Int)).toNat = i := by omega
  refine ⟨fun c => h0 (fun q => ?_), fun c => h1 ⟨⟨by omega, by rw [e]; exact hp⟩, by rw [e]; omega⟩⟩
  have q2 := q.2
  rw [e] at q2
  omega
theorem q_isAtLeastAt {a b : Int} {Q : Int → Prop} (h : SOK σ T) (h1 : isR σ a ∧ b ≤ Rz_place (Sz_readers σ a.toNat) → Q 1) (h0 : ¬ (isR σ a ∧ b ≤ Rz_place (Sz_readers σ a.toNat)) → Q 0) : Z_S_isAtLeastAt a b σ Q := by
  unfold Z_S_isAtLeastAt
  refine q_reader h (fun i hi hi8 hp => ⟨fun c => (nomatch c), fun j c => ?_⟩) (fun c => ⟨fun _ => h0 (fun q => c q.1), fun j c => (nomatch c)⟩)
  cases c
  subst hi
  have e : ((i : Int)).toNat = i := by omega
  refine ⟨fun c => h0 (fun q => ?_), fun c => h1 ⟨⟨by omega, by rw [e]; exact hp⟩, by rw [e]; omega⟩⟩
  have q2 := q.2
  rw [e] at q2
  omega
theorem q_readerCount {Q : Int → Prop} (h : SOK σ T) (k : Q (readersN σ)) : Z_S_readerCount σ Q := by
  have key : ∀ (n i : Nat), i + n = 8 → ZL_S_readerCount_4 (n + 1) σ (sumN (cz σ) i) i Q := by
    intro n
    induction n with
    | zero =>
      intro i hi
      rw [ZL_S_readerCount_4]
      have e : i = 8 := by omega
      subst e
      exact ⟨fun _ => k, fun c => absurd c (by omega)⟩
    | succ n ih =>
      intro i hi
      rw [ZL_S_readerCount_4]
      have hb := sumN_in (f := cz σ) i (fun j _ => by show 0 ≤ (if _ then _ else _ : Int) ∧ (if _ then _ else _ : Int) ≤ 1; split <;> omega)
      refine ⟨fun c => absurd c (by omega), fun _ => ?_⟩
      have h9 := ih (i + 1) (by omega)
      refine q_reader h (fun j hj hj8 hp => ⟨fun c => (nomatch c), fun m c => ?_⟩) (fun c => ⟨fun _ => ?_, fun m c => (nomatch c)⟩)
      · cases c
        have e : i = j := by omega
        subst e
        refine q_asNumber (fun c => absurd c (by omega)) (fun _ => ⟨by omega, by omega, ?_⟩)
        have e2 : cz σ i = 1 := if_pos hp
        have e3 : sumN (cz σ) (i + 1) = sumN (cz σ) i + 1 := by rw [← e2]; rfl
        rw [e3] at h9
        exact h9
      · refine q_asNumber (fun _ => ⟨by omega, by omega, ?_⟩) (fun c => absurd rfl c)
        have e2 : cz σ i = 0 := if_neg (fun q => c ⟨by omega, by rw [show ((i : Int)).toNat = i by omega]; exact q⟩)
        have e3 : sumN (cz σ) (i + 1) = sumN (cz σ) i + 0 := by rw [← e2]; rfl
        rw [e3] at h9
        exact h9
  exact ⟨_, key 8 0 rfl⟩
theorem q_gapCount {Q : Int → Prop} (h : SOK σ T) (k : Q (sumN (gz σ) 8)) : Z_S_gapCount σ Q := by
  have key : ∀ (n i : Nat), i + n = 8 → ZL_S_gapCount_4 (n + 1) σ (sumN (gz σ) i) i Q := by
    intro n
    induction n with
    | zero =>
      intro i hi
      rw [ZL_S_gapCount_4]
      have e : i = 8 := by omega
      subst e
      exact ⟨fun _ => k, fun c => absurd c (by omega)⟩
    | succ n ih =>
      intro i hi
      rw [ZL_S_gapCount_4]
      have hb := sumN_in (f := gz σ) i (fun j _ => by show 0 ≤ (if _ then _ else _ : Int) ∧ (if _ then _ else _ : Int) ≤ 1; split <;> omega)
      refine ⟨fun c => absurd c (by omega), fun _ => ?_⟩
      have h9 := ih (i + 1) (by omega)
      have e0 : ((i : Int)).toNat = i := by omega
      refine q_hasGap h (fun c => ?_) (fun c => ?_)
      · refine q_asNumber (fun c => absurd c (by omega)) (fun _ => ⟨by omega, by omega, ?_⟩)
        rw [e0] at c
        have e2 : gz σ i = 1 := if_pos ⟨by have := c.1.2; rw [e0] at this; exact this, c.2⟩
        have e3 : sumN (gz σ) (i + 1) = sumN (gz σ) i + 1 := by rw [← e2]; rfl
        rw [e3] at h9
        exact h9
      · refine q_asNumber (fun _ => ⟨by omega, by omega, ?_⟩) (fun c => absurd rfl c)
        rw [e0] at c
        have e2 : gz σ i = 0 := if_neg (fun q => c ⟨⟨by omega, by rw [e0]; exact q.1⟩, q.2⟩)
        have e3 : sumN (gz σ) (i + 1) = sumN (gz σ) i + 0 := by rw [← e2]; rfl
        rw [e3] at h9
        exact h9
  exact ⟨_, key 8 0 rfl⟩
theorem holders_in {row : Int} : 0 ≤ holders σ row ∧ holders σ row ≤ 8 := sumN_in 8 (fun j _ => by show 0 ≤ (if _ then _ else _ : Int) ∧ (if _ then _ else _ : Int) ≤ 1; split <;> omega)
theorem q_holdersUpTo {row : Int} {Q : Int → Prop} (h : SOK σ T) (k : Q (holders σ row)) : Z_S_holdersUpTo row σ Q := by
  have key : ∀ (n i : Nat), i + n = 8 → ZL_S_holdersUpTo_4 (n + 1) row σ row (sumN (hz σ row) i) i Q := by
    intro n
    induction n with
    | zero =>
      intro i hi
      rw [ZL_S_holdersUpTo_4]
      have e : i = 8 := by omega
      subst e
      exact ⟨fun _ => k, fun c => absurd c (by omega)⟩
    | succ n ih =>
      intro i hi
      rw [ZL_S_holdersUpTo_4]
      have hb := sumN_in (f := hz σ row) i (fun j _ => by show 0 ≤ (if _ then _ else _ : Int) ∧ (if _ then _ else _ : Int) ≤ 1; split <;> omega)
      have h9 := ih (i + 1) (by omega)
      have e0 : ((i : Int)).toNat = i := by omega
      have hr := (h.2.2.2 i (by omega)).2.2.1
      refine ⟨fun c => absurd c (by omega), fun _ => ⟨⟨by omega, by omega⟩, ?_⟩⟩
      rw [e0]
      refine ⟨fun c => ?_, fun c => ⟨fun c2 => ?_, fun c2 => ?_⟩⟩
      · refine q_asNumber (fun _ => ⟨by omega, by omega, ?_⟩) (fun c => absurd rfl c)
        have e2 : hz σ row i = 0 := if_neg (fun q => by omega)
        have e3 : sumN (hz σ row) (i + 1) = sumN (hz σ row) i + 0 := by rw [← e2]; rfl
        rw [e3] at h9
        exact h9
      · refine q_asNumber (fun _ => ⟨by omega, by omega, ?_⟩) (fun c => absurd rfl c)
        have e2 : hz σ row i = 0 := if_neg (fun q => by omega)
        have e3 : sumN (hz σ row) (i + 1) = sumN (hz σ row) i + 0 := by rw [← e2]; rfl
        rw [e3] at h9
        exact h9
      · refine q_asNumber (fun c => absurd c (by omega)) (fun _ => ⟨by omega, by omega, ?_⟩)
        have e2 : hz σ row i = 1 := if_pos ⟨by rcases hr with q | q <;> omega, by omega⟩
        have e3 : sumN (hz σ row) (i + 1) = sumN (hz σ row) i + 1 := by rw [← e2]; rfl
        rw [e3] at h9
        exact h9
  exact ⟨_, key 8 0 rfl⟩
theorem q_isDue {row : Int} {Q : Int → Prop} (h : SOK σ T) (h0 : 0 ≤ row) (h2 : row < Lz_end (Sz_log σ)) (k1 : dueS σ row → Q 1) (k0 : ¬ dueS σ row → Q 0) : Z_S_isDue row σ Q := by
  have h3 := h.1.1
  have h4 := h.1.2.2.2.2.1 row.toNat (by omega)
  have h5 := h.2.1
  refine q_at (by decide) (by omega) (by omega) (q_at (by decide) (by omega) (by omega) ⟨fun c => k1 (Or.inl c), fun c => ⟨fun c2 => k0 (fun q => ?_), fun c2 => q_at (by decide) h0 (by omega) ⟨by omega, fun c3 => k0 (fun q => ?_), fun c3 => k1 (Or.inr ⟨?_, ?_⟩)⟩⟩⟩)
  · rcases q with q | q
    · exact c q
    · have : ¬ 0 < Sz_settings σ 2 := by
        intro q2
        have c2 : Sz_settings σ 2 ≤ 0 := c2
        omega
      exact this q.1
  · rcases q with q | q
    · exact c q
    · have c3 : Sz_time σ - Lz_times (Sz_log σ) row.toNat < Sz_settings σ 2 := c3
      omega
  · have c2 : ¬ Sz_settings σ 2 ≤ 0 := c2
    omega
  · have c3 : ¬ Sz_time σ - Lz_times (Sz_log σ) row.toNat < Sz_settings σ 2 := c3
    omega
theorem q_firstStays {Q : Int → Prop} (h : SOK σ T) (k : Q (whyS σ)) : Z_S_firstStays σ Q := by
  have h3 := h.1.1
  unfold whyS at k
  refine q_segments h.1 ⟨fun c => ?_, fun c => ?_⟩
  · rw [if_neg (by omega)] at k
    have h6 := h.1.nx1 (j := Lz_dropped (Sz_log σ)) (by omega) (by omega)
    have h7 := h.1.st_end (j := Lz_dropped (Sz_log σ)) (by omega) (by omega)
    refine q_endOf h.1 (by omega) (by omega) ?_
    rw [show Lz_dropped (Sz_log σ) + 0 = Lz_dropped (Sz_log σ) by omega]
    refine ⟨by omega, q_isDue h (by omega) (by omega) (fun c2 => ⟨fun _ => ?_, fun c3 => absurd c3 (by omega)⟩) (fun c2 => ⟨fun c3 => absurd rfl c3, fun _ => ?_⟩)⟩
    · rw [if_neg (fun q => q c2)] at k
      refine q_holdersUpTo h ⟨fun c3 => ?_, fun c3 => ?_⟩
      · rw [if_neg (by omega)] at k
        exact k
      · rw [if_pos (by omega)] at k
        exact k
    · rw [if_pos c2] at k
      exact k
  · rw [if_pos (by omega)] at k
    exact k
/-- a hold is lost by length; by sleep -/
def loseL (σ : SZ) (e : Nat) : SZ :=
  let a := Sz_seti_readers σ e (Rz_set_lostBy (Sz_readers σ e) 1)
  let b := Sz_set_lostByLength a (Sz_lostByLength a + 1)
  Sz_seti_readers b e (Rz_set_held (Sz_readers b e) 0)
def loseT (σ : SZ) (e : Nat) : SZ :=
  let a := Sz_seti_readers σ e (Rz_set_lostBy (Sz_readers σ e) 2)
  let b := Sz_set_lostBySleep a (Sz_lostBySleep a + 1)
  Sz_seti_readers b e (Rz_set_held (Sz_readers b e) 0)
def chk (σ : SZ) (e : Nat) : SZ :=
  if Rz_held (Sz_readers σ e) = 1 then
    if 0 < Sz_settings σ 4 ∧ Sz_settings σ 4 < lenFrom (Sz_log σ) (Rz_place (Sz_readers σ e)) then loseL σ e else
    if 0 < Sz_settings σ 5 ∧ Sz_settings σ 5 ≤ Sz_time σ - Rz_lastRead (Sz_readers σ e) then loseT σ e else σ
  else σ
theorem q_checkHold {e : Nat} {Q : SZ → Prop} (h : SOK σ T) (he : e < 8) (k : Q (chk σ e)) : Z_S_checkHold (some e) σ Q := by
  have h2 := h.2.1
  have h3 := h.2.2.2 e he
  unfold Z_S_checkHold
  refine ⟨fun c => (nomatch c), fun j c => ?_⟩
  cases c
  unfold chk at k
  refine ⟨fun c => ?_, fun c => ?_⟩
  · have hh : Rz_held (Sz_readers σ e) = 1 := by rcases h3.2.2.1 with q | q <;> omega
    have hp := h3.2.2.2.1 hh
    have h5 := h3.2.2.2.2.1 (Or.inl hp.1)
    have h6 := h3.2.2.2.2.2 hp.1
    rw [if_pos hh] at k
    have hJ : ¬ (0 < Sz_settings σ 4 ∧ Sz_settings σ 4 < lenFrom (Sz_log σ) (Rz_place (Sz_readers σ e))) → ZJ_S_checkHold_67 (some e) e (Sz_settings σ 5) σ Q := by
      intro c4
      rw [if_neg c4] at k
      unfold ZJ_S_checkHold_67
      refine ⟨fun c5 => ?_, fun c5 => ⟨by omega, fun c6 => ?_, fun c6 => ?_⟩⟩
      · rw [if_neg (by omega)] at k
        exact k
      · rw [if_neg (by omega)] at k
        exact k
      · rw [if_pos (by omega)] at k
        rintro _ rfl
        refine ⟨by show -2147483648 ≤ Sz_lostBySleep σ + 1 ∧ Sz_lostBySleep σ + 1 < 2147483648; omega, ?_⟩
        rintro _ rfl _ rfl
        exact k
    refine q_at (by decide) (by omega) (by omega) (q_at (by decide) (by omega) (by omega) ⟨fun c2 => hJ (fun q => ?_), fun c2 => ?_⟩)
    · have c2 : Sz_settings σ 4 ≤ 0 := c2
      omega
    · have c2 : ¬ Sz_settings σ 4 ≤ 0 := c2
      refine q_lengthFrom h.1 h5.2 ⟨fun c3 => hJ (fun q => ?_), fun c3 => ?_⟩
      · have c3 : lenFrom (Sz_log σ) (Rz_place (Sz_readers σ e)) ≤ Sz_settings σ 4 := c3
        omega
      · have c3 : ¬ lenFrom (Sz_log σ) (Rz_place (Sz_readers σ e)) ≤ Sz_settings σ 4 := c3
        rw [if_pos (by omega)] at k
        rintro _ rfl
        refine ⟨by show -2147483648 ≤ Sz_lostByLength σ + 1 ∧ Sz_lostByLength σ + 1 < 2147483648; omega, ?_⟩
        rintro _ rfl _ rfl
        exact k
  · rw [if_neg (by omega)] at k
    exact k
end PS
