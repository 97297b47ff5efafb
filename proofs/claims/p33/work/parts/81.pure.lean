/-! ### what changes the log of the class -/
abbrev opens (x : LZ) (len s0 s1 : Int) : Prop := Lz_begun x = 0 ∨ s0 ≤ Lz_end x - Lz_starts x (Lz_begun x - 1).toNat ∨ s1 < Lz_lengthsBelow x (Lz_end x).toNat - Lz_lengthsBelow x (Lz_starts x (Lz_begun x - 1).toNat).toNat + len
def openX (x : LZ) : LZ := Lz_set_begun (Lz_set_starts x (updz (Lz_starts x) (Lz_begun x).toNat (Lz_end x))) (Lz_begun x + 1)
def addX (x : LZ) (key val len time : Int) : LZ :=
  (updz (Lz_keys x) (Lz_end x).toNat key, updz (Lz_values x) (Lz_end x).toNat val, updz (Lz_times x) (Lz_end x).toNat time, updz (Lz_lengthsBelow x) (Lz_end x + 1).toNat (Lz_lengthsBelow x (Lz_end x).toNat + len), Lz_starts x, Lz_dropValues x, Lz_first x, Lz_end x + 1, Lz_length x + len, Lz_begun x, Lz_dropped x)
section PL2
variable {x : LZ} {T : Int}
theorem q_mkRoom {len s0 s1 : Int} {Q : LZ → Prop} (h : LOK x T) (hl : 0 ≤ len ∧ len ≤ 40) (he : Lz_end x < 200) (k1 : opens x len s0 s1 → Q (openX x)) (k0 : ¬ opens x len s0 s1 → Q x) : Z_L_makeRoomFor len s0 s1 x Q := by
  have h5 := h.1
  have hj : opens x len s0 s1 → ZJ_L_makeRoomFor_49 len s0 s1 x Q := by
    intro c
    unfold ZJ_L_makeRoomFor_49
    refine q_put (by decide) (by omega) (by omega) ?_
    rintro _ rfl
    refine ⟨by show -2147483648 ≤ Lz_begun x + 1 ∧ Lz_begun x + 1 < 2147483648; omega, ?_⟩
    rintro _ rfl
    exact k1 c
  unfold Z_L_makeRoomFor
  refine ⟨by omega, ?_⟩
  by_cases hb : Lz_begun x = 0
  · refine q_at_out (by decide) (by omega) ⟨fun _ => hj (Or.inl hb), fun c => absurd hb c⟩
  · have h6 := h.2.2.2.1 (by omega)
    have h7 := h.st_end (j := Lz_begun x - 1) (by omega) (by omega)
    refine q_at (by decide) (by omega) (by omega) ⟨fun c => absurd c hb, fun _ => ⟨by omega, fun c => hj (Or.inr (Or.inl c)), fun c => ?_⟩⟩
    refine q_lengthOf h (by omega) (by omega) (by omega) (by omega) ?_
    have h8 := h.bel0 (j := Lz_end x) (by omega) (by omega)
    have h9 := h.bel0 (j := Lz_starts x (Lz_begun x - 1).toNat) (by omega) (by omega)
    refine ⟨by omega, fun c2 => k0 (fun q => ?_), fun c2 => hj (Or.inr (Or.inr (by omega)))⟩
    rcases q with q | q | q <;> omega
theorem q_add {key val len time : Int} {Q : Int → LZ → Prop} (h1 : 0 ≤ Lz_end x) (h2 : Lz_end x < 200) (h3 : 0 ≤ Lz_lengthsBelow x (Lz_end x).toNat ∧ Lz_lengthsBelow x (Lz_end x).toNat ≤ 8000) (h4 : 0 ≤ Lz_length x ∧ Lz_length x ≤ 8000) (hl : 0 ≤ len ∧ len ≤ 40) (k : Q (Lz_end x) (addX x key val len time)) : Z_L_add key val len time x Q := by
  unfold Z_L_add
  refine q_put (by decide) h1 h2 ?_
  rintro _ rfl
  refine q_put (by decide) h1 h2 ?_
  rintro _ rfl
  refine q_put (by decide) h1 h2 ?_
  rintro _ rfl
  refine q_at (by decide) h1 (by omega) ?_
  refine ⟨by omega, by show -2147483648 ≤ Lz_lengthsBelow x (Lz_end x).toNat + len ∧ Lz_lengthsBelow x (Lz_end x).toNat + len < 2147483648; omega, ?_⟩
  refine q_put (by decide) (by omega) (by omega) ?_
  rintro _ rfl _ rfl
  refine ⟨by show -2147483648 ≤ Lz_length x + len ∧ Lz_length x + len < 2147483648; omega, ?_⟩
  rintro _ rfl
  exact k
def mk (x : LZ) (i : Int) : Prop := ∃ j : Int, 0 ≤ j ∧ j < Lz_begun x ∧ Lz_starts x j.toNat = i
theorem LOK.add {key val len time T' : Int} (h : LOK x T) (he : Lz_end x < 200) (hk : 0 ≤ key ∧ key < 8) (hv : 0 ≤ val ∧ val < 100) (hl : 1 ≤ len ∧ len ≤ 40) (ht : 0 ≤ time ∧ time ≤ T') (hT : T ≤ T') (hb : 0 < Lz_begun x) : LOK (addX x key val len time) T' := by
  obtain ⟨h1, ⟨h2, h3, h4⟩, h5, h6, h7, h8⟩ := h
  have h6' := h6 hb
  refine ⟨?_, ⟨?_, ?_, ?_⟩, ?_, ?_, ?_, h8⟩
  · show 0 ≤ Lz_first x ∧ Lz_first x ≤ Lz_end x + 1 ∧ Lz_end x + 1 ≤ 200 ∧ 0 ≤ Lz_dropped x ∧ Lz_dropped x ≤ Lz_begun x ∧ Lz_begun x ≤ Lz_end x + 1
    omega
  · show updz (Lz_lengthsBelow x) (Lz_end x + 1).toNat _ 0 = 0
    rw [updz_ne (by omega)]
    exact h2
  · intro i hi
    have hi : (i : Int) < Lz_end x + 1 := hi
    show 1 ≤ updz (Lz_lengthsBelow x) (Lz_end x + 1).toNat _ (i + 1) - updz (Lz_lengthsBelow x) (Lz_end x + 1).toNat _ i ∧ _
    by_cases q : (i : Int) = Lz_end x
    · have e : i + 1 = (Lz_end x + 1).toNat := by omega
      have e2 : i = (Lz_end x).toNat := by omega
      show 1 ≤ updz (Lz_lengthsBelow x) (Lz_end x + 1).toNat (Lz_lengthsBelow x (Lz_end x).toNat + len) (i + 1) - updz (Lz_lengthsBelow x) (Lz_end x + 1).toNat (Lz_lengthsBelow x (Lz_end x).toNat + len) i ∧ updz (Lz_lengthsBelow x) (Lz_end x + 1).toNat (Lz_lengthsBelow x (Lz_end x).toNat + len) (i + 1) - updz (Lz_lengthsBelow x) (Lz_end x + 1).toNat (Lz_lengthsBelow x (Lz_end x).toNat + len) i ≤ 40
      rw [e, updz_eq, updz_ne (by omega), ← e2]
      omega
    · have := h3 i (by omega)
      show 1 ≤ updz (Lz_lengthsBelow x) (Lz_end x + 1).toNat (Lz_lengthsBelow x (Lz_end x).toNat + len) (i + 1) - updz (Lz_lengthsBelow x) (Lz_end x + 1).toNat (Lz_lengthsBelow x (Lz_end x).toNat + len) i ∧ updz (Lz_lengthsBelow x) (Lz_end x + 1).toNat (Lz_lengthsBelow x (Lz_end x).toNat + len) (i + 1) - updz (Lz_lengthsBelow x) (Lz_end x + 1).toNat (Lz_lengthsBelow x (Lz_end x).toNat + len) i ≤ 40
      rw [updz_ne (by omega), updz_ne (by omega)]
      exact this
  · show Lz_length x + len = updz (Lz_lengthsBelow x) (Lz_end x + 1).toNat (Lz_lengthsBelow x (Lz_end x).toNat + len) (Lz_end x + 1).toNat - updz (Lz_lengthsBelow x) (Lz_end x + 1).toNat (Lz_lengthsBelow x (Lz_end x).toNat + len) (Lz_first x).toNat
    rw [updz_eq, updz_ne (by omega)]
    omega
  · intro c
    exact absurd c (by show ¬ Lz_begun x = 0; omega)
  · intro _
    refine ⟨h6'.1, h6'.2.1, h6'.2.2.1, h6'.2.2.2.1, ?_⟩
    show Lz_starts x (Lz_begun x - 1).toNat < Lz_end x + 1
    omega
  · intro i hi
    have hi : (i : Int) < Lz_end x + 1 := hi
    show 0 ≤ updz (Lz_keys x) (Lz_end x).toNat key i ∧ updz (Lz_keys x) (Lz_end x).toNat key i < 8 ∧ 0 ≤ updz (Lz_values x) (Lz_end x).toNat val i ∧ updz (Lz_values x) (Lz_end x).toNat val i < 100 ∧ 0 ≤ updz (Lz_times x) (Lz_end x).toNat time i ∧ updz (Lz_times x) (Lz_end x).toNat time i ≤ T'
    by_cases q : (i : Int) = Lz_end x
    · have e2 : i = (Lz_end x).toNat := by omega
      rw [e2, updz_eq, updz_eq, updz_eq]
      omega
    · rw [updz_ne (by omega), updz_ne (by omega), updz_ne (by omega)]
      have := h7 i (by omega)
      omega
/-- a new open segment, and then the row -/
theorem LOK.openAdd {key val len time T' : Int} (h : LOK x T) (he : Lz_end x < 200) (hk : 0 ≤ key ∧ key < 8) (hv : 0 ≤ val ∧ val < 100) (hl : 1 ≤ len ∧ len ≤ 40) (ht : 0 ≤ time ∧ time ≤ T') (hT : T ≤ T') : LOK (addX (openX x) key val len time) T' := by
  have hd : Lz_begun x = 0 → Lz_dropped x = 0 ∧ Lz_first x = 0 ∧ Lz_end x = 0 := by
    intro c
    have := h.2.2.1 c
    have := h.1
    omega
  have hst : ∀ j : Int, 0 ≤ j → j < Lz_begun x → Lz_starts x j.toNat < Lz_end x := fun j a b => (h.st_end a b).2
  obtain ⟨h1, ⟨h2, h3, h4⟩, h5, h6, h7, h8⟩ := h
  refine ⟨?_, ⟨?_, ?_, ?_⟩, ?_, ?_, ?_, h8⟩
  · show 0 ≤ Lz_first x ∧ Lz_first x ≤ Lz_end x + 1 ∧ Lz_end x + 1 ≤ 200 ∧ 0 ≤ Lz_dropped x ∧ Lz_dropped x ≤ Lz_begun x + 1 ∧ Lz_begun x + 1 ≤ Lz_end x + 1
    omega
  · show updz (Lz_lengthsBelow x) (Lz_end x + 1).toNat _ 0 = 0
    rw [updz_ne (by omega)]
    exact h2
  · intro i hi
    have hi : (i : Int) < Lz_end x + 1 := hi
    show 1 ≤ updz (Lz_lengthsBelow x) (Lz_end x + 1).toNat (Lz_lengthsBelow x (Lz_end x).toNat + len) (i + 1) - updz (Lz_lengthsBelow x) (Lz_end x + 1).toNat (Lz_lengthsBelow x (Lz_end x).toNat + len) i ∧ updz (Lz_lengthsBelow x) (Lz_end x + 1).toNat (Lz_lengthsBelow x (Lz_end x).toNat + len) (i + 1) - updz (Lz_lengthsBelow x) (Lz_end x + 1).toNat (Lz_lengthsBelow x (Lz_end x).toNat + len) i ≤ 40
    by_cases q : (i : Int) = Lz_end x
    · have e : i + 1 = (Lz_end x + 1).toNat := by omega
      have e2 : i = (Lz_end x).toNat := by omega
      rw [e, updz_eq, updz_ne (by omega), ← e2]
      omega
    · have := h3 i (by omega)
      rw [updz_ne (by omega), updz_ne (by omega)]
      exact this
  · show Lz_length x + len = updz (Lz_lengthsBelow x) (Lz_end x + 1).toNat (Lz_lengthsBelow x (Lz_end x).toNat + len) (Lz_end x + 1).toNat - updz (Lz_lengthsBelow x) (Lz_end x + 1).toNat (Lz_lengthsBelow x (Lz_end x).toNat + len) (Lz_first x).toNat
    rw [updz_eq, updz_ne (by omega)]
    omega
  · intro c
    exact absurd c (by show ¬ Lz_begun x + 1 = 0; omega)
  · intro _
    show Lz_dropped x < Lz_begun x + 1 ∧ updz (Lz_starts x) (Lz_begun x).toNat (Lz_end x) 0 = 0 ∧ updz (Lz_starts x) (Lz_begun x).toNat (Lz_end x) (Lz_dropped x).toNat = Lz_first x ∧ (∀ j : Nat, (j : Int) + 1 < Lz_begun x + 1 → updz (Lz_starts x) (Lz_begun x).toNat (Lz_end x) j < updz (Lz_starts x) (Lz_begun x).toNat (Lz_end x) (j + 1)) ∧ updz (Lz_starts x) (Lz_begun x).toNat (Lz_end x) (Lz_begun x + 1 - 1).toNat < Lz_end x + 1
    by_cases hb : Lz_begun x = 0
    · have hd' := hd hb
      refine ⟨by omega, ?_, ?_, fun j hj => absurd hj (by omega), ?_⟩
      · rw [hb, show (0 : Int).toNat = 0 from rfl, updz_eq]
        omega
      · rw [hb, hd'.1, updz_eq]
        omega
      · rw [show Lz_begun x + 1 - 1 = Lz_begun x by omega, updz_eq]
        omega
    · have h6' := h6 (by omega)
      refine ⟨by omega, ?_, ?_, fun j hj => ?_, ?_⟩
      · rw [updz_ne (by omega)]
        exact h6'.2.1
      · rw [updz_ne (by omega)]
        exact h6'.2.2.1
      · by_cases q : (j : Int) + 1 = Lz_begun x
        · have e : j + 1 = (Lz_begun x).toNat := by omega
          rw [e, updz_eq, updz_ne (by omega)]
          have := hst j (by omega) (by omega)
          rw [show (j : Int).toNat = j by omega] at this
          exact this
        · rw [updz_ne (by omega), updz_ne (by omega)]
          exact h6'.2.2.2.1 j (by omega)
      · rw [show Lz_begun x + 1 - 1 = Lz_begun x by omega, updz_eq]
        omega
  · intro i hi
    have hi : (i : Int) < Lz_end x + 1 := hi
    show 0 ≤ updz (Lz_keys x) (Lz_end x).toNat key i ∧ updz (Lz_keys x) (Lz_end x).toNat key i < 8 ∧ 0 ≤ updz (Lz_values x) (Lz_end x).toNat val i ∧ updz (Lz_values x) (Lz_end x).toNat val i < 100 ∧ 0 ≤ updz (Lz_times x) (Lz_end x).toNat time i ∧ updz (Lz_times x) (Lz_end x).toNat time i ≤ T'
    by_cases q : (i : Int) = Lz_end x
    · have e2 : i = (Lz_end x).toNat := by omega
      rw [e2, updz_eq, updz_eq, updz_eq]
      omega
    · rw [updz_ne (by omega), updz_ne (by omega), updz_ne (by omega)]
      have := h7 i (by omega)
      omega
theorem mk_add {key val len time i : Int} : mk (addX x key val len time) i ↔ mk x i := Iff.rfl
theorem mk_open {i : Int} (h : 0 ≤ Lz_begun x) : mk (openX x) i ↔ mk x i ∨ i = Lz_end x := by
  constructor
  · rintro ⟨j, h0, h1, h2⟩
    have h1 : j < Lz_begun x + 1 := h1
    have h2 : updz (Lz_starts x) (Lz_begun x).toNat (Lz_end x) j.toNat = i := h2
    by_cases q : j = Lz_begun x
    · subst q
      rw [updz_eq] at h2
      exact Or.inr h2.symm
    · rw [updz_ne (by omega)] at h2
      exact Or.inl ⟨j, h0, by omega, h2⟩
  · rintro (⟨j, h0, h1, h2⟩ | rfl)
    · refine ⟨j, h0, by show j < Lz_begun x + 1; omega, ?_⟩
      show updz (Lz_starts x) (Lz_begun x).toNat (Lz_end x) j.toNat = i
      rw [updz_ne (by omega)]
      exact h2
    · refine ⟨Lz_begun x, h, by show Lz_begun x < Lz_begun x + 1; omega, ?_⟩
      show updz (Lz_starts x) (Lz_begun x).toNat (Lz_end x) (Lz_begun x).toNat = Lz_end x
      rw [updz_eq]
/-- the base when rows are dropped -/
def dropFn (K V : Nat → Int) : Nat → Int → (Nat → Int) → (Nat → Int)
  | 0, _, d => d
  | n + 1, i, d => dropFn K V n (i + 1) (updz d (K i.toNat).toNat (V i.toNat))
def dropX (x : LZ) : LZ :=
  (Lz_keys x, Lz_values x, Lz_times x, Lz_lengthsBelow x, Lz_starts x, dropFn (Lz_keys x) (Lz_values x) (lnx x (Lz_dropped x) - Lz_first x).toNat (Lz_first x) (Lz_dropValues x), lnx x (Lz_dropped x), Lz_end x, Lz_length x - (Lz_lengthsBelow x (lnx x (Lz_dropped x)).toNat - Lz_lengthsBelow x (Lz_first x).toNat), Lz_begun x, Lz_dropped x + 1)
theorem q_dropFirst {Q : LZ → Prop} (h : LOK x T) (h2 : 2 ≤ Lz_begun x - Lz_dropped x) (k : Q (dropX x)) : Z_L_dropFirst x Q := by
  have h1 := h.1
  have h6 := h.2.2.2.1 (by omega)
  have h3 := h.nx1 (j := Lz_dropped x) (by omega) (by omega)
  unfold Z_L_dropFirst
  refine q_endOf h (by omega) (by omega) ?_
  rw [show Lz_dropped x + 0 = Lz_dropped x by omega]
  have key : ∀ (n : Nat) (i : Int) (y : LZ), i + n = lnx x (Lz_dropped x) → Lz_first x ≤ i → y = Lz_set_dropValues x (Lz_dropValues y) → dropFn (Lz_keys x) (Lz_values x) n i (Lz_dropValues y) = dropFn (Lz_keys x) (Lz_values x) (lnx x (Lz_dropped x) - Lz_first x).toNat (Lz_first x) (Lz_dropValues x) → ZL_L_dropFirst_11 (n + 1) (lnx x (Lz_dropped x)) i y Q := by
    intro n
    induction n with
    | zero =>
      intro i y hi h0 hy hd
      rw [ZL_L_dropFirst_11]
      refine ⟨fun _ => ?_, fun c => absurd c (by omega)⟩
      have hd2 : Lz_dropValues y = dropFn (Lz_keys x) (Lz_values x) (lnx x (Lz_dropped x) - Lz_first x).toNat (Lz_first x) (Lz_dropValues x) := hd
      rw [hy, hd2]
      have hb := h.bel0 (j := lnx x (Lz_dropped x)) (by omega) (by omega)
      have hb2 := h.bel0 (j := Lz_first x) (by omega) (by omega)
      have hl := h.len
      refine q_at (by decide) (by omega) (by show lnx x (Lz_dropped x) < 201; omega) (q_at (by decide) h1.1 (by show Lz_first x < 201; omega) ⟨by show -2147483648 ≤ Lz_lengthsBelow x (lnx x (Lz_dropped x)).toNat - Lz_lengthsBelow x (Lz_first x).toNat ∧ Lz_lengthsBelow x (lnx x (Lz_dropped x)).toNat - Lz_lengthsBelow x (Lz_first x).toNat < 2147483648; omega, ?_⟩)
      refine ⟨by show -2147483648 ≤ Lz_length x - (Lz_lengthsBelow x (lnx x (Lz_dropped x)).toNat - Lz_lengthsBelow x (Lz_first x).toNat) ∧ Lz_length x - (Lz_lengthsBelow x (lnx x (Lz_dropped x)).toNat - Lz_lengthsBelow x (Lz_first x).toNat) < 2147483648; omega, ?_⟩
      rintro _ rfl _ rfl
      refine ⟨by show -2147483648 ≤ Lz_dropped x + 1 ∧ Lz_dropped x + 1 < 2147483648; omega, ?_⟩
      rintro _ rfl
      exact k
    | succ n ih =>
      intro i y hi h0 hy hd
      have hk : Lz_keys y = Lz_keys x := by rw [hy]
      have hv : Lz_values y = Lz_values x := by rw [hy]
      have h7 := h.2.2.2.2.1 i.toNat (by omega)
      rw [ZL_L_dropFirst_11]
      refine ⟨fun c => absurd c (by omega), fun _ => ?_⟩
      rw [hk, hv]
      refine q_at (by decide) (by omega) (by omega) (q_at (by decide) (by omega) (by omega) (q_put (by decide) (by omega) (by omega) ?_))
      rintro _ rfl
      refine ⟨by omega, ih (i + 1) _ (by omega) (by omega) ?_ ?_⟩
      · rw [hy]
      · exact hd
  exact ⟨_, key (lnx x (Lz_dropped x) - Lz_first x).toNat (Lz_first x) x (by omega) (by omega) rfl rfl⟩
theorem dropFn_in {K V : Nat → Int} : ∀ (n : Nat) (i : Int) (d : Nat → Int), (∀ m : Int, i ≤ m → m < i + n → 0 ≤ K m.toNat ∧ K m.toNat < 8 ∧ 0 ≤ V m.toNat ∧ V m.toNat < 100) → (∀ k : Nat, k < 8 → -1 ≤ d k ∧ d k ≤ 99) → ∀ k : Nat, k < 8 → -1 ≤ dropFn K V n i d k ∧ dropFn K V n i d k ≤ 99 := by
  intro n
  induction n with
  | zero => intro i d _ hd; exact hd
  | succ n ih =>
    intro i d hm hd
    refine ih (i + 1) _ (fun m a b => hm m (by omega) (by omega)) (fun k hk => ?_)
    have := hm i (by omega) (by omega)
    by_cases q : k = (K i.toNat).toNat
    · rw [q, updz_eq]
      omega
    · rw [updz_ne q]
      exact hd k hk
theorem LOK.drop (h : LOK x T) (h2 : 2 ≤ Lz_begun x - Lz_dropped x) : LOK (dropX x) T := by
  have h1 := h.1
  have h6 := h.2.2.2.1 (by omega)
  have h3 := h.nx1 (j := Lz_dropped x) (by omega) (by omega)
  have e : lnx x (Lz_dropped x) = Lz_starts x (Lz_dropped x + 1).toNat := if_pos (by omega)
  obtain ⟨-, ⟨g2, g3, g4⟩, g5, -, g7, g8⟩ := h
  refine ⟨?_, ⟨g2, g3, ?_⟩, fun c => absurd c (by show ¬ Lz_begun x = 0; omega), fun _ => ⟨?_, h6.2.1, ?_, h6.2.2.2.1, h6.2.2.2.2⟩, g7, ?_⟩
  · show 0 ≤ lnx x (Lz_dropped x) ∧ lnx x (Lz_dropped x) ≤ Lz_end x ∧ Lz_end x ≤ 200 ∧ 0 ≤ Lz_dropped x + 1 ∧ Lz_dropped x + 1 ≤ Lz_begun x ∧ Lz_begun x ≤ Lz_end x
    omega
  · show Lz_length x - (Lz_lengthsBelow x (lnx x (Lz_dropped x)).toNat - Lz_lengthsBelow x (Lz_first x).toNat) = Lz_lengthsBelow x (Lz_end x).toNat - Lz_lengthsBelow x (lnx x (Lz_dropped x)).toNat
    omega
  · show Lz_dropped x + 1 < Lz_begun x
    omega
  · show Lz_starts x (Lz_dropped x + 1).toNat = lnx x (Lz_dropped x)
    exact e.symm
  · exact dropFn_in _ _ _ (fun m a b => by have := g7 m.toNat (by omega); omega) g8
theorem mk_drop {i : Int} : mk (dropX x) i ↔ mk x i := Iff.rfl
def LEq (x y : LZ) : Prop := (Lz_first x = Lz_first y ∧ Lz_end x = Lz_end y ∧ Lz_length x = Lz_length y ∧ Lz_begun x = Lz_begun y ∧ Lz_dropped x = Lz_dropped y) ∧ (∀ i : Nat, i < 200 → Lz_keys x i = Lz_keys y i ∧ Lz_values x i = Lz_values y i ∧ Lz_times x i = Lz_times y i ∧ Lz_starts x i = Lz_starts y i) ∧ (∀ i : Nat, i < 201 → Lz_lengthsBelow x i = Lz_lengthsBelow y i) ∧ (∀ k : Nat, k < 8 → Lz_dropValues x k = Lz_dropValues y k)
theorem LOK.congr {y : LZ} (h : LOK y T) (e : LEq x y) : LOK x T := by
  obtain ⟨⟨e1, e2, e3, e4, e5⟩, e6, e7, e8⟩ := e
  obtain ⟨h1, ⟨h2, h3, h4⟩, h5, h6, h7, h8⟩ := h
  refine ⟨by rw [e1, e2, e4, e5]; exact h1, ⟨by rw [e7 0 (by omega)]; exact h2, fun i hi => ?_, ?_⟩, by rw [e4, e2]; exact h5, fun hb => ?_, fun i hi => ?_, fun k hk => by rw [e8 k hk]; exact h8 k hk⟩
  · rw [e2] at hi
    rw [e7 i (by omega), e7 (i + 1) (by omega)]
    exact h3 i hi
  · rw [e3, e2, e1, e7 _ (by omega), e7 _ (by omega)]
    exact h4
  · rw [e4] at hb
    obtain ⟨g1, g2, g3, g4, g5⟩ := h6 hb
    refine ⟨by rw [e4, e5]; exact g1, by rw [(e6 0 (by omega)).2.2.2]; exact g2, by rw [e5, (e6 _ (by omega)).2.2.2, e1]; exact g3, fun j hj => ?_, by rw [e4, (e6 _ (by omega)).2.2.2, e2]; exact g5⟩
    rw [e4] at hj
    rw [(e6 j (by omega)).2.2.2, (e6 (j + 1) (by omega)).2.2.2]
    exact g4 j hj
  · rw [e2] at hi
    have := e6 i (by omega)
    rw [this.1, this.2.1, this.2.2.1]
    exact h7 i hi
theorem mk_congr {y : LZ} (h : LOK y T) (e : LEq x y) {i : Int} : mk x i ↔ mk y i := by
  obtain ⟨⟨e1, e2, e3, e4, e5⟩, e6, e7, e8⟩ := e
  have h1 := h.1
  constructor
  · rintro ⟨j, a, b, c⟩
    rw [e4] at b
    refine ⟨j, a, b, ?_⟩
    rw [(e6 j.toNat (by omega)).2.2.2] at c
    exact c
  · rintro ⟨j, a, b, c⟩
    refine ⟨j, a, by rw [e4]; exact b, ?_⟩
    rw [(e6 j.toNat (by omega)).2.2.2]
    exact c
theorem q_L_takeOver {y : LZ} {Q : LZ → Prop} (k : ∀ z, LEq z y → Q z) : Z_L_takeOver x y Q := by
  unfold Z_L_takeOver
  refine q_copy (by decide) ?_
  rintro _ rfl
  refine q_copy (by decide) ?_
  rintro _ rfl
  refine q_copy (by decide) ?_
  rintro _ rfl
  refine q_copy (by decide) ?_
  rintro _ rfl
  refine q_copy (by decide) ?_
  rintro _ rfl
  refine q_copy (by decide) ?_
  rintro _ rfl _ rfl _ rfl _ rfl _ rfl _ rfl
  exact k _ ⟨⟨rfl, rfl, rfl, rfl, rfl⟩, fun i hi => ⟨zcpz_lt hi, zcpz_lt hi, zcpz_lt hi, zcpz_lt hi⟩, fun i hi => zcpz_lt hi, fun i hi => zcpz_lt hi⟩
theorem q_L_renew {Q : LZ → Prop} (k : ∀ d : Nat → Int, (∀ k : Nat, k < 8 → d k = -1) → Q (Lz_keys x, Lz_values x, Lz_times x, Lz_lengthsBelow x, Lz_starts x, d, 0, 0, 0, 0, 0)) : Z_L_renew x Q := by
  unfold Z_L_renew
  rintro _ rfl _ rfl _ rfl _ rfl _ rfl
  have key : ∀ (n : Nat) (i : Int) (d : Nat → Int), i + n = 8 → 0 ≤ i → (∀ k : Nat, (k : Int) < i → d k = -1) → ZL_L_renew_27 (n + 1) i (Lz_keys x, Lz_values x, Lz_times x, Lz_lengthsBelow x, Lz_starts x, d, 0, 0, 0, 0, 0) Q := by
    intro n
    induction n with
    | zero =>
      intro i d hi h0 hd
      rw [ZL_L_renew_27]
      exact ⟨fun _ => k d (fun k hk => hd k (by omega)), fun c => absurd c (by omega)⟩
    | succ n ih =>
      intro i d hi h0 hd
      rw [ZL_L_renew_27]
      refine ⟨fun c => absurd c (by omega), fun _ => ⟨⟨h0, by omega⟩, ?_⟩⟩
      rintro _ rfl
      refine ⟨by omega, ih (i + 1) _ (by omega) (by omega) (fun k hk => ?_)⟩
      by_cases q : k = i.toNat
      · rw [q, updz_eq]
      · rw [updz_ne q]
        exact hd k (by omega)
  exact ⟨_, key 8 0 (Lz_dropValues x) (by omega) (by omega) (fun k hk => absurd hk (by omega))⟩
end PL2
