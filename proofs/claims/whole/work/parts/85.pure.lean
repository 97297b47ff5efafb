/-! ### the row of the model -/
abbrev RelR (σ : SZ) (W : Nat → Int) (a : Int) : Prop :=
  W (410 + 15 * a).toNat = Rz_present (Sz_readers σ a.toNat) ∧
  (Rz_present (Sz_readers σ a.toNat) = 1 → W (410 + 15 * a + 1).toNat = Rz_place (Sz_readers σ a.toNat) ∧ W (410 + 15 * a + 2).toNat = Rz_held (Sz_readers σ a.toNat) ∧ W (410 + 15 * a + 3).toNat = Rz_readSoFar (Sz_readers σ a.toNat) ∧ W (410 + 15 * a + 4).toNat = Rz_missedSoFar (Sz_readers σ a.toNat) ∧ W (410 + 15 * a + 5).toNat = Rz_lastRead (Sz_readers σ a.toNat) ∧ W (410 + 15 * a + 6).toNat = Rz_lostBy (Sz_readers σ a.toNat) ∧ ∀ k : Int, 0 ≤ k → k < 8 → W (410 + 15 * a + 7 + k).toNat = Rz_values (Sz_readers σ a.toNat) k.toNat) ∧
  W (530 + 10 * a).toNat = Rz_hasLeft (Sz_readers σ a.toNat) ∧
  (Rz_present (Sz_readers σ a.toNat) = 0 → Rz_hasLeft (Sz_readers σ a.toNat) = 1 → W (530 + 10 * a + 1).toNat = Rz_place (Sz_readers σ a.toNat) ∧ ∀ k : Int, 0 ≤ k → k < 8 → W (530 + 10 * a + 2 + k).toNat = Rz_values (Sz_readers σ a.toNat) k.toNat)
abbrev RelI (x : LZ) (W : Nat → Int) (i : Int) : Prop := ∃ b : Int, (b = 0 ∨ b = 1) ∧ (b = 1 ↔ mk x i) ∧ W i.toNat = Lz_keys x i.toNat + 8 * b + 16 * Lz_values x i.toNat + 1600 * (Lz_lengthsBelow x (i.toNat + 1) - Lz_lengthsBelow x i.toNat)
def Rel (σ : SZ) (W : Nat → Int) : Prop :=
  (W (Int.toNat 400) = Lz_first (Sz_log σ) ∧ W (Int.toNat 401) = Lz_end (Sz_log σ) ∧ W (Int.toNat 616) = Sz_time σ ∧ W (Int.toNat 617) = Lz_dropped (Sz_log σ) ∧ W (Int.toNat 618) = Sz_lostByLength σ ∧ W (Int.toNat 619) = Sz_lostBySleep σ ∧ W (Int.toNat 620) = Sz_missed σ) ∧
  (∀ k : Int, 0 ≤ k → k < 8 → W (402 + k).toNat = Lz_dropValues (Sz_log σ) k.toNat) ∧
  (∀ k : Int, 0 ≤ k → k < 6 → W (610 + k).toNat = Sz_settings σ k.toNat) ∧
  (∀ i : Int, 0 ≤ i → i < Lz_end (Sz_log σ) → RelI (Sz_log σ) W i) ∧
  (∀ i : Int, 0 ≤ i → i < Lz_end (Sz_log σ) → W (200 + i).toNat = Lz_times (Sz_log σ) i.toNat) ∧
  (∀ a : Int, 0 ≤ a → a < 8 → RelR σ W a)
section PM
variable {σ : SZ} {W : Nat → Int} {T : Int}
theorem row_dec {w k b v s : Int} (h : w = k + 8 * b + 16 * v + 1600 * s) (hk : 0 ≤ k ∧ k < 8) (hb : b = 0 ∨ b = 1) (hv : 0 ≤ v ∧ v < 100) (hs : 1 ≤ s ∧ s ≤ 40) : Int.tmod w 8 = k ∧ Int.tmod (Int.tdiv w 8) 2 = b ∧ Int.tmod (Int.tdiv w 16) 100 = v ∧ Int.tdiv w 1600 = s := by
  have h0 : 0 ≤ w := by omega
  rw [Int.tdiv_eq_ediv_of_nonneg h0, Int.tdiv_eq_ediv_of_nonneg h0, Int.tdiv_eq_ediv_of_nonneg h0, Int.tmod_eq_emod_of_nonneg h0, Int.tmod_eq_emod_of_nonneg (by omega), Int.tmod_eq_emod_of_nonneg (by omega)]
  omega
theorem Rel.row (h : SOK σ T) (r : Rel σ W) {i : Int} (h0 : 0 ≤ i) (h1 : i < Lz_end (Sz_log σ)) : Int.tmod (W i.toNat) 8 = Lz_keys (Sz_log σ) i.toNat ∧ (Int.tmod (Int.tdiv (W i.toNat) 8) 2 = 1 ↔ mk (Sz_log σ) i) ∧ Int.tmod (Int.tdiv (W i.toNat) 16) 100 = Lz_values (Sz_log σ) i.toNat ∧ Int.tdiv (W i.toNat) 1600 = Lz_lengthsBelow (Sz_log σ) (i.toNat + 1) - Lz_lengthsBelow (Sz_log σ) i.toNat := by
  obtain ⟨b, hb, hm, hw⟩ := r.2.2.2.1 i h0 h1
  have h2 := h.1.2.2.2.2.1 i.toNat (by omega)
  have h3 := h.1.2.1.2.1 i.toNat (by omega)
  obtain ⟨a1, a2, a3, a4⟩ := row_dec hw ⟨h2.1, h2.2.1⟩ hb ⟨h2.2.2.1, h2.2.2.2.1⟩ h3
  exact ⟨a1, by rw [a2]; exact hm, a3, a4⟩
theorem m_in {a b c : Int} {Q : Int → Prop} (h1 : b ≤ a → a ≤ c → Q 1) (h0 : ¬ (b ≤ a ∧ a ≤ c) → Q 0) : Z_M_in a b c Q := by
  have e : ∀ x y : Int, (lg_cmpZ x y < 0 ↔ x < y) ∧ (0 < lg_cmpZ x y ↔ y < x) := by
    intro x y
    unfold lg_cmpZ
    split
    · omega
    · split <;> omega
  refine ⟨fun q => h0 ?_, fun q => ⟨fun q2 => h0 ?_, fun q2 => h1 ?_ ?_⟩⟩
  · have := (e a b).1.mp q
    omega
  · have := (e a c).2.mp q2
    omega
  · have : ¬ a < b := fun z => q ((e a b).1.mpr z)
    omega
  · have : ¬ c < a := fun z => q2 ((e a c).2.mpr z)
    omega
theorem m_isName {a : Int} {Q : Int → Prop} (h1 : 0 ≤ a → a ≤ 7 → Q 1) (h0 : ¬ (0 ≤ a ∧ a ≤ 7) → Q 0) : Z_M_isName a Q := m_in (fun a b => ⟨Or.inr rfl, h1 a b⟩) (fun a => ⟨Or.inl rfl, h0 a⟩)
theorem m_isKey {a : Int} {Q : Int → Prop} (h1 : 0 ≤ a → a ≤ 7 → Q 1) (h0 : ¬ (0 ≤ a ∧ a ≤ 7) → Q 0) : Z_M_isKey a Q := m_in (fun a b => ⟨Or.inr rfl, h1 a b⟩) (fun a => ⟨Or.inl rfl, h0 a⟩)
theorem m_reader {a : Int} {Q : Int → Prop} (h0 : 0 ≤ a) (h1 : a < 8) (k : Q (410 + 15 * a)) : Z_M_reader a Q := ⟨by omega, by omega, k⟩
theorem m_isReader {a : Int} {Q : Int → Prop} (h : SOK σ T) (r : Rel σ W) (h1 : isR σ a → Q 1) (h0 : ¬ isR σ a → Q 0) : Z_M_isReader a W Q := by
  unfold Z_M_isReader
  refine m_isName (fun a0 a1 => ⟨fun c => absurd c (by decide), fun _ => m_reader a0 (by omega) ⟨by omega, by omega, ?_⟩⟩) (fun c => ⟨fun _ => h0 (fun q => c (by omega)), fun c => absurd rfl c⟩)
  rw [Int.add_zero]
  have h2 := (r.2.2.2.2.2 a a0 (by omega)).1
  rw [h2]
  exact ⟨fun c => h0 (fun q => c q.2), fun c => h1 ⟨⟨a0, by omega⟩, c⟩⟩
theorem m_key {i : Int} {Q : Int → Prop} (h : SOK σ T) (r : Rel σ W) (h0 : 0 ≤ i) (h1 : i < Lz_end (Sz_log σ)) (k : Q (Lz_keys (Sz_log σ) i.toNat)) : Z_M_key i W Q := by
  have h2 := h.1.1
  refine ⟨by omega, by omega, ?_⟩
  rw [Int.zero_add, (r.row h h0 h1).1]
  exact k
theorem m_value {i : Int} {Q : Int → Prop} (h : SOK σ T) (r : Rel σ W) (h0 : 0 ≤ i) (h1 : i < Lz_end (Sz_log σ)) (k : Q (Lz_values (Sz_log σ) i.toNat)) : Z_M_value i W Q := by
  have h2 := h.1.1
  refine ⟨by omega, by omega, ?_⟩
  rw [Int.zero_add, (r.row h h0 h1).2.2.1]
  exact k
theorem m_size {i : Int} {Q : Int → Prop} (h : SOK σ T) (r : Rel σ W) (h0 : 0 ≤ i) (h1 : i < Lz_end (Sz_log σ)) (k : Q (Lz_lengthsBelow (Sz_log σ) (i.toNat + 1) - Lz_lengthsBelow (Sz_log σ) i.toNat)) : Z_M_size i W Q := by
  have h2 := h.1.1
  refine ⟨by omega, by omega, ?_⟩
  rw [Int.zero_add, (r.row h h0 h1).2.2.2]
  exact k
theorem m_begins {i : Int} {Q : Int → Prop} (h : SOK σ T) (r : Rel σ W) (h0 : 0 ≤ i) (h1 : i < Lz_end (Sz_log σ)) (k1 : mk (Sz_log σ) i → Q 1) (k0 : ¬ mk (Sz_log σ) i → Q 0) : Z_M_begins i W Q := by
  have h2 := h.1.1
  refine ⟨by omega, by omega, ?_⟩
  rw [Int.zero_add]
  have h3 := (r.row h h0 h1).2.1
  exact ⟨fun c => k0 (fun q => c (h3.mpr q)), fun c => k1 (h3.mp c)⟩
theorem m_sizes {a b : Int} {Q : Int → Prop} (h : SOK σ T) (r : Rel σ W) (h0 : 0 ≤ a) (h1 : a ≤ b) (h2 : b ≤ Lz_end (Sz_log σ)) (k : Q (Lz_lengthsBelow (Sz_log σ) b.toNat - Lz_lengthsBelow (Sz_log σ) a.toNat)) : Z_M_sizes a b W Q := by
  have h3 := h.1.1
  have key : ∀ (n : Nat) (i : Int), i + n = b → a ≤ i → ZL_M_sizes_5 (n + 1) a b W b (Lz_lengthsBelow (Sz_log σ) i.toNat - Lz_lengthsBelow (Sz_log σ) a.toNat) i Q := by
    intro n
    induction n with
    | zero =>
      intro i hi ha
      have e : i = b := by omega
      subst e
      rw [ZL_M_sizes_5]
      exact ⟨fun _ => k, fun c => absurd c (by omega)⟩
    | succ n ih =>
      intro i hi ha
      rw [ZL_M_sizes_5]
      have h4 := h.1.bel0 (j := i) (by omega) (by omega)
      have h5 := h.1.bel0 (j := a) (by omega) (by omega)
      have h6 := h.1.bel0 (j := i + 1) (by omega) (by omega)
      refine ⟨fun c => absurd c (by omega), fun _ => m_size h r (by omega) (by omega) ?_⟩
      have e : i.toNat + 1 = (i + 1).toNat := by omega
      rw [e]
      refine ⟨by omega, by omega, ?_⟩
      have h9 := ih (i + 1) (by omega) (by omega)
      rw [show Lz_lengthsBelow (Sz_log σ) i.toNat - Lz_lengthsBelow (Sz_log σ) a.toNat + (Lz_lengthsBelow (Sz_log σ) (i + 1).toNat - Lz_lengthsBelow (Sz_log σ) i.toNat) = Lz_lengthsBelow (Sz_log σ) (i + 1).toNat - Lz_lengthsBelow (Sz_log σ) a.toNat by omega]
      exact h9
  have h9 := key (b - a).toNat a (by omega) (by omega)
  rw [Int.sub_self] at h9
  exact ⟨_, h9⟩
/-- the length of the whole log -/
theorem m_sizesAll {Q : Int → Prop} (h : SOK σ T) (r : Rel σ W) (k : Q (Lz_length (Sz_log σ))) : Z_M_sizes (W (Int.toNat 400)) (W (Int.toNat 401)) W Q := by
  rw [r.1.1, r.1.2.1]
  have h3 := h.1.1
  refine m_sizes h r (by omega) (by omega) (by omega) ?_
  rw [← h.1.2.1.2.2]
  exact k
theorem mk_not {x : LZ} {j i : Int} (h : LOK x T) (h0 : 0 ≤ j) (h1 : j < Lz_begun x) (h2 : Lz_starts x j.toNat < i) (h3 : i < lnx x j) : ¬ mk x i := by
  rintro ⟨m, m0, m1, m2⟩
  rcases Int.lt_or_le j m with q | q
  · have a := h.st (i := j + 1) (j := m) (by omega) (by omega) m1
    have e : lnx x j = Lz_starts x (j + 1).toNat := if_pos (by omega)
    omega
  · have a := h.st (i := m) (j := j) (by omega) (by omega) h1
    omega
theorem m_behind {j : Int} {Q : Int → Prop} (h : SOK σ T) (r : Rel σ W) (h0 : 0 ≤ j) (h1 : j < Lz_begun (Sz_log σ)) (k : Q (lnx (Sz_log σ) j)) : Z_M_behind (Lz_starts (Sz_log σ) j.toNat) W Q := by
  have h3 := h.1.1
  have h4 := h.1.nx1 h0 h1
  have h5 := h.1.st_end h0 h1
  have key : ∀ (n : Nat) (i : Int), i + n = lnx (Sz_log σ) j → Lz_starts (Sz_log σ) j.toNat < i → ZL_M_behind_4 (n + 1) (Lz_starts (Sz_log σ) j.toNat) W i Q := by
    intro n
    induction n with
    | zero =>
      intro i hi ha
      have e : i = lnx (Sz_log σ) j := by omega
      rw [ZL_M_behind_4, r.1.2.1]
      subst e
      refine ⟨by omega, fun _ => k, fun c => m_begins h r (by omega) (by omega) (fun _ => ⟨fun _ => k, fun c => absurd c (by decide)⟩) (fun c2 => absurd ?_ c2)⟩
      have e : lnx (Sz_log σ) j = if j + 1 < Lz_begun (Sz_log σ) then Lz_starts (Sz_log σ) (j + 1).toNat else Lz_end (Sz_log σ) := rfl
      by_cases q : j + 1 < Lz_begun (Sz_log σ)
      · rw [if_pos q] at e
        exact ⟨j + 1, by omega, q, e.symm⟩
      · rw [if_neg q] at e
        omega
    | succ n ih =>
      intro i hi ha
      rw [ZL_M_behind_4, r.1.2.1]
      refine ⟨by omega, fun c => absurd c (by omega), fun c => m_begins h r (by omega) (by omega) (fun c2 => absurd c2 (mk_not h.1 h0 h1 ha (by omega))) (fun c2 => ⟨fun c => absurd rfl c, fun _ => ⟨by omega, ih (i + 1) (by omega) (by omega)⟩⟩)⟩
  exact ⟨_, by omega, key (lnx (Sz_log σ) j - Lz_starts (Sz_log σ) j.toNat - 1).toNat _ (by omega) (by omega)⟩
theorem m_segmentAt {i j : Int} {Q : Int → Prop} (h : SOK σ T) (r : Rel σ W) (h0 : 0 ≤ j) (h1 : j < Lz_begun (Sz_log σ)) (h2 : Lz_starts (Sz_log σ) j.toNat ≤ i) (h3 : i < lnx (Sz_log σ) j) (k : Q (Lz_starts (Sz_log σ) j.toNat)) : Z_M_segmentAt i W Q := by
  have h4 := h.1.nx1 h0 h1
  have h5 := h.1.st_end h0 h1
  have h6 := h.1.1
  have key : ∀ (n : Nat) (m : Int), m = Lz_starts (Sz_log σ) j.toNat + n → m < lnx (Sz_log σ) j → ZL_M_segmentAt_2 (n + 1) i W m Q := by
    intro n
    induction n with
    | zero =>
      intro m hm hl
      rw [ZL_M_segmentAt_2]
      have e : m = Lz_starts (Sz_log σ) j.toNat := by omega
      subst e
      exact m_begins h r (by omega) (by omega) (fun _ => ⟨fun _ => k, fun c => absurd c (by decide)⟩) (fun c => absurd ⟨j, h0, h1, rfl⟩ c)
    | succ n ih =>
      intro m hm hl
      rw [ZL_M_segmentAt_2]
      exact m_begins h r (by omega) (by omega) (fun c => absurd c (mk_not h.1 h0 h1 (by omega) hl)) (fun c => ⟨fun c => absurd rfl c, fun _ => ⟨by omega, ih _ (by omega) (by omega)⟩⟩)
  exact ⟨_, key (i - Lz_starts (Sz_log σ) j.toNat).toNat i (by omega) h3⟩
theorem m_segments {Q : Int → Prop} (h : SOK σ T) (r : Rel σ W) (k : Q (Lz_begun (Sz_log σ) - Lz_dropped (Sz_log σ))) : Z_M_segments W Q := by
  have h6 := h.1.1
  have hd : ¬ 0 < Lz_begun (Sz_log σ) → Lz_begun (Sz_log σ) = 0 ∧ Lz_dropped (Sz_log σ) = 0 ∧ Lz_first (Sz_log σ) = Lz_end (Sz_log σ) := by
    intro c
    have := h.1.2.2.1 (by omega)
    omega
  -- from a row in segment j on: what is still to be counted
  have key : ∀ (n : Nat) (i j : Int), i + n = Lz_end (Sz_log σ) → 0 ≤ j → j < Lz_begun (Sz_log σ) → Lz_starts (Sz_log σ) j.toNat < i → i ≤ lnx (Sz_log σ) j → Lz_dropped (Sz_log σ) ≤ j → ZL_M_segments_8 (n + 1) W (j + 1 - Lz_dropped (Sz_log σ)) i Q := by
    intro n
    induction n with
    | zero =>
      intro i j hi h0 h1 h2 h3 h4
      rw [ZL_M_segments_8, r.1.2.1]
      refine ⟨by omega, fun _ => ?_, fun c => absurd c (by omega)⟩
      have e : lnx (Sz_log σ) j = if j + 1 < Lz_begun (Sz_log σ) then Lz_starts (Sz_log σ) (j + 1).toNat else Lz_end (Sz_log σ) := rfl
      by_cases q : j + 1 < Lz_begun (Sz_log σ)
      · rw [if_pos q] at e
        have := h.1.st_end (j := j + 1) (by omega) q
        omega
      · rw [show j + 1 - Lz_dropped (Sz_log σ) = Lz_begun (Sz_log σ) - Lz_dropped (Sz_log σ) by omega]
        exact k
    | succ n ih =>
      intro i j hi h0 h1 h2 h3 h4
      have h5 := h.1.st_end h0 h1
      rw [ZL_M_segments_8, r.1.2.1]
      have e : lnx (Sz_log σ) j = if j + 1 < Lz_begun (Sz_log σ) then Lz_starts (Sz_log σ) (j + 1).toNat else Lz_end (Sz_log σ) := rfl
      refine ⟨by omega, fun c => absurd c (by omega), fun _ => m_begins h r (by omega) (by omega) (fun c => ⟨fun c => absurd c (by decide), fun _ => ⟨by omega, by omega, ?_⟩⟩) (fun c => ⟨fun _ => ⟨by omega, by omega, ?_⟩, fun c => absurd rfl c⟩)⟩
      · -- a mark: the next segment begins here
        have q : i = lnx (Sz_log σ) j := by
          rcases Int.lt_or_le i (lnx (Sz_log σ) j) with q | q
          · exact absurd c (mk_not h.1 h0 h1 h2 q)
          · omega
        have q2 : j + 1 < Lz_begun (Sz_log σ) := by
          rcases Int.lt_or_le (j + 1) (Lz_begun (Sz_log σ)) with z | z
          · exact z
          · rw [if_neg (by omega)] at e
            omega
        rw [if_pos q2] at e
        have h8 := h.1.nx1 (j := j + 1) (by omega) q2
        have h9 := ih (i + 1) (j + 1) (by omega) (by omega) q2 (by omega) (by omega) (by omega)
        rw [show j + 1 - Lz_dropped (Sz_log σ) + 1 = j + 1 + 1 - Lz_dropped (Sz_log σ) by omega]
        exact h9
      · have q : i < lnx (Sz_log σ) j := by
          rcases Int.lt_or_le i (lnx (Sz_log σ) j) with q | q
          · exact q
          · have e2 : i = lnx (Sz_log σ) j := by omega
            by_cases z : j + 1 < Lz_begun (Sz_log σ)
            · rw [if_pos z] at e
              exact absurd ⟨j + 1, by omega, z, by omega⟩ c
            · rw [if_neg z] at e
              omega
        have h9 := ih (i + 1) j (by omega) h0 h1 (by omega) (by omega) h4
        rw [Int.add_zero]
        exact h9
  unfold Z_M_segments
  refine ⟨by omega, ?_⟩
  rw [r.1.1]
  by_cases q : 0 < Lz_begun (Sz_log σ)
  · have g := h.1.2.2.2.1 q
    have g2 := h.1.st_end (j := Lz_dropped (Sz_log σ)) (by omega) (by omega)
    have g3 := h.1.nx1 (j := Lz_dropped (Sz_log σ)) (by omega) (by omega)
    have h9 := key (Lz_end (Sz_log σ) - Lz_first (Sz_log σ) - 1).toNat (Lz_first (Sz_log σ) + 1) (Lz_dropped (Sz_log σ)) (by omega) (by omega) (by omega) (by omega) (by omega) (by omega)
    refine ⟨(Lz_end (Sz_log σ) - Lz_first (Sz_log σ) - 1).toNat + 1 + 1, ?_⟩
    rw [ZL_M_segments_8, r.1.2.1]
    refine ⟨by omega, fun c => absurd c (by omega), fun _ => m_begins h r (by omega) (by omega) (fun c => ⟨fun c => absurd c (by decide), fun _ => ⟨by omega, by omega, ?_⟩⟩) (fun c => absurd ⟨Lz_dropped (Sz_log σ), by omega, by omega, g.2.2.1⟩ c)⟩
    rw [show (0 : Int) + 1 = Lz_dropped (Sz_log σ) + 1 - Lz_dropped (Sz_log σ) by omega]
    exact h9
  · have g := hd q
    refine ⟨1, ?_⟩
    rw [ZL_M_segments_8, r.1.2.1]
    refine ⟨by omega, fun _ => ?_, fun c => absurd c (by omega)⟩
    rw [show (0 : Int) = Lz_begun (Sz_log σ) - Lz_dropped (Sz_log σ) by omega]
    exact k
theorem m_firstOf {i : Int} {Q : Int → Prop} (h : SOK σ T) (r : Rel σ W) (h0 : 0 ≤ i) (h1 : i < Lz_begun (Sz_log σ) - Lz_dropped (Sz_log σ)) (k : Q (Lz_starts (Sz_log σ) (Lz_dropped (Sz_log σ) + i).toNat)) : Z_M_firstOf i W Q := by
  have h6 := h.1.1
  have g := h.1.2.2.2.1 (by omega)
  have key : ∀ (n : Nat) (j : Int), j + n = Lz_dropped (Sz_log σ) + i → Lz_dropped (Sz_log σ) ≤ j → ZL_M_firstOf_8 (n + 1) i W (Lz_starts (Sz_log σ) j.toNat) n Q := by
    intro n
    induction n with
    | zero =>
      intro j hj hd
      rw [ZL_M_firstOf_8]
      have e : j = Lz_dropped (Sz_log σ) + i := by omega
      subst e
      exact ⟨fun _ => k, fun c => absurd c (by omega)⟩
    | succ n ih =>
      intro j hj hd
      rw [ZL_M_firstOf_8]
      refine ⟨fun c => absurd c (by omega), fun _ => m_behind h r (by omega) (by omega) ⟨by omega, ?_⟩⟩
      have e : lnx (Sz_log σ) j = Lz_starts (Sz_log σ) (j + 1).toNat := if_pos (by omega)
      rw [e, show ((n + 1 : Nat) : Int) + -1 = (n : Int) by omega]
      exact ih (j + 1) (by omega) (by omega)
  refine ⟨by omega, ?_⟩
  rw [r.1.1, ← g.2.2.1]
  have h9 := key i.toNat (Lz_dropped (Sz_log σ)) (by omega) (by omega)
  rw [show ((i.toNat : Nat) : Int) = i by omega] at h9
  exact ⟨_, h9⟩
end PM
