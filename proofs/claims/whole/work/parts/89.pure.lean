/-! ### the model's actions -/
section PR
variable {σ : SZ} {W : Nat → Int} {T : Int}
theorem Rel.setr {V : Nat → Int} {a : Int} {r' : RZ} (r : Rel σ W) (he : Lz_end (Sz_log σ) ≤ 200) (h0 : 0 ≤ a) (h1 : a < 8) (hV : ∀ m : Nat, ¬ (410 + 15 * a ≤ m ∧ (m : Int) < 410 + 15 * a + 15) → ¬ (530 + 10 * a ≤ m ∧ (m : Int) < 530 + 10 * a + 10) → V m = W m) (hR : RelR (Sz_seti_readers σ a.toNat r') V a) : Rel (Sz_seti_readers σ a.toNat r') V := by
  refine ⟨⟨?_, ?_, ?_, ?_, ?_, ?_, ?_⟩, fun q q0 q1 => ?_, fun q q0 q1 => ?_, fun i i0 i1 => ?_, fun i i0 i1 => ?_, fun b b0 b1 => ?_⟩
  · rw [hV _ (by omega) (by omega)]; exact r.1.1
  · rw [hV _ (by omega) (by omega)]; exact r.1.2.1
  · rw [hV _ (by omega) (by omega)]; exact r.1.2.2.1
  · rw [hV _ (by omega) (by omega)]; exact r.1.2.2.2.1
  · rw [hV _ (by omega) (by omega)]; exact r.1.2.2.2.2.1
  · rw [hV _ (by omega) (by omega)]; exact r.1.2.2.2.2.2.1
  · rw [hV _ (by omega) (by omega)]; exact r.1.2.2.2.2.2.2
  · rw [hV _ (by omega) (by omega)]; exact r.2.1 q q0 q1
  · rw [hV _ (by omega) (by omega)]; exact r.2.2.1 q q0 q1
  · have i1 : i < Lz_end (Sz_log σ) := i1
    obtain ⟨b, b1, b2, b3⟩ := r.2.2.2.1 i i0 i1
    exact ⟨b, b1, b2, by rw [hV _ (by omega) (by omega)]; exact b3⟩
  · have i1 : i < Lz_end (Sz_log σ) := i1
    rw [hV _ (by omega) (by omega)]
    exact r.2.2.2.2.1 i i0 i1
  · by_cases z : b = a
    · subst z
      exact hR
    · obtain ⟨g1, g2, g3, g4⟩ := r.2.2.2.2.2 b b0 b1
      unfold RelR
      rw [rd_ne (show b.toNat ≠ a.toNat by omega)]
      refine ⟨by rw [hV _ (by omega) (by omega)]; exact g1, fun c => ?_, by rw [hV _ (by omega) (by omega)]; exact g3, fun c c2 => ?_⟩
      · obtain ⟨a1, a2, a3, a4, a5, a6, a7⟩ := g2 c
        refine ⟨?_, ?_, ?_, ?_, ?_, ?_, fun k k0 k1 => ?_⟩
        · rw [hV _ (by omega) (by omega)]; exact a1
        · rw [hV _ (by omega) (by omega)]; exact a2
        · rw [hV _ (by omega) (by omega)]; exact a3
        · rw [hV _ (by omega) (by omega)]; exact a4
        · rw [hV _ (by omega) (by omega)]; exact a5
        · rw [hV _ (by omega) (by omega)]; exact a6
        · rw [hV _ (by omega) (by omega)]; exact a7 k k0 k1
      · obtain ⟨a1, a2⟩ := g4 c c2
        refine ⟨?_, fun k k0 k1 => ?_⟩
        · rw [hV _ (by omega) (by omega)]; exact a1
        · rw [hV _ (by omega) (by omega)]; exact a2 k k0 k1
theorem Rel.wr {key val len w : Int} {V : Nat → Int} (h : SOK σ T) (r : Rel σ W) (he : Lz_end (Sz_log σ) < 200) (hV : ∀ m : Nat, m ≠ (Lz_end (Sz_log σ)).toNat → m ≠ (200 + Lz_end (Sz_log σ)).toNat → m ≠ 401 → V m = W m) (hVe : V (Lz_end (Sz_log σ)).toNat = key + w + 16 * val + 1600 * len) (hVt : V (200 + Lz_end (Sz_log σ)).toNat = Sz_time σ) (hV1 : V 401 = Lz_end (Sz_log σ) + 1) (hw : (opens (Sz_log σ) len (Sz_settings σ 0) (Sz_settings σ 1) ∧ w = 8) ∨ (¬ opens (Sz_log σ) len (Sz_settings σ 0) (Sz_settings σ 1) ∧ w = 0)) : Rel (wrS σ key val len) V := by
  have h3 := h.1.1
  have e1 : ∀ (P : LZ → Prop), P (openX (Sz_log σ)) → P (Sz_log σ) → P (if opens (Sz_log σ) len (Sz_settings σ 0) (Sz_settings σ 1) then openX (Sz_log σ) else Sz_log σ) := by
    intro P a b
    split
    · exact a
    · exact b
  have hmk : ∀ i : Int, i < Lz_end (Sz_log σ) → (mk (if opens (Sz_log σ) len (Sz_settings σ 0) (Sz_settings σ 1) then openX (Sz_log σ) else Sz_log σ) i ↔ mk (Sz_log σ) i) := by
    intro i hi
    split
    · rw [mk_open (by omega)]
      exact ⟨fun q => q.elim id (fun e => absurd e (by omega)), Or.inl⟩
    · exact Iff.rfl
  refine ⟨⟨?_, ?_, ?_, ?_, ?_, ?_, ?_⟩, fun q q0 q1 => ?_, fun q q0 q1 => ?_, fun i i0 i1 => ?_, fun i i0 i1 => ?_, fun b b0 b1 => ?_⟩
  · rw [hV _ (by omega) (by omega) (by decide)]
    exact r.1.1.trans (e1 (fun x => Lz_first (Sz_log σ) = Lz_first x) rfl rfl)
  · exact hV1.trans (e1 (fun x => Lz_end (Sz_log σ) + 1 = Lz_end x + 1) rfl rfl)
  · rw [hV _ (by omega) (by omega) (by decide)]; exact r.1.2.2.1
  · rw [hV _ (by omega) (by omega) (by decide)]
    exact r.1.2.2.2.1.trans (e1 (fun x => Lz_dropped (Sz_log σ) = Lz_dropped x) rfl rfl)
  · rw [hV _ (by omega) (by omega) (by decide)]; exact r.1.2.2.2.2.1
  · rw [hV _ (by omega) (by omega) (by decide)]; exact r.1.2.2.2.2.2.1
  · rw [hV _ (by omega) (by omega) (by decide)]; exact r.1.2.2.2.2.2.2
  · rw [hV _ (by omega) (by omega) (by omega)]
    exact (r.2.1 q q0 q1).trans (e1 (fun x => Lz_dropValues (Sz_log σ) q.toNat = Lz_dropValues x q.toNat) rfl rfl)
  · rw [hV _ (by omega) (by omega) (by omega)]; exact r.2.2.1 q q0 q1
  · have i1 : i < Lz_end (Sz_log σ) + 1 := by
      have := e1 (fun x => i < Lz_end x + 1 → i < Lz_end (Sz_log σ) + 1) id id
      exact this i1
    have ek : ∀ n : Nat, Lz_keys (Sz_log (wrS σ key val len)) n = updz (Lz_keys (Sz_log σ)) (Lz_end (Sz_log σ)).toNat key n := fun n => e1 (fun x => updz (Lz_keys x) (Lz_end x).toNat key n = updz (Lz_keys (Sz_log σ)) (Lz_end (Sz_log σ)).toNat key n) rfl rfl
    have ev : ∀ n : Nat, Lz_values (Sz_log (wrS σ key val len)) n = updz (Lz_values (Sz_log σ)) (Lz_end (Sz_log σ)).toNat val n := fun n => e1 (fun x => updz (Lz_values x) (Lz_end x).toNat val n = updz (Lz_values (Sz_log σ)) (Lz_end (Sz_log σ)).toNat val n) rfl rfl
    have eb : ∀ n : Nat, Lz_lengthsBelow (Sz_log (wrS σ key val len)) n = updz (Lz_lengthsBelow (Sz_log σ)) (Lz_end (Sz_log σ) + 1).toNat (Lz_lengthsBelow (Sz_log σ) (Lz_end (Sz_log σ)).toNat + len) n := fun n => e1 (fun x => updz (Lz_lengthsBelow x) (Lz_end x + 1).toNat (Lz_lengthsBelow x (Lz_end x).toNat + len) n = updz (Lz_lengthsBelow (Sz_log σ)) (Lz_end (Sz_log σ) + 1).toNat (Lz_lengthsBelow (Sz_log σ) (Lz_end (Sz_log σ)).toNat + len) n) rfl rfl
    unfold RelI
    rw [ek, ev, eb, eb]
    by_cases z : i = Lz_end (Sz_log σ)
    · rw [z, hVe, updz_eq, updz_eq, show (Lz_end (Sz_log σ)).toNat + 1 = (Lz_end (Sz_log σ) + 1).toNat by omega, updz_eq, updz_ne (by omega)]
      rcases hw with ⟨c, hw⟩ | ⟨c, hw⟩
      · refine ⟨1, Or.inr rfl, ⟨fun _ => ?_, fun _ => rfl⟩, by omega⟩
        have : mk (openX (Sz_log σ)) (Lz_end (Sz_log σ)) := (mk_open (by omega)).mpr (Or.inr rfl)
        show mk (if _ then _ else _) _
        rw [if_pos c]
        exact this
      · refine ⟨0, Or.inl rfl, ⟨fun q => absurd q (by decide), fun q => ?_⟩, by omega⟩
        have q : mk (if opens (Sz_log σ) len (Sz_settings σ 0) (Sz_settings σ 1) then openX (Sz_log σ) else Sz_log σ) (Lz_end (Sz_log σ)) := q
        rw [if_neg c] at q
        obtain ⟨j, j0, j1, j2⟩ := q
        have := (h.1.st_end j0 j1).2
        omega
    · obtain ⟨b, b1, b2, b3⟩ := r.2.2.2.1 i i0 (by omega)
      refine ⟨b, b1, b2.trans (hmk i (by omega)).symm, ?_⟩
      rw [hV _ (by omega) (by omega) (by omega), updz_ne (by omega), updz_ne (by omega), updz_ne (by omega), updz_ne (by omega)]
      exact b3
  · have i1 : i < Lz_end (Sz_log σ) + 1 := by
      have := e1 (fun x => i < Lz_end x + 1 → i < Lz_end (Sz_log σ) + 1) id id
      exact this i1
    have et : ∀ n : Nat, Lz_times (Sz_log (wrS σ key val len)) n = updz (Lz_times (Sz_log σ)) (Lz_end (Sz_log σ)).toNat (Sz_time σ) n := fun n => e1 (fun x => updz (Lz_times x) (Lz_end x).toNat (Sz_time σ) n = updz (Lz_times (Sz_log σ)) (Lz_end (Sz_log σ)).toNat (Sz_time σ) n) rfl rfl
    rw [et]
    by_cases z : i = Lz_end (Sz_log σ)
    · rw [z, hVt, updz_eq]
    · rw [hV _ (by omega) (by omega) (by omega), updz_ne (by omega)]
      exact r.2.2.2.2.1 i i0 (by omega)
  · exact (r.2.2.2.2.2 b b0 b1).keep b0 b1 rfl (fun m m0 m1 => hV m (by omega) (by omega) (by omega))
theorem m_goWrite {key val len : Int} {Q : Int → (Nat → Int) → Prop} (h : SOK σ T) (r : Rel σ W) (he : Lz_end (Sz_log σ) < 200) (hk : 0 ≤ key ∧ key < 8) (hv : 0 ≤ val ∧ val < 100) (hl : 1 ≤ len ∧ len ≤ 40) (k : ∀ W', Rel (wrS σ key val len) W' → Q (Lz_end (Sz_log σ)) W') : Z_M_goWrite key val len W Q := by
  have h3 := h.1.1
  have h5 := h.2.1
  have s0 : W (Int.toNat 610) = Sz_settings σ 0 := r.2.2.1 0 (by omega) (by omega)
  have s1 : W (Int.toNat 611) = Sz_settings σ 1 := r.2.2.1 1 (by omega) (by omega)
  have J94 : ∀ w : Int, ((opens (Sz_log σ) len (Sz_settings σ 0) (Sz_settings σ 1) ∧ w = 8) ∨ (¬ opens (Sz_log σ) len (Sz_settings σ 0) (Sz_settings σ 1) ∧ w = 0)) → ZJ_M_goWrite_94 key val len val len (Lz_end (Sz_log σ)) w key (0 + Lz_end (Sz_log σ)) W Q := by
    intro w hw
    have hw8 : w = 8 ∨ w = 0 := by rcases hw with q | q <;> omega
    unfold ZJ_M_goWrite_94
    refine ⟨by omega, by omega, by omega, by omega, by omega, by omega, ?_⟩
    rintro _ rfl
    rw [Int.zero_add]
    refine ⟨by omega, by omega, by omega, ?_⟩
    rintro _ rfl
    have e01 : updz (updz W (Lz_end (Sz_log σ)).toNat (key + w + 16 * val + 1600 * len)) (200 + Lz_end (Sz_log σ)).toNat (updz W (Lz_end (Sz_log σ)).toNat (key + w + 16 * val + 1600 * len) (Int.toNat 616)) (Int.toNat 401) = Lz_end (Sz_log σ) := by
      rw [updz_ne (by omega), updz_ne (by omega)]
      exact r.1.2.1
    refine ⟨by omega, by omega, ?_⟩
    rw [e01]
    refine ⟨by omega, ?_⟩
    rintro _ rfl
    refine k _ (r.wr h he (w := w) (fun m m0 m1 m2 => ?_) ?_ ?_ updz_eq hw)
    · rw [updz_ne (show m ≠ Int.toNat 401 from m2), updz_ne m1, updz_ne m0]
    · rw [updz_ne (by omega), updz_ne (by omega), updz_eq]
    · rw [updz_ne (by omega), updz_eq, updz_ne (by omega)]
      exact r.1.2.2.1
  have J77 : ∀ u : Int, ((opens (Sz_log σ) len (Sz_settings σ 0) (Sz_settings σ 1) ∧ u = 1) ∨ (¬ opens (Sz_log σ) len (Sz_settings σ 0) (Sz_settings σ 1) ∧ u = 0)) → ZJ_M_goWrite_77 key val len key val len (Lz_end (Sz_log σ)) u W Q := by
    intro u hu
    exact ⟨fun c => ⟨by omega, J94 0 (by rcases hu with q | q; exact absurd c (by omega); exact Or.inr ⟨q.1, rfl⟩)⟩, fun c => ⟨by omega, J94 8 (by rcases hu with q | q; exact Or.inl ⟨q.1, rfl⟩; exact absurd q.2 c)⟩⟩
  unfold Z_M_goWrite
  rw [r.1.1, r.1.2.1]
  refine ⟨by omega, by omega, fun c => ⟨fun c => absurd rfl c, fun _ => ⟨by omega, ?_⟩⟩, fun c => ⟨fun _ => J77 1 (Or.inl ⟨Or.inl ?_, rfl⟩), fun c => absurd c (by decide)⟩⟩
  · have hb : 0 < Lz_begun (Sz_log σ) := by
      rcases Int.lt_or_le 0 (Lz_begun (Sz_log σ)) with q | q
      · exact q
      · have := h.1.2.2.1 (by omega)
        omega
    have g := h.1.2.2.2.1 hb
    have g1 := h.1.st_end (j := Lz_begun (Sz_log σ) - 1) (by omega) (by omega)
    have g2 : lnx (Sz_log σ) (Lz_begun (Sz_log σ) - 1) = Lz_end (Sz_log σ) := if_neg (by omega)
    have g3 := h.1.bel0 (j := Lz_end (Sz_log σ)) (by omega) (by omega)
    have g4 := h.1.bel0 (j := Lz_starts (Sz_log σ) (Lz_begun (Sz_log σ) - 1).toNat) (by omega) (by omega)
    refine m_segmentAt h r (j := Lz_begun (Sz_log σ) - 1) (by omega) (by omega) (by omega) (by omega) ⟨by omega, by omega, ?_⟩
    rw [s0]
    refine ⟨fun c2 => J77 1 (Or.inl ⟨Or.inr (Or.inl c2), rfl⟩), fun c2 => m_sizes h r (by omega) (by omega) (by omega) ⟨by omega, by omega, ?_⟩⟩
    rw [s1]
    refine ⟨fun c3 => J77 0 (Or.inr ⟨fun q => ?_, rfl⟩), fun c3 => J77 1 (Or.inl ⟨Or.inr (Or.inr (by omega)), rfl⟩)⟩
    rcases q with q | q | q <;> omega
  · rcases Int.lt_or_le 0 (Lz_begun (Sz_log σ)) with q | q
    · have g := h.1.2.2.2.1 q
      have g1 := h.1.st_end (j := Lz_dropped (Sz_log σ)) (by omega) (by omega)
      omega
    · omega
theorem m_readers {Q : Int → Prop} (h : SOK σ T) (r : Rel σ W) (k : Q (readersN σ)) : Z_M_readers W Q := by
  have key : ∀ (n i : Nat), i + n = 8 → ZL_M_readers_4 (n + 1) W (sumN (cz σ) i) i Q := by
    intro n
    induction n with
    | zero =>
      intro i hi
      rw [ZL_M_readers_4]
      have e : i = 8 := by omega
      subst e
      exact ⟨fun _ => k, fun c => absurd c (by omega)⟩
    | succ n ih =>
      intro i hi
      rw [ZL_M_readers_4]
      have hb := sumN_in (f := cz σ) i (fun j _ => by show 0 ≤ (if _ then _ else _ : Int) ∧ (if _ then _ else _ : Int) ≤ 1; split <;> omega)
      have e0 : ((i : Int)).toNat = i := by omega
      have hr := (h.2.2.2 i (by omega)).1
      have g1 := (r.2.2.2.2.2 i (by omega) (by omega)).1
      rw [e0] at g1
      refine ⟨fun c => absurd c (by omega), fun _ => m_reader (by omega) (by omega) ⟨by omega, by omega, ?_⟩⟩
      rw [Int.add_zero, g1]
      have e2 : Rz_present (Sz_readers σ i) = cz σ i := by
        show _ = (if _ then _ else _ : Int)
        rcases hr with q | q
        · rw [if_neg (by omega), q]
        · rw [if_pos q, q]
      rw [e2]
      have hc : 0 ≤ cz σ i ∧ cz σ i ≤ 1 := by rw [← e2]; omega
      exact ⟨by omega, by omega, ih (i + 1) (by omega)⟩
  exact ⟨_, key 8 0 rfl⟩
theorem m_hasGap {a : Int} {Q : Int → Prop} (r : Rel σ W) (h0 : 0 ≤ a) (h1 : a < 8) (hp : Rz_present (Sz_readers σ a.toNat) = 1) (k1 : Rz_place (Sz_readers σ a.toNat) < Lz_first (Sz_log σ) → Q 1) (k0 : ¬ Rz_place (Sz_readers σ a.toNat) < Lz_first (Sz_log σ) → Q 0) : Z_M_hasGap a W Q := by
  have g := (r.2.2.2.2.2 a h0 h1).2.1 hp
  refine m_reader h0 h1 ⟨by omega, by omega, by omega, ?_⟩
  rw [r.1.1, g.1]
  exact ⟨fun c => k0 (by omega), fun c => k1 (by omega)⟩
theorem m_canHold {a b : Int} {Q : Int → Prop} (r : Rel σ W) (h0 : 0 ≤ a) (h1 : a < 8) (hp : Rz_present (Sz_readers σ a.toNat) = 1) (k1 : (b = 0 ∨ ¬ Rz_place (Sz_readers σ a.toNat) < Lz_first (Sz_log σ)) → Q 1) (k0 : ¬ (b = 0 ∨ ¬ Rz_place (Sz_readers σ a.toNat) < Lz_first (Sz_log σ)) → Q 0) : Z_M_canHold a b W Q :=
  ⟨fun c => k1 (Or.inl c), fun c => m_hasGap r h0 h1 hp (fun g => ⟨fun _ => k0 (fun q => q.elim c (fun q => q g)), fun c => absurd c (by decide)⟩) (fun g => ⟨fun c => absurd rfl c, fun _ => k1 (Or.inr g)⟩)⟩
theorem m_goHold {a b : Int} {Q : Int → (Nat → Int) → Prop} (h : SOK σ T) (r : Rel σ W) (h0 : 0 ≤ a) (h1 : a < 8) (hp : Rz_present (Sz_readers σ a.toNat) = 1) (hb : b = 0 ∨ b = 1) (k : ∀ W', Rel (hdS σ a.toNat b) W' → Q (Rz_held (Sz_readers σ a.toNat)) W') : Z_M_goHold a b W Q := by
  have h3 := h.1.1
  obtain ⟨g1, g2, g3, g4⟩ := r.2.2.2.2.2 a h0 h1
  obtain ⟨a1, a2, a3, a4, a5, a6, a7⟩ := g2 hp
  have J : ZJ_M_goHold_25 a b (410 + 15 * a) (Rz_held (Sz_readers σ a.toNat)) b (410 + 15 * a + 2) W Q := by
    unfold ZJ_M_goHold_25
    refine ⟨by omega, ?_⟩
    rintro _ rfl
    refine ⟨by omega, by omega, ?_⟩
    rintro _ rfl
    have hk : ∀ m : Nat, m ≠ (410 + 15 * a + 2).toNat → m ≠ (410 + 15 * a + 6).toNat → updz (updz W (410 + 15 * a + 2).toNat b) (410 + 15 * a + 6).toNat 0 m = W m := fun m m0 m1 => by rw [updz_ne m1, updz_ne m0]
    refine k _ (r.setr (by omega) h0 h1 (fun m m0 m1 => hk m (by omega) (by omega)) ?_)
    unfold RelR
    rw [rd_eq]
    refine ⟨by rw [hk _ (by omega) (by omega)]; exact g1, fun _ => ⟨by rw [hk _ (by omega) (by omega)]; exact a1, by rw [updz_ne (by omega), updz_eq], by rw [hk _ (by omega) (by omega)]; exact a3, by rw [hk _ (by omega) (by omega)]; exact a4, by rw [hk _ (by omega) (by omega)]; exact a5, updz_eq, fun q q0 q1 => by rw [hk _ (by omega) (by omega)]; exact a7 q q0 q1⟩, by rw [hk _ (by omega) (by omega)]; exact g3, fun c => absurd (show Rz_present (Sz_readers σ a.toNat) = 0 from c) (by omega)⟩
  refine m_reader h0 h1 ⟨by omega, by omega, ?_⟩
  rw [a2]
  refine ⟨fun c => ?_, fun c => ?_⟩
  · rw [c] at J ⊢
    exact J
  · rw [show b = 1 by omega] at J ⊢
    exact J
theorem m_put {what v : Int} {Q : Int → (Nat → Int) → Prop} (h : SOK σ T) (r : Rel σ W) (h0 : 0 ≤ what) (h1 : what < 6) (k : ∀ W', Rel (stS σ what v) W' → Q (Sz_settings σ what.toNat) W') : Z_M_put what v W Q := by
  have h3 := h.1.1
  refine ⟨by omega, by omega, by omega, ?_⟩
  rintro _ rfl
  rw [r.2.2.1 what h0 h1]
  have hk : ∀ m : Nat, m ≠ (610 + what).toNat → updz W (610 + what).toNat v m = W m := fun m m0 => updz_ne m0
  refine k _ ⟨⟨?_, ?_, ?_, ?_, ?_, ?_, ?_⟩, fun q q0 q1 => ?_, fun q q0 q1 => ?_, fun i i0 i1 => ?_, fun i i0 i1 => ?_, fun b b0 b1 => ?_⟩
  · rw [hk _ (by omega)]; exact r.1.1
  · rw [hk _ (by omega)]; exact r.1.2.1
  · rw [hk _ (by omega)]; exact r.1.2.2.1
  · rw [hk _ (by omega)]; exact r.1.2.2.2.1
  · rw [hk _ (by omega)]; exact r.1.2.2.2.2.1
  · rw [hk _ (by omega)]; exact r.1.2.2.2.2.2.1
  · rw [hk _ (by omega)]; exact r.1.2.2.2.2.2.2
  · rw [hk _ (by omega)]; exact r.2.1 q q0 q1
  · show _ = updz (Sz_settings σ) what.toNat v q.toNat
    by_cases z : q = what
    · rw [z, updz_eq, updz_eq]
    · rw [hk _ (by omega), updz_ne (by omega)]
      exact r.2.2.1 q q0 q1
  · have i1 : i < Lz_end (Sz_log σ) := i1
    obtain ⟨b, b1, b2, b3⟩ := r.2.2.2.1 i i0 i1
    exact ⟨b, b1, b2, by rw [hk _ (by omega)]; exact b3⟩
  · have i1 : i < Lz_end (Sz_log σ) := i1
    rw [hk _ (by omega)]; exact r.2.2.2.2.1 i i0 i1
  · exact (r.2.2.2.2.2 b b0 b1).keep b0 b1 rfl (fun m m0 m1 => hk m (by omega))
end PR
