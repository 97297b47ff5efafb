/-! ### the model's ticks -/
section PN
variable {σ : SZ} {W : Nat → Int} {T : Int}
theorem RelR.keep {σ' : SZ} {W' : Nat → Int} {a : Int} (h : RelR σ W a) (h0 : 0 ≤ a) (h1 : a < 8) (hr : Sz_readers σ' a.toNat = Sz_readers σ a.toNat) (hw : ∀ n : Nat, 410 ≤ n → n < 610 → W' n = W n) : RelR σ' W' a := by
  obtain ⟨g1, g2, g3, g4⟩ := h
  unfold RelR
  rw [hr]
  refine ⟨by rw [hw _ (by omega) (by omega)]; exact g1, fun c => ?_, by rw [hw _ (by omega) (by omega)]; exact g3, fun c c2 => ?_⟩
  · obtain ⟨a1, a2, a3, a4, a5, a6, a7⟩ := g2 c
    rw [hw _ (by omega) (by omega), hw _ (by omega) (by omega), hw _ (by omega) (by omega), hw _ (by omega) (by omega), hw _ (by omega) (by omega), hw _ (by omega) (by omega)]
    exact ⟨a1, a2, a3, a4, a5, a6, fun k k0 k1 => by rw [hw _ (by omega) (by omega)]; exact a7 k k0 k1⟩
  · obtain ⟨a1, a2⟩ := g4 c c2
    rw [hw _ (by omega) (by omega)]
    exact ⟨a1, fun k k0 k1 => by rw [hw _ (by omega) (by omega)]; exact a2 k k0 k1⟩
theorem m_holders {row : Int} {Q : Int → Prop} (h : SOK σ T) (r : Rel σ W) (k : Q (holders σ row)) : Z_M_holders row W Q := by
  have key : ∀ (n i : Nat), i + n = 8 → ZL_M_holders_4 (n + 1) row W row (sumN (hz σ row) i) i Q := by
    intro n
    induction n with
    | zero =>
      intro i hi
      rw [ZL_M_holders_4]
      have e : i = 8 := by omega
      subst e
      exact ⟨fun _ => k, fun c => absurd c (by omega)⟩
    | succ n ih =>
      intro i hi
      rw [ZL_M_holders_4]
      have hb := sumN_in (f := hz σ row) i (fun j _ => by show 0 ≤ (if _ then _ else _ : Int) ∧ (if _ then _ else _ : Int) ≤ 1; split <;> omega)
      have h9 := ih (i + 1) (by omega)
      have e0 : ((i : Int)).toNat = i := by omega
      have hr := h.2.2.2 i (by omega)
      obtain ⟨g1, g2, -, -⟩ := r.2.2.2.2.2 i (by omega) (by omega)
      rw [e0] at g1 g2
      have no : hz σ row i = 0 → zin (sumN (hz σ row) i + 0) ∧ zin ((i : Int) + 1) ∧ ZL_M_holders_4 (n + 1) row W row (sumN (hz σ row) i + 0) ((i : Int) + 1) Q := by
        intro e2
        have e3 : sumN (hz σ row) (i + 1) = sumN (hz σ row) i + 0 := by rw [← e2]; rfl
        rw [e3] at h9
        exact ⟨by omega, by omega, h9⟩
      refine ⟨fun c => absurd c (by omega), fun _ => m_reader (by omega) (by omega) ⟨by omega, by omega, ?_⟩⟩
      rw [Int.add_zero, g1]
      refine ⟨fun c => no (if_neg (fun q => c (hr.2.2.2.1 q.1).1)), fun c => ?_⟩
      obtain ⟨a1, a2, -⟩ := g2 c
      refine ⟨by omega, by omega, ?_⟩
      rw [a2]
      refine ⟨fun c2 => no (if_neg (fun q => c2 q.1)), fun c2 => ?_⟩
      refine ⟨by omega, by omega, ?_⟩
      rw [a1]
      refine ⟨fun c3 => no (if_neg (fun q => by omega)), fun c3 => ⟨by omega, by omega, ?_⟩⟩
      have e2 : hz σ row i = 1 := if_pos ⟨c2, by omega⟩
      have e3 : sumN (hz σ row) (i + 1) = sumN (hz σ row) i + 1 := by rw [← e2]; rfl
      rw [e3] at h9
      exact h9
  exact ⟨_, key 8 0 rfl⟩
theorem m_isDue {j : Int} {Q : Int → Prop} (h : SOK σ T) (r : Rel σ W) (h0 : 0 ≤ j) (h1 : j < Lz_begun (Sz_log σ)) (k1 : dueS σ (lnx (Sz_log σ) j - 1) → Q 1) (k0 : ¬ dueS σ (lnx (Sz_log σ) j - 1) → Q 0) : Z_M_isDue (Lz_starts (Sz_log σ) j.toNat) W Q := by
  have h3 := h.1.1
  have h4 := h.1.nx1 h0 h1
  have h5 := h.1.st_end h0 h1
  have h6 := h.1.2.2.2.2.1 (lnx (Sz_log σ) j - 1).toNat (by omega)
  have h7 := h.2.1
  have s2 : W (Int.toNat 612) = Sz_settings σ 2 := r.2.2.1 2 (by omega) (by omega)
  have s3 : W (Int.toNat 613) = Sz_settings σ 3 := r.2.2.1 3 (by omega) (by omega)
  have tm := r.2.2.2.2.1 (lnx (Sz_log σ) j - 1) (by omega) (by omega)
  have hJ : ¬ (0 < Sz_settings σ 2 ∧ Sz_settings σ 2 ≤ Sz_time σ - Lz_times (Sz_log σ) (lnx (Sz_log σ) j - 1).toNat) → ZJ_M_isDue_42 (Lz_starts (Sz_log σ) j.toNat) W 0 Q := by
    intro c
    refine ⟨fun c => absurd rfl c, fun _ => ⟨by omega, by omega, m_sizesAll h r ⟨by omega, ?_⟩⟩⟩
    rw [s3]
    exact ⟨fun c2 => k0 (fun q => q.elim (fun q => by omega) c), fun c2 => k1 (Or.inl (by omega))⟩
  unfold Z_M_isDue
  refine m_behind h r h0 h1 ⟨by omega, ?_⟩
  rw [s2]
  refine ⟨fun c => hJ (fun q => by omega), fun c => ⟨by omega, by omega, by omega, by omega, by omega, ?_⟩⟩
  rw [r.1.2.2.1, tm]
  exact ⟨by omega, fun c2 => hJ (fun q => by omega), fun c2 => ⟨fun _ => k1 (Or.inr (by omega)), fun c => absurd c (by decide)⟩⟩
theorem m_isHeld {j : Int} {Q : Int → Prop} (h : SOK σ T) (r : Rel σ W) (h0 : 0 ≤ j) (h1 : j < Lz_begun (Sz_log σ)) (k1 : 0 < holders σ (lnx (Sz_log σ) j - 1) → Q 1) (k0 : ¬ 0 < holders σ (lnx (Sz_log σ) j - 1) → Q 0) : Z_M_isHeld (Lz_starts (Sz_log σ) j.toNat) W Q := by
  have h3 := h.1.1
  have h4 := h.1.nx1 h0 h1
  have h5 := h.1.st_end h0 h1
  exact m_behind h r h0 h1 ⟨by omega, m_holders h r ⟨fun c => k0 (by omega), fun c => k1 (by omega)⟩⟩
theorem m_whyStays {Q : Int → Prop} (h : SOK σ T) (r : Rel σ W) (k : Q (whyS σ)) : Z_M_whyStays W Q := by
  have h3 := h.1.1
  unfold whyS at k
  refine m_segments h r ⟨fun c => ⟨by omega, ?_⟩, fun c => ?_⟩
  · rw [if_neg (by omega)] at k
    have g := h.1.2.2.2.1 (by omega)
    rw [r.1.1, ← g.2.2.1]
    refine m_isDue h r (by omega) (by omega) (fun c2 => ⟨fun _ => ⟨by omega, m_isHeld h r (by omega) (by omega) (fun c3 => ⟨fun c => absurd c (by decide), fun _ => ?_⟩) (fun c3 => ⟨fun _ => ?_, fun c => absurd rfl c⟩)⟩, fun c => absurd c (by decide)⟩) (fun c2 => ⟨fun c => absurd rfl c, fun _ => ?_⟩)
    · rw [if_neg (fun q => q c2), if_pos c3] at k
      exact k
    · rw [if_neg (fun q => q c2), if_neg c3] at k
      exact k
    · rw [if_pos c2] at k
      exact k
  · rw [if_pos (by omega)] at k
    exact k
theorem m_drop {Q : (Nat → Int) → Prop} (h : SOK σ T) (r : Rel σ W) (h2 : 2 ≤ Lz_begun (Sz_log σ) - Lz_dropped (Sz_log σ)) (k : ∀ W', Rel (dropS σ) W' → Q W') : Z_M_drop W Q := by
  have h3 := h.1.1
  have g := h.1.2.2.2.1 (by omega)
  have h4 := h.1.nx1 (j := Lz_dropped (Sz_log σ)) (by omega) (by omega)
  have key : ∀ (n : Nat) (i : Int) (V d : Nat → Int), i + n = lnx (Sz_log σ) (Lz_dropped (Sz_log σ)) → Lz_first (Sz_log σ) ≤ i → (∀ m : Nat, m < 402 ∨ 410 ≤ m → V m = W m) → (∀ q : Int, 0 ≤ q → q < 8 → V (402 + q).toNat = d q.toNat) → dropFn (Lz_keys (Sz_log σ)) (Lz_values (Sz_log σ)) n i d = dropFn (Lz_keys (Sz_log σ)) (Lz_values (Sz_log σ)) (lnx (Sz_log σ) (Lz_dropped (Sz_log σ)) - Lz_first (Sz_log σ)).toNat (Lz_first (Sz_log σ)) (Lz_dropValues (Sz_log σ)) → ZL_M_drop_16 (n + 1) (lnx (Sz_log σ) (Lz_dropped (Sz_log σ))) i V Q := by
    intro n
    induction n with
    | zero =>
      intro i V d hi h0 hV hd hf
      rw [ZL_M_drop_16]
      refine ⟨fun _ => ⟨by omega, ?_⟩, fun c => absurd c (by omega)⟩
      rintro _ rfl
      have e17 : updz V (Int.toNat 400) (lnx (Sz_log σ) (Lz_dropped (Sz_log σ))) (Int.toNat 617) = Lz_dropped (Sz_log σ) := by
        rw [updz_ne (by decide), hV _ (by decide)]
        exact r.1.2.2.2.1
      refine ⟨by omega, by omega, ?_⟩
      rw [e17]
      refine ⟨by omega, ?_⟩
      rintro _ rfl
      have hk : ∀ m : Nat, m ≠ 400 → m ≠ 617 → updz (updz V (Int.toNat 400) (lnx (Sz_log σ) (Lz_dropped (Sz_log σ)))) (Int.toNat 617) (Lz_dropped (Sz_log σ) + 1) m = V m := fun m a b => by
        rw [updz_ne (show m ≠ Int.toNat 617 from b), updz_ne (show m ≠ Int.toNat 400 from a)]
      refine k _ ⟨⟨?_, ?_, ?_, ?_, ?_, ?_, ?_⟩, fun q q0 q1 => ?_, fun q q0 q1 => ?_, fun i i0 i1 => ?_, fun i i0 i1 => ?_, fun a a0 a1 => ?_⟩
      · rw [updz_ne (by decide), updz_eq]
        rfl
      · rw [hk _ (by decide) (by decide), hV _ (by decide)]
        exact r.1.2.1
      · rw [hk _ (by decide) (by decide), hV _ (by decide)]
        exact r.1.2.2.1
      · rw [updz_eq]
        rfl
      · rw [hk _ (by decide) (by decide), hV _ (by decide)]
        exact r.1.2.2.2.2.1
      · rw [hk _ (by decide) (by decide), hV _ (by decide)]
        exact r.1.2.2.2.2.2.1
      · rw [hk _ (by decide) (by decide), hV _ (by decide)]
        exact r.1.2.2.2.2.2.2
      · rw [hk _ (by omega) (by omega), hd q q0 q1]
        exact congrFun hf _
      · rw [hk _ (by omega) (by omega), hV _ (by omega)]
        exact r.2.2.1 q q0 q1
      · have i1 : i < Lz_end (Sz_log σ) := i1
        obtain ⟨b, b1, b2, b3⟩ := r.2.2.2.1 i i0 i1
        exact ⟨b, b1, b2, by rw [hk _ (by omega) (by omega), hV _ (by omega)]; exact b3⟩
      · have i1 : i < Lz_end (Sz_log σ) := i1
        rw [hk _ (by omega) (by omega), hV _ (by omega)]
        exact r.2.2.2.2.1 i i0 i1
      · exact (r.2.2.2.2.2 a a0 a1).keep a0 a1 rfl (fun m m0 m1 => by rw [hk _ (by omega) (by omega), hV _ (by omega)])
    | succ n ih =>
      intro i V d hi h0 hV hd hf
      rw [ZL_M_drop_16]
      have h7 := h.1.2.2.2.2.1 i.toNat (by omega)
      have hVi : V i.toNat = W i.toNat := hV _ (by omega)
      have hrow := r.row h (i := i) (by omega) (by omega)
      refine ⟨fun c => absurd c (by omega), fun _ => ⟨by omega, by omega, ?_⟩⟩
      rw [Int.zero_add, hVi, hrow.1]
      refine ⟨by omega, by omega, ?_⟩
      rw [Int.zero_add, hVi, hrow.2.2.1]
      refine ⟨by omega, by omega, ?_⟩
      rintro _ rfl
      refine ⟨by omega, ih (i + 1) _ (updz d (Lz_keys (Sz_log σ) i.toNat).toNat (Lz_values (Sz_log σ) i.toNat)) (by omega) (by omega) (fun m hm => ?_) (fun q q0 q1 => ?_) hf⟩
      · rw [updz_ne (by omega)]
        exact hV m hm
      · by_cases z : q = Lz_keys (Sz_log σ) i.toNat
        · rw [z, updz_eq, updz_eq]
        · rw [updz_ne (by omega), updz_ne (by omega)]
          exact hd q q0 q1
  unfold Z_M_drop
  refine ⟨by omega, ?_⟩
  rw [r.1.1, ← g.2.2.1]
  refine m_behind h r (by omega) (by omega) ⟨by omega, ?_⟩
  rw [g.2.2.1]
  exact ⟨_, key (lnx (Sz_log σ) (Lz_dropped (Sz_log σ)) - Lz_first (Sz_log σ)).toNat _ W (Lz_dropValues (Sz_log σ)) (by omega) (by omega) (fun _ _ => rfl) (fun q q0 q1 => r.2.1 q q0 q1) rfl⟩
theorem m_told {a b : Int} {Q : Int → Prop} (h : SOK σ T) (r : Rel σ W) (h0 : 0 ≤ a) (h1 : a < 8) (h2 : Lz_first (Sz_log σ) ≤ b) (h3 : b ≤ Lz_end (Sz_log σ)) (k : Q (toldX (Sz_log σ) a b)) : Z_M_told a b W Q := by
  have h5 := h.1.1
  have key2 : ∀ (n : Nat) (i v : Int), i + n = b → 0 ≤ i → Q (toldFn (Lz_keys (Sz_log σ)) (Lz_values (Sz_log σ)) a n v i) → ZL_M_told_15 (n + 1) a b W a b v i Q := by
    intro n
    induction n with
    | zero =>
      intro i v hi h0 kk
      rw [ZL_M_told_15]
      exact ⟨fun _ => kk, fun c => absurd c (by omega)⟩
    | succ n ih =>
      intro i v hi h0 kk
      rw [ZL_M_told_15]
      refine ⟨fun c => absurd c (by omega), fun c => m_key h r h0 (by omega) ⟨fun c2 => ⟨by omega, ih (i + 1) v (by omega) (by omega) ?_⟩, fun c2 => m_value h r h0 (by omega) ⟨by omega, ih (i + 1) _ (by omega) (by omega) ?_⟩⟩⟩
      · unfold toldFn at kk
        rw [if_neg c2] at kk
        exact kk
      · unfold toldFn at kk
        rw [if_pos c2] at kk
        exact kk
  refine ⟨by omega, by omega, by omega, ?_⟩
  rw [r.1.1, r.2.1 a h0 h1]
  exact ⟨_, key2 (b - Lz_first (Sz_log σ)).toNat _ _ (by omega) (by omega) k⟩
theorem m_toldBack {a b : Int} {Q : Int → Prop} (h : SOK σ T) (r : Rel σ W) (h0 : 0 ≤ a) (h1 : a < 8) (h2 : Lz_first (Sz_log σ) ≤ b) (h3 : b ≤ Lz_end (Sz_log σ)) (k : Q (backX (Sz_log σ) a b)) : Z_M_toldBack a b W Q := by
  have h5 := h.1.1
  have key2 : ∀ (n : Nat) (i : Int), i + 1 = Lz_first (Sz_log σ) + n → i < Lz_end (Sz_log σ) → Q (backFn (Lz_keys (Sz_log σ)) (Lz_values (Sz_log σ)) a (Lz_dropValues (Sz_log σ) a.toNat) n i) → ZL_M_toldBack_4 (n + 1) a b W a i Q := by
    intro n
    induction n with
    | zero =>
      intro i hi hl kk
      rw [ZL_M_toldBack_4, r.1.1]
      refine ⟨by omega, fun _ => ?_, fun c => absurd c (by omega)⟩
      unfold ZJ_M_toldBack_28
      rw [r.1.1]
      refine ⟨by omega, fun _ => ⟨by omega, by omega, ?_⟩, fun c => absurd c (by omega)⟩
      rw [r.2.1 a h0 h1]
      exact kk
    | succ n ih =>
      intro i hi hl kk
      rw [ZL_M_toldBack_4, r.1.1]
      unfold backFn at kk
      refine ⟨by omega, fun c => absurd c (by omega), fun _ => m_key h r (by omega) hl ⟨fun c2 => ?_, fun c2 => ⟨by omega, ih (i + -1) (by omega) (by omega) ?_⟩⟩⟩
      · rw [if_pos c2] at kk
        unfold ZJ_M_toldBack_28
        rw [r.1.1]
        exact ⟨by omega, fun c => absurd c (by omega), fun _ => m_value h r (by omega) hl kk⟩
      · rw [if_neg c2] at kk
        exact kk
  exact ⟨_, by omega, key2 (b - Lz_first (Sz_log σ)).toNat (b - 1) (by omega) (by omega) k⟩
theorem lenFrom_held {x : LZ} {p : Int} (h : LOK x T) (h1 : Lz_first x ≤ p) : lenFrom x p = Lz_lengthsBelow x (Lz_end x).toNat - Lz_lengthsBelow x p.toNat := by
  unfold lenFrom
  split
  · have e : p = Lz_first x := by omega
    rw [e]
    exact h.2.1.2.2
  · rfl
theorem m_loseR {a : Int} {w : Int} {V : Nat → Int} {σ' : SZ} (r : Rel σ W) (he : Lz_end (Sz_log σ) ≤ 200) (h0 : 0 ≤ a) (h1 : a < 8) (hp : Rz_present (Sz_readers σ a.toNat) = 1) (hV : ∀ m : Nat, m ≠ (410 + 15 * a + 2).toNat → m ≠ (410 + 15 * a + 6).toNat → m ≠ 618 → m ≠ 619 → V m = W m) (hV2 : V (410 + 15 * a + 2).toNat = 0) (hV6 : V (410 + 15 * a + 6).toNat = w)
    (e1 : Sz_log σ' = Sz_log σ) (e2 : Sz_settings σ' = Sz_settings σ) (e3 : Sz_time σ' = Sz_time σ) (e4 : Sz_missed σ' = Sz_missed σ) (e5 : V 618 = Sz_lostByLength σ') (e6 : V 619 = Sz_lostBySleep σ') (er : Sz_readers σ' a.toNat = Rz_set_held (Rz_set_lostBy (Sz_readers σ a.toNat) w) 0) (ej : ∀ j : Nat, j ≠ a.toNat → Sz_readers σ' j = Sz_readers σ j) : Rel σ' V := by
  refine ⟨⟨?_, ?_, ?_, ?_, e5, e6, ?_⟩, fun q q0 q1 => ?_, fun q q0 q1 => ?_, fun i i0 i1 => ?_, fun i i0 i1 => ?_, fun b b0 b1 => ?_⟩
  · rw [hV _ (by omega) (by omega) (by decide) (by decide), e1]
    exact r.1.1
  · rw [hV _ (by omega) (by omega) (by decide) (by decide), e1]
    exact r.1.2.1
  · rw [hV _ (by omega) (by omega) (by decide) (by decide), e3]
    exact r.1.2.2.1
  · rw [hV _ (by omega) (by omega) (by decide) (by decide), e1]
    exact r.1.2.2.2.1
  · rw [hV _ (by omega) (by omega) (by decide) (by decide), e4]
    exact r.1.2.2.2.2.2.2
  · rw [hV _ (by omega) (by omega) (by omega) (by omega), e1]
    exact r.2.1 q q0 q1
  · rw [hV _ (by omega) (by omega) (by omega) (by omega), e2]
    exact r.2.2.1 q q0 q1
  · rw [e1] at i1 ⊢
    obtain ⟨b, b1, b2, b3⟩ := r.2.2.2.1 i i0 i1
    exact ⟨b, b1, b2, by rw [hV _ (by omega) (by omega) (by omega) (by omega)]; exact b3⟩
  · rw [e1] at i1 ⊢
    rw [hV _ (by omega) (by omega) (by omega) (by omega)]
    exact r.2.2.2.2.1 i i0 i1
  · by_cases z : b = a
    · subst z
      obtain ⟨g1, g2, g3, g4⟩ := r.2.2.2.2.2 b b0 b1
      obtain ⟨a1, a2, a3, a4, a5, a6, a7⟩ := g2 hp
      unfold RelR
      rw [er]
      refine ⟨by rw [hV _ (by omega) (by omega) (by omega) (by omega)]; exact g1, fun _ => ⟨?_, hV2, ?_, ?_, ?_, hV6, fun k k0 k1 => ?_⟩, by rw [hV _ (by omega) (by omega) (by omega) (by omega)]; exact g3, fun c => absurd (show Rz_present (Sz_readers σ b.toNat) = 0 from c) (by omega)⟩
      · rw [hV _ (by omega) (by omega) (by omega) (by omega)]
        exact a1
      · rw [hV _ (by omega) (by omega) (by omega) (by omega)]
        exact a3
      · rw [hV _ (by omega) (by omega) (by omega) (by omega)]
        exact a4
      · rw [hV _ (by omega) (by omega) (by omega) (by omega)]
        exact a5
      · rw [hV _ (by omega) (by omega) (by omega) (by omega)]
        exact a7 k k0 k1
    · have g := r.2.2.2.2.2 b b0 b1
      obtain ⟨g1, g2, g3, g4⟩ := g
      unfold RelR
      rw [ej b.toNat (by omega)]
      refine ⟨by rw [hV _ (by omega) (by omega) (by omega) (by omega)]; exact g1, fun c => ?_, by rw [hV _ (by omega) (by omega) (by omega) (by omega)]; exact g3, fun c c2 => ?_⟩
      · obtain ⟨a1, a2, a3, a4, a5, a6, a7⟩ := g2 c
        refine ⟨?_, ?_, ?_, ?_, ?_, ?_, fun k k0 k1 => ?_⟩
        · rw [hV _ (by omega) (by omega) (by omega) (by omega)]; exact a1
        · rw [hV _ (by omega) (by omega) (by omega) (by omega)]; exact a2
        · rw [hV _ (by omega) (by omega) (by omega) (by omega)]; exact a3
        · rw [hV _ (by omega) (by omega) (by omega) (by omega)]; exact a4
        · rw [hV _ (by omega) (by omega) (by omega) (by omega)]; exact a5
        · rw [hV _ (by omega) (by omega) (by omega) (by omega)]; exact a6
        · rw [hV _ (by omega) (by omega) (by omega) (by omega)]; exact a7 k k0 k1
      · obtain ⟨a1, a2⟩ := g4 c c2
        refine ⟨?_, fun k k0 k1 => ?_⟩
        · rw [hV _ (by omega) (by omega) (by omega) (by omega)]; exact a1
        · rw [hV _ (by omega) (by omega) (by omega) (by omega)]; exact a2 k k0 k1
theorem m_lose {a : Nat} {Q : (Nat → Int) → Prop} (h : SOK σ T) (r : Rel σ W) (h1 : a < 8) (k : ∀ W', Rel (chk σ a) W' → Q W') : Z_M_lose a W Q := by
  have h3 := h.1.1
  have h2 := h.2.1
  have hr := h.2.2.2 a h1
  have e0 : ((a : Int)).toNat = a := by omega
  have g := r.2.2.2.2.2 a (by omega) (by omega)
  obtain ⟨g1, g2, g3, g4⟩ := g
  rw [e0] at g1 g2
  have s4 : W (Int.toNat 614) = Sz_settings σ 4 := r.2.2.1 4 (by omega) (by omega)
  have s5 : W (Int.toNat 615) = Sz_settings σ 5 := r.2.2.1 5 (by omega) (by omega)
  unfold chk at k
  refine m_reader (by omega) (by omega) ⟨by omega, by omega, ?_⟩
  rw [Int.add_zero, g1]
  refine ⟨fun c => ?_, fun c => ?_⟩
  · rw [if_neg (fun q => by have := (hr.2.2.2.1 q).1; omega)] at k
    exact k W r
  · have hp : Rz_present (Sz_readers σ a) = 1 := by rcases hr.1 with q | q <;> omega
    obtain ⟨a1, a2, a3, a4, a5, a6, a7⟩ := g2 hp
    refine ⟨by omega, by omega, ?_⟩
    rw [a2]
    refine ⟨fun c2 => ?_, fun c2 => ?_⟩
    · have hh : Rz_held (Sz_readers σ a) = 1 := by rcases hr.2.2.1 with q | q <;> omega
      have hf := (hr.2.2.2.1 hh).2
      have h5 := hr.2.2.2.2.1 (Or.inl hp)
      have h6 := hr.2.2.2.2.2 hp
      have hl := lenFrom_held h.1 hf
      rw [if_pos hh, hl] at k
      -- what is written when the hold goes
      have put : ∀ (u : Int), (∀ W', Rel (if u = 0 then loseT σ a else loseL σ a) W' → Q W') → ZJ_M_lose_101 a (410 + 15 * (a : Int)) u W Q := by
        intro u ku
        unfold ZJ_M_lose_101
        refine ⟨by omega, by omega, ?_⟩
        rintro _ rfl
        refine ⟨fun cu => ⟨by omega, ?_⟩, fun cu => ⟨by omega, ?_⟩⟩
        · rw [if_pos cu] at ku
          unfold ZJ_M_lose_121
          refine ⟨by omega, ?_⟩
          rintro _ rfl
          refine ⟨fun _ => ?_, fun q => absurd cu q⟩
          have e19 : updz (updz W (410 + 15 * (a : Int) + 2).toNat 0) (410 + 15 * (a : Int) + 6).toNat 2 (Int.toNat (618 + 1)) = Sz_lostBySleep σ := by
            rw [updz_ne (by omega), updz_ne (by omega)]
            exact r.1.2.2.2.2.2.1
          refine ⟨by omega, by omega, by omega, ?_⟩
          rw [e19]
          refine ⟨by omega, ?_⟩
          rintro _ rfl
          refine ku _ (m_loseR (a := a) (w := 2) r (by omega) (by omega) (by omega) (by rw [e0]; exact hp) (fun m m1 m2 m3 m4 => ?_) ?_ ?_ rfl rfl rfl rfl ?_ ?_ (by rw [e0]; exact loseT_e) (fun j hj => loseT_j (by omega)))
          · rw [updz_ne (show m ≠ Int.toNat (618 + 1) from m4), updz_ne m2, updz_ne m1]
          · rw [updz_ne (by omega), updz_ne (by omega), updz_eq]
          · rw [updz_ne (by omega), updz_eq]
          · rw [updz_ne (by omega), updz_ne (by omega), updz_ne (by omega)]
            exact r.1.2.2.2.2.1
          · exact updz_eq
        · rw [if_neg cu] at ku
          unfold ZJ_M_lose_121
          refine ⟨by omega, ?_⟩
          rintro _ rfl
          refine ⟨fun q => absurd q cu, fun _ => ?_⟩
          have e18 : updz (updz W (410 + 15 * (a : Int) + 2).toNat 0) (410 + 15 * (a : Int) + 6).toNat 1 (Int.toNat (618 + 0)) = Sz_lostByLength σ := by
            rw [updz_ne (by omega), updz_ne (by omega)]
            exact r.1.2.2.2.2.1
          refine ⟨by omega, by omega, by omega, ?_⟩
          rw [e18]
          refine ⟨by omega, ?_⟩
          rintro _ rfl
          refine ku _ (m_loseR (a := a) (w := 1) r (by omega) (by omega) (by omega) (by rw [e0]; exact hp) (fun m m1 m2 m3 m4 => ?_) ?_ ?_ rfl rfl rfl rfl ?_ ?_ (by rw [e0]; exact loseL_e) (fun j hj => loseL_j (by omega)))
          · rw [updz_ne (show m ≠ Int.toNat (618 + 0) from m3), updz_ne m2, updz_ne m1]
          · rw [updz_ne (by omega), updz_ne (by omega), updz_eq]
          · rw [updz_ne (by omega), updz_eq]
          · exact updz_eq
          · rw [updz_ne (by omega), updz_ne (by omega), updz_ne (by omega)]
            exact r.1.2.2.2.2.2.1
      -- asleep or not
      have J57 : ∀ u : Int, (u = 0 ∨ u = 1) → (u = 1 → ∀ W', Rel (loseL σ a) W' → Q W') → (u = 0 → 0 < Sz_settings σ 5 ∧ Sz_settings σ 5 ≤ Sz_time σ - Rz_lastRead (Sz_readers σ a) → ∀ W', Rel (loseT σ a) W' → Q W') → (u = 0 → ¬ (0 < Sz_settings σ 5 ∧ Sz_settings σ 5 ≤ Sz_time σ - Rz_lastRead (Sz_readers σ a)) → Q W) → ZJ_M_lose_57 a (410 + 15 * (a : Int)) u W Q := by
        intro u hu k1 k2 k3
        have J90 : ∀ w : Int, (u = 0 → w = 0 → Q W) → (u = 0 → w ≠ 0 → ∀ W', Rel (loseT σ a) W' → Q W') → ZJ_M_lose_90 a (410 + 15 * (a : Int)) u w W Q := by
          intro w q1 q2
          refine ⟨fun cu => put u (fun W' hW => ?_), fun cu => ⟨fun cw => q1 cu cw, fun cw => put u (fun W' hW => ?_)⟩⟩
          · rw [if_neg cu] at hW
            exact k1 (by omega) W' hW
          · rw [if_pos cu] at hW
            exact q2 cu cw W' hW
        unfold ZJ_M_lose_57
        rw [s5, r.1.2.2.1, a5]
        refine ⟨by omega, fun c5 => J90 0 (fun cu _ => k3 cu (by omega)) (fun _ q => absurd rfl q), fun c5 => ⟨by omega, by omega, by omega, by omega, by omega, fun c6 => J90 0 (fun cu _ => k3 cu (by omega)) (fun _ q => absurd rfl q), fun c6 => J90 1 (fun _ q => absurd q (by decide)) (fun cu _ => k2 cu (by omega))⟩⟩
      refine ⟨by omega, ?_⟩
      rw [s4]
      have J56 : ¬ (0 < Sz_settings σ 4 ∧ Sz_settings σ 4 < Lz_lengthsBelow (Sz_log σ) (Lz_end (Sz_log σ)).toNat - Lz_lengthsBelow (Sz_log σ) (Rz_place (Sz_readers σ a)).toNat) → ZJ_M_lose_56 a (410 + 15 * (a : Int)) W Q := by
        intro c4
        rw [if_neg c4] at k
        refine J57 0 (Or.inl rfl) (fun q => absurd q (by decide)) (fun _ c5 => ?_) (fun _ c5 => ?_)
        · rw [if_pos c5] at k
          exact k
        · rw [if_neg c5] at k
          exact k W r
      refine ⟨fun c4 => J56 (by omega), fun c4 => ⟨by omega, by omega, by omega, ?_⟩⟩
      rw [a1, r.1.2.1]
      refine m_sizes h r h5.1 h5.2 (by omega) ⟨by omega, fun c5 => J56 (by omega), fun c5 => ?_⟩
      rw [if_pos (by omega)] at k
      exact J57 1 (Or.inr rfl) (fun _ => k) (fun q => absurd q (by decide)) (fun q => absurd q (by decide))
    · rw [if_neg (by omega)] at k
      exact k W r
end PN
