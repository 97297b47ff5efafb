/-! ### the history -/
def hSlot (u : HZ) (j : Int) : Nat := ((Hz_next u + 14 - Hz_count u + j) % 14).toNat
def HRel (u : HZ) (B : Nat → Int) (n : Int) (T : Int) : Prop := ((0 ≤ Hz_next u ∧ Hz_next u < 14) ∧ (0 ≤ Hz_count u ∧ Hz_count u ≤ 14) ∧ n = Hz_count u) ∧ ∀ j : Int, 0 ≤ j → j < Hz_count u → SOK (Hz_states u (hSlot u j)) T ∧ Rel (Hz_states u (hSlot u j)) (fun m => B (621 * j.toNat + m))
section PH
variable {σ : SZ} {u : HZ} {B : Nat → Int} {n T : Int}
theorem HRel.mono {T' : Int} (h : HRel u B n T) (e : T ≤ T') (hT : T' ≤ 5000000) : HRel u B n T' := ⟨h.1, fun j a b => ⟨(h.2 j a b).1.mono e hT, (h.2 j a b).2⟩⟩
abbrev remH (u : HZ) (z : SZ) : HZ := Hz_set_count (Hz_set_next (Hz_seti_states u (Hz_next u).toNat z) ((Hz_next u + 1) % 14)) (zminZ (Hz_count u + 1) 14)
theorem q_remember {Q : HZ → Prop} (h : HRel u B n T) (s : SOK σ T) (k : ∀ z, SEq z σ → Q (remH u z)) : Z_H_remember u σ Q := by
  obtain ⟨⟨h1, h2, h3⟩, -⟩ := h
  unfold Z_H_remember Z_H_stateAt
  refine ⟨fun c => absurd c (by omega), fun _ => ⟨fun c => absurd c (by omega), fun _ => ⟨by omega, fun c => (nomatch c), fun i c => ?_⟩⟩⟩
  cases c
  refine q_S_takeOver s (fun z hz => ?_)
  rintro _ rfl
  refine ⟨by show -2147483648 ≤ Hz_next u + 1 ∧ Hz_next u + 1 < 2147483648; omega, ?_⟩
  rintro _ rfl
  refine ⟨by show -2147483648 ≤ Hz_count u + 1 ∧ Hz_count u + 1 < 2147483648; omega, ?_⟩
  rintro _ rfl
  have e := k z hz
  unfold remH at e
  rw [← Int.tmod_eq_emod_of_nonneg (show 0 ≤ Hz_next u + 1 by omega)] at e
  exact e
/-- what the model's book is after a remembering -/
def remB (B V : Nat → Int) (n : Int) (C : Nat → Int) : Prop := (n ≠ 14 → (∀ i : Nat, (i : Int) < 621 * n → C i = B i) ∧ ∀ m : Nat, m < 621 → C (621 * n.toNat + m) = V m) ∧ (n = 14 → (∀ i : Nat, i < 8073 → C i = B (621 + i)) ∧ ∀ m : Nat, m < 621 → C (8073 + m) = V m)
theorem zmin14 {x : Int} : (x ≤ 14 → zminZ x 14 = x) ∧ (14 < x → zminZ x 14 = 14) := ⟨fun q => if_neg (by omega), fun q => if_pos q⟩
theorem HRel.rem {V C : Nat → Int} {z : SZ} (h : HRel u B n T) (s : SOK σ T) (r : Rel σ V) (hz : SEq z σ) (hC : remB B V n C) : HRel (remH u z) C (zminZ (n + 1) 14) T := by
  obtain ⟨⟨h1, h2, h3⟩, h4⟩ := h
  subst h3
  have hn : Hz_next (remH u z) = (Hz_next u + 1) % 14 := rfl
  have hc : Hz_count (remH u z) = zminZ (Hz_count u + 1) 14 := rfl
  have hst : ∀ i : Nat, Hz_states (remH u z) i = if i = (Hz_next u).toNat then z else Hz_states u i := fun _ => rfl
  by_cases q : Hz_count u = 14
  · have e := zmin14.2 (show 14 < Hz_count u + 1 by omega)
    refine ⟨⟨by rw [hn]; omega, by rw [hc, e]; omega, by rw [hc]⟩, fun j j0 j1 => ?_⟩
    rw [hc, e] at j1
    rw [hst]
    unfold hSlot
    rw [hn, hc, e]
    by_cases q2 : j = 13
    · rw [if_pos (by omega)]
      have w := (hC.2 q).2
      refine ⟨s.eq hz, (r.eq s hz).weq (s.eq hz) (fun m hm => ?_)⟩
      rw [show 621 * j.toNat + m = 8073 + m by omega]
      exact w m hm
    · rw [if_neg (by omega)]
      obtain ⟨g1, g2⟩ := h4 (j + 1) (by omega) (by omega)
      unfold hSlot at g1 g2
      rw [show ((Hz_next u + 1) % 14 + 14 - 14 + j) % 14 = (Hz_next u + 14 - Hz_count u + (j + 1)) % 14 by omega]
      refine ⟨g1, g2.weq g1 (fun m hm => ?_)⟩
      show C (621 * j.toNat + m) = B (621 * (j + 1).toNat + m)
      rw [(hC.2 q).1 _ (by omega)]
      congr 1
      omega
  · have e := zmin14.1 (show Hz_count u + 1 ≤ 14 by omega)
    refine ⟨⟨by rw [hn]; omega, by rw [hc, e]; omega, by rw [hc]⟩, fun j j0 j1 => ?_⟩
    rw [hc, e] at j1
    rw [hst]
    unfold hSlot
    rw [hn, hc, e]
    by_cases q2 : j = Hz_count u
    · rw [if_pos (by omega)]
      have w := (hC.1 q).2
      refine ⟨s.eq hz, (r.eq s hz).weq (s.eq hz) (fun m hm => ?_)⟩
      rw [q2]
      exact w m hm
    · rw [if_neg (by omega)]
      obtain ⟨g1, g2⟩ := h4 j (by omega) (by omega)
      unfold hSlot at g1 g2
      rw [show ((Hz_next u + 1) % 14 + 14 - (Hz_count u + 1) + j) % 14 = (Hz_next u + 14 - Hz_count u + j) % 14 by omega]
      refine ⟨g1, g2.weq g1 (fun m hm => ?_)⟩
      exact (hC.1 q).1 _ (by omega)
theorem m_remember {w : MZ} {Q : MZ → Prop} (hn : 0 ≤ Mz_states w ∧ Mz_states w ≤ 14) (k : ∀ C, remB (Mz_book w) (Mz_now w) (Mz_states w) C → Q (Mz_set_states (Mz_set_book w C) (zminZ (Mz_states w + 1) 14))) : Z_M_remember w Q := by
  have key : ∀ (s : Int), 0 ≤ s → s < 14 → ∀ (n i : Nat) (C D : Nat → Int), i + n = 621 → (∀ x : Nat, (x : Int) < 621 * s → C x = D x) → (∀ m : Nat, m < i → C (621 * s.toNat + m) = Mz_now w m) → (∀ C', (∀ x : Nat, (x : Int) < 621 * s → C' x = D x) → (∀ m : Nat, m < 621 → C' (621 * s.toNat + m) = Mz_now w m) → Q (Mz_set_states (Mz_set_book w C') (s + 1))) → ZL_M_remember_52 (n + 1) i (Mz_set_states (Mz_set_book w C) s) Q := by
    intro s s0 s1 n
    induction n with
    | zero =>
      intro i C D hi h1 h2 k
      rw [ZL_M_remember_52]
      refine ⟨fun _ => ⟨by show -2147483648 ≤ s + 1 ∧ s + 1 < 2147483648; omega, ?_⟩, fun c => absurd c (by omega)⟩
      rintro _ rfl
      exact k C h1 (fun m hm => h2 m (by omega))
    | succ n ih =>
      intro i C D hi h1 h2 k
      rw [ZL_M_remember_52]
      refine ⟨fun c => absurd c (by omega), fun _ => ⟨by omega, by show -2147483648 ≤ 621 * s ∧ 621 * s < 2147483648; omega, by show -2147483648 ≤ 621 * s + (i : Int) ∧ 621 * s + (i : Int) < 2147483648; omega, by show 0 ≤ 621 * s + (i : Int) ∧ 621 * s + (i : Int) < 8694; omega, ?_⟩⟩
      rintro _ rfl
      refine ⟨by omega, ih (i + 1) (updz C (621 * s + (i : Int)).toNat (Mz_now w ((i : Int)).toNat)) D (by omega) (fun x hx => ?_) (fun m hm => ?_) k⟩
      · rw [updz_ne (by omega)]
        exact h1 x hx
      · by_cases q : m = i
        · rw [q, show 621 * s.toNat + i = (621 * s + (i : Int)).toNat by omega]
          exact updz_eq
        · rw [updz_ne (by omega)]
          exact h2 m (by omega)
  have key2 : Mz_states w = 14 → ∀ (n i : Nat) (C : Nat → Int), i + n = 8073 → (∀ x : Nat, x < i → C x = Mz_book w (621 + x)) → (∀ x : Nat, i ≤ x → C x = Mz_book w x) → ZL_M_remember_11 (n + 1) i (Mz_set_book w C) Q := by
    intro e14 n
    induction n with
    | zero =>
      intro i C hi h1 h2
      rw [ZL_M_remember_11]
      refine ⟨fun _ => ⟨by show -2147483648 ≤ Mz_states w - 1 ∧ Mz_states w - 1 < 2147483648; omega, ?_⟩, fun c => absurd c (by omega)⟩
      rintro _ rfl
      have g := key (Mz_states w - 1) (by omega) (by omega) 621 0 C C rfl (fun _ _ => rfl) (fun m hm => absurd hm (by omega)) (fun C' c1 c2 => ?_)
      · exact ⟨_, g⟩
      · have g := k C' ⟨fun q => absurd e14 q, fun _ => ⟨fun x hx => (c1 x (by omega)).trans (h1 x (by omega)), fun m hm => ?_⟩⟩
        · rw [show Mz_states w - 1 + 1 = zminZ (Mz_states w + 1) 14 by rw [zmin14.2 (by omega)]; omega]
          exact g
        · have g := c2 m hm
          rw [show 621 * (Mz_states w - 1).toNat + m = 8073 + m by omega] at g
          exact g
    | succ n ih =>
      intro i C hi h1 h2
      rw [ZL_M_remember_11]
      refine ⟨fun c => absurd c (by omega), fun _ => ⟨by omega, by omega, by omega, ?_⟩⟩
      rintro _ rfl
      refine ⟨by omega, ih (i + 1) (updz C ((i : Int)).toNat (C (621 + (i : Int)).toNat)) (by omega) (fun x hx => ?_) (fun x hx => ?_)⟩
      · by_cases q : x = i
        · rw [q, show ((i : Int)).toNat = i by omega, updz_eq, show (621 + (i : Int)).toNat = 621 + i by omega]
          exact h2 _ (by omega)
        · rw [updz_ne (by omega)]
          exact h1 x (by omega)
      · rw [updz_ne (by omega)]
        exact h2 x (by omega)
  refine ⟨fun c => ⟨_, key (Mz_states w) hn.1 (by omega) 621 0 (Mz_book w) (Mz_book w) rfl (fun _ _ => rfl) (fun m hm => absurd hm (by omega)) (fun C' c1 c2 => ?_)⟩, fun c => ⟨_, key2 c 8073 0 (Mz_book w) rfl (fun x hx => absurd hx (by omega)) (fun _ _ => rfl)⟩⟩
  have g := k C' ⟨fun _ => ⟨c1, c2⟩, fun q => absurd q c⟩
  rw [zmin14.1 (by omega)] at g
  exact g
end PH
