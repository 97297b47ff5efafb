/-! ### undo, save, restore -/
section QB
variable {v : TZ} {w : MZ} {T : Int}
theorem q_takeBack {u : HZ} {σ : SZ} {B : Nat → Int} {n : Int} {Q : Int → HZ → SZ → Prop} (h : HRel u B n T) (h0 : 0 < Hz_count u) (k : ∀ z, SEq z (Hz_states u (hSlot u (Hz_count u - 1))) → Q (Hz_count u - 1) (Hz_set_count (Hz_set_next u ((Hz_next u + 13) % 14)) (Hz_count u - 1)) z) : Z_H_takeBack u σ Q := by
  obtain ⟨⟨h1, h2, h3⟩, h4⟩ := h
  have g := h4 (Hz_count u - 1) (by omega) (by omega)
  have e : Int.tmod (Hz_next u + 14 - 1) 14 = (Hz_next u + 13) % 14 := by
    rw [Int.tmod_eq_emod_of_nonneg (by omega)]
    congr 1
    omega
  have e2 : hSlot u (Hz_count u - 1) = ((Hz_next u + 13) % 14).toNat := by
    unfold hSlot
    congr 1
    omega
  unfold Z_H_takeBack Z_H_stateAt
  refine ⟨by omega, by omega, ?_⟩
  rintro _ rfl
  rw [e]
  refine ⟨fun c => absurd (show (Hz_next u + 13) % 14 < 0 from c) (by omega), fun _ => ⟨fun c => absurd (show 14 ≤ (Hz_next u + 13) % 14 from c) (by omega), fun _ => ⟨by show 0 ≤ (Hz_next u + 13) % 14 ∧ (Hz_next u + 13) % 14 < 14; omega, fun c => (nomatch c), fun i c => ?_⟩⟩⟩
  cases c
  rw [e2] at g k
  refine q_S_takeOver g.1 (fun z hz => ⟨by show -2147483648 ≤ Hz_count u - 1 ∧ Hz_count u - 1 < 2147483648; omega, ?_⟩)
  rintro _ rfl
  exact k z hz
theorem k_undo (h : SimZ T v w) : Z_T_undo v (fun E v' => exZ E False False (Z_M_undo w (finZ T 1 0 v'))) (fun r v' => Z_M_undo w (finZ T 0 r v')) := by
  obtain ⟨⟨h1, h2⟩, h3, h4, h5⟩ := h
  have hh := h3
  obtain ⟨⟨g1, g2, g3⟩, g4⟩ := h3
  refine ⟨fun c => q_takeBack hh (by omega) (fun z hz => ?_), fun c => ex_ise ?_⟩
  · rintro _ rfl _ rfl
    obtain ⟨s1, s2⟩ := g4 (Hz_count (Tz_history v) - 1) (by omega) (by omega)
    have key : ∀ (n i : Nat) (V : Nat → Int), i + n = 621 → (∀ m : Nat, m < i → V m = Mz_book w (621 * (Hz_count (Tz_history v) - 1).toNat + m)) → ZL_M_undo_33 (n + 1) i (Mz_set_now (Mz_set_states (Mz_set_refusal w 0) (Mz_states w - 1)) V) (finZ T 0 (Hz_count (Tz_history v) - 1) (Tz_set_state (Tz_set_history v (Hz_set_count (Hz_set_next (Tz_history v) ((Hz_next (Tz_history v) + 13) % 14)) (Hz_count (Tz_history v) - 1))) z)) := by
      intro n
      induction n with
      | zero =>
        intro i V hi hV
        rw [ZL_M_undo_33]
        refine ⟨fun _ => ⟨rfl, fun _ => ?_, ⟨s1.eq hz, ((s2.eq s1 hz).weq (s1.eq hz) (fun m hm => hV m (by omega)))⟩, ⟨⟨?_, ?_, ?_⟩, fun j j0 j1 => ?_⟩, h4, h5⟩, fun c => absurd c (by omega)⟩
        · show Mz_states w - 1 = Hz_count (Tz_history v) - 1
          omega
        · show 0 ≤ (Hz_next (Tz_history v) + 13) % 14 ∧ (Hz_next (Tz_history v) + 13) % 14 < 14
          omega
        · show 0 ≤ Hz_count (Tz_history v) - 1 ∧ Hz_count (Tz_history v) - 1 ≤ 14
          omega
        · show Mz_states w - 1 = Hz_count (Tz_history v) - 1
          omega
        · have j1 : j < Hz_count (Tz_history v) - 1 := j1
          have e : hSlot (Hz_set_count (Hz_set_next (Tz_history v) ((Hz_next (Tz_history v) + 13) % 14)) (Hz_count (Tz_history v) - 1)) j = hSlot (Tz_history v) j := by
            show (((Hz_next (Tz_history v) + 13) % 14 + 14 - (Hz_count (Tz_history v) - 1) + j) % 14).toNat = ((Hz_next (Tz_history v) + 14 - Hz_count (Tz_history v) + j) % 14).toNat
            congr 1
            omega
          show SOK (Hz_states (Tz_history v) (hSlot (Hz_set_count (Hz_set_next (Tz_history v) ((Hz_next (Tz_history v) + 13) % 14)) (Hz_count (Tz_history v) - 1)) j)) T ∧ Rel (Hz_states (Tz_history v) (hSlot (Hz_set_count (Hz_set_next (Tz_history v) ((Hz_next (Tz_history v) + 13) % 14)) (Hz_count (Tz_history v) - 1)) j)) (fun m => Mz_book w (621 * j.toNat + m))
          rw [e]
          exact g4 j j0 (by omega)
      | succ n ih =>
        intro i V hi hV
        rw [ZL_M_undo_33]
        refine ⟨fun c => absurd c (by omega), fun _ => ⟨by show -2147483648 ≤ 621 * (Mz_states w - 1) ∧ 621 * (Mz_states w - 1) < 2147483648; omega, by show -2147483648 ≤ 621 * (Mz_states w - 1) + (i : Int) ∧ 621 * (Mz_states w - 1) + (i : Int) < 2147483648; omega, by show 0 ≤ 621 * (Mz_states w - 1) + (i : Int) ∧ 621 * (Mz_states w - 1) + (i : Int) < 8694; omega, by omega, ?_⟩⟩
        rintro _ rfl
        refine ⟨by omega, ih (i + 1) (updz V ((i : Int)).toNat (Mz_book w (621 * (Mz_states w - 1) + (i : Int)).toNat)) (by omega) (fun m hm => ?_)⟩
        by_cases q : m = i
        · rw [q, show ((i : Int)).toNat = i by omega, updz_eq, show (621 * (Mz_states w - 1) + (i : Int)).toNat = 621 * (Hz_count (Tz_history v) - 1).toNat + i by omega]
        · rw [updz_ne (by omega)]
          exact hV m (by omega)
    have go : ZJ_M_undo_13 0 w (finZ T 0 (Hz_count (Tz_history v) - 1) (Tz_set_state (Tz_set_history v (Hz_set_count (Hz_set_next (Tz_history v) ((Hz_next (Tz_history v) + 13) % 14)) (Hz_count (Tz_history v) - 1))) z)) := by
      refine m_yes ⟨fun _ => ⟨by show -2147483648 ≤ Mz_states w - 1 ∧ Mz_states w - 1 < 2147483648; omega, ?_⟩, fun z => absurd rfl z⟩
      rintro _ rfl
      exact ⟨_, key 621 0 (Mz_now w) rfl (fun m hm => absurd hm (by omega))⟩
    exact ⟨fun _ => go, fun z => absurd z (by omega)⟩
  · exact ⟨fun z => absurd (show Mz_states w = 0 by omega) z, fun _ => m_no (by decide) ⟨fun z => absurd z (by decide), fun _ => ⟨rfl, fun z => absurd z (by decide), ⟨h1, h2⟩, hh, h4, h5⟩⟩⟩
theorem k_save {a : Int} (h : SimZ T v w) : Z_T_save a v (fun E v' => exZ E (Z_M_save a w (finZ T 1 0 v')) False False) (fun r v' => Z_M_save a w (finZ T 0 r v')) := by
  obtain ⟨⟨h1, h2⟩, h3, h4, h5⟩ := h
  refine q_isIn (fun a0 a1 => ⟨fun _ => ⟨by omega, q_S_takeOver h1 (fun z hz => ?_)⟩, fun c => absurd c (by decide)⟩) (fun c => ⟨fun c2 => absurd rfl c2, fun _ => ex_iob ?_⟩)
  · rintro _ rfl
    refine ⟨by omega, ?_⟩
    rintro _ rfl
    have key : ∀ (n i : Nat) (V : Nat → Int), i + n = 621 → (∀ m : Nat, m < i → V (621 * a.toNat + m) = Mz_now w m) → (∀ m : Nat, ¬ (621 * a.toNat ≤ m ∧ m < 621 * a.toNat + 621) → V m = Mz_kept w m) → ZL_M_save_26 (n + 1) a a i (Mz_set_kept (Mz_set_refusal w 0) V) (finZ T 0 (Sz_time (Tz_state v)) (Tz_set_filled (Tz_seti_slots v a.toNat z) (updz (Tz_filled v) a.toNat 1))) := by
      intro n
      induction n with
      | zero =>
        intro i V hi hV hK
        rw [ZL_M_save_26]
        refine ⟨fun _ => ⟨by omega, ?_⟩, fun c => absurd c (by omega)⟩
        rintro _ rfl
        refine ⟨by decide, rfl, fun _ => h2.1.2.2.1, ⟨h1, h2⟩, h3, fun j hj => ?_, h5⟩
        show (updz (Tz_filled v) a.toNat 1 j = 0 ∨ updz (Tz_filled v) a.toNat 1 j = 1) ∧ updz (Mz_isKept w) a.toNat 1 j = updz (Tz_filled v) a.toNat 1 j ∧ (updz (Tz_filled v) a.toNat 1 j = 1 → SOK (if j = a.toNat then z else Tz_slots v j) T ∧ Rel (if j = a.toNat then z else Tz_slots v j) (fun m => V (621 * j + m)))
        by_cases q : j = a.toNat
        · rw [q, updz_eq, updz_eq, if_pos rfl]
          exact ⟨Or.inr rfl, rfl, fun _ => ⟨h1.eq hz, (h2.eq h1 hz).weq (h1.eq hz) (fun m hm => hV m (by omega))⟩⟩
        · rw [updz_ne q, updz_ne q, if_neg q]
          obtain ⟨b1, b2, b3⟩ := h4 j hj
          exact ⟨b1, b2, fun y => ⟨(b3 y).1, (b3 y).2.weq (b3 y).1 (fun m hm => hK _ (by omega))⟩⟩
      | succ n ih =>
        intro i V hi hV hK
        rw [ZL_M_save_26]
        refine ⟨fun c => absurd c (by omega), fun _ => ⟨by omega, by omega, by omega, by omega, ?_⟩⟩
        rintro _ rfl
        refine ⟨by omega, ih (i + 1) (updz V (621 * a + (i : Int)).toNat (Mz_now w ((i : Int)).toNat)) (by omega) (fun m hm => ?_) (fun m hm => ?_)⟩
        · by_cases q : m = i
          · rw [q, show 621 * a.toNat + i = (621 * a + (i : Int)).toNat by omega, updz_eq, show ((i : Int)).toNat = i by omega]
          · rw [updz_ne (by omega)]
            exact hV m (by omega)
        · rw [updz_ne (by omega)]
          exact hK m hm
    exact m_in (fun _ _ => ⟨fun c => absurd c (by decide), fun _ => m_yes ⟨fun _ => ⟨_, key 621 0 (Mz_kept w) rfl (fun m hm => absurd hm (by omega)) (fun _ _ => rfl)⟩, fun c => absurd rfl c⟩⟩) (fun c => absurd ⟨a0, a1⟩ c)
  · exact m_in (fun z1 z2 => absurd ⟨z1, z2⟩ c) (fun _ => ⟨fun _ => m_no (by decide) ⟨fun z => absurd z (by decide), fun _ => ⟨rfl, fun z => absurd z (by decide), ⟨h1, h2⟩, h3, h4, h5⟩⟩, fun z => absurd rfl z⟩)
theorem k_restore {a : Int} (h : SimZ T v w) : Z_T_restore a v (fun E v' => exZ E (Z_M_restore a w (finZ T 1 0 v')) False (Z_M_restore a w (finZ T 2 0 v'))) (fun r v' => Z_M_restore a w (finZ T 0 r v')) := by
  have hh := h
  obtain ⟨⟨h1, h2⟩, h3, h4, h5⟩ := h
  refine q_isIn (fun a0 a1 => ⟨fun _ => ⟨by omega, fun c => ⟨by omega, ?_⟩, fun c => ex_ise ?_⟩, fun c => absurd c (by decide)⟩) (fun c => ⟨fun c2 => absurd rfl c2, fun _ => ex_iob ?_⟩)
  · obtain ⟨b1, b2, b3⟩ := h4 a.toNat (by omega)
    obtain ⟨s1, s2⟩ := b3 (by rcases b1 with z | z; exact absurd z c; exact z)
    refine q_S_takeOver s1 (fun z hz => ?_)
    rintro _ rfl
    unfold Z_H_forget
    rintro _ rfl _ rfl _ rfl
    have hz4 : Sz_time z = Sz_time (Tz_slots v a.toNat) := congrArg (fun q => q.1) hz.2.2.2
    have key : ∀ (n i : Nat) (V : Nat → Int), i + n = 621 → (∀ m : Nat, m < i → V m = Mz_kept w (621 * a.toNat + m)) → ZL_M_restore_39 (n + 1) a a i (Mz_set_now (Mz_set_refusal w 0) V) (finZ T 0 (Sz_time z) (Tz_set_history (Tz_set_state v z) (Hz_set_count (Hz_set_next (Tz_history v) 0) 0))) := by
      intro n
      induction n with
      | zero =>
        intro i V hi hV
        rw [ZL_M_restore_39]
        refine ⟨fun _ => ?_, fun c => absurd c (by omega)⟩
        rintro _ rfl
        have r := (s2.eq s1 hz).weq (V := V) (s1.eq hz) (fun m hm => hV m (by omega))
        refine ⟨by decide, rfl, fun _ => r.1.2.2.1, ⟨s1.eq hz, r⟩, ⟨⟨?_, ?_, rfl⟩, fun j j0 j1 => absurd (show j < 0 from j1) (by omega)⟩, h4, h5⟩
        · show (0 : Int) ≤ 0 ∧ (0 : Int) < 14
          decide
        · show (0 : Int) ≤ 0 ∧ (0 : Int) ≤ 14
          decide
      | succ n ih =>
        intro i V hi hV
        rw [ZL_M_restore_39]
        refine ⟨fun c => absurd c (by omega), fun _ => ⟨by omega, by omega, by omega, by omega, ?_⟩⟩
        rintro _ rfl
        refine ⟨by omega, ih (i + 1) (updz V ((i : Int)).toNat (Mz_kept w (621 * a + (i : Int)).toNat)) (by omega) (fun m hm => ?_)⟩
        by_cases q : m = i
        · rw [q, show ((i : Int)).toNat = i by omega, updz_eq, show (621 * a + (i : Int)).toNat = 621 * a.toNat + i by omega]
        · rw [updz_ne (by omega)]
          exact hV m (by omega)
    exact m_in (fun _ _ => ⟨fun _ => ⟨by omega, fun _ => m_yes ⟨fun _ => ⟨_, key 621 0 (Mz_now w) rfl (fun m hm => absurd hm (by omega))⟩, fun c => absurd rfl c⟩, fun y => absurd (b2 ▸ y) c⟩, fun c => absurd c (by decide)⟩) (fun c => absurd ⟨a0, a1⟩ c)
  · obtain ⟨b1, b2, b3⟩ := h4 a.toNat (by omega)
    exact m_in (fun _ _ => ⟨fun _ => ⟨by omega, fun y => absurd (b2.trans c) y, fun _ => m_no (by decide) ⟨fun z => absurd z (by decide), fun _ => ⟨rfl, fun z => absurd z (by decide), hh⟩⟩⟩, fun c => absurd c (by decide)⟩) (fun c => absurd ⟨a0, a1⟩ c)
  · exact m_in (fun z1 z2 => absurd ⟨z1, z2⟩ c) (fun _ => ⟨fun z => absurd rfl z, fun _ => m_no (by decide) ⟨fun z => absurd z (by decide), fun _ => ⟨rfl, fun z => absurd z (by decide), hh⟩⟩⟩)
end QB
