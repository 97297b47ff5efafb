/-! ### when a hold is lost: both -/
section QK
variable {v : TZ} {w : MZ} {T : Int}
theorem m_lostLoop {a : Int} {Q : Int → MZ → Prop} (ha : 0 ≤ a ∧ a < 8) : ∀ (n : Nat) (i : Int) (σ : SZ) (V : Nat → Int) (T : Int), i + n = 301 → 0 ≤ i → SOK σ T → T + n ≤ 5000000 → Rel σ V → Rz_present (Sz_readers σ a.toNat) = 1 → (∀ V', Q (outL a n i σ) (Mz_set_trial w V')) → ZL_M_lostIn_54 (n + 1) a a i (Mz_set_trial w V) Q := by
  intro n
  induction n with
  | zero =>
    intro i σ V T hi h0 h hT r hp k
    rw [ZL_M_lostIn_54]
    exact ⟨fun _ => k V, fun c => absurd c (by omega)⟩
  | succ n ih =>
    intro i σ V T hi h0 h hT r hp k
    rw [ZL_M_lostIn_54]
    refine ⟨fun c => absurd c (by omega), fun _ => m_tick h (by omega) r (fun W' r' => ?_)⟩
    rintro _ rfl
    have h' := h.tick (by omega)
    have hp' : Rz_present (Sz_readers (tickS σ) a.toNat) = 1 := tick_present.trans hp
    have e2 : W' (410 + 15 * a + 2).toNat = Rz_held (Sz_readers (tickS σ) a.toNat) := ((r'.2.2.2.2.2 a ha.1 ha.2).2.1 hp').2.1
    have g6 := (h'.2.2.2 a.toNat (by omega)).2.2.1
    refine m_reader ha.1 ha.2 ⟨by omega, by omega, fun c => ⟨by omega, ih (i + 1) (tickS σ) W' (T + 1) (by omega) (by omega) h' (by omega) r' hp' (fun z => ?_)⟩, fun c => ?_⟩
    · have c : ¬ W' (410 + 15 * a + 2).toNat = 0 := c
      have g := k z
      rw [outL, if_pos (by omega)] at g
      exact g
    · have c : W' (410 + 15 * a + 2).toNat = 0 := c
      have g := k W'
      rw [outL, if_neg (by omega)] at g
      exact g
end QK
