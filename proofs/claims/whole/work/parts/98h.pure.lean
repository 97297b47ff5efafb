/-! ### when a hold is lost -/
section QJ
variable {v : TZ} {w : MZ} {T : Int}
def outL (a : Int) : Nat → Int → SZ → Int
  | 0, _, _ => -1
  | n + 1, i, σ => if Rz_held (Sz_readers (tickS σ) a.toNat) = 1 then outL a n (i + 1) (tickS σ) else i
theorem q_lostLoop {a : Int} {X : String → TZ → Prop} {Q : Int → TZ → Prop} (ha : 0 ≤ a ∧ a < 8) : ∀ (n : Nat) (i : Int) (σ : SZ) (T : Int), i + n = 301 → 0 ≤ i → SOK σ T → T + n ≤ 5000000 → Rz_present (Sz_readers σ a.toNat) = 1 → (∀ z, Q (outL a n i σ) (Tz_set_trial v z)) → ZL_T_lostIn_38 (n + 1) a a i (Tz_set_trial v σ) X Q := by
  intro n
  induction n with
  | zero =>
    intro i σ T hi h0 h hT hp k
    rw [ZL_T_lostIn_38]
    exact ⟨fun _ => k σ, fun c => absurd c (by omega)⟩
  | succ n ih =>
    intro i σ T hi h0 h hT hp k
    rw [ZL_T_lostIn_38]
    refine ⟨fun c => absurd c (by omega), fun _ => q_tick1 (σ := σ) h (by omega) ?_⟩
    rintro _ rfl
    have h' := h.tick (by omega)
    have hp' : Rz_present (Sz_readers (tickS σ) a.toNat) = 1 := tick_present.trans hp
    refine q_hasHold (σ := tickS σ) h' (fun c => ⟨fun _ => ⟨by omega, ih (i + 1) (tickS σ) (T + 1) (by omega) (by omega) h' (by omega) hp' (fun z => ?_)⟩, fun z => absurd z (by decide)⟩) (fun c => ⟨fun z => absurd rfl z, fun _ => ?_⟩)
    · have g := k z
      rw [outL, if_pos c.2] at g
      exact g
    · have g := k (tickS σ)
      rw [outL, if_neg (fun q => c ⟨⟨ha, hp'⟩, q⟩)] at g
      exact g
end QJ
