/-! ### a tick of both -/
section PO
variable {σ : SZ} {W : Nat → Int} {T : Int}
theorem m_drops {Q : (Nat → Int) → Prop} : ∀ (n : Nat) (σ : SZ) (W : Nat → Int), SOK σ T → Rel σ W → Lz_begun (Sz_log σ) - Lz_dropped (Sz_log σ) ≤ n + 1 → (∀ W', Rel (dropAll n σ) W' → Q W') → ZL_M_tick_28 (n + 1) W Q := by
  intro n
  induction n with
  | zero =>
    intro σ W h r hs k
    rw [ZL_M_tick_28]
    exact m_whyStays h r ⟨fun _ => k W r, fun c => absurd (whyS_segs c) (by omega)⟩
  | succ n ih =>
    intro σ W h r hs k
    rw [ZL_M_tick_28]
    refine m_whyStays h r ⟨fun c => ?_, fun c => m_drop h r (whyS_segs c) (fun W' r' => ?_)⟩
    · refine k W ?_
      show Rel (if whyS σ = 0 then dropAll n (dropS σ) else σ) W
      rw [if_neg c]
      exact r
    · refine ih (dropS σ) W' (h.dr c) r' (by show Lz_begun (Sz_log σ) - (Lz_dropped (Sz_log σ) + 1) ≤ _; omega) (fun W2 r2 => k W2 ?_)
      show Rel (if whyS σ = 0 then dropAll n (dropS σ) else σ) W2
      rw [if_pos c]
      exact r2
theorem m_tick {Q : (Nat → Int) → Prop} (h : SOK σ T) (hT : T + 1 ≤ 5000000) (r : Rel σ W) (k : ∀ W', Rel (tickS σ) W' → Q W') : Z_M_tick W Q := by
  have h2 := h.2.1
  unfold Z_M_tick
  refine ⟨by omega, by omega, ?_⟩
  rw [r.1.2.2.1]
  refine ⟨by omega, ?_⟩
  rintro _ rfl
  have hk : ∀ m : Nat, m ≠ 616 → updz W (Int.toNat 616) (Sz_time σ + 1) m = W m := fun m a => updz_ne a
  have h3 := h.1.1
  have r1 : Rel (Sz_set_time σ (Sz_time σ + 1)) (updz W (Int.toNat 616) (Sz_time σ + 1)) := by
    refine ⟨⟨?_, ?_, updz_eq, ?_, ?_, ?_, ?_⟩, fun q q0 q1 => ?_, fun q q0 q1 => ?_, fun i i0 i1 => ?_, fun i i0 i1 => ?_, fun a a0 a1 => ?_⟩
    · rw [hk _ (by decide)]; exact r.1.1
    · rw [hk _ (by decide)]; exact r.1.2.1
    · rw [hk _ (by decide)]; exact r.1.2.2.2.1
    · rw [hk _ (by decide)]; exact r.1.2.2.2.2.1
    · rw [hk _ (by decide)]; exact r.1.2.2.2.2.2.1
    · rw [hk _ (by decide)]; exact r.1.2.2.2.2.2.2
    · rw [hk _ (by omega)]; exact r.2.1 q q0 q1
    · rw [hk _ (by omega)]; exact r.2.2.1 q q0 q1
    · have i1 : i < Lz_end (Sz_log σ) := i1
      obtain ⟨b, b1, b2, b3⟩ := r.2.2.2.1 i i0 i1
      exact ⟨b, b1, b2, by rw [hk _ (by omega)]; exact b3⟩
    · have i1 : i < Lz_end (Sz_log σ) := i1
      rw [hk _ (by omega)]; exact r.2.2.2.2.1 i i0 i1
    · exact (r.2.2.2.2.2 a a0 a1).keep a0 a1 rfl (fun m m0 m1 => hk m (by omega))
  have hs := h.time hT
  have hb : Sz_lostByLength (Sz_set_time σ (Sz_time σ + 1)) + 8 ≤ 8 * (T + 1) := by show Sz_lostByLength σ + 8 ≤ 8 * (T + 1); omega
  have hc : Sz_lostBySleep (Sz_set_time σ (Sz_time σ + 1)) + 8 ≤ 8 * (T + 1) := by show Sz_lostBySleep σ + 8 ≤ 8 * (T + 1); omega
  have key : ∀ (n i : Nat) (V : Nat → Int), i + n = 8 → Rel (chkAll (Sz_set_time σ (Sz_time σ + 1)) i) V → ZL_M_tick_11 (n + 1) i V Q := by
    intro n
    induction n with
    | zero =>
      intro i V hi hV
      have e : i = 8 := by omega
      subst e
      rw [ZL_M_tick_11]
      have h8 := hs.ckAll hb hc 8 (by omega)
      have h9 := h8.1.1
      exact ⟨fun _ => ⟨_, m_drops 200 _ V h8 hV (by omega) k⟩, fun c => absurd c (by omega)⟩
    | succ n ih =>
      intro i V hi hV
      rw [ZL_M_tick_11]
      refine ⟨fun c => absurd c (by omega), fun _ => m_lose (hs.ckAll hb hc i (by omega)) hV (by omega) (fun V' hV' => ⟨by omega, ih (i + 1) V' (by omega) hV'⟩)⟩
  exact ⟨_, key 8 0 _ rfl r1⟩
theorem m_goTicks {n : Nat} {Q : Int → (Nat → Int) → Prop} (h : SOK σ T) (r : Rel σ W) (hn : n ≤ 999) (hT : T + n ≤ 5000000) (k : ∀ W', Rel (ticksS n σ) W' → Q (Lz_dropped (Sz_log (ticksS n σ)) - Lz_dropped (Sz_log σ)) W') : Z_M_goTicks n W Q := by
  have h1 := h.1.1
  have key : ∀ (f : Nat) (i : Nat) (τ : SZ) (V : Nat → Int) (T' : Int), i + f = n → SOK τ T' → Rel τ V → T' + f ≤ 5000000 → (∀ W', Rel (ticksS f τ) W' → Q (Lz_dropped (Sz_log (ticksS f τ)) - Lz_dropped (Sz_log σ)) W') → ZL_M_goTicks_8 (f + 1) n n (Lz_dropped (Sz_log σ)) i V Q := by
    intro f
    induction f with
    | zero =>
      intro i τ V T' hi hs hr ht kk
      rw [ZL_M_goTicks_8]
      have h2 := hs.1.1
      refine ⟨fun _ => ⟨by omega, ?_⟩, fun c => absurd c (by omega)⟩
      rw [hr.1.2.2.2.1]
      exact ⟨by omega, kk V hr⟩
    | succ f ih =>
      intro i τ V T' hi hs hr ht kk
      rw [ZL_M_goTicks_8]
      exact ⟨fun c => absurd c (by omega), fun _ => m_tick hs (by omega) hr (fun V' hV' => ⟨by omega, ih (i + 1) (tickS τ) V' (T' + 1) (by omega) (hs.tick (by omega)) hV' (by omega) kk⟩)⟩
  refine ⟨by omega, ?_⟩
  rw [r.1.2.2.2.1]
  exact ⟨_, key n 0 σ W T (by omega) h r hT k⟩
end PO
