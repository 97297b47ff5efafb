/-! ### the class understands, finds errors, runs -/
def errF (cs : Int → Int) (L : Int) : Nat → Int → Int
  | 0, _ => -1
  | n + 1, p => if p < L then (if (prs cs p).2.2.2.1 = 1 then errF cs L n (prs cs p).2.2.2.2 else (prs cs p).2.2.2.2) else -1
def errA (cs : Int → Int) (L : Int) : Int := if cs 0 = 71 then errF cs L 60 1 else 0
/-- the way of a load: what is left out, and the state then -/
def ldR (cs : Int → Int) (L : Int) : Nat → Int → SZ → Int → SZ → Prop
  | 0, _, σ, l, τ => l = 0 ∧ τ = σ
  | n + 1, p, σ, l, τ => if p < L ∧ (prs cs p).2.2.2.1 = 1 then ∃ r σ' l', attR σ (aOf (cs p)).toNat (prs cs p).1 (prs cs p).2.1 (prs cs p).2.2.1 r σ' ∧ ldR cs L n (prs cs p).2.2.2.2 σ' l' τ ∧ l = (1 - r) + l' else l = 0 ∧ τ = σ
theorem aOf_in {c : Int} : -1 ≤ aOf c ∧ aOf c ≤ 6 := by
  unfold aOf
  split
  · decide
  · split
    · decide
    · split
      · decide
      · split
        · decide
        · split
          · decide
          · split
            · decide
            · split <;> decide
theorem prs_val {cs : Int → Int} {p : Int} (q : aOf (cs p) ≠ -1) : valA (aOf (cs p)).toNat (prs cs p).2.1 (prs cs p).2.2.1 := by
  have e : prs cs p = pA cs (1, p + 1) (aOf (cs p)).toNat := if_neg q
  rw [e]
  generalize (aOf (cs p)).toNat = n
  match n with
  | 0 => trivial
  | 1 => exact sS_in
  | 2 => trivial
  | 3 => trivial
  | 4 => exact sS_in
  | 5 => trivial
  | n + 6 => trivial
section QU
variable {cs : Int → Int} {x : XZ}
theorem q_understand {p ac0 a0 b0 c0 : Int} {Q : XZ → Prop} (hx : XOK x cs) (hp : 0 ≤ p ∧ p < Xz_length x) (k : ∀ ac a b c : Int, ((prs cs p).2.2.2.1 = 1 → ac = aOf (cs p) ∧ a = (prs cs p).1 ∧ b = (prs cs p).2.1 ∧ c = (prs cs p).2.2.1) → Q (xS x (prs cs p).2.2.2.2 (1 - (prs cs p).2.2.2.1) ac a b c)) : Z_X_understand (xS x p 0 ac0 a0 b0 c0) Q := by
  have hL := hx.1.1
  refine q_sign hx hp.1 (fun r r1 _ => ?_)
  have e := r1 hp
  subst e
  refine q_actionOf ?_
  rintro _ rfl
  have g0 : gd ((1 : Int), p + 1) := ⟨Or.inr rfl, by show 0 ≤ p + 1; omega, by show p + 1 ≤ 120; omega⟩
  have ai := aOf_in (c := cs p)
  by_cases q : aOf (cs p) = -1
  · have e : prs cs p = (0, 0, 0, 0, p) := if_pos q
    rw [e] at k
    refine ⟨fun z => absurd q z, fun _ => ?_⟩
    rintro _ rfl
    exact k _ _ _ _ (fun z => absurd (show (0 : Int) = 1 from z) (by decide))
  · have e : prs cs p = pA cs (1, p + 1) (aOf (cs p)).toNat := if_neg q
    rw [e] at k
    refine ⟨fun _ => ⟨by show -2147483648 ≤ p + 1 ∧ p + 1 < 2147483648; omega, ?_⟩, fun z => absurd z q⟩
    rintro _ rfl _ rfl _ rfl
    clear e
    generalize aOf (cs p) = A at *
    have d7 := sD_gd (lo := 0) (hi := 7) hx.1 (by decide) g0
    rcases (show A = 0 ∨ A = 1 ∨ A = 2 ∨ A = 3 ∨ A = 4 ∨ A = 5 ∨ A = 6 by omega) with h | h | h | h | h | h | h <;> subst h
    · refine ⟨fun _ => ⟨fun _ => ?_, fun z => absurd (show (0 : Int) = 5 from z) (by decide)⟩, fun z => absurd (show (0 : Int) = 6 from z) (by decide)⟩
      refine q_digit1 (g := 1) (p := p + 1) (ac := 0) (a := a0) (b := 0) (c := 0) hx g0 (by decide) (fun r1 h1 => ?_)
      rintro _ rfl
      refine ⟨fun z => absurd rfl z, fun _ => ?_⟩
      have d2 := sT_gd (lo := 0) (hi := 99) hx.1 (by decide) d7.1
      have d3 := sT_gd (lo := 1) (hi := 40) hx.1 (by decide) d2.1
      refine q_digit2 (g := (sD cs 0 7 (1, p + 1)).2.1) (p := (sD cs 0 7 (1, p + 1)).2.2) (ac := 0) (a := r1) (b := 0) (c := 0) hx d7.1 (by decide) (fun r2 h2 => ?_)
      rintro _ rfl
      refine q_digit2 (g := (sT cs 0 99 (sD cs 0 7 (1, p + 1)).2).2.1) (p := (sT cs 0 99 (sD cs 0 7 (1, p + 1)).2).2.2) (ac := 0) (a := r1) (b := r2) (c := 0) hx d2.1 (by decide) (fun r3 h3 => ?_)
      rintro _ rfl
      exact k 0 r1 r2 r3 (fun z => ⟨rfl, h1 (d2.2 (d3.2 z).1).1, h2 (d3.2 z).1, h3 z⟩)
    · refine ⟨fun _ => ⟨fun _ => ?_, fun z => absurd (show (1 : Int) = 5 from z) (by decide)⟩, fun z => absurd (show (1 : Int) = 6 from z) (by decide)⟩
      refine q_digit1 (g := 1) (p := p + 1) (ac := 1) (a := a0) (b := 0) (c := 0) hx g0 (by decide) (fun r1 h1 => ?_)
      rintro _ rfl
      refine ⟨fun _ => ⟨fun z => absurd rfl z, fun _ => ?_⟩, fun z => absurd (show (1 : Int) = 0 from z) (by decide)⟩
      have d2 := sD_gd (lo := 0) (hi := 2) hx.1 (by decide) d7.1
      have d3 := sS_gd hx.1 d2.1
      refine q_digit1 (g := (sD cs 0 7 (1, p + 1)).2.1) (p := (sD cs 0 7 (1, p + 1)).2.2) (ac := 1) (a := r1) (b := 0) (c := 0) hx d7.1 (by decide) (fun r2 h2 => ?_)
      rintro _ rfl
      refine q_plus (g := (sD cs 0 2 (sD cs 0 7 (1, p + 1)).2).2.1) (p := (sD cs 0 2 (sD cs 0 7 (1, p + 1)).2).2.2) (ac := 1) (a := r1) (b := r2) (c := 0) hx d2.1 (fun r3 h3 => ?_)
      rintro _ rfl
      exact k 1 r1 r2 r3 (fun z => ⟨rfl, h1 (d2.2 (d3.2 z).1).1, h2 (d3.2 z).1, h3 z⟩)
    · refine ⟨fun _ => ⟨fun _ => ?_, fun z => absurd (show (2 : Int) = 5 from z) (by decide)⟩, fun z => absurd (show (2 : Int) = 6 from z) (by decide)⟩
      refine q_digit1 (g := 1) (p := p + 1) (ac := 2) (a := a0) (b := 0) (c := 0) hx g0 (by decide) (fun r1 h1 => ?_)
      rintro _ rfl
      refine ⟨fun _ => ⟨fun _ => ⟨fun z => absurd rfl z, fun _ => ?_⟩, fun z => absurd (show (2 : Int) = 1 from z) (by decide)⟩, fun z => absurd (show (2 : Int) = 0 from z) (by decide)⟩
      have d2 := sT_gd (lo := 1) (hi := 50) hx.1 (by decide) d7.1
      refine q_digit2 (g := (sD cs 0 7 (1, p + 1)).2.1) (p := (sD cs 0 7 (1, p + 1)).2.2) (ac := 2) (a := r1) (b := 0) (c := 0) hx d7.1 (by decide) (fun r2 h2 => ?_)
      rintro _ rfl
      exact k 2 r1 r2 0 (fun z => ⟨rfl, h1 (d2.2 z).1, h2 z, rfl⟩)
    · refine ⟨fun _ => ⟨fun _ => ?_, fun z => absurd (show (3 : Int) = 5 from z) (by decide)⟩, fun z => absurd (show (3 : Int) = 6 from z) (by decide)⟩
      refine q_digit1 (g := 1) (p := p + 1) (ac := 3) (a := a0) (b := 0) (c := 0) hx g0 (by decide) (fun r1 h1 => ?_)
      rintro _ rfl
      refine ⟨fun _ => ⟨fun _ => ⟨fun _ => ⟨fun _ => ?_, fun z => absurd (show (3 : Int) = 4 from z) (by decide)⟩, fun z => absurd (show (3 : Int) = 2 from z) (by decide)⟩, fun z => absurd (show (3 : Int) = 1 from z) (by decide)⟩, fun z => absurd (show (3 : Int) = 0 from z) (by decide)⟩
      exact k 3 r1 0 0 (fun z => ⟨rfl, h1 z, rfl, rfl⟩)
    · refine ⟨fun _ => ⟨fun _ => ?_, fun z => absurd (show (4 : Int) = 5 from z) (by decide)⟩, fun z => absurd (show (4 : Int) = 6 from z) (by decide)⟩
      refine q_digit1 (g := 1) (p := p + 1) (ac := 4) (a := a0) (b := 0) (c := 0) hx g0 (by decide) (fun r1 h1 => ?_)
      rintro _ rfl
      refine ⟨fun _ => ⟨fun _ => ⟨fun _ => ⟨fun z => absurd rfl z, fun _ => ?_⟩, fun z => absurd (show (4 : Int) = 2 from z) (by decide)⟩, fun z => absurd (show (4 : Int) = 1 from z) (by decide)⟩, fun z => absurd (show (4 : Int) = 0 from z) (by decide)⟩
      have d2 := sS_gd hx.1 d7.1
      refine q_plus (g := (sD cs 0 7 (1, p + 1)).2.1) (p := (sD cs 0 7 (1, p + 1)).2.2) (ac := 4) (a := r1) (b := 0) (c := 0) hx d7.1 (fun r2 h2 => ?_)
      rintro _ rfl
      exact k 4 r1 r2 0 (fun z => ⟨rfl, h1 (d2.2 z).1, h2 z, rfl⟩)
    · refine ⟨fun _ => ⟨fun z => absurd rfl z, fun _ => ?_⟩, fun z => absurd (show (5 : Int) = 6 from z) (by decide)⟩
      have d1 := sD_gd (lo := 0) (hi := 5) hx.1 (by decide) g0
      have d2 := sF_gd hx.1 d1.1
      refine q_digit1 (g := 1) (p := p + 1) (ac := 5) (a := a0) (b := 0) (c := 0) hx g0 (by decide) (fun r1 h1 => ?_)
      rintro _ rfl
      refine q_digit4 (g := (sD cs 0 5 (1, p + 1)).2.1) (p := (sD cs 0 5 (1, p + 1)).2.2) (ac := 5) (a := r1) (b := 0) (c := 0) hx d1.1 (fun r2 h2 => ?_)
      rintro _ rfl
      exact k 5 r1 r2 0 (fun z => ⟨rfl, h1 (d2.2 z).1, h2 z, rfl⟩)
    · refine ⟨fun z => absurd rfl z, fun _ => ?_⟩
      refine q_digit2 (g := 1) (p := p + 1) (ac := 6) (a := a0) (b := 0) (c := 0) hx g0 (by decide) (fun r1 h1 => ?_)
      rintro _ rfl
      exact k 6 r1 0 0 (fun z => ⟨rfl, h1 z, rfl, rfl⟩)
theorem q_findFail {f : Nat} {i p wr ac a b c : Int} {Q : Int → XZ → Prop} (hw : ¬ wr = 0) (k : Q p (xS x p wr ac a b c)) : ZL_X_findError_6 (f + 1) i (xS x p wr ac a b c) Q := by
  rw [ZL_X_findError_6]
  exact ⟨fun _ => ⟨fun z => absurd z hw, fun _ => k⟩, fun _ => ⟨fun _ => ⟨fun _ => ⟨fun z => absurd z hw, fun _ => k⟩, fun z => absurd rfl z⟩, fun z => absurd z hw⟩⟩
theorem q_findLoop {Q : Int → XZ → Prop} (hx : XOK x cs) : ∀ (n : Nat) (i p ac a b c : Int), i + n = 60 → 0 ≤ i → 0 ≤ p → Xz_length x < p + 2 * n → (∀ p' wr ac a b c : Int, Q (errF cs (Xz_length x) n p) (xS x p' wr ac a b c)) → ZL_X_findError_6 (n + 1 + 1) i (xS x p 0 ac a b c) Q := by
  intro n
  induction n with
  | zero =>
    intro i p ac a b c hi h0 hp hL k
    rw [ZL_X_findError_6]
    exact ⟨fun z => absurd z (by omega), fun _ => ⟨fun z => absurd rfl z, fun _ => ⟨fun _ => ⟨fun _ => ⟨fun _ => k _ _ _ _ _ _, fun z => absurd rfl z⟩, fun z => absurd rfl z⟩, fun z => absurd (show Xz_length x ≤ p by omega) z⟩⟩⟩
  | succ n ih =>
    intro i p ac a b c hi h0 hp hL k
    rw [ZL_X_findError_6]
    refine ⟨fun z => absurd z (by omega), fun _ => ⟨fun z => absurd rfl z, fun _ => ⟨fun z => ⟨fun _ => ⟨fun _ => ?_, fun z => absurd rfl z⟩, fun z => absurd rfl z⟩, fun z => ⟨fun z => absurd z (by decide), fun _ => ?_⟩⟩⟩⟩
    · have z : Xz_length x ≤ p := z
      have e : errF cs (Xz_length x) (n + 1) p = -1 := if_neg (by omega)
      rw [e] at k
      exact k _ _ _ _ _ _
    · have z : ¬ Xz_length x ≤ p := z
      have hpL : p < Xz_length x := by omega
      have d := prs_gd hx.1 hp hpL
      refine q_understand hx ⟨hp, hpL⟩ (fun ac' a' b' c' hv => ⟨by omega, ?_⟩)
      by_cases q : (prs cs p).2.2.2.1 = 1
      · have e : errF cs (Xz_length x) (n + 1) p = errF cs (Xz_length x) n (prs cs p).2.2.2.2 := by
          show (if p < Xz_length x then (if (prs cs p).2.2.2.1 = 1 then errF cs (Xz_length x) n (prs cs p).2.2.2.2 else (prs cs p).2.2.2.2) else -1) = _
          rw [if_pos hpL, if_pos q]
        rw [e] at k
        rw [q]
        have d2 := d.2 q
        exact ih (i + 1) (prs cs p).2.2.2.2 ac' a' b' c' (by omega) (by omega) (by omega) (by omega) k
      · have e : errF cs (Xz_length x) (n + 1) p = (prs cs p).2.2.2.2 := by
          show (if p < Xz_length x then (if (prs cs p).2.2.2.1 = 1 then errF cs (Xz_length x) n (prs cs p).2.2.2.2 else (prs cs p).2.2.2.2) else -1) = _
          rw [if_pos hpL, if_neg q]
        rw [e] at k
        have q0 : (prs cs p).2.2.2.1 = 0 := by
          rcases d.1.1 with y | y
          · exact y
          · exact absurd y q
        rw [q0]
        exact q_findFail (by decide) (k _ _ _ _ _ _)
theorem q_begin {Q : XZ → Prop} (hx : XOK x cs) (k1 : cs 0 = 71 → Q (xS x 1 0 (Xz_action x) (Xz_a x) (Xz_b x) (Xz_c x))) (k0 : ¬ cs 0 = 71 → Q (xS x 0 1 (Xz_action x) (Xz_a x) (Xz_b x) (Xz_c x))) : Z_X_begin x Q := by
  rintro _ rfl
  have cn := hx.1.2.1 0
  refine q_sign (x := x) (p := 0) (wr := Xz_wrong x) (ac := Xz_action x) (a := Xz_a x) (b := Xz_b x) (c := Xz_c x) hx (Int.le_refl _) (fun r r1 r2 => ⟨fun z => ?_, fun z => ?_⟩)
  · have e : cs 0 = 71 := by
      by_cases q : 0 ≤ (0 : Int) ∧ 0 < Xz_length x
      · rw [← r1 q]
        exact z
      · have := r2 q
        omega
    refine ⟨Or.inl rfl, ?_⟩
    rintro _ rfl
    refine ⟨fun z => absurd rfl z, fun _ => ⟨by show -2147483648 ≤ (0 : Int) + 1 ∧ (0 : Int) + 1 < 2147483648; decide, ?_⟩⟩
    rintro _ rfl
    exact k1 e
  · have e : ¬ cs 0 = 71 := by
      by_cases q : 0 ≤ (0 : Int) ∧ 0 < Xz_length x
      · rw [← r1 q]
        exact z
      · rw [cn q]
        decide
    refine ⟨Or.inr rfl, ?_⟩
    rintro _ rfl
    exact ⟨fun _ => k0 e, fun z => absurd (show (1 : Int) = 0 from z) (by decide)⟩
theorem q_findError {Q : Int → XZ → Prop} (hx : XOK x cs) (k : ∀ p' wr ac a b c : Int, Q (errA cs (Xz_length x)) (xS x p' wr ac a b c)) : Z_X_findError x Q := by
  have hL := hx.1.1
  refine q_begin hx (fun e => ?_) (fun e => ?_)
  · unfold errA at k
    rw [if_pos e] at k
    exact ⟨_, q_findLoop hx 60 0 1 _ _ _ _ (by decide) (by decide) (by decide) (by show Xz_length x < 1 + 2 * 60; omega) k⟩
  · unfold errA at k
    rw [if_neg e] at k
    exact ⟨1, q_findFail (by decide) (k _ _ _ _ _ _)⟩
theorem q_runLoop {Q : Int → XZ → SZ → Prop} (hx : XOK x cs) : ∀ (n : Nat) (i p ac a b c l0 : Int) (σ : SZ) (T : Int), i + n = 60 → 0 ≤ i → 0 ≤ p → Xz_length x < p + 2 * n → (0 ≤ l0 ∧ l0 ≤ i) → SOK σ T → T + 99 * n ≤ 5000000 → errF cs (Xz_length x) n p = -1 → (∀ (l : Int) (τ : SZ) (p' wr ac a b c : Int), ldR cs (Xz_length x) n p σ l τ → SOK τ (T + 99 * n) → Q (l0 + l) (xS x p' wr ac a b c) τ) → ZL_X_runOn_8 (n + 1) l0 i (xS x p 0 ac a b c) σ Q := by
  intro n
  induction n with
  | zero =>
    intro i p ac a b c l0 σ T hi h0 hp hL hl h hT he k
    rw [ZL_X_runOn_8]
    have g := k 0 σ p 0 ac a b c ⟨rfl, rfl⟩ (h.mono (by omega) (by omega))
    rw [Int.add_zero] at g
    exact ⟨fun z => absurd z (by omega), fun _ => ⟨fun z => absurd rfl z, fun _ => ⟨fun _ => ⟨fun _ => g, fun z => absurd rfl z⟩, fun z => absurd (show Xz_length x ≤ p by omega) z⟩⟩⟩
  | succ n ih =>
    intro i p ac a b c l0 σ T hi h0 hp hL hl h hT he k
    rw [ZL_X_runOn_8]
    refine ⟨fun z => absurd z (by omega), fun _ => ⟨fun z => absurd rfl z, fun _ => ⟨fun z => ⟨fun _ => ?_, fun z => absurd rfl z⟩, fun z => ⟨fun z => absurd z (by decide), fun _ => ?_⟩⟩⟩⟩
    · have z : Xz_length x ≤ p := z
      have e : ldR cs (Xz_length x) (n + 1) p σ 0 σ := by
        show (if p < Xz_length x ∧ (prs cs p).2.2.2.1 = 1 then ∃ r σ' l', attR σ (aOf (cs p)).toNat (prs cs p).1 (prs cs p).2.1 (prs cs p).2.2.1 r σ' ∧ ldR cs (Xz_length x) n (prs cs p).2.2.2.2 σ' l' σ ∧ 0 = (1 - r) + l' else 0 = 0 ∧ σ = σ)
        rw [if_neg (by omega)]
        exact ⟨rfl, rfl⟩
      have g := k 0 σ p 0 ac a b c e (h.mono (by omega) (by omega))
      rw [Int.add_zero] at g
      exact g
    · have z : ¬ Xz_length x ≤ p := z
      have hpL : p < Xz_length x := by omega
      have d := prs_gd hx.1 hp hpL
      have he : (if p < Xz_length x then (if (prs cs p).2.2.2.1 = 1 then errF cs (Xz_length x) n (prs cs p).2.2.2.2 else (prs cs p).2.2.2.2) else -1) = -1 := he
      rw [if_pos hpL] at he
      have d1 := d.1.2.1
      have q : (prs cs p).2.2.2.1 = 1 := by
        by_cases q : (prs cs p).2.2.2.1 = 1
        · exact q
        · rw [if_neg q] at he
          omega
      rw [if_pos q] at he
      have d2 := d.2 q
      have ai := aOf_in (c := cs p)
      refine q_understand hx ⟨hp, hpL⟩ (fun ac' a' b' c' hv => ?_)
      obtain ⟨v1, v2, v3, v4⟩ := hv q
      subst v1; subst v2; subst v3; subst v4
      have pv := prs_val (cs := cs) (p := p) d2.1
      rw [q]
      refine ⟨fun z => absurd (show (1 : Int) - 1 = 0 by decide) z, fun _ => ?_⟩
      have main : ∀ A : Int, A = aOf (cs p) → Z_S_attempt A (prs cs p).1 (prs cs p).2.1 (prs cs p).2.2.1 σ (fun r30_ v34_ => ((¬ r30_ = 0 → (Z_T_asNumber 0 (fun r40_ => zin (l0 + r40_) ∧ zin (i + 1) ∧ (ZL_X_runOn_8 (n + 1) (l0 + r40_) (i + 1) (xS x (prs cs p).2.2.2.2 (1 - 1) (aOf (cs p)) (prs cs p).1 (prs cs p).2.1 (prs cs p).2.2.1) v34_ Q)))) ∧ (r30_ = 0 → (Z_T_asNumber 1 (fun r44_ => zin (l0 + r44_) ∧ zin (i + 1) ∧ (ZL_X_runOn_8 (n + 1) (l0 + r44_) (i + 1) (xS x (prs cs p).2.2.2.2 (1 - 1) (aOf (cs p)) (prs cs p).1 (prs cs p).2.1 (prs cs p).2.2.1) v34_ Q)))))) := by
        intro A hA
        rw [show A = (((aOf (cs p)).toNat : Nat) : Int) by omega]
        refine q_attR (by omega) h (by omega) pv (fun r σ' e => ?_)
        have e' := e.ok h (by omega) pv
        have go : ∀ y : Int, y = 1 - r → ZL_X_runOn_8 (n + 1) (l0 + y) (i + 1) (xS x (prs cs p).2.2.2.2 (1 - 1) (aOf (cs p)) (prs cs p).1 (prs cs p).2.1 (prs cs p).2.2.1) σ' Q := by
          intro y hy
          refine ih (i + 1) (prs cs p).2.2.2.2 _ _ _ _ (l0 + y) σ' (T + 99) (by omega) (by omega) (by omega) (by omega) (by omega) e'.1 (by omega) he (fun l τ p' wr ac a b c p2 s2 => ?_)
          have e3 : ldR cs (Xz_length x) (n + 1) p σ (1 - r + l) τ := by
            show (if p < Xz_length x ∧ (prs cs p).2.2.2.1 = 1 then ∃ r2 σ2 l', attR σ (aOf (cs p)).toNat (prs cs p).1 (prs cs p).2.1 (prs cs p).2.2.1 r2 σ2 ∧ ldR cs (Xz_length x) n (prs cs p).2.2.2.2 σ2 l' τ ∧ 1 - r + l = (1 - r2) + l' else 1 - r + l = 0 ∧ τ = σ)
            rw [if_pos ⟨hpL, q⟩]
            exact ⟨r, σ', l, e, p2, rfl⟩
          have g := k (1 - r + l) τ p' wr ac a b c e3 (s2.mono (by omega) (by omega))
          rw [show l0 + y + l = l0 + (1 - r + l) by omega]
          exact g
        refine ⟨fun z => q_asNumber (fun _ => ⟨by omega, by omega, go 0 (by omega)⟩) (fun z => absurd rfl z), fun z => q_asNumber (fun z => absurd z (by decide)) (fun _ => ⟨by omega, by omega, go 1 (by omega)⟩)⟩
      exact main _ rfl
theorem q_runOn {σ : SZ} {T : Int} {Q : Int → XZ → SZ → Prop} (hx : XOK x cs) (h : SOK σ T) (hT : T + 5940 ≤ 5000000) (he : errA cs (Xz_length x) = -1) (k : ∀ (l : Int) (τ : SZ) (p' wr ac a b c : Int), ldR cs (Xz_length x) 60 1 σ l τ → SOK τ (T + 5940) → Q l (xS x p' wr ac a b c) τ) : Z_X_runOn x σ Q := by
  have hL := hx.1.1
  unfold errA at he
  refine q_begin hx (fun e => ?_) (fun e => ?_)
  · rw [if_pos e] at he
    refine ⟨_, q_runLoop hx 60 0 1 _ _ _ _ 0 σ T (by decide) (by decide) (by decide) (by show Xz_length x < 1 + 2 * 60; omega) ⟨Int.le_refl _, Int.le_refl _⟩ h (by show T + 99 * 60 ≤ 5000000; omega) he (fun l τ p' wr ac a b c p2 s2 => ?_)⟩
    rw [Int.zero_add]
    exact k l τ p' wr ac a b c p2 s2
  · rw [if_neg e] at he
    omega
end QU
