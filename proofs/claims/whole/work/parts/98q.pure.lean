/-! ### the text of the class -/
abbrev xS (x : XZ) (p wr ac a b c : Int) : XZ := (Xz_signs x, Xz_length x, p, wr, ac, a, b, c)
def XOK (x : XZ) (cs : Int → Int) : Prop := csOK cs (Xz_length x) ∧ ∀ p : Int, 0 ≤ p → p < Xz_length x → cs p = Xz_signs x p.toNat ∧ 0 ≤ cs p
section QT
variable {cs : Int → Int} {x : XZ} {lo hi p g ac a b c : Int}
theorem q_sign {wr : Int} {Q : Int → Prop} (hx : XOK x cs) (h0 : 0 ≤ p) (k : ∀ r : Int, (0 ≤ p ∧ p < Xz_length x → r = cs p) → (¬ (0 ≤ p ∧ p < Xz_length x) → r = 0) → Q r) : Z_X_sign (xS x p wr ac a b c) Q := by
  have hL := hx.1.1
  refine ⟨fun z => absurd (show p < 0 from z) (by omega), fun _ => ⟨fun z => ?_, fun z => ⟨fun z2 => absurd (show 120 ≤ p from z2) ?_, fun z2 => ⟨?_, ?_, ?_⟩⟩⟩⟩
  · have z : Xz_length x ≤ p := z
    exact k 0 (fun y => by omega) (fun _ => rfl)
  · have z : ¬ Xz_length x ≤ p := z
    omega
  · have z2 : ¬ 120 ≤ p := z2
    show 0 ≤ p ∧ p < 120
    omega
  · have z : ¬ Xz_length x ≤ p := z
    have y := hx.2 p h0 (by omega)
    have y2 := hx.1.2.2 p
    show 0 ≤ Xz_signs x p.toNat ∧ Xz_signs x p.toNat ≤ 65535
    omega
  · have z : ¬ Xz_length x ≤ p := z
    exact k _ (fun y => (hx.2 p h0 y.2).1.symm) (fun y => absurd ⟨h0, by omega⟩ y)
theorem q_dgFail {f : Nat} {x1 x2 x3 cnt n sp i wr : Int} {Q : Int → XZ → Prop} (hw : ¬ wr = 0) (k : Q n (xS x p wr ac a b c)) : ZL_X_digits_31 (f + 1) x1 x2 x3 cnt lo hi n sp i (xS x p wr ac a b c) Q := by
  rw [ZL_X_digits_31]
  exact ⟨fun _ => k, fun _ => ⟨fun _ => k, fun z => absurd (show wr = 0 from z) hw⟩⟩
theorem q_dg {f : Nat} {x1 x2 x3 cnt n sp5 sp i : Int} {Q : Int → XZ → Prop} (hx : XOK x cs) (hsp : Int.tdiv sp5 10 = sp) (hi1 : i < cnt) (hi0 : 0 ≤ i ∧ i ≤ 10) (h0 : 0 ≤ p ∧ p ≤ 120)
    (hz : ∀ d : Int, 0 ≤ d → d ≤ 9 → zin (n * 10) ∧ zin (n * 10 + d) ∧ zin ((n * 10 + d) * sp) ∧ zin ((n * 10 + d) * sp + sp) ∧ zin ((n * 10 + d) * sp + sp - 1))
    (kok : 0 ≤ cs p - 48 → cs p - 48 ≤ 9 → (n * 10 + (cs p - 48)) * sp ≤ hi → lo ≤ (n * 10 + (cs p - 48)) * sp + sp - 1 → ZL_X_digits_31 (f + 1) x1 x2 x3 cnt lo hi (n * 10 + (cs p - 48)) sp (i + 1) (xS x (p + 1) 0 ac a b c) Q)
    (kno : ¬ (0 ≤ cs p - 48 ∧ cs p - 48 ≤ 9 ∧ (n * 10 + (cs p - 48)) * sp ≤ hi ∧ lo ≤ (n * 10 + (cs p - 48)) * sp + sp - 1) → Q n (xS x p 1 ac a b c)) :
    ZL_X_digits_31 (f + 1 + 1) x1 x2 x3 cnt lo hi n sp5 i (xS x p 0 ac a b c) Q := by
  rw [ZL_X_digits_31]
  rw [hsp]
  refine ⟨fun z => absurd z (by omega), fun _ => ⟨fun z => absurd rfl z, fun _ => q_sign hx h0.1 (fun r r1 r2 => ⟨fun z => ?_, fun z => ⟨fun z2 => ?_, fun z2 => ?_⟩⟩)⟩⟩
  · rintro _ rfl
    refine ⟨by omega, q_dgFail (p := p) (by decide) (kno (fun y => ?_))⟩
    by_cases q : 0 ≤ p ∧ p < Xz_length x
    · have := r1 q
      omega
    · have := hx.1.2.1 p q
      omega
  · rintro _ rfl
    refine ⟨by omega, q_dgFail (p := p) (by decide) (kno (fun y => ?_))⟩
    by_cases q : 0 ≤ p ∧ p < Xz_length x
    · have := r1 q
      omega
    · have := hx.1.2.1 p q
      omega
  · have q : 0 ≤ p ∧ p < Xz_length x := by
      by_cases q : 0 ≤ p ∧ p < Xz_length x
      · exact q
      · have := r2 q
        omega
    have e := r1 q
    subst e
    obtain ⟨b1, b2, b3, b4, b5⟩ := hz (cs p - 48) (by omega) (by omega)
    refine ⟨b1, by omega, b2, b3, fun z3 => ?_, fun z3 => ⟨b4, b5, fun z4 => ⟨by show -2147483648 ≤ p + 1 ∧ p + 1 < 2147483648; omega, ?_⟩, fun z4 => ?_⟩⟩
    · rintro _ rfl
      exact ⟨by omega, q_dgFail (p := p) (by decide) (kno (fun y => by omega))⟩
    · rintro _ rfl
      exact ⟨by omega, kok (by omega) (by omega) (by omega) z4⟩
    · rintro _ rfl
      exact ⟨by omega, q_dgFail (p := p) (by decide) (kno (fun y => z4 y.2.2.2))⟩
theorem dg_in1 {v : XZ} {Q : Int → XZ → Prop} (n : Nat) (k : ZL_X_digits_31 n 1 lo hi 1 lo hi 0 (1 * 10) 0 v Q) : Z_X_digits 1 lo hi v Q := by
  refine ⟨2, ?_⟩
  rw [ZL_X_digits_9]
  refine ⟨fun z => absurd z (by decide), fun _ => ⟨by decide, by decide, ?_⟩⟩
  rw [ZL_X_digits_9]
  exact ⟨fun _ => ⟨n, k⟩, fun z => absurd (show (1 : Int) ≤ 0 + 1 by decide) z⟩
theorem dg_in2 {v : XZ} {Q : Int → XZ → Prop} (n : Nat) (k : ZL_X_digits_31 n 2 lo hi 2 lo hi 0 (1 * 10 * 10) 0 v Q) : Z_X_digits 2 lo hi v Q := by
  refine ⟨3, ?_⟩
  rw [ZL_X_digits_9]
  refine ⟨fun z => absurd z (by decide), fun _ => ⟨by decide, by decide, ?_⟩⟩
  rw [ZL_X_digits_9]
  refine ⟨fun z => absurd z (by decide), fun _ => ⟨by decide, by decide, ?_⟩⟩
  rw [ZL_X_digits_9]
  exact ⟨fun _ => ⟨n, k⟩, fun z => absurd (show (2 : Int) ≤ 0 + 1 + 1 by decide) z⟩
theorem dg_in4 {v : XZ} {Q : Int → XZ → Prop} (n : Nat) (k : ZL_X_digits_31 n 4 lo hi 4 lo hi 0 (1 * 10 * 10 * 10 * 10) 0 v Q) : Z_X_digits 4 lo hi v Q := by
  refine ⟨5, ?_⟩
  rw [ZL_X_digits_9]
  refine ⟨fun z => absurd z (by decide), fun _ => ⟨by decide, by decide, ?_⟩⟩
  rw [ZL_X_digits_9]
  refine ⟨fun z => absurd z (by decide), fun _ => ⟨by decide, by decide, ?_⟩⟩
  rw [ZL_X_digits_9]
  refine ⟨fun z => absurd z (by decide), fun _ => ⟨by decide, by decide, ?_⟩⟩
  rw [ZL_X_digits_9]
  refine ⟨fun z => absurd z (by decide), fun _ => ⟨by decide, by decide, ?_⟩⟩
  rw [ZL_X_digits_9]
  exact ⟨fun _ => ⟨n, k⟩, fun z => absurd (show (4 : Int) ≤ 0 + 1 + 1 + 1 + 1 by decide) z⟩
/-- the end of the digits -/
theorem q_dgEnd {f : Nat} {x1 x2 x3 cnt n sp i wr : Int} {Q : Int → XZ → Prop} (hi1 : cnt ≤ i) (k : Q n (xS x p wr ac a b c)) : ZL_X_digits_31 (f + 1) x1 x2 x3 cnt lo hi n sp i (xS x p wr ac a b c) Q := by
  rw [ZL_X_digits_31]
  exact ⟨fun _ => k, fun z => absurd hi1 z⟩
theorem q_digit1 {Q : Int → XZ → Prop} (hx : XOK x cs) (hg : gd (g, p)) (hl : 0 ≤ lo ∧ hi ≤ 9) (k : ∀ r : Int, ((sD cs lo hi (g, p)).2.1 = 1 → r = (sD cs lo hi (g, p)).1) → Q r (xS x (sD cs lo hi (g, p)).2.2 (1 - (sD cs lo hi (g, p)).2.1) ac a b c)) : Z_X_digits 1 lo hi (xS x p (1 - g) ac a b c) Q := by
  obtain ⟨g1, g2, g3⟩ := hg
  rcases g1 with z | z
  · have z : g = 0 := z
    subst z
    rw [sD_0] at k
    exact dg_in1 1 (q_dgFail (by decide) (k 0 (fun z => absurd (show (0 : Int) = 1 from z) (by decide))))
  · have z : g = 1 := z
    subst z
    refine dg_in1 2 (q_dg (f := 0) (n := 0) (i := 0) (sp := 1) (p := p) hx (by decide) (by decide) (by decide) ⟨g2, g3⟩ (fun d d0 d9 => by omega) (fun d0 d9 d1 d2 => ?_) (fun no => ?_))
    · rw [sD_ok (by omega)] at k
      exact q_dgEnd (by decide) (k (0 * 10 + (cs p - 48)) (fun _ => by show 0 * 10 + (cs p - 48) = cs p - 48; omega))
    · rw [sD_no (by omega)] at k
      exact k 0 (fun z => absurd (show (0 : Int) = 1 from z) (by decide))
theorem q_digit2 {Q : Int → XZ → Prop} (hx : XOK x cs) (hg : gd (g, p)) (hl : 0 ≤ lo ∧ lo ≤ hi ∧ hi ≤ 99) (k : ∀ r : Int, ((sT cs lo hi (g, p)).2.1 = 1 → r = (sT cs lo hi (g, p)).1) → Q r (xS x (sT cs lo hi (g, p)).2.2 (1 - (sT cs lo hi (g, p)).2.1) ac a b c)) : Z_X_digits 2 lo hi (xS x p (1 - g) ac a b c) Q := by
  obtain ⟨g1, g2, g3⟩ := hg
  have bad : ∀ q : Int, (sD cs (lo / 10) (hi / 10) (g, p)) = (lo / 10, 0, q) → ∀ n : Int, Q n (xS x q 1 ac a b c) := by
    intro q e n
    unfold sT at k
    rw [e] at k
    have e2 : sT2 cs lo hi (lo / 10, 0, q) = (if (lo / 10 : Int) = lo / 10 then lo % 10 else 0, 0, q) := by
      unfold sT2
      exact sD_0
    rw [e2] at k
    exact k n (fun z => absurd (show (0 : Int) = 1 from z) (by decide))
  rcases g1 with z | z
  · have z : g = 0 := z
    subst z
    exact dg_in2 1 (q_dgFail (by decide) (bad p sD_0 0))
  · have z : g = 1 := z
    subst z
    refine dg_in2 3 (q_dg (f := 1) (n := 0) (i := 0) (sp := 10) (p := p) hx (by decide) (by decide) (by decide) ⟨g2, g3⟩ (fun d d0 d9 => by omega) (fun d0 d9 d1 d2 => ?_) (fun no => ?_))
    · have e : sD cs (lo / 10) (hi / 10) (1, p) = (cs p - 48, 1, p + 1) := sD_ok (by omega)
      unfold sT at k
      rw [e] at k
      have hp := hx.1.at (p := p) (by omega)
      have hL := hx.1.1
      refine q_dg (f := 0) (n := 0 * 10 + (cs p - 48)) (i := 0 + 1) (sp := 1) (p := p + 1) hx (by decide) (by decide) (by decide) ⟨by omega, by omega⟩ (fun d e0 e9 => by omega) (fun e0 e9 e1 e2 => ?_) (fun no => ?_)
      · have f : sT2 cs lo hi (cs p - 48, 1, p + 1) = (cs (p + 1) - 48, 1, p + 1 + 1) := by
          refine sD_ok ⟨?_, ?_⟩
          · show (if cs p - 48 = lo / 10 then lo % 10 else 0) ≤ _
            split <;> omega
          · show _ ≤ (if cs p - 48 = hi / 10 then hi % 10 else 9)
            split <;> omega
        rw [f] at k
        exact q_dgEnd (by decide) (k _ (fun _ => by show (0 * 10 + (cs p - 48)) * 10 + (cs (p + 1) - 48) = 10 * (cs p - 48) + (cs (p + 1) - 48); omega))
      · have f : sT2 cs lo hi (cs p - 48, 1, p + 1) = (if cs p - 48 = lo / 10 then lo % 10 else 0, 0, p + 1) := by
          refine sD_no (fun y => no ?_)
          obtain ⟨y1, y2⟩ := y
          have y1 : (if cs p - 48 = lo / 10 then lo % 10 else 0) ≤ cs (p + 1) - 48 := y1
          have y2 : cs (p + 1) - 48 ≤ (if cs p - 48 = hi / 10 then hi % 10 else 9) := y2
          split at y1 <;> split at y2 <;> omega
        rw [f] at k
        exact k _ (fun z => absurd (show (0 : Int) = 1 from z) (by decide))
    · exact bad p (sD_no (by omega)) 0
theorem q_dgK0 {m n : Int} {Q : Int → XZ → Prop} (hx : XOK x cs) (h0 : 0 ≤ p ∧ p ≤ 120) (hn : (m = 0 ∧ n * 1 = 4000) ∨ (m = 9 ∧ 0 ≤ n ∧ n * 1 + 1 ≤ 4000)) (k : ∀ r : Int, ((sK cs m 0 n (1, p)).2.1 = 1 → r = (sK cs m 0 n (1, p)).1) → Q r (xS x (sK cs m 0 n (1, p)).2.2 (1 - (sK cs m 0 n (1, p)).2.1) ac a b c)) : ZL_X_digits_31 (0 + 1) 4 0 4000 4 0 4000 n 1 (0 + 1 + 1 + 1 + 1) (xS x p 0 ac a b c) Q := by
  exact q_dgEnd (by decide) (k n (fun _ => rfl))
theorem q_dgK1 {m n : Int} {Q : Int → XZ → Prop} (hx : XOK x cs) (h0 : 0 ≤ p ∧ p ≤ 120) (hn : (m = 0 ∧ n * 10 = 4000) ∨ (m = 9 ∧ 0 ≤ n ∧ n * 10 + 10 ≤ 4000)) (k : ∀ r : Int, ((sK cs m 1 n (1, p)).2.1 = 1 → r = (sK cs m 1 n (1, p)).1) → Q r (xS x (sK cs m 1 n (1, p)).2.2 (1 - (sK cs m 1 n (1, p)).2.1) ac a b c)) : ZL_X_digits_31 (1 + 1) 4 0 4000 4 0 4000 n 10 (0 + 1 + 1 + 1) (xS x p 0 ac a b c) Q := by
  refine q_dg (f := 0) (sp := 1) hx (by decide) (by decide) (by decide) h0 (fun d d0 d9 => by omega) (fun d0 d9 d1 d2 => ?_) (fun no => ?_)
  · have e : sD cs 0 m (1, p) = (cs p - 48, 1, p + 1) := sD_ok (by omega)
    have k : ∀ r : Int, ((sK cs m 0 (10 * n + (sD cs 0 m (1, p)).1) (sD cs 0 m (1, p)).2).2.1 = 1 → r = (sK cs m 0 (10 * n + (sD cs 0 m (1, p)).1) (sD cs 0 m (1, p)).2).1) → Q r (xS x (sK cs m 0 (10 * n + (sD cs 0 m (1, p)).1) (sD cs 0 m (1, p)).2).2.2 (1 - (sK cs m 0 (10 * n + (sD cs 0 m (1, p)).1) (sD cs 0 m (1, p)).2).2.1) ac a b c) := k
    rw [e] at k
    have k : ∀ r : Int, ((sK cs m 0 (10 * n + (cs p - 48)) (1, p + 1)).2.1 = 1 → r = (sK cs m 0 (10 * n + (cs p - 48)) (1, p + 1)).1) → Q r (xS x (sK cs m 0 (10 * n + (cs p - 48)) (1, p + 1)).2.2 (1 - (sK cs m 0 (10 * n + (cs p - 48)) (1, p + 1)).2.1) ac a b c) := k
    rw [show 10 * n + (cs p - 48) = n * 10 + (cs p - 48) by omega] at k
    have hp := hx.1.at (p := p) (by omega)
    have hL := hx.1.1
    exact q_dgK0 (m := m) hx ⟨by omega, by omega⟩ (by omega) k
  · have e : sD cs 0 m (1, p) = (0, 0, p) := sD_no (by omega)
    have e2 : (sK cs m 1 n (1, p)).2 = (0, p) := by
      show (sK cs m 0 (10 * n + (sD cs 0 m (1, p)).1) (sD cs 0 m (1, p)).2).2 = (0, p)
      rw [e]
      exact sK_bad 0 _
    rw [e2] at k
    exact k n (fun z => absurd (show (0 : Int) = 1 from z) (by decide))
theorem q_dgK2 {m n : Int} {Q : Int → XZ → Prop} (hx : XOK x cs) (h0 : 0 ≤ p ∧ p ≤ 120) (hn : (m = 0 ∧ n * 100 = 4000) ∨ (m = 9 ∧ 0 ≤ n ∧ n * 100 + 100 ≤ 4000)) (k : ∀ r : Int, ((sK cs m 2 n (1, p)).2.1 = 1 → r = (sK cs m 2 n (1, p)).1) → Q r (xS x (sK cs m 2 n (1, p)).2.2 (1 - (sK cs m 2 n (1, p)).2.1) ac a b c)) : ZL_X_digits_31 (2 + 1) 4 0 4000 4 0 4000 n 100 (0 + 1 + 1) (xS x p 0 ac a b c) Q := by
  refine q_dg (f := 1) (sp := 10) hx (by decide) (by decide) (by decide) h0 (fun d d0 d9 => by omega) (fun d0 d9 d1 d2 => ?_) (fun no => ?_)
  · have e : sD cs 0 m (1, p) = (cs p - 48, 1, p + 1) := sD_ok (by omega)
    have k : ∀ r : Int, ((sK cs m 1 (10 * n + (sD cs 0 m (1, p)).1) (sD cs 0 m (1, p)).2).2.1 = 1 → r = (sK cs m 1 (10 * n + (sD cs 0 m (1, p)).1) (sD cs 0 m (1, p)).2).1) → Q r (xS x (sK cs m 1 (10 * n + (sD cs 0 m (1, p)).1) (sD cs 0 m (1, p)).2).2.2 (1 - (sK cs m 1 (10 * n + (sD cs 0 m (1, p)).1) (sD cs 0 m (1, p)).2).2.1) ac a b c) := k
    rw [e] at k
    have k : ∀ r : Int, ((sK cs m 1 (10 * n + (cs p - 48)) (1, p + 1)).2.1 = 1 → r = (sK cs m 1 (10 * n + (cs p - 48)) (1, p + 1)).1) → Q r (xS x (sK cs m 1 (10 * n + (cs p - 48)) (1, p + 1)).2.2 (1 - (sK cs m 1 (10 * n + (cs p - 48)) (1, p + 1)).2.1) ac a b c) := k
    rw [show 10 * n + (cs p - 48) = n * 10 + (cs p - 48) by omega] at k
    have hp := hx.1.at (p := p) (by omega)
    have hL := hx.1.1
    exact q_dgK1 (m := m) hx ⟨by omega, by omega⟩ (by omega) k
  · have e : sD cs 0 m (1, p) = (0, 0, p) := sD_no (by omega)
    have e2 : (sK cs m 2 n (1, p)).2 = (0, p) := by
      show (sK cs m 1 (10 * n + (sD cs 0 m (1, p)).1) (sD cs 0 m (1, p)).2).2 = (0, p)
      rw [e]
      exact sK_bad 1 _
    rw [e2] at k
    exact k n (fun z => absurd (show (0 : Int) = 1 from z) (by decide))
theorem q_dgK3 {m n : Int} {Q : Int → XZ → Prop} (hx : XOK x cs) (h0 : 0 ≤ p ∧ p ≤ 120) (hn : (m = 0 ∧ n * 1000 = 4000) ∨ (m = 9 ∧ 0 ≤ n ∧ n * 1000 + 1000 ≤ 4000)) (k : ∀ r : Int, ((sK cs m 3 n (1, p)).2.1 = 1 → r = (sK cs m 3 n (1, p)).1) → Q r (xS x (sK cs m 3 n (1, p)).2.2 (1 - (sK cs m 3 n (1, p)).2.1) ac a b c)) : ZL_X_digits_31 (3 + 1) 4 0 4000 4 0 4000 n 1000 (0 + 1) (xS x p 0 ac a b c) Q := by
  refine q_dg (f := 2) (sp := 100) hx (by decide) (by decide) (by decide) h0 (fun d d0 d9 => by omega) (fun d0 d9 d1 d2 => ?_) (fun no => ?_)
  · have e : sD cs 0 m (1, p) = (cs p - 48, 1, p + 1) := sD_ok (by omega)
    have k : ∀ r : Int, ((sK cs m 2 (10 * n + (sD cs 0 m (1, p)).1) (sD cs 0 m (1, p)).2).2.1 = 1 → r = (sK cs m 2 (10 * n + (sD cs 0 m (1, p)).1) (sD cs 0 m (1, p)).2).1) → Q r (xS x (sK cs m 2 (10 * n + (sD cs 0 m (1, p)).1) (sD cs 0 m (1, p)).2).2.2 (1 - (sK cs m 2 (10 * n + (sD cs 0 m (1, p)).1) (sD cs 0 m (1, p)).2).2.1) ac a b c) := k
    rw [e] at k
    have k : ∀ r : Int, ((sK cs m 2 (10 * n + (cs p - 48)) (1, p + 1)).2.1 = 1 → r = (sK cs m 2 (10 * n + (cs p - 48)) (1, p + 1)).1) → Q r (xS x (sK cs m 2 (10 * n + (cs p - 48)) (1, p + 1)).2.2 (1 - (sK cs m 2 (10 * n + (cs p - 48)) (1, p + 1)).2.1) ac a b c) := k
    rw [show 10 * n + (cs p - 48) = n * 10 + (cs p - 48) by omega] at k
    have hp := hx.1.at (p := p) (by omega)
    have hL := hx.1.1
    exact q_dgK2 (m := m) hx ⟨by omega, by omega⟩ (by omega) k
  · have e : sD cs 0 m (1, p) = (0, 0, p) := sD_no (by omega)
    have e2 : (sK cs m 3 n (1, p)).2 = (0, p) := by
      show (sK cs m 2 (10 * n + (sD cs 0 m (1, p)).1) (sD cs 0 m (1, p)).2).2 = (0, p)
      rw [e]
      exact sK_bad 2 _
    rw [e2] at k
    exact k n (fun z => absurd (show (0 : Int) = 1 from z) (by decide))
theorem q_digit4 {Q : Int → XZ → Prop} (hx : XOK x cs) (hg : gd (g, p)) (k : ∀ r : Int, ((sF cs (g, p)).2.1 = 1 → r = (sF cs (g, p)).1) → Q r (xS x (sF cs (g, p)).2.2 (1 - (sF cs (g, p)).2.1) ac a b c)) : Z_X_digits 4 0 4000 (xS x p (1 - g) ac a b c) Q := by
  obtain ⟨g1, g2, g3⟩ := hg
  have bad : ∀ q v : Int, (sD cs 0 4 (g, p)) = (v, 0, q) → ∀ n : Int, Q n (xS x q 1 ac a b c) := by
    intro q v e n
    have e2 : (sF cs (g, p)).2 = (0, q) := by
      unfold sF
      rw [e]
      exact sK_bad 3 _
    rw [e2] at k
    exact k n (fun z => absurd (show (0 : Int) = 1 from z) (by decide))
  rcases g1 with z | z
  · have z : g = 0 := z
    subst z
    exact dg_in4 1 (q_dgFail (by decide) (bad p 0 sD_0 0))
  · have z : g = 1 := z
    subst z
    refine dg_in4 5 (q_dg (f := 3) (n := 0) (i := 0) (sp := 1000) (p := p) hx (by decide) (by decide) (by decide) ⟨g2, g3⟩ (fun d d0 d9 => by omega) (fun d0 d9 d1 d2 => ?_) (fun no => ?_))
    · have e : sD cs 0 4 (1, p) = (cs p - 48, 1, p + 1) := sD_ok (by omega)
      have hp := hx.1.at (p := p) (by omega)
      have hL := hx.1.1
      unfold sF at k
      rw [e] at k
      have k : ∀ r : Int, ((sK cs (if cs p - 48 = 4 then 0 else 9) 3 (cs p - 48) (1, p + 1)).2.1 = 1 → r = (sK cs (if cs p - 48 = 4 then 0 else 9) 3 (cs p - 48) (1, p + 1)).1) → Q r (xS x (sK cs (if cs p - 48 = 4 then 0 else 9) 3 (cs p - 48) (1, p + 1)).2.2 (1 - (sK cs (if cs p - 48 = 4 then 0 else 9) 3 (cs p - 48) (1, p + 1)).2.1) ac a b c) := k
      have e3 : 0 * 10 + (cs p - 48) = cs p - 48 := by omega
      rw [e3]
      by_cases q : cs p - 48 = 4
      · rw [if_pos q] at k
        exact q_dgK3 (m := 0) hx ⟨by omega, by omega⟩ (by omega) k
      · rw [if_neg q] at k
        exact q_dgK3 (m := 9) hx ⟨by omega, by omega⟩ (by omega) k
    · exact bad p 0 (sD_no (by omega)) 0
theorem q_plus {Q : Int → XZ → Prop} (hx : XOK x cs) (hg : gd (g, p)) (k : ∀ r : Int, ((sS cs (g, p)).2.1 = 1 → r = (sS cs (g, p)).1) → Q r (xS x (sS cs (g, p)).2.2 (1 - (sS cs (g, p)).2.1) ac a b c)) : Z_X_plusOrMinus (xS x p (1 - g) ac a b c) Q := by
  obtain ⟨g1, g2, g3⟩ := hg
  have g2 : 0 ≤ p := g2
  have g3 : p ≤ 120 := g3
  refine q_sign hx g2 (fun r r1 r2 => ?_)
  rcases g1 with z | z
  · have z : g = 0 := z
    subst z
    have e : (sS cs (0, p)).2 = (0, p) := by
      unfold sS
      rw [if_neg (fun z => absurd (show (0 : Int) = 1 from z.1) (by decide))]
    rw [e] at k
    refine ⟨fun _ => ?_, fun z => absurd (show (1 : Int) - 0 = 0 from z) (by decide)⟩
    rintro _ rfl
    exact k 0 (fun z => absurd (show (0 : Int) = 1 from z) (by decide))
  · have z : g = 1 := z
    subst z
    have cn := hx.1.2.1 p
    have go : r = 43 ∨ r = 45 → ZJ_X_plusOrMinus_31 r (xS x p (1 - 1) ac a b c) Q := by
      intro hr
      have hp : 0 ≤ p ∧ p < Xz_length x := by
        by_cases q : 0 ≤ p ∧ p < Xz_length x
        · exact q
        · have := r2 q
          omega
      have e := r1 hp
      subst e
      have e2 : sS cs (1, p) = (if cs p = 43 then 1 else 0, 1, p + 1) := if_pos ⟨rfl, hr⟩
      rw [e2] at k
      refine ⟨by show -2147483648 ≤ p + 1 ∧ p + 1 < 2147483648; omega, ?_⟩
      rintro _ rfl
      refine ⟨fun z => q_asNumber (fun _ => ?_) (fun z => absurd rfl z), fun z => q_asNumber (fun z => absurd z (by decide)) (fun _ => ?_)⟩
      · exact k 0 (fun _ => (if_neg z).symm)
      · exact k 1 (fun _ => (if_pos z).symm)
    refine ⟨fun z => absurd (show (1 : Int) - 1 = 0 by decide) z, fun _ => ⟨fun z => go (Or.inl z), fun z => ⟨fun z2 => go (Or.inr z2), fun z2 => ?_⟩⟩⟩
    rintro _ rfl
    have no : ¬ (cs p = 43 ∨ cs p = 45) := by
      by_cases q : 0 ≤ p ∧ p < Xz_length x
      · have := r1 q
        omega
      · have := cn q
        omega
    have e : (sS cs (1, p)).2 = (0, p) := by
      unfold sS
      rw [if_neg (fun z => no z.2)]
    rw [e] at k
    exact k 0 (fun z => absurd (show (0 : Int) = 1 from z) (by decide))
theorem q_actionOf {v : XZ} {r : Int} {Q : Int → Prop} (k : Q (aOf r)) : Z_X_actionOf r v Q := by
  have kk : ∀ z : Int, aOf r = z → Q z := fun z e => e ▸ k
  unfold Z_X_actionOf
  refine ⟨fun c => kk 4 ?_, fun c0 => ⟨fun c => kk (-1) ?_, fun c1 => ⟨fun c => kk 1 ?_, fun c2 => ⟨fun c => kk (-1) ?_, fun c3 => ⟨fun c => kk 3 ?_, fun c4 => ⟨fun c => kk (-1) ?_, fun c5 => ⟨fun c => kk (-1) ?_, fun c6 => ⟨fun c => kk (-1) ?_, fun c7 => ⟨fun c => kk (-1) ?_, fun c8 => ⟨fun c => kk (-1) ?_, fun c9 => ⟨fun c => kk 2 ?_, fun c10 => ⟨fun c => kk 5 ?_, fun c11 => ⟨fun c => kk 6 ?_, fun c12 => ⟨fun c => kk (-1) ?_, fun c13 => ⟨fun c => kk (-1) ?_, fun c14 => ⟨fun c => kk 0 ?_, fun c15 => kk (-1) ?_⟩⟩⟩⟩⟩⟩⟩⟩⟩⟩⟩⟩⟩⟩⟩⟩
  case refine_17 =>
    unfold aOf
    rw [if_neg c15, if_neg c2, if_neg c10, if_neg c4, if_neg c0, if_neg c11, if_neg c12]
  all_goals
    subst c
    decide
end QT
