/-! ### the text of the model -/
abbrev mS (w : MZ) (W : Nat → Int) (p g l : Int) : MZ := (Mz_refusal w, Mz_now w, Mz_trial w, W, Mz_book w, Mz_states w, Mz_kept w, Mz_isKept w, Mz_text w, Mz_length w, p, g, l)
def MOK (w : MZ) (cs : Int → Int) : Prop := csOK cs (Mz_length w) ∧ ∀ p : Int, 0 ≤ p → p < Mz_length w → cs p = Mz_text w p.toNat
section QV
variable {cs : Int → Int} {w : MZ} {W : Nat → Int} {σ : SZ} {T lo hi p g l : Int}
theorem m_here {Q : Int → Prop} (hm : MOK w cs) (h0 : 0 ≤ p) (k : Q (cs p)) : Z_M_here (mS w W p g l) Q := by
  have hL := hm.1.1
  refine ⟨fun z => ?_, fun z => ⟨?_, ?_⟩⟩
  · have z : Mz_length w ≤ p := z
    rw [hm.1.2.1 p (by omega)] at k
    exact k
  · have z : ¬ Mz_length w ≤ p := z
    show 0 ≤ p ∧ p < 120
    omega
  · have z : ¬ Mz_length w ≤ p := z
    rw [hm.2 p h0 (by omega)] at k
    exact k
theorem m_take {x : Int} {Q : MZ → Prop} (hp : 0 ≤ p ∧ p ≤ 200) (k1 : ¬ g = 0 → ¬ x = 0 → Q (mS w W (p + 1) 1 l)) (k0 : ¬ (¬ g = 0 ∧ ¬ x = 0) → Q (mS w W p 0 l)) : Z_M_take x (mS w W p g l) Q := by
  have J : ¬ (¬ g = 0 ∧ ¬ x = 0) → ZJ_M_take_17 x 0 (mS w W p g l) Q := by
    intro c
    refine ⟨Or.inl rfl, ?_⟩
    rintro _ rfl
    refine ⟨fun _ => ⟨by show -2147483648 ≤ p + 0 ∧ p + 0 < 2147483648; omega, ?_⟩, fun z => absurd rfl z⟩
    rintro _ rfl
    have k := k0 c
    rw [show p = p + 0 by omega] at k
    exact k
  unfold Z_M_take ZJ_M_take_16
  refine ⟨fun z => J (fun y => y.1 z), fun z => ⟨fun z2 => J (fun y => y.2 z2), fun z2 => ⟨Or.inr rfl, ?_⟩⟩⟩
  rintro _ rfl
  refine ⟨fun z => absurd (show (1 : Int) = 0 from z) (by decide), fun _ => ⟨by show -2147483648 ≤ p + 1 ∧ p + 1 < 2147483648; omega, ?_⟩⟩
  rintro _ rfl
  exact k1 z z2
theorem m_digit {Q : Int → MZ → Prop} (hm : MOK w cs) (hg : gd (g, p)) (k : Q (sD cs lo hi (g, p)).1 (mS w W (sD cs lo hi (g, p)).2.2 (sD cs lo hi (g, p)).2.1 l)) : Z_M_digit lo hi (mS w W p g l) Q := by
  obtain ⟨g1, g2, g3⟩ := hg
  have g2 : 0 ≤ p := g2
  have g3 : p ≤ 120 := g3
  have c2 := hm.1.2.2 p
  have no : ∀ x : Int, ¬ (¬ g = 0 ∧ ¬ x = 0) → ¬ (g = 1 ∧ lo ≤ cs p - 48 ∧ cs p - 48 ≤ hi) → Q lo (mS w W p 0 l) := by
    intro x _ c
    have e : sD cs lo hi (g, p) = (lo, 0, p) := if_neg c
    rw [e] at k
    exact k
  have gg : g = 0 ∨ g = 1 := g1
  refine m_here hm g2 ⟨by omega, m_in (fun a0 a1 => m_take (g := g) ⟨g2, by omega⟩ (fun z1 z2 => ?_) (fun z => ?_)) (fun c => m_take (g := g) ⟨g2, by omega⟩ (fun z1 z2 => absurd rfl z2) (fun z => ?_))⟩
  · have e : sD cs lo hi (g, p) = (cs p - 48, 1, p + 1) := if_pos ⟨show g = 1 by omega, a0, a1⟩
    rw [e] at k
    exact ⟨fun z => absurd (show (1 : Int) = 0 from z) (by decide), fun _ => k⟩
  · exact ⟨fun _ => no 1 z (fun y => z ⟨by omega, by decide⟩), fun z => absurd rfl z⟩
  · exact ⟨fun _ => no 0 z (fun y => c y.2), fun z => absurd rfl z⟩
theorem m_two {Q : Int → MZ → Prop} (hm : MOK w cs) (hg : gd (g, p)) (hl : 0 ≤ lo ∧ lo ≤ hi ∧ hi ≤ 99) (k : Q (sT cs lo hi (g, p)).1 (mS w W (sT cs lo hi (g, p)).2.2 (sT cs lo hi (g, p)).2.1 l)) : Z_M_two lo hi (mS w W p g l) Q := by
  have a := sD_gd (lo := lo / 10) (hi := hi / 10) hm.1 (by omega) hg
  have ai := sD_in (cs := cs) (lo := lo / 10) (hi := hi / 10) (st := (g, p)) (by omega)
  unfold Z_M_two ZJ_M_two_34
  simp only [Int.tdiv_eq_ediv_of_nonneg hl.1, Int.tmod_eq_emod_of_nonneg hl.1, Int.tdiv_eq_ediv_of_nonneg (show 0 ≤ hi by omega), Int.tmod_eq_emod_of_nonneg (show 0 ≤ hi by omega)]
  refine m_digit hm hg ?_
  unfold sT sT2 at k
  generalize sD cs (lo / 10) (hi / 10) (g, p) = A at *
  refine ⟨fun c => ⟨by omega, fun c2 => m_digit (lo := 0) (hi := 9) (g := A.2.1) (p := A.2.2) hm a.1 ?_, fun c2 => m_digit (lo := 0) (hi := hi % 10) (g := A.2.1) (p := A.2.2) hm a.1 ?_⟩, fun c => ⟨by omega, fun c2 => m_digit (lo := lo % 10) (hi := 9) (g := A.2.1) (p := A.2.2) hm a.1 ?_, fun c2 => m_digit (lo := lo % 10) (hi := hi % 10) (g := A.2.1) (p := A.2.2) hm a.1 ?_⟩⟩
  · rw [if_neg c, if_neg c2] at k
    have b := sD_in (cs := cs) (lo := 0) (hi := 9) (st := A.2) (by decide)
    exact ⟨by show -2147483648 ≤ 10 * A.1 + (sD cs 0 9 A.2).1 ∧ 10 * A.1 + (sD cs 0 9 A.2).1 < 2147483648; omega, k⟩
  · rw [if_neg c, if_pos c2] at k
    have b := sD_in (cs := cs) (lo := 0) (hi := hi % 10) (st := A.2) (by omega)
    exact ⟨by show -2147483648 ≤ 10 * A.1 + (sD cs 0 (hi % 10) A.2).1 ∧ 10 * A.1 + (sD cs 0 (hi % 10) A.2).1 < 2147483648; omega, k⟩
  · rw [if_pos c, if_neg c2] at k
    have b := sD_in (cs := cs) (lo := lo % 10) (hi := 9) (st := A.2) (by omega)
    exact ⟨by show -2147483648 ≤ 10 * A.1 + (sD cs (lo % 10) 9 A.2).1 ∧ 10 * A.1 + (sD cs (lo % 10) 9 A.2).1 < 2147483648; omega, k⟩
  · rw [if_pos c, if_pos c2] at k
    have b := sD_in (cs := cs) (lo := lo % 10) (hi := hi % 10) (st := A.2) (by omega)
    exact ⟨by show -2147483648 ≤ 10 * A.1 + (sD cs (lo % 10) (hi % 10) A.2).1 ∧ 10 * A.1 + (sD cs (lo % 10) (hi % 10) A.2).1 < 2147483648; omega, k⟩
theorem m_sign {Q : Int → MZ → Prop} (hm : MOK w cs) (hg : gd (g, p)) (k : Q (sS cs (g, p)).1 (mS w W (sS cs (g, p)).2.2 (sS cs (g, p)).2.1 l)) : Z_M_sign (mS w W p g l) Q := by
  obtain ⟨g1, g2, g3⟩ := hg
  have g2 : 0 ≤ p := g2
  have g3 : p ≤ 120 := g3
  have gg : g = 0 ∨ g = 1 := g1
  have yes : g = 1 → (cs p = 43 ∨ cs p = 45) → Q (if cs p = 43 then 1 else 0) (mS w W (p + 1) 1 l) := by
    intro c c2
    have e : sS cs (g, p) = (if cs p = 43 then 1 else 0, 1, p + 1) := if_pos ⟨c, c2⟩
    rw [e] at k
    exact k
  have no : ¬ (g = 1 ∧ (cs p = 43 ∨ cs p = 45)) → Q (if cs p = 43 then 1 else 0) (mS w W p 0 l) := by
    intro c
    have e : sS cs (g, p) = (if cs p = 43 then 1 else 0, 0, p) := if_neg c
    rw [e] at k
    exact k
  have fin : ∀ v' : MZ, Q (if cs p = 43 then 1 else 0) v' → (¬ cs p = 43 → Q 0 v') ∧ (cs p = 43 → Q 1 v') := by
    intro v' h
    refine ⟨fun c => ?_, fun c => ?_⟩
    · rw [if_neg c] at h
      exact h
    · rw [if_pos c] at h
      exact h
  have J : cs p = 43 ∨ cs p = 45 → ZJ_M_sign_18 (cs p) (mS w W p g l) Q := by
    intro c
    exact m_take ⟨g2, by omega⟩ (fun z1 z2 => fin _ (yes (by omega) c)) (fun z => fin _ (no (fun y => z ⟨by omega, by decide⟩)))
  exact m_here hm g2 ⟨fun z => J (Or.inl z), fun z => ⟨fun z2 => m_take ⟨g2, by omega⟩ (fun z3 z4 => absurd rfl z4) (fun z3 => fin _ (no (fun y => by omega))), fun z2 => J (Or.inr z2)⟩⟩
theorem m_goes {x : Int} {Q : Int → MZ → Prop} (hl : 0 ≤ l ∧ l ≤ 1000) (k0 : g = 0 → Q 0 (mS w W p g l)) (k1 : ¬ g = 0 → ¬ x = 0 → Q 1 (mS w W p g l)) (k2 : ¬ g = 0 → x = 0 → Q 0 (mS w W p g (l + 1))) : Z_M_goes x (mS w W p g l) Q := by
  have J : ¬ (¬ g = 0 ∧ x = 0) → ZJ_M_goes_20 x x l (mS w W p g l) Q := by
    intro c
    unfold ZJ_M_goes_20 ZJ_M_goes_21
    rw [Int.add_zero]
    refine ⟨by show -2147483648 ≤ l ∧ l < 2147483648; omega, ?_⟩
    rintro _ rfl
    exact ⟨fun z => k0 z, fun z => ⟨fun z2 => absurd ⟨z, z2⟩ c, fun z2 => k1 z z2⟩⟩
  unfold Z_M_goes
  refine ⟨fun z => J (fun y => y.1 z), fun z => ⟨fun z2 => J (fun y => z2 y.2), fun z2 => ?_⟩⟩
  unfold ZJ_M_goes_21
  refine ⟨by show -2147483648 ≤ l + 1 ∧ l + 1 < 2147483648; omega, ?_⟩
  rintro _ rfl
  exact ⟨fun y => absurd y z, fun _ => ⟨fun _ => k2 z z2, fun y => absurd z2 y⟩⟩
/-- what a command read makes -/
abbrev rdK (w : MZ) (W : Nat → Int) (σ : SZ) (l : Int) (n : Nat) (a b d g p : Int) (σ' : SZ) (x : Int) (Q : MZ → Prop) : Prop :=
  (g = 0 → Q (mS w W p 0 l)) ∧ (g = 1 → ¬ fltA σ n a b d = 0 → Q (mS w W p 1 (l + 1))) ∧ (g = 1 → fltA σ n a b d = 0 → resA σ n a b d x σ' ∧ ∀ W', Rel σ' W' → Q (mS w W' p 1 l))
theorem m_readWrite {A B C : Int × Int × Int} {σ' : SZ} {x : Int} {Q : MZ → Prop} (hm : MOK w cs) (h : SOK σ T) (rl : Rel σ W) (hl : 0 ≤ l ∧ l ≤ 1000) (hg : gd (g, p)) (eA : sD cs 0 7 (g, p) = A) (eB : sT cs 0 99 A.2 = B) (eC : sT cs 1 40 B.2 = C) (k : rdK w W σ l 0 A.1 B.1 C.1 C.2.1 C.2.2 σ' x Q) : Z_M_readWrite (mS w W p g l) Q := by
  obtain ⟨kb, kn, ky⟩ := k
  have a := sD_gd (lo := 0) (hi := 7) hm.1 (by decide) hg
  have ai := sD_in (cs := cs) (lo := 0) (hi := 7) (st := (g, p)) (by decide)
  rw [eA] at a ai
  have b := sT_gd (lo := 0) (hi := 99) hm.1 (by decide) a.1
  have bi := sT_in (cs := cs) (lo := 0) (hi := 99) (st := A.2) (by decide) (by decide) (by decide)
  rw [eB] at b bi
  have c := sT_gd (lo := 1) (hi := 40) hm.1 (by decide) b.1
  have ci := sT_in (cs := cs) (lo := 1) (hi := 40) (st := B.2) (by decide) (by decide) (by decide)
  rw [eC] at c ci
  refine m_digit hm hg ?_
  rw [eA]
  refine m_two (g := A.2.1) (p := A.2.2) hm a.1 (by decide) ?_
  rw [show sT cs 0 99 (A.2.1, A.2.2) = B from eB]
  refine m_two (g := B.2.1) (p := B.2.2) hm b.1 (by decide) ?_
  rw [show sT cs 1 40 (B.2.1, B.2.2) = C from eC]
  have rp : rowP A.1 B.1 C.1 := ⟨by omega, by omega, by omega⟩
  have cg := c.1.1
  have e1 : Mz_read (mS w W C.2.2 C.2.1 l) (Int.toNat 401) = Lz_end (Sz_log σ) := rl.1.2.1
  refine ⟨by decide, ?_⟩
  rw [e1]
  refine ⟨fun z => ?_, fun z => ?_⟩
  · have f : ¬ fltA σ 0 A.1 B.1 C.1 = 0 := fun o => absurd (ok0 o).2 (by omega)
    exact m_goes hl (fun y => ⟨fun _ => by rw [y]; exact kb y, fun z => absurd rfl z⟩) (fun _ y => absurd rfl y) (fun y _ => ⟨fun _ => by rw [show C.2.1 = 1 by omega]; exact kn (by omega) f, fun z => absurd rfl z⟩)
  · have f : fltA σ 0 A.1 B.1 C.1 = 0 := by
      show (if rowP A.1 B.1 C.1 then (if 200 ≤ Lz_end (Sz_log σ) then (3 : Int) else 0) else 2) = 0
      rw [if_pos rp, if_neg z]
    refine m_goes hl (fun y => ⟨fun _ => by rw [y]; exact kb y, fun z => absurd rfl z⟩) (fun y _ => ⟨fun z => absurd z (by decide), fun _ => ?_⟩) (fun _ y => absurd y (by decide))
    obtain ⟨e, kk⟩ := ky (by omega) f
    refine g_write h rl f e (fun W' r' => ?_)
    rintro _ rfl
    rw [show C.2.1 = 1 by omega]
    exact kk W' r'
theorem m_readJoin {A B C : Int × Int × Int} {σ' : SZ} {x : Int} {Q : MZ → Prop} (hm : MOK w cs) (h : SOK σ T) (rl : Rel σ W) (hl : 0 ≤ l ∧ l ≤ 1000) (hg : gd (g, p)) (eA : sD cs 0 7 (g, p) = A) (eB : sD cs 0 2 A.2 = B) (eC : sS cs B.2 = C) (k : rdK w W σ l 1 A.1 B.1 C.1 C.2.1 C.2.2 σ' x Q) : Z_M_readJoin (mS w W p g l) Q := by
  obtain ⟨kb, kn, ky⟩ := k
  have a := sD_gd (lo := 0) (hi := 7) hm.1 (by decide) hg
  have ai := sD_in (cs := cs) (lo := 0) (hi := 7) (st := (g, p)) (by decide)
  rw [eA] at a ai
  have b := sD_gd (lo := 0) (hi := 2) hm.1 (by decide) a.1
  have bi := sD_in (cs := cs) (lo := 0) (hi := 2) (st := A.2) (by decide)
  rw [eB] at b bi
  have c := sS_gd hm.1 b.1
  have ci := sS_in (cs := cs) (st := B.2)
  rw [eC] at c ci
  refine m_digit hm hg ?_
  rw [eA]
  refine m_digit (g := A.2.1) (p := A.2.2) hm a.1 ?_
  rw [show sD cs 0 2 (A.2.1, A.2.2) = B from eB]
  refine m_sign (g := B.2.1) (p := B.2.2) hm b.1 ?_
  rw [show sS cs (B.2.1, B.2.2) = C from eC]
  have cg := c.1.1
  refine m_canJoin h rl ai.1 (by omega) (fun z1 z2 => ?_) (fun z => ?_)
  · have f : fltA σ 1 A.1 B.1 C.1 = 0 := by
      show (if (0 ≤ A.1 ∧ A.1 < 8) ∧ (0 ≤ B.1 ∧ B.1 ≤ 2) then (if canJP σ A.1 B.1 C.1 then (0 : Int) else 3) else 2) = 0
      rw [if_pos ⟨⟨ai.1, by omega⟩, bi⟩, if_pos ⟨z1, z2⟩]
    refine m_goes hl (fun y => ⟨fun _ => by rw [y]; exact kb y, fun z => absurd rfl z⟩) (fun y _ => ⟨fun z => absurd z (by decide), fun _ => ?_⟩) (fun _ y => absurd y (by decide))
    obtain ⟨e, kk⟩ := ky (by omega) f
    refine g_join h rl ci f e (fun W' r' => ?_)
    rintro _ rfl
    rw [show C.2.1 = 1 by omega]
    exact kk W' r'
  · have f : ¬ fltA σ 1 A.1 B.1 C.1 = 0 := fun o => z (ok1 o).2
    exact m_goes hl (fun y => ⟨fun _ => by rw [y]; exact kb y, fun z => absurd rfl z⟩) (fun _ y => absurd rfl y) (fun y _ => ⟨fun _ => by rw [show C.2.1 = 1 by omega]; exact kn (by omega) f, fun z => absurd rfl z⟩)
theorem m_readHold {A B : Int × Int × Int} {σ' : SZ} {x : Int} {Q : MZ → Prop} (hm : MOK w cs) (h : SOK σ T) (rl : Rel σ W) (hl : 0 ≤ l ∧ l ≤ 1000) (hg : gd (g, p)) (eA : sD cs 0 7 (g, p) = A) (eB : sS cs A.2 = B) (k : rdK w W σ l 4 A.1 B.1 0 B.2.1 B.2.2 σ' x Q) : Z_M_readHold (mS w W p g l) Q := by
  obtain ⟨kb, kn, ky⟩ := k
  have a := sD_gd (lo := 0) (hi := 7) hm.1 (by decide) hg
  have ai := sD_in (cs := cs) (lo := 0) (hi := 7) (st := (g, p)) (by decide)
  rw [eA] at a ai
  have b := sS_gd hm.1 a.1
  have bi := sS_in (cs := cs) (st := A.2)
  rw [eB] at b bi
  refine m_digit hm hg ?_
  rw [eA]
  refine m_sign (g := A.2.1) (p := A.2.2) hm a.1 ?_
  rw [show sS cs (A.2.1, A.2.2) = B from eB]
  have cg := b.1.1
  have no : ¬ fltA σ 4 A.1 B.1 0 = 0 → ZJ_M_readHold_41 A.1 B.1 (mS w W B.2.2 B.2.1 l) Q := by
    intro f
    exact m_goes hl (fun y => ⟨fun _ => by rw [y]; exact kb y, fun z => absurd rfl z⟩) (fun _ y => absurd rfl y) (fun y _ => ⟨fun _ => by rw [show B.2.1 = 1 by omega]; exact kn (by omega) f, fun z => absurd rfl z⟩)
  refine m_isReader h rl (fun q => ⟨fun z => absurd z (by decide), fun _ => m_canHold rl q.1.1 q.1.2 q.2 (fun q2 => ⟨fun z => absurd z (by decide), fun _ => ?_⟩) (fun q2 => ⟨fun _ => no (fun o => q2 (by have := (ok4 o).2; omega)), fun z => absurd rfl z⟩)⟩) (fun q => ⟨fun _ => no (fun o => q (ok4 o).1), fun z => absurd rfl z⟩)
  have f : fltA σ 4 A.1 B.1 0 = 0 := by
    show (if isR σ A.1 then (if B.1 = 1 ∧ Rz_place (Sz_readers σ A.1.toNat) < Lz_first (Sz_log σ) then (3 : Int) else 0) else 1) = 0
    rw [if_pos q, if_neg (by omega)]
  refine m_goes hl (fun y => ⟨fun _ => by rw [y]; exact kb y, fun z => absurd rfl z⟩) (fun y _ => ⟨fun z => absurd z (by decide), fun _ => ?_⟩) (fun _ y => absurd y (by decide))
  obtain ⟨e, kk⟩ := ky (by omega) f
  refine g_hold h rl bi f e (fun W' r' => ?_)
  rintro _ rfl
  rw [show B.2.1 = 1 by omega]
  exact kk W' r'
end QV
