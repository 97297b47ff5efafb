/-! ### the model reads all -/
section QW
variable {cs : Int → Int} {w : MZ} {W : Nat → Int} {σ : SZ} {T lo hi p g l : Int}
theorem m_setLoop {a m v : Int} {Q : MZ → Prop} (hm : MOK w cs) (hg : gd (g, p)) (hv : 0 ≤ v ∧ v ≤ 4) (hmm : 0 ≤ m ∧ m ≤ 9) (k : ZL_M_readSet_29 1 a (sK cs m 3 v (g, p)).1 m (0 + 1 + 1 + 1) (mS w W (sK cs m 3 v (g, p)).2.2 (sK cs m 3 v (g, p)).2.1 l) Q) : ZL_M_readSet_29 4 a v m 0 (mS w W p g l) Q := by
  have ai := sD_in (cs := cs) (lo := 0) (hi := m) (st := (g, p)) hmm.1
  have ag := sD_gd (lo := 0) (hi := m) hm.1 (by decide) hg
  have bi := sD_in (cs := cs) (lo := 0) (hi := m) (st := (sD cs 0 m (g, p)).2) hmm.1
  have bg := sD_gd (lo := 0) (hi := m) hm.1 (by decide) ag.1
  have ci := sD_in (cs := cs) (lo := 0) (hi := m) (st := (sD cs 0 m (sD cs 0 m (g, p)).2).2) hmm.1
  rw [ZL_M_readSet_29]
  refine ⟨fun z => absurd z (by decide), fun _ => m_digit hm hg ⟨by omega, by omega, by decide, ?_⟩⟩
  rw [ZL_M_readSet_29]
  refine ⟨fun z => absurd z (by decide), fun _ => m_digit (g := (sD cs 0 m (g, p)).2.1) (p := (sD cs 0 m (g, p)).2.2) hm ag.1 ⟨by omega, ?_, by decide, ?_⟩⟩
  · show -2147483648 ≤ 10 * (10 * v + (sD cs 0 m (g, p)).1) + (sD cs 0 m (sD cs 0 m (g, p)).2).1 ∧ 10 * (10 * v + (sD cs 0 m (g, p)).1) + (sD cs 0 m (sD cs 0 m (g, p)).2).1 < 2147483648
    omega
  rw [ZL_M_readSet_29]
  refine ⟨fun z => absurd z (by decide), fun _ => m_digit (g := (sD cs 0 m (sD cs 0 m (g, p)).2).2.1) (p := (sD cs 0 m (sD cs 0 m (g, p)).2).2.2) hm bg.1 ⟨?_, ?_, by decide, k⟩⟩
  · show -2147483648 ≤ 10 * (10 * (10 * v + (sD cs 0 m (g, p)).1) + (sD cs 0 m (sD cs 0 m (g, p)).2).1) ∧ 10 * (10 * (10 * v + (sD cs 0 m (g, p)).1) + (sD cs 0 m (sD cs 0 m (g, p)).2).1) < 2147483648
    omega
  · show -2147483648 ≤ 10 * (10 * (10 * v + (sD cs 0 m (g, p)).1) + (sD cs 0 m (sD cs 0 m (g, p)).2).1) + (sD cs 0 m (sD cs 0 m (sD cs 0 m (g, p)).2).2).1 ∧ 10 * (10 * (10 * v + (sD cs 0 m (g, p)).1) + (sD cs 0 m (sD cs 0 m (g, p)).2).1) + (sD cs 0 m (sD cs 0 m (sD cs 0 m (g, p)).2).2).1 < 2147483648
    omega
theorem m_readSet {A C : Int × Int × Int} {σ' : SZ} {x : Int} {Q : MZ → Prop} (hm : MOK w cs) (h : SOK σ T) (rl : Rel σ W) (hl : 0 ≤ l ∧ l ≤ 1000) (hg : gd (g, p)) (eA : sD cs 0 5 (g, p) = A) (eC : sF cs A.2 = C) (k : rdK w W σ l 5 A.1 C.1 0 C.2.1 C.2.2 σ' x Q) : Z_M_readSet (mS w W p g l) Q := by
  obtain ⟨kb, kn, ky⟩ := k
  have a := sD_gd (lo := 0) (hi := 5) hm.1 (by decide) hg
  have ai := sD_in (cs := cs) (lo := 0) (hi := 5) (st := (g, p)) (by decide)
  rw [eA] at a ai
  have b := sD_gd (lo := 0) (hi := 4) hm.1 (by decide) a.1
  have bi := sD_in (cs := cs) (lo := 0) (hi := 4) (st := A.2) (by decide)
  have c := sF_gd hm.1 a.1
  have ci := sF_in (cs := cs) (st := A.2)
  rw [eC] at c ci
  have cg := c.1.1
  have fin : ∀ m : Int, ZL_M_readSet_29 1 A.1 C.1 m (0 + 1 + 1 + 1) (mS w W C.2.2 C.2.1 l) Q := by
    intro m
    rw [ZL_M_readSet_29]
    refine ⟨fun _ => m_isSetting (fun sp => ?_) (fun sp => ?_), fun z => absurd (show (3 : Int) ≤ 0 + 1 + 1 + 1 by decide) z⟩
    · have f : fltA σ 5 A.1 C.1 0 = 0 := if_pos sp
      refine m_goes hl (fun y => ⟨fun _ => by rw [y]; exact kb y, fun z => absurd rfl z⟩) (fun y _ => ⟨fun z => absurd z (by decide), fun _ => ?_⟩) (fun _ y => absurd y (by decide))
      obtain ⟨e, kk⟩ := ky (by omega) f
      refine g_put h rl f e (fun W' r' => ?_)
      rintro _ rfl
      rw [show C.2.1 = 1 by omega]
      exact kk W' r'
    · have f : ¬ fltA σ 5 A.1 C.1 0 = 0 := fun o => sp (ok5 o)
      exact m_goes hl (fun y => ⟨fun _ => by rw [y]; exact kb y, fun z => absurd rfl z⟩) (fun _ y => absurd rfl y) (fun y _ => ⟨fun _ => by rw [show C.2.1 = 1 by omega]; exact kn (by omega) f, fun z => absurd rfl z⟩)
  refine m_digit hm hg ?_
  rw [eA]
  refine m_digit (g := A.2.1) (p := A.2.2) hm a.1 ?_
  have e3 : sF cs A.2 = sK cs (if (sD cs 0 4 A.2).1 = 4 then 0 else 9) 3 (sD cs 0 4 A.2).1 (sD cs 0 4 A.2).2 := rfl
  refine ⟨fun z => ⟨4, m_setLoop (g := (sD cs 0 4 A.2).2.1) (p := (sD cs 0 4 A.2).2.2) hm b.1 bi (by decide) ?_⟩, fun z => ⟨4, m_setLoop (g := (sD cs 0 4 A.2).2.1) (p := (sD cs 0 4 A.2).2.2) hm b.1 bi (by decide) ?_⟩⟩
  · have z : ¬ (sD cs 0 4 A.2).1 = 4 := z
    rw [if_neg z, eC] at e3
    have f := fin 9
    rw [e3] at f
    exact f
  · have z : (sD cs 0 4 A.2).1 = 4 := z
    rw [if_pos z, eC] at e3
    have f := fin 0
    rw [e3] at f
    exact f
theorem m_readL {A : Int × Int × Int} {σ' : SZ} {x : Int} {Q : MZ → Prop} (hm : MOK w cs) (h : SOK σ T) (rl : Rel σ W) (hl : 0 ≤ l ∧ l ≤ 1000) (hg : gd (g, p)) (eA : sD cs 0 7 (g, p) = A) (k : rdK w W σ l 3 A.1 0 0 A.2.1 A.2.2 σ' x Q) : Z_M_readNumber 108 (mS w W p g l) Q := by
  obtain ⟨kb, kn, ky⟩ := k
  have a := sD_gd (lo := 0) (hi := 7) hm.1 (by decide) hg
  rw [eA] at a
  have cg := a.1.1
  refine ⟨fun _ => m_digit hm hg ?_, fun z => absurd rfl z⟩
  rw [eA]
  refine m_isReader h rl (fun q => ?_) (fun q => ?_)
  · have f : fltA σ 3 A.1 0 0 = 0 := if_pos q
    refine m_goes hl (fun y => ⟨fun _ => by rw [y]; exact kb y, fun z => absurd rfl z⟩) (fun y _ => ⟨fun z => absurd z (by decide), fun _ => ?_⟩) (fun _ y => absurd y (by decide))
    obtain ⟨e, kk⟩ := ky (by omega) f
    refine g_leave h rl f e (fun W' r' => ?_)
    rintro _ rfl
    rw [show A.2.1 = 1 by omega]
    exact kk W' r'
  · have f : ¬ fltA σ 3 A.1 0 0 = 0 := fun o => q (ok3 o)
    exact m_goes hl (fun y => ⟨fun _ => by rw [y]; exact kb y, fun z => absurd rfl z⟩) (fun _ y => absurd rfl y) (fun y _ => ⟨fun _ => by rw [show A.2.1 = 1 by omega]; exact kn (by omega) f, fun z => absurd rfl z⟩)
theorem m_readR {A B : Int × Int × Int} {σ' : SZ} {x : Int} {Q : MZ → Prop} (hm : MOK w cs) (h : SOK σ T) (hT : T + 99 ≤ 5000000) (rl : Rel σ W) (hl : 0 ≤ l ∧ l ≤ 1000) (hg : gd (g, p)) (eA : sD cs 0 7 (g, p) = A) (eB : sT cs 1 50 A.2 = B) (k : rdK w W σ l 2 A.1 B.1 0 B.2.1 B.2.2 σ' x Q) : Z_M_readNumber 114 (mS w W p g l) Q := by
  obtain ⟨kb, kn, ky⟩ := k
  have a := sD_gd (lo := 0) (hi := 7) hm.1 (by decide) hg
  rw [eA] at a
  have b := sT_gd (lo := 1) (hi := 50) hm.1 (by decide) a.1
  have bi := sT_in (cs := cs) (lo := 1) (hi := 50) (st := A.2) (by decide) (by decide) (by decide)
  rw [eB] at b bi
  have cg := b.1.1
  refine ⟨fun z => absurd z (by decide), fun _ => ⟨fun _ => m_digit hm hg ?_, fun z => absurd rfl z⟩⟩
  rw [eA]
  refine m_two (g := A.2.1) (p := A.2.2) hm a.1 (by decide) ?_
  rw [show sT cs 1 50 (A.2.1, A.2.2) = B from eB]
  refine m_isReader h rl (fun q => ?_) (fun q => ?_)
  · have f : fltA σ 2 A.1 B.1 0 = 0 := by
      show (if isR σ A.1 then (if 1 ≤ B.1 ∧ B.1 ≤ 50 then (0 : Int) else 2) else 1) = 0
      rw [if_pos q, if_pos bi]
    refine m_goes hl (fun y => ⟨fun _ => by rw [y]; exact kb y, fun z => absurd rfl z⟩) (fun y _ => ⟨fun z => absurd z (by decide), fun _ => ?_⟩) (fun _ y => absurd y (by decide))
    obtain ⟨e, kk⟩ := ky (by omega) f
    refine g_read h (by omega) rl f e (fun W' r' => ?_)
    rintro _ rfl
    rw [show B.2.1 = 1 by omega]
    exact kk W' r'
  · have f : ¬ fltA σ 2 A.1 B.1 0 = 0 := fun o => q (ok2 o).1
    exact m_goes hl (fun y => ⟨fun _ => by rw [y]; exact kb y, fun z => absurd rfl z⟩) (fun _ y => absurd rfl y) (fun y _ => ⟨fun _ => by rw [show B.2.1 = 1 by omega]; exact kn (by omega) f, fun z => absurd rfl z⟩)
theorem m_readT {A : Int × Int × Int} {σ' : SZ} {x : Int} {Q : MZ → Prop} (hm : MOK w cs) (h : SOK σ T) (hT : T + 99 ≤ 5000000) (rl : Rel σ W) (hg : gd (g, p)) (eA : sT cs 1 99 (g, p) = A) (k : rdK w W σ l 6 A.1 0 0 A.2.1 A.2.2 σ' x Q) : Z_M_readNumber 116 (mS w W p g l) Q := by
  obtain ⟨kb, kn, ky⟩ := k
  have a := sT_gd (lo := 1) (hi := 99) hm.1 (by decide) hg
  have ai := sT_in (cs := cs) (lo := 1) (hi := 99) (st := (g, p)) (by decide) (by decide) (by decide)
  rw [eA] at a ai
  have cg := a.1.1
  refine ⟨fun z => absurd z (by decide), fun _ => ⟨fun z => absurd z (by decide), fun _ => m_two hm hg (by decide) ?_⟩⟩
  rw [eA]
  have f : fltA σ 6 A.1 0 0 = 0 := if_pos ai
  refine ⟨fun y => ?_, fun y => ?_⟩
  · have y : A.2.1 = 0 := y
    rw [y]
    exact kb y
  · have y : ¬ A.2.1 = 0 := y
    obtain ⟨e, kk⟩ := ky (by omega) f
    refine g_ticks h hT rl f e (fun W' r' => ?_)
    rintro _ rfl
    rw [show A.2.1 = 1 by omega]
    exact kk W' r'
theorem m_readCommand {σ' : SZ} {x : Int} {Q : MZ → Prop} (hm : MOK w cs) (h : SOK σ T) (hT : T + 99 ≤ 5000000) (rl : Rel σ W) (hl : 0 ≤ l ∧ l ≤ 1000) (hp : 0 ≤ p ∧ p < Mz_length w) (k : rdK w W σ l (aOf (cs p)).toNat (prs cs p).1 (prs cs p).2.1 (prs cs p).2.2.1 (prs cs p).2.2.2.1 (prs cs p).2.2.2.2 σ' x Q) : Z_M_readCommand (mS w W p 1 l) Q := by
  have hL := hm.1.1
  have g0 : gd ((1 : Int), p + 1) := ⟨Or.inr rfl, by show 0 ≤ p + 1; omega, by show p + 1 ≤ 120; omega⟩
  have J : aOf (cs p) ≠ -1 → ZJ_M_readCommand_48 (cs p) (mS w W p 1 l) Q := by
    intro ac
    have e : prs cs p = pA cs (1, p + 1) (aOf (cs p)).toNat := if_neg ac
    rw [e] at k
    unfold ZJ_M_readCommand_48 ZJ_M_readCommand_53
    refine m_take (g := 1) ⟨hp.1, by omega⟩ (fun _ _ => ⟨fun _ => ?_, fun z => absurd (show (1 : Int) = 0 from z) (by decide)⟩) (fun z => absurd ⟨by decide, by decide⟩ z)
    refine ⟨fun c => ?_, fun c1 => ⟨fun c => ?_, fun c2 => ⟨fun c => ?_, fun c3 => ⟨fun c => ?_, fun c4 => ?_⟩⟩⟩⟩
    · rw [show aOf (cs p) = 4 by rw [c]; rfl] at k
      exact m_readHold hm h rl hl g0 rfl rfl k
    · rw [show aOf (cs p) = 1 by rw [c]; rfl] at k
      exact m_readJoin hm h rl hl g0 rfl rfl rfl k
    · rw [show aOf (cs p) = 5 by rw [c]; rfl] at k
      exact m_readSet hm h rl hl g0 rfl rfl k
    · rw [show aOf (cs p) = 0 by rw [c]; rfl] at k
      exact m_readWrite hm h rl hl g0 rfl rfl rfl k
    · have c5 : cs p = 114 ∨ cs p = 108 ∨ cs p = 116 := by
        unfold aOf at ac
        rw [if_neg c4, if_neg c2] at ac
        by_cases y : cs p = 114
        · exact Or.inl y
        · by_cases y2 : cs p = 108
          · exact Or.inr (Or.inl y2)
          · rw [if_neg y, if_neg y2, if_neg c1, if_neg c3] at ac
            by_cases y3 : cs p = 116
            · exact Or.inr (Or.inr y3)
            · rw [if_neg y3] at ac
              exact absurd rfl ac
      rcases c5 with c | c | c
      · rw [show aOf (cs p) = 2 by rw [c]; rfl] at k
        rw [c]
        exact m_readR hm h hT rl hl g0 rfl rfl k
      · rw [show aOf (cs p) = 3 by rw [c]; rfl] at k
        rw [c]
        exact m_readL hm h rl hl g0 rfl k
      · rw [show aOf (cs p) = 6 by rw [c]; rfl] at k
        rw [c]
        exact m_readT hm h hT rl g0 rfl k
  refine m_here hm hp.1 ⟨fun c => J (by rw [c]; decide), fun c1 => ⟨fun c => J (by rw [c]; decide), fun c2 => ⟨fun c => J (by rw [c]; decide), fun c3 => ⟨fun c => J (by rw [c]; decide), fun c4 => ⟨fun c => J (by rw [c]; decide), fun c5 => ⟨fun c => J (by rw [c]; decide), fun c6 => ⟨fun c7 => ?_, fun c => J (by rw [c]; decide)⟩⟩⟩⟩⟩⟩⟩
  have ac : aOf (cs p) = -1 := by
    unfold aOf
    rw [if_neg c1, if_neg c2, if_neg c3, if_neg c4, if_neg c5, if_neg c6, if_neg c7]
  have e : prs cs p = (0, 0, 0, 0, p) := if_pos ac
  rw [e] at k
  unfold ZJ_M_readCommand_53
  exact m_take (g := 1) ⟨hp.1, by omega⟩ (fun _ z => absurd rfl z) (fun _ => ⟨fun z => absurd rfl z, fun _ => k.1 rfl⟩)
theorem m_readLoop {τ : SZ} {Q : Int → MZ → Prop} (hm : MOK w cs) : ∀ (n : Nat) (p l0 : Int) (σ : SZ) (W : Nat → Int) (T l : Int), 0 ≤ p → Mz_length w < p + 2 * n → (0 ≤ l0 ∧ l0 + n ≤ 900) → SOK σ T → T + 99 * n ≤ 5000000 → Rel σ W → ldR cs (Mz_length w) n p σ l τ → (∀ (W' : Nat → Int) (p' g' : Int), Rel τ W' → Q (errF cs (Mz_length w) n p) (mS w W' p' g' (l0 + l))) → ZL_M_readAll_40 (n + 1 + 1) (mS w W p 1 l0) Q := by
  intro n
  induction n with
  | zero =>
    intro p l0 σ W T l hp hL hl h hT rl pr k
    obtain ⟨p1, p2⟩ := pr
    subst p1; subst p2
    rw [ZL_M_readAll_40]
    rw [Int.add_zero] at k
    exact ⟨fun z => absurd (show (1 : Int) = 0 from z) (by decide), fun _ => ⟨fun _ => ⟨fun z => absurd (show (1 : Int) = 0 from z) (by decide), fun _ => k _ _ _ rl⟩, fun z => absurd (show Mz_length w ≤ p by omega) z⟩⟩
  | succ n ih =>
    intro p l0 σ W T l hp hL hl h hT rl pr k
    rw [ZL_M_readAll_40]
    have pr : (if p < Mz_length w ∧ (prs cs p).2.2.2.1 = 1 then ∃ r σ' l', attR σ (aOf (cs p)).toNat (prs cs p).1 (prs cs p).2.1 (prs cs p).2.2.1 r σ' ∧ ldR cs (Mz_length w) n (prs cs p).2.2.2.2 σ' l' τ ∧ l = (1 - r) + l' else l = 0 ∧ τ = σ) := pr
    have k : ∀ (W' : Nat → Int) (p' g' : Int), Rel τ W' → Q (if p < Mz_length w then (if (prs cs p).2.2.2.1 = 1 then errF cs (Mz_length w) n (prs cs p).2.2.2.2 else (prs cs p).2.2.2.2) else -1) (mS w W' p' g' (l0 + l)) := k
    refine ⟨fun z => absurd (show (1 : Int) = 0 from z) (by decide), fun _ => ⟨fun z => ⟨fun z => absurd (show (1 : Int) = 0 from z) (by decide), fun _ => ?_⟩, fun z => ?_⟩⟩
    · have z : Mz_length w ≤ p := z
      rw [if_neg (by omega)] at pr k
      obtain ⟨p1, p2⟩ := pr
      subst p1; subst p2
      rw [Int.add_zero] at k
      exact k _ _ _ rl
    · have z : ¬ Mz_length w ≤ p := z
      have hpL : p < Mz_length w := by omega
      have d := prs_gd hm.1 hp hpL
      rw [if_pos hpL] at k
      by_cases q : (prs cs p).2.2.2.1 = 1
      · have d2 := d.2 q
        have pv := prs_val (cs := cs) (p := p) d2.1
        rw [if_pos ⟨hpL, q⟩] at pr
        rw [if_pos q] at k
        obtain ⟨r, σ1, l1, e, pr, el⟩ := pr
        have e' := e.ok h (by omega) pv
        have go : ∀ (l2 : Int) (W' : Nat → Int), l2 = l0 + (1 - r) → Rel σ1 W' → ZL_M_readAll_40 (n + 1 + 1) (mS w W' (prs cs p).2.2.2.2 1 l2) Q := by
          intro l2 W' hl2 r'
          refine ih (prs cs p).2.2.2.2 l2 σ1 W' (T + 99) l1 (by omega) (by omega) (by omega) e'.1 (by omega) r' pr (fun W2 p' g' r2 => ?_)
          rw [show l2 + l1 = l0 + l by omega]
          exact k W2 p' g' r2
        by_cases f : fltA σ (aOf (cs p)).toNat (prs cs p).1 (prs cs p).2.1 (prs cs p).2.2.1 = 0
        · obtain ⟨er, x, e3⟩ := e.yes f
          exact m_readCommand (σ' := σ1) (x := x) hm h (by omega) rl ⟨hl.1, by omega⟩ ⟨hp, hpL⟩ ⟨fun y => absurd q (by omega), fun _ y => absurd f y, fun _ _ => ⟨e3, fun W' r' => go l0 W' (by omega) r'⟩⟩
        · obtain ⟨er, e3⟩ := e.no f
          subst e3
          exact m_readCommand (σ' := σ1) (x := 0) hm h (by omega) rl ⟨hl.1, by omega⟩ ⟨hp, hpL⟩ ⟨fun y => absurd q (by omega), fun _ _ => go (l0 + 1) W (by omega) rl, fun _ y => absurd y f⟩
      · rw [if_neg (fun y => q y.2)] at pr
        rw [if_neg q] at k
        obtain ⟨p1, p2⟩ := pr
        subst p1; subst p2
        rw [Int.add_zero] at k
        refine m_readCommand (σ' := τ) (x := 0) hm h (by omega) rl ⟨hl.1, by omega⟩ ⟨hp, hpL⟩ ⟨fun y => ?_, fun y => absurd y q, fun y => absurd y q⟩
        show ZL_M_readAll_40 (n + 1 + 1) (mS w W (prs cs p).2.2.2.2 0 l0) Q
        rw [ZL_M_readAll_40]
        exact ⟨fun _ => ⟨fun _ => k _ _ _ rl, fun z => absurd rfl z⟩, fun z => absurd rfl z⟩
theorem m_readAll {z τ : SZ} {l : Int} {Q : Int → MZ → Prop} (hm : MOK w cs) (hz : FreshS z) (pr : ldR cs (Mz_length w) 60 1 z l τ) (k : ∀ (W' : Nat → Int) (p' g' l' : Int), (cs 0 = 71 → Rel τ W' ∧ l' = l) → Q (errA cs (Mz_length w)) (mS w W' p' g' l')) : Z_M_readAll w Q := by
  have hL := hm.1.1
  unfold errA at k
  rintro _ rfl _ rfl _ rfl
  refine m_fresh (fun V hV => ?_)
  rintro _ rfl
  refine m_here (W := V) (p := 0) (g := 1) (l := 0) hm (Int.le_refl _) ⟨fun c => ?_, fun c => ?_⟩
  · rw [if_neg c] at k
    refine m_take (W := V) (p := 0) (g := 1) (l := 0) (by decide) (fun _ z => absurd rfl z) (fun _ => ⟨1, ?_⟩)
    rw [ZL_M_readAll_40]
    exact ⟨fun _ => ⟨fun _ => k V 0 0 0 (fun y => absurd y c), fun z => absurd rfl z⟩, fun z => absurd rfl z⟩
  · rw [if_pos c] at k
    refine m_take (W := V) (p := 0) (g := 1) (l := 0) (by decide) (fun _ _ => ⟨62, ?_⟩) (fun z => absurd ⟨by decide, by decide⟩ z)
    refine m_readLoop hm 60 (0 + 1) 0 z V 0 l (by decide) (by show Mz_length w < 0 + 1 + 2 * 60; omega) (by decide) (hz.ok (by decide)) (by decide) (hz.rel hV) pr (fun W' p' g' r' => ?_)
    rw [Int.zero_add l]
    exact k W' p' g' l (fun _ => ⟨r', rfl⟩)
/-- there is always a way -/
theorem attR_ex {c : Nat} {a b d : Int} (hc : c < 7) : ∃ r σ', attR σ c a b d r σ' := by
  by_cases o : fltA σ c a b d = 0
  · have e : ∃ x σ', resA σ c a b d x σ' := by
      match c, hc with
      | 0, _ => exact ⟨_, _, rfl, rfl⟩
      | 1, _ =>
        obtain ⟨⟨o1, o2⟩, o3⟩ := ok1 o
        by_cases b0 : b = 0
        · exact ⟨_, _, Lz_dropValues (Sz_log σ), ⟨fun _ => ⟨rfl, fun _ _ _ => rfl⟩, fun z => absurd z (by omega), fun z => absurd b0 z⟩, rfl⟩
        · by_cases b1 : b = 1
          · refine ⟨_, _, (fun n => toldX (Sz_log σ) (n : Int) (Lz_end (Sz_log σ))), ⟨fun z => absurd z b0, fun _ => ⟨rfl, fun k k0 _ => ?_⟩, fun _ z => absurd b1 z⟩, rfl⟩
            show toldX (Sz_log σ) ((k.toNat : Nat) : Int) (Lz_end (Sz_log σ)) = _
            rw [Int.toNat_of_nonneg k0]
          · exact ⟨_, _, Rz_values (Sz_readers σ a.toNat), ⟨fun z => absurd z b0, fun z => absurd z b1, fun _ _ => ⟨rfl, rfl⟩⟩, rfl⟩
      | 2, _ =>
        rcases Int.lt_or_le (Rz_place (Sz_readers σ a.toNat)) (Lz_first (Sz_log σ)) with q | q
        · exact ⟨_, _, Or.inr ⟨q, rfl, Lz_dropValues (Sz_log σ), fun _ _ _ => rfl, rfl⟩⟩
        · exact ⟨_, _, Or.inl ⟨q, rfl, rfl⟩⟩
      | 3, _ => exact ⟨_, _, rfl, rfl⟩
      | 4, _ => exact ⟨_, _, rfl, rfl⟩
      | 5, _ => exact ⟨_, _, rfl, rfl⟩
      | 6, _ => exact ⟨_, _, rfl, rfl⟩
    obtain ⟨x, σ', e⟩ := e
    exact ⟨1, σ', Or.inl ⟨o, rfl, x, e⟩⟩
  · exact ⟨0, σ, Or.inr ⟨o, rfl, rfl⟩⟩
theorem ldR_ex {L : Int} : ∀ (n : Nat) (p : Int) (σ : SZ), ∃ l τ, ldR cs L n p σ l τ := by
  intro n
  induction n with
  | zero =>
    intro p σ
    exact ⟨0, σ, rfl, rfl⟩
  | succ n ih =>
    intro p σ
    by_cases q : p < L ∧ (prs cs p).2.2.2.1 = 1
    · have ai := aOf_in (c := cs p)
      obtain ⟨r, σ', e⟩ := attR_ex (σ := σ) (c := (aOf (cs p)).toNat) (a := (prs cs p).1) (b := (prs cs p).2.1) (d := (prs cs p).2.2.1) (by omega)
      obtain ⟨l, τ, p2⟩ := ih (prs cs p).2.2.2.2 σ'
      refine ⟨(1 - r) + l, τ, ?_⟩
      show (if p < L ∧ (prs cs p).2.2.2.1 = 1 then ∃ r2 σ2 l', attR σ (aOf (cs p)).toNat (prs cs p).1 (prs cs p).2.1 (prs cs p).2.2.1 r2 σ2 ∧ ldR cs L n (prs cs p).2.2.2.2 σ2 l' τ ∧ (1 - r) + l = (1 - r2) + l' else (1 - r) + l = 0 ∧ τ = σ)
      rw [if_pos q]
      exact ⟨r, σ', l, e, p2, rfl⟩
    · refine ⟨0, σ, ?_⟩
      show (if p < L ∧ (prs cs p).2.2.2.1 = 1 then ∃ r2 σ2 l', attR σ (aOf (cs p)).toNat (prs cs p).1 (prs cs p).2.1 (prs cs p).2.2.1 r2 σ2 ∧ ldR cs L n (prs cs p).2.2.2.2 σ2 l' σ ∧ 0 = (1 - r2) + l' else 0 = 0 ∧ σ = σ)
      rw [if_neg q]
      exact ⟨rfl, rfl⟩
end QW
