/-! ### an action goes -/
section PY
variable {σ : SZ} {W : Nat → Int} {T : Int}
theorem chk_missed {σ : SZ} {e : Nat} : Sz_missed (chk σ e) = Sz_missed σ := (chk_keep (σ := σ) (e := e)).2.2.2.1
theorem tick_missed {σ : SZ} : Sz_missed (tickS σ) = Sz_missed σ := by
  have e1 := (dropAll_keep 200 (σ := chkAll (Sz_set_time σ (Sz_time σ + 1)) 8)).2.2.2.1
  have e2 := (chkAll_keep (σ := Sz_set_time σ (Sz_time σ + 1)) 8).2.2.2.1
  exact e1.trans e2
theorem ticks_missed : ∀ (n : Nat) {σ : SZ}, Sz_missed (ticksS n σ) = Sz_missed σ
  | 0, _ => rfl
  | n + 1, σ => (ticks_missed n (σ := tickS σ)).trans tick_missed
theorem readersN_in {σ : SZ} : 0 ≤ readersN σ ∧ readersN σ ≤ 8 := sumN_in 8 (fun j _ => by show 0 ≤ (if _ then _ else _ : Int) ∧ (if _ then _ else _ : Int) ≤ 1; split <;> omega)
theorem SOK.res {c : Nat} {a b d v : Int} {σ' : SZ} (h : SOK σ T) (hT : T + 99 ≤ 5000000) (hv : valA c b d) (o : fltA σ c a b d = 0) (r : resA σ c a b d v σ') : SOK σ' (T + 99) ∧ Sz_missed σ ≤ Sz_missed σ' ∧ (-200 ≤ v ∧ v ≤ 5000000) ∧ (c ≠ 2 → 0 ≤ v) := by
  have h1 := h.1.1
  match c with
  | 0 =>
    obtain ⟨e1, e2⟩ := r
    subst e1; subst e2
    obtain ⟨⟨o1, o2, o3⟩, o4⟩ := ok0 o
    exact ⟨(h.wr o4 (by omega) (by omega) o3).mono (by omega) hT, Int.le_refl _, by omega, fun _ => by omega⟩
  | 1 =>
    obtain ⟨vs, j, e2⟩ := r
    subst e2
    have hv : d = 0 ∨ d = 1 := hv
    have g := (j.pl h o hv).1
    exact ⟨(h.jv o hv j).mono (by omega) hT, Int.le_refl _, by omega, fun _ => g.1⟩
  | 2 =>
    obtain ⟨⟨o1, o2⟩, o3⟩ := ok2 o
    have g := (h.2.2.2 a.toNat (by omega))
    have g5 := g.2.2.2.2.1 (Or.inl o2)
    rcases r with ⟨r1, e1, e2⟩ | ⟨r1, e1, vs, r3, e2⟩
    · subst e1; subst e2
      have hm := zminZ_in (n := b) (m := Lz_end (Sz_log σ) - Rz_place (Sz_readers σ a.toNat)) (by omega) (by omega)
      have hm1 := hm.1
      have hm2 := Int.le_trans hm.2.1 o3.2
      exact ⟨(h.rd (by omega) (by omega) o2 ⟨hm1, hm2, hm.2.2⟩).mono (by omega) hT, Int.le_refl _, ⟨Int.le_trans (by decide) hm1, Int.le_trans hm2 (by decide)⟩, fun q => absurd rfl q⟩
    · subst e1; subst e2
      refine ⟨(h.gp (by omega) (by omega) o2 r1).mono (by omega) hT, ?_, by omega, fun q => absurd rfl q⟩
      show Sz_missed σ ≤ Sz_missed σ + (Lz_first (Sz_log σ) - Rz_place (Sz_readers σ a.toNat))
      omega
  | 3 =>
    obtain ⟨e1, e2⟩ := r
    subst e1; subst e2
    obtain ⟨o1, o2⟩ := ok3 o
    have g := readersN_in (σ := lvS σ a.toNat)
    exact ⟨(h.lv (by omega) o2).mono (by omega) hT, Int.le_refl _, by omega, fun _ => g.1⟩
  | 4 =>
    obtain ⟨e1, e2⟩ := r
    subst e1; subst e2
    obtain ⟨⟨o1, o2⟩, o3⟩ := ok4 o
    have g := (h.2.2.2 a.toNat (by omega)).2.2.1
    have hv : b = 0 ∨ b = 1 := hv
    exact ⟨(h.hd (by omega) o2 hv (fun q => by omega)).mono (by omega) hT, Int.le_refl _, by omega, fun _ => by omega⟩
  | 5 =>
    obtain ⟨e1, e2⟩ := r
    subst e1; subst e2
    have o := ok5 o
    have g := h.2.2.1
    have gv : 0 ≤ Sz_settings σ a.toNat ∧ Sz_settings σ a.toNat ≤ 4000 := by
      have e : a.toNat = 0 ∨ a.toNat = 1 ∨ a.toNat = 2 ∨ a.toNat = 3 ∨ a.toNat = 4 ∨ a.toNat = 5 := by omega
      obtain ⟨g0, g1, g2, g3, g4, g5⟩ := g
      rcases e with e | e | e | e | e | e <;> rw [e] <;> omega
    exact ⟨(h.st o.1.1 o.1.2 o.2).mono (by omega) hT, Int.le_refl _, by omega, fun _ => gv.1⟩
  | 6 =>
    obtain ⟨e1, e2⟩ := r
    subst e1; subst e2
    have o := ok6 o
    have hs := h.ticks a.toNat (by omega)
    have hd := ticks_dropped a.toNat (σ := σ)
    have hd2 := hs.1.1
    have e : Sz_missed (ticksS a.toNat σ) = Sz_missed σ := ticks_missed _
    exact ⟨hs.mono (by omega) hT, Int.le_of_eq e.symm, by omega, fun _ => by omega⟩
  | n + 7 => exact absurd r (by intro q; exact q)
theorem q_go {c : Nat} {a b d : Int} {Q : Int → SZ → Prop} (hc : c < 7) (h : SOK σ T) (hT : T + 99 ≤ 5000000) (hv : valA c b d) (o : fltA σ c a b d = 0) (k : ∀ v σ', resA σ c a b d v σ' → Q v σ') : Z_S_perform c a b d σ Q := by
  match c, hc with
  | 0, _ =>
    obtain ⟨⟨o1, o2, o3⟩, o4⟩ := ok0 o
    exact q_write h o4 o3 (k _ _ ⟨rfl, rfl⟩)
  | 1, _ =>
    have hv : d = 0 ∨ d = 1 := hv
    obtain ⟨⟨o1, o2⟩, p, o3⟩ := ok1 o
    have e : ∀ d' : Int, d' = d → Z_S_letIn (some a.toNat) b d' σ Q := by
      intro d' e
      subst e
      exact q_letIn h hv (fun vs pl j => k _ _ ⟨vs, j, rfl⟩)
    unfold Z_S_perform
    refine ⟨fun q => absurd q (by decide), fun _ => ⟨fun _ => q_named (fun i hi hi8 => ⟨fun q => (nomatch q), fun j q => ?_⟩) (fun q => absurd o1 q), fun q => absurd rfl q⟩⟩
    cases q
    have e0 : i = a.toNat := by omega
    subst e0
    exact ⟨fun q => e 0 (by omega), fun q => e 1 (by omega)⟩
  | 2, _ =>
    obtain ⟨⟨o1, o2⟩, o3⟩ := ok2 o
    unfold Z_S_perform
    refine ⟨fun q => absurd q (by decide), fun _ => ⟨fun q => absurd q (by decide), fun _ => ⟨fun _ => q_reader h (fun i hi hi8 hp => ⟨fun q => (nomatch q), fun j q => ?_⟩) (fun q => absurd ⟨o1, o2⟩ q), fun q => absurd rfl q⟩⟩⟩
    cases q
    have e0 : i = a.toNat := by omega
    subst e0
    exact q_letRead h hi8 hp o3 (fun q => k _ _ (Or.inl ⟨q, rfl, rfl⟩)) (fun q vs e => k _ _ (Or.inr ⟨q, rfl, vs, e, rfl⟩))
  | 3, _ =>
    obtain ⟨o1, o2⟩ := ok3 o
    unfold Z_S_perform
    refine ⟨fun q => absurd q (by decide), fun _ => ⟨fun q => absurd q (by decide), fun _ => ⟨fun q => absurd q (by decide), fun _ => ⟨fun _ => q_reader h (fun i hi hi8 hp => ⟨fun q => (nomatch q), fun j q => ?_⟩) (fun q => absurd ⟨o1, o2⟩ q), fun q => absurd rfl q⟩⟩⟩⟩
    cases q
    have e0 : i = a.toNat := by omega
    subst e0
    exact q_letGo h hi8 hp (k _ _ ⟨rfl, rfl⟩)
  | 4, _ =>
    have hv : b = 0 ∨ b = 1 := hv
    obtain ⟨⟨o1, o2⟩, o3⟩ := ok4 o
    unfold Z_S_perform
    refine ⟨fun q => absurd q (by decide), fun _ => ⟨fun q => absurd q (by decide), fun _ => ⟨fun q => absurd q (by decide), fun _ => ⟨fun q => absurd q (by decide), fun _ => ⟨fun _ => q_reader h (fun i hi hi8 hp => ⟨fun q => (nomatch q), fun j q => ?_⟩) (fun q => absurd ⟨o1, o2⟩ q), fun q => absurd rfl q⟩⟩⟩⟩⟩
    cases q
    have e0 : i = a.toNat := by omega
    subst e0
    have e : ∀ b' : Int, b' = b → Z_S_changeHold (some a.toNat) b' σ Q := by
      intro b' e
      subst e
      exact q_changeHold h hi8 hv (k _ _ ⟨rfl, rfl⟩)
    exact ⟨fun q => e 0 (by omega), fun q => e 1 (by omega)⟩
  | 5, _ =>
    have o := ok5 o
    unfold Z_S_perform
    exact ⟨fun q => absurd q (by decide), fun _ => ⟨fun q => absurd q (by decide), fun _ => ⟨fun q => absurd q (by decide), fun _ => ⟨fun q => absurd q (by decide), fun _ => ⟨fun q => absurd q (by decide), fun _ => ⟨fun _ => q_change o.1.1 o.1.2 (k _ _ ⟨rfl, rfl⟩), fun q => absurd rfl q⟩⟩⟩⟩⟩⟩
  | 6, _ =>
    have o := ok6 o
    unfold Z_S_perform
    refine ⟨fun q => absurd q (by decide), fun _ => ⟨fun q => absurd q (by decide), fun _ => ⟨fun q => absurd q (by decide), fun _ => ⟨fun q => absurd q (by decide), fun _ => ⟨fun q => absurd q (by decide), fun _ => ⟨fun q => absurd q (by decide), fun _ => ?_⟩⟩⟩⟩⟩⟩
    have e : ∀ a' : Int, a' = ((a.toNat : Nat) : Int) → Z_S_passTime a' σ Q := by
      intro a' e
      subst e
      exact q_passTime h (by omega) (by omega) (k _ _ ⟨rfl, rfl⟩)
    exact e a (by omega)
theorem q_attempt {c : Nat} {a b d : Int} {Q : Int → SZ → Prop} (hc : c < 7) (h : SOK σ T) (hT : T + 99 ≤ 5000000) (hv : valA c b d) (k1 : fltA σ c a b d = 0 → ∀ v σ', resA σ c a b d v σ' → Q 1 σ') (k0 : ¬ fltA σ c a b d = 0 → Q 0 σ) : Z_S_attempt c a b d σ Q :=
  q_fault hc h hv ⟨fun o => q_go hc h hT hv o (fun v σ' r => k1 o v σ' r), fun o => k0 o⟩
theorem q_getsFurther {a b : Int} {Q : Int → SZ → Prop} (h : SOK σ T) (hT : T + 99 ≤ 5000000) (k1 : fltA σ 2 a b 0 = 0 → ∀ v σ', resA σ 2 a b 0 v σ' → Q (if v = 0 then 0 else 1) σ') (k0 : ¬ fltA σ 2 a b 0 = 0 → Q 0 σ) : Z_S_getsFurther a b σ Q := by
  refine q_fault (c := 2) (by decide) h trivial ⟨fun o => k0 o, fun o => q_go (c := 2) (by decide) h hT trivial o (fun v σ' r => ⟨fun q => ?_, fun q => ?_⟩)⟩
  · have g := k1 o v σ' r
    rw [if_pos q] at g
    exact g
  · have g := k1 o v σ' r
    rw [if_neg q] at g
    exact g
/-! the model, for the same result -/
theorem g_write {a b d v : Int} {σ' : SZ} {Q : Int → (Nat → Int) → Prop} (h : SOK σ T) (r : Rel σ W) (o : fltA σ 0 a b d = 0) (e : resA σ 0 a b d v σ') (k : ∀ W', Rel σ' W' → Q v W') : Z_M_goWrite a b d W Q := by
  obtain ⟨e1, e2⟩ := e
  subst e1; subst e2
  obtain ⟨⟨o1, o2, o3⟩, o4⟩ := ok0 o
  exact m_goWrite h r o4 (by omega) (by omega) o3 k
theorem g_join {a b d v : Int} {σ' : SZ} {Q : Int → (Nat → Int) → Prop} (h : SOK σ T) (r : Rel σ W) (hd : d = 0 ∨ d = 1) (o : fltA σ 1 a b d = 0) (e : resA σ 1 a b d v σ') (k : ∀ W', Rel σ' W' → Q v W') : Z_M_goJoin a b d W Q := by
  obtain ⟨vs, j, e2⟩ := e
  subst e2
  obtain ⟨⟨o1, o2⟩, p, o3⟩ := ok1 o
  refine m_goJoin h r o1.1 o1.2 hd p (fun q q2 => ?_) (fun q q2 q3 => ?_) (fun vs2 pl2 W' j2 r2 => ?_)
  · rcases o3 with z | z
    · omega
    · exact z.1
  · rcases o3 with z | z
    · omega
    · rcases z.2 with y | y <;> omega
  · obtain ⟨s1, s2⟩ := j.same (d := d) j2
    rw [← s1]
    exact k _ ((r2.eq (h.jv o hd j2) s2))
theorem g_read {a b v : Int} {σ' : SZ} {Q : Int → (Nat → Int) → Prop} (h : SOK σ T) (hT : T + 1 ≤ 5000000) (r : Rel σ W) (o : fltA σ 2 a b 0 = 0) (e : resA σ 2 a b 0 v σ') (k : ∀ W', Rel σ' W' → Q v W') : Z_M_goRead a b W Q := by
  obtain ⟨⟨o1, o2⟩, o3⟩ := ok2 o
  refine m_goRead h hT r o1.1 o1.2 o2 o3 (fun q W' r2 => ?_) (fun q vs W' hv r2 => ?_)
  · rcases e with ⟨r1, e1, e2⟩ | ⟨r1, e1, vs, r3, e2⟩
    · rw [← e1]
      refine k _ ?_
      rw [e2]
      exact r2
    · omega
  · rcases e with ⟨r1, e1, e2⟩ | ⟨r1, e1, vs2, r3, e2⟩
    · omega
    · rw [← e1]
      refine k _ ?_
      rw [e2]
      exact r2.eq (h.gp hT (by omega) o2 r1) (gp_same r3 hv)
theorem g_leave {a b d v : Int} {σ' : SZ} {Q : Int → (Nat → Int) → Prop} (h : SOK σ T) (r : Rel σ W) (o : fltA σ 3 a b d = 0) (e : resA σ 3 a b d v σ') (k : ∀ W', Rel σ' W' → Q v W') : Z_M_goLeave a W Q := by
  obtain ⟨e1, e2⟩ := e
  subst e1; subst e2
  obtain ⟨o1, o2⟩ := ok3 o
  exact m_goLeave h r o1.1 o1.2 o2 k
theorem g_hold {a b d v : Int} {σ' : SZ} {Q : Int → (Nat → Int) → Prop} (h : SOK σ T) (r : Rel σ W) (hb : b = 0 ∨ b = 1) (o : fltA σ 4 a b d = 0) (e : resA σ 4 a b d v σ') (k : ∀ W', Rel σ' W' → Q v W') : Z_M_goHold a b W Q := by
  obtain ⟨e1, e2⟩ := e
  subst e1; subst e2
  obtain ⟨⟨o1, o2⟩, o3⟩ := ok4 o
  exact m_goHold h r o1.1 o1.2 o2 hb k
theorem g_put {a b d v : Int} {σ' : SZ} {Q : Int → (Nat → Int) → Prop} (h : SOK σ T) (r : Rel σ W) (o : fltA σ 5 a b d = 0) (e : resA σ 5 a b d v σ') (k : ∀ W', Rel σ' W' → Q v W') : Z_M_put a b W Q := by
  obtain ⟨e1, e2⟩ := e
  subst e1; subst e2
  have o := ok5 o
  exact m_put h r o.1.1 (by omega) k
theorem g_ticks {a b d v : Int} {σ' : SZ} {Q : Int → (Nat → Int) → Prop} (h : SOK σ T) (hT : T + 99 ≤ 5000000) (r : Rel σ W) (o : fltA σ 6 a b d = 0) (e : resA σ 6 a b d v σ') (k : ∀ W', Rel σ' W' → Q v W') : Z_M_goTicks a W Q := by
  obtain ⟨e1, e2⟩ := e
  subst e1; subst e2
  have o := ok6 o
  have e : ∀ a' : Int, a' = ((a.toNat : Nat) : Int) → Z_M_goTicks a' W Q := by
    intro a' e
    subst e
    exact m_goTicks h r (by omega) (by omega) k
  exact e a (by omega)
end PY
