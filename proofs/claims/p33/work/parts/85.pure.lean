/-! ### what ticks would do -/
section QC
variable {v : TZ} {T : Int}
theorem q_tick1 {σ : SZ} {Q : Int → SZ → Prop} (h : SOK σ T) (hT : T + 1 ≤ 5000000) (k : Q (Lz_dropped (Sz_log (tickS σ)) - Lz_dropped (Sz_log σ)) (tickS σ)) : Z_S_passTime 1 σ Q := by
  have g := q_passTime (n := 1) (Q := Q) h (by decide) (by omega) k
  exact g
theorem q_copyToTry {Q : TZ → Prop} (h : SOK (Tz_state v) T) (k : ∀ z, SEq z (Tz_state v) → Q (Tz_set_trial v z)) : Z_T_copyToTry v Q := by
  refine q_S_takeOver h (fun z hz => ?_)
  rintro _ rfl
  exact k z hz
def outD : Nat → Int → SZ → Int
  | 0, _, _ => -1
  | n + 1, i, σ => if Lz_dropped (Sz_log (tickS σ)) - Lz_dropped (Sz_log σ) ≤ 0 then outD n (i + 1) (tickS σ) else i
theorem q_dropIn {Q : Int → TZ → Prop} : ∀ (n : Nat) (i : Int) (σ : SZ) (T : Int), i + n = 301 → 0 ≤ i → SOK σ T → T + n ≤ 5000000 → (∀ z, Q (outD n i σ) (Tz_set_trial v z)) → ZL_T_droppedIn_7 (n + 1) i (Tz_set_trial v σ) Q := by
  intro n
  induction n with
  | zero =>
    intro i σ T hi h0 h hT k
    rw [ZL_T_droppedIn_7]
    exact ⟨fun _ => k σ, fun c => absurd c (by omega)⟩
  | succ n ih =>
    intro i σ T hi h0 h hT k
    rw [ZL_T_droppedIn_7]
    refine ⟨fun c => absurd c (by omega), fun _ => q_tick1 (σ := σ) h (by omega) ?_⟩
    rintro _ rfl
    refine ⟨fun c => ⟨by omega, ih (i + 1) (tickS σ) (T + 1) (by omega) (by omega) (h.tick (by omega)) (by omega) (fun z => ?_)⟩, fun c => ?_⟩
    · have g := k z
      rw [outD, if_pos c] at g
      exact g
    · have g := k (tickS σ)
      rw [outD, if_neg c] at g
      exact g
theorem q_ticksN {a : Int} {σ : SZ} {Q : Int → SZ → Prop} (h : SOK σ T) (h0 : 0 ≤ a ∧ a ≤ 999) (hT : T + a ≤ 5000000) (k : Q (Lz_dropped (Sz_log (ticksS a.toNat σ)) - Lz_dropped (Sz_log σ)) (ticksS a.toNat σ)) : Z_S_passTime a σ Q := by
  have e : ∀ a' : Int, a' = ((a.toNat : Nat) : Int) → Z_S_passTime a' σ Q := by
    intro a' e
    subst e
    exact q_passTime h (by omega) (by omega) k
  exact e a (by omega)
abbrev diffN (z : SZ) (a b : Int) : Int := Lz_dropped (Sz_log (ticksS b.toNat (stS z 3 a))) - Lz_dropped (Sz_log z)
theorem q_dropsNone {a b : Int} {Q : Int → TZ → Prop} (h : SOK (Tz_state v) T) (hT : T + 300 ≤ 5000000) (ha : 0 ≤ a ∧ a ≤ 4000) (hb : 1 ≤ b ∧ b ≤ 200) (k : ∀ z t, SEq z (Tz_state v) → Q (if diffN z a b = 0 then 1 else 0) (Tz_set_trial v t)) : Z_T_dropsNone a b v Q := by
  refine q_copyToTry h (fun z hz => ?_)
  have hz1 := h.eq hz
  have o : setP 3 a := ⟨by decide, ha⟩
  have of : fltA z 5 3 a 0 = 0 := if_pos o
  refine q_attempt (c := 5) (by decide) hz1 (by omega) trivial (fun _ r σ' hr => ?_) (fun c => absurd of c)
  obtain ⟨e1, e2⟩ := hr
  subst e2
  rintro _ rfl
  refine q_ticksN (σ := stS z 3 a) (hz1.st (by decide) (by decide) o.2) (by omega) (by omega) ?_
  rintro _ rfl
  have g := fun t => k z t hz
  refine ⟨fun c => ?_, fun c => ?_⟩
  · have g := g (ticksS b.toNat (stS z 3 a))
    rw [if_neg c] at g
    exact g
  · have g := g (ticksS b.toNat (stS z 3 a))
    rw [if_pos c] at g
    exact g
end QC
/-! ### the slowest holder -/
section QH
variable {v : TZ} {σ : SZ} {T : Int}
abbrev slowS (σ : SZ) (i best : Int) : Int := if Rz_held (Sz_readers σ i.toNat) = 1 ∧ (best = -1 ∨ Rz_place (Sz_readers σ i.toNat) < Rz_place (Sz_readers σ best.toNat)) then i else best
def slowF (σ : SZ) : Nat → Int → Int → Int
  | 0, _, best => best
  | n + 1, i, best => slowF σ n (i + 1) (slowS σ i best)
theorem q_slowest {Q : Int → Prop} (h : SOK σ T) (k : Q (slowF σ 8 0 (-1))) : Z_S_slowestHolder σ Q := by
  have h1 := h.1.1
  have key : ∀ (n : Nat) (i best pl : Int), i + n = 8 → 0 ≤ i → (best = -1 → pl = Lz_end (Sz_log σ) + 1) → (best ≠ -1 → pl = Rz_place (Sz_readers σ best.toNat)) → Q (slowF σ n i best) → ZL_S_slowestHolder_14 (n + 1) σ best pl i Q := by
    intro n
    induction n with
    | zero =>
      intro i best pl hi h0 p1 p2 k
      rw [ZL_S_slowestHolder_14]
      exact ⟨fun _ => k, fun c => absurd c (by omega)⟩
    | succ n ih =>
      intro i best pl hi h0 p1 p2 k
      have g := h.2.2.2 i.toNat (by omega)
      rw [slowF] at k
      rw [ZL_S_slowestHolder_14]
      have skip : ¬ (Rz_held (Sz_readers σ i.toNat) = 1 ∧ (best = -1 ∨ Rz_place (Sz_readers σ i.toNat) < Rz_place (Sz_readers σ best.toNat))) → zin (i + 1) ∧ ZL_S_slowestHolder_14 (n + 1) σ best pl (i + 1) Q := by
        intro q
        have k := k
        rw [show slowS σ i best = best from if_neg q] at k
        exact ⟨by omega, ih (i + 1) best pl (by omega) (by omega) p1 p2 k⟩
      refine ⟨fun c => absurd c (by omega), fun _ => q_reader h (fun j hj hj8 hp => ⟨fun c => (nomatch c), fun m c => ?_⟩) (fun c => ⟨fun _ => skip (fun q => c ⟨⟨h0, by omega⟩, (g.2.2.2.1 q.1).1⟩), fun m c => (nomatch c)⟩)⟩
      cases c
      have e0 : j = i.toNat := by omega
      subst e0
      have g5 := g.2.2.2.2.1 (Or.inl hp)
      refine ⟨fun c => skip (fun q => by omega), fun c => ⟨fun c2 => skip (fun q => ?_), fun c2 => ?_⟩⟩
      · by_cases z : best = -1
        · have := p1 z
          omega
        · have := p2 z
          omega
      · have q : Rz_held (Sz_readers σ i.toNat) = 1 ∧ (best = -1 ∨ Rz_place (Sz_readers σ i.toNat) < Rz_place (Sz_readers σ best.toNat)) := by
          refine ⟨by rcases g.2.2.1 with z | z <;> omega, ?_⟩
          by_cases z : best = -1
          · exact Or.inl z
          · have := p2 z
            exact Or.inr (by omega)
        rw [show slowS σ i best = i from if_pos q] at k
        exact ⟨by omega, ih (i + 1) i _ (by omega) (by omega) (fun z => by omega) (fun _ => rfl) k⟩
  exact ⟨_, by omega, key 8 0 (-1) _ rfl (by decide) (fun _ => rfl) (fun z => absurd rfl z) k⟩
end QH
/-! ### readers stay through ticks -/
section QI
variable {σ : SZ}
theorem chk_present {σ : SZ} {e n : Nat} : Rz_present (Sz_readers (chk σ e) n) = Rz_present (Sz_readers σ n) := by
  unfold chk
  split
  · split
    · by_cases q : n = e
      · subst q
        exact (congrArg (fun r => Rz_present r) (loseL_e (σ := σ) (e := n))).trans rfl
      · rw [loseL_j q]
    · split
      · by_cases q : n = e
        · subst q
          exact (congrArg (fun r => Rz_present r) (loseT_e (σ := σ) (e := n))).trans rfl
        · rw [loseT_j q]
      · rfl
  · rfl
theorem chkAll_present {σ : SZ} {n : Nat} : ∀ k : Nat, Rz_present (Sz_readers (chkAll σ k) n) = Rz_present (Sz_readers σ n)
  | 0 => rfl
  | k + 1 => chk_present.trans (chkAll_present k)
theorem tick_present {n : Nat} : Rz_present (Sz_readers (tickS σ) n) = Rz_present (Sz_readers σ n) := by
  have e1 := (dropAll_keep 200 (σ := chkAll (Sz_set_time σ (Sz_time σ + 1)) 8)).1
  have e2 := chkAll_present (σ := Sz_set_time σ (Sz_time σ + 1)) (n := n) 8
  exact (congrArg (fun f => Rz_present (f n)) e1).trans e2
end QI
/-! ### when a hold is lost -/
section QJ
variable {v : TZ} {T : Int}
def outL (a : Int) : Nat → Int → SZ → Int
  | 0, _, _ => -1
  | n + 1, i, σ => if Rz_held (Sz_readers (tickS σ) a.toNat) = 1 then outL a n (i + 1) (tickS σ) else i
theorem q_lostLoop {a : Int} {X : String → TZ → Prop} {Q : Int → TZ → Prop} (ha : 0 ≤ a ∧ a < 8) : ∀ (n : Nat) (i : Int) (σ : SZ) (T : Int), i + n = 301 → 0 ≤ i → SOK σ T → T + n ≤ 5000000 → Rz_present (Sz_readers σ a.toNat) = 1 → (∀ z, Q (outL a n i σ) (Tz_set_trial v z)) → ZL_T_lostIn_38 (n + 1) a a i (Tz_set_trial v σ) X Q := by
  intro n
  induction n with
  | zero =>
    intro i σ T hi h0 h hT hp k
    rw [ZL_T_lostIn_38]
    exact ⟨fun _ => k σ, fun c => absurd c (by omega)⟩
  | succ n ih =>
    intro i σ T hi h0 h hT hp k
    rw [ZL_T_lostIn_38]
    refine ⟨fun c => absurd c (by omega), fun _ => q_tick1 (σ := σ) h (by omega) ?_⟩
    rintro _ rfl
    have h' := h.tick (by omega)
    have hp' : Rz_present (Sz_readers (tickS σ) a.toNat) = 1 := tick_present.trans hp
    refine q_hasHold (σ := tickS σ) h' (fun c => ⟨fun _ => ⟨by omega, ih (i + 1) (tickS σ) (T + 1) (by omega) (by omega) h' (by omega) hp' (fun z => ?_)⟩, fun z => absurd z (by decide)⟩) (fun c => ⟨fun z => absurd rfl z, fun _ => ?_⟩)
    · have g := k z
      rw [outL, if_pos c.2] at g
      exact g
    · have g := k (tickS σ)
      rw [outL, if_neg (fun q => c ⟨⟨ha, hp'⟩, q⟩)] at g
      exact g
end QJ
/-! ### ifFree -/
def WEq (x y : SZ) : Prop := Sz_log x = Sz_log y ∧ Sz_settings x = Sz_settings y ∧ Sz_time x = Sz_time y ∧ ∀ n : Nat, n < 8 → Rz_held (Sz_readers x n) = Rz_held (Sz_readers y n) ∧ Rz_place (Sz_readers x n) = Rz_place (Sz_readers y n) ∧ Rz_lastRead (Sz_readers x n) = Rz_lastRead (Sz_readers y n)
section QM
variable {x y : SZ} {v : TZ} {T : Int}
theorem WEq.why (h : WEq x y) : whyS x = whyS y := by
  obtain ⟨lx, rx, sx, tx, x1, x2, x3⟩ := x
  obtain ⟨ly, ry, sy, ty, y1, y2, y3⟩ := y
  obtain ⟨h1, h2, h3, h4⟩ := h
  have e1 : lx = ly := h1
  have e2 : sx = sy := h2
  have e3 : tx = ty := h3
  subst e1; subst e2; subst e3
  have hh : ∀ row : Int, holders (lx, rx, sx, tx, x1, x2, x3) row = holders (lx, ry, sx, tx, y1, y2, y3) row := fun row => sumN_congr 8 (fun n hn => by
    obtain ⟨a1, a2, -⟩ := h4 n hn
    have b1 : Rz_held (rx n) = Rz_held (ry n) := a1
    have b2 : Rz_place (rx n) = Rz_place (ry n) := a2
    show (if Rz_held (rx n) = 1 ∧ Rz_place (rx n) ≤ row then (1 : Int) else 0) = (if Rz_held (ry n) = 1 ∧ Rz_place (ry n) ≤ row then (1 : Int) else 0)
    rw [b1, b2])
  unfold whyS
  rw [hh]
theorem WEq.loseL {e : Nat} (h : WEq x y) : WEq (loseL x e) (loseL y e) := by
  refine ⟨h.1, h.2.1, h.2.2.1, fun n hn => ?_⟩
  have g := h.2.2.2 n hn
  by_cases q : n = e
  · subst q
    rw [loseL_e (σ := x), loseL_e (σ := y)]
    exact ⟨rfl, g.2.1, g.2.2⟩
  · rw [loseL_j (σ := x) q, loseL_j (σ := y) q]
    exact g
theorem WEq.loseT {e : Nat} (h : WEq x y) : WEq (loseT x e) (loseT y e) := by
  refine ⟨h.1, h.2.1, h.2.2.1, fun n hn => ?_⟩
  have g := h.2.2.2 n hn
  by_cases q : n = e
  · subst q
    rw [loseT_e (σ := x), loseT_e (σ := y)]
    exact ⟨rfl, g.2.1, g.2.2⟩
  · rw [loseT_j (σ := x) q, loseT_j (σ := y) q]
    exact g
theorem WEq.ck {e : Nat} (he : e < 8) (h : WEq x y) : WEq (chk x e) (chk y e) := by
  have g := h.2.2.2 e he
  have d1 : (0 < Sz_settings x 4 ∧ Sz_settings x 4 < lenFrom (Sz_log x) (Rz_place (Sz_readers x e))) = (0 < Sz_settings y 4 ∧ Sz_settings y 4 < lenFrom (Sz_log y) (Rz_place (Sz_readers y e))) := by rw [h.1, h.2.1, g.2.1]
  have d2 : (0 < Sz_settings x 5 ∧ Sz_settings x 5 ≤ Sz_time x - Rz_lastRead (Sz_readers x e)) = (0 < Sz_settings y 5 ∧ Sz_settings y 5 ≤ Sz_time y - Rz_lastRead (Sz_readers y e)) := by rw [h.2.1, h.2.2.1, g.2.2]
  unfold chk
  by_cases q1 : Rz_held (Sz_readers y e) = 1
  · rw [if_pos q1, if_pos (g.1.trans q1)]
    by_cases q2 : 0 < Sz_settings y 4 ∧ Sz_settings y 4 < lenFrom (Sz_log y) (Rz_place (Sz_readers y e))
    · rw [if_pos q2, if_pos (d1 ▸ q2)]
      exact h.loseL
    · rw [if_neg q2, if_neg (fun z => q2 (d1 ▸ z))]
      by_cases q3 : 0 < Sz_settings y 5 ∧ Sz_settings y 5 ≤ Sz_time y - Rz_lastRead (Sz_readers y e)
      · rw [if_pos q3, if_pos (d2 ▸ q3)]
        exact h.loseT
      · rw [if_neg q3, if_neg (fun z => q3 (d2 ▸ z))]
        exact h
  · rw [if_neg q1, if_neg (fun z => q1 (g.1.symm.trans z))]
    exact h
theorem WEq.ckAll (h : WEq x y) : ∀ n : Nat, n ≤ 8 → WEq (chkAll x n) (chkAll y n)
  | 0, _ => h
  | n + 1, hn => WEq.ck (by omega) (WEq.ckAll h n (by omega))
theorem WEq.drAll : ∀ (n : Nat) {x y : SZ}, WEq x y → WEq (dropAll n x) (dropAll n y) := by
  intro n
  induction n with
  | zero => intro x y h; exact h
  | succ n ih =>
    intro x y h
    show WEq (if whyS x = 0 then dropAll n (dropS x) else x) (if whyS y = 0 then dropAll n (dropS y) else y)
    rw [h.why]
    by_cases q : whyS y = 0
    · rw [if_pos q, if_pos q]
      exact ih ⟨congrArg dropX h.1, h.2.1, h.2.2.1, h.2.2.2⟩
    · rw [if_neg q, if_neg q]
      exact h
theorem WEq.tick (h : WEq x y) : WEq (tickS x) (tickS y) := by
  have e : WEq (Sz_set_time x (Sz_time x + 1)) (Sz_set_time y (Sz_time y + 1)) := ⟨h.1, h.2.1, congrArg (fun t => t + 1) h.2.2.1, h.2.2.2⟩
  exact WEq.drAll 200 (WEq.ckAll e 8 (by decide))
/-- a reader whose hold is taken, and nothing else -/
abbrev frS (z : SZ) (a : Nat) : SZ := Sz_seti_readers z a (Rz_set_held (Sz_readers z a) 0)
theorem WEq.fr {z : SZ} {a : Nat} : WEq (hdS z a 0) (frS z a) := by
  refine ⟨rfl, rfl, rfl, fun n hn => ?_⟩
  by_cases q : n = a
  · subst q
    rw [rd_eq, rd_eq]
    exact ⟨rfl, rfl, rfl⟩
  · rw [rd_ne q, rd_ne q]
    exact ⟨rfl, rfl, rfl⟩
theorem SOK.fr {z : SZ} {a : Nat} (h : SOK z T) (ha : a < 8) : SOK (frS z a) T := by
  have g := h.2.2.2 a ha
  exact h.seti ⟨g.1, g.2.1, Or.inl rfl, fun c => absurd (show (0 : Int) = 1 from c) (by decide), g.2.2.2.2.1, g.2.2.2.2.2⟩
end QM
/-! ### an action tried, on both sides -/
/-- an action tried: done, or left -/
def attR (σ : SZ) (c : Nat) (a b d r : Int) (σ' : SZ) : Prop := (fltA σ c a b d = 0 ∧ r = 1 ∧ ∃ x, resA σ c a b d x σ') ∨ (¬ fltA σ c a b d = 0 ∧ r = 0 ∧ σ' = σ)
/-- a reading that gets further -/
def gfR (σ : SZ) (a b r : Int) (σ' : SZ) : Prop := (fltA σ 2 a b 0 = 0 ∧ ∃ x, resA σ 2 a b 0 x σ' ∧ r = if x = 0 then 0 else 1) ∨ (¬ fltA σ 2 a b 0 = 0 ∧ r = 0 ∧ σ' = σ)
section QN
variable {σ σ' : SZ} {T : Int}
theorem attR.yes {c : Nat} {a b d r : Int} (h : attR σ c a b d r σ') (o : fltA σ c a b d = 0) : r = 1 ∧ ∃ x, resA σ c a b d x σ' := by
  rcases h with ⟨-, h⟩ | ⟨n, -⟩
  · exact h
  · exact absurd o n
theorem attR.no {c : Nat} {a b d r : Int} (h : attR σ c a b d r σ') (o : ¬ fltA σ c a b d = 0) : r = 0 ∧ σ' = σ := by
  rcases h with ⟨n, -⟩ | ⟨-, h⟩
  · exact absurd n o
  · exact h
theorem attR.ok {c : Nat} {a b d r : Int} (h : SOK σ T) (hT : T + 99 ≤ 5000000) (e : attR σ c a b d r σ') (hv : valA c b d) : SOK σ' (T + 99) ∧ Sz_missed σ ≤ Sz_missed σ' ∧ (r = 0 ∨ r = 1) := by
  rcases e with ⟨o, e1, x, e2⟩ | ⟨o, e1, e2⟩
  · have g := h.res hT hv o e2
    exact ⟨g.1, g.2.1, Or.inr e1⟩
  · rw [e2]
    exact ⟨h.mono (by omega) hT, Int.le_refl _, Or.inl e1⟩
theorem gfR.ok {a b r : Int} (h : SOK σ T) (hT : T + 99 ≤ 5000000) (e : gfR σ a b r σ') : SOK σ' (T + 99) ∧ Sz_missed σ ≤ Sz_missed σ' ∧ (r = 0 ∨ r = 1) := by
  rcases e with ⟨o, x, e2, e1⟩ | ⟨o, e1, e2⟩
  · have g := h.res (c := 2) hT trivial o e2
    refine ⟨g.1, g.2.1, ?_⟩
    rw [e1]
    split
    · exact Or.inl rfl
    · exact Or.inr rfl
  · rw [e2]
    exact ⟨h.mono (by omega) hT, Int.le_refl _, Or.inl e1⟩
theorem q_attR {c : Nat} {a b d : Int} {Q : Int → SZ → Prop} (hc : c < 7) (h : SOK σ T) (hT : T + 99 ≤ 5000000) (hv : valA c b d) (k : ∀ r σ', attR σ c a b d r σ' → Q r σ') : Z_S_attempt c a b d σ Q :=
  q_attempt hc h hT hv (fun o x σ' e => k 1 σ' (Or.inl ⟨o, rfl, x, e⟩)) (fun o => k 0 σ (Or.inr ⟨o, rfl, rfl⟩))
theorem q_gfR {a b : Int} {Q : Int → SZ → Prop} (h : SOK σ T) (hT : T + 99 ≤ 5000000) (k : ∀ r σ', gfR σ a b r σ' → Q r σ') : Z_S_getsFurther a b σ Q :=
  q_getsFurther h hT (fun o x σ' e => k _ σ' (Or.inl ⟨o, x, e, rfl⟩)) (fun o => k 0 σ (Or.inr ⟨o, rfl, rfl⟩))
theorem attR.gf {a b d r : Int} (e : attR σ 2 a b d r σ') : ∃ r', gfR σ a b r' σ' := by
  rcases e with ⟨o, -, x, e3⟩ | ⟨o, -, e2⟩
  · exact ⟨_, Or.inl ⟨o, x, e3, rfl⟩⟩
  · exact ⟨0, Or.inr ⟨o, rfl, e2⟩⟩
end QN
/-! ### a command of a script -/
abbrev noR (σ : SZ) (r : Int) (σ' : SZ) : Prop := r = 0 ∧ σ' = σ
def cmdD (σ : SZ) (g r : Int) (σ' : SZ) : Nat → Prop
  | 1 => attR σ 0 (g / 10000 % 10) (g / 100 % 100) (g % 100) r σ'
  | 2 => (g / 100 % 100 = 0 ∧ gfR σ (g / 10000 % 10) (g % 100) r σ') ∨ (¬ g / 100 % 100 = 0 ∧ noR σ r σ')
  | 3 => ((g / 10 % 100 = 0 ∧ g % 10 ≤ 1) ∧ attR σ 1 (g / 10000 % 10) (g / 1000 % 10) (g % 10) r σ') ∨ (¬ (g / 10 % 100 = 0 ∧ g % 10 ≤ 1) ∧ noR σ r σ')
  | 4 => (g % 10000 = 0 ∧ attR σ 3 (g / 10000 % 10) 0 0 r σ') ∨ (¬ g % 10000 = 0 ∧ noR σ r σ')
  | 5 => (g / 100 % 1000 = 0 ∧ attR σ 6 (g % 100) 0 0 r σ') ∨ (¬ g / 100 % 1000 = 0 ∧ noR σ r σ')
  | 6 => σ' = σ ∧ r = if g / 1000 % 10 = 0 ∧ isR σ (g / 10000 % 10) ∧ g % 1000 ≤ Rz_place (Sz_readers σ (g / 10000 % 10).toNat) then 1 else 0
  | 7 => σ' = σ ∧ r = if g / 100 % 100 = 0 ∧ g / 10000 % 10 < 8 ∧ toldX (Sz_log σ) (g / 10000 % 10) (Lz_end (Sz_log σ)) = g % 100 then 1 else 0
  | 8 => σ' = σ ∧ r = if g / 1000 % 100 = 0 ∧ g % 1000 ≤ Lz_first (Sz_log σ) then 1 else 0
  | 9 => σ' = σ ∧ r = if g / 10 % 1000 = 0 ∧ g % 10 ≤ 1 ∧ isR σ (g / 10000 % 10) ∧ Rz_held (Sz_readers σ (g / 10000 % 10).toNat) = g % 10 then 1 else 0
  | _ => noR σ r σ'
def cmdR (σ : SZ) (g r : Int) (σ' : SZ) : Prop := cmdD σ g r σ' (g / 100000).toNat
section QO
variable {σ σ' : SZ} {T g r : Int}
theorem cmdR.get (e : cmdR σ g r σ') (i : Nat) (c : g / 100000 = i) : cmdD σ g r σ' i := by
  unfold cmdR at e
  rw [show (g / 100000).toNat = i by omega] at e
  exact e
theorem cmdR.put (i : Nat) (c : g / 100000 = i) (e : cmdD σ g r σ' i) : cmdR σ g r σ' := by
  unfold cmdR
  rw [show (g / 100000).toNat = i by omega]
  exact e
theorem cmdR.ok (h : SOK σ T) (hT : T + 99 ≤ 5000000) (hg : 0 ≤ g) (hg2 : g < 1000000) (e : cmdR σ g r σ') : SOK σ' (T + 99) ∧ (r = 0 ∨ r = 1) := by
  have no : r = 0 ∧ σ' = σ → SOK σ' (T + 99) ∧ (r = 0 ∨ r = 1) := fun ⟨e1, e2⟩ => by
    rw [e2]
    exact ⟨h.mono (by omega) hT, Or.inl e1⟩
  have is : ∀ P : Prop, [Decidable P] → σ' = σ ∧ r = (if P then 1 else 0) → SOK σ' (T + 99) ∧ (r = 0 ∨ r = 1) := fun P _ ⟨e1, e2⟩ => by
    rw [e1]
    refine ⟨h.mono (by omega) hT, ?_⟩
    rw [e2]
    split
    · exact Or.inr rfl
    · exact Or.inl rfl
  rcases (show g / 100000 = 0 ∨ g / 100000 = 1 ∨ g / 100000 = 2 ∨ g / 100000 = 3 ∨ g / 100000 = 4 ∨ g / 100000 = 5 ∨ g / 100000 = 6 ∨ g / 100000 = 7 ∨ g / 100000 = 8 ∨ g / 100000 = 9 by omega) with c | c | c | c | c | c | c | c | c | c
  · exact no (e.get 0 c)
  · have z := (e.get 1 c).ok h hT trivial
    exact ⟨z.1, z.2.2⟩
  · rcases e.get 2 c with ⟨-, e⟩ | ⟨-, e⟩
    · have z := e.ok h hT
      exact ⟨z.1, z.2.2⟩
    · exact no e
  · rcases e.get 3 c with ⟨d, e⟩ | ⟨-, e⟩
    · have z := e.ok h hT (show g % 10 = 0 ∨ g % 10 = 1 by omega)
      exact ⟨z.1, z.2.2⟩
    · exact no e
  · rcases e.get 4 c with ⟨-, e⟩ | ⟨-, e⟩
    · have z := e.ok h hT trivial
      exact ⟨z.1, z.2.2⟩
    · exact no e
  · rcases e.get 5 c with ⟨-, e⟩ | ⟨-, e⟩
    · have z := e.ok h hT trivial
      exact ⟨z.1, z.2.2⟩
    · exact no e
  · exact is _ (e.get 6 c)
  · exact is _ (e.get 7 c)
  · exact is _ (e.get 8 c)
  · exact is _ (e.get 9 c)
theorem q01 {Q : Int → SZ → Prop} (hr : r = 0 ∨ r = 1) (k : Q r σ') : (r = 0 → Q 0 σ') ∧ (¬ r = 0 → Q 1 σ') := by
  rcases hr with z | z
  · subst z
    exact ⟨fun _ => k, fun z => absurd rfl z⟩
  · subst z
    exact ⟨fun z => absurd z (by decide), fun _ => k⟩
theorem q_succeeds {Q : Int → SZ → Prop} (hg : 0 ≤ g) (hg2 : g < 1000000) (h : SOK σ T) (hT : T + 99 ≤ 5000000) (k : ∀ r σ', cmdR σ g r σ' → Q r σ') : Z_T_succeeds g σ Q := by
  have p1 : 0 ≤ g / 10 := by omega
  have p2 : 0 ≤ g / 100 := by omega
  have p3 : 0 ≤ g / 1000 := by omega
  have p4 : 0 ≤ g / 10000 := by omega
  have hL := h.1.1
  have J : ∀ u : Int, (u = 0 → ¬ g / 100 % 100 = 0) → (¬ u = 0 → g / 100 % 100 = 0) → ZJ_T_succeeds_42 g g (g / 10000 % 10) (g % 10) (g % 100) (g % 1000) u σ Q := by
    intro u hu0 hu1
    unfold ZJ_T_succeeds_42
    simp only [Int.tdiv_eq_ediv_of_nonneg hg, Int.tmod_eq_emod_of_nonneg hg, Int.tmod_eq_emod_of_nonneg p1, Int.tmod_eq_emod_of_nonneg p2, Int.tmod_eq_emod_of_nonneg p3, Int.tmod_eq_emod_of_nonneg p4]
    refine ⟨fun c => ?_, fun c1 => ⟨fun c => ?_, fun c2 => ⟨fun c => ?_, fun c3 => ⟨fun c => ?_, fun c4 => ⟨fun c => ?_, fun c5 => ⟨fun c => ?_, fun c6 => ⟨fun c => ?_, fun c7 => ⟨fun c => ?_, fun c8 => ⟨fun c => ?_, fun c9 => ?_⟩⟩⟩⟩⟩⟩⟩⟩⟩
    · exact q_attR (c := 0) (by decide) h hT trivial (fun r σ' e => ⟨(e.ok h hT trivial).2.2, k r σ' (cmdR.put 1 c e)⟩)
    · exact ⟨fun d => k 0 σ (cmdR.put 2 c (Or.inr ⟨hu0 d, rfl, rfl⟩)), fun d => q_gfR h hT (fun r σ' e => q01 (e.ok h hT).2.2 (k r σ' (cmdR.put 2 c (Or.inl ⟨hu1 d, e⟩))))⟩
    · exact ⟨fun d => k 0 σ (cmdR.put 3 c (Or.inr ⟨by omega, rfl, rfl⟩)), fun d => ⟨fun d2 => k 0 σ (cmdR.put 3 c (Or.inr ⟨by omega, rfl, rfl⟩)), fun d2 => q_attR (c := 1) (by decide) h hT (show g % 10 = 0 ∨ g % 10 = 1 by omega) (fun r σ' e => q01 (e.ok h hT (show g % 10 = 0 ∨ g % 10 = 1 by omega)).2.2 (k r σ' (cmdR.put 3 c (Or.inl ⟨by omega, e⟩))))⟩⟩
    · exact ⟨fun d => k 0 σ (cmdR.put 4 c (Or.inr ⟨d, rfl, rfl⟩)), fun d => q_attR (c := 3) (by decide) h hT trivial (fun r σ' e => q01 (e.ok h hT trivial).2.2 (k r σ' (cmdR.put 4 c (Or.inl ⟨d, e⟩))))⟩
    · exact ⟨fun d => k 0 σ (cmdR.put 5 c (Or.inr ⟨d, rfl, rfl⟩)), fun d => q_attR (c := 6) (by decide) h hT trivial (fun r σ' e => q01 (e.ok h hT trivial).2.2 (k r σ' (cmdR.put 5 c (Or.inl ⟨d, e⟩))))⟩
    · exact ⟨fun d => k 0 σ (cmdR.put 6 c ⟨rfl, (if_neg (fun z => d z.1)).symm⟩), fun d => q_isAtLeastAt h (fun p => ⟨fun z => absurd z (by decide), fun _ => k 1 σ (cmdR.put 6 c ⟨rfl, (if_pos ⟨d, p⟩).symm⟩)⟩) (fun p => ⟨fun _ => k 0 σ (cmdR.put 6 c ⟨rfl, (if_neg (fun z => p z.2)).symm⟩), fun z => absurd rfl z⟩)⟩
    · exact ⟨fun d => k 0 σ (cmdR.put 7 c ⟨rfl, (if_neg (fun z => hu0 d z.1)).symm⟩), fun d => ⟨fun d2 => k 0 σ (cmdR.put 7 c ⟨rfl, (if_neg (fun z => absurd z.2.1 (by omega))).symm⟩), fun d2 => q_toldForwards h.1 (by omega) (by omega) hL.2.1 (Int.le_refl _) ⟨fun d3 => k 0 σ (cmdR.put 7 c ⟨rfl, (if_neg (fun z => d3 z.2.2)).symm⟩), fun d3 => k 1 σ (cmdR.put 7 c ⟨rfl, (if_pos ⟨hu1 d, by omega, d3⟩).symm⟩)⟩⟩⟩
    · exact ⟨fun d => k 0 σ (cmdR.put 8 c ⟨rfl, (if_neg (fun z => d z.1)).symm⟩), fun d => ⟨fun d2 => k 0 σ (cmdR.put 8 c ⟨rfl, (if_neg (fun z => absurd z.2 (by omega))).symm⟩), fun d2 => k 1 σ (cmdR.put 8 c ⟨rfl, (if_pos ⟨d, by omega⟩).symm⟩)⟩⟩
    · refine ⟨fun d => k 0 σ (cmdR.put 9 c ⟨rfl, (if_neg (fun z => d z.1)).symm⟩), fun d => ⟨fun d2 => k 0 σ (cmdR.put 9 c ⟨rfl, (if_neg (fun z => absurd z.2.1 (by omega))).symm⟩), fun d2 => q_reader h (fun i hi hi8 hp => ⟨fun z => (nomatch z), fun j z => ?_⟩) (fun p => ⟨fun _ => k 0 σ (cmdR.put 9 c ⟨rfl, (if_neg (fun z => p z.2.2.1)).symm⟩), fun j z => (nomatch z)⟩)⟩⟩
      have hr : isR σ (g / 10000 % 10) := ⟨by omega, by rw [show (g / 10000 % 10).toNat = i by omega]; exact hp⟩
      have g3 := (h.2.2.2 (g / 10000 % 10).toNat (by omega)).2.2.1
      have yes : Rz_held (Sz_readers σ (g / 10000 % 10).toNat) = g % 10 → Q 1 σ := fun z => k 1 σ (cmdR.put 9 c ⟨rfl, (if_pos ⟨d, by omega, hr, z⟩).symm⟩)
      have no : ¬ Rz_held (Sz_readers σ (g / 10000 % 10).toNat) = g % 10 → Q 0 σ := fun z => k 0 σ (cmdR.put 9 c ⟨rfl, (if_neg (fun y => z y.2.2.2)).symm⟩)
      exact q_hasHold h (fun p => ⟨fun d3 => ⟨fun _ => no (by omega), fun z => absurd z (by decide)⟩, fun d3 => ⟨fun z => absurd rfl z, fun _ => yes (by omega)⟩⟩) (fun p => ⟨fun d3 => ⟨fun z => absurd rfl z, fun _ => yes (by have : ¬ Rz_held (Sz_readers σ (g / 10000 % 10).toNat) = 1 := fun z => p ⟨hr, z⟩; omega)⟩, fun d3 => ⟨fun _ => no (by have : ¬ Rz_held (Sz_readers σ (g / 10000 % 10).toNat) = 1 := fun z => p ⟨hr, z⟩; omega), fun z => absurd z (by decide)⟩⟩)
    · exact k 0 σ (cmdR.put 0 (by omega) ⟨rfl, rfl⟩)
  unfold Z_T_succeeds
  simp only [Int.tdiv_eq_ediv_of_nonneg hg, Int.tmod_eq_emod_of_nonneg hg, Int.tmod_eq_emod_of_nonneg p2, Int.tmod_eq_emod_of_nonneg p4]
  exact ⟨fun d => J 0 (fun _ => d) (fun z => absurd rfl z), fun d => J 1 (fun z => absurd z (by decide)) (fun _ => d)⟩
end QO
/-! ### runScript -/
theorem wl_id {n : Int} (h : -9223372036854775808 ≤ n ∧ n < 9223372036854775808) : wl n = n := by
  show Int.bmod n 18446744073709551616 = n
  rw [Int.bmod_def]
  omega
theorem wi_id {n : Int} (h : -2147483648 ≤ n ∧ n < 2147483648) : wi n = n := by
  show Int.bmod n 4294967296 = n
  rw [Int.bmod_def]
  omega
theorem lg_cmpZ_le {x y : Int} : (lg_cmpZ x y ≤ 0 ↔ x ≤ y) ∧ (lg_cmpZ x y < 0 ↔ x < y) := by
  unfold lg_cmpZ
  split
  · omega
  · split <;> omega
def p6 : Nat → Int
  | 0 => 1
  | 1 => 1000000
  | 2 => 1000000000000
  | _ => 1000000000000000000
theorem p6_in : ∀ j : Nat, 1 ≤ p6 j ∧ p6 j ≤ 1000000000000000000
  | 0 => by decide
  | 1 => by decide
  | 2 => by decide
  | _ + 3 => by
    show (1 : Int) ≤ 1000000000000000000 ∧ (1000000000000000000 : Int) ≤ 1000000000000000000
    decide
theorem p6_cmp {s : Int} (hs : 0 ≤ s) : ∀ j : Nat, (s / p6 j ≤ 0 ↔ s < p6 j) ∧ 0 ≤ s / p6 j ∧ s / p6 j ≤ s
  | 0 => by
    show (s / 1 ≤ 0 ↔ s < 1) ∧ 0 ≤ s / 1 ∧ s / 1 ≤ s
    omega
  | 1 => by
    show (s / 1000000 ≤ 0 ↔ s < 1000000) ∧ 0 ≤ s / 1000000 ∧ s / 1000000 ≤ s
    omega
  | 2 => by
    show (s / 1000000000000 ≤ 0 ↔ s < 1000000000000) ∧ 0 ≤ s / 1000000000000 ∧ s / 1000000000000 ≤ s
    omega
  | _ + 3 => by
    show (s / 1000000000000000000 ≤ 0 ↔ s < 1000000000000000000) ∧ 0 ≤ s / 1000000000000000000 ∧ s / 1000000000000000000 ≤ s
    omega
def dvN : Nat → Int → Int
  | 0, s => s
  | m + 1, s => dvN m (s / 1000000)
theorem dvN_p6 {s : Int} (hs : 0 ≤ s) : ∀ m : Nat, m ≤ 3 → dvN m s = s / p6 m
  | 0, _ => by
    show s = s / 1
    omega
  | 1, _ => rfl
  | 2, _ => by
    show s / 1000000 / 1000000 = s / 1000000000000
    omega
  | 3, _ => by
    show s / 1000000 / 1000000 / 1000000 = s / 1000000000000000000
    omega
  | m + 4, h => absurd h (by omega)
theorem q_withoutGroups {s a : Int} {Q : Int → Prop} (hs : 0 ≤ s) (hs2 : s < 9223372036854775808) (ha : 0 ≤ a ∧ a ≤ 3) (k : Q (s / p6 a.toNat)) : Z_T_withoutGroups s a Q := by
  have key : ∀ (m : Nat) (i t : Int), i + m = a → 0 ≤ i → 0 ≤ t → t < 9223372036854775808 → Q (dvN m t) → ZL_T_withoutGroups_5 (m + 1) s a a t i Q := by
    intro m
    induction m with
    | zero =>
      intro i t hi h0 t0 t1 kk
      rw [ZL_T_withoutGroups_5]
      exact ⟨fun _ => kk, fun c => absurd c (by omega)⟩
    | succ m ih =>
      intro i t hi h0 t0 t1 kk
      rw [ZL_T_withoutGroups_5]
      refine ⟨fun c => absurd c (by omega), fun _ => ⟨by omega, ?_⟩⟩
      rw [Int.tdiv_eq_ediv_of_nonneg t0, wl_id (by omega)]
      exact ih (i + 1) (t / 1000000) (by omega) (by omega) (by omega) (by omega) kk
  refine ⟨_, key a.toNat 0 s (by omega) (by decide) hs hs2 ?_⟩
  rw [dvN_p6 hs a.toNat (by omega)]
  exact k
def tnN : Nat → Int → Int
  | 0, t => t
  | m + 1, t => tnN m (t * 10)
theorem tnN_le : ∀ (m : Nat) {t : Int}, 0 ≤ t → t ≤ tnN m t
  | 0, _, _ => Int.le_refl _
  | m + 1, t, h => by
    have g := tnN_le m (t := t * 10) (by omega)
    show t ≤ tnN m (t * 10)
    omega
/-- the group of a place, from the right -/
abbrev grp (s : Int) (j : Nat) : Int := s / p6 j % 1000000
theorem grp_in {s : Int} {j : Nat} : 0 ≤ grp s j ∧ grp s j < 1000000 := by
  show 0 ≤ s / p6 j % 1000000 ∧ s / p6 j % 1000000 < 1000000
  omega
theorem grp_wi {q : Int} (h : 0 ≤ q) : wi (zremlZ q 1000000) = q % 1000000 := by
  show wi (Int.tmod q 1000000) = _
  rw [Int.tmod_eq_emod_of_nonneg h]
  exact wi_id (by omega)
/-- the way of a script: its answer -/
def rsR (s n : Int) : Nat → Int → SZ → Int → Prop
  | 0, _, _, res => res = -1
  | m + 1, i, σ, res => ∃ r σ', cmdR σ (grp s (n - 1 - i).toNat) r σ' ∧ ((¬ r = 0 ∧ rsR s n m (i + 1) σ' res) ∨ (r = 0 ∧ res = i))
section QP
variable {v : TZ} {T : Int}
theorem q_rsLoop {s n : Int} {X : String → TZ → Prop} {Q : Int → TZ → Prop} (hs : 0 ≤ s) (hs2 : s < 9223372036854775808) (hn : n ≤ 3) : ∀ (m : Nat) (i : Int) (σ : SZ) (T : Int), i + m = n → 0 ≤ i → SOK σ T → T + 99 * m ≤ 5000000 → (∀ res τ, rsR s n m i σ res → Q res (Tz_set_trial v τ)) → ZL_T_runScript_54 (m + 1) n s n s i (Tz_set_trial v σ) X Q := by
  intro m
  induction m with
  | zero =>
    intro i σ T hi h0 h hT k
    rw [ZL_T_runScript_54]
    exact ⟨fun _ => k _ _ rfl, fun c => absurd c (by omega)⟩
  | succ m ih =>
    intro i σ T hi h0 h hT k
    rw [ZL_T_runScript_54]
    refine ⟨fun c => absurd c (by omega), fun _ => ⟨by omega, by omega, q_withoutGroups hs hs2 (by omega) ⟨by decide, ?_⟩⟩⟩
    have g := (p6_cmp hs (n - 1 - i).toNat).2
    rw [grp_wi g.1]
    refine q_succeeds (σ := σ) (by omega) (by omega) h (by omega) (fun r σ' e => ?_)
    rintro _ rfl
    have e' := e.ok h (by omega) grp_in.1 grp_in.2
    exact ⟨fun c => ⟨by omega, ih (i + 1) σ' (T + 99) (by omega) (by omega) e'.1 (by omega) (fun res τ p => k res τ ⟨r, σ', e, Or.inl ⟨c, p⟩⟩)⟩, fun c => k i σ' ⟨r, σ', e, Or.inr ⟨c, rfl⟩⟩⟩
end QP
/-! ### simulate -/
theorem ushr33 {x : Int} : 0 ≤ zushrZ x 33 ∧ zushrZ x 33 < 2147483648 := by
  have e : ((Int32.ofInt 33).toInt64.toUInt64 &&& Int64.toUInt64 63) = 33 := by decide
  have e2 : zushrZ x 33 = (((Int64.ofInt x).toUInt64 >>> 33).toInt64).toInt := by
    unfold zushrZ zushr
    rw [e]
  rw [e2]
  generalize (Int64.ofInt x).toUInt64 = u
  have hu := u.toNat_lt
  have h1 : (u >>> 33).toNat = u.toNat / 8589934592 := by
    rw [UInt64.toNat_shiftRight]
    show u.toNat >>> 33 = _
    rw [Nat.shiftRight_eq_div_pow]
  have h3 : ((u >>> 33).toInt64).toInt = ((u >>> 33).toNat : Int) := by
    show (u >>> 33).toBitVec.toInt = _
    rw [BitVec.toInt_eq_toNat_of_lt]
    · rfl
    · show 2 * (u >>> 33).toNat < 2 ^ 64
      rw [h1]
      omega
  rw [h3, h1]
  omega
abbrev nxX (x : Int) : Int := wl ((wl (x * 6364136223846793005)) + 1442695040888963407)
abbrev rnd (x : Int) : Int := wi (zushrZ (nxX x) 33)
theorem rnd_in {x : Int} : 0 ≤ rnd x := by
  have g := ushr33 (x := nxX x)
  show 0 ≤ wi (zushrZ (nxX x) 33)
  rw [wi_id (by omega)]
  exact g.1
/-- a turn -/
def turnR (σ : SZ) (r : Int) (σ' : SZ) : Prop :=
  ∃ u, (r % 16 ≤ 5 ∧ attR σ 0 (r / 16 % 8) (r / 16 / 8 % 100) (1 + r / 16 / 1024 % 40) u σ') ∨
    ((5 < r % 16 ∧ r % 16 ≤ 7) ∧ attR σ 1 (r / 16 % 8) (r / 16 / 8 % 3) (r / 16 / 32 % 2) u σ') ∨
    ((7 < r % 16 ∧ r % 16 ≤ 9) ∧ attR σ 2 (r / 16 % 8) (1 + r / 16 / 8 % 12) 0 u σ') ∨
    ((r % 16 = 10 ∧ r / 16 / 8 % 4 = 0) ∧ attR σ 3 (r / 16 % 8) 0 0 u σ') ∨
    ((r % 16 = 10 ∧ ¬ r / 16 / 8 % 4 = 0) ∧ attR σ 4 (r / 16 % 8) (r / 16 / 32 % 2) 0 u σ') ∨
    ((r % 16 = 11 ∧ r / 16 / 1024 % 2 = 0) ∧ attR σ 5 3 (r / 16 % 600) 0 u σ') ∨
    ((r % 16 = 11 ∧ ¬ r / 16 / 1024 % 2 = 0) ∧ attR σ 5 2 (r / 16 % 20) 0 u σ') ∨
    (11 < r % 16 ∧ attR σ 6 (1 + r / 16 % 8) 0 0 u σ')
/-- the way of a simulation -/
def simR : Nat → Int → SZ → SZ → Prop
  | 0, _, σ, τ => τ = σ
  | m + 1, x, σ, τ => ∃ σ', turnR σ (rnd x) σ' ∧ simR m (nxX x) σ' τ
section QR
variable {σ σ' : SZ} {v : TZ} {T r : Int}
theorem turnR.ok (h : SOK σ T) (hT : T + 99 ≤ 5000000) (e : turnR σ r σ') : SOK σ' (T + 99) ∧ Sz_missed σ ≤ Sz_missed σ' := by
  obtain ⟨u, e⟩ := e
  rcases e with ⟨c, e⟩ | ⟨c, e⟩ | ⟨c, e⟩ | ⟨c, e⟩ | ⟨c, e⟩ | ⟨c, e⟩ | ⟨c, e⟩ | ⟨c, e⟩
  · have g := e.ok h hT trivial
    exact ⟨g.1, g.2.1⟩
  · have g := e.ok h hT (show r / 16 / 32 % 2 = 0 ∨ r / 16 / 32 % 2 = 1 by omega)
    exact ⟨g.1, g.2.1⟩
  · have g := e.ok h hT trivial
    exact ⟨g.1, g.2.1⟩
  · have g := e.ok h hT trivial
    exact ⟨g.1, g.2.1⟩
  · have g := e.ok h hT (show r / 16 / 32 % 2 = 0 ∨ r / 16 / 32 % 2 = 1 by omega)
    exact ⟨g.1, g.2.1⟩
  · have g := e.ok h hT trivial
    exact ⟨g.1, g.2.1⟩
  · have g := e.ok h hT trivial
    exact ⟨g.1, g.2.1⟩
  · have g := e.ok h hT trivial
    exact ⟨g.1, g.2.1⟩
theorem q_takeTurn {Q : SZ → Prop} (hr : 0 ≤ r) (h : SOK σ T) (hT : T + 99 ≤ 5000000) (k : ∀ σ', turnR σ r σ' → Q σ') : Z_T_takeTurn r σ Q := by
  have p0 : 0 ≤ r / 16 := by omega
  have p1 : 0 ≤ r / 16 / 8 := by omega
  have p2 : 0 ≤ r / 16 / 32 := by omega
  have p3 : 0 ≤ r / 16 / 1024 := by omega
  have J1 : (r % 16 = 11 → ¬ r / 16 / 1024 % 2 = 0) → (¬ r % 16 = 11 → 11 < r % 16) → ZJ_T_takeTurn_193 r (r / 16) (r % 16) σ Q := by
    intro c1 c2
    unfold ZJ_T_takeTurn_193
    simp only [Int.tmod_eq_emod_of_nonneg p0]
    exact ⟨fun c => ⟨by omega, q_attR (c := 6) (by decide) h hT trivial (fun u σ' e => k σ' ⟨u, Or.inr (Or.inr (Or.inr (Or.inr (Or.inr (Or.inr (Or.inr ⟨c2 c, e⟩))))))⟩)⟩, fun c => q_attR (c := 5) (by decide) h hT trivial (fun u σ' e => k σ' ⟨u, Or.inr (Or.inr (Or.inr (Or.inr (Or.inr (Or.inr (Or.inl ⟨⟨c, c1 c⟩, e⟩))))))⟩)⟩
  have J2 : 9 < r % 16 → (r % 16 = 10 → ¬ r / 16 / 8 % 4 = 0) → ZJ_T_takeTurn_135 r (r / 16) (r % 16) σ Q := by
    intro c0 c1
    unfold ZJ_T_takeTurn_135
    simp only [Int.tdiv_eq_ediv_of_nonneg p0, Int.tmod_eq_emod_of_nonneg p0, Int.tmod_eq_emod_of_nonneg p2, Int.tmod_eq_emod_of_nonneg p3]
    exact ⟨fun c => ⟨fun d => J1 (fun z => absurd z d) (fun _ => by omega), fun d => ⟨fun f => J1 (fun _ => f) (fun z => absurd d z), fun f => q_attR (c := 5) (by decide) h hT trivial (fun u σ' e => k σ' ⟨u, Or.inr (Or.inr (Or.inr (Or.inr (Or.inr (Or.inl ⟨⟨d, f⟩, e⟩)))))⟩)⟩⟩, fun c => q_attR (c := 4) (by decide) h hT (show r / 16 / 32 % 2 = 0 ∨ r / 16 / 32 % 2 = 1 by omega) (fun u σ' e => k σ' ⟨u, Or.inr (Or.inr (Or.inr (Or.inr (Or.inl ⟨⟨c, c1 c⟩, e⟩))))⟩)⟩
  unfold Z_T_takeTurn
  simp only [Int.tdiv_eq_ediv_of_nonneg hr, Int.tmod_eq_emod_of_nonneg hr, Int.tdiv_eq_ediv_of_nonneg p0, Int.tmod_eq_emod_of_nonneg p0, Int.tmod_eq_emod_of_nonneg p1, Int.tmod_eq_emod_of_nonneg p2, Int.tmod_eq_emod_of_nonneg p3]
  refine ⟨fun c5 => ⟨fun c7 => ⟨fun c9 => ⟨fun c => J2 c9 (fun z => absurd z c), fun c => ⟨fun d => J2 c9 (fun _ => d), fun d => q_attR (c := 3) (by decide) h hT trivial (fun u σ' e => k σ' ⟨u, Or.inr (Or.inr (Or.inr (Or.inl ⟨⟨c, d⟩, e⟩)))⟩)⟩⟩, fun c9 => ⟨by omega, q_attR (c := 2) (by decide) h hT trivial (fun u σ' e => k σ' ⟨u, Or.inr (Or.inr (Or.inl ⟨⟨c7, by omega⟩, e⟩))⟩)⟩⟩, fun c7 => q_attR (c := 1) (by decide) h hT (show r / 16 / 32 % 2 = 0 ∨ r / 16 / 32 % 2 = 1 by omega) (fun u σ' e => k σ' ⟨u, Or.inr (Or.inl ⟨⟨c5, by omega⟩, e⟩)⟩)⟩, fun c5 => ⟨by omega, q_attR (c := 0) (by decide) h hT trivial (fun u σ' e => k σ' ⟨u, Or.inl ⟨by omega, e⟩⟩)⟩⟩
abbrev resS (σ τ : SZ) : Int := 10000 * (Lz_dropped (Sz_log τ) - Lz_dropped (Sz_log σ)) + 100 * zminZ (Sz_missed τ - Sz_missed σ) 99 + readersN τ
theorem q_simLoop {s n T0 : Int} {X : String → TZ → Prop} {Q : Int → TZ → Prop} (h0s : SOK (Tz_state v) T0) (hn : n ≤ 60) : ∀ (m : Nat) (i x : Int) (σ : SZ) (T : Int), i + m = n → 0 ≤ i → SOK σ T → T + 99 * m ≤ 5000000 → Sz_missed (Tz_state v) ≤ Sz_missed σ → (∀ τ, simR m x σ τ → Q (resS (Tz_state v) τ) (Tz_set_trial v τ)) → ZL_T_simulate_32 (m + 1) s n n x i (Tz_set_trial v σ) X Q := by
  intro m
  induction m with
  | zero =>
    intro i x σ T hi h0 h hT hm k
    rw [ZL_T_simulate_32]
    have d1 := h.1.1
    have d2 := h0s.1.1
    have d3 := h.2.1
    have d4 := h0s.2.1
    have rn := readersN_in (σ := σ)
    have zm := zminZ_in (n := Sz_missed σ - Sz_missed (Tz_state v)) (m := 99) (by omega) (by decide)
    exact ⟨fun _ => q_readerCount (σ := σ) h ⟨by show -2147483648 ≤ Lz_dropped (Sz_log σ) - Lz_dropped (Sz_log (Tz_state v)) ∧ Lz_dropped (Sz_log σ) - Lz_dropped (Sz_log (Tz_state v)) < 2147483648; omega,
      by show -2147483648 ≤ 10000 * (Lz_dropped (Sz_log σ) - Lz_dropped (Sz_log (Tz_state v))) ∧ 10000 * (Lz_dropped (Sz_log σ) - Lz_dropped (Sz_log (Tz_state v))) < 2147483648; omega,
      by show -2147483648 ≤ Sz_missed σ - Sz_missed (Tz_state v) ∧ Sz_missed σ - Sz_missed (Tz_state v) < 2147483648; omega,
      by show -2147483648 ≤ 100 * zminZ (Sz_missed σ - Sz_missed (Tz_state v)) 99 ∧ 100 * zminZ (Sz_missed σ - Sz_missed (Tz_state v)) 99 < 2147483648; omega,
      by show -2147483648 ≤ 10000 * (Lz_dropped (Sz_log σ) - Lz_dropped (Sz_log (Tz_state v))) + 100 * zminZ (Sz_missed σ - Sz_missed (Tz_state v)) 99 ∧ 10000 * (Lz_dropped (Sz_log σ) - Lz_dropped (Sz_log (Tz_state v))) + 100 * zminZ (Sz_missed σ - Sz_missed (Tz_state v)) 99 < 2147483648; omega,
      by show -2147483648 ≤ 10000 * (Lz_dropped (Sz_log σ) - Lz_dropped (Sz_log (Tz_state v))) + 100 * zminZ (Sz_missed σ - Sz_missed (Tz_state v)) 99 + readersN σ ∧ 10000 * (Lz_dropped (Sz_log σ) - Lz_dropped (Sz_log (Tz_state v))) + 100 * zminZ (Sz_missed σ - Sz_missed (Tz_state v)) 99 + readersN σ < 2147483648; omega, k σ rfl⟩, fun c => absurd c (by omega)⟩
  | succ m ih =>
    intro i x σ T hi h0 h hT hm k
    rw [ZL_T_simulate_32]
    refine ⟨fun c => absurd c (by omega), fun _ => q_takeTurn (σ := σ) rnd_in h (by omega) (fun σ' e => ?_)⟩
    rintro _ rfl
    have e' := e.ok h (by omega)
    exact ⟨by omega, ih (i + 1) (nxX x) σ' (T + 99) (by omega) (by omega) e'.1 (by omega) (by omega) (fun τ p => k τ ⟨σ', e, p⟩)⟩
end QR
