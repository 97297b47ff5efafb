/-! ### a state taken over -/
def REq (r s : RZ) : Prop := (∀ k : Nat, k < 8 → Rz_values r k = Rz_values s k) ∧ r.2 = s.2
def SEq (x y : SZ) : Prop := LEq (Sz_log x) (Sz_log y) ∧ (∀ n : Nat, n < 8 → REq (Sz_readers x n) (Sz_readers y n)) ∧ (∀ k : Nat, k < 6 → Sz_settings x k = Sz_settings y k) ∧ x.2.2.2 = y.2.2.2
section PT
variable {x y : SZ} {W : Nat → Int} {T : Int}
theorem LEq.refl {u : LZ} : LEq u u := ⟨⟨rfl, rfl, rfl, rfl, rfl⟩, fun _ _ => ⟨rfl, rfl, rfl, rfl⟩, fun _ _ => rfl, fun _ _ => rfl⟩
theorem SEq.refl : SEq x x := ⟨LEq.refl, fun _ _ => ⟨fun _ _ => rfl, rfl⟩, fun _ _ => rfl, rfl⟩
theorem SOK.eq (h : SOK y T) (e : SEq x y) : SOK x T := by
  obtain ⟨e1, e2, e3, e4⟩ := e
  have t : Sz_time x = Sz_time y := congrArg (fun q => q.1) e4
  have t2 : Sz_lostByLength x = Sz_lostByLength y := congrArg (fun q => q.2.1) e4
  have t3 : Sz_lostBySleep x = Sz_lostBySleep y := congrArg (fun q => q.2.2.1) e4
  have t4 : Sz_missed x = Sz_missed y := congrArg (fun q => q.2.2.2) e4
  refine ⟨by rw [t]; exact h.1.congr e1, by rw [t, t2, t3, t4]; exact h.2.1, ?_, fun n hn => ?_⟩
  · unfold SetOK
    rw [e3 0 (by decide), e3 1 (by decide), e3 2 (by decide), e3 3 (by decide), e3 4 (by decide), e3 5 (by decide)]
    exact h.2.2.1
  · have g := h.2.2.2 n hn
    have e5 := (e2 n hn).2
    have p1 : Rz_present (Sz_readers x n) = Rz_present (Sz_readers y n) := congrArg (fun q => q.1) e5
    have p2 : Rz_hasLeft (Sz_readers x n) = Rz_hasLeft (Sz_readers y n) := congrArg (fun q => q.2.1) e5
    have p3 : Rz_held (Sz_readers x n) = Rz_held (Sz_readers y n) := congrArg (fun q => q.2.2.1) e5
    have p4 : Rz_place (Sz_readers x n) = Rz_place (Sz_readers y n) := congrArg (fun q => q.2.2.2.1) e5
    have p5 : Rz_readSoFar (Sz_readers x n) = Rz_readSoFar (Sz_readers y n) := congrArg (fun q => q.2.2.2.2.1) e5
    have p6 : Rz_missedSoFar (Sz_readers x n) = Rz_missedSoFar (Sz_readers y n) := congrArg (fun q => q.2.2.2.2.2.1) e5
    have p7 : Rz_lastRead (Sz_readers x n) = Rz_lastRead (Sz_readers y n) := congrArg (fun q => q.2.2.2.2.2.2.1) e5
    unfold ROK
    rw [p1, p2, p3, p4, p5, p6, p7, t, e1.1.1, e1.1.2.1]
    exact g
theorem Rel.eq (h : SOK y T) (e : SEq x y) (r : Rel y W) : Rel x W := by
  obtain ⟨e1, e2, e3, e4⟩ := e
  have t : Sz_time x = Sz_time y := congrArg (fun q => q.1) e4
  have t2 : Sz_lostByLength x = Sz_lostByLength y := congrArg (fun q => q.2.1) e4
  have t3 : Sz_lostBySleep x = Sz_lostBySleep y := congrArg (fun q => q.2.2.1) e4
  have t4 : Sz_missed x = Sz_missed y := congrArg (fun q => q.2.2.2) e4
  have h1 := h.1.1
  obtain ⟨a1, a2, a3, a4, a5, a6⟩ := r
  refine ⟨by rw [t, t2, t3, t4, e1.1.1, e1.1.2.1, e1.1.2.2.2.2]; exact a1, fun k k0 k1 => by rw [e1.2.2.2 _ (by omega)]; exact a2 k k0 k1, fun k k0 k1 => by rw [e3 _ (by omega)]; exact a3 k k0 k1, fun i i0 i1 => ?_, fun i i0 i1 => ?_, fun a b0 b1 => ?_⟩
  · rw [e1.1.2.1] at i1
    obtain ⟨b, b1, b2, b3⟩ := a4 i i0 i1
    have g := e1.2.1 i.toNat (by omega)
    exact ⟨b, b1, b2.trans (mk_congr h.1 e1).symm, by rw [g.1, g.2.1, e1.2.2.1 _ (by omega), e1.2.2.1 _ (by omega)]; exact b3⟩
  · rw [e1.1.2.1] at i1
    rw [(e1.2.1 i.toNat (by omega)).2.2.1]
    exact a5 i i0 i1
  · obtain ⟨g1, g2, g3, g4⟩ := a6 a b0 b1
    have e5 := (e2 a.toNat (by omega)).2
    have e6 := (e2 a.toNat (by omega)).1
    have p1 : Rz_present (Sz_readers x a.toNat) = Rz_present (Sz_readers y a.toNat) := congrArg (fun q => q.1) e5
    have p2 : Rz_hasLeft (Sz_readers x a.toNat) = Rz_hasLeft (Sz_readers y a.toNat) := congrArg (fun q => q.2.1) e5
    have p3 : Rz_held (Sz_readers x a.toNat) = Rz_held (Sz_readers y a.toNat) := congrArg (fun q => q.2.2.1) e5
    have p4 : Rz_place (Sz_readers x a.toNat) = Rz_place (Sz_readers y a.toNat) := congrArg (fun q => q.2.2.2.1) e5
    have p5 : Rz_readSoFar (Sz_readers x a.toNat) = Rz_readSoFar (Sz_readers y a.toNat) := congrArg (fun q => q.2.2.2.2.1) e5
    have p6 : Rz_missedSoFar (Sz_readers x a.toNat) = Rz_missedSoFar (Sz_readers y a.toNat) := congrArg (fun q => q.2.2.2.2.2.1) e5
    have p7 : Rz_lastRead (Sz_readers x a.toNat) = Rz_lastRead (Sz_readers y a.toNat) := congrArg (fun q => q.2.2.2.2.2.2.1) e5
    have p8 : Rz_lostBy (Sz_readers x a.toNat) = Rz_lostBy (Sz_readers y a.toNat) := congrArg (fun q => q.2.2.2.2.2.2.2) e5
    unfold RelR
    rw [p1, p2, p3, p4, p5, p6, p7, p8]
    refine ⟨g1, fun c => ?_, g3, fun c c2 => ?_⟩
    · obtain ⟨b1, b2, b3, b4, b5, b6, b7⟩ := g2 c
      exact ⟨b1, b2, b3, b4, b5, b6, fun k k0 k1 => by rw [e6 _ (by omega)]; exact b7 k k0 k1⟩
    · obtain ⟨b1, b2⟩ := g4 c c2
      exact ⟨b1, fun k k0 k1 => by rw [e6 _ (by omega)]; exact b2 k k0 k1⟩
/-- the row counts below 621 only -/
theorem Rel.weq {V : Nat → Int} (h : SOK x T) (r : Rel x W) (hV : ∀ m : Nat, m < 621 → V m = W m) : Rel x V := by
  have h1 := h.1.1
  obtain ⟨a1, a2, a3, a4, a5, a6⟩ := r
  refine ⟨by rw [hV _ (by decide), hV _ (by decide), hV _ (by decide), hV _ (by decide), hV _ (by decide), hV _ (by decide), hV _ (by decide)]; exact a1, fun k k0 k1 => by rw [hV _ (by omega)]; exact a2 k k0 k1, fun k k0 k1 => by rw [hV _ (by omega)]; exact a3 k k0 k1, fun i i0 i1 => ?_, fun i i0 i1 => ?_, fun a b0 b1 => ?_⟩
  · obtain ⟨b, b1, b2, b3⟩ := a4 i i0 i1
    exact ⟨b, b1, b2, by rw [hV _ (by omega)]; exact b3⟩
  · rw [hV _ (by omega)]
    exact a5 i i0 i1
  · exact (a6 a b0 b1).keep b0 b1 rfl (fun n _ n1 => hV n (by omega))
theorem q_R_takeOver {r s : RZ} {Q : RZ → Prop} (h1 : Rz_present s = 0 ∨ Rz_present s = 1) (h2 : Rz_hasLeft s = 0 ∨ Rz_hasLeft s = 1) (h3 : Rz_held s = 0 ∨ Rz_held s = 1) (k : ∀ z, REq z s → Q z) : Z_R_takeOver r s Q := by
  unfold Z_R_takeOver
  refine q_copy (by decide) ?_
  rintro _ rfl
  refine ⟨h1, ?_⟩
  rintro _ rfl
  refine ⟨h2, ?_⟩
  rintro _ rfl
  refine ⟨h3, ?_⟩
  rintro _ rfl _ rfl _ rfl _ rfl _ rfl _ rfl
  exact k _ ⟨fun j hj => zcpz_lt hj, rfl⟩
theorem q_S_takeOver {Q : SZ → Prop} (h : SOK y T) (k : ∀ z, SEq z y → Q z) : Z_S_takeOver x y Q := by
  unfold Z_S_takeOver
  refine q_L_takeOver (fun z hz => ?_)
  rintro _ rfl
  have key : ∀ (n i : Nat) (rs : Nat → RZ), i + n = 8 → (∀ m : Nat, m < i → REq (rs m) (Sz_readers y m)) → ZL_S_takeOver_18 (n + 1) y i (Sz_set_readers (Sz_set_log x z) rs) Q := by
    intro n
    induction n with
    | zero =>
      intro i rs hi hr
      rw [ZL_S_takeOver_18]
      refine ⟨fun _ => q_copy (by decide) ?_, fun c => absurd c (by omega)⟩
      rintro _ rfl _ rfl _ rfl _ rfl _ rfl
      exact k _ ⟨hz, fun m hm => hr m (by omega), fun m hm => zcpz_lt hm, rfl⟩
    | succ n ih =>
      intro i rs hi hr
      rw [ZL_S_takeOver_18]
      have g := h.2.2.2 ((i : Int)).toNat (by omega)
      refine ⟨fun c => absurd c (by omega), fun _ => ⟨by omega, by omega, q_R_takeOver g.1 g.2.1 g.2.2.1 (fun w hw => ?_)⟩⟩
      rintro _ rfl
      refine ⟨by omega, ih (i + 1) _ (by omega) (fun m hm => ?_)⟩
      by_cases q : m = ((i : Int)).toNat
      · show REq (if m = ((i : Int)).toNat then w else rs m) (Sz_readers y m)
        rw [if_pos q, q]
        exact hw
      · show REq (if m = ((i : Int)).toNat then w else rs m) (Sz_readers y m)
        rw [if_neg q]
        exact hr m (by omega)
  exact ⟨_, key 8 0 (Sz_readers x) rfl (fun m hm => absurd hm (by omega))⟩
/-- a state as a renewed one -/
def FreshS (x : SZ) : Prop := (Lz_first (Sz_log x) = 0 ∧ Lz_end (Sz_log x) = 0 ∧ Lz_length (Sz_log x) = 0 ∧ Lz_begun (Sz_log x) = 0 ∧ Lz_dropped (Sz_log x) = 0 ∧ Lz_lengthsBelow (Sz_log x) 0 = 0 ∧ ∀ k : Nat, k < 8 → Lz_dropValues (Sz_log x) k = -1) ∧ (∀ n : Nat, n < 8 → Rz_present (Sz_readers x n) = 0 ∧ Rz_hasLeft (Sz_readers x n) = 0 ∧ Rz_held (Sz_readers x n) = 0) ∧ (∀ k : Nat, k < 6 → Sz_settings x k = zSvz 0 k) ∧ x.2.2.2 = (0, 0, 0, 0)
def FreshW (W : Nat → Int) : Prop := (∀ k : Nat, k < 8 → W (402 + k) = -1) ∧ W 610 = 4 ∧ W 611 = 100 ∧ W 613 = 400 ∧ ∀ m : Nat, m < 621 → ¬ (402 ≤ m ∧ m < 410) → m ≠ 610 → m ≠ 611 → m ≠ 613 → W m = 0
theorem FreshS.ok (h : FreshS x) (hT : 0 ≤ T ∧ T ≤ 5000000) : SOK x T := by
  obtain ⟨⟨a1, a2, a3, a4, a5, a6, a7⟩, b, c, d⟩ := h
  have t : Sz_time x = 0 := congrArg (fun q => q.1) d
  have t2 : Sz_lostByLength x = 0 := congrArg (fun q => q.2.1) d
  have t3 : Sz_lostBySleep x = 0 := congrArg (fun q => q.2.2.1) d
  have t4 : Sz_missed x = 0 := congrArg (fun q => q.2.2.2) d
  refine ⟨⟨by omega, ⟨a6, fun i hi => by omega, ?_⟩, fun _ => a2, fun q => by omega, fun i hi => by omega, fun k hk => by rw [a7 k hk]; decide⟩, by omega, ?_, fun n hn => ?_⟩
  · rw [a1, a2, a3]
    omega
  · unfold SetOK
    rw [c 0 (by decide), c 1 (by decide), c 2 (by decide), c 3 (by decide), c 4 (by decide), c 5 (by decide)]
    decide
  · have g := b n hn
    exact ⟨Or.inl g.1, Or.inl g.2.1, Or.inl g.2.2, fun q => by omega, fun q => by omega, fun q => by omega⟩
theorem FreshS.rel (h : FreshS x) (w : FreshW W) : Rel x W := by
  obtain ⟨⟨a1, a2, a3, a4, a5, a6, a7⟩, b, c, d⟩ := h
  obtain ⟨w1, w2, w3, w4, w5⟩ := w
  have t : Sz_time x = 0 := congrArg (fun q => q.1) d
  have t2 : Sz_lostByLength x = 0 := congrArg (fun q => q.2.1) d
  have t3 : Sz_lostBySleep x = 0 := congrArg (fun q => q.2.2.1) d
  have t4 : Sz_missed x = 0 := congrArg (fun q => q.2.2.2) d
  refine ⟨⟨?_, ?_, ?_, ?_, ?_, ?_, ?_⟩, fun k k0 k1 => ?_, fun k k0 k1 => ?_, fun i i0 i1 => by omega, fun i i0 i1 => by omega, fun a e0 e1 => ?_⟩
  · rw [a1]; exact w5 400 (by decide) (by decide) (by decide) (by decide) (by decide)
  · rw [a2]; exact w5 401 (by decide) (by decide) (by decide) (by decide) (by decide)
  · rw [t]; exact w5 616 (by decide) (by decide) (by decide) (by decide) (by decide)
  · rw [a5]; exact w5 617 (by decide) (by decide) (by decide) (by decide) (by decide)
  · rw [t2]; exact w5 618 (by decide) (by decide) (by decide) (by decide) (by decide)
  · rw [t3]; exact w5 619 (by decide) (by decide) (by decide) (by decide) (by decide)
  · rw [t4]; exact w5 620 (by decide) (by decide) (by decide) (by decide) (by decide)
  · rw [a7 _ (by omega), show (402 + k).toNat = 402 + k.toNat by omega]
    exact w1 _ (by omega)
  · have e : k = 0 ∨ k = 1 ∨ k = 2 ∨ k = 3 ∨ k = 4 ∨ k = 5 := by omega
    rw [c _ (by omega)]
    rcases e with e | e | e | e | e | e <;> subst e
    · exact w2
    · exact w3
    · exact w5 612 (by decide) (by decide) (by decide) (by decide) (by decide)
    · exact w4
    · exact w5 614 (by decide) (by decide) (by decide) (by decide) (by decide)
    · exact w5 615 (by decide) (by decide) (by decide) (by decide) (by decide)
  · have g := b a.toNat (by omega)
    refine ⟨?_, fun q => by omega, ?_, fun _ q => by omega⟩
    · rw [g.1]; exact w5 _ (by omega) (by omega) (by omega) (by omega) (by omega)
    · rw [g.2.1]; exact w5 _ (by omega) (by omega) (by omega) (by omega) (by omega)
theorem q_S_renew {Q : SZ → Prop} (h : Lz_lengthsBelow (Sz_log x) 0 = 0) (k : ∀ z, FreshS z → Q z) : Z_S_renew x Q := by
  unfold Z_S_renew
  refine q_L_renew (fun d hd => ?_)
  rintro _ rfl
  have key : ∀ (n i : Nat) (rs : Nat → RZ), i + n = 8 → (∀ m : Nat, m < i → Rz_present (rs m) = 0 ∧ Rz_hasLeft (rs m) = 0 ∧ Rz_held (rs m) = 0) → ZL_S_renew_9 (n + 1) i (Sz_set_readers (Sz_set_log x (Lz_keys (Sz_log x), Lz_values (Sz_log x), Lz_times (Sz_log x), Lz_lengthsBelow (Sz_log x), Lz_starts (Sz_log x), d, 0, 0, 0, 0, 0)) rs) Q := by
    intro n
    induction n with
    | zero =>
      intro i rs hi hr
      rw [ZL_S_renew_9]
      refine ⟨fun _ => q_copy (by decide) ?_, fun c => absurd c (by omega)⟩
      rintro _ rfl _ rfl _ rfl _ rfl _ rfl
      exact k _ ⟨⟨rfl, rfl, rfl, rfl, rfl, h, hd⟩, fun m hm => hr m (by omega), fun m hm => zcpz_lt hm, rfl⟩
    | succ n ih =>
      intro i rs hi hr
      rw [ZL_S_renew_9]
      refine ⟨fun c => absurd c (by omega), fun _ => ⟨by omega, ?_⟩⟩
      unfold Z_R_renew
      rintro _ rfl _ rfl _ rfl _ rfl
      refine ⟨by omega, ih (i + 1) _ (by omega) (fun m hm => ?_)⟩
      by_cases q : m = ((i : Int)).toNat
      · show Rz_present (if m = ((i : Int)).toNat then _ else rs m) = 0 ∧ Rz_hasLeft (if m = ((i : Int)).toNat then _ else rs m) = 0 ∧ Rz_held (if m = ((i : Int)).toNat then _ else rs m) = 0
        rw [if_pos q]
        exact ⟨rfl, rfl, rfl⟩
      · show Rz_present (if m = ((i : Int)).toNat then _ else rs m) = 0 ∧ Rz_hasLeft (if m = ((i : Int)).toNat then _ else rs m) = 0 ∧ Rz_held (if m = ((i : Int)).toNat then _ else rs m) = 0
        rw [if_neg q]
        exact hr m (by omega)
  exact ⟨_, key 8 0 (Sz_readers x) rfl (fun m hm => absurd hm (by omega))⟩
theorem m_fresh {Q : (Nat → Int) → Prop} (k : ∀ V, FreshW V → Q V) : Z_M_fresh W Q := by
  have key2 : ∀ (n i : Nat) (V : Nat → Int), i + n = 8 → (∀ m : Nat, m < i → V (402 + m) = -1) → (∀ m : Nat, m < 621 → ¬ (402 ≤ m ∧ m < 402 + i) → V m = 0) → ZL_M_fresh_21 (n + 1) i V Q := by
    intro n
    induction n with
    | zero =>
      intro i V hi h1 h2
      rw [ZL_M_fresh_21]
      refine ⟨fun _ => ⟨by decide, ?_⟩, fun c => absurd c (by omega)⟩
      rintro _ rfl
      refine ⟨by decide, ?_⟩
      rintro _ rfl
      refine ⟨by decide, ?_⟩
      rintro _ rfl
      refine k _ ⟨fun q hq => ?_, ?_, ?_, ?_, fun m hm c c1 c2 c3 => ?_⟩
      · rw [updz_ne (by omega), updz_ne (by omega), updz_ne (by omega)]
        exact h1 q (by omega)
      · rw [updz_ne (by decide), updz_ne (by decide)]
        exact updz_eq
      · rw [updz_ne (by decide)]
        exact updz_eq
      · exact updz_eq
      · rw [updz_ne (by omega), updz_ne (by omega), updz_ne (by omega)]
        exact h2 m hm (by omega)
    | succ n ih =>
      intro i V hi h1 h2
      rw [ZL_M_fresh_21]
      refine ⟨fun c => absurd c (by omega), fun _ => ⟨by omega, by omega, ?_⟩⟩
      rintro _ rfl
      refine ⟨by omega, ih (i + 1) _ (by omega) (fun m hm => ?_) (fun m hm c => ?_)⟩
      · by_cases q : m = i
        · rw [q, show (402 + (i : Int)).toNat = 402 + i by omega]
          exact updz_eq
        · rw [updz_ne (by omega)]
          exact h1 m (by omega)
      · rw [updz_ne (by omega)]
        exact h2 m hm (by omega)
  have key : ∀ (n i : Nat) (V : Nat → Int), i + n = 621 → (∀ m : Nat, m < i → V m = 0) → ZL_M_fresh_2 (n + 1) i V Q := by
    intro n
    induction n with
    | zero =>
      intro i V hi h1
      rw [ZL_M_fresh_2]
      exact ⟨fun _ => ⟨_, key2 8 0 V rfl (fun m hm => absurd hm (by omega)) (fun m hm _ => h1 m (by omega))⟩, fun c => absurd c (by omega)⟩
    | succ n ih =>
      intro i V hi h1
      rw [ZL_M_fresh_2]
      refine ⟨fun c => absurd c (by omega), fun _ => ⟨by omega, ?_⟩⟩
      rintro _ rfl
      refine ⟨by omega, ih (i + 1) _ (by omega) (fun m hm => ?_)⟩
      by_cases q : m = i
      · rw [q, show ((i : Int)).toNat = i by omega]
        exact updz_eq
      · rw [updz_ne (by omega)]
        exact h1 m (by omega)
  exact ⟨_, key 621 0 W rfl (fun m hm => absurd hm (by omega))⟩
theorem m_copy {V : Nat → Int} {Q : (Nat → Int) → Prop} (k : ∀ U, (∀ m : Nat, m < 621 → U m = W m) → Q U) : Z_M_copy W V Q := by
  have key : ∀ (n i : Nat) (U : Nat → Int), i + n = 621 → (∀ m : Nat, m < i → U m = W m) → ZL_M_copy_2 (n + 1) W i U Q := by
    intro n
    induction n with
    | zero =>
      intro i U hi h1
      rw [ZL_M_copy_2]
      exact ⟨fun _ => k U (fun m hm => h1 m (by omega)), fun c => absurd c (by omega)⟩
    | succ n ih =>
      intro i U hi h1
      rw [ZL_M_copy_2]
      refine ⟨fun c => absurd c (by omega), fun _ => ⟨by omega, by omega, ?_⟩⟩
      rintro _ rfl
      refine ⟨by omega, ih (i + 1) _ (by omega) (fun m hm => ?_)⟩
      by_cases q : m = i
      · rw [q, show ((i : Int)).toNat = i by omega]
        exact updz_eq
      · rw [updz_ne (by omega)]
        exact h1 m (by omega)
  exact ⟨_, key 621 0 V rfl (fun m hm => absurd hm (by omega))⟩
theorem SOK.st {what v : Int} (h : SOK x T) (h0 : 0 ≤ what) (h1 : what ≤ 5) (hv : zSvz 1 what.toNat ≤ v ∧ v ≤ zSvz 2 what.toNat) : SOK (stS x what v) T := by
  refine ⟨h.1, h.2.1, ?_, h.2.2.2⟩
  have g := h.2.2.1
  unfold SetOK at g ⊢
  have e : what = 0 ∨ what = 1 ∨ what = 2 ∨ what = 3 ∨ what = 4 ∨ what = 5 := by omega
  rcases e with e | e | e | e | e | e <;> subst e
  · have hv : (1 : Int) ≤ v ∧ v ≤ 8 := hv
    exact ⟨hv, g.2⟩
  · have hv : (40 : Int) ≤ v ∧ v ≤ 200 := hv
    exact ⟨g.1, hv, g.2.2⟩
  · have hv : (0 : Int) ≤ v ∧ v ≤ 99 := hv
    exact ⟨g.1, g.2.1, hv, g.2.2.2⟩
  · have hv : (0 : Int) ≤ v ∧ v ≤ 4000 := hv
    exact ⟨g.1, g.2.1, g.2.2.1, hv, g.2.2.2.2⟩
  · have hv : (0 : Int) ≤ v ∧ v ≤ 4000 := hv
    exact ⟨g.1, g.2.1, g.2.2.1, g.2.2.2.1, hv, g.2.2.2.2.2⟩
  · have hv : (0 : Int) ≤ v ∧ v ≤ 99 := hv
    exact ⟨g.1, g.2.1, g.2.2.1, g.2.2.2.1, g.2.2.2.2.1, hv⟩
end PT
