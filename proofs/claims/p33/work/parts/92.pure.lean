/-! ### the law's calls that ask what would be -/
section CG
variable {x y : SZ} {T : Int}
theorem SEq.dropped (e : SEq x y) : Lz_dropped (Sz_log x) = Lz_dropped (Sz_log y) := e.1.1.2.2.2.2
theorem outD_congr : ∀ (n : Nat) (i : Int) {x y : SZ} {T : Int}, SOK y T → T + n ≤ 5000000 → SEq x y → outD n i x = outD n i y := by
  intro n
  induction n with
  | zero => intro i x y T _ _ _; rfl
  | succ n ih =>
    intro i x y T h hT e
    have e1 := e.tick h (by omega)
    show (if Lz_dropped (Sz_log (tickS x)) - Lz_dropped (Sz_log x) ≤ 0 then outD n (i + 1) (tickS x) else i) = (if Lz_dropped (Sz_log (tickS y)) - Lz_dropped (Sz_log y) ≤ 0 then outD n (i + 1) (tickS y) else i)
    rw [e1.dropped, e.dropped, ih (i + 1) (h.tick (by omega)) (by omega) e1]
theorem outL_congr {a : Int} (ha : 0 ≤ a ∧ a < 8) : ∀ (n : Nat) (i : Int) {x y : SZ} {T : Int}, SOK y T → T + n ≤ 5000000 → SEq x y → outL a n i x = outL a n i y := by
  intro n
  induction n with
  | zero => intro i x y T _ _ _; rfl
  | succ n ih =>
    intro i x y T h hT e
    have e1 := e.tick h (by omega)
    show (if Rz_held (Sz_readers (tickS x) a.toNat) = 1 then outL a n (i + 1) (tickS x) else i) = (if Rz_held (Sz_readers (tickS y) a.toNat) = 1 then outL a n (i + 1) (tickS y) else i)
    rw [(e1.2.1 a.toNat (by omega)).held, ih (i + 1) (h.tick (by omega)) (by omega) e1]
theorem SEq.st {what v : Int} (e : SEq x y) : SEq (stS x what v) (stS y what v) := ⟨e.1, e.2.1, upd_congr (N := 6) e.2.2.1 rfl rfl, e.2.2.2⟩
theorem SEq.hd {a : Nat} {b : Int} (e : SEq x y) (ha : a < 8) : SEq (hdS x a b) (hdS y a b) := by
  have g := e.2.1 a ha
  refine e.seti ⟨g.1, ?_⟩
  show (Rz_present (Sz_readers x a), Rz_hasLeft (Sz_readers x a), b, Rz_place (Sz_readers x a), Rz_readSoFar (Sz_readers x a), Rz_missedSoFar (Sz_readers x a), Rz_lastRead (Sz_readers x a), (0 : Int)) = (Rz_present (Sz_readers y a), Rz_hasLeft (Sz_readers y a), b, Rz_place (Sz_readers y a), Rz_readSoFar (Sz_readers y a), Rz_missedSoFar (Sz_readers y a), Rz_lastRead (Sz_readers y a), (0 : Int))
  rw [g.present, g.hasLeft, g.place, g.readSoFar, g.missedSoFar, g.lastRead]
theorem diffN_congr {a b : Int} (h : SOK y T) (hT : T + 300 ≤ 5000000) (ha : 0 ≤ a ∧ a ≤ 4000) (hb : 0 ≤ b ∧ b ≤ 200) (e : SEq x y) : diffN x a b = diffN y a b := by
  have o : setP 3 a := ⟨by decide, ha⟩
  have e1 := (e.st (what := 3) (v := a)).ticks b.toNat (h.st (by decide) (by decide) o.2) (by omega)
  show Lz_dropped (Sz_log (ticksS b.toNat (stS x 3 a))) - Lz_dropped (Sz_log x) = Lz_dropped (Sz_log (ticksS b.toNat (stS y 3 a))) - Lz_dropped (Sz_log y)
  rw [e1.dropped, e.dropped]
theorem SEq.att {c : Nat} {a b d r r2 : Int} {x' y' : SZ} (h : SOK y T) (hT : T + 99 ≤ 5000000) (e : SEq x y) (e1 : attR x c a b d r x') (e2 : attR y c a b d r2 y') (hc : c < 7) (hv : valA c b d) : r = r2 ∧ SEq x' y' := by
  have ef := e.flt (c := c) (a := a) (b := b) (d := d) hc
  by_cases o : fltA y c a b d = 0
  · obtain ⟨r1, w1, q1⟩ := e1.yes (ef.trans o)
    obtain ⟨s1, w2, q2⟩ := e2.yes o
    exact ⟨r1.trans s1.symm, (SEq.res h hT e hv o q1 q2).2⟩
  · obtain ⟨r1, q1⟩ := e1.no (by rw [ef]; exact o)
    obtain ⟨s1, q2⟩ := e2.no o
    rw [q1, q2]
    exact ⟨r1.trans s1.symm, e⟩
theorem SEq.turn {r : Int} {x' y' : SZ} (h : SOK y T) (hT : T + 99 ≤ 5000000) (e : SEq x y) (e1 : turnR x r x') (e2 : turnR y r y') : SEq x' y' := by
  obtain ⟨u1, e1⟩ := e1
  obtain ⟨u2, e2⟩ := e2
  have g : r % 16 ≤ 5 ∨ (5 < r % 16 ∧ r % 16 ≤ 7) ∨ (7 < r % 16 ∧ r % 16 ≤ 9) ∨ (r % 16 = 10 ∧ r / 16 / 8 % 4 = 0) ∨ (r % 16 = 10 ∧ ¬ r / 16 / 8 % 4 = 0) ∨ (r % 16 = 11 ∧ r / 16 / 1024 % 2 = 0) ∨ (r % 16 = 11 ∧ ¬ r / 16 / 1024 % 2 = 0) ∨ 11 < r % 16 := by omega
  generalize r / 16 / 8 % 4 = q1 at *
  generalize hq2 : r / 16 / 1024 % 2 = q2 at *
  rcases e1 with ⟨c, e1⟩ | ⟨c, e1⟩ | ⟨c, e1⟩ | ⟨c, e1⟩ | ⟨c, e1⟩ | ⟨c, e1⟩ | ⟨c, e1⟩ | ⟨c, e1⟩ <;> rcases e2 with ⟨d, e2⟩ | ⟨d, e2⟩ | ⟨d, e2⟩ | ⟨d, e2⟩ | ⟨d, e2⟩ | ⟨d, e2⟩ | ⟨d, e2⟩ | ⟨d, e2⟩
  all_goals first
    | exact (SEq.att h hT e e1 e2 (by decide) trivial).2
    | exact (SEq.att h hT e e1 e2 (by decide) (show r / 16 / 32 % 2 = 0 ∨ r / 16 / 32 % 2 = 1 by omega)).2
    | (exfalso; omega)
theorem SEq.sim : ∀ (m : Nat) (s : Int) {x y x' y' : SZ} {T : Int}, SOK y T → T + 99 * m ≤ 5000000 → SEq x y → simR m s x x' → simR m s y y' → SEq x' y' := by
  intro m
  induction m with
  | zero =>
    intro s x y x' y' T _ _ e e1 e2
    rw [show x' = x from e1, show y' = y from e2]
    exact e
  | succ m ih =>
    intro s x y x' y' T h hT e e1 e2
    obtain ⟨x1, p1, p2⟩ := e1
    obtain ⟨y1, s1, s2⟩ := e2
    exact ih (nxX s) (T := T + 99) (turnR.ok h (by omega) s1).1 (by omega) (SEq.turn h (by omega) e p1 s1) p2 s2
end CG
section QF2
variable {v : TZ} {T : Int} {a b s : Int}
theorem q_T_droppedIn {Q : Int → TZ → Prop} (h : SOK (Tz_state v) T) (hT : T + 300 ≤ 5000000) (k : ∀ t, Q (outD 300 1 (Tz_state v)) (Tz_set_trial v t)) : Z_T_droppedIn v Q := by
  unfold Z_T_droppedIn
  refine q_copyToTry h (fun z hz => ⟨_, q_dropIn (v := v) 300 1 z T (by decide) (by decide) (h.eq hz) (by omega) (fun t => ?_)⟩)
  rw [outD_congr 300 1 h (by omega) hz]
  exact k t
theorem q_LAW_lostIn {Q : Int → TZ → Prop} (h : SOK (Tz_state v) T) (hT : T + 300 ≤ 5000000) (k1 : ¬ isR (Tz_state v) a → Q IX v) (k : isR (Tz_state v) a → ∀ t, Q (if Rz_held (Sz_readers (Tz_state v) a.toNat) = 1 then outL a 300 1 (Tz_state v) else -1) (Tz_set_trial v t)) : Z_LAW_lostIn a v Q := by
  unfold Z_LAW_lostIn Z_T_lostIn
  refine q_reader h (fun i hi hi8 hp => ⟨fun z => (nomatch z), fun j z => ?_⟩) (fun c => ⟨fun _ => ⟨fun _ => k1 c, fun q => absurd rfl q⟩, fun j z => (nomatch z)⟩)
  cases z
  have e0 : i = a.toNat := by omega
  subst e0
  have hr : isR (Tz_state v) a := ⟨by omega, hp⟩
  have k := k hr
  refine q_copyToTry h (fun z hz => ?_)
  have hz1 := h.eq hz
  have g := hz.2.1 a.toNat hi8
  have p1 : Rz_present (Sz_readers z a.toNat) = 1 := g.present.trans hp
  refine q_hasHold (σ := z) hz1 (fun c => ⟨fun _ => ⟨_, q_lostLoop (v := v) hr.1 300 1 z T (by decide) (by decide) hz1 (by omega) p1 (fun t => ?_)⟩, fun y => absurd y (by decide)⟩) (fun c => ⟨fun y => absurd rfl y, fun _ => ?_⟩)
  · have k := k t
    rw [if_pos (g.held.symm.trans c.2)] at k
    rw [outL_congr hr.1 300 1 h (by omega) hz]
    exact k
  · have k := k z
    rw [if_neg (fun q => c ⟨⟨hr.1, p1⟩, g.held.trans q⟩)] at k
    exact k
theorem q_LAW_ifFree {Q : Int → TZ → Prop} (h : SOK (Tz_state v) T) (hT : T + 300 ≤ 5000000) (k1 : ¬ isR (Tz_state v) a → Q IX v) (k : isR (Tz_state v) a → ∀ t, Q (Lz_dropped (Sz_log (tickS (hdS (Tz_state v) a.toNat 0))) - Lz_dropped (Sz_log (Tz_state v))) (Tz_set_trial v t)) : Z_LAW_ifFree a v Q := by
  unfold Z_LAW_ifFree Z_T_ifFree
  refine q_reader h (fun i hi hi8 hp => ⟨fun z => (nomatch z), fun j z => ?_⟩) (fun c => ⟨fun _ => ⟨fun _ => k1 c, fun q => absurd rfl q⟩, fun j z => (nomatch z)⟩)
  cases z
  have e0 : i = a.toNat := by omega
  subst e0
  have hr : isR (Tz_state v) a := ⟨by omega, hp⟩
  refine q_copyToTry h (fun z hz => ?_)
  have hz1 := h.eq hz
  have g := hz.2.1 a.toNat hi8
  have p1 : Rz_present (Sz_readers z a.toNat) = 1 := g.present.trans hp
  have hz2 : isR z a := ⟨hr.1, p1⟩
  have of : fltA z 4 a 0 0 = 0 := by
    show (if isR z a then (if (0 : Int) = 1 ∧ Rz_place (Sz_readers z a.toNat) < Lz_first (Sz_log z) then (3 : Int) else 0) else 1) = 0
    rw [if_pos hz2, if_neg (fun q => absurd q.1 (by decide))]
  refine q_attempt (c := 4) (by decide) hz1 (by omega) (Or.inl rfl) (fun _ r σ' hr' => ?_) (fun c => absurd of c)
  obtain ⟨e1, e2⟩ := hr'
  subst e2
  rintro _ rfl
  refine q_tick1 (σ := hdS z a.toNat 0) (hz1.hd hi8 p1 (Or.inl rfl) (fun q => absurd q (by decide))) (by omega) ?_
  rintro _ rfl
  have ho := h.hd (b := 0) hi8 hp (Or.inl rfl) (fun q => absurd q (by decide))
  have e3 := ((hz.hd (b := 0) hi8).tick ho (by omega)).dropped
  have e4 : Lz_dropped (Sz_log (hdS z a.toNat 0)) = Lz_dropped (Sz_log (Tz_state v)) := hz.dropped
  have kk := k hr (tickS (hdS z a.toNat 0))
  rw [← e3, ← e4] at kk
  exact kk
theorem q_LAW_leastRoom {Q : Int → TZ → Prop} (h : SOK (Tz_state v) T) (hT : T + 300 ≤ 5000000) (k1 : ¬ (1 ≤ a ∧ a ≤ 200) → Q AR v)
    (k : 1 ≤ a → a ≤ 200 → ∀ t, Q (if diffN (Tz_state v) 0 a = 0 then 0 else if Lz_length (Sz_log (Tz_state v)) ≤ 4000 ∧ diffN (Tz_state v) (Lz_length (Sz_log (Tz_state v))) a = 0 then Lz_length (Sz_log (Tz_state v)) else -1) (Tz_set_trial v t)) : Z_LAW_leastRoom a v Q := by
  have hl := h.1.len
  unfold Z_LAW_leastRoom Z_T_leastRoom
  refine q_isIn (fun a0 a1 => ⟨fun _ => q_dropsNone h hT (by decide) ⟨a0, a1⟩ (fun z t hz => ?_), fun c => absurd c (by decide)⟩) (fun c => ⟨fun c2 => absurd rfl c2, fun _ => ⟨fun _ => k1 c, fun q => absurd rfl q⟩⟩)
  have k := k a0 a1
  rw [diffN_congr h hT (by decide) (by omega) hz]
  by_cases q : diffN (Tz_state v) 0 a = 0
  · simp only [if_pos q] at k ⊢
    exact ⟨fun c => absurd c (by decide), fun _ => k t⟩
  · simp only [if_neg q] at k ⊢
    refine ⟨fun _ => ⟨fun c => ?_, fun c => ?_⟩, fun c => absurd trivial c⟩
    · have c : 4000 < Lz_length (Sz_log (Tz_state v)) := c
      have k := k t
      rw [if_neg (fun q => absurd q.1 (by omega))] at k
      exact k
    · have c : ¬ 4000 < Lz_length (Sz_log (Tz_state v)) := c
      refine q_dropsNone (v := Tz_set_trial v t) h hT (by show 0 ≤ Lz_length (Sz_log (Tz_state v)) ∧ Lz_length (Sz_log (Tz_state v)) ≤ 4000; omega) ⟨a0, a1⟩ (fun z2 t2 hz2 => ?_)
      have hz2 : SEq z2 (Tz_state v) := hz2
      have k := k t2
      have ed := diffN_congr (a := Lz_length (Sz_log (Tz_state v))) (b := a) h hT (by omega) (by omega) hz2
      by_cases q2 : diffN (Tz_state v) (Lz_length (Sz_log (Tz_state v))) a = 0
      · rw [if_pos ⟨by omega, q2⟩] at k
        have q3 : diffN z2 (Lz_length (Sz_log (Tz_state (Tz_set_trial v t)))) a = 0 := ed.trans q2
        rw [if_pos q3]
        exact ⟨fun y => absurd y (by decide), fun _ => k⟩
      · rw [if_neg (fun y => q2 y.2)] at k
        have q3 : ¬ diffN z2 (Lz_length (Sz_log (Tz_state (Tz_set_trial v t)))) a = 0 := fun y => q2 (ed.symm.trans y)
        rw [if_neg q3]
        exact ⟨fun _ => k, fun y => absurd rfl y⟩
/-- what a simulation may answer -/
def simV (σ : SZ) (s : Int) (m : Nat) (r : Int) : Prop := ∃ z τ, SEq z σ ∧ simR m s z τ ∧ r = resS σ τ
theorem simV_det {σ σ2 : SZ} {m : Nat} {r r2 : Int} (h : SOK σ2 T) (hT : T + 99 * m ≤ 5000000) (e : SEq σ σ2) (e1 : simV σ s m r) (e2 : simV σ2 s m r2) : r = r2 := by
  obtain ⟨z, τ, p1, p2, p3⟩ := e1
  obtain ⟨z2, τ2, s1, s2, s3⟩ := e2
  have g := SEq.sim m s (h.eq s1) hT (p1.trans (e.trans s1.symm)) p2 s2
  rw [p3, s3]
  show 10000 * (Lz_dropped (Sz_log τ) - Lz_dropped (Sz_log σ)) + 100 * zminZ (Sz_missed τ - Sz_missed σ) 99 + readersN τ = 10000 * (Lz_dropped (Sz_log τ2) - Lz_dropped (Sz_log σ2)) + 100 * zminZ (Sz_missed τ2 - Sz_missed σ2) 99 + readersN τ2
  rw [g.dropped, e.dropped, g.missed, e.missed, g.rdN]
theorem q_LAW_simulate {Q : Int → TZ → Prop} (h : SOK (Tz_state v) T) (hT : T + 6000 ≤ 5000000) (k1 : ¬ (1 ≤ a ∧ a ≤ 60) → Q AR v) (k : 1 ≤ a → a ≤ 60 → ∀ r t, simV (Tz_state v) s a.toNat r → Q r (Tz_set_trial v t)) : Z_LAW_simulate s a v Q := by
  unfold Z_LAW_simulate Z_T_simulate
  refine q_isIn (fun a0 a1 => ⟨fun _ => q_copyToTry h (fun z hz => ?_), fun c => absurd c (by decide)⟩) (fun c => ⟨fun c2 => absurd rfl c2, fun _ => ⟨fun _ => k1 c, fun q => absurd rfl q⟩⟩)
  have hz1 := h.eq hz
  have zm := hz.missed
  exact ⟨_, q_simLoop (s := s) h a1 a.toNat 0 s z T (by omega) (by decide) hz1 (by omega) (by omega) (fun τ p => k a0 a1 _ τ ⟨z, τ, hz, p, rfl⟩)⟩
theorem q_LAW_script {Q : Int → TZ → Prop} (hs : -9223372036854775808 ≤ s ∧ s < 9223372036854775808) (h : SOK (Tz_state v) T) (hT : T + 300 ≤ 5000000) (k1 : ¬ ((1 ≤ a ∧ a ≤ 3) ∧ (0 ≤ s ∧ s < p6 a.toNat)) → Q AR v)
    (k : (1 ≤ a ∧ a ≤ 3) → (0 ≤ s ∧ s < p6 a.toNat) → ∀ r t z, SEq z (Tz_state v) → rsR s a a.toNat 0 z r → Q r (Tz_set_trial v t)) : Z_LAW_script a s v Q := by
  have bad : ∀ c : ¬ ((1 ≤ a ∧ a ≤ 3) ∧ (0 ≤ s ∧ s < p6 a.toNat)), (("java/lang/IllegalArgumentException" = "java/lang/IllegalArgumentException" → Q (-9000000000000000002) v) ∧ ((¬ "java/lang/IllegalArgumentException" = "java/lang/IllegalArgumentException") → False)) := fun c => ⟨fun _ => k1 c, fun q => absurd rfl q⟩
  unfold Z_LAW_script Z_T_runScript
  refine q_isIn (fun a0 a1 => ⟨fun _ => ⟨fun c => bad (fun z => absurd (lg_cmpZ_le.2.mp c) (by omega)), fun c => ?_⟩, fun c => absurd c (by decide)⟩) (fun c => ⟨fun c2 => absurd rfl c2, fun _ => bad (fun z => c z.1)⟩)
  have s0 : 0 ≤ s := by
    rcases Int.lt_or_le s 0 with z | z
    · exact absurd (lg_cmpZ_le.2.mpr z) c
    · exact z
  have pc := p6_cmp s0 a.toNat
  refine q_withoutGroups s0 hs.2 (by omega) ⟨fun d => ?_, fun d => bad (fun z => d (lg_cmpZ_le.1.mpr (pc.1.mpr z.2.2)))⟩
  have s1 : s < p6 a.toNat := pc.1.mp (lg_cmpZ_le.1.mp d)
  exact q_copyToTry h (fun z hz => ⟨_, q_rsLoop (v := v) s0 hs.2 a1 a.toNat 0 z T (by omega) (by decide) (h.eq hz) (by omega) (fun res τ pr => k ⟨a0, a1⟩ ⟨s0, s1⟩ res τ z hz pr)⟩)
/-- the script of the law: nine ticks, then a first row -/
theorem rs_law {x y : SZ} {i r r2 : Int} (hi : 0 ≤ i ∧ i < 100) (h : SOK y T) (hT : T + 300 ≤ 5000000) (e : SEq x y) (e1 : rsR (500009800000 + i) 2 2 0 x r) (e2 : rsR (500009800000 + i) 2 2 0 y r2) : r = r2 := by
  obtain ⟨u, x1, p1, p2⟩ := e1
  obtain ⟨w, y1, s1, s2⟩ := e2
  have g1 : grp (500009800000 + i) (2 - 1 - 0 : Int).toNat = 500009 := by
    show (500009800000 + i) / 1000000 % 1000000 = 500009
    omega
  rw [g1] at p1 s1
  have a1 := cmdR.get p1 5 (by decide)
  have b1 := cmdR.get s1 5 (by decide)
  have a2 : attR x 6 9 0 0 u x1 := by
    rcases a1 with ⟨-, q⟩ | ⟨q, -⟩
    · exact q
    · exact absurd (by decide) q
  have b2 : attR y 6 9 0 0 w y1 := by
    rcases b1 with ⟨-, q⟩ | ⟨q, -⟩
    · exact q
    · exact absurd (by decide) q
  have g := SEq.att h (by omega) e a2 b2 (by decide) trivial
  have hy := (attR.ok h (by omega) b2 trivial).1
  rcases p2 with ⟨n1, p2⟩ | ⟨n1, p2⟩
  · rcases s2 with ⟨n2, s2⟩ | ⟨n2, s2⟩
    · obtain ⟨u2, x2, p3, p4⟩ := p2
      obtain ⟨w2, y2, s3, s4⟩ := s2
      have g2 : grp (500009800000 + i) (2 - 1 - (0 + 1) : Int).toNat = 800000 + i := by
        show (500009800000 + i) / 1 % 1000000 = 800000 + i
        omega
      rw [g2] at p3 s3
      obtain ⟨c1, c2⟩ := cmdR.get p3 8 (by omega)
      obtain ⟨d1, d2⟩ := cmdR.get s3 8 (by omega)
      have ef : u2 = w2 := by rw [c2, d2, g.2.1.1.1]
      rcases p4 with ⟨n3, p4⟩ | ⟨n3, p4⟩
      · rcases s4 with ⟨n4, s4⟩ | ⟨n4, s4⟩
        · rw [show r = -1 from p4, show r2 = -1 from s4]
        · omega
      · rcases s4 with ⟨n4, s4⟩ | ⟨n4, s4⟩
        · omega
        · omega
    · omega
  · rcases s2 with ⟨n2, s2⟩ | ⟨n2, s2⟩
    · omega
    · omega
end QF2
