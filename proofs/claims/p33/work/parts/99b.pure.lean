/-! ### what would be is so when it is done -/
def Stk (u : HZ) : Int → List SZ → Prop
  | _, [] => True
  | j, s :: l => SEq (topH u j) s ∧ Stk u (j + 1) l
/-- an object in the midst of the law's trials: what was remembered last lies on top, all else is as it was -/
def Fw (v0 v : TZ) (T : Int) (l : List SZ) : Prop := TOK v T ∧ Tz_text v = Tz_text v0 ∧ (Tz_filled v 0 = Tz_filled v0 0 ∧ Tz_slots v 0 = Tz_slots v0 0) ∧ (Tz_filled v 1 = 1 ∧ SEq (Tz_slots v 1) (Tz_state v0)) ∧ ((l.length : Int) ≤ Hz_count (Tz_history v) ∧ Stk (Tz_history v) 0 l)
theorem ckn {r : Int} {A B : Prop} (e : 0 ≤ r) (b : B) : (lg_cmpZ r 0 < 0 → A) ∧ (¬ lg_cmpZ r 0 < 0 → B) := ⟨fun n => absurd (lg_cmpZ_le.2.mp n) (by omega), fun _ => b⟩
theorem ckg {x y : Int} {A B : Prop} (e : y < x) (b : B) : (lg_cmpZ x y ≤ 0 → A) ∧ (¬ lg_cmpZ x y ≤ 0 → B) := ⟨fun n => absurd (lg_cmpZ_le.1.mp n) (by omega), fun _ => b⟩
section FO
variable {v0 v v' : TZ} {T r : Int} {l : List SZ} {s : SZ}
theorem Stk.push {u : HZ} {z : SZ} (h : 0 ≤ Hz_next u ∧ Hz_next u < 14) : ∀ (l : List SZ) (j : Int), 0 ≤ j → j + l.length ≤ 13 → Stk u j l → Stk (remH u z) (j + 1) l := by
  intro l
  induction l with
  | nil => intro j _ _ _; trivial
  | cons s l ih =>
    intro j h0 h1 g
    have h1 : j + (l.length + 1 : Nat) ≤ 13 := h1
    refine ⟨?_, ih (j + 1) (by omega) (by omega) g.2⟩
    rw [top_remS h h0 (by omega)]
    exact g.1
theorem Stk.pop {u : HZ} (h : 0 ≤ Hz_next u ∧ Hz_next u < 14) : ∀ (l : List SZ) (j : Int), 0 ≤ j → Stk u (j + 1) l → Stk (bkH u) j l := by
  intro l
  induction l with
  | nil => intro j _ _; trivial
  | cons s l ih =>
    intro j h0 g
    refine ⟨?_, ih (j + 1) (by omega) g.2⟩
    rw [top_bk h h0]
    exact g.1
theorem Fw.act {c : Nat} {a b d : Int} (h : Fw v0 v T l) (hl : l.length ≤ 12) (hT : T + 99 ≤ 5000000) (o : fltA (Tz_state v) c a b d = 0) (e : actR c a b d v r v') (hv : valA c b d) : resA (Tz_state v) c a b d r (Tz_state v') ∧ Fw v0 v' (T + 99) (Tz_state v :: l) := by
  have ht := h.1.act hT hv e
  obtain ⟨h1, h2, h3, h4, h5, h6⟩ := h
  rcases e with ⟨-, z, σ', ez, er, rfl⟩ | ⟨n, -⟩
  · refine ⟨er, ht, h2, h3, h4, ?_, ?_⟩
    · have hc := rem_count (u := Tz_history v) (z := z) h1.2.1.1.2
      show ((l.length + 1 : Nat) : Int) ≤ Hz_count (remH (Tz_history v) z)
      have := h1.2.1.1.2
      omega
    · refine ⟨?_, Stk.push h1.2.1.1.1 l 0 (by decide) (by omega) h6⟩
      show SEq (topH (remH (Tz_history v) z) 0) (Tz_state v)
      rw [top_rem0 h1.2.1.1.1]
      exact ez
  · exact absurd o n
theorem Fw.und (h : Fw v0 v T (s :: l)) (e : undR v r v') : 0 ≤ r ∧ SEq (Tz_state v') s ∧ Fw v0 v' T l := by
  have ht := h.1.und e
  obtain ⟨h1, h2, h3, h4, h5, h6⟩ := h
  have h5 : ((l.length + 1 : Nat) : Int) ≤ Hz_count (Tz_history v) := h5
  rcases e with ⟨n, -⟩ | ⟨n, z, ez, er, rfl⟩
  · omega
  · refine ⟨by omega, ez.trans h6.1, ht, h2, h3, h4, ?_, Stk.pop h1.2.1.1.1 l 0 (by decide) h6.2⟩
    show (l.length : Int) ≤ Hz_count (Tz_history v) - 1
    omega
theorem Fw.sok (h : Fw v0 v T l) : SOK (Tz_state v) T := h.1.1.1
theorem Fw.tri {t : SZ} (h : Fw v0 v T l) : Fw v0 (Tz_set_trial v t) T l := h
theorem Fw.mono {T' : Int} (h : Fw v0 v T l) (e : T ≤ T') (hT : T' ≤ 5000000) : Fw v0 v T' l := ⟨h.1.mono e hT, h.2⟩
/-- ticks, then taken back -/
theorem f_ticks {n : Int} {Q : Int → TZ → Prop} (h : Fw v0 v T l) (hl : l.length ≤ 12) (hT : T + 99 ≤ 5000000) (hn : 1 ≤ n ∧ n ≤ 99) (k : ∀ v', Tz_state v' = ticksS n.toNat (Tz_state v) → Fw v0 v' (T + 99) (Tz_state v :: l) → Q (Lz_dropped (Sz_log (ticksS n.toNat (Tz_state v))) - Lz_dropped (Sz_log (Tz_state v))) v') : Z_LAW_ticks n v Q := by
  have o : fltA (Tz_state v) 6 n 0 0 = 0 := if_pos hn
  refine q_LAW_ticks h.1 hT (fun r v' e => ?_)
  obtain ⟨⟨r1, r2⟩, g⟩ := h.act hl hT o e trivial
  rw [r1]
  exact k v' r2 g
theorem f_set {what x : Int} {Q : Int → TZ → Prop} (h : Fw v0 v T l) (hl : l.length ≤ 12) (hT : T + 99 ≤ 5000000) (hs : setP what x) (k : ∀ v', Tz_state v' = stS (Tz_state v) what x → Fw v0 v' (T + 99) (Tz_state v :: l) → Q (Sz_settings (Tz_state v) what.toNat) v') : Z_LAW_set what x v Q := by
  have o : fltA (Tz_state v) 5 what x 0 = 0 := if_pos hs
  refine q_LAW_set h.1 hT (fun r v' e => ?_)
  obtain ⟨⟨r1, r2⟩, g⟩ := h.act hl hT o e trivial
  rw [r1]
  exact k v' r2 g
theorem f_free {a : Int} {Q : Int → TZ → Prop} (h : Fw v0 v T l) (hl : l.length ≤ 12) (hT : T + 99 ≤ 5000000) (i : isR (Tz_state v) a) (k : ∀ v', Tz_state v' = hdS (Tz_state v) a.toNat 0 → Fw v0 v' (T + 99) (Tz_state v :: l) → Q (Rz_held (Sz_readers (Tz_state v) a.toNat)) v') : Z_LAW_hold a 0 v Q := by
  have o : fltA (Tz_state v) 4 a 0 0 = 0 := by
    show (if isR (Tz_state v) a then (if (0 : Int) = 1 ∧ Rz_place (Sz_readers (Tz_state v) a.toNat) < Lz_first (Sz_log (Tz_state v)) then (3 : Int) else 0) else 1) = 0
    rw [if_pos i, if_neg (fun q => absurd q.1 (by decide))]
  refine q_LAW_hold (Or.inl rfl) h.1 hT (fun r v' e => ?_)
  obtain ⟨⟨r1, r2⟩, g⟩ := h.act hl hT o e (Or.inl rfl)
  rw [r1]
  exact k v' r2 g
theorem f_und {Q : Int → TZ → Prop} (h : Fw v0 v T (s :: l)) (k : ∀ r v', 0 ≤ r → SEq (Tz_state v') s → Fw v0 v' T l → Q r v') : Z_LAW_undo v Q := q_LAW_undo h.1 (fun r v' e => by
  obtain ⟨g1, g2, g3⟩ := h.und e
  exact k r v' g1 g2 g3)
/-- how the trials end -/
def FinR (v0 v : TZ) (T : Int) : Prop := Fw v0 v T [] ∧ SEq (Tz_state v) (Tz_state v0) ∧ Hz_count (Tz_history v) = 0 ∧ Hz_next (Tz_history v) = 0
variable {Q : Int → TZ → Prop} {x : Int}
theorem fo_571 (h0 : SOK (Tz_state v0) T) (h : Fw v0 v T []) (e : SEq (Tz_state v) (Tz_state v0)) (k : ∀ v', FinR v0 v' T → Q 1 v') : ZJ_LAW_follows_571 x (nowS (Tz_state v0)) 1 v Q := by
  refine ⟨fun c => absurd c (by decide), fun _ => q_LAW_now h.sok (ck (nowS_congr h0 e) ?_)⟩
  refine q_LAW_restore h.1 (fun r v' er => ?_)
  have ht := h.1.rst er
  obtain ⟨h1, h2, h3, h4, -⟩ := h
  rcases er with ⟨n, -⟩ | ⟨-, n, -⟩ | ⟨-, n, z, ez, er, rfl⟩
  · exact absurd (by decide) n
  · exact absurd (n.symm.trans h4.1) (by decide)
  · have es : SEq z (Tz_state v0) := ez.trans h4.2
    have tz := (h0.eq es).2.1
    refine ckn (by omega) (q_LAW_now (v := Tz_set_history (Tz_set_state v z) (fgH (Tz_history v))) (h0.eq es) (ck (nowS_congr h0 es) ?_))
    refine q_LAW_undo ht (fun r2 v2 e2 => ?_)
    rcases e2 with ⟨-, er2, rfl⟩ | ⟨n2, -⟩
    · refine ck er2 (k _ ⟨⟨ht, h2, h3, h4, ⟨Int.le_refl 0, trivial⟩⟩, es, rfl, rfl⟩)
    · exact absurd (show (0 : Int) < 0 from n2) (by decide)
theorem updz2 {f : Nat → Int} {k : Nat} {a b : Int} : updz (updz f k a) k b = updz f k b := by
  funext j
  by_cases q : j = k
  · rw [q, updz_eq, updz_eq]
  · rw [updz_ne q, updz_ne q, updz_ne q]
theorem fo_437 (hx : 0 ≤ x) (h0 : SOK (Tz_state v0) T) (h : Fw v0 v T []) (e : SEq (Tz_state v) (Tz_state v0)) (hT : T + 1000 ≤ 5000000) (k : ∀ v', FinR v0 v' (T + 396) → Q 1 v') : ZJ_LAW_follows_437 x x (nowS (Tz_state v0)) 1 v Q := by
  have hS := h.sok
  have b99 := tmB hx (n := 99) (by decide)
  have hl := hS.1.len
  have hset := hS.2.2.1
  have fin : ∀ v1, Fw v0 v1 (T + 396) [] → SEq (Tz_state v1) (Tz_state v0) → ZJ_LAW_follows_571 x (nowS (Tz_state v0)) 1 v1 Q := fun v1 h1 e1 => fo_571 (h0.mono (by omega) (by omega)) h1 e1 k
  obtain ⟨n, hn⟩ : ∃ n, n = 1 + Int.tmod x 99 := ⟨_, rfl⟩
  have n1 : 1 ≤ n ∧ n ≤ 99 := by omega
  unfold ZJ_LAW_follows_437
  rw [← hn]
  refine ⟨by omega, q_LAW_leastRoom hS (by omega) (fun c => absurd (by omega) c) (fun _ _ t => ?_)⟩
  have h := h.tri (t := t)
  have e : SEq (Tz_state (Tz_set_trial v t)) (Tz_state v0) := e
  obtain ⟨w, hw⟩ : ∃ w, w = Tz_set_trial v t := ⟨_, rfl⟩
  have ew : Tz_state w = Tz_state v := by rw [hw]
  rw [← hw] at h e ⊢
  rw [← ew] at hS hl hset ⊢
  have e3 : seW (Tz_state w) 3 = Sz_settings (Tz_state w) 3 := if_pos ⟨by decide, by decide⟩
  refine q_LAW_setting ?_
  rw [e3]
  have gf : Fw v0 w (T + 396) [] := h.mono (by omega) (by omega)
  have hRc : ∀ R : Int, (if diffN (Tz_state w) 0 n = 0 then 0 else if Lz_length (Sz_log (Tz_state w)) ≤ 4000 ∧ diffN (Tz_state w) (Lz_length (Sz_log (Tz_state w))) n = 0 then Lz_length (Sz_log (Tz_state w)) else -1 : Int) = R → R = -1 ∨ (0 ≤ R ∧ R ≤ 4000 ∧ diffN (Tz_state w) R n = 0 ∧ (R = 0 ∨ R = Lz_length (Sz_log (Tz_state w)) ∧ ¬ diffN (Tz_state w) 0 n = 0)) := by
    intro R hR
    by_cases d0 : diffN (Tz_state w) 0 n = 0
    · rw [if_pos d0] at hR
      subst hR
      exact Or.inr ⟨by decide, by decide, d0, Or.inl rfl⟩
    · rw [if_neg d0] at hR
      by_cases d1 : Lz_length (Sz_log (Tz_state w)) ≤ 4000 ∧ diffN (Tz_state w) (Lz_length (Sz_log (Tz_state w))) n = 0
      · rw [if_pos d1] at hR
        subst hR
        exact Or.inr ⟨hl.1, d1.1, d1.2, Or.inr ⟨rfl, d0⟩⟩
      · rw [if_neg d1] at hR
        exact Or.inl hR.symm
  generalize hR0 : (if diffN (Tz_state w) 0 n = 0 then 0 else if Lz_length (Sz_log (Tz_state w)) ≤ 4000 ∧ diffN (Tz_state w) (Lz_length (Sz_log (Tz_state w))) n = 0 then Lz_length (Sz_log (Tz_state w)) else -1 : Int) = R
  rcases hRc R hR0 with hR1 | ⟨r0, r1, hd, hR⟩
  · rw [hR1, show wi (-1) = -1 by decide]
    exact ⟨fun _ => fin w gf e, fun c => absurd rfl c⟩
  have ewi : wi R = R := wi_id (by omega)
  rw [ewi]
  have sR : setP 3 R := ⟨by decide, by show (0 : Int) ≤ R ∧ R ≤ 4000; omega⟩
  refine ⟨fun c => absurd c (by omega), fun _ => ⟨fun c => absurd c (by decide), fun _ => ?_⟩⟩
  refine f_set h (Nat.le_of_ble_eq_true rfl) (by omega) sR (fun v1 s1 f1 => ck rfl ?_)
  refine f_ticks f1 (Nat.le_of_ble_eq_true rfl) (by omega) n1 (fun v2 s2 f2 => ck ?_ ?_)
  · rw [s1]
    exact hd
  refine f_und f2 (fun r3 v3 p3 s3 f3 => ckn p3 ?_)
  have f4 := f3
  have last : ∀ v9, Fw v0 v9 (T + 396) [Tz_state w] → ZJ_LAW_follows_555 x (nowS (Tz_state v0)) v9 Q := fun v9 f9 => f_und f9 (fun r9 v10 p9 s9 f10 => ckn p9 (fin v10 f10 (s9.trans e)))
  refine ⟨fun _ => last v3 (f3.mono (by omega) (by omega)), fun c => ⟨by omega, ?_⟩⟩
  have hRl : R = Lz_length (Sz_log (Tz_state w)) ∧ ¬ diffN (Tz_state w) 0 n = 0 := by
    rcases hR with q | q
    · exact absurd q c
    · exact q
  rw [s1] at s3
  have sR1 : setP 3 (R - 1) := ⟨by decide, by show (0 : Int) ≤ R - 1 ∧ R - 1 ≤ 4000; omega⟩
  refine f_set f3 (Nat.le_of_ble_eq_true rfl) (by omega) sR1 (fun v4 s4 f4 => ck ?_ ?_)
  · show Sz_settings (Tz_state v3) 3 = R
    rw [s3.2.2.1 3 (by decide)]
    show updz (Sz_settings (Tz_state w)) (Int.toNat 3) R 3 = R
    exact updz_eq
  refine f_ticks f4 (Nat.le_of_ble_eq_true rfl) (by omega) n1 (fun v5 s5 f5 => ckg ?_ ?_)
  · rw [s4]
    have es : SEq (stS (Tz_state v3) 3 (R - 1)) (stS (Tz_state w) 3 (R - 1)) := by
      have g := s3.st (what := 3) (v := R - 1)
      have e2 : stS (stS (Tz_state w) 3 R) 3 (R - 1) = stS (Tz_state w) 3 (R - 1) := by
        show Sz_set_settings (Tz_state w) (updz (updz (Sz_settings (Tz_state w)) (Int.toNat 3) R) (Int.toNat 3) (R - 1)) = _
        rw [updz2]
      rw [e2] at g
      exact g
    have hw2 := hS.st (what := 3) (v := R - 1) (by decide) (by decide) sR1.2
    have et := es.ticks n.toNat hw2 (by omega)
    have d0 : Lz_dropped (Sz_log (Tz_state w)) < Lz_dropped (Sz_log (ticksS n.toNat (stS (Tz_state w) 3 0))) := by
      have m := ticks_dropped n.toNat (σ := stS (Tz_state w) 3 0)
      have m2 : Lz_dropped (Sz_log (stS (Tz_state w) 3 0)) = Lz_dropped (Sz_log (Tz_state w)) := rfl
      have m3 : ¬ Lz_dropped (Sz_log (ticksS n.toNat (stS (Tz_state w) 3 0))) - Lz_dropped (Sz_log (Tz_state w)) = 0 := hRl.2
      omega
    have rs := room_same n.toNat (x := stS (Tz_state w) 3 0) (s := updz (Sz_settings (Tz_state w)) (Int.toNat 3) (R - 1)) rfl rfl rfl (by show (0 : Int) < Lz_length (Sz_log (Tz_state w)); omega) (by show R - 1 < Lz_length (Sz_log (Tz_state w)); omega) d0
    have rs : Lz_dropped (Sz_log (Tz_state w)) < Lz_dropped (Sz_log (ticksS n.toNat (stS (Tz_state w) 3 (R - 1)))) := rs
    have a1 := et.dropped
    have a2 := es.dropped
    have a3 : Lz_dropped (Sz_log (stS (Tz_state w) 3 (R - 1))) = Lz_dropped (Sz_log (Tz_state w)) := rfl
    rw [a1, a2, a3]
    omega
  refine f_und f5 (fun r6 v6 p6 s6 f6 => ckn p6 ?_)
  exact f_und f6 (fun r7 v7 p7 s7 f7 => ckn p7 (last v7 (f7.mono (by omega) (by omega))))
theorem fo_366 {a y13 y11 : Int} (hx : 0 ≤ x) (h0 : SOK (Tz_state v0) T) (h : Fw v0 v T []) (e : SEq (Tz_state v) (Tz_state v0)) (hT : T + 1500 ≤ 5000000) (i : isR (Tz_state v) a) (h13 : y13 = Rz_held (Sz_readers (Tz_state v0) a.toNat)) (h11 : y11 = Lz_dropped (Sz_log (tickS (hdS (Tz_state v0) a.toNat 0))) - Lz_dropped (Sz_log (Tz_state v0))) (k : ∀ v', FinR v0 v' (T + 594) → Q 1 v') : ZJ_LAW_follows_366 x x (nowS (Tz_state v0)) 1 a y11 y13 v Q := by
  have hS := h.sok
  have i0 := (isR_congr e).mp i
  have g := e.2.1 a.toNat (by omega)
  have gh := (h0.2.2.2 a.toNat (by omega)).2.2.1
  refine ⟨fun c => absurd c (by decide), fun _ => f_free h (Nat.le_of_ble_eq_true rfl) (by omega) i (fun v1 s1 f1 => ?_)⟩
  have go : ∀ u0 : Int, u0 = y13 → ZJ_LAW_follows_388 x x (nowS (Tz_state v0)) y11 u0 (Rz_held (Sz_readers (Tz_state v) a.toNat)) v1 Q := by
    intro u0 hu
    refine ck (by rw [g.held, hu, h13]) ?_
    refine f_ticks f1 (Nat.le_of_ble_eq_true rfl) (by omega) (by decide) (fun v2 s2 f2 => ck ?_ ?_)
    · rw [h11, s1]
      show Lz_dropped (Sz_log (tickS (hdS (Tz_state v) a.toNat 0))) - Lz_dropped (Sz_log (Tz_state v)) = _
      have eh := e.hd (a := a.toNat) (b := 0) (by omega)
      have ho := h0.hd (a := a.toNat) (b := 0) (by omega) i0.2 (Or.inl rfl) (fun q => absurd q (by decide))
      rw [(eh.tick ho (by omega)).dropped, e.dropped]
    refine f_und f2 (fun r3 v3 p3 s3 f3 => ckn p3 ?_)
    refine f_und f3 (fun r4 v4 p4 s4 f4 => ckn p4 ?_)
    have e4 := s4.trans e
    refine q_LAW_now f4.sok (ck (nowS_congr h0 e4) ?_)
    exact fo_437 hx (h0.mono (by omega) (by omega)) f4 e4 (by omega) (fun v' hv => k v' (by rw [show T + 594 = T + 99 + 99 + 396 by omega]; exact hv))
  refine ⟨fun c => go 0 c.symm, fun c => go 1 ?_⟩
  rcases gh with q | q
  · exact absurd (h13.trans q) c
  · rw [h13, q]
theorem fo_196 (hx : 0 ≤ x) (h0 : SOK (Tz_state v0) T) (h : Fw v0 v T []) (e : SEq (Tz_state v) (Tz_state v0)) (hT : T + 2000 ≤ 5000000) (k : ∀ v', FinR v0 v' (T + 693) → Q 1 v') : ZJ_LAW_follows_196 x x (nowS (Tz_state v0)) 1 v Q := by
  have hS := h.sok
  have b8 := tmB hx (n := 8) (by decide)
  obtain ⟨a, ha⟩ : ∃ a, a = Int.tmod x 8 := ⟨_, rfl⟩
  unfold ZJ_LAW_follows_196
  rw [← ha]
  refine q_LAW_readerOf hS ?_
  by_cases i : isR (Tz_state v) a
  · refine ⟨fun c => absurd (lg0.mp c) (rd0_ne hS i), fun _ => ⟨fun c => absurd c (by decide), fun _ => ?_⟩⟩
    refine q_LAW_lostIn hS (by omega) (fun c => absurd i c) (fun _ t1 => ?_)
    refine q_LAW_ifFree (v := Tz_set_trial v t1) hS (by omega) (fun c => absurd i c) (fun _ t2 => ?_)
    obtain ⟨w, hw⟩ : ∃ w, w = Tz_set_trial (Tz_set_trial v t1) t2 := ⟨_, rfl⟩
    have h2 : Fw v0 w T [] := by rw [hw]; exact h
    have ew : Tz_state w = Tz_state v := by rw [hw]
    have e2 : SEq (Tz_state w) (Tz_state v0) := by rw [ew]; exact e
    rw [← hw]
    have e5 : Tz_state (Tz_set_trial v t1) = Tz_state v := rfl
    rw [e5]
    refine q_LAW_readerOf h2.sok ?_
    rw [← ew] at i ⊢
    have hSw := h2.sok
    have r1 : rdW (Tz_state w) a 1 = Rz_held (Sz_readers (Tz_state w) a.toNat) := rd_in i (b := 1) ⟨by decide, by decide⟩
    rw [r1]
    have g := e2.2.1 a.toNat (by omega)
    have gh := (hSw.2.2.2 a.toNat (by omega)).2.2.1
    have i0 := (isR_congr e2).mp i
    have h11 : Lz_dropped (Sz_log (tickS (hdS (Tz_state w) a.toNat 0))) - Lz_dropped (Sz_log (Tz_state w)) = Lz_dropped (Sz_log (tickS (hdS (Tz_state v0) a.toNat 0))) - Lz_dropped (Sz_log (Tz_state v0)) := by
      have eh := e2.hd (a := a.toNat) (b := 0) (by omega)
      have ho := h0.hd (a := a.toNat) (b := 0) (by omega) i0.2 (Or.inl rfl) (fun q => absurd q (by decide))
      rw [(eh.tick ho (by omega)).dropped, e2.dropped]
    have h0' := h0.mono (T' := T + 99) (by omega) (by omega)
    have go366 : ∀ w1, Fw v0 w1 (T + 99) [] → SEq (Tz_state w1) (Tz_state v0) → ∀ y13 : Int, y13 = Rz_held (Sz_readers (Tz_state v0) a.toNat) → ZJ_LAW_follows_366 x x (nowS (Tz_state v0)) 1 a (Lz_dropped (Sz_log (tickS (hdS (Tz_state w) a.toNat 0))) - Lz_dropped (Sz_log (Tz_state w))) y13 w1 Q := by
      intro w1 f1 e1 y13 h13
      exact fo_366 hx h0' f1 e1 (by omega) ((isR_congr e1).mpr i0) h13 h11 (fun v' hv => k v' (by rw [show T + 693 = T + 99 + 594 by omega]; exact hv))
    have e9 : abW (Tz_state w) 9 = Sz_lostByLength (Tz_state w) := if_pos ⟨by decide, by decide⟩
    have e10 : abW (Tz_state w) 10 = Sz_lostBySleep (Tz_state w) := if_pos ⟨by decide, by decide⟩
    have fw9 := h2.mono (T' := T + 99) (by omega) (by omega)
    refine ⟨fun c => ?_, fun c => ?_⟩
    · have hn : Rz_held (Sz_readers (Tz_state w) a.toNat) = 0 := by
        rcases gh with q | q
        · exact q
        · exact absurd (lg0.mpr q) c
      refine q_LAW_about hSw (q_LAW_about hSw ⟨fun _ => go366 w fw9 e2 0 (hn.symm.trans g.held), fun d => absurd rfl d⟩)
    · have hh : Rz_held (Sz_readers (Tz_state w) a.toNat) = 1 := lg0.mp c
      have h13 : (1 : Int) = Rz_held (Sz_readers (Tz_state v0) a.toNat) := hh.symm.trans g.held
      rw [if_pos hh]
      generalize hL : outL a 300 1 (Tz_state w) = y9
      refine q_LAW_about hSw (q_LAW_about hSw ⟨fun d => absurd d (by decide), fun _ => ⟨fun _ => go366 w fw9 e2 1 h13, fun c2 => ⟨fun _ => go366 w fw9 e2 1 h13, fun c3 => ?_⟩⟩⟩)
      have y1 : y9 ≠ -1 := fun z => c2 (lg0.mpr z)
      have y2 : y9 < 100 := by
        rcases Int.lt_or_le y9 100 with z | z
        · exact z
        · exact absurd (lgn.mpr z) c3
      obtain ⟨m, m1, m2, m3, m4, m5⟩ := outL_some 300 1 y9 hL y1 hh
      rw [wi_ok (by omega)]
      have em : y9.toNat = m + 1 := by omega
      refine f_ticks h2 (Nat.le_of_ble_eq_true rfl) (by omega) (by omega) (fun w1 s1 f1 => ckn ?_ ?_)
      · have := ticks_dropped y9.toNat (σ := Tz_state w)
        omega
      rw [em] at s1
      have i1 : isR (Tz_state w1) a := ⟨i.1, by rw [s1]; exact (ticks_present (m + 1)).trans i.2⟩
      have q1 : rdW (Tz_state w1) a 1 = 0 := by
        have z : rdW (Tz_state w1) a 1 = Rz_held (Sz_readers (Tz_state w1) a.toNat) := rd_in i1 (b := 1) ⟨by decide, by decide⟩
        rw [z, s1]
        exact m3
      have q8 : 0 < rdW (Tz_state w1) a 8 := by
        have z : rdW (Tz_state w1) a 8 = Rz_lostBy (Sz_readers (Tz_state w1) a.toNat) := rd_in i1 (b := 8) ⟨by decide, by decide⟩
        rw [z, s1]
        exact m4
      have hS1 := f1.sok
      refine q_LAW_readerOf hS1 (ck q1 (q_LAW_readerOf hS1 (ckg q8 (q_LAW_about hS1 (q_LAW_about hS1 (ckg ?_ ?_))))))
      · have f9 : abW (Tz_state w1) 9 = Sz_lostByLength (Tz_state w1) := if_pos ⟨by decide, by decide⟩
        have f10 : abW (Tz_state w1) 10 = Sz_lostBySleep (Tz_state w1) := if_pos ⟨by decide, by decide⟩
        have b0 := hSw.2.1
        have b1 := hS1.2.1
        rw [e9, e10, f9, f10, wl_id (by omega), wl_id (by omega), s1]
        exact m5
      refine f_und f1 (fun r2 w2 p2 s2 f2 => ckn p2 ?_)
      exact go366 w2 f2 (s2.trans e2) 1 h13
  · exact ⟨fun _ => fo_437 hx h0 h e (by omega) (fun v' hv => k v' ⟨hv.1.mono (by omega) (by omega), hv.2⟩), fun c => absurd (lg0.mpr (rd_ix i)) c⟩
theorem fo_54 (hx : 0 ≤ x) (h0 : SOK (Tz_state v0) T) (h : Fw v0 v T []) (e : SEq (Tz_state v) (Tz_state v0)) (hT : T + 3000 ≤ 5000000) (k : ∀ v', FinR v0 v' (T + 891) → Q 1 v') : ZJ_LAW_follows_54 x x (nowS (Tz_state v0)) 1 v Q := by
  have hS := h.sok
  have h0' := h0.mono (T' := T + 198) (by omega) (by omega)
  have go : ∀ w, Fw v0 w (T + 198) [] → SEq (Tz_state w) (Tz_state v0) → ZJ_LAW_follows_196 x x (nowS (Tz_state v0)) 1 w Q := fun w f1 e1 => fo_196 hx h0' f1 e1 (by omega) (fun v' hv => k v' (by rw [show T + 891 = T + 198 + 693 by omega]; exact hv))
  unfold ZJ_LAW_follows_54
  refine q_T_droppedIn hS (by omega) (fun t => ?_)
  obtain ⟨w, hw⟩ : ∃ w, w = Tz_set_trial v t := ⟨_, rfl⟩
  have h2 : Fw v0 w T [] := by rw [hw]; exact h
  have ew : Tz_state w = Tz_state v := by rw [hw]
  have e2 : SEq (Tz_state w) (Tz_state v0) := by rw [ew]; exact e
  rw [← hw]
  have hSw := h2.sok
  rw [← ew]
  generalize hD : outD 300 1 (Tz_state w) = m
  have go0 := go w (h2.mono (by omega) (by omega)) e2
  have j158 : (m = -1 ∨ 100 ≤ m) → ZJ_LAW_follows_158 x x (nowS (Tz_state v0)) 1 m w Q := by
    intro hm
    refine ⟨fun _ => go0, fun c => ⟨fun d => absurd d (by decide), fun _ => ?_⟩⟩
    have dn := outD_none 300 1 (by decide) (hD.trans c) 99 (by decide)
    refine f_ticks h2 (Nat.le_of_ble_eq_true rfl) (by omega) (by decide) (fun w1 s1 f1 => ck ?_ ?_)
    · rw [show (99 : Int).toNat = 99 from rfl, dn]
      exact Int.sub_self _
    exact f_und f1 (fun r2 w2 p2 s2 f2 => ckn p2 (go w2 (f2.mono (by omega) (by omega)) (s2.trans e2)))
  have e8 : abW (Tz_state w) 8 = Lz_dropped (Sz_log (Tz_state w)) := if_pos ⟨by decide, by decide⟩
  refine q_LAW_about hSw ⟨fun c => j158 (Or.inl c), fun c => ⟨fun c2 => j158 (Or.inr c2), fun c2 => ⟨fun d => absurd d (by decide), fun _ => ?_⟩⟩⟩
  obtain ⟨q, q1, q2, q3, q4⟩ := outD_some 300 1 m hD c
  have em : m.toNat = q + 1 := by omega
  refine f_ticks h2 (Nat.le_of_ble_eq_true rfl) (by omega) (by omega) (fun w1 s1 f1 => ckg ?_ ?_)
  · rw [em]
    omega
  rw [em] at s1
  have f8 : abW (Tz_state w1) 8 = Lz_dropped (Sz_log (Tz_state w1)) := if_pos ⟨by decide, by decide⟩
  refine q_LAW_about f1.sok (ckg (by rw [e8, f8, s1]; exact q4) ?_)
  refine f_und f1 (fun r2 w2 p2 s2 f2 => ckn p2 ?_)
  have e22 := s2.trans e2
  refine ⟨fun _ => go w2 (f2.mono (by omega) (by omega)) e22, fun c3 => ⟨by omega, ?_⟩⟩
  refine f_ticks f2 (Nat.le_of_ble_eq_true rfl) (by omega) (by omega) (fun w3 s3 f3 => ck ?_ ?_)
  · have em2 : (m - 1).toNat = q := by omega
    have et := s2.ticks q hSw (by omega)
    rw [em2, et.dropped, s2.dropped]
    omega
  exact f_und f3 (fun r4 w4 p4 s4 f4 => ckn p4 (go w4 (by rw [show T + 198 = T + 99 + 99 by omega]; exact f4) (s4.trans e22)))
theorem q_LAW_follows (hx : 0 ≤ x) (h : TOK v0 T) (hT : T + 6000 ≤ 5000000) (k : ∀ v', FinR v0 v' (T + 891) → Q 1 v') : Z_LAW_follows x v0 Q := by
  have h0 := h.1.1
  unfold Z_LAW_follows
  refine q_LAW_now h0 (q_LAW_save h (fun r v1 e1 => ?_))
  have ht := h.sav e1
  rcases e1 with ⟨n, -⟩ | ⟨-, z, ez, er, rfl⟩
  · exact absurd (by decide) n
  · have hf : Fw v0 (Tz_set_filled (Tz_seti_slots v0 (Int.toNat 1) z) (updz (Tz_filled v0) (Int.toNat 1) 1)) T [] := ⟨ht, rfl, ⟨rfl, rfl⟩, ⟨rfl, ez⟩, ⟨h.2.1.1.2.1, trivial⟩⟩
    obtain ⟨w, hw⟩ : ∃ w, w = Tz_set_filled (Tz_seti_slots v0 (Int.toNat 1) z) (updz (Tz_filled v0) (Int.toNat 1) 1) := ⟨_, rfl⟩
    have ew : Tz_state w = Tz_state v0 := by rw [hw]
    rw [← hw] at hf
    have hSw := hf.sok
    have e7 : abW (Tz_state w) 7 = Sz_time (Tz_state v0) := by
      rw [ew]
      exact if_pos ⟨by decide, by decide⟩
    show Z_LAW_about 7 (Tz_set_filled (Tz_seti_slots v0 (Int.toNat 1) z) (updz (Tz_filled v0) (Int.toNat 1) 1)) _
    rw [← hw]
    refine q_LAW_about hSw (ck (er.trans e7.symm) ?_)
    refine q_LAW_simulate hSw hT (fun c => absurd (by decide) c) (fun _ _ r1 t1 s1 => ?_)
    refine q_LAW_simulate (v := Tz_set_trial w t1) hSw hT (fun c => absurd (by decide) c) (fun _ _ r2 t2 s2 => ck (simV_det hSw (by show T + 99 * ((6 : Nat) : Int) ≤ 5000000; omega) SEq.refl s1 s2) ?_)
    have es : SEq (Tz_state w) (Tz_state v0) := by rw [ew]; exact SEq.refl
    refine q_LAW_now (v := Tz_set_trial (Tz_set_trial w t1) t2) hSw (ck (nowS_congr h0 es) ?_)
    exact fo_54 hx h0 (hf.tri.tri) es (by omega) k
end FO
