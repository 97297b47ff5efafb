/-! ### all that is told of a log, as one number; calls that are refused -/
theorem lg0 {x y : Int} : lg_cmpZ x y = 0 ↔ x = y := by
  unfold lg_cmpZ
  constructor
  · intro h
    split at h
    · exact absurd h (by decide)
    · split at h
      · assumption
      · exact absurd h (by decide)
  · intro h
    rw [if_neg (by omega), if_pos h]
theorem ck {r c : Int} {A B : Prop} (e : r = c) (b : B) : (¬ lg_cmpZ r c = 0 → A) ∧ (lg_cmpZ r c = 0 → B) := ⟨fun n => absurd (lg0.mpr e) n, fun _ => b⟩
def nw104 (σ : SZ) (a : Int) : Nat → Int → Int → Int
  | 0, y, _ => y
  | n + 1, y, k => nw104 σ a n (wl (wl (wl (31 * y) + rdW σ a k) + wl (89 * tbW σ a (k - 1)))) (k + 1)
def nw78 (σ : SZ) : Nat → Int → Int → Int
  | 0, y, _ => y
  | n + 1, y, a => nw78 σ n (if rdW σ a 0 = IX then wl (wl (31 * y) + rdW σ a 0) else nw104 σ a 8 (wl (wl (31 * y) + rdW σ a 0)) 1) (a + 1)
def nw32 (σ : SZ) : Nat → Int → Int → Int
  | 0, y, _ => y
  | n + 1, y, k => nw32 σ n (if 6 ≤ k then wl (wl (wl (31 * y) + baW σ k) + 0) else wl (wl (wl (31 * y) + baW σ k) + wl (97 * seW σ k))) (k + 1)
def nw6 (σ : SZ) : Nat → Int → Int → Int
  | 0, y, _ => y
  | n + 1, y, k => nw6 σ n (wl (wl (31 * y) + abW σ k)) (k + 1)
def nowS (σ : SZ) : Int := nw78 σ 8 (nw32 σ 8 (nw6 σ 12 131 0) 0) 0
section NW
variable {v : TZ} {T : Int} {x y : SZ}
theorem q_now104 {a pl : Int} {K : Int → Int → Prop} {Q : Int → Prop} (h : SOK (Tz_state v) T) (ha : 0 ≤ a ∧ a < 8) (hp : pl ≠ IX) : ∀ (n : Nat) (u k : Int), k + n = 9 → 0 ≤ k → K (nw104 (Tz_state v) a n u k) (a + 1) → ZL_LAW_now_104 (n + 1) v u a pl k K Q := by
  intro n
  induction n with
  | zero =>
    intro u k hk h0 kk
    rw [ZL_LAW_now_104]
    exact ⟨fun _ => ⟨by omega, kk⟩, fun c => absurd c (by omega)⟩
  | succ n ih =>
    intro u k hk h0 kk
    rw [ZL_LAW_now_104]
    refine ⟨fun c => absurd c (by omega), fun _ => ⟨fun c => absurd (lg0.mp c) hp, fun _ => q_LAW_readerOf h ⟨by omega, q_LAW_table h ⟨by omega, ih _ (k + 1) (by omega) (by omega) kk⟩⟩⟩⟩
theorem q_now78 {Q : Int → Prop} (h : SOK (Tz_state v) T) : ∀ (n : Nat) (u a : Int), a + n = 8 → 0 ≤ a → Q (nw78 (Tz_state v) n u a) → ZL_LAW_now_78 (n + 1) v u a Q := by
  intro n
  induction n with
  | zero =>
    intro u a ha h0 kk
    rw [ZL_LAW_now_78]
    exact ⟨fun _ => kk, fun c => absurd c (by omega)⟩
  | succ n ih =>
    intro u a ha h0 kk
    rw [ZL_LAW_now_78]
    rw [nw78] at kk
    refine ⟨fun c => absurd c (by omega), fun _ => q_LAW_readerOf h ?_⟩
    by_cases q : rdW (Tz_state v) a 0 = IX
    · rw [if_pos q] at kk
      refine ⟨1, by decide, ?_⟩
      rw [ZL_LAW_now_104]
      exact ⟨fun c => absurd c (by decide), fun _ => ⟨fun _ => ⟨by omega, ih _ (a + 1) (by omega) (by omega) kk⟩, fun c => absurd (lg0.mpr q) c⟩⟩
    · rw [if_neg q] at kk
      exact ⟨9, by decide, q_now104 h ⟨h0, by omega⟩ q 8 _ 1 (by decide) (by decide) (ih _ (a + 1) (by omega) (by omega) kk)⟩
theorem q_now32 {Q : Int → Prop} (h : SOK (Tz_state v) T) : ∀ (n : Nat) (u k : Int), k + n = 8 → 0 ≤ k → Q (nw78 (Tz_state v) 8 (nw32 (Tz_state v) n u k) 0) → ZL_LAW_now_32 (n + 1) v u k Q := by
  intro n
  induction n with
  | zero =>
    intro u k hk h0 kk
    rw [ZL_LAW_now_32]
    exact ⟨fun _ => ⟨9, by decide, q_now78 h 8 _ 0 (by decide) (by decide) kk⟩, fun c => absurd c (by omega)⟩
  | succ n ih =>
    intro u k hk h0 kk
    rw [ZL_LAW_now_32]
    rw [nw32] at kk
    refine ⟨fun c => absurd c (by omega), fun _ => q_LAW_base ⟨fun c => ⟨by omega, ih _ (k + 1) (by omega) (by omega) ?_⟩, fun c => q_LAW_setting ⟨by omega, ih _ (k + 1) (by omega) (by omega) ?_⟩⟩⟩
    · rw [if_pos c] at kk
      exact kk
    · rw [if_neg c] at kk
      exact kk
theorem q_now6 {Q : Int → Prop} (h : SOK (Tz_state v) T) : ∀ (n : Nat) (u k : Int), k + n = 12 → 0 ≤ k → Q (nw78 (Tz_state v) 8 (nw32 (Tz_state v) 8 (nw6 (Tz_state v) n u k) 0) 0) → ZL_LAW_now_6 (n + 1) v u k Q := by
  intro n
  induction n with
  | zero =>
    intro u k hk h0 kk
    rw [ZL_LAW_now_6]
    exact ⟨fun _ => ⟨9, by decide, q_now32 h 8 _ 0 (by decide) (by decide) kk⟩, fun c => absurd c (by omega)⟩
  | succ n ih =>
    intro u k hk h0 kk
    rw [ZL_LAW_now_6]
    exact ⟨fun c => absurd c (by omega), fun _ => q_LAW_about h ⟨by omega, ih _ (k + 1) (by omega) (by omega) kk⟩⟩
theorem q_LAW_now {Q : Int → Prop} (h : SOK (Tz_state v) T) (k : Q (nowS (Tz_state v))) : Z_LAW_now v Q := ⟨13, by decide, q_now6 h 12 131 0 (by decide) (by decide) k⟩
theorem isR_congr (e : SEq x y) {a : Int} : isR x a ↔ isR y a := by
  constructor
  · rintro ⟨h0, h1⟩
    exact ⟨h0, ((e.2.1 a.toNat (by omega)).present).symm.trans h1⟩
  · rintro ⟨h0, h1⟩
    exact ⟨h0, ((e.2.1 a.toNat (by omega)).present).trans h1⟩
theorem abW_congr (e : SEq x y) {a : Int} : abW x a = abW y a := by
  unfold abW
  by_cases q : 0 ≤ a ∧ a ≤ 11
  · rw [if_pos q, if_pos q]
    generalize a.toNat = n
    match n with
    | 0 => exact e.1.1.2.1
    | 1 => exact e.1.1.1
    | 2 =>
      show Lz_begun (Sz_log x) - Lz_dropped (Sz_log x) = Lz_begun (Sz_log y) - Lz_dropped (Sz_log y)
      rw [e.1.1.2.2.2.1, e.1.1.2.2.2.2]
    | 3 => exact e.1.1.2.2.1
    | 4 => exact e.rdN
    | 5 =>
      show holders x (Lz_end (Sz_log x)) = holders y (Lz_end (Sz_log y))
      rw [e.1.1.2.1, e.hol]
    | 6 => exact e.gaps
    | 7 => exact e.time
    | 8 => exact e.dropped
    | 9 => exact e.lbl
    | 10 => exact e.lbs
    | n + 11 => exact e.missed
  · rw [if_neg q, if_neg q]
theorem rdW_congr (h : SOK y T) (e : SEq x y) {a b : Int} : rdW x a b = rdW y a b := by
  unfold rdW
  by_cases q : isR y a
  · rw [if_pos q, if_pos ((isR_congr e).mpr q)]
    by_cases q2 : 0 ≤ b ∧ b ≤ 8
    · rw [if_pos q2, if_pos q2]
      have g := e.2.1 a.toNat (by omega)
      have g5 := (h.2.2.2 a.toNat (by omega)).2.2.2.2.1 (Or.inl q.2)
      generalize b.toNat = n
      match n with
      | 0 => exact g.place
      | 1 => exact g.held
      | 2 => exact g.readSoFar
      | 3 => exact g.missedSoFar
      | 4 => exact g.lastRead
      | 5 =>
        show Lz_end (Sz_log x) - zmaxZ (Rz_place (Sz_readers x a.toNat)) (Lz_first (Sz_log x)) = Lz_end (Sz_log y) - zmaxZ (Rz_place (Sz_readers y a.toNat)) (Lz_first (Sz_log y))
        rw [g.place, e.1.1.1, e.1.1.2.1]
      | 6 =>
        show lenFrom (Sz_log x) (Rz_place (Sz_readers x a.toNat)) = lenFrom (Sz_log y) (Rz_place (Sz_readers y a.toNat))
        rw [g.place]
        exact e.1.lf h.1 g5.2
      | 7 =>
        show zmaxZ (Lz_first (Sz_log x) - Rz_place (Sz_readers x a.toNat)) 0 = zmaxZ (Lz_first (Sz_log y) - Rz_place (Sz_readers y a.toNat)) 0
        rw [g.place, e.1.1.1]
      | n + 8 => exact g.lostBy
    · rw [if_neg q2, if_neg q2]
  · rw [if_neg q, if_neg (fun k => q ((isR_congr e).mp k))]
theorem tbW_congr (e : SEq x y) {a b : Int} : tbW x a b = tbW y a b := by
  unfold tbW
  by_cases q : isR y a
  · rw [if_pos q, if_pos ((isR_congr e).mpr q)]
    by_cases q2 : 0 ≤ b ∧ b ≤ 7
    · rw [if_pos q2, if_pos q2]
      exact (e.2.1 a.toNat (by omega)).1 b.toNat (by omega)
    · rw [if_neg q2, if_neg q2]
  · rw [if_neg q, if_neg (fun k => q ((isR_congr e).mp k))]
theorem baW_congr (e : SEq x y) {a : Int} : baW x a = baW y a := by
  unfold baW
  by_cases q : 0 ≤ a ∧ a ≤ 7
  · rw [if_pos q, if_pos q]
    exact e.1.2.2.2 a.toNat (by omega)
  · rw [if_neg q, if_neg q]
theorem seW_congr (e : SEq x y) {a : Int} : seW x a = seW y a := by
  unfold seW
  by_cases q : 0 ≤ a ∧ a ≤ 5
  · rw [if_pos q, if_pos q]
    exact e.2.2.1 a.toNat (by omega)
  · rw [if_neg q, if_neg q]
theorem nw104_congr (h : SOK y T) (e : SEq x y) {a : Int} : ∀ (n : Nat) (u k : Int), nw104 x a n u k = nw104 y a n u k
  | 0, _, _ => rfl
  | n + 1, u, k => by
    rw [nw104, nw104, rdW_congr h e, tbW_congr e]
    exact nw104_congr h e n _ _
theorem nw78_congr (h : SOK y T) (e : SEq x y) : ∀ (n : Nat) (u a : Int), nw78 x n u a = nw78 y n u a
  | 0, _, _ => rfl
  | n + 1, u, a => by
    rw [nw78, nw78, rdW_congr h e, nw104_congr h e]
    exact nw78_congr h e n _ _
theorem nw32_congr (e : SEq x y) : ∀ (n : Nat) (u k : Int), nw32 x n u k = nw32 y n u k
  | 0, _, _ => rfl
  | n + 1, u, k => by
    rw [nw32, nw32, baW_congr e, seW_congr e]
    exact nw32_congr e n _ _
theorem nw6_congr (e : SEq x y) : ∀ (n : Nat) (u k : Int), nw6 x n u k = nw6 y n u k
  | 0, _, _ => rfl
  | n + 1, u, k => by
    rw [nw6, nw6, abW_congr e]
    exact nw6_congr e n _ _
theorem nowS_congr (h : SOK y T) (e : SEq x y) : nowS x = nowS y := by
  unfold nowS
  rw [nw6_congr e, nw32_congr e, nw78_congr h e]
/-! refused calls -/
theorem act_no {c : Nat} {a b d f r : Int} {v' : TZ} (e : actR c a b d v r v') (hf : fltA (Tz_state v) c a b d = f) (h0 : f ≠ 0) : r = fcA f ∧ v' = v := by
  rcases e with ⟨o, -⟩ | ⟨-, e1, e2⟩
  · exact absurd (hf.symm.trans o) h0
  · exact ⟨by rw [e1, hf], e2⟩
section NO
variable {a b d : Int} {Q : Int → TZ → Prop}
theorem no_write (h : TOK v T) (hT : T + 99 ≤ 5000000) (n : ¬ rowP a b d) (k : Q AR v) : Z_LAW_write a b d v Q := by
  refine q_LAW_write h hT (fun r v' e => ?_)
  obtain ⟨rfl, rfl⟩ := act_no (f := 2) e (show (if rowP a b d then (if 200 ≤ Lz_end (Sz_log (Tz_state v)) then 3 else 0) else 2 : Int) = 2 from if_neg n) (by decide)
  exact k
theorem no_join_2 (h : TOK v T) (hT : T + 99 ≤ 5000000) (hd : d = 0 ∨ d = 1) (n : ¬ ((0 ≤ a ∧ a < 8) ∧ (0 ≤ b ∧ b ≤ 2))) (k : Q AR v) : Z_LAW_join a b d v Q := by
  refine q_LAW_join hd h hT (fun r v' e => ?_)
  obtain ⟨rfl, rfl⟩ := act_no (f := 2) e (show (if (0 ≤ a ∧ a < 8) ∧ (0 ≤ b ∧ b ≤ 2) then (if canJP (Tz_state v) a b d then 0 else 3) else 2 : Int) = 2 from if_neg n) (by decide)
  exact k
theorem no_join_3 (h : TOK v T) (hT : T + 99 ≤ 5000000) (hd : d = 0 ∨ d = 1) (i : (0 ≤ a ∧ a < 8) ∧ (0 ≤ b ∧ b ≤ 2)) (n : ¬ canJP (Tz_state v) a b d) (k : Q STT v) : Z_LAW_join a b d v Q := by
  refine q_LAW_join hd h hT (fun r v' e => ?_)
  obtain ⟨rfl, rfl⟩ := act_no (f := 3) e (show (if (0 ≤ a ∧ a < 8) ∧ (0 ≤ b ∧ b ≤ 2) then (if canJP (Tz_state v) a b d then 0 else 3) else 2 : Int) = 3 from (if_pos i).trans (if_neg n)) (by decide)
  exact k
theorem no_read_1 (h : TOK v T) (hT : T + 99 ≤ 5000000) (n : ¬ isR (Tz_state v) a) (k : Q IX v) : Z_LAW_read a b v Q := by
  refine q_LAW_read h hT (fun r v' e => ?_)
  obtain ⟨rfl, rfl⟩ := act_no (f := 1) e (show (if isR (Tz_state v) a then (if 1 ≤ b ∧ b ≤ 50 then 0 else 2) else 1 : Int) = 1 from if_neg n) (by decide)
  exact k
theorem no_read_2 (h : TOK v T) (hT : T + 99 ≤ 5000000) (i : isR (Tz_state v) a) (n : ¬ (1 ≤ b ∧ b ≤ 50)) (k : Q AR v) : Z_LAW_read a b v Q := by
  refine q_LAW_read h hT (fun r v' e => ?_)
  obtain ⟨rfl, rfl⟩ := act_no (f := 2) e (show (if isR (Tz_state v) a then (if 1 ≤ b ∧ b ≤ 50 then 0 else 2) else 1 : Int) = 2 from (if_pos i).trans (if_neg n)) (by decide)
  exact k
theorem no_leave (h : TOK v T) (hT : T + 99 ≤ 5000000) (n : ¬ isR (Tz_state v) a) (k : Q IX v) : Z_LAW_leave a v Q := by
  refine q_LAW_leave h hT (fun r v' e => ?_)
  obtain ⟨rfl, rfl⟩ := act_no (f := 1) e (show (if isR (Tz_state v) a then 0 else 1 : Int) = 1 from if_neg n) (by decide)
  exact k
theorem no_hold (h : TOK v T) (hT : T + 99 ≤ 5000000) (hb : b = 0 ∨ b = 1) (n : ¬ isR (Tz_state v) a) (k : Q IX v) : Z_LAW_hold a b v Q := by
  refine q_LAW_hold hb h hT (fun r v' e => ?_)
  obtain ⟨rfl, rfl⟩ := act_no (f := 1) e (show (if isR (Tz_state v) a then (if b = 1 ∧ Rz_place (Sz_readers (Tz_state v) a.toNat) < Lz_first (Sz_log (Tz_state v)) then 3 else 0) else 1 : Int) = 1 from if_neg n) (by decide)
  exact k
theorem no_set (h : TOK v T) (hT : T + 99 ≤ 5000000) (n : ¬ setP a b) (k : Q AR v) : Z_LAW_set a b v Q := by
  refine q_LAW_set h hT (fun r v' e => ?_)
  obtain ⟨rfl, rfl⟩ := act_no (f := 2) e (show (if setP a b then 0 else 2 : Int) = 2 from if_neg n) (by decide)
  exact k
theorem no_ticks (h : TOK v T) (hT : T + 99 ≤ 5000000) (n : ¬ (1 ≤ a ∧ a ≤ 99)) (k : Q AR v) : Z_LAW_ticks a v Q := by
  refine q_LAW_ticks h hT (fun r v' e => ?_)
  obtain ⟨rfl, rfl⟩ := act_no (f := 2) e (show (if 1 ≤ a ∧ a ≤ 99 then 0 else 2 : Int) = 2 from if_neg n) (by decide)
  exact k
theorem no_save (h : TOK v T) (n : ¬ (0 ≤ a ∧ a ≤ 1)) (k : Q IX v) : Z_LAW_save a v Q := by
  refine q_LAW_save h (fun r v' e => ?_)
  rcases e with ⟨-, rfl, rfl⟩ | ⟨q, -⟩
  · exact k
  · exact absurd q n
theorem no_restore (h : TOK v T) (n : ¬ (0 ≤ a ∧ a ≤ 1)) (k : Q IX v) : Z_LAW_restore a v Q := by
  refine q_LAW_restore h (fun r v' e => ?_)
  rcases e with ⟨-, rfl, rfl⟩ | ⟨q, -⟩ | ⟨q, -⟩
  · exact k
  · exact absurd q n
  · exact absurd q n
end NO
theorem rd_ix {σ : SZ} {a b : Int} (n : ¬ isR σ a) : rdW σ a b = IX := if_neg n
theorem rd_ar {σ : SZ} {a b : Int} (i : isR σ a) (n : ¬ (0 ≤ b ∧ b ≤ 8)) : rdW σ a b = AR := (if_pos i).trans (if_neg n)
theorem rd_in {σ : SZ} {a b : Int} (i : isR σ a) (n : 0 ≤ b ∧ b ≤ 8) : rdW σ a b = rdF σ (Sz_readers σ a.toNat) b.toNat := (if_pos i).trans (if_pos n)
theorem rd0_ne {σ : SZ} {a : Int} (h : SOK σ T) (i : isR σ a) : rdW σ a 0 ≠ IX := by
  rw [rd_in i ⟨by decide, by decide⟩]
  have g5 := (h.2.2.2 a.toNat (by omega)).2.2.2.2.1 (Or.inl i.2)
  show Rz_place (Sz_readers σ a.toNat) ≠ IX
  show ¬ Rz_place (Sz_readers σ a.toNat) = -9000000000000000001
  omega
theorem wi_ok {n : Int} (h : 0 ≤ n ∧ n ≤ 1000) : wi n = n := wi_id (by omega)
end NW
/-! calls that must be refused -/
section ER
variable {v : TZ} {T : Int} {Q : Int → TZ → Prop}
theorem er_802 (h : TOK v T) (k : Q 1 v) : ZJ_LAW_errors_802 (nowS (Tz_state v)) 1 v Q := ⟨fun c => absurd c (by decide), fun _ => q_LAW_now h.1.1 (ck rfl k)⟩
theorem er_605 {f e : Int} (h : TOK v T) (hT : T + 6000 ≤ 5000000) (hf : f = Lz_first (Sz_log (Tz_state v))) (he : e = Lz_end (Sz_log (Tz_state v))) (k : Q 1 v) : ZJ_LAW_errors_605 (nowS (Tz_state v)) f e v Q := by
  have h1 := h.1.1.1.1
  have hT2 : T + 99 ≤ 5000000 := by omega
  have hT3 : T + 300 ≤ 5000000 := by omega
  subst hf he
  unfold ZJ_LAW_errors_605
  refine no_ticks h hT2 (fun q => absurd q.1 (by decide)) (ck rfl ?_)
  refine no_ticks h hT2 (fun q => absurd q.2 (by decide)) (ck rfl ⟨by omega, ?_⟩)
  refine q_LAW_truth h.1.1 (ck (if_neg (by omega)) ⟨by omega, ?_⟩)
  refine q_LAW_truth h.1.1 (ck (if_neg (by omega)) ?_)
  refine q_LAW_truth h.1.1 (ck ((if_pos ⟨by omega, by omega⟩).trans (if_neg (fun q => absurd q.1.2 (by decide)))) ?_)
  refine q_LAW_truth h.1.1 (ck ((if_pos ⟨by omega, by omega⟩).trans (if_neg (fun q => absurd q.2.2 (by decide)))) ?_)
  refine q_LAW_leastRoom h.1.1 hT3 (fun _ => ck rfl ?_) (fun q _ => absurd q (by decide))
  refine q_LAW_leastRoom h.1.1 hT3 (fun _ => ck rfl ?_) (fun _ q => absurd q (by decide))
  refine q_LAW_script (by decide) h.1.1 hT3 (fun _ => ck rfl ?_) (fun q => absurd q.1 (by decide))
  refine q_LAW_script (by decide) h.1.1 hT3 (fun _ => ck rfl ?_) (fun _ q => absurd q.2 (by decide))
  refine q_LAW_simulate h.1.1 hT (fun _ => ck rfl ?_) (fun q => absurd q (by decide))
  refine no_save h (fun q => absurd q.2 (by decide)) (ck rfl ?_)
  refine no_restore h (fun q => absurd q.2 (by decide)) (ck rfl ?_)
  refine q_append_ar (fun q => absurd q.2 (by decide)) (ck rfl ?_)
  exact er_802 h k
theorem er_462 {f e a g : Int} (h : TOK v T) (hT : T + 6000 ≤ 5000000) (hf : f = Lz_first (Sz_log (Tz_state v))) (he : e = Lz_end (Sz_log (Tz_state v))) (ha : 0 ≤ a ∧ a < 8) (hg : g = 0 ∧ isR (Tz_state v) a ∨ g = 1 ∧ ¬ isR (Tz_state v) a) (k : Q 1 v) : ZJ_LAW_errors_462 (nowS (Tz_state v)) f e a g 1 v Q := by
  have hT2 : T + 99 ≤ 5000000 := by omega
  have hT3 : T + 300 ≤ 5000000 := by omega
  refine ⟨fun c => absurd c (by decide), fun _ => ⟨fun c => ?_, fun c => ?_⟩⟩
  · have i : isR (Tz_state v) a := by
      rcases hg with q | q
      · exact q.2
      · omega
    refine q_LAW_readerOf h.1.1 (ck (rd_ar i (fun q => absurd q.2 (by decide))) ?_)
    refine q_LAW_table h.1.1 (ck ((if_pos i).trans (if_neg (fun q => absurd q.2 (by decide)))) ?_)
    refine no_read_2 h hT2 i (fun q => absurd q.2 (by decide)) (ck rfl ?_)
    refine no_join_3 h hT2 (Or.inl rfl) ⟨ha, by decide⟩ (fun q => absurd (i.2.symm.trans q.1) (by decide)) (ck rfl ?_)
    exact er_605 h hT hf he k
  · have i : ¬ isR (Tz_state v) a := by
      rcases hg with q | q
      · omega
      · exact q.2
    refine q_LAW_readerOf h.1.1 (ck (rd_ix i) ?_)
    refine no_read_1 h hT2 i (ck rfl ?_)
    refine no_leave h hT2 i (ck rfl ?_)
    refine q_LAW_lostIn h.1.1 hT3 (fun _ => ck rfl ?_) (fun q => absurd q i)
    refine q_LAW_ifFree h.1.1 hT3 (fun _ => ck rfl ?_) (fun q => absurd q i)
    exact er_605 h hT hf he k
theorem er_192 {f e a g : Int} (h : TOK v T) (hT : T + 6000 ≤ 5000000) (hf : f = Lz_first (Sz_log (Tz_state v))) (he : e = Lz_end (Sz_log (Tz_state v))) (ha : 0 ≤ a ∧ a < 8) (hg : g = 0 ∧ isR (Tz_state v) a ∨ g = 1 ∧ ¬ isR (Tz_state v) a) (k : Q 1 v) : ZJ_LAW_errors_192 (nowS (Tz_state v)) f e a g v Q := by
  have hT2 : T + 99 ≤ 5000000 := by omega
  unfold ZJ_LAW_errors_192
  refine q_LAW_readerOf h.1.1 (ck (rd_ix (fun q => absurd q.1.2 (by decide))) ?_)
  refine q_LAW_table h.1.1 (ck (if_neg (fun q => absurd q.1.1 (by decide))) ?_)
  refine q_LAW_base (ck (if_neg (fun q => absurd q.2 (by decide))) ?_)
  refine q_LAW_setting (ck (if_neg (fun q => absurd q.2 (by decide))) ?_)
  refine no_write h hT2 (fun q => absurd q.1.2 (by decide)) (ck rfl ?_)
  refine no_write h hT2 (fun q => absurd q.2.1.2 (by decide)) (ck rfl ?_)
  refine no_write h hT2 (fun q => absurd q.2.2.1 (by decide)) (ck rfl ?_)
  refine no_join_2 h hT2 (Or.inr rfl) (fun q => absurd q.1.2 (by decide)) (ck rfl ?_)
  refine no_join_2 h hT2 (Or.inr rfl) (fun q => absurd q.2.2 (by decide)) (ck rfl ?_)
  refine no_read_1 h hT2 (fun q => absurd q.1.2 (by decide)) (ck rfl ?_)
  refine no_leave h hT2 (fun q => absurd q.1.1 (by decide)) (ck rfl ?_)
  refine no_hold h hT2 (Or.inr rfl) (fun q => absurd q.1.2 (by decide)) (ck rfl ?_)
  refine no_set h hT2 (fun q => absurd q.2.1 (by decide)) (ck rfl ?_)
  refine no_set h hT2 (fun q => absurd q.2.1 (by decide)) (ck rfl ?_)
  refine no_set h hT2 (fun q => absurd q.2.2 (by decide)) (ck rfl ?_)
  refine no_set h hT2 (fun q => absurd q.2.2 (by decide)) (ck rfl ?_)
  refine no_set h hT2 (fun q => absurd q.2.1 (by decide)) (ck rfl ?_)
  refine no_set h hT2 (fun q => absurd q.2.2 (by decide)) (ck rfl ?_)
  refine no_set h hT2 (fun q => absurd q.1.2 (by decide)) (ck rfl ?_)
  exact er_462 h hT hf he ha hg k
theorem er_69 {a g : Int} (h : TOK v T) (hT : T + 6000 ≤ 5000000) (ha : 0 ≤ a ∧ a < 8) (hg : g = 0 ∧ isR (Tz_state v) a ∨ g = 1 ∧ ¬ isR (Tz_state v) a) (k : Q 1 v) : ZJ_LAW_errors_69 (nowS (Tz_state v)) (Lz_first (Sz_log (Tz_state v))) (Lz_end (Sz_log (Tz_state v))) a g v Q := by
  have h1 := h.1.1.1.1
  have hS := h.1.1
  unfold ZJ_LAW_errors_69
  refine q_LAW_about hS (ck (if_neg (fun q => absurd q.1 (by decide))) ?_)
  refine q_LAW_about hS (ck (if_neg (fun q => absurd q.2 (by decide))) ⟨by omega, ?_⟩)
  refine q_row_ix hS (by omega) (ck rfl ?_)
  refine q_row_ix hS (by omega) (ck rfl ?_)
  refine q_LAW_about hS ?_
  have e2 : abW (Tz_state v) 2 = Lz_begun (Sz_log (Tz_state v)) - Lz_dropped (Sz_log (Tz_state v)) := if_pos ⟨by decide, by decide⟩
  rw [e2, wi_ok (by omega)]
  refine q_seg_ix hS (by omega) (ck rfl ?_)
  refine q_seg_ix hS (by omega) (ck rfl ?_)
  refine ⟨fun c => er_192 h hT rfl rfl ha hg k, fun c => ?_⟩
  refine q_row_in (by omega) (by omega) (fun _ q => absurd q (by decide)) (fun _ => ck rfl ?_)
  have hb : 0 < Lz_begun (Sz_log (Tz_state v)) := by
    rcases Int.lt_or_le 0 (Lz_begun (Sz_log (Tz_state v))) with q | q
    · exact q
    · have := hS.1.2.2.1 (by omega)
      omega
  have hd := (hS.1.2.2.2.1 hb).1
  refine q_seg_in hS (by decide) (by omega) (fun _ q => absurd q (by decide)) (fun _ => ck rfl ?_)
  exact er_192 h hT rfl rfl ha hg k
theorem er_50 {a : Int} (h : TOK v T) (hT : T + 6000 ≤ 5000000) (ha : 0 ≤ a ∧ a < 8) (k : Q 1 v) : ZJ_LAW_errors_50 (nowS (Tz_state v)) (Lz_first (Sz_log (Tz_state v))) (Lz_end (Sz_log (Tz_state v))) a v Q := by
  unfold ZJ_LAW_errors_50
  refine q_LAW_readerOf h.1.1 ?_
  by_cases i : isR (Tz_state v) a
  · exact ⟨fun _ => er_69 h hT ha (Or.inl ⟨rfl, i⟩) k, fun c => absurd (lg0.mp c) (rd0_ne h.1.1 i)⟩
  · exact ⟨fun c => absurd (lg0.mpr (rd_ix i)) c, fun _ => er_69 h hT ha (Or.inr ⟨rfl, i⟩) k⟩
theorem er_23 (h : TOK v T) (hT : T + 6000 ≤ 5000000) (k : Q 1 v) : ∀ (n : Nat) (a : Int), a + n = 7 → 0 ≤ a → ZL_LAW_errors_23 (n + 1) (nowS (Tz_state v)) (Lz_first (Sz_log (Tz_state v))) (Lz_end (Sz_log (Tz_state v))) a v Q := by
  intro n
  induction n with
  | zero =>
    intro a ha h0
    rw [ZL_LAW_errors_23]
    exact ⟨fun _ => er_50 h hT ⟨h0, by omega⟩ k, fun c => absurd (by omega) c⟩
  | succ n ih =>
    intro a ha h0
    rw [ZL_LAW_errors_23]
    exact ⟨fun _ => er_50 h hT ⟨h0, by omega⟩ k, fun _ => q_LAW_readerOf h.1.1 ⟨fun _ => er_50 h hT ⟨h0, by omega⟩ k, fun _ => ⟨by omega, ih (a + 1) (by omega) (by omega)⟩⟩⟩
theorem q_LAW_errors (h : TOK v T) (hT : T + 6000 ≤ 5000000) (k : Q 1 v) : Z_LAW_errors v Q := by
  have h1 := h.1.1.1.1
  unfold Z_LAW_errors
  refine q_LAW_now h.1.1 (q_LAW_about h.1.1 (q_LAW_about h.1.1 ?_))
  have e1 : abW (Tz_state v) 1 = Lz_first (Sz_log (Tz_state v)) := if_pos ⟨by decide, by decide⟩
  have e0 : abW (Tz_state v) 0 = Lz_end (Sz_log (Tz_state v)) := if_pos ⟨by decide, by decide⟩
  rw [e1, e0, wi_ok (by omega), wi_ok (by omega)]
  exact ⟨8, by decide, er_23 h hT k 7 0 (by decide) (by decide)⟩
end ER
