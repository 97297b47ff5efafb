/-! ### two objects alike: the same answers; the same actions -/
def Sam (v v' : TZ) : Prop := Tz_state v' = Tz_state v ∧ XEq (Tz_text v') (Tz_text v) ∧ Tz_history v' = Tz_history v ∧ Tz_slots v' = Tz_slots v ∧ Tz_filled v' = Tz_filled v
theorem ckp {r c : Int} {A B : Prop} (e : r = c) (b : B) : (¬ r = c → A) ∧ (r = c → B) := ⟨fun n => absurd e n, fun _ => b⟩
section AL
variable {v w v' w' : TZ} {T x : Int}
theorem Sam.tok (s : Sam v v') (h : TOK v T) : TOK v' T := by
  obtain ⟨s1, s2, s3, s4, s5⟩ := s
  obtain ⟨h1, h2, h3, h4⟩ := h
  refine ⟨by rw [s1]; exact h1, by rw [s3]; exact h2, fun i hi => ?_, s2.ot h4⟩
  rw [s5, s4]
  exact h3 i hi
theorem TEq.sam (e : TEq v w) (s : Sam v v') (t : Sam w w') : TEq v' w' := by
  obtain ⟨s1, s2, s3, s4, s5⟩ := s
  obtain ⟨t1, t2, t3, t4, t5⟩ := t
  obtain ⟨e1, e2, e3, e4⟩ := e
  refine ⟨by rw [s1, t1]; exact e1, by rw [s3, t3]; exact e2, fun i hi => ?_, s2.trans (e4.trans t2.symm)⟩
  rw [s5, t5, s4, t4]
  exact e3 i hi
theorem q_LAW_alike {Q : Int → TZ → TZ → Prop} (hx : 0 ≤ x ∧ x < 2147483648) (h : TOK v T) (g : TOK w T) (e : TEq v w) (hT : T + 6000 ≤ 5000000) (k : ∀ v' w', Sam v v' → Sam w w' → Q 1 v' w') : Z_LAW_alike x v w Q := by
  have hv := h.1.1
  have hw := g.1.1
  have hT3 : T + 300 ≤ 5000000 := by omega
  have b2 := tmB hx.1 (n := 200) (by decide)
  have b8 := tmB hx.1 (n := 8) (by decide)
  have b1 := tmB hx.1 (n := 100) (by decide)
  have hw1 := hw.1.1
  have hl := hw.1.len
  unfold Z_LAW_alike
  refine q_LAW_now hv (q_LAW_now hw (ck (nowS_congr hw e.1) ?_))
  refine q_T_errorPosition h.2.2.2 (fun x1 f1 => q_T_errorPosition g.2.2.2 (fun x2 f2 => ckp (by rw [e.2.2.2.cs, e.2.2.2.1]) ?_))
  refine q_T_droppedIn (v := Tz_set_text v x1) hv hT3 (fun t1 => q_T_droppedIn (v := Tz_set_text w x2) hw hT3 (fun t2 => ckp (outD_congr 300 1 hw (by omega) e.1) ⟨by omega, ?_⟩))
  have er : (if diffN (Tz_state v) 0 (1 + Int.tmod x 200) = 0 then 0 else if Lz_length (Sz_log (Tz_state v)) ≤ 4000 ∧ diffN (Tz_state v) (Lz_length (Sz_log (Tz_state v))) (1 + Int.tmod x 200) = 0 then Lz_length (Sz_log (Tz_state v)) else -1 : Int) = (if diffN (Tz_state w) 0 (1 + Int.tmod x 200) = 0 then 0 else if Lz_length (Sz_log (Tz_state w)) ≤ 4000 ∧ diffN (Tz_state w) (Lz_length (Sz_log (Tz_state w))) (1 + Int.tmod x 200) = 0 then Lz_length (Sz_log (Tz_state w)) else -1) := by
    have d0 := diffN_congr (a := 0) (b := 1 + Int.tmod x 200) hw hT3 (by decide) (by omega) e.1
    rw [e.1.1.1.2.2.1, d0]
    by_cases q : Lz_length (Sz_log (Tz_state w)) ≤ 4000
    · rw [diffN_congr (a := Lz_length (Sz_log (Tz_state w))) (b := 1 + Int.tmod x 200) hw hT3 (by omega) (by omega) e.1]
    · rw [if_neg (show ¬ (Lz_length (Sz_log (Tz_state w)) ≤ 4000 ∧ diffN (Tz_state v) (Lz_length (Sz_log (Tz_state w))) (1 + Int.tmod x 200) = 0) from fun z => q z.1), if_neg (show ¬ (Lz_length (Sz_log (Tz_state w)) ≤ 4000 ∧ diffN (Tz_state w) (Lz_length (Sz_log (Tz_state w))) (1 + Int.tmod x 200) = 0) from fun z => q z.1)]
  refine q_LAW_leastRoom (v := Tz_set_trial (Tz_set_text v x1) t1) hv hT3 (fun c => absurd (by omega) c) (fun _ _ t3 => ?_)
  refine q_LAW_leastRoom (v := Tz_set_trial (Tz_set_text w x2) t2) hw hT3 (fun c => absurd (by omega) c) (fun _ _ t4 => ck er ?_)
  have ea : abW (Tz_state v) 0 = Lz_end (Sz_log (Tz_state v)) := if_pos ⟨by decide, by decide⟩
  have eb : abW (Tz_state w) 0 = Lz_end (Sz_log (Tz_state w)) := if_pos ⟨by decide, by decide⟩
  have hv1 := hv.1.1
  have tv : trW (Tz_state v) (Int.tmod x 8) (wi (abW (Tz_state v) 0)) 1 = toldX (Sz_log (Tz_state v)) (Int.tmod x 8) (Lz_end (Sz_log (Tz_state v))) := by
    rw [ea, wi_ok (by omega)]
    exact (if_pos ⟨by omega, by omega⟩).trans (if_pos ⟨by omega, by decide⟩)
  have tw : trW (Tz_state w) (Int.tmod x 8) (wi (abW (Tz_state w) 0)) 0 = toldX (Sz_log (Tz_state w)) (Int.tmod x 8) (Lz_end (Sz_log (Tz_state w))) := by
    rw [eb, wi_ok (by omega)]
    exact (if_pos ⟨by omega, by omega⟩).trans (if_pos ⟨by omega, by decide⟩)
  refine q_LAW_about (v := Tz_set_trial (Tz_set_trial (Tz_set_text v x1) t1) t3) hv (q_LAW_truth (v := Tz_set_trial (Tz_set_trial (Tz_set_text v x1) t1) t3) hv ?_)
  refine q_LAW_about (v := Tz_set_trial (Tz_set_trial (Tz_set_text w x2) t2) t4) hw (q_LAW_truth (v := Tz_set_trial (Tz_set_trial (Tz_set_text w x2) t2) t4) hw (ck ?_ ?_))
  · refine tv.trans (Eq.trans ?_ tw.symm)
    rw [e.1.1.1.2.1]
    exact e.1.1.told hw.1 (by omega) (by omega) (Int.le_refl _)
  refine q_LAW_simulate (v := Tz_set_trial (Tz_set_trial (Tz_set_text v x1) t1) t3) hv hT (fun c => absurd (by decide) c) (fun _ _ r1 t5 s1 => ?_)
  refine q_LAW_simulate (v := Tz_set_trial (Tz_set_trial (Tz_set_text w x2) t2) t4) hw hT (fun c => absurd (by decide) c) (fun _ _ r2 t6 s2 => ck (simV_det hw (by show T + 99 * ((5 : Nat) : Int) ≤ 5000000; omega) e.1 s1 s2) ?_)
  rw [wl_id (show -9223372036854775808 ≤ 500009800000 + Int.tmod x 100 ∧ 500009800000 + Int.tmod x 100 < 9223372036854775808 by omega)]
  have hp : (1 ≤ (2 : Int) ∧ (2 : Int) ≤ 3) ∧ (0 ≤ 500009800000 + Int.tmod x 100 ∧ 500009800000 + Int.tmod x 100 < p6 (2 : Int).toNat) := by
    have e6 : p6 (2 : Int).toNat = 1000000000000 := by decide
    rw [e6]
    omega
  refine q_LAW_script (v := Tz_set_trial (Tz_set_trial (Tz_set_trial (Tz_set_text v x1) t1) t3) t5) (by omega) hv hT3 (fun c => absurd hp c) (fun _ _ r3 t7 z1 q1 p1 => ?_)
  refine q_LAW_script (v := Tz_set_trial (Tz_set_trial (Tz_set_trial (Tz_set_text w x2) t2) t4) t6) (by omega) hw hT3 (fun c => absurd hp c) (fun _ _ r4 t8 z2 q2 p2 => ck ?_ ?_)
  · have q1 : SEq z1 (Tz_state v) := q1
    have q2 : SEq z2 (Tz_state w) := q2
    exact rs_law b1 (hw.eq q2) hT3 (q1.trans (e.1.trans q2.symm)) p1 p2
  · exact k _ _ ⟨rfl, f1, rfl, rfl, rfl⟩ ⟨rfl, f2, rfl, rfl, rfl⟩
/-- a call that changes an object, by its number -/
def CR (op : Nat) (a b d : Int) (v : TZ) (r : Int) (v' : TZ) : Prop := if op < 7 then actR op a b d v r v' else if op = 7 then undR v r v' else if op = 8 then savR a v r v' else rstR a v r v'
theorem TOK.cr {op : Nat} {a b d r : Int} (h : TOK v T) (hT : T + 99 ≤ 5000000) (hv : valA op b d) (e : CR op a b d v r v') : TOK v' (T + 99) := by
  unfold CR at e
  split at e
  · exact h.act hT hv e
  · split at e
    · exact (h.und e).mono (by omega) hT
    · split at e
      · exact (h.sav e).mono (by omega) hT
      · exact (h.rst e).mono (by omega) hT
theorem TEq.cr {op : Nat} {a b d r r2 : Int} (e : TEq v w) (h : TOK w T) (hT : T + 99 ≤ 5000000) (hv : valA op b d) (e1 : CR op a b d v r v') (e2 : CR op a b d w r2 w') : r = r2 ∧ TEq v' w' := by
  unfold CR at e1 e2
  by_cases q : op < 7
  · rw [if_pos q] at e1 e2
    exact e.act h hT q hv e1 e2
  · rw [if_neg q] at e1 e2
    by_cases q2 : op = 7
    · rw [if_pos q2] at e1 e2
      exact e.und h e1 e2
    · rw [if_neg q2] at e1 e2
      by_cases q3 : op = 8
      · rw [if_pos q3] at e1 e2
        exact e.sav e1 e2
      · rw [if_neg q3] at e1 e2
        exact e.rst e1 e2
abbrev isC (Z : TZ → (Int → TZ → Prop) → Prop) : Prop := ∃ (op : Nat) (a b d : Int), valA op b d ∧ ∀ (v : TZ) (T : Int) (Q : Int → TZ → Prop), TOK v T → T + 99 ≤ 5000000 → (∀ r v', CR op a b d v r v' → Q r v') → Z v Q
section AC
variable {y z : Int}
theorem ac_116 (hz : 0 ≤ z) : isC (fun v Q => ZJ_LAW_act_116 x y y z v Q) := by
  have m := tmB (tdB hz (n := 100) (by decide)) (n := 40) (by decide)
  exact ⟨0, _, _, _, trivial, fun v T Q h hT k => ⟨by omega, q_LAW_write h hT k⟩⟩
theorem ac_155 (hz : 0 ≤ z) {u : Int} : isC (fun v Q => ZJ_LAW_act_155 x y z u v Q) := by
  by_cases q : Int.tmod (Int.tdiv z 9) 2 = 0
  · exact ⟨1, _, _, _, Or.inr rfl, fun v T Q h hT k => ⟨fun c => absurd q c, fun _ => q_LAW_join (Or.inr rfl) h hT k⟩⟩
  · exact ⟨1, _, _, _, Or.inl rfl, fun v T Q h hT k => ⟨fun _ => q_LAW_join (Or.inl rfl) h hT k, fun c => absurd c q⟩⟩
theorem ac_138 (hz : 0 ≤ z) : isC (fun v Q => ZJ_LAW_act_138 x y y z v Q) := by
  by_cases q : Int.tmod z 3 ≤ 0
  · obtain ⟨op, a, b, d, hv, m⟩ := ac_155 (x := x) (y := y) (u := Int.tmod y 8) hz
    exact ⟨op, a, b, d, hv, fun v T Q h hT k => ⟨fun _ => m v T Q h hT k, fun c => absurd q c⟩⟩
  · obtain ⟨op, a, b, d, hv, m⟩ := ac_155 (x := x) (y := y) (u := Int.tmod y 3) hz
    exact ⟨op, a, b, d, hv, fun v T Q h hT k => ⟨fun c => absurd c q, fun _ => m v T Q h hT k⟩⟩
theorem ac_195 (hz : 0 ≤ z) {u : Int} : isC (fun v Q => ZJ_LAW_act_195 x y z u v Q) := by
  have m := tmB (tdB hz (n := 3) (by decide)) (n := 9) (by decide)
  exact ⟨2, _, _, 0, trivial, fun v T Q h hT k => ⟨by omega, q_LAW_read h hT k⟩⟩
theorem ac_178 (hz : 0 ≤ z) : isC (fun v Q => ZJ_LAW_act_178 x y y z v Q) := by
  by_cases q : Int.tmod z 3 ≤ 0
  · obtain ⟨op, a, b, d, hv, m⟩ := ac_195 (x := x) (y := y) (u := Int.tmod y 8) hz
    exact ⟨op, a, b, d, hv, fun v T Q h hT k => ⟨fun _ => m v T Q h hT k, fun c => absurd q c⟩⟩
  · obtain ⟨op, a, b, d, hv, m⟩ := ac_195 (x := x) (y := y) (u := Int.tmod y 3) hz
    exact ⟨op, a, b, d, hv, fun v T Q h hT k => ⟨fun c => absurd c q, fun _ => m v T Q h hT k⟩⟩
theorem ac_216 : isC (fun v Q => ZJ_LAW_act_216 x y y z v Q) := by
  by_cases q : Int.tmod z 2 = 0
  · exact ⟨4, _, _, 0, Or.inr rfl, fun v T Q h hT k => ⟨fun c => absurd q c, fun _ => q_LAW_hold (Or.inr rfl) h hT k⟩⟩
  · exact ⟨4, _, _, 0, Or.inl rfl, fun v T Q h hT k => ⟨fun _ => q_LAW_hold (Or.inl rfl) h hT k, fun c => absurd c q⟩⟩
theorem ac_235 (hz : 0 ≤ z) : isC (fun v Q => ZJ_LAW_act_235 x y y z v Q) := by
  have m1 := tmB hz (n := 161) (by decide)
  have m8 := tmB hz (n := 8) (by decide)
  by_cases q0 : Int.tmod y 6 = 0
  · exact ⟨5, _, _, 0, trivial, fun v T Q h hT k => ⟨fun c => absurd q0 c, fun _ => ⟨by omega, q_LAW_set h hT k⟩⟩⟩
  by_cases q1 : Int.tmod y 6 = 1
  · exact ⟨5, _, _, 0, trivial, fun v T Q h hT k => ⟨fun _ => ⟨fun c => absurd q1 c, fun _ => ⟨by omega, q_LAW_set h hT k⟩⟩, fun c => absurd c q0⟩⟩
  by_cases q2 : Int.tmod y 6 = 2
  · exact ⟨5, _, _, 0, trivial, fun v T Q h hT k => ⟨fun _ => ⟨fun _ => ⟨fun c => absurd q2 c, fun _ => q_LAW_set h hT k⟩, fun c => absurd c q1⟩, fun c => absurd c q0⟩⟩
  by_cases q3 : Int.tmod y 6 = 3
  · exact ⟨5, _, _, 0, trivial, fun v T Q h hT k => ⟨fun _ => ⟨fun _ => ⟨fun _ => ⟨fun c => absurd q3 c, fun _ => q_LAW_set h hT k⟩, fun c => absurd c q2⟩, fun c => absurd c q1⟩, fun c => absurd c q0⟩⟩
  by_cases q4 : Int.tmod y 6 = 4
  · exact ⟨5, _, _, 0, trivial, fun v T Q h hT k => ⟨fun _ => ⟨fun _ => ⟨fun _ => ⟨fun _ => ⟨fun c => absurd q4 c, fun _ => q_LAW_set h hT k⟩, fun c => absurd c q3⟩, fun c => absurd c q2⟩, fun c => absurd c q1⟩, fun c => absurd c q0⟩⟩
  · exact ⟨5, _, _, 0, trivial, fun v T Q h hT k => ⟨fun _ => ⟨fun _ => ⟨fun _ => ⟨fun _ => ⟨fun _ => q_LAW_set h hT k, fun c => absurd c q4⟩, fun c => absurd c q3⟩, fun c => absurd c q2⟩, fun c => absurd c q1⟩, fun c => absurd c q0⟩⟩
theorem ac_324 (hy : 0 ≤ y) : isC (fun v Q => ZJ_LAW_act_324 x y y z v Q) := by
  have m6 := tmB hy (n := 6) (by decide)
  have m60 := tmB hy (n := 60) (by decide)
  by_cases q : Int.tmod z 5 = 0
  · exact ⟨6, _, 0, 0, trivial, fun v T Q h hT k => ⟨fun c => absurd q c, fun _ => ⟨by omega, q_LAW_ticks h hT k⟩⟩⟩
  · exact ⟨6, _, 0, 0, trivial, fun v T Q h hT k => ⟨fun _ => ⟨by omega, q_LAW_ticks h hT k⟩, fun c => absurd c q⟩⟩
theorem act_is (hx : 0 ≤ x) (hy : 0 ≤ y) : isC (fun v Q => Z_LAW_act x y v Q) := by
  have hz := tdB hy (n := 32) (by decide)
  have m := tmB hx (n := 24) (by decide)
  have e : Int.tmod x 24 = 0 ∨ Int.tmod x 24 = 1 ∨ Int.tmod x 24 = 2 ∨ Int.tmod x 24 = 3 ∨ Int.tmod x 24 = 4 ∨ Int.tmod x 24 = 5 ∨ Int.tmod x 24 = 6 ∨ Int.tmod x 24 = 7 ∨ Int.tmod x 24 = 8 ∨ Int.tmod x 24 = 9 ∨ Int.tmod x 24 = 10 ∨ Int.tmod x 24 = 11 ∨ Int.tmod x 24 = 12 ∨ Int.tmod x 24 = 13 ∨ Int.tmod x 24 = 14 ∨ Int.tmod x 24 = 15 ∨ Int.tmod x 24 = 16 ∨ Int.tmod x 24 = 17 ∨ Int.tmod x 24 = 18 ∨ Int.tmod x 24 = 19 ∨ Int.tmod x 24 = 20 ∨ Int.tmod x 24 = 21 ∨ Int.tmod x 24 = 22 ∨ Int.tmod x 24 = 23 := by omega
  rcases e with e | e | e | e | e | e | e | e | e | e | e | e | e | e | e | e | e | e | e | e | e | e | e | e
  · obtain ⟨op, a, b, d, hv, mm⟩ := ac_116 (x := x) (y := y) hz
    refine ⟨op, a, b, d, hv, fun v T Q h hT k => ?_⟩
    have g := mm v T Q h hT k
    show Z_LAW_act x y v Q
    unfold Z_LAW_act
    rw [e]
    exact ⟨fun _ => g, fun c => absurd rfl c⟩
  · obtain ⟨op, a, b, d, hv, mm⟩ := ac_116 (x := x) (y := y) hz
    refine ⟨op, a, b, d, hv, fun v T Q h hT k => ?_⟩
    have g := mm v T Q h hT k
    show Z_LAW_act x y v Q
    unfold Z_LAW_act
    rw [e]
    exact ⟨fun c => absurd c (by decide), fun _ => ⟨fun _ => g, fun c => absurd rfl c⟩⟩
  · obtain ⟨op, a, b, d, hv, mm⟩ := ac_116 (x := x) (y := y) hz
    refine ⟨op, a, b, d, hv, fun v T Q h hT k => ?_⟩
    have g := mm v T Q h hT k
    show Z_LAW_act x y v Q
    unfold Z_LAW_act
    rw [e]
    exact ⟨fun c => absurd c (by decide), fun _ => ⟨fun c => absurd c (by decide), fun _ => ⟨fun _ => g, fun c => absurd rfl c⟩⟩⟩
  · obtain ⟨op, a, b, d, hv, mm⟩ := ac_116 (x := x) (y := y) hz
    refine ⟨op, a, b, d, hv, fun v T Q h hT k => ?_⟩
    have g := mm v T Q h hT k
    show Z_LAW_act x y v Q
    unfold Z_LAW_act
    rw [e]
    exact ⟨fun c => absurd c (by decide), fun _ => ⟨fun c => absurd c (by decide), fun _ => ⟨fun c => absurd c (by decide), fun _ => ⟨fun _ => g, fun c => absurd rfl c⟩⟩⟩⟩
  · obtain ⟨op, a, b, d, hv, mm⟩ := ac_116 (x := x) (y := y) hz
    refine ⟨op, a, b, d, hv, fun v T Q h hT k => ?_⟩
    have g := mm v T Q h hT k
    show Z_LAW_act x y v Q
    unfold Z_LAW_act
    rw [e]
    exact ⟨fun c => absurd c (by decide), fun _ => ⟨fun c => absurd c (by decide), fun _ => ⟨fun c => absurd c (by decide), fun _ => ⟨fun c => absurd c (by decide), fun _ => ⟨fun _ => g, fun c => absurd rfl c⟩⟩⟩⟩⟩
  · obtain ⟨op, a, b, d, hv, mm⟩ := ac_116 (x := x) (y := y) hz
    refine ⟨op, a, b, d, hv, fun v T Q h hT k => ?_⟩
    have g := mm v T Q h hT k
    show Z_LAW_act x y v Q
    unfold Z_LAW_act
    rw [e]
    exact ⟨fun c => absurd c (by decide), fun _ => ⟨fun c => absurd c (by decide), fun _ => ⟨fun c => absurd c (by decide), fun _ => ⟨fun c => absurd c (by decide), fun _ => ⟨fun c => absurd c (by decide), fun _ => ⟨fun _ => g, fun c => absurd rfl c⟩⟩⟩⟩⟩⟩
  · obtain ⟨op, a, b, d, hv, mm⟩ := ac_138 (x := x) (y := y) hz
    refine ⟨op, a, b, d, hv, fun v T Q h hT k => ?_⟩
    have g := mm v T Q h hT k
    show Z_LAW_act x y v Q
    unfold Z_LAW_act
    rw [e]
    exact ⟨fun c => absurd c (by decide), fun _ => ⟨fun c => absurd c (by decide), fun _ => ⟨fun c => absurd c (by decide), fun _ => ⟨fun c => absurd c (by decide), fun _ => ⟨fun c => absurd c (by decide), fun _ => ⟨fun c => absurd c (by decide), fun _ => ⟨fun _ => g, fun c => absurd rfl c⟩⟩⟩⟩⟩⟩⟩
  · obtain ⟨op, a, b, d, hv, mm⟩ := ac_138 (x := x) (y := y) hz
    refine ⟨op, a, b, d, hv, fun v T Q h hT k => ?_⟩
    have g := mm v T Q h hT k
    show Z_LAW_act x y v Q
    unfold Z_LAW_act
    rw [e]
    exact ⟨fun c => absurd c (by decide), fun _ => ⟨fun c => absurd c (by decide), fun _ => ⟨fun c => absurd c (by decide), fun _ => ⟨fun c => absurd c (by decide), fun _ => ⟨fun c => absurd c (by decide), fun _ => ⟨fun c => absurd c (by decide), fun _ => ⟨fun c => absurd c (by decide), fun _ => ⟨fun _ => g, fun c => absurd rfl c⟩⟩⟩⟩⟩⟩⟩⟩
  · obtain ⟨op, a, b, d, hv, mm⟩ := ac_138 (x := x) (y := y) hz
    refine ⟨op, a, b, d, hv, fun v T Q h hT k => ?_⟩
    have g := mm v T Q h hT k
    show Z_LAW_act x y v Q
    unfold Z_LAW_act
    rw [e]
    exact ⟨fun c => absurd c (by decide), fun _ => ⟨fun c => absurd c (by decide), fun _ => ⟨fun c => absurd c (by decide), fun _ => ⟨fun c => absurd c (by decide), fun _ => ⟨fun c => absurd c (by decide), fun _ => ⟨fun c => absurd c (by decide), fun _ => ⟨fun c => absurd c (by decide), fun _ => ⟨fun c => absurd c (by decide), fun _ => ⟨fun _ => g, fun c => absurd rfl c⟩⟩⟩⟩⟩⟩⟩⟩⟩
  · obtain ⟨op, a, b, d, hv, mm⟩ := ac_178 (x := x) (y := y) hz
    refine ⟨op, a, b, d, hv, fun v T Q h hT k => ?_⟩
    have g := mm v T Q h hT k
    show Z_LAW_act x y v Q
    unfold Z_LAW_act
    rw [e]
    exact ⟨fun c => absurd c (by decide), fun _ => ⟨fun c => absurd c (by decide), fun _ => ⟨fun c => absurd c (by decide), fun _ => ⟨fun c => absurd c (by decide), fun _ => ⟨fun c => absurd c (by decide), fun _ => ⟨fun c => absurd c (by decide), fun _ => ⟨fun c => absurd c (by decide), fun _ => ⟨fun c => absurd c (by decide), fun _ => ⟨fun c => absurd c (by decide), fun _ => ⟨fun _ => g, fun c => absurd rfl c⟩⟩⟩⟩⟩⟩⟩⟩⟩⟩
  · obtain ⟨op, a, b, d, hv, mm⟩ := ac_178 (x := x) (y := y) hz
    refine ⟨op, a, b, d, hv, fun v T Q h hT k => ?_⟩
    have g := mm v T Q h hT k
    show Z_LAW_act x y v Q
    unfold Z_LAW_act
    rw [e]
    exact ⟨fun c => absurd c (by decide), fun _ => ⟨fun c => absurd c (by decide), fun _ => ⟨fun c => absurd c (by decide), fun _ => ⟨fun c => absurd c (by decide), fun _ => ⟨fun c => absurd c (by decide), fun _ => ⟨fun c => absurd c (by decide), fun _ => ⟨fun c => absurd c (by decide), fun _ => ⟨fun c => absurd c (by decide), fun _ => ⟨fun c => absurd c (by decide), fun _ => ⟨fun c => absurd c (by decide), fun _ => ⟨fun _ => g, fun c => absurd rfl c⟩⟩⟩⟩⟩⟩⟩⟩⟩⟩⟩
  · obtain ⟨op, a, b, d, hv, mm⟩ := ac_178 (x := x) (y := y) hz
    refine ⟨op, a, b, d, hv, fun v T Q h hT k => ?_⟩
    have g := mm v T Q h hT k
    show Z_LAW_act x y v Q
    unfold Z_LAW_act
    rw [e]
    exact ⟨fun c => absurd c (by decide), fun _ => ⟨fun c => absurd c (by decide), fun _ => ⟨fun c => absurd c (by decide), fun _ => ⟨fun c => absurd c (by decide), fun _ => ⟨fun c => absurd c (by decide), fun _ => ⟨fun c => absurd c (by decide), fun _ => ⟨fun c => absurd c (by decide), fun _ => ⟨fun c => absurd c (by decide), fun _ => ⟨fun c => absurd c (by decide), fun _ => ⟨fun c => absurd c (by decide), fun _ => ⟨fun c => absurd c (by decide), fun _ => ⟨fun _ => g, fun c => absurd rfl c⟩⟩⟩⟩⟩⟩⟩⟩⟩⟩⟩⟩
  · refine ⟨3, Int.tmod y 8, 0, 0, trivial, fun v T Q h hT k => ?_⟩
    have g : Z_LAW_leave (Int.tmod y 8) v Q := q_LAW_leave h hT k
    show Z_LAW_act x y v Q
    unfold Z_LAW_act
    rw [e]
    exact ⟨fun c => absurd c (by decide), fun _ => ⟨fun c => absurd c (by decide), fun _ => ⟨fun c => absurd c (by decide), fun _ => ⟨fun c => absurd c (by decide), fun _ => ⟨fun c => absurd c (by decide), fun _ => ⟨fun c => absurd c (by decide), fun _ => ⟨fun c => absurd c (by decide), fun _ => ⟨fun c => absurd c (by decide), fun _ => ⟨fun c => absurd c (by decide), fun _ => ⟨fun c => absurd c (by decide), fun _ => ⟨fun c => absurd c (by decide), fun _ => ⟨fun c => absurd c (by decide), fun _ => ⟨fun _ => g, fun c => absurd rfl c⟩⟩⟩⟩⟩⟩⟩⟩⟩⟩⟩⟩⟩
  · obtain ⟨op, a, b, d, hv, mm⟩ := ac_216 (x := x) (y := y) (z := Int.tdiv y 32)
    refine ⟨op, a, b, d, hv, fun v T Q h hT k => ?_⟩
    have g := mm v T Q h hT k
    show Z_LAW_act x y v Q
    unfold Z_LAW_act
    rw [e]
    exact ⟨fun c => absurd c (by decide), fun _ => ⟨fun c => absurd c (by decide), fun _ => ⟨fun c => absurd c (by decide), fun _ => ⟨fun c => absurd c (by decide), fun _ => ⟨fun c => absurd c (by decide), fun _ => ⟨fun c => absurd c (by decide), fun _ => ⟨fun c => absurd c (by decide), fun _ => ⟨fun c => absurd c (by decide), fun _ => ⟨fun c => absurd c (by decide), fun _ => ⟨fun c => absurd c (by decide), fun _ => ⟨fun c => absurd c (by decide), fun _ => ⟨fun c => absurd c (by decide), fun _ => ⟨fun c => absurd c (by decide), fun _ => ⟨fun _ => g, fun c => absurd rfl c⟩⟩⟩⟩⟩⟩⟩⟩⟩⟩⟩⟩⟩⟩
  · obtain ⟨op, a, b, d, hv, mm⟩ := ac_216 (x := x) (y := y) (z := Int.tdiv y 32)
    refine ⟨op, a, b, d, hv, fun v T Q h hT k => ?_⟩
    have g := mm v T Q h hT k
    show Z_LAW_act x y v Q
    unfold Z_LAW_act
    rw [e]
    exact ⟨fun c => absurd c (by decide), fun _ => ⟨fun c => absurd c (by decide), fun _ => ⟨fun c => absurd c (by decide), fun _ => ⟨fun c => absurd c (by decide), fun _ => ⟨fun c => absurd c (by decide), fun _ => ⟨fun c => absurd c (by decide), fun _ => ⟨fun c => absurd c (by decide), fun _ => ⟨fun c => absurd c (by decide), fun _ => ⟨fun c => absurd c (by decide), fun _ => ⟨fun c => absurd c (by decide), fun _ => ⟨fun c => absurd c (by decide), fun _ => ⟨fun c => absurd c (by decide), fun _ => ⟨fun c => absurd c (by decide), fun _ => ⟨fun c => absurd c (by decide), fun _ => ⟨fun _ => g, fun c => absurd rfl c⟩⟩⟩⟩⟩⟩⟩⟩⟩⟩⟩⟩⟩⟩⟩
  · obtain ⟨op, a, b, d, hv, mm⟩ := ac_235 (x := x) (y := y) hz
    refine ⟨op, a, b, d, hv, fun v T Q h hT k => ?_⟩
    have g := mm v T Q h hT k
    show Z_LAW_act x y v Q
    unfold Z_LAW_act
    rw [e]
    exact ⟨fun c => absurd c (by decide), fun _ => ⟨fun c => absurd c (by decide), fun _ => ⟨fun c => absurd c (by decide), fun _ => ⟨fun c => absurd c (by decide), fun _ => ⟨fun c => absurd c (by decide), fun _ => ⟨fun c => absurd c (by decide), fun _ => ⟨fun c => absurd c (by decide), fun _ => ⟨fun c => absurd c (by decide), fun _ => ⟨fun c => absurd c (by decide), fun _ => ⟨fun c => absurd c (by decide), fun _ => ⟨fun c => absurd c (by decide), fun _ => ⟨fun c => absurd c (by decide), fun _ => ⟨fun c => absurd c (by decide), fun _ => ⟨fun c => absurd c (by decide), fun _ => ⟨fun c => absurd c (by decide), fun _ => ⟨fun _ => g, fun c => absurd rfl c⟩⟩⟩⟩⟩⟩⟩⟩⟩⟩⟩⟩⟩⟩⟩⟩
  · obtain ⟨op, a, b, d, hv, mm⟩ := ac_235 (x := x) (y := y) hz
    refine ⟨op, a, b, d, hv, fun v T Q h hT k => ?_⟩
    have g := mm v T Q h hT k
    show Z_LAW_act x y v Q
    unfold Z_LAW_act
    rw [e]
    exact ⟨fun c => absurd c (by decide), fun _ => ⟨fun c => absurd c (by decide), fun _ => ⟨fun c => absurd c (by decide), fun _ => ⟨fun c => absurd c (by decide), fun _ => ⟨fun c => absurd c (by decide), fun _ => ⟨fun c => absurd c (by decide), fun _ => ⟨fun c => absurd c (by decide), fun _ => ⟨fun c => absurd c (by decide), fun _ => ⟨fun c => absurd c (by decide), fun _ => ⟨fun c => absurd c (by decide), fun _ => ⟨fun c => absurd c (by decide), fun _ => ⟨fun c => absurd c (by decide), fun _ => ⟨fun c => absurd c (by decide), fun _ => ⟨fun c => absurd c (by decide), fun _ => ⟨fun c => absurd c (by decide), fun _ => ⟨fun c => absurd c (by decide), fun _ => ⟨fun _ => g, fun c => absurd rfl c⟩⟩⟩⟩⟩⟩⟩⟩⟩⟩⟩⟩⟩⟩⟩⟩⟩
  · obtain ⟨op, a, b, d, hv, mm⟩ := ac_324 (x := x) (z := Int.tdiv y 32) hy
    refine ⟨op, a, b, d, hv, fun v T Q h hT k => ?_⟩
    have g := mm v T Q h hT k
    show Z_LAW_act x y v Q
    unfold Z_LAW_act
    rw [e]
    exact ⟨fun c => absurd c (by decide), fun _ => ⟨fun c => absurd c (by decide), fun _ => ⟨fun c => absurd c (by decide), fun _ => ⟨fun c => absurd c (by decide), fun _ => ⟨fun c => absurd c (by decide), fun _ => ⟨fun c => absurd c (by decide), fun _ => ⟨fun c => absurd c (by decide), fun _ => ⟨fun c => absurd c (by decide), fun _ => ⟨fun c => absurd c (by decide), fun _ => ⟨fun c => absurd c (by decide), fun _ => ⟨fun c => absurd c (by decide), fun _ => ⟨fun c => absurd c (by decide), fun _ => ⟨fun c => absurd c (by decide), fun _ => ⟨fun c => absurd c (by decide), fun _ => ⟨fun c => absurd c (by decide), fun _ => ⟨fun c => absurd c (by decide), fun _ => ⟨fun c => absurd c (by decide), fun _ => ⟨fun _ => g, fun c => absurd rfl c⟩⟩⟩⟩⟩⟩⟩⟩⟩⟩⟩⟩⟩⟩⟩⟩⟩⟩
  · obtain ⟨op, a, b, d, hv, mm⟩ := ac_324 (x := x) (z := Int.tdiv y 32) hy
    refine ⟨op, a, b, d, hv, fun v T Q h hT k => ?_⟩
    have g := mm v T Q h hT k
    show Z_LAW_act x y v Q
    unfold Z_LAW_act
    rw [e]
    exact ⟨fun c => absurd c (by decide), fun _ => ⟨fun c => absurd c (by decide), fun _ => ⟨fun c => absurd c (by decide), fun _ => ⟨fun c => absurd c (by decide), fun _ => ⟨fun c => absurd c (by decide), fun _ => ⟨fun c => absurd c (by decide), fun _ => ⟨fun c => absurd c (by decide), fun _ => ⟨fun c => absurd c (by decide), fun _ => ⟨fun c => absurd c (by decide), fun _ => ⟨fun c => absurd c (by decide), fun _ => ⟨fun c => absurd c (by decide), fun _ => ⟨fun c => absurd c (by decide), fun _ => ⟨fun c => absurd c (by decide), fun _ => ⟨fun c => absurd c (by decide), fun _ => ⟨fun c => absurd c (by decide), fun _ => ⟨fun c => absurd c (by decide), fun _ => ⟨fun c => absurd c (by decide), fun _ => ⟨fun c => absurd c (by decide), fun _ => ⟨fun _ => g, fun c => absurd rfl c⟩⟩⟩⟩⟩⟩⟩⟩⟩⟩⟩⟩⟩⟩⟩⟩⟩⟩⟩
  · obtain ⟨op, a, b, d, hv, mm⟩ := ac_324 (x := x) (z := Int.tdiv y 32) hy
    refine ⟨op, a, b, d, hv, fun v T Q h hT k => ?_⟩
    have g := mm v T Q h hT k
    show Z_LAW_act x y v Q
    unfold Z_LAW_act
    rw [e]
    exact ⟨fun c => absurd c (by decide), fun _ => ⟨fun c => absurd c (by decide), fun _ => ⟨fun c => absurd c (by decide), fun _ => ⟨fun c => absurd c (by decide), fun _ => ⟨fun c => absurd c (by decide), fun _ => ⟨fun c => absurd c (by decide), fun _ => ⟨fun c => absurd c (by decide), fun _ => ⟨fun c => absurd c (by decide), fun _ => ⟨fun c => absurd c (by decide), fun _ => ⟨fun c => absurd c (by decide), fun _ => ⟨fun c => absurd c (by decide), fun _ => ⟨fun c => absurd c (by decide), fun _ => ⟨fun c => absurd c (by decide), fun _ => ⟨fun c => absurd c (by decide), fun _ => ⟨fun c => absurd c (by decide), fun _ => ⟨fun c => absurd c (by decide), fun _ => ⟨fun c => absurd c (by decide), fun _ => ⟨fun c => absurd c (by decide), fun _ => ⟨fun c => absurd c (by decide), fun _ => ⟨fun _ => g, fun c => absurd rfl c⟩⟩⟩⟩⟩⟩⟩⟩⟩⟩⟩⟩⟩⟩⟩⟩⟩⟩⟩⟩
  · obtain ⟨op, a, b, d, hv, mm⟩ := ac_324 (x := x) (z := Int.tdiv y 32) hy
    refine ⟨op, a, b, d, hv, fun v T Q h hT k => ?_⟩
    have g := mm v T Q h hT k
    show Z_LAW_act x y v Q
    unfold Z_LAW_act
    rw [e]
    exact ⟨fun c => absurd c (by decide), fun _ => ⟨fun c => absurd c (by decide), fun _ => ⟨fun c => absurd c (by decide), fun _ => ⟨fun c => absurd c (by decide), fun _ => ⟨fun c => absurd c (by decide), fun _ => ⟨fun c => absurd c (by decide), fun _ => ⟨fun c => absurd c (by decide), fun _ => ⟨fun c => absurd c (by decide), fun _ => ⟨fun c => absurd c (by decide), fun _ => ⟨fun c => absurd c (by decide), fun _ => ⟨fun c => absurd c (by decide), fun _ => ⟨fun c => absurd c (by decide), fun _ => ⟨fun c => absurd c (by decide), fun _ => ⟨fun c => absurd c (by decide), fun _ => ⟨fun c => absurd c (by decide), fun _ => ⟨fun c => absurd c (by decide), fun _ => ⟨fun c => absurd c (by decide), fun _ => ⟨fun c => absurd c (by decide), fun _ => ⟨fun c => absurd c (by decide), fun _ => ⟨fun c => absurd c (by decide), fun _ => ⟨fun _ => g, fun c => absurd rfl c⟩⟩⟩⟩⟩⟩⟩⟩⟩⟩⟩⟩⟩⟩⟩⟩⟩⟩⟩⟩⟩
  · refine ⟨7, 0, 0, 0, trivial, fun v T Q h hT k => ?_⟩
    have g : Z_LAW_undo v Q := q_LAW_undo h k
    show Z_LAW_act x y v Q
    unfold Z_LAW_act
    rw [e]
    exact ⟨fun c => absurd c (by decide), fun _ => ⟨fun c => absurd c (by decide), fun _ => ⟨fun c => absurd c (by decide), fun _ => ⟨fun c => absurd c (by decide), fun _ => ⟨fun c => absurd c (by decide), fun _ => ⟨fun c => absurd c (by decide), fun _ => ⟨fun c => absurd c (by decide), fun _ => ⟨fun c => absurd c (by decide), fun _ => ⟨fun c => absurd c (by decide), fun _ => ⟨fun c => absurd c (by decide), fun _ => ⟨fun c => absurd c (by decide), fun _ => ⟨fun c => absurd c (by decide), fun _ => ⟨fun c => absurd c (by decide), fun _ => ⟨fun c => absurd c (by decide), fun _ => ⟨fun c => absurd c (by decide), fun _ => ⟨fun c => absurd c (by decide), fun _ => ⟨fun c => absurd c (by decide), fun _ => ⟨fun c => absurd c (by decide), fun _ => ⟨fun c => absurd c (by decide), fun _ => ⟨fun c => absurd c (by decide), fun _ => ⟨fun c => absurd c (by decide), fun _ => ⟨fun _ => g, fun c => absurd rfl c⟩⟩⟩⟩⟩⟩⟩⟩⟩⟩⟩⟩⟩⟩⟩⟩⟩⟩⟩⟩⟩⟩
  · refine ⟨7, 0, 0, 0, trivial, fun v T Q h hT k => ?_⟩
    have g : Z_LAW_undo v Q := q_LAW_undo h k
    show Z_LAW_act x y v Q
    unfold Z_LAW_act
    rw [e]
    exact ⟨fun c => absurd c (by decide), fun _ => ⟨fun c => absurd c (by decide), fun _ => ⟨fun c => absurd c (by decide), fun _ => ⟨fun c => absurd c (by decide), fun _ => ⟨fun c => absurd c (by decide), fun _ => ⟨fun c => absurd c (by decide), fun _ => ⟨fun c => absurd c (by decide), fun _ => ⟨fun c => absurd c (by decide), fun _ => ⟨fun c => absurd c (by decide), fun _ => ⟨fun c => absurd c (by decide), fun _ => ⟨fun c => absurd c (by decide), fun _ => ⟨fun c => absurd c (by decide), fun _ => ⟨fun c => absurd c (by decide), fun _ => ⟨fun c => absurd c (by decide), fun _ => ⟨fun c => absurd c (by decide), fun _ => ⟨fun c => absurd c (by decide), fun _ => ⟨fun c => absurd c (by decide), fun _ => ⟨fun c => absurd c (by decide), fun _ => ⟨fun c => absurd c (by decide), fun _ => ⟨fun c => absurd c (by decide), fun _ => ⟨fun c => absurd c (by decide), fun _ => ⟨fun c => absurd c (by decide), fun _ => ⟨fun _ => g, fun c => absurd rfl c⟩⟩⟩⟩⟩⟩⟩⟩⟩⟩⟩⟩⟩⟩⟩⟩⟩⟩⟩⟩⟩⟩⟩
  · by_cases q : Int.tmod (Int.tdiv y 32) 2 = 0
    · refine ⟨8, zandZ (Int.tdiv (Int.tdiv y 32) 2) 1, 0, 0, trivial, fun v T Q h hT k => ?_⟩
      have g : Z_LAW_save (zandZ (Int.tdiv (Int.tdiv y 32) 2) 1) v Q := q_LAW_save h k
      show Z_LAW_act x y v Q
      unfold Z_LAW_act
      rw [e]
      exact ⟨fun c => absurd c (by decide), fun _ => ⟨fun c => absurd c (by decide), fun _ => ⟨fun c => absurd c (by decide), fun _ => ⟨fun c => absurd c (by decide), fun _ => ⟨fun c => absurd c (by decide), fun _ => ⟨fun c => absurd c (by decide), fun _ => ⟨fun c => absurd c (by decide), fun _ => ⟨fun c => absurd c (by decide), fun _ => ⟨fun c => absurd c (by decide), fun _ => ⟨fun c => absurd c (by decide), fun _ => ⟨fun c => absurd c (by decide), fun _ => ⟨fun c => absurd c (by decide), fun _ => ⟨fun c => absurd c (by decide), fun _ => ⟨fun c => absurd c (by decide), fun _ => ⟨fun c => absurd c (by decide), fun _ => ⟨fun c => absurd c (by decide), fun _ => ⟨fun c => absurd c (by decide), fun _ => ⟨fun c => absurd c (by decide), fun _ => ⟨fun c => absurd c (by decide), fun _ => ⟨fun c => absurd c (by decide), fun _ => ⟨fun c => absurd c (by decide), fun _ => ⟨fun c => absurd c (by decide), fun _ => ⟨fun c => absurd c (by decide), fun _ => ⟨fun c => absurd q c, fun _ => g⟩⟩⟩⟩⟩⟩⟩⟩⟩⟩⟩⟩⟩⟩⟩⟩⟩⟩⟩⟩⟩⟩⟩⟩
    · refine ⟨9, zandZ (Int.tdiv (Int.tdiv y 32) 2) 1, 0, 0, trivial, fun v T Q h hT k => ?_⟩
      have g : Z_LAW_restore (zandZ (Int.tdiv (Int.tdiv y 32) 2) 1) v Q := q_LAW_restore h k
      show Z_LAW_act x y v Q
      unfold Z_LAW_act
      rw [e]
      exact ⟨fun c => absurd c (by decide), fun _ => ⟨fun c => absurd c (by decide), fun _ => ⟨fun c => absurd c (by decide), fun _ => ⟨fun c => absurd c (by decide), fun _ => ⟨fun c => absurd c (by decide), fun _ => ⟨fun c => absurd c (by decide), fun _ => ⟨fun c => absurd c (by decide), fun _ => ⟨fun c => absurd c (by decide), fun _ => ⟨fun c => absurd c (by decide), fun _ => ⟨fun c => absurd c (by decide), fun _ => ⟨fun c => absurd c (by decide), fun _ => ⟨fun c => absurd c (by decide), fun _ => ⟨fun c => absurd c (by decide), fun _ => ⟨fun c => absurd c (by decide), fun _ => ⟨fun c => absurd c (by decide), fun _ => ⟨fun c => absurd c (by decide), fun _ => ⟨fun c => absurd c (by decide), fun _ => ⟨fun c => absurd c (by decide), fun _ => ⟨fun c => absurd c (by decide), fun _ => ⟨fun c => absurd c (by decide), fun _ => ⟨fun c => absurd c (by decide), fun _ => ⟨fun c => absurd c (by decide), fun _ => ⟨fun c => absurd c (by decide), fun _ => ⟨fun _ => g, fun c => absurd c q⟩⟩⟩⟩⟩⟩⟩⟩⟩⟩⟩⟩⟩⟩⟩⟩⟩⟩⟩⟩⟩⟩⟩⟩
end AC
end AL
