/-! ### the law's calls, over the machine's values -/
def SimP (T : Int) (v w : TT) : Prop := TOK (aT v) T ∧ TOK (aT w) T ∧ TEq (aT v) (aT w)
theorem one32 {r : Int32} (h : r.toInt = 1) : r = 1 := Int32.toInt_inj.mp (by rw [h]; rfl)
section KQ
variable {v w : TT} {T : Int} {x y : Int32}
theorem x_rng {x : Int32} (h : 0 ≤ x.toInt) : 0 ≤ x.toInt ∧ x.toInt < 2147483648 := ⟨h, x.toInt_lt⟩
theorem ka_alike (h : SimP T v w) (hT : T + 6000 ≤ 5000000) (hx : 0 ≤ x.toInt) : P_LAW_alike x v w (fun r v' w' => r = 1 ∧ SimP T v' w') :=
  z_LAW_alike (Qz := fun r v' w' => r = 1 ∧ TOK v' T ∧ TOK w' T ∧ TEq v' w') rfl rfl rfl (fun a0 a1 a2 q => ⟨one32 q.1, q.2⟩) (q_LAW_alike (x_rng hx) h.1 h.2.1 h.2.2 hT (fun v' w' s t => ⟨rfl, s.tok h.1, t.tok h.2.1, h.2.2.sam s t⟩))
theorem ke_left (h : SimP T v w) (hT : T + 6000 ≤ 5000000) : P_LAW_errors v (fun r v' => r = 1 ∧ SimP T v' w) :=
  z_LAW_errors (Qz := fun r v' => r = 1 ∧ v' = aT v) rfl (fun a0 a1 q => ⟨one32 q.1, by
    have e : aT a1 = aT v := q.2
    unfold SimP
    rw [e]
    exact h⟩) (q_LAW_errors h.1 hT ⟨rfl, rfl⟩)
theorem ke_right (h : SimP T v w) (hT : T + 6000 ≤ 5000000) : P_LAW_errors w (fun r w' => r = 1 ∧ SimP T v w') :=
  z_LAW_errors (Qz := fun r v' => r = 1 ∧ v' = aT w) rfl (fun a0 a1 q => ⟨one32 q.1, by
    have e : aT a1 = aT w := q.2
    unfold SimP
    rw [e]
    exact h⟩) (q_LAW_errors h.2.1 hT ⟨rfl, rfl⟩)
theorem kk_left (h : SimP T v w) : P_LAW_kept v (fun r => r = 1) := z_LAW_kept (Qz := fun r => r = 1) rfl (fun a0 q => one32 q) (q_LAW_kept h.1 rfl)
theorem kk_right (h : SimP T v w) : P_LAW_kept w (fun r => r = 1) := z_LAW_kept (Qz := fun r => r = 1) rfl (fun a0 q => one32 q) (q_LAW_kept h.2.1 rfl)
/-- the text told -/
def TldP (x : Int) (v v' : TT) : Prop := ∃ x', XL x' (txL x) ∧ XOT x' ∧ aT v' = Tz_set_text (aT v) x'
theorem kt_told (h : TOK (aT v) T) (hx : 0 ≤ x.toInt) : P_LAW_told x v (fun r v' => r = 1 ∧ TldP x.toInt v v') :=
  z_LAW_told (Qz := fun r v' => r = 1 ∧ ∃ x', XL x' (txL x.toInt) ∧ XOT x' ∧ v' = Tz_set_text (aT v) x') rfl rfl (fun a0 a1 q => ⟨one32 q.1, q.2⟩) (q_LAW_told hx x.toInt_lt h.2.2.2 (fun x' g o => ⟨rfl, x', g, o, rfl⟩))
theorem TldP.tok {v' : TT} (t : TldP x.toInt v v') (h : TOK (aT v) T) : TOK (aT v') T := by
  obtain ⟨x', g, o, e⟩ := t
  rw [e]
  exact ⟨h.1, h.2.1, h.2.2.1, o⟩
theorem TldP.sim {v' w' : TT} (h : SimP T v w) (t : TldP x.toInt v v') (u : TldP x.toInt w w') : SimP T v' w' := by
  refine ⟨t.tok h.1, u.tok h.2.1, ?_⟩
  obtain ⟨x', g, o, e⟩ := t
  obtain ⟨x2, g2, o2, e2⟩ := u
  rw [e, e2]
  exact ⟨h.2.2.1, h.2.2.2.1, h.2.2.2.2.1, g.eq g2⟩
theorem kt_load {v' : TT} (h : TOK (aT v) T) (hx : 0 ≤ x.toInt) (t : TldP x.toInt v v') : P_LAW_load v' (fun r v2 => lodR (aT v') r.toInt (aT v2)) := by
  have ht := t.tok h
  obtain ⟨x', g, o, e⟩ := t
  refine z_LAW_load (Qz := fun r v2 => lodR (aT v') r v2) rfl (fun a0 a1 q => q) (q_LAW_load ht ?_ (fun r v2 q => q))
  have et : Tz_text (aT v') = x' := by rw [e]
  rw [et]
  exact errA_tx hx x.toInt_lt g
theorem kt_end {v' w' v2 w2 : TT} {a b : Int64} (hT : T + 6000 ≤ 5000000) (h : SimP T v' w') (e1 : lodR (aT v') a.toInt (aT v2)) (e2 : lodR (aT w') b.toInt (aT w2)) : a = b ∧ SimP (T + 6000) v2 w2 := by
  have g := h.2.2.lod e1 e2
  exact ⟨Int64.toInt_inj.mp g.1, h.1.lod hT e1, h.2.1.lod hT e2, g.2⟩
theorem kc_act (hT : T + 99 ≤ 5000000) (h : SimP T v w) (hx : 0 ≤ x.toInt) (hy : 0 ≤ y.toInt) : P_LAW_act x y v (fun a v' => P_LAW_act x y w (fun b w' => a = b ∧ SimP (T + 99) v' w')) := by
  obtain ⟨op, a, b, d, hv, m⟩ := act_is (x := x.toInt) (y := y.toInt) hx hy
  refine z_LAW_act (Qz := fun r v' => CR op a b d (aT v) r v') rfl rfl rfl (fun a0 a1 q => ?_) (m (aT v) T _ h.1 hT (fun r v' q => q))
  refine z_LAW_act (Qz := fun r w' => CR op a b d (aT w) r w') rfl rfl rfl (fun b0 b1 q2 => ?_) (m (aT w) T _ h.2.1 hT (fun r v' q => q))
  have g := h.2.2.cr h.2.1 hT hv q q2
  exact ⟨Int64.toInt_inj.mp g.1, h.1.cr hT hv q, h.2.1.cr hT hv q2, g.2⟩
theorem kf_follows (hT : T + 6000 ≤ 5000000) (h : SimP T v w) (hy : 0 ≤ y.toInt) : P_LAW_follows y w (fun r w' => r = 1 ∧ FinR (aT w) (aT w') (T + 891)) :=
  z_LAW_follows (Qz := fun r w' => r = 1 ∧ FinR (aT w) w' (T + 891)) rfl rfl (fun a0 a1 q => ⟨one32 q.1, q.2⟩) (q_LAW_follows hy h.2.1 hT (fun v' q => ⟨rfl, q⟩))
theorem kf_save (h : TOK (aT v) T) : P_LAW_save 1 v (fun r v1 => 0 ≤ r.toInt ∧ savR 1 (aT v) r.toInt (aT v1)) := by
  refine z_LAW_save (Qz := fun r v1 => 0 ≤ r ∧ savR 1 (aT v) r v1) (show (1 : Int32).toInt = 1 from rfl) rfl (fun a0 a1 q => q) (q_LAW_save h (fun r v1 q => ⟨?_, q⟩))
  have t0 := h.1.1.2.1
  rcases q with ⟨n, -⟩ | ⟨-, z, -, er, -⟩
  · exact absurd (by decide) n
  · omega
theorem kf_restore {v1 : TT} {a : Int64} (h : TOK (aT v) T) (e : savR 1 (aT v) a.toInt (aT v1)) : P_LAW_restore 1 v1 (fun r v2 => 0 ≤ r.toInt ∧ rstR 1 (aT v1) r.toInt (aT v2)) := by
  have h1 := h.sav e
  refine z_LAW_restore (Qz := fun r v2 => 0 ≤ r ∧ rstR 1 (aT v1) r v2) (show (1 : Int32).toInt = 1 from rfl) rfl (fun a0 a1 q => q) (q_LAW_restore h1 (fun r v2 q => ⟨?_, q⟩))
  rcases e with ⟨n, -⟩ | ⟨-, z0, ez0, -, ev⟩
  · exact absurd (by decide) n
  · have f1 : Tz_filled (aT v1) (Int.toNat 1) = 1 := by
      rw [ev]
      rfl
    have gs := (h1.2.2.1 1 (by decide)).2 f1
    rcases q with ⟨n, -⟩ | ⟨-, n, -⟩ | ⟨-, n, z, ez, er, -⟩
    · exact absurd (by decide) n
    · exact absurd (n.symm.trans f1) (by decide)
    · have t0 := (gs.1.eq ez).2.1
      omega
theorem kf_end {v1 v2 w' : TT} {a b : Int64} (hT : T + 6000 ≤ 5000000) (h : SimP T v w) (f : FinR (aT w) (aT w') (T + 891)) (e1 : savR 1 (aT v) a.toInt (aT v1)) (e2 : rstR 1 (aT v1) b.toInt (aT v2)) : SimP (T + 891) v2 w' := by
  have hv2 := (h.1.sav e1).rst e2
  obtain ⟨⟨f1, f2, ⟨f3, f4⟩, ⟨f5, f6⟩, -⟩, f7, f8, f9⟩ := f
  obtain ⟨t1, t2, t3, t4⟩ := h.2.2
  refine ⟨hv2.mono (by omega) (by omega), f1, ?_⟩
  rcases e1 with ⟨n, -⟩ | ⟨-, z0, ez0, -, ev⟩
  · exact absurd (by decide) n
  · rcases e2 with ⟨n, -⟩ | ⟨-, n, -⟩ | ⟨-, n, z, ez, er, ev2⟩
    · exact absurd (by decide) n
    · rw [ev] at n
      exact absurd (show (1 : Int) = 0 from n) (by decide)
    · have e3 : SEq (Tz_slots (aT v1) (Int.toNat 1)) (Tz_state (aT v)) := by
        rw [ev]
        exact ez0
      rw [ev2, ev]
      refine ⟨(ez.trans e3).trans (t1.trans f7.symm), ⟨⟨f9.symm, f8.symm⟩, fun j j0 j1 => absurd j1 (by omega)⟩, fun i hi => ?_, ?_⟩
      · match i, hi with
        | 0, _ =>
          show Tz_filled (aT v) 0 = Tz_filled (aT w') 0 ∧ (Tz_filled (aT w') 0 = 1 → SEq (Tz_slots (aT v) 0) (Tz_slots (aT w') 0))
          rw [f3, f4]
          exact t3 0 (by decide)
        | 1, _ =>
          show (1 : Int) = Tz_filled (aT w') 1 ∧ (Tz_filled (aT w') 1 = 1 → SEq z0 (Tz_slots (aT w') 1))
          exact ⟨f5.symm, fun _ => ez0.trans (t1.trans f6.symm)⟩
      · show XEq (Tz_text (aT v)) (Tz_text (aT w'))
        rw [f2]
        exact t4
/-! the start -/
theorem freshS_S0 : FreshS (aS S0) := by
  refine ⟨⟨rfl, rfl, rfl, rfl, rfl, rfl, fun k hk => ?_⟩, fun n hn => ⟨rfl, rfl, rfl⟩, fun k hk => ?_, rfl⟩
  · match k, hk with
    | 0, _ => rfl
    | 1, _ => rfl
    | 2, _ => rfl
    | 3, _ => rfl
    | 4, _ => rfl
    | 5, _ => rfl
    | 6, _ => rfl
    | 7, _ => rfl
  · match k, hk with
    | 0, _ => rfl
    | 1, _ => rfl
    | 2, _ => rfl
    | 3, _ => rfl
    | 4, _ => rfl
    | 5, _ => rfl
theorem tok_T0 : TOK (aT T0) 0 := by
  refine ⟨⟨freshS_S0.ok (by decide), freshS_S0.kok⟩, ⟨⟨?_, ?_⟩, fun j j0 j1 => absurd (show j < 0 from j1) (by omega)⟩, fun i hi => ⟨Or.inl rfl, fun z => absurd (show (0 : Int) = 1 from z) (by decide)⟩, ⟨?_, fun k hk => absurd (show (k : Int) < 0 from hk) (by omega)⟩⟩
  · show (0 : Int) ≤ 0 ∧ (0 : Int) < 14
    decide
  · show (0 : Int) ≤ 0 ∧ (0 : Int) ≤ 14
    decide
  · show (0 : Int) ≤ 0 ∧ (0 : Int) ≤ 120
    decide
theorem sim_T0 : SimP 0 T0 T0 := ⟨tok_T0, tok_T0, SEq.refl, ⟨⟨rfl, rfl⟩, fun _ _ _ => SEq.refl⟩, fun _ _ => ⟨rfl, fun _ => SEq.refl⟩, ⟨rfl, fun _ _ => rfl⟩⟩
theorem SimP.mono {T' : Int} (h : SimP T v w) (e : T ≤ T') (hT : T' ≤ 5000000) : SimP T' v w := ⟨h.1.mono e hT, h.2.1.mono e hT, h.2.2⟩
end KQ
