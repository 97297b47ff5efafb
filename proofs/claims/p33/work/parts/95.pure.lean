/-! ### a load -/
/-- the state begun anew, where what was before lies still -/
def RenS (x z : SZ) : Prop := FreshS z ∧ (∀ i : Nat, i < 200 → Lz_keys (Sz_log z) i = Lz_keys (Sz_log x) i ∧ Lz_values (Sz_log z) i = Lz_values (Sz_log x) i ∧ Lz_times (Sz_log z) i = Lz_times (Sz_log x) i ∧ Lz_starts (Sz_log z) i = Lz_starts (Sz_log x) i) ∧ (∀ i : Nat, i < 201 → Lz_lengthsBelow (Sz_log z) i = Lz_lengthsBelow (Sz_log x) i) ∧ ∀ n : Nat, n < 8 → Rz_values (Sz_readers z n) = Rz_values (Sz_readers x n) ∧ (Sz_readers z n).2.2.2.2 = (Sz_readers x n).2.2.2.2
section RN
variable {x y : SZ}
theorem q_S_renew2 {Q : SZ → Prop} (h : Lz_lengthsBelow (Sz_log x) 0 = 0) (k : ∀ z, RenS x z → Q z) : Z_S_renew x Q := by
  unfold Z_S_renew
  refine q_L_renew (fun d hd => ?_)
  rintro _ rfl
  have key : ∀ (n i : Nat) (rs : Nat → RZ), i + n = 8 → (∀ m : Nat, m < i → Rz_present (rs m) = 0 ∧ Rz_hasLeft (rs m) = 0 ∧ Rz_held (rs m) = 0) → (∀ m : Nat, Rz_values (rs m) = Rz_values (Sz_readers x m) ∧ (rs m).2.2.2.2 = (Sz_readers x m).2.2.2.2) → ZL_S_renew_9 (n + 1) i (Sz_set_readers (Sz_set_log x (Lz_keys (Sz_log x), Lz_values (Sz_log x), Lz_times (Sz_log x), Lz_lengthsBelow (Sz_log x), Lz_starts (Sz_log x), d, 0, 0, 0, 0, 0)) rs) Q := by
    intro n
    induction n with
    | zero =>
      intro i rs hi hr hv
      rw [ZL_S_renew_9]
      refine ⟨fun _ => q_copy (by decide) ?_, fun c => absurd c (by omega)⟩
      rintro _ rfl _ rfl _ rfl _ rfl _ rfl
      exact k _ ⟨⟨⟨rfl, rfl, rfl, rfl, rfl, h, hd⟩, fun m hm => hr m (by omega), fun m hm => zcpz_lt hm, rfl⟩, fun _ _ => ⟨rfl, rfl, rfl, rfl⟩, fun _ _ => rfl, fun m _ => hv m⟩
    | succ n ih =>
      intro i rs hi hr hv
      rw [ZL_S_renew_9]
      refine ⟨fun c => absurd c (by omega), fun _ => ⟨by omega, ?_⟩⟩
      unfold Z_R_renew
      rintro _ rfl _ rfl _ rfl _ rfl
      refine ⟨by omega, ih (i + 1) _ (by omega) (fun m hm => ?_) (fun m => ?_)⟩
      · by_cases q : m = ((i : Int)).toNat
        · show Rz_present (if m = ((i : Int)).toNat then _ else rs m) = 0 ∧ Rz_hasLeft (if m = ((i : Int)).toNat then _ else rs m) = 0 ∧ Rz_held (if m = ((i : Int)).toNat then _ else rs m) = 0
          rw [if_pos q]
          exact ⟨rfl, rfl, rfl⟩
        · show Rz_present (if m = ((i : Int)).toNat then _ else rs m) = 0 ∧ Rz_hasLeft (if m = ((i : Int)).toNat then _ else rs m) = 0 ∧ Rz_held (if m = ((i : Int)).toNat then _ else rs m) = 0
          rw [if_neg q]
          exact hr m (by omega)
      · by_cases q : m = ((i : Int)).toNat
        · show Rz_values (if m = ((i : Int)).toNat then _ else rs m) = _ ∧ (if m = ((i : Int)).toNat then _ else rs m : RZ).2.2.2.2 = _
          rw [if_pos q]
          rw [q]
          exact hv _
        · show Rz_values (if m = ((i : Int)).toNat then _ else rs m) = _ ∧ (if m = ((i : Int)).toNat then _ else rs m : RZ).2.2.2.2 = _
          rw [if_neg q]
          exact hv m
  exact ⟨_, key 8 0 (Sz_readers x) rfl (fun m hm => absurd hm (by omega)) (fun m => ⟨rfl, rfl⟩)⟩
theorem RenS.same {z w : SZ} (e : SEq x y) (h : RenS x z) (g : RenS y w) : SEq z w := by
  obtain ⟨⟨⟨a1, a2, a3, a4, a5, a6, a7⟩, a8, a9, a10⟩, b1, b2, b3⟩ := h
  obtain ⟨⟨⟨c1, c2, c3, c4, c5, c6, c7⟩, c8, c9, c10⟩, d1, d2, d3⟩ := g
  refine ⟨⟨⟨a1.trans c1.symm, a2.trans c2.symm, a3.trans c3.symm, a4.trans c4.symm, a5.trans c5.symm⟩, fun i hi => ?_, fun i hi => ?_, fun k hk => (a7 k hk).trans (c7 k hk).symm⟩, fun n hn => ?_, fun k hk => (a9 k hk).trans (c9 k hk).symm, a10.trans c10.symm⟩
  · obtain ⟨p1, p2, p3, p4⟩ := b1 i hi
    obtain ⟨q1, q2, q3, q4⟩ := d1 i hi
    obtain ⟨r1, r2, r3, r4⟩ := e.1.2.1 i hi
    exact ⟨by rw [p1, q1, r1], by rw [p2, q2, r2], by rw [p3, q3, r3], by rw [p4, q4, r4]⟩
  · rw [b2 i hi, d2 i hi, e.1.2.2.1 i hi]
  · obtain ⟨p1, p2⟩ := b3 n hn
    obtain ⟨q1, q2⟩ := d3 n hn
    obtain ⟨r1, r2, r3⟩ := a8 n hn
    obtain ⟨s1, s2, s3⟩ := c8 n hn
    have er := e.2.1 n hn
    have e4 : (Sz_readers x n).2.2.2.2 = (Sz_readers y n).2.2.2.2 := congrArg (fun q => q.2.2.2) er.2
    refine ⟨fun k hk => by rw [p1, q1]; exact er.1 k hk, ?_⟩
    show (Rz_present (Sz_readers z n), Rz_hasLeft (Sz_readers z n), Rz_held (Sz_readers z n), (Sz_readers z n).2.2.2.2) = (Rz_present (Sz_readers w n), Rz_hasLeft (Sz_readers w n), Rz_held (Sz_readers w n), (Sz_readers w n).2.2.2.2)
    rw [r1, r2, r3, s1, s2, s3, p2, q2, e4]
end RN
section LD
variable {v w v' w' : TZ} {T r r2 : Int} {cs : Int → Int} {L : Int}
theorem prs_good {p : Int} (h : (prs cs p).2.2.2.1 = 1) : aOf (cs p) ≠ -1 := by
  intro e
  unfold prs at h
  rw [if_pos e] at h
  exact absurd (show (0 : Int) = 1 from h) (by decide)
theorem ldR.ok : ∀ (n : Nat) (p : Int) {σ τ : SZ} {l T : Int}, GOK σ T → T + 99 * n ≤ 5000000 → ldR cs L n p σ l τ → GOK τ (T + 99 * n) := by
  intro n
  induction n with
  | zero =>
    intro p σ τ l T h hT e
    obtain ⟨-, rfl⟩ := e
    exact h.mono (by omega) (by omega)
  | succ n ih =>
    intro p σ τ l T h hT e
    have e : if p < L ∧ (prs cs p).2.2.2.1 = 1 then ∃ r σ' l', attR σ (aOf (cs p)).toNat (prs cs p).1 (prs cs p).2.1 (prs cs p).2.2.1 r σ' ∧ ldR cs L n (prs cs p).2.2.2.2 σ' l' τ ∧ l = (1 - r) + l' else l = 0 ∧ τ = σ := e
    by_cases q : p < L ∧ (prs cs p).2.2.2.1 = 1
    · rw [if_pos q] at e
      obtain ⟨r, σ', l', e1, e2, -⟩ := e
      have hg := prs_good q.2
      have h' : GOK σ' (T + 99) := by
        rcases e1 with ⟨o, -, x, e3⟩ | ⟨-, -, e3⟩
        · exact h.res (by omega) (prs_val hg) o e3
        · rw [e3]
          exact h.mono (by omega) (by omega)
      have g := ih _ h' (by omega) e2
      rw [show T + 99 * ((n + 1 : Nat) : Int) = T + 99 + 99 * (n : Int) by omega]
      exact g
    · rw [if_neg q] at e
      rw [e.2]
      exact h.mono (by omega) (by omega)
theorem SEq.ld : ∀ (n : Nat) (p : Int) {x y τ τ2 : SZ} {l l2 T : Int}, SOK y T → T + 99 * n ≤ 5000000 → SEq x y → ldR cs L n p x l τ → ldR cs L n p y l2 τ2 → l = l2 ∧ SEq τ τ2 := by
  intro n
  induction n with
  | zero =>
    intro p x y τ τ2 l l2 T h hT e e1 e2
    obtain ⟨a1, rfl⟩ := e1
    obtain ⟨b1, rfl⟩ := e2
    exact ⟨a1.trans b1.symm, e⟩
  | succ n ih =>
    intro p x y τ τ2 l l2 T h hT e e1 e2
    have e1 : if p < L ∧ (prs cs p).2.2.2.1 = 1 then ∃ r σ' l', attR x (aOf (cs p)).toNat (prs cs p).1 (prs cs p).2.1 (prs cs p).2.2.1 r σ' ∧ ldR cs L n (prs cs p).2.2.2.2 σ' l' τ ∧ l = (1 - r) + l' else l = 0 ∧ τ = x := e1
    have e2 : if p < L ∧ (prs cs p).2.2.2.1 = 1 then ∃ r σ' l', attR y (aOf (cs p)).toNat (prs cs p).1 (prs cs p).2.1 (prs cs p).2.2.1 r σ' ∧ ldR cs L n (prs cs p).2.2.2.2 σ' l' τ2 ∧ l2 = (1 - r) + l' else l2 = 0 ∧ τ2 = y := e2
    by_cases q : p < L ∧ (prs cs p).2.2.2.1 = 1
    · rw [if_pos q] at e1 e2
      obtain ⟨r, σ', l', a1, a2, a3⟩ := e1
      obtain ⟨r2, σ2, l3, b1, b2, b3⟩ := e2
      have hg := prs_good q.2
      have hi := aOf_in (c := cs p)
      have g := SEq.att h (by omega) e a1 b1 (by omega) (prs_val hg)
      have hy := (attR.ok h (by omega) b1 (prs_val hg)).1
      have g2 := ih _ hy (by omega) g.2 a2 b2
      exact ⟨by rw [a3, b3, g.1, g2.1], g2.2⟩
    · rw [if_neg q] at e1 e2
      rw [e1.1, e1.2, e2.1, e2.2]
      exact ⟨rfl, e⟩
def lodR (v : TZ) (r : Int) (v' : TZ) : Prop := ∃ z τ x', ∃ f : Nat → Int, RenS (Tz_state v) z ∧ ldR (csX (Tz_text v)) (Xz_length (Tz_text v)) 60 1 z r τ ∧ XEq x' (Tz_text v) ∧ (f 0 = 0 ∧ f 1 = 0) ∧ v' = (x', τ, Tz_trial v, fgH (Tz_history v), Tz_slots v, f)
theorem q_LAW_load {Q : Int → TZ → Prop} (h : TOK v T) (he : errA (csX (Tz_text v)) (Xz_length (Tz_text v)) = -1) (k : ∀ r v', lodR v r v' → Q r v') : Z_LAW_load v Q := by
  have hx := h.2.2.2.ok
  unfold Z_LAW_load Z_T_load
  refine q_findError hx (fun p' wr ac a b c => ?_)
  rintro _ rfl
  refine ⟨fun er => ?_, fun er => absurd he er⟩
  refine q_S_renew2 (x := Tz_state v) h.1.1.1.2.1.1 (fun z hz => ?_)
  rintro _ rfl
  unfold Z_H_forget
  rintro _ rfl _ rfl _ rfl
  have hs := hz.1.ok (T := 0) (by decide)
  have run : ∀ f : Nat → Int, f 0 = 0 → f 1 = 0 → Z_X_runOn (xS (Tz_text v) p' wr ac a b c) z (fun r39_ v43_ v44_ => ∀ v52_, v52_ = Tz_set_text (xS (Tz_text v) p' wr ac a b c, z, Tz_trial v, Hz_set_count (Hz_set_next (Tz_history v) 0) 0, Tz_slots v, f) v43_ → ∀ v57_, v57_ = Tz_set_state v52_ v44_ → Q r39_ v57_) := by
    intro f f0 f1
    have hx2 : XOK (xS (Tz_text v) p' wr ac a b c) (csX (Tz_text v)) := hx
    refine q_runOn hx2 hs (by decide) he (fun l τ p2 wr2 ac2 a2 b2 c2 pr sτ => ?_)
    rintro _ rfl _ rfl
    exact k _ _ ⟨z, τ, xS (xS (Tz_text v) p' wr ac a b c) p2 wr2 ac2 a2 b2 c2, f, hz, pr, ⟨rfl, fun _ _ => rfl⟩, ⟨f0, f1⟩, rfl⟩
  refine ⟨3, ?_⟩
  rw [ZL_T_load_37]
  refine ⟨fun y => absurd y (by decide), fun _ => ⟨by decide, ?_⟩⟩
  rintro _ rfl
  refine ⟨by decide, ?_⟩
  rw [ZL_T_load_37]
  refine ⟨fun y => absurd y (by decide), fun _ => ⟨by decide, ?_⟩⟩
  rintro _ rfl
  refine ⟨by decide, ?_⟩
  rw [ZL_T_load_37]
  refine ⟨fun _ => ?_, fun y => absurd (show (2 : Int) ≤ 0 + 1 + 1 by decide) y⟩
  exact run (updz (updz (Tz_filled v) (Int.toNat 0) 0) (Int.toNat (0 + 1)) 0) rfl rfl
theorem TOK.lod (h : TOK v T) (hT : T + 6000 ≤ 5000000) (e : lodR v r v') : TOK v' (T + 6000) := by
  obtain ⟨z, τ, x', f, hz, hl, hx, ⟨f0, f1⟩, rfl⟩ := e
  have t0 := h.1.1.2.1
  have g : GOK z 0 := ⟨hz.1.ok (by decide), hz.1.kok⟩
  have g2 := ldR.ok 60 1 g (by decide) hl
  refine ⟨g2.mono (by show (0 : Int) + 99 * ((60 : Nat) : Int) ≤ T + 6000; omega) hT, HOK.fg, fun i hi => ?_, hx.ot h.2.2.2⟩
  show (f i = 0 ∨ f i = 1) ∧ (f i = 1 → _)
  match i, hi with
  | 0, _ =>
    rw [f0]
    exact ⟨Or.inl rfl, fun y => absurd y (by decide)⟩
  | 1, _ =>
    rw [f1]
    exact ⟨Or.inl rfl, fun y => absurd y (by decide)⟩
theorem XEq.symm {a b : XZ} (e : XEq a b) : XEq b a := ⟨e.1.symm, fun k hk => (e.2 k (by have := e.1; omega)).symm⟩
theorem XEq.trans {a b c : XZ} (e : XEq a b) (f : XEq b c) : XEq a c := ⟨e.1.trans f.1, fun k hk => (e.2 k (by have := f.1; omega)).trans (f.2 k hk)⟩
theorem TEq.lod (e : TEq v w) (e1 : lodR v r v') (e2 : lodR w r2 w') : r = r2 ∧ TEq v' w' := by
  obtain ⟨z, τ, x', f, hz, hl, hx, ⟨f0, f1⟩, rfl⟩ := e1
  obtain ⟨z2, τ2, x2, f2, hz2, hl2, hx2, ⟨g0, g1⟩, rfl⟩ := e2
  have es := hz.same e.1 hz2
  rw [e.2.2.2.cs, e.2.2.2.1] at hl
  have hs := hz2.1.ok (T := 0) (by decide)
  have g := SEq.ld 60 1 hs (by decide) es hl hl2
  refine ⟨g.1, g.2, HEq'.fg, fun i hi => ?_, hx.trans (e.2.2.2.trans hx2.symm)⟩
  show f i = f2 i ∧ (f2 i = 1 → _)
  match i, hi with
  | 0, _ =>
    rw [f0, g0]
    exact ⟨rfl, fun y => absurd y (by decide)⟩
  | 1, _ =>
    rw [f1, g1]
    exact ⟨rfl, fun y => absurd y (by decide)⟩
end LD
