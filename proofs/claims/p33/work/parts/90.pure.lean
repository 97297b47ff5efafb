/-! ### the law's calls that change an object -/
section QW
variable {v : TZ} {T : Int}
theorem q_rememberT {u : HZ} {σ : SZ} {Q : HZ → Prop} (h : HOK u T) (s : SOK σ T) (k : ∀ z, SEq z σ → Q (remH u z)) : Z_H_remember u σ Q := by
  obtain ⟨⟨h1, h2⟩, -⟩ := h
  unfold Z_H_remember Z_H_stateAt
  refine ⟨fun c => absurd c (by omega), fun _ => ⟨fun c => absurd c (by omega), fun _ => ⟨by omega, fun c => (nomatch c), fun i c => ?_⟩⟩⟩
  cases c
  refine q_S_takeOver s (fun z hz => ?_)
  rintro _ rfl
  refine ⟨by show -2147483648 ≤ Hz_next u + 1 ∧ Hz_next u + 1 < 2147483648; omega, ?_⟩
  rintro _ rfl
  refine ⟨by show -2147483648 ≤ Hz_count u + 1 ∧ Hz_count u + 1 < 2147483648; omega, ?_⟩
  rintro _ rfl
  have e := k z hz
  unfold remH at e
  rw [← Int.tmod_eq_emod_of_nonneg (show 0 ≤ Hz_next u + 1 by omega)] at e
  exact e
theorem q_T_act {c : Nat} {a b d : Int} {X : String → TZ → Prop} {Q : Int → TZ → Prop} (hc : c < 7) (h : TOK v T) (hT : T + 99 ≤ 5000000) (hv : valA c b d)
    (k0 : fltA (Tz_state v) c a b d = 0 → ∀ r v', actR c a b d v r v' → Q r v')
    (k1 : fltA (Tz_state v) c a b d = 1 → actR c a b d v IX v → X "java/lang/IndexOutOfBoundsException" v) (k2 : fltA (Tz_state v) c a b d = 2 → actR c a b d v AR v → X "java/lang/IllegalArgumentException" v) (k3 : fltA (Tz_state v) c a b d = 3 → actR c a b d v STT v → X "java/lang/IllegalStateException" v) : Z_T_act c a b d v X Q := by
  unfold Z_T_act
  have no : ∀ f : Int, f ≠ 0 → fltA (Tz_state v) c a b d = f → actR c a b d v (fcA f) v := fun f f0 e => Or.inr ⟨by rw [e]; exact f0, by rw [e], rfl⟩
  refine q_fault hc h.1.1 hv ⟨fun q1 => ⟨fun q2 => ⟨fun q3 => ?_, fun q => k3 q (no 3 (by decide) q)⟩, fun q => k2 q (no 2 (by decide) q)⟩, fun q => k1 q (no 1 (by decide) q)⟩
  have o : fltA (Tz_state v) c a b d = 0 := by
    rcases fltA_cases (σ := Tz_state v) (c := c) (a := a) (b := b) (d := d) with z | z | z | z
    · exact z
    · exact absurd z q1
    · exact absurd z q2
    · exact absurd z q3
  refine q_rememberT h.2.1 h.1.1 (fun z hz => ?_)
  rintro _ rfl
  refine q_go hc h.1.1 hT hv o (fun r σ' hr => ?_)
  rintro _ rfl
  exact k0 o _ _ (Or.inl ⟨o, z, σ', hz, hr, rfl⟩)
theorem flt_no {c : Nat} {a b d : Int} {σ : SZ} : (c = 0 ∨ c = 1 ∨ c = 5 ∨ c = 6 → fltA σ c a b d ≠ 1) ∧ (c = 3 ∨ c = 4 → fltA σ c a b d ≠ 2) ∧ (c = 2 ∨ c = 3 ∨ c = 5 ∨ c = 6 → fltA σ c a b d ≠ 3) := by
  refine ⟨fun h => ?_, fun h => ?_, fun h => ?_⟩
  · rcases h with rfl | rfl | rfl | rfl <;> simp only [fltA] <;> (repeat' split) <;> decide
  · rcases h with rfl | rfl <;> simp only [fltA] <;> (repeat' split) <;> decide
  · rcases h with rfl | rfl | rfl | rfl <;> simp only [fltA] <;> (repeat' split) <;> decide
theorem q_LAW_write {a b d : Int} {Q : Int → TZ → Prop} (h : TOK v T) (hT : T + 99 ≤ 5000000) (k : ∀ r v', actR 0 a b d v r v' → Q r v') : Z_LAW_write a b d v Q := by
  unfold Z_LAW_write Z_T_write
  exact q_T_act (c := 0) (by decide) h hT trivial (fun _ r v' e => k r v' e) (fun o _ => absurd o (flt_no.1 (by decide))) (fun o e => ⟨fun _ => k _ _ e, fun q => absurd q (by decide), fun q => absurd rfl (q.1)⟩) (fun o e => ⟨fun q => absurd q (by decide), fun _ => k _ _ e, fun q => absurd rfl (q.2)⟩)
theorem q_LAW_join {a b d : Int} {Q : Int → TZ → Prop} (hb : d = 0 ∨ d = 1) (h : TOK v T) (hT : T + 99 ≤ 5000000) (k : ∀ r v', actR 1 a b d v r v' → Q r v') : Z_LAW_join a b d v Q := by
  have main := q_T_act (c := 1) (by decide) h hT hb (fun _ r v' e => k r v' e) (fun o _ => absurd o (flt_no.1 (by decide))) (fun o e => ⟨fun _ => k _ _ e, fun q => absurd q (by decide), fun q => absurd rfl (q.1)⟩) (fun o e => ⟨fun q => absurd q (by decide), fun _ => k _ _ e, fun q => absurd rfl (q.2)⟩) (X := (fun E v => (E = "java/lang/IllegalArgumentException" → Q AR v) ∧ (E = "java/lang/IllegalStateException" → Q STT v) ∧ (¬ E = "java/lang/IllegalArgumentException" ∧ ¬ E = "java/lang/IllegalStateException" → False))) (a := a) (b := b) (d := d)
  unfold Z_LAW_join Z_T_join
  rcases hb with e | e <;> subst e
  · exact q_asNumber (fun _ => main) (fun z => absurd rfl z)
  · exact q_asNumber (fun z => absurd z (by decide)) (fun _ => main)
theorem q_LAW_read {a b : Int} {Q : Int → TZ → Prop} (h : TOK v T) (hT : T + 99 ≤ 5000000) (k : ∀ r v', actR 2 a b 0 v r v' → Q r v') : Z_LAW_read a b v Q := by
  unfold Z_LAW_read Z_T_read
  exact q_T_act (c := 2) (by decide) h hT trivial (fun _ r v' e => k r v' e) (fun o e => ⟨fun _ => k _ _ e, fun q => absurd q (by decide), fun q => absurd rfl (q.1)⟩) (fun o e => ⟨fun q => absurd q (by decide), fun _ => k _ _ e, fun q => absurd rfl (q.2)⟩) (fun o _ => absurd o (flt_no.2.2 (by decide)))
theorem q_LAW_leave {a : Int} {Q : Int → TZ → Prop} (h : TOK v T) (hT : T + 99 ≤ 5000000) (k : ∀ r v', actR 3 a 0 0 v r v' → Q r v') : Z_LAW_leave a v Q := by
  unfold Z_LAW_leave Z_T_leave
  exact q_T_act (c := 3) (by decide) h hT trivial (fun _ r v' e => k r v' e) (fun o e => ⟨fun _ => k _ _ e, fun q => absurd rfl (q)⟩) (fun o _ => absurd o (flt_no.2.1 (by decide))) (fun o _ => absurd o (flt_no.2.2 (by decide)))
theorem q_LAW_hold {a b : Int} {Q : Int → TZ → Prop} (hb : b = 0 ∨ b = 1) (h : TOK v T) (hT : T + 99 ≤ 5000000) (k : ∀ r v', actR 4 a b 0 v r v' → Q r v') : Z_LAW_hold a b v Q := by
  have main := q_T_act (c := 4) (by decide) h hT hb (fun _ r v' e => k r v' e) (fun o e => ⟨fun _ => k _ _ e, fun q => absurd q (by decide), fun q => absurd rfl (q.1)⟩) (fun o _ => absurd o (flt_no.2.1 (by decide))) (fun o e => ⟨fun q => absurd q (by decide), fun _ => k _ _ e, fun q => absurd rfl (q.2)⟩) (X := (fun E v => (E = "java/lang/IndexOutOfBoundsException" → Q IX v) ∧ (E = "java/lang/IllegalStateException" → Q STT v) ∧ (¬ E = "java/lang/IndexOutOfBoundsException" ∧ ¬ E = "java/lang/IllegalStateException" → False))) (a := a) (b := b) (d := 0)
  unfold Z_LAW_hold Z_T_hold
  rcases hb with e | e <;> subst e
  · exact q_asNumber (fun _ => main) (fun z => absurd rfl z)
  · exact q_asNumber (fun z => absurd z (by decide)) (fun _ => main)
theorem q_LAW_set {a b : Int} {Q : Int → TZ → Prop} (h : TOK v T) (hT : T + 99 ≤ 5000000) (k : ∀ r v', actR 5 a b 0 v r v' → Q r v') : Z_LAW_set a b v Q := by
  unfold Z_LAW_set Z_T_set
  exact q_T_act (c := 5) (by decide) h hT trivial (fun _ r v' e => k r v' e) (fun o _ => absurd o (flt_no.1 (by decide))) (fun o e => ⟨fun _ => k _ _ e, fun q => absurd rfl (q)⟩) (fun o _ => absurd o (flt_no.2.2 (by decide)))
theorem q_LAW_ticks {a : Int} {Q : Int → TZ → Prop} (h : TOK v T) (hT : T + 99 ≤ 5000000) (k : ∀ r v', actR 6 a 0 0 v r v' → Q r v') : Z_LAW_ticks a v Q := by
  unfold Z_LAW_ticks Z_T_ticks
  exact q_T_act (c := 6) (by decide) h hT trivial (fun _ r v' e => k r v' e) (fun o _ => absurd o (flt_no.1 (by decide))) (fun o e => ⟨fun _ => k _ _ e, fun q => absurd rfl (q)⟩) (fun o _ => absurd o (flt_no.2.2 (by decide)))
theorem q_takeBackT {u : HZ} {σ : SZ} {Q : Int → HZ → SZ → Prop} (h : HOK u T) (h0 : 0 < Hz_count u) (k : ∀ z, SEq z (topH u 0) → Q (Hz_count u - 1) (bkH u) z) : Z_H_takeBack u σ Q := by
  obtain ⟨⟨h1, h2⟩, h4⟩ := h
  have g := h4 0 (by omega) (by omega)
  have e : Int.tmod (Hz_next u + 14 - 1) 14 = (Hz_next u + 13) % 14 := by
    rw [Int.tmod_eq_emod_of_nonneg (by omega)]
    congr 1
    omega
  have e2 : topH u 0 = Hz_states u ((Hz_next u + 13) % 14).toNat := by
    unfold topH
    rw [show (Hz_next u + 13 - 0) % 14 = (Hz_next u + 13) % 14 by omega]
  unfold Z_H_takeBack Z_H_stateAt
  refine ⟨by omega, by omega, ?_⟩
  rintro _ rfl
  rw [e]
  refine ⟨fun c => absurd (show (Hz_next u + 13) % 14 < 0 from c) (by omega), fun _ => ⟨fun c => absurd (show 14 ≤ (Hz_next u + 13) % 14 from c) (by omega), fun _ => ⟨by show 0 ≤ (Hz_next u + 13) % 14 ∧ (Hz_next u + 13) % 14 < 14; omega, fun c => (nomatch c), fun i c => ?_⟩⟩⟩
  cases c
  rw [e2] at g k
  refine q_S_takeOver g.1 (fun z hz => ⟨by show -2147483648 ≤ Hz_count u - 1 ∧ Hz_count u - 1 < 2147483648; omega, ?_⟩)
  rintro _ rfl
  exact k z hz
theorem q_LAW_undo {Q : Int → TZ → Prop} (h : TOK v T) (k : ∀ r v', undR v r v' → Q r v') : Z_LAW_undo v Q := by
  have h2 := h.2.1.1.2
  refine ⟨fun c => q_takeBackT h.2.1 (by omega) (fun z hz => ?_), fun c => ⟨fun _ => k _ _ (Or.inl ⟨c, rfl, rfl⟩), fun q => absurd rfl q⟩⟩
  rintro _ rfl _ rfl
  exact k _ _ (Or.inr ⟨by omega, z, hz, rfl, rfl⟩)
theorem q_LAW_save {a : Int} {Q : Int → TZ → Prop} (h : TOK v T) (k : ∀ r v', savR a v r v' → Q r v') : Z_LAW_save a v Q := by
  unfold Z_LAW_save Z_T_save
  refine q_isIn (fun a0 a1 => ⟨fun _ => ⟨by omega, q_S_takeOver h.1.1 (fun z hz => ?_)⟩, fun c => absurd c (by decide)⟩) (fun c => ⟨fun c2 => absurd rfl c2, fun _ => ⟨fun _ => k _ _ (Or.inl ⟨c, rfl, rfl⟩), fun q => absurd rfl q⟩⟩)
  rintro _ rfl
  refine ⟨by omega, ?_⟩
  rintro _ rfl
  exact k _ _ (Or.inr ⟨⟨a0, a1⟩, z, hz, rfl, rfl⟩)
theorem q_LAW_restore {a : Int} {Q : Int → TZ → Prop} (h : TOK v T) (k : ∀ r v', rstR a v r v' → Q r v') : Z_LAW_restore a v Q := by
  unfold Z_LAW_restore Z_T_restore
  refine q_isIn (fun a0 a1 => ⟨fun _ => ⟨by omega, fun c => ⟨by omega, ?_⟩, fun c => ⟨fun q => absurd q (by decide), fun _ => k _ _ (Or.inr (Or.inl ⟨⟨a0, a1⟩, c, rfl, rfl⟩)), fun q => absurd rfl q.2⟩⟩, fun c => absurd c (by decide)⟩) (fun c => ⟨fun c2 => absurd rfl c2, fun _ => ⟨fun _ => k _ _ (Or.inl ⟨c, rfl, rfl⟩), fun q => absurd q (by decide), fun q => absurd rfl q.1⟩⟩)
  obtain ⟨b1, b3⟩ := h.2.2.1 a.toNat (by omega)
  have bf : Tz_filled v a.toNat = 1 := by rcases b1 with z | z; exact absurd z c; exact z
  refine q_S_takeOver (b3 bf).1 (fun z hz => ?_)
  rintro _ rfl
  unfold Z_H_forget
  rintro _ rfl _ rfl _ rfl
  exact k _ _ (Or.inr (Or.inr ⟨⟨a0, a1⟩, bf, z, hz, rfl, rfl⟩))
end QW
