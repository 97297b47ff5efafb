/-! ### the law's calls that ask -/
def abF (σ : SZ) : Nat → Int
  | 0 => Lz_end (Sz_log σ)
  | 1 => Lz_first (Sz_log σ)
  | 2 => Lz_begun (Sz_log σ) - Lz_dropped (Sz_log σ)
  | 3 => Lz_length (Sz_log σ)
  | 4 => readersN σ
  | 5 => holders σ (Lz_end (Sz_log σ))
  | 6 => sumN (gz σ) 8
  | 7 => Sz_time σ
  | 8 => Lz_dropped (Sz_log σ)
  | 9 => Sz_lostByLength σ
  | 10 => Sz_lostBySleep σ
  | _ => Sz_missed σ
def abW (σ : SZ) (a : Int) : Int := if 0 ≤ a ∧ a ≤ 11 then abF σ a.toNat else AR
def rdF (σ : SZ) (r : RZ) : Nat → Int
  | 0 => Rz_place r
  | 1 => Rz_held r
  | 2 => Rz_readSoFar r
  | 3 => Rz_missedSoFar r
  | 4 => Rz_lastRead r
  | 5 => Lz_end (Sz_log σ) - zmaxZ (Rz_place r) (Lz_first (Sz_log σ))
  | 6 => lenFrom (Sz_log σ) (Rz_place r)
  | 7 => zmaxZ (Lz_first (Sz_log σ) - Rz_place r) 0
  | _ => Rz_lostBy r
def rdW (σ : SZ) (a b : Int) : Int := if isR σ a then (if 0 ≤ b ∧ b ≤ 8 then rdF σ (Sz_readers σ a.toNat) b.toNat else AR) else IX
def tbW (σ : SZ) (a b : Int) : Int := if isR σ a then (if 0 ≤ b ∧ b ≤ 7 then Rz_values (Sz_readers σ a.toNat) b.toNat else AR) else IX
def baW (σ : SZ) (a : Int) : Int := if 0 ≤ a ∧ a ≤ 7 then Lz_dropValues (Sz_log σ) a.toNat else AR
def seW (σ : SZ) (a : Int) : Int := if 0 ≤ a ∧ a ≤ 5 then Sz_settings σ a.toNat else AR
def trW (σ : SZ) (a b d : Int) : Int := if Lz_first (Sz_log σ) ≤ b ∧ b ≤ Lz_end (Sz_log σ) then (if (0 ≤ a ∧ a ≤ 7) ∧ (0 ≤ d ∧ d ≤ 1) then toldX (Sz_log σ) a b else AR) else IX
section QO2
variable {v : TZ} {T : Int} {a b d : Int} {Q : Int → Prop}
theorem q_LAW_about (h : SOK (Tz_state v) T) (k : Q (abW (Tz_state v) a)) : Z_LAW_about a v Q := by
  have h1 := h.1.1
  unfold Z_LAW_about Z_T_about
  unfold abW at k
  refine q_isIn (fun a0 a1 => ⟨fun _ => ?_, fun c => absurd c (by decide)⟩) (fun c => ⟨fun c2 => absurd rfl c2, fun _ => ⟨fun _ => by rw [if_neg c] at k; exact k, fun q => absurd rfl q⟩⟩)
  rw [if_pos ⟨a0, a1⟩] at k
  have e : a = 0 ∨ a = 1 ∨ a = 2 ∨ a = 3 ∨ a = 4 ∨ a = 5 ∨ a = 6 ∨ a = 7 ∨ a = 8 ∨ a = 9 ∨ a = 10 ∨ a = 11 := by omega
  rcases e with e | e | e | e | e | e | e | e | e | e | e | e <;> subst e
  · exact ⟨fun _ => k, fun c => absurd rfl c⟩
  · exact ⟨fun c => absurd c (by decide), fun _ => ⟨fun _ => k, fun c => absurd rfl c⟩⟩
  · exact ⟨fun c => absurd c (by decide), fun _ => ⟨fun c => absurd c (by decide), fun _ => ⟨fun _ => q_segments h.1 k, fun c => absurd rfl c⟩⟩⟩
  · exact ⟨fun c => absurd c (by decide), fun _ => ⟨fun c => absurd c (by decide), fun _ => ⟨fun c => absurd c (by decide), fun _ => ⟨fun _ => k, fun c => absurd rfl c⟩⟩⟩⟩
  · exact ⟨fun c => absurd c (by decide), fun _ => ⟨fun c => absurd c (by decide), fun _ => ⟨fun c => absurd c (by decide), fun _ => ⟨fun c => absurd c (by decide), fun _ => ⟨fun _ => q_readerCount h k, fun c => absurd rfl c⟩⟩⟩⟩⟩
  · exact ⟨fun c => absurd c (by decide), fun _ => ⟨fun c => absurd c (by decide), fun _ => ⟨fun c => absurd c (by decide), fun _ => ⟨fun c => absurd c (by decide), fun _ => ⟨fun c => absurd c (by decide), fun _ => ⟨fun _ => q_holdersUpTo h k, fun c => absurd rfl c⟩⟩⟩⟩⟩⟩
  · exact ⟨fun c => absurd c (by decide), fun _ => ⟨fun c => absurd c (by decide), fun _ => ⟨fun c => absurd c (by decide), fun _ => ⟨fun c => absurd c (by decide), fun _ => ⟨fun c => absurd c (by decide), fun _ => ⟨fun c => absurd c (by decide), fun _ => ⟨fun _ => q_gapCount h k, fun c => absurd rfl c⟩⟩⟩⟩⟩⟩⟩
  · exact ⟨fun c => absurd c (by decide), fun _ => ⟨fun c => absurd c (by decide), fun _ => ⟨fun c => absurd c (by decide), fun _ => ⟨fun c => absurd c (by decide), fun _ => ⟨fun c => absurd c (by decide), fun _ => ⟨fun c => absurd c (by decide), fun _ => ⟨fun c => absurd c (by decide), fun _ => ⟨fun _ => k, fun c => absurd rfl c⟩⟩⟩⟩⟩⟩⟩⟩
  · exact ⟨fun c => absurd c (by decide), fun _ => ⟨fun c => absurd c (by decide), fun _ => ⟨fun c => absurd c (by decide), fun _ => ⟨fun c => absurd c (by decide), fun _ => ⟨fun c => absurd c (by decide), fun _ => ⟨fun c => absurd c (by decide), fun _ => ⟨fun c => absurd c (by decide), fun _ => ⟨fun c => absurd c (by decide), fun _ => ⟨fun _ => k, fun c => absurd rfl c⟩⟩⟩⟩⟩⟩⟩⟩⟩
  · exact ⟨fun c => absurd c (by decide), fun _ => ⟨fun c => absurd c (by decide), fun _ => ⟨fun c => absurd c (by decide), fun _ => ⟨fun c => absurd c (by decide), fun _ => ⟨fun c => absurd c (by decide), fun _ => ⟨fun c => absurd c (by decide), fun _ => ⟨fun c => absurd c (by decide), fun _ => ⟨fun c => absurd c (by decide), fun _ => ⟨fun c => absurd c (by decide), fun _ => ⟨fun _ => k, fun c => absurd rfl c⟩⟩⟩⟩⟩⟩⟩⟩⟩⟩
  · exact ⟨fun c => absurd c (by decide), fun _ => ⟨fun c => absurd c (by decide), fun _ => ⟨fun c => absurd c (by decide), fun _ => ⟨fun c => absurd c (by decide), fun _ => ⟨fun c => absurd c (by decide), fun _ => ⟨fun c => absurd c (by decide), fun _ => ⟨fun c => absurd c (by decide), fun _ => ⟨fun c => absurd c (by decide), fun _ => ⟨fun c => absurd c (by decide), fun _ => ⟨fun c => absurd c (by decide), fun _ => ⟨fun _ => k, fun c => absurd rfl c⟩⟩⟩⟩⟩⟩⟩⟩⟩⟩⟩
  · exact ⟨fun c => absurd c (by decide), fun _ => ⟨fun c => absurd c (by decide), fun _ => ⟨fun c => absurd c (by decide), fun _ => ⟨fun c => absurd c (by decide), fun _ => ⟨fun c => absurd c (by decide), fun _ => ⟨fun c => absurd c (by decide), fun _ => ⟨fun c => absurd c (by decide), fun _ => ⟨fun c => absurd c (by decide), fun _ => ⟨fun c => absurd c (by decide), fun _ => ⟨fun c => absurd c (by decide), fun _ => ⟨fun c => absurd c (by decide), fun _ => k⟩⟩⟩⟩⟩⟩⟩⟩⟩⟩⟩
theorem q_num (h : SOK (Tz_state v) T) (hr : isR (Tz_state v) a) (b0 : 0 ≤ b) (b1 : b ≤ 8) (k : Q (rdF (Tz_state v) (Sz_readers (Tz_state v) a.toNat) b.toNat)) : Z_S_readerNumber a.toNat b (Tz_state v) Q := by
  have h1 := h.1.1
  have g := h.2.2.2 a.toNat (by omega)
  have g5 := g.2.2.2.2.1 (Or.inl hr.2)
  have hmx : Lz_first (Sz_log (Tz_state v)) ≤ zmaxZ (Rz_place (Sz_readers (Tz_state v) a.toNat)) (Lz_first (Sz_log (Tz_state v))) ∧ zmaxZ (Rz_place (Sz_readers (Tz_state v) a.toNat)) (Lz_first (Sz_log (Tz_state v))) ≤ Lz_end (Sz_log (Tz_state v)) := by
    show _ ≤ (if _ then _ else _ : Int) ∧ (if _ then _ else _ : Int) ≤ _
    split <;> omega
  have as : ∀ {Q : Int → Prop}, Q (Rz_held (Sz_readers (Tz_state v) a.toNat)) → Z_T_asNumber (Rz_held (Sz_readers (Tz_state v) a.toNat)) Q := by
    intro Q k
    rcases g.2.2.1 with y | y <;> rw [y] at k ⊢
    · exact q_asNumber (fun _ => k) (fun z => absurd rfl z)
    · exact q_asNumber (fun z => absurd z (by decide)) (fun _ => k)
  have e : b = 0 ∨ b = 1 ∨ b = 2 ∨ b = 3 ∨ b = 4 ∨ b = 5 ∨ b = 6 ∨ b = 7 ∨ b = 8 := by omega
  unfold Z_S_readerNumber
  rcases e with e | e | e | e | e | e | e | e | e <;> subst e
  · exact ⟨fun _ => k, fun c => absurd rfl c⟩
  · exact ⟨fun c => absurd c (by decide), fun _ => ⟨fun _ => as k, fun c => absurd rfl c⟩⟩
  · exact ⟨fun c => absurd c (by decide), fun _ => ⟨fun c => absurd c (by decide), fun _ => ⟨fun _ => k, fun c => absurd rfl c⟩⟩⟩
  · exact ⟨fun c => absurd c (by decide), fun _ => ⟨fun c => absurd c (by decide), fun _ => ⟨fun c => absurd c (by decide), fun _ => ⟨fun _ => k, fun c => absurd rfl c⟩⟩⟩⟩
  · exact ⟨fun c => absurd c (by decide), fun _ => ⟨fun c => absurd c (by decide), fun _ => ⟨fun c => absurd c (by decide), fun _ => ⟨fun c => absurd c (by decide), fun _ => ⟨fun _ => k, fun c => absurd rfl c⟩⟩⟩⟩⟩
  · exact ⟨fun c => absurd c (by decide), fun _ => ⟨fun c => absurd c (by decide), fun _ => ⟨fun c => absurd c (by decide), fun _ => ⟨fun c => absurd c (by decide), fun _ => ⟨fun c => absurd c (by decide), fun _ => ⟨fun _ => ⟨by generalize zmaxZ (Rz_place (Sz_readers (Tz_state v) a.toNat)) (Lz_first (Sz_log (Tz_state v))) = y at hmx; omega, k⟩, fun c => absurd rfl c⟩⟩⟩⟩⟩⟩
  · exact ⟨fun c => absurd c (by decide), fun _ => ⟨fun c => absurd c (by decide), fun _ => ⟨fun c => absurd c (by decide), fun _ => ⟨fun c => absurd c (by decide), fun _ => ⟨fun c => absurd c (by decide), fun _ => ⟨fun c => absurd c (by decide), fun _ => ⟨fun _ => q_lengthFrom h.1 g5.2 k, fun c => absurd rfl c⟩⟩⟩⟩⟩⟩⟩
  · exact ⟨fun c => absurd c (by decide), fun _ => ⟨fun c => absurd c (by decide), fun _ => ⟨fun c => absurd c (by decide), fun _ => ⟨fun c => absurd c (by decide), fun _ => ⟨fun c => absurd c (by decide), fun _ => ⟨fun c => absurd c (by decide), fun _ => ⟨fun c => absurd c (by decide), fun _ => ⟨fun _ => ⟨by omega, k⟩, fun c => absurd rfl c⟩⟩⟩⟩⟩⟩⟩⟩
  · exact ⟨fun c => absurd c (by decide), fun _ => ⟨fun c => absurd c (by decide), fun _ => ⟨fun c => absurd c (by decide), fun _ => ⟨fun c => absurd c (by decide), fun _ => ⟨fun c => absurd c (by decide), fun _ => ⟨fun c => absurd c (by decide), fun _ => ⟨fun c => absurd c (by decide), fun _ => ⟨fun c => absurd c (by decide), fun _ => k⟩⟩⟩⟩⟩⟩⟩⟩
theorem q_LAW_readerOf (h : SOK (Tz_state v) T) (k : Q (rdW (Tz_state v) a b)) : Z_LAW_readerOf a b v Q := by
  unfold Z_LAW_readerOf Z_T_readerOf
  unfold rdW at k
  refine q_reader h (fun i hi hi8 hp => ⟨fun z => (nomatch z), fun j z => ?_⟩) (fun c => ⟨fun _ => ⟨fun _ => by rw [if_neg c] at k; exact k, fun q => absurd q (by decide), fun q => absurd rfl q.1⟩, fun j z => (nomatch z)⟩)
  cases z
  have e0 : i = a.toNat := by omega
  subst e0
  have hr : isR (Tz_state v) a := ⟨by omega, hp⟩
  rw [if_pos hr] at k
  refine q_isIn (fun b0 b1 => ⟨fun _ => q_num h hr b0 b1 (by rw [if_pos ⟨b0, b1⟩] at k; exact k), fun z => absurd z (by decide)⟩) (fun c => ⟨fun z => absurd rfl z, fun _ => ⟨fun q => absurd q (by decide), fun _ => by rw [if_neg c] at k; exact k, fun q => absurd rfl q.2⟩⟩)
theorem q_LAW_table (h : SOK (Tz_state v) T) (k : Q (tbW (Tz_state v) a b)) : Z_LAW_table a b v Q := by
  unfold Z_LAW_table Z_T_table
  unfold tbW at k
  refine q_reader h (fun i hi hi8 hp => ⟨fun z => (nomatch z), fun j z => ?_⟩) (fun c => ⟨fun _ => ⟨fun _ => by rw [if_neg c] at k; exact k, fun q => absurd q (by decide), fun q => absurd rfl q.1⟩, fun j z => (nomatch z)⟩)
  cases z
  have e0 : i = a.toNat := by omega
  subst e0
  have hr : isR (Tz_state v) a := ⟨by omega, hp⟩
  rw [if_pos hr] at k
  refine q_isIn (fun b0 b1 => ⟨fun _ => q_at (by decide) b0 (by omega) (by rw [if_pos ⟨b0, b1⟩] at k; exact k), fun z => absurd z (by decide)⟩) (fun c => ⟨fun z => absurd rfl z, fun _ => ⟨fun q => absurd q (by decide), fun _ => by rw [if_neg c] at k; exact k, fun q => absurd rfl q.2⟩⟩)
theorem q_LAW_base (k : Q (baW (Tz_state v) a)) : Z_LAW_base a v Q := by
  unfold Z_LAW_base Z_T_base
  unfold baW at k
  exact q_isIn (fun a0 a1 => ⟨fun _ => q_at (by decide) a0 (by omega) (by rw [if_pos ⟨a0, a1⟩] at k; exact k), fun z => absurd z (by decide)⟩) (fun c => ⟨fun z => absurd rfl z, fun _ => ⟨fun _ => by rw [if_neg c] at k; exact k, fun q => absurd rfl q⟩⟩)
theorem q_LAW_setting (k : Q (seW (Tz_state v) a)) : Z_LAW_setting a v Q := by
  unfold Z_LAW_setting Z_T_setting
  unfold seW at k
  exact q_isIn (fun a0 a1 => ⟨fun _ => q_at (by decide) a0 (by omega) (by rw [if_pos ⟨a0, a1⟩] at k; exact k), fun z => absurd z (by decide)⟩) (fun c => ⟨fun z => absurd rfl z, fun _ => ⟨fun _ => by rw [if_neg c] at k; exact k, fun q => absurd rfl q⟩⟩)
theorem q_LAW_truth (h : SOK (Tz_state v) T) (k : Q (trW (Tz_state v) a b d)) : Z_LAW_truth a b d v Q := by
  unfold Z_LAW_truth Z_T_truth
  unfold trW at k
  refine q_isIn (fun b0 b1 => ⟨fun _ => ?_, fun z => absurd z (by decide)⟩) (fun c => ⟨fun z => absurd rfl z, fun _ => ⟨fun _ => by rw [if_neg c] at k; exact k, fun q => absurd q (by decide), fun q => absurd rfl q.1⟩⟩)
  rw [if_pos ⟨b0, b1⟩] at k
  refine q_isIn (fun a0 a1 => ⟨fun z => absurd z (by decide), fun _ => q_isIn (fun d0 d1 => ⟨fun _ => ⟨fun q => ?_, fun q => ?_⟩, fun z => absurd z (by decide)⟩) (fun c => ⟨fun z => absurd rfl z, fun _ => ⟨fun q => absurd q (by decide), fun _ => by rw [if_neg (fun q => c q.2)] at k; exact k, fun q => absurd rfl q.2⟩⟩)⟩) (fun c => ⟨fun _ => ⟨fun q => absurd q (by decide), fun _ => by rw [if_neg (fun q => c q.1)] at k; exact k, fun q => absurd rfl q.2⟩, fun z => absurd rfl z⟩)
  · rw [if_pos ⟨⟨a0, a1⟩, ⟨d0, d1⟩⟩] at k
    exact q_toldBackwards h.1 a0 (by omega) b0 b1 (by rw [back_eq b0]; exact k)
  · rw [if_pos ⟨⟨a0, a1⟩, ⟨d0, d1⟩⟩] at k
    exact q_toldForwards h.1 a0 (by omega) b0 b1 k
theorem q_T_why (h : SOK (Tz_state v) T) (k : Q (whyS (Tz_state v))) : Z_T_why v Q := by
  unfold Z_T_why
  exact q_firstStays h k
theorem q_T_slowest (h : SOK (Tz_state v) T) (k : Q (slowF (Tz_state v) 8 0 (-1))) : Z_T_slowest v Q := by
  unfold Z_T_slowest
  exact q_slowest h k
/-! rows -/
theorem q_row_ix (h : SOK (Tz_state v) T) (n : ¬ (Lz_first (Sz_log (Tz_state v)) ≤ a ∧ a < Lz_end (Sz_log (Tz_state v)))) (k : Q IX) : Z_LAW_rowOf a b v Q := by
  unfold Z_LAW_rowOf Z_T_rowOf
  exact ⟨fun c => ⟨fun c2 => absurd rfl c2, fun _ => ⟨fun _ => k, fun q => absurd q (by decide), fun q => absurd rfl q.1⟩⟩, fun c => ⟨fun c2 => ⟨fun c3 => absurd rfl c3, fun _ => ⟨fun _ => k, fun q => absurd q (by decide), fun q => absurd rfl q.1⟩⟩, fun c2 => absurd (by omega) n⟩⟩
theorem q_row_in (h1 : Lz_first (Sz_log (Tz_state v)) ≤ a) (h2 : a < Lz_end (Sz_log (Tz_state v))) (k : 0 ≤ b → b ≤ 5 → ((¬ b = 5 → Z_L_rowNumber a b (Sz_log (Tz_state v)) Q) ∧ (b = 5 → Z_S_holdersUpTo a (Tz_state v) Q))) (k2 : ¬ (0 ≤ b ∧ b ≤ 5) → Q AR) : Z_LAW_rowOf a b v Q := by
  unfold Z_LAW_rowOf Z_T_rowOf
  refine ⟨fun c => absurd c (by omega), fun c => ⟨fun c2 => absurd c2 (by omega), fun c2 => ⟨fun _ => ?_, fun c3 => absurd c3 (by decide)⟩⟩⟩
  refine q_isIn (fun b0 b1 => ⟨fun _ => k b0 b1, fun c3 => absurd c3 (by decide)⟩) (fun c3 => ⟨fun c4 => absurd rfl c4, fun _ => ⟨fun q => absurd q (by decide), fun _ => k2 c3, fun q => absurd rfl q.2⟩⟩)
theorem q_row2 (h : SOK (Tz_state v) T) (h1 : Lz_first (Sz_log (Tz_state v)) ≤ a) (h2 : a < Lz_end (Sz_log (Tz_state v))) (k : Q (Lz_lengthsBelow (Sz_log (Tz_state v)) (a + 1).toNat - Lz_lengthsBelow (Sz_log (Tz_state v)) a.toNat)) : Z_LAW_rowOf a 2 v Q := by
  have h3 := h.1.1
  refine q_row_in h1 h2 (fun _ _ => ⟨fun _ => ?_, fun z => absurd z (by decide)⟩) (fun z => absurd ⟨by decide, by decide⟩ z)
  exact ⟨fun c => absurd c (by decide), fun _ => ⟨fun c => absurd c (by decide), fun _ => ⟨fun _ => ⟨by omega, q_lengthOf h.1 (by omega) (by omega) (by omega) (by omega) k⟩, fun c => absurd rfl c⟩⟩⟩
theorem q_row4 {j : Int} (h : SOK (Tz_state v) T) (h1 : Lz_first (Sz_log (Tz_state v)) ≤ a) (h2 : a < Lz_end (Sz_log (Tz_state v))) (j1 : Lz_dropped (Sz_log (Tz_state v)) ≤ j) (j2 : j < Lz_begun (Sz_log (Tz_state v))) (j3 : Lz_starts (Sz_log (Tz_state v)) j.toNat ≤ a) (j4 : a < lnx (Sz_log (Tz_state v)) j) (k : Q (Lz_starts (Sz_log (Tz_state v)) j.toNat)) : Z_LAW_rowOf a 4 v Q := by
  refine q_row_in h1 h2 (fun _ _ => ⟨fun _ => ?_, fun z => absurd z (by decide)⟩) (fun z => absurd ⟨by decide, by decide⟩ z)
  exact ⟨fun c => absurd c (by decide), fun _ => ⟨fun c => absurd c (by decide), fun _ => ⟨fun c => absurd c (by decide), fun _ => ⟨fun c => absurd c (by decide), fun _ => q_startAround h.1 j1 j2 j3 j4 k⟩⟩⟩⟩
theorem q_row5 (h : SOK (Tz_state v) T) (h1 : Lz_first (Sz_log (Tz_state v)) ≤ a) (h2 : a < Lz_end (Sz_log (Tz_state v))) (k : Q (holders (Tz_state v) a)) : Z_LAW_rowOf a 5 v Q := by
  refine q_row_in h1 h2 (fun _ _ => ⟨fun z => absurd rfl z, fun _ => q_holdersUpTo h k⟩) (fun z => absurd ⟨by decide, by decide⟩ z)
/-! segments -/
theorem q_seg_ix (h : SOK (Tz_state v) T) (n : ¬ (0 ≤ a ∧ a < Lz_begun (Sz_log (Tz_state v)) - Lz_dropped (Sz_log (Tz_state v)))) (k : Q IX) : Z_LAW_segmentOf a b v Q := by
  have h1 := h.1.1
  unfold Z_LAW_segmentOf Z_T_segmentOf
  refine q_segments h.1 ⟨by omega, q_isIn (fun a0 a1 => absurd (by omega) n) (fun c => ⟨fun c2 => absurd rfl c2, fun _ => ⟨fun _ => k, fun q => absurd q (by decide), fun q => absurd rfl q.1⟩⟩)⟩
theorem q_seg_in (h : SOK (Tz_state v) T) (a0 : 0 ≤ a) (a1 : a < Lz_begun (Sz_log (Tz_state v)) - Lz_dropped (Sz_log (Tz_state v))) (k : 0 ≤ b → b ≤ 5 → Z_S_segmentNumber a b (Tz_state v) Q) (k2 : ¬ (0 ≤ b ∧ b ≤ 5) → Q AR) : Z_LAW_segmentOf a b v Q := by
  have h1 := h.1.1
  unfold Z_LAW_segmentOf Z_T_segmentOf
  refine q_segments h.1 ⟨by omega, q_isIn (fun _ _ => ⟨fun _ => q_isIn (fun b0 b1 => ⟨fun _ => k b0 b1, fun c => absurd c (by decide)⟩) (fun c => ⟨fun c2 => absurd rfl c2, fun _ => ⟨fun q => absurd q (by decide), fun _ => k2 c, fun q => absurd rfl q.2⟩⟩), fun c => absurd c (by decide)⟩) (fun c => absurd (by omega) c)⟩
theorem q_seg0 (h : SOK (Tz_state v) T) (a0 : 0 ≤ a) (a1 : a < Lz_begun (Sz_log (Tz_state v)) - Lz_dropped (Sz_log (Tz_state v))) (k : Q (Lz_starts (Sz_log (Tz_state v)) (Lz_dropped (Sz_log (Tz_state v)) + a).toNat)) : Z_LAW_segmentOf a 0 v Q := by
  have h1 := h.1.1
  refine q_seg_in h a0 a1 (fun _ _ => ?_) (fun z => absurd ⟨by decide, by decide⟩ z)
  exact ⟨fun _ => q_startOf h.1 a0 (by omega) (fun _ => k) (fun z => absurd (by omega) z), fun c => absurd rfl c⟩
theorem q_seg1 (h : SOK (Tz_state v) T) (a0 : 0 ≤ a) (a1 : a < Lz_begun (Sz_log (Tz_state v)) - Lz_dropped (Sz_log (Tz_state v))) (k : Q (lnx (Sz_log (Tz_state v)) (Lz_dropped (Sz_log (Tz_state v)) + a) - Lz_starts (Sz_log (Tz_state v)) (Lz_dropped (Sz_log (Tz_state v)) + a).toNat)) : Z_LAW_segmentOf a 1 v Q := by
  have h1 := h.1.1
  have n1 := h.1.nx1 (j := Lz_dropped (Sz_log (Tz_state v)) + a) (by omega) (by omega)
  have n2 := h.1.st_end (j := Lz_dropped (Sz_log (Tz_state v)) + a) (by omega) (by omega)
  refine q_seg_in h a0 a1 (fun _ _ => ?_) (fun z => absurd ⟨by decide, by decide⟩ z)
  exact ⟨fun c => absurd c (by decide), fun _ => ⟨fun _ => q_endOf h.1 a0 (by omega) (q_startOf h.1 a0 (by omega) (fun _ => ⟨by omega, k⟩) (fun z => absurd (by omega) z)), fun c => absurd rfl c⟩⟩
theorem q_seg2 (h : SOK (Tz_state v) T) (a0 : 0 ≤ a) (a1 : a < Lz_begun (Sz_log (Tz_state v)) - Lz_dropped (Sz_log (Tz_state v))) (k : Q (Lz_lengthsBelow (Sz_log (Tz_state v)) (lnx (Sz_log (Tz_state v)) (Lz_dropped (Sz_log (Tz_state v)) + a)).toNat - Lz_lengthsBelow (Sz_log (Tz_state v)) (Lz_starts (Sz_log (Tz_state v)) (Lz_dropped (Sz_log (Tz_state v)) + a).toNat).toNat)) : Z_LAW_segmentOf a 2 v Q := by
  have h1 := h.1.1
  have n1 := h.1.nx1 (j := Lz_dropped (Sz_log (Tz_state v)) + a) (by omega) (by omega)
  have n2 := h.1.st_end (j := Lz_dropped (Sz_log (Tz_state v)) + a) (by omega) (by omega)
  refine q_seg_in h a0 a1 (fun _ _ => ?_) (fun z => absurd ⟨by decide, by decide⟩ z)
  exact ⟨fun c => absurd c (by decide), fun _ => ⟨fun c => absurd c (by decide), fun _ => ⟨fun _ => q_startOf h.1 a0 (by omega) (fun _ => q_endOf h.1 a0 (by omega) (q_lengthOf h.1 (by omega) (by omega) (by omega) (by omega) k)) (fun z => absurd (by omega) z), fun c => absurd rfl c⟩⟩⟩
theorem q_seg3 (h : SOK (Tz_state v) T) (a0 : 0 ≤ a) (a1 : a < Lz_begun (Sz_log (Tz_state v)) - Lz_dropped (Sz_log (Tz_state v))) (k : Q (if a + 1 < Lz_begun (Sz_log (Tz_state v)) - Lz_dropped (Sz_log (Tz_state v)) then 1 else 0)) : Z_LAW_segmentOf a 3 v Q := by
  have h1 := h.1.1
  refine q_seg_in h a0 a1 (fun _ _ => ?_) (fun z => absurd ⟨by decide, by decide⟩ z)
  refine ⟨fun c => absurd c (by decide), fun _ => ⟨fun c => absurd c (by decide), fun _ => ⟨fun c => absurd c (by decide), fun _ => ⟨fun _ => q_segments h.1 ⟨by omega, fun c => q_asNumber (fun _ => ?_) (fun z => absurd rfl z), fun c => q_asNumber (fun z => absurd z (by decide)) (fun _ => ?_)⟩, fun c => absurd rfl c⟩⟩⟩⟩
  · rw [if_neg (by omega)] at k
    exact k
  · rw [if_pos (by omega)] at k
    exact k
theorem q_seg4 (h : SOK (Tz_state v) T) (a0 : 0 ≤ a) (a1 : a < Lz_begun (Sz_log (Tz_state v)) - Lz_dropped (Sz_log (Tz_state v))) (k : Q (if dueS (Tz_state v) (lnx (Sz_log (Tz_state v)) (Lz_dropped (Sz_log (Tz_state v)) + a) - 1) then 1 else 0)) : Z_LAW_segmentOf a 4 v Q := by
  have h1 := h.1.1
  have n1 := h.1.nx1 (j := Lz_dropped (Sz_log (Tz_state v)) + a) (by omega) (by omega)
  have n2 := h.1.st_end (j := Lz_dropped (Sz_log (Tz_state v)) + a) (by omega) (by omega)
  refine q_seg_in h a0 a1 (fun _ _ => ?_) (fun z => absurd ⟨by decide, by decide⟩ z)
  refine ⟨fun c => absurd c (by decide), fun _ => ⟨fun c => absurd c (by decide), fun _ => ⟨fun c => absurd c (by decide), fun _ => ⟨fun c => absurd c (by decide), fun _ => ⟨fun _ => q_endOf h.1 a0 (by omega) ⟨by omega, q_isDue h (by omega) (by omega) (fun d => q_asNumber (fun z => absurd z (by decide)) (fun _ => ?_)) (fun d => q_asNumber (fun _ => ?_) (fun z => absurd rfl z))⟩, fun c => absurd rfl c⟩⟩⟩⟩⟩
  · rw [if_pos d] at k
    exact k
  · rw [if_neg d] at k
    exact k
theorem q_seg5 (h : SOK (Tz_state v) T) (a0 : 0 ≤ a) (a1 : a < Lz_begun (Sz_log (Tz_state v)) - Lz_dropped (Sz_log (Tz_state v))) (k : Q (if 0 < holders (Tz_state v) (lnx (Sz_log (Tz_state v)) (Lz_dropped (Sz_log (Tz_state v)) + a) - 1) then 1 else 0)) : Z_LAW_segmentOf a 5 v Q := by
  have h1 := h.1.1
  have n1 := h.1.nx1 (j := Lz_dropped (Sz_log (Tz_state v)) + a) (by omega) (by omega)
  have n2 := h.1.st_end (j := Lz_dropped (Sz_log (Tz_state v)) + a) (by omega) (by omega)
  refine q_seg_in h a0 a1 (fun _ _ => ?_) (fun z => absurd ⟨by decide, by decide⟩ z)
  refine ⟨fun c => absurd c (by decide), fun _ => ⟨fun c => absurd c (by decide), fun _ => ⟨fun c => absurd c (by decide), fun _ => ⟨fun c => absurd c (by decide), fun _ => ⟨fun c => absurd c (by decide), fun _ => q_endOf h.1 a0 (by omega) ⟨by omega, q_holdersUpTo h ⟨fun d => q_asNumber (fun _ => ?_) (fun z => absurd rfl z), fun d => q_asNumber (fun z => absurd z (by decide)) (fun _ => ?_)⟩⟩⟩⟩⟩⟩⟩
  · rw [if_neg (by omega)] at k
    exact k
  · rw [if_pos (by omega)] at k
    exact k
end QO2
