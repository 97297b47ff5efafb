/-! ### numbers of the state -/
section QD
variable {v : TZ} {w : MZ} {σ : SZ} {W : Nat → Int} {T : Int}
theorem m_holds {Q : Int → Prop} (h : SOK σ T) (r : Rel σ W) (k : Q (holders σ (Lz_end (Sz_log σ)))) : Z_M_holds W Q := by
  have key : ∀ (n i : Nat), i + n = 8 → ZL_M_holds_4 (n + 1) W (sumN (hz σ (Lz_end (Sz_log σ))) i) i Q := by
    intro n
    induction n with
    | zero =>
      intro i hi
      rw [ZL_M_holds_4]
      have e : i = 8 := by omega
      subst e
      exact ⟨fun _ => k, fun c => absurd c (by omega)⟩
    | succ n ih =>
      intro i hi
      rw [ZL_M_holds_4]
      have hb := sumN_in (f := hz σ (Lz_end (Sz_log σ))) i (fun j _ => by show 0 ≤ (if _ then _ else _ : Int) ∧ (if _ then _ else _ : Int) ≤ 1; split <;> omega)
      have h9 := ih (i + 1) (by omega)
      have e0 : ((i : Int)).toNat = i := by omega
      have hr := h.2.2.2 i (by omega)
      obtain ⟨g1, g2, -, -⟩ := r.2.2.2.2.2 i (by omega) (by omega)
      rw [e0] at g1 g2
      have e3 : sumN (hz σ (Lz_end (Sz_log σ))) (i + 1) = sumN (hz σ (Lz_end (Sz_log σ))) i + hz σ (Lz_end (Sz_log σ)) i := rfl
      rw [e3] at h9
      refine ⟨fun c => absurd c (by omega), fun _ => m_isReader h r (fun c => ⟨fun z => absurd z (by decide), fun _ => m_reader (by omega) (by omega) ⟨by omega, by omega, ?_⟩⟩) (fun c => ⟨fun _ => ?_, fun z => absurd rfl z⟩)⟩
      · have c2 := c.2
        rw [e0] at c2
        rw [(g2 c2).2.1]
        have g5 := hr.2.2.2.2.1 (Or.inl c2)
        have e2 : hz σ (Lz_end (Sz_log σ)) i = Rz_held (Sz_readers σ i) := by
          rcases hr.2.2.1 with z | z
          · rw [z]
            exact if_neg (fun q => by omega)
          · rw [z]
            exact if_pos ⟨z, g5.2⟩
        rw [e2] at h9
        have g6 := hr.2.2.1
        exact ⟨by omega, by omega, h9⟩
      · have e2 : hz σ (Lz_end (Sz_log σ)) i = 0 := if_neg (fun q => c ⟨by omega, by rw [e0]; exact (hr.2.2.2.1 q.1).1⟩)
        rw [e2] at h9
        exact ⟨by omega, by omega, h9⟩
  exact ⟨_, key 8 0 rfl⟩
theorem m_gaps {Q : Int → Prop} (h : SOK σ T) (r : Rel σ W) (k : Q (sumN (gz σ) 8)) : Z_M_gaps W Q := by
  have key : ∀ (n i : Nat), i + n = 8 → ZL_M_gaps_4 (n + 1) W (sumN (gz σ) i) i Q := by
    intro n
    induction n with
    | zero =>
      intro i hi
      rw [ZL_M_gaps_4]
      have e : i = 8 := by omega
      subst e
      exact ⟨fun _ => k, fun c => absurd c (by omega)⟩
    | succ n ih =>
      intro i hi
      rw [ZL_M_gaps_4]
      have hb := sumN_in (f := gz σ) i (fun j _ => by show 0 ≤ (if _ then _ else _ : Int) ∧ (if _ then _ else _ : Int) ≤ 1; split <;> omega)
      have h9 := ih (i + 1) (by omega)
      have e0 : ((i : Int)).toNat = i := by omega
      have e3 : sumN (gz σ) (i + 1) = sumN (gz σ) i + gz σ i := rfl
      rw [e3] at h9
      refine ⟨fun c => absurd c (by omega), fun _ => m_isReader h r (fun c => ⟨fun z => absurd z (by decide), fun _ => m_hasGap r (by omega) (by omega) c.2 (fun c3 => ⟨fun z => absurd z (by decide), fun _ => ?_⟩) (fun c3 => ⟨fun _ => ?_, fun z => absurd rfl z⟩)⟩) (fun c => ⟨fun _ => ?_, fun z => absurd rfl z⟩)⟩
      · have c2 := c.2
        rw [e0] at c2 c3
        have e2 : gz σ i = 1 := if_pos ⟨c2, c3⟩
        rw [e2] at h9
        exact ⟨by omega, by omega, h9⟩
      · rw [e0] at c3
        have e2 : gz σ i = 0 := if_neg (fun q => c3 q.2)
        rw [e2] at h9
        exact ⟨by omega, by omega, h9⟩
      · have e2 : gz σ i = 0 := if_neg (fun q => c ⟨by omega, by rw [e0]; exact q.1⟩)
        rw [e2] at h9
        exact ⟨by omega, by omega, h9⟩
  exact ⟨_, key 8 0 rfl⟩
theorem k_about {a : Int} (h : SimZ T v w) : Z_T_about a v (fun E => exZ E False (Z_M_about a w (finZ T 1 0 v)) False) (fun r => Z_M_about a w (finZ T 0 r v)) := by
  have st : ∀ {r : Int}, 0 ≤ a → a ≤ 11 → ZJ_M_about_18 a a 0 w (finZ T 0 r v) → Z_M_about a w (finZ T 0 r v) := fun a0 a1 g => m_in (fun _ _ => ⟨fun z => absurd z (by decide), fun _ => g⟩) (fun z => absurd ⟨a0, a1⟩ z)
  refine q_isIn (fun a0 a1 => ⟨fun _ => ?_, fun c => absurd c (by decide)⟩) (fun c => ⟨fun c2 => absurd rfl c2, fun _ => ex_iae ?_⟩)
  · have e : a = 0 ∨ a = 1 ∨ a = 2 ∨ a = 3 ∨ a = 4 ∨ a = 5 ∨ a = 6 ∨ a = 7 ∨ a = 8 ∨ a = 9 ∨ a = 10 ∨ a = 11 := by omega
    obtain ⟨g0, g1, g2, g3, g4, g5, g6⟩ := h.1.2.1
    rcases e with e | e | e | e | e | e | e | e | e | e | e | e <;> subst e
    · exact ⟨fun _ => st a0 a1 (m_yes ⟨fun _ => ⟨fun _ => ⟨by decide, rfl, fun _ => g1, h⟩, fun c => absurd rfl c⟩, fun z => absurd rfl z⟩), fun c => absurd rfl c⟩
    · exact ⟨fun c => absurd c (by decide), fun _ => ⟨fun _ => st a0 a1 (m_yes ⟨fun _ => ⟨fun c => absurd c (by decide), fun _ => ⟨fun _ => ⟨by decide, rfl, fun _ => g0, h⟩, fun c => absurd rfl c⟩⟩, fun z => absurd rfl z⟩), fun c => absurd rfl c⟩⟩
    · exact ⟨fun c => absurd c (by decide), fun _ => ⟨fun c => absurd c (by decide), fun _ => ⟨fun _ => q_segments h.1.1.1 (st a0 a1 (m_yes ⟨fun _ => ⟨fun c => absurd c (by decide), fun _ => ⟨fun c => absurd c (by decide), fun _ => ⟨fun _ => m_segments h.1.1 h.1.2 ⟨rfl, fun _ => rfl, h⟩, fun c => absurd rfl c⟩⟩⟩, fun z => absurd rfl z⟩)), fun c => absurd rfl c⟩⟩⟩
    · exact ⟨fun c => absurd c (by decide), fun _ => ⟨fun c => absurd c (by decide), fun _ => ⟨fun c => absurd c (by decide), fun _ => ⟨fun _ => st a0 a1 (m_yes ⟨fun _ => ⟨fun c => absurd c (by decide), fun _ => ⟨fun c => absurd c (by decide), fun _ => ⟨fun c => absurd c (by decide), fun _ => ⟨fun _ => ⟨by decide, by decide, m_sizesAll h.1.1 h.1.2 ⟨rfl, fun _ => rfl, h⟩⟩, fun c => absurd rfl c⟩⟩⟩⟩, fun z => absurd rfl z⟩), fun c => absurd rfl c⟩⟩⟩⟩
    · exact ⟨fun c => absurd c (by decide), fun _ => ⟨fun c => absurd c (by decide), fun _ => ⟨fun c => absurd c (by decide), fun _ => ⟨fun c => absurd c (by decide), fun _ => ⟨fun _ => q_readerCount h.1.1 (st a0 a1 (m_yes ⟨fun _ => ⟨fun c => absurd c (by decide), fun _ => ⟨fun c => absurd c (by decide), fun _ => ⟨fun c => absurd c (by decide), fun _ => ⟨fun c => absurd c (by decide), fun _ => ⟨fun _ => m_readers h.1.1 h.1.2 ⟨rfl, fun _ => rfl, h⟩, fun c => absurd rfl c⟩⟩⟩⟩⟩, fun z => absurd rfl z⟩)), fun c => absurd rfl c⟩⟩⟩⟩⟩
    · exact ⟨fun c => absurd c (by decide), fun _ => ⟨fun c => absurd c (by decide), fun _ => ⟨fun c => absurd c (by decide), fun _ => ⟨fun c => absurd c (by decide), fun _ => ⟨fun c => absurd c (by decide), fun _ => ⟨fun _ => q_holdersUpTo h.1.1 (st a0 a1 (m_yes ⟨fun _ => ⟨fun c => absurd c (by decide), fun _ => ⟨fun c => absurd c (by decide), fun _ => ⟨fun c => absurd c (by decide), fun _ => ⟨fun c => absurd c (by decide), fun _ => ⟨fun c => absurd c (by decide), fun _ => ⟨fun _ => m_holds h.1.1 h.1.2 ⟨rfl, fun _ => rfl, h⟩, fun c => absurd rfl c⟩⟩⟩⟩⟩⟩, fun z => absurd rfl z⟩)), fun c => absurd rfl c⟩⟩⟩⟩⟩⟩
    · exact ⟨fun c => absurd c (by decide), fun _ => ⟨fun c => absurd c (by decide), fun _ => ⟨fun c => absurd c (by decide), fun _ => ⟨fun c => absurd c (by decide), fun _ => ⟨fun c => absurd c (by decide), fun _ => ⟨fun c => absurd c (by decide), fun _ => ⟨fun _ => q_gapCount h.1.1 (st a0 a1 (m_yes ⟨fun _ => ⟨fun c => absurd c (by decide), fun _ => ⟨fun c => absurd c (by decide), fun _ => ⟨fun c => absurd c (by decide), fun _ => ⟨fun c => absurd c (by decide), fun _ => ⟨fun c => absurd c (by decide), fun _ => ⟨fun c => absurd c (by decide), fun _ => ⟨fun _ => m_gaps h.1.1 h.1.2 ⟨rfl, fun _ => rfl, h⟩, fun c => absurd rfl c⟩⟩⟩⟩⟩⟩⟩, fun z => absurd rfl z⟩)), fun c => absurd rfl c⟩⟩⟩⟩⟩⟩⟩
    · exact ⟨fun c => absurd c (by decide), fun _ => ⟨fun c => absurd c (by decide), fun _ => ⟨fun c => absurd c (by decide), fun _ => ⟨fun c => absurd c (by decide), fun _ => ⟨fun c => absurd c (by decide), fun _ => ⟨fun c => absurd c (by decide), fun _ => ⟨fun c => absurd c (by decide), fun _ => ⟨fun _ => st a0 a1 (m_yes ⟨fun _ => ⟨fun c => absurd c (by decide), fun _ => ⟨fun c => absurd c (by decide), fun _ => ⟨fun c => absurd c (by decide), fun _ => ⟨fun c => absurd c (by decide), fun _ => ⟨fun c => absurd c (by decide), fun _ => ⟨fun c => absurd c (by decide), fun _ => ⟨fun c => absurd c (by decide), fun _ => ⟨fun _ => ⟨by decide, rfl, fun _ => g2, h⟩, fun c => absurd rfl c⟩⟩⟩⟩⟩⟩⟩⟩, fun z => absurd rfl z⟩), fun c => absurd rfl c⟩⟩⟩⟩⟩⟩⟩⟩
    · exact ⟨fun c => absurd c (by decide), fun _ => ⟨fun c => absurd c (by decide), fun _ => ⟨fun c => absurd c (by decide), fun _ => ⟨fun c => absurd c (by decide), fun _ => ⟨fun c => absurd c (by decide), fun _ => ⟨fun c => absurd c (by decide), fun _ => ⟨fun c => absurd c (by decide), fun _ => ⟨fun c => absurd c (by decide), fun _ => ⟨fun _ => st a0 a1 (m_yes ⟨fun _ => ⟨fun c => absurd c (by decide), fun _ => ⟨fun c => absurd c (by decide), fun _ => ⟨fun c => absurd c (by decide), fun _ => ⟨fun c => absurd c (by decide), fun _ => ⟨fun c => absurd c (by decide), fun _ => ⟨fun c => absurd c (by decide), fun _ => ⟨fun c => absurd c (by decide), fun _ => ⟨fun c => absurd c (by decide), fun _ => ⟨fun _ => ⟨by decide, rfl, fun _ => g3, h⟩, fun c => absurd rfl c⟩⟩⟩⟩⟩⟩⟩⟩⟩, fun z => absurd rfl z⟩), fun c => absurd rfl c⟩⟩⟩⟩⟩⟩⟩⟩⟩
    · exact ⟨fun c => absurd c (by decide), fun _ => ⟨fun c => absurd c (by decide), fun _ => ⟨fun c => absurd c (by decide), fun _ => ⟨fun c => absurd c (by decide), fun _ => ⟨fun c => absurd c (by decide), fun _ => ⟨fun c => absurd c (by decide), fun _ => ⟨fun c => absurd c (by decide), fun _ => ⟨fun c => absurd c (by decide), fun _ => ⟨fun c => absurd c (by decide), fun _ => ⟨fun _ => st a0 a1 (m_yes ⟨fun _ => ⟨fun c => absurd c (by decide), fun _ => ⟨fun c => absurd c (by decide), fun _ => ⟨fun c => absurd c (by decide), fun _ => ⟨fun c => absurd c (by decide), fun _ => ⟨fun c => absurd c (by decide), fun _ => ⟨fun c => absurd c (by decide), fun _ => ⟨fun c => absurd c (by decide), fun _ => ⟨fun c => absurd c (by decide), fun _ => ⟨fun c => absurd c (by decide), fun _ => ⟨fun _ => ⟨by decide, rfl, fun _ => g4, h⟩, fun c => absurd rfl c⟩⟩⟩⟩⟩⟩⟩⟩⟩⟩, fun z => absurd rfl z⟩), fun c => absurd rfl c⟩⟩⟩⟩⟩⟩⟩⟩⟩⟩
    · exact ⟨fun c => absurd c (by decide), fun _ => ⟨fun c => absurd c (by decide), fun _ => ⟨fun c => absurd c (by decide), fun _ => ⟨fun c => absurd c (by decide), fun _ => ⟨fun c => absurd c (by decide), fun _ => ⟨fun c => absurd c (by decide), fun _ => ⟨fun c => absurd c (by decide), fun _ => ⟨fun c => absurd c (by decide), fun _ => ⟨fun c => absurd c (by decide), fun _ => ⟨fun c => absurd c (by decide), fun _ => ⟨fun _ => st a0 a1 (m_yes ⟨fun _ => ⟨fun c => absurd c (by decide), fun _ => ⟨fun c => absurd c (by decide), fun _ => ⟨fun c => absurd c (by decide), fun _ => ⟨fun c => absurd c (by decide), fun _ => ⟨fun c => absurd c (by decide), fun _ => ⟨fun c => absurd c (by decide), fun _ => ⟨fun c => absurd c (by decide), fun _ => ⟨fun c => absurd c (by decide), fun _ => ⟨fun c => absurd c (by decide), fun _ => ⟨fun c => absurd c (by decide), fun _ => ⟨fun _ => ⟨by decide, rfl, fun _ => g5, h⟩, fun c => absurd rfl c⟩⟩⟩⟩⟩⟩⟩⟩⟩⟩⟩, fun z => absurd rfl z⟩), fun c => absurd rfl c⟩⟩⟩⟩⟩⟩⟩⟩⟩⟩⟩
    · exact ⟨fun c => absurd c (by decide), fun _ => ⟨fun c => absurd c (by decide), fun _ => ⟨fun c => absurd c (by decide), fun _ => ⟨fun c => absurd c (by decide), fun _ => ⟨fun c => absurd c (by decide), fun _ => ⟨fun c => absurd c (by decide), fun _ => ⟨fun c => absurd c (by decide), fun _ => ⟨fun c => absurd c (by decide), fun _ => ⟨fun c => absurd c (by decide), fun _ => ⟨fun c => absurd c (by decide), fun _ => ⟨fun c => absurd c (by decide), fun _ => st a0 a1 (m_yes ⟨fun _ => ⟨fun c => absurd c (by decide), fun _ => ⟨fun c => absurd c (by decide), fun _ => ⟨fun c => absurd c (by decide), fun _ => ⟨fun c => absurd c (by decide), fun _ => ⟨fun c => absurd c (by decide), fun _ => ⟨fun c => absurd c (by decide), fun _ => ⟨fun c => absurd c (by decide), fun _ => ⟨fun c => absurd c (by decide), fun _ => ⟨fun c => absurd c (by decide), fun _ => ⟨fun c => absurd c (by decide), fun _ => ⟨fun c => absurd c (by decide), fun _ => ⟨by decide, rfl, fun _ => g6, h⟩⟩⟩⟩⟩⟩⟩⟩⟩⟩⟩⟩, fun z => absurd rfl z⟩)⟩⟩⟩⟩⟩⟩⟩⟩⟩⟩⟩
  · exact m_in (fun z1 z2 => absurd ⟨z1, z2⟩ c) (fun _ => ⟨fun _ => m_no (by decide) ⟨fun z => absurd z (by decide), fun _ => ⟨rfl, fun z => absurd z (by decide), h⟩⟩, fun z => absurd rfl z⟩)
end QD
