/-! ### ifFree -/
def WEq (x y : SZ) : Prop := Sz_log x = Sz_log y ∧ Sz_settings x = Sz_settings y ∧ Sz_time x = Sz_time y ∧ ∀ n : Nat, n < 8 → Rz_held (Sz_readers x n) = Rz_held (Sz_readers y n) ∧ Rz_place (Sz_readers x n) = Rz_place (Sz_readers y n) ∧ Rz_lastRead (Sz_readers x n) = Rz_lastRead (Sz_readers y n)
section QM
variable {x y : SZ} {v : TZ} {w : MZ} {T : Int}
theorem WEq.why (h : WEq x y) : whyS x = whyS y := by
  obtain ⟨lx, rx, sx, tx, x1, x2, x3⟩ := x
  obtain ⟨ly, ry, sy, ty, y1, y2, y3⟩ := y
  obtain ⟨h1, h2, h3, h4⟩ := h
  have e1 : lx = ly := h1
  have e2 : sx = sy := h2
  have e3 : tx = ty := h3
  subst e1; subst e2; subst e3
  have hh : ∀ row : Int, holders (lx, rx, sx, tx, x1, x2, x3) row = holders (lx, ry, sx, tx, y1, y2, y3) row := fun row => sumN_congr 8 (fun n hn => by
    obtain ⟨a1, a2, -⟩ := h4 n hn
    have b1 : Rz_held (rx n) = Rz_held (ry n) := a1
    have b2 : Rz_place (rx n) = Rz_place (ry n) := a2
    show (if Rz_held (rx n) = 1 ∧ Rz_place (rx n) ≤ row then (1 : Int) else 0) = (if Rz_held (ry n) = 1 ∧ Rz_place (ry n) ≤ row then (1 : Int) else 0)
    rw [b1, b2])
  unfold whyS
  rw [hh]
theorem WEq.loseL {e : Nat} (h : WEq x y) : WEq (loseL x e) (loseL y e) := by
  refine ⟨h.1, h.2.1, h.2.2.1, fun n hn => ?_⟩
  have g := h.2.2.2 n hn
  by_cases q : n = e
  · subst q
    rw [loseL_e (σ := x), loseL_e (σ := y)]
    exact ⟨rfl, g.2.1, g.2.2⟩
  · rw [loseL_j (σ := x) q, loseL_j (σ := y) q]
    exact g
theorem WEq.loseT {e : Nat} (h : WEq x y) : WEq (loseT x e) (loseT y e) := by
  refine ⟨h.1, h.2.1, h.2.2.1, fun n hn => ?_⟩
  have g := h.2.2.2 n hn
  by_cases q : n = e
  · subst q
    rw [loseT_e (σ := x), loseT_e (σ := y)]
    exact ⟨rfl, g.2.1, g.2.2⟩
  · rw [loseT_j (σ := x) q, loseT_j (σ := y) q]
    exact g
theorem WEq.ck {e : Nat} (he : e < 8) (h : WEq x y) : WEq (chk x e) (chk y e) := by
  have g := h.2.2.2 e he
  have d1 : (0 < Sz_settings x 4 ∧ Sz_settings x 4 < lenFrom (Sz_log x) (Rz_place (Sz_readers x e))) = (0 < Sz_settings y 4 ∧ Sz_settings y 4 < lenFrom (Sz_log y) (Rz_place (Sz_readers y e))) := by rw [h.1, h.2.1, g.2.1]
  have d2 : (0 < Sz_settings x 5 ∧ Sz_settings x 5 ≤ Sz_time x - Rz_lastRead (Sz_readers x e)) = (0 < Sz_settings y 5 ∧ Sz_settings y 5 ≤ Sz_time y - Rz_lastRead (Sz_readers y e)) := by rw [h.2.1, h.2.2.1, g.2.2]
  unfold chk
  by_cases q1 : Rz_held (Sz_readers y e) = 1
  · rw [if_pos q1, if_pos (g.1.trans q1)]
    by_cases q2 : 0 < Sz_settings y 4 ∧ Sz_settings y 4 < lenFrom (Sz_log y) (Rz_place (Sz_readers y e))
    · rw [if_pos q2, if_pos (d1 ▸ q2)]
      exact h.loseL
    · rw [if_neg q2, if_neg (fun z => q2 (d1 ▸ z))]
      by_cases q3 : 0 < Sz_settings y 5 ∧ Sz_settings y 5 ≤ Sz_time y - Rz_lastRead (Sz_readers y e)
      · rw [if_pos q3, if_pos (d2 ▸ q3)]
        exact h.loseT
      · rw [if_neg q3, if_neg (fun z => q3 (d2 ▸ z))]
        exact h
  · rw [if_neg q1, if_neg (fun z => q1 (g.1.symm.trans z))]
    exact h
theorem WEq.ckAll (h : WEq x y) : ∀ n : Nat, n ≤ 8 → WEq (chkAll x n) (chkAll y n)
  | 0, _ => h
  | n + 1, hn => WEq.ck (by omega) (WEq.ckAll h n (by omega))
theorem WEq.drAll : ∀ (n : Nat) {x y : SZ}, WEq x y → WEq (dropAll n x) (dropAll n y) := by
  intro n
  induction n with
  | zero => intro x y h; exact h
  | succ n ih =>
    intro x y h
    show WEq (if whyS x = 0 then dropAll n (dropS x) else x) (if whyS y = 0 then dropAll n (dropS y) else y)
    rw [h.why]
    by_cases q : whyS y = 0
    · rw [if_pos q, if_pos q]
      exact ih ⟨congrArg dropX h.1, h.2.1, h.2.2.1, h.2.2.2⟩
    · rw [if_neg q, if_neg q]
      exact h
theorem WEq.tick (h : WEq x y) : WEq (tickS x) (tickS y) := by
  have e : WEq (Sz_set_time x (Sz_time x + 1)) (Sz_set_time y (Sz_time y + 1)) := ⟨h.1, h.2.1, congrArg (fun t => t + 1) h.2.2.1, h.2.2.2⟩
  exact WEq.drAll 200 (WEq.ckAll e 8 (by decide))
/-- a reader whose hold is taken, and nothing else -/
abbrev frS (z : SZ) (a : Nat) : SZ := Sz_seti_readers z a (Rz_set_held (Sz_readers z a) 0)
theorem WEq.fr {z : SZ} {a : Nat} : WEq (hdS z a 0) (frS z a) := by
  refine ⟨rfl, rfl, rfl, fun n hn => ?_⟩
  by_cases q : n = a
  · subst q
    rw [rd_eq, rd_eq]
    exact ⟨rfl, rfl, rfl⟩
  · rw [rd_ne q, rd_ne q]
    exact ⟨rfl, rfl, rfl⟩
theorem SOK.fr {z : SZ} {a : Nat} (h : SOK z T) (ha : a < 8) : SOK (frS z a) T := by
  have g := h.2.2.2 a ha
  exact h.seti ⟨g.1, g.2.1, Or.inl rfl, fun c => absurd (show (0 : Int) = 1 from c) (by decide), g.2.2.2.2.1, g.2.2.2.2.2⟩
theorem Rel.fr {z : SZ} {W : Nat → Int} {a : Int} (h : SOK z T) (r : Rel z W) (h0 : 0 ≤ a) (h1 : a < 8) (hp : Rz_present (Sz_readers z a.toNat) = 1) : Rel (frS z a.toNat) (updz W (410 + 15 * a + 2).toNat 0) := by
  have h3 := h.1.1
  obtain ⟨g1, g2, g3, g4⟩ := r.2.2.2.2.2 a h0 h1
  obtain ⟨a1, a2, a3, a4, a5, a6, a7⟩ := g2 hp
  have hk : ∀ m : Nat, m ≠ (410 + 15 * a + 2).toNat → updz W (410 + 15 * a + 2).toNat 0 m = W m := fun m m0 => updz_ne m0
  refine r.setr (by omega) h0 h1 (fun m m0 m1 => hk m (by omega)) ?_
  unfold RelR
  rw [rd_eq]
  exact ⟨by rw [hk _ (by omega)]; exact g1, fun _ => ⟨by rw [hk _ (by omega)]; exact a1, updz_eq, by rw [hk _ (by omega)]; exact a3, by rw [hk _ (by omega)]; exact a4, by rw [hk _ (by omega)]; exact a5, by rw [hk _ (by omega)]; exact a6, fun q q0 q1 => by rw [hk _ (by omega)]; exact a7 q q0 q1⟩, by rw [hk _ (by omega)]; exact g3, fun c => absurd (show Rz_present (Sz_readers z a.toNat) = 0 from c) (by omega)⟩
theorem k_ifFree {a : Int} (h : SimZ T v w) (hT : T + 300 ≤ 5000000) : Z_T_ifFree a v (fun E v' => exZ E (Z_M_ifFree a w (finZ T 1 0 v')) False False) (fun r v' => Z_M_ifFree a w (finZ T 0 r v')) := by
  have h1 := h.1.1
  refine q_reader h1 (fun i hi hi8 hp => ⟨fun z => (nomatch z), fun j z => ?_⟩) (fun c => ⟨fun _ => ex_iob ?_, fun j z => (nomatch z)⟩)
  · cases z
    have e0 : i = a.toNat := by omega
    subst e0
    have hr : isR (Tz_state v) a := ⟨by omega, hp⟩
    refine q_copyToTry h1 (fun z hz => ?_)
    have hz1 := h1.eq hz
    have z5 := (hz.2.1 a.toNat hi8).2
    have p1 : Rz_present (Sz_readers z a.toNat) = 1 := (congrArg (fun q => q.1) z5).trans hp
    have hz2 : isR z a := ⟨hr.1, p1⟩
    have of : fltA z 4 a 0 0 = 0 := by
      show (if isR z a then (if (0 : Int) = 1 ∧ Rz_place (Sz_readers z a.toNat) < Lz_first (Sz_log z) then (3 : Int) else 0) else 1) = 0
      rw [if_pos hz2, if_neg (fun q => absurd q.1 (by decide))]
    refine q_attempt (c := 4) (by decide) hz1 (by omega) (Or.inl rfl) (fun _ r σ' hr' => ?_) (fun c => absurd of c)
    obtain ⟨e1, e2⟩ := hr'
    subst e2
    rintro _ rfl
    refine q_tick1 (σ := hdS z a.toNat 0) (hz1.hd hi8 p1 (Or.inl rfl) (fun q => absurd q (by decide))) (by omega) ?_
    rintro _ rfl
    have wt := (WEq.fr (z := z) (a := a.toNat)).tick.1
    have e : Lz_dropped (Sz_log (tickS (hdS z a.toNat 0))) = Lz_dropped (Sz_log (tickS (frS z a.toNat))) := congrArg (fun l => Lz_dropped l) wt
    have go : ∀ v' : TZ, SimZ T v' w → ZJ_M_ifFree_17 a a 0 w (finZ T 0 (Lz_dropped (Sz_log (tickS (hdS z a.toNat 0))) - Lz_dropped (Sz_log (hdS z a.toNat 0))) v') := by
      intro v' hv'
      refine m_yes ⟨fun _ => m_copy (fun U hU => ?_), fun y => absurd rfl y⟩
      rintro _ rfl
      refine m_reader hr.1.1 hr.1.2 ⟨by omega, by omega, ?_⟩
      rintro _ rfl
      have r0 : Rel z U := (h.1.2.eq h1 hz).weq hz1 hU
      refine m_goTicks (n := 1) (σ := frS z a.toNat) (W := updz U (410 + 15 * a + 2).toNat 0) (hz1.fr hi8) (r0.fr hz1 hr.1.1 hr.1.2 p1) (by decide) (by omega) (fun W' r' => ?_)
      rintro _ rfl
      exact ⟨rfl, fun _ => by rw [e]; rfl, hv'⟩
    exact m_isReader h1 h.1.2 (fun _ => ⟨fun y => absurd y (by decide), fun _ => go _ h⟩) (fun y => absurd hr y)
  · exact m_isReader h1 h.1.2 (fun z => absurd z c) (fun _ => ⟨fun _ => m_no (by decide) ⟨fun z => absurd z (by decide), fun _ => ⟨rfl, fun z => absurd z (by decide), h⟩⟩, fun z => absurd rfl z⟩)
end QM
