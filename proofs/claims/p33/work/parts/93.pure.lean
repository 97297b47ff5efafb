/-! ### the text: said, understood, loaded -/
def XL (x : XZ) (l : List Int) : Prop := Xz_length x = l.length ∧ ∀ k : Nat, k < l.length → Xz_signs x k = l.getD k 0
def csX (x : XZ) : Int → Int := fun p => if 0 ≤ p ∧ p < Xz_length x then Xz_signs x p.toNat else -1
def csL (l : List Int) : Int → Int := fun p => if 0 ≤ p ∧ p < (l.length : Int) then l.getD p.toNat 0 else -1
section XX
variable {x y : XZ} {v : TZ} {T : Int} {l : List Int}
theorem XL.cs (h : XL x l) : csX x = csL l := by
  funext p
  unfold csX csL
  rw [h.1]
  by_cases q : 0 ≤ p ∧ p < (l.length : Int)
  · rw [if_pos q, if_pos q]
    exact h.2 p.toNat (by omega)
  · rw [if_neg q, if_neg q]
theorem XEq.cs (h : XEq x y) : csX x = csX y := by
  funext p
  unfold csX
  rw [h.1]
  by_cases q : 0 ≤ p ∧ p < Xz_length y
  · rw [if_pos q, if_pos q]
    exact h.2 p.toNat (by omega)
  · rw [if_neg q, if_neg q]
theorem XL.eq (h : XL x l) (g : XL y l) : XEq x y := ⟨h.1.trans g.1.symm, fun k hk => (h.2 k (by have := g.1; omega)).trans (g.2 k (by have := g.1; omega)).symm⟩
theorem XOT.ok (h : XOT x) : XOK x (csX x) := by
  refine ⟨⟨h.1, fun p hp => if_neg hp, fun p => ?_⟩, fun p p0 p1 => ?_⟩
  · unfold csX
    by_cases q : 0 ≤ p ∧ p < Xz_length x
    · rw [if_pos q]
      have := h.2 p.toNat (by omega)
      omega
    · rw [if_neg q]
      decide
  · have e : csX x p = Xz_signs x p.toNat := if_pos ⟨p0, p1⟩
    rw [e]
    exact ⟨rfl, (h.2 p.toNat (by omega)).1⟩
theorem XL.ot (h : XL x l) (hl : l.length ≤ 120) (hc : ∀ k : Nat, k < l.length → 0 ≤ l.getD k 0 ∧ l.getD k 0 ≤ 255) : XOT x := by
  refine ⟨by have := h.1; omega, fun k hk => ?_⟩
  have hk2 : k < l.length := by have := h.1; omega
  rw [h.2 k hk2]
  exact hc k hk2
theorem XL.add {a : Int} (h : XL x l) : XL (Xz_set_length (Xz_set_signs x (updz (Xz_signs x) (Int.toNat (Xz_length x)) a)) (Xz_length x + 1)) (l ++ [a]) := by
  refine ⟨?_, fun k hk => ?_⟩
  · show Xz_length x + 1 = ((l ++ [a]).length : Int)
    rw [List.length_append, h.1]
    rfl
  · show updz (Xz_signs x) (Int.toNat (Xz_length x)) a k = (l ++ [a]).getD k 0
    rw [List.length_append] at hk
    have hk : k < l.length + 1 := hk
    have h1 := h.1
    by_cases q : k = l.length
    · rw [q, show Int.toNat (Xz_length x) = l.length by omega, updz_eq]
      simp
    · rw [updz_ne (by omega), h.2 k (by omega)]
      simp [List.getD, List.getElem?_append_left (show k < l.length by omega)]
theorem XOT.add {a : Int} (h : XOT x) (hl : Xz_length x < 120) (ha : 0 ≤ a ∧ a ≤ 255) : XOT (Xz_set_length (Xz_set_signs x (updz (Xz_signs x) (Int.toNat (Xz_length x)) a)) (Xz_length x + 1)) := by
  have h1 := h.1
  refine ⟨by show 0 ≤ Xz_length x + 1 ∧ Xz_length x + 1 ≤ 120; omega, fun k hk => ?_⟩
  have hk : (k : Int) < Xz_length x + 1 := hk
  show 0 ≤ updz (Xz_signs x) (Int.toNat (Xz_length x)) a k ∧ updz (Xz_signs x) (Int.toNat (Xz_length x)) a k ≤ 255
  by_cases q : k = Int.toNat (Xz_length x)
  · rw [q, updz_eq]
    exact ha
  · rw [updz_ne q]
    exact h.2 k (by omega)
theorem q_LAW_append {a : Int} {Q : Int → TZ → Prop} (h : XL (Tz_text v) l) (ho : XOT (Tz_text v)) (hl : l.length < 120) (a0 : 0 ≤ a) (a1 : a ≤ 255) (k : ∀ x', XL x' (l ++ [a]) → XOT x' → Q ((l.length : Int) + 1) (Tz_set_text v x')) : Z_LAW_append a v Q := by
  have h1 := h.1
  have ha : zi2cZ a = a := by unfold zi2cZ; omega
  unfold Z_LAW_append Z_T_append
  refine q_isIn (fun _ _ => ⟨fun _ => ⟨fun c => ⟨fun _ => ?_, fun z => absurd rfl z⟩, fun c => absurd c (by omega)⟩, fun z => absurd z (by decide)⟩) (fun c => absurd ⟨a0, a1⟩ c)
  rw [ha]
  refine ⟨fun z => absurd z (by omega), fun _ => ⟨fun z => absurd z (by omega), fun _ => ⟨by omega, by omega, ?_⟩⟩⟩
  rintro _ rfl
  refine ⟨by show -2147483648 ≤ Xz_length (Tz_text v) + 1 ∧ Xz_length (Tz_text v) + 1 < 2147483648; omega, ?_⟩
  rintro _ rfl
  rintro _ rfl
  have g := k _ (h.add (a := a)) (ho.add (by omega) ⟨a0, a1⟩)
  rw [← h1] at g
  exact g
theorem q_append_ar {a : Int} {Q : Int → TZ → Prop} (n : ¬ (0 ≤ a ∧ a ≤ 255)) (k : Q AR v) : Z_LAW_append a v Q := by
  unfold Z_LAW_append Z_T_append
  exact q_isIn (fun a0 a1 => absurd ⟨a0, a1⟩ n) (fun c => ⟨fun z => absurd rfl z, fun _ => ⟨fun _ => k, fun q => absurd q (by decide), fun q => absurd rfl q.1⟩⟩)
theorem q_LAW_says {a b c d : Int} {Q : Int → TZ → Prop} (h : XL (Tz_text v) l) (ho : XOT (Tz_text v)) (hl : l.length + 4 ≤ 120) (ha : 0 ≤ a ∧ a ≤ 255) (hb : 0 ≤ b ∧ b ≤ 255) (hc : 0 ≤ c ∧ c ≤ 255) (hd : 0 ≤ d ∧ d ≤ 255) (k : ∀ x', XL x' (l ++ [a, b, c, d]) → XOT x' → Q 1 (Tz_set_text v x')) : Z_LAW_says a b c d v Q := by
  have po : ∀ n : Nat, ¬ lg_cmpZ ((n : Int) + 1) 0 ≤ 0 := fun n q => absurd (lg_cmpZ_le.1.mp q) (by omega)
  unfold Z_LAW_says
  refine q_LAW_append h ho (by omega) ha.1 ha.2 (fun x1 g1 o1 => ⟨fun z => absurd z (po _), fun _ => ?_⟩)
  refine q_LAW_append (v := Tz_set_text v x1) g1 o1 (by simp; omega) hb.1 hb.2 (fun x2 g2 o2 => ⟨fun z => absurd z (po _), fun _ => ?_⟩)
  refine q_LAW_append (v := Tz_set_text v x2) g2 o2 (by simp; omega) hc.1 hc.2 (fun x3 g3 o3 => ⟨fun z => absurd z (po _), fun _ => ?_⟩)
  refine q_LAW_append (v := Tz_set_text v x3) g3 o3 (by simp; omega) hd.1 hd.2 (fun x4 g4 o4 => ⟨fun z => absurd z (po _), fun _ => ?_⟩)
  refine k x4 ?_ o4
  simpa using g4
theorem q_T_clearText {Q : Int → TZ → Prop} (h : XOT (Tz_text v)) (k : ∀ r x', 0 ≤ r → XL x' [] → XOT x' → Q r (Tz_set_text v x')) : Z_T_clearText v Q := by
  unfold Z_T_clearText Z_X_empty
  rintro _ rfl _ rfl
  exact k _ _ h.1.1 ⟨rfl, fun k hk => absurd hk (by simp)⟩ ⟨⟨Int.le_refl 0, by show (0 : Int) ≤ 120; decide⟩, fun k hk => absurd (show (k : Int) < 0 from hk) (by omega)⟩
theorem q_T_errorPosition {Q : Int → TZ → Prop} (h : XOT (Tz_text v)) (k : ∀ x', XEq x' (Tz_text v) → Q (errA (csX (Tz_text v)) (Xz_length (Tz_text v))) (Tz_set_text v x')) : Z_T_errorPosition v Q := by
  unfold Z_T_errorPosition
  refine q_findError h.ok (fun p' wr ac a b c => ?_)
  rintro _ rfl
  exact k _ ⟨rfl, fun _ _ => rfl⟩
end XX
section XP
variable {cs : Int → Int} {L p lo hi : Int}
theorem sT_ok (h1 : lo / 10 ≤ cs p - 48 ∧ cs p - 48 ≤ hi / 10) (h2 : (if cs p - 48 = lo / 10 then lo % 10 else 0) ≤ cs (p + 1) - 48 ∧ cs (p + 1) - 48 ≤ (if cs p - 48 = hi / 10 then hi % 10 else 9)) : (sT cs lo hi (1, p)).2 = (1, p + 1 + 1) := by
  unfold sT sT2
  rw [sD_ok h1]
  show (sD cs (if cs p - 48 = lo / 10 then lo % 10 else 0) (if cs p - 48 = hi / 10 then hi % 10 else 9) (1, p + 1)).2 = (1, p + 1 + 1)
  rw [sD_ok h2]
theorem sS_ok (h : cs p = 43 ∨ cs p = 45) : (sS cs (1, p)).2 = (1, p + 1) := by
  unfold sS
  rw [if_pos ⟨rfl, h⟩]
theorem sF_ok (h0 : 0 ≤ cs p - 48 ∧ cs p - 48 ≤ 3) (h1 : 0 ≤ cs (p + 1) - 48 ∧ cs (p + 1) - 48 ≤ 9) (h2 : 0 ≤ cs (p + 1 + 1) - 48 ∧ cs (p + 1 + 1) - 48 ≤ 9) (h3 : 0 ≤ cs (p + 1 + 1 + 1) - 48 ∧ cs (p + 1 + 1 + 1) - 48 ≤ 9) : (sF cs (1, p)).2 = (1, p + 1 + 1 + 1 + 1) := by
  unfold sF
  rw [sD_ok (by omega)]
  unfold sF3
  show (sK cs (if cs p - 48 = 4 then 0 else 9) 3 (cs p - 48) (1, p + 1)).2 = _
  rw [if_neg (by omega), sK, sD_ok h1, sK, sD_ok h2, sK, sD_ok h3]
  rfl
theorem errF_step {n : Nat} {q : Int} (hp : p < L) (h : (prs cs p).2.2.2 = (1, q)) : errF cs L (n + 1) p = errF cs L n q := by
  show (if p < L then (if (prs cs p).2.2.2.1 = 1 then errF cs L n (prs cs p).2.2.2.2 else (prs cs p).2.2.2.2) else -1) = errF cs L n q
  rw [if_pos hp, h, if_pos rfl]
theorem prs_of {c : Int} {n : Nat} (h : cs p = c) (e : aOf c = n) : prs cs p = pA cs (1, p + 1) n := by
  unfold prs
  rw [h, e, if_neg (by omega)]
  rfl
theorem prs_w (h : cs p = 119) (h1 : 0 ≤ cs (p + 1) - 48 ∧ cs (p + 1) - 48 ≤ 7) (h2 : 0 ≤ cs (p + 1 + 1) - 48 ∧ cs (p + 1 + 1) - 48 ≤ 9) (h3 : 0 ≤ cs (p + 1 + 1 + 1) - 48 ∧ cs (p + 1 + 1 + 1) - 48 ≤ 9)
    (h4 : 0 ≤ cs (p + 1 + 1 + 1 + 1) - 48 ∧ cs (p + 1 + 1 + 1 + 1) - 48 ≤ 3) (h5 : 1 ≤ cs (p + 1 + 1 + 1 + 1 + 1) - 48 ∧ cs (p + 1 + 1 + 1 + 1 + 1) - 48 ≤ 9) : (prs cs p).2.2.2 = (1, p + 6) := by
  rw [prs_of (n := 0) h (by decide)]
  show (sT cs 1 40 (sT cs 0 99 (sD cs 0 7 (1, p + 1)).2).2).2 = (1, p + 6)
  rw [sD_ok h1]
  show (sT cs 1 40 (sT cs 0 99 (1, p + 1 + 1)).2).2 = (1, p + 6)
  rw [sT_ok (lo := 0) (hi := 99) ⟨by omega, by omega⟩ ⟨by split <;> omega, by split <;> omega⟩, sT_ok (lo := 1) (hi := 40) ⟨by omega, by omega⟩ ⟨by split <;> omega, by split <;> omega⟩]
  rw [show p + 1 + 1 + 1 + 1 + 1 + 1 = p + 6 by omega]
theorem prs_j (h : cs p = 106) (h1 : 0 ≤ cs (p + 1) - 48 ∧ cs (p + 1) - 48 ≤ 7) (h2 : 0 ≤ cs (p + 1 + 1) - 48 ∧ cs (p + 1 + 1) - 48 ≤ 2) (h3 : cs (p + 1 + 1 + 1) = 43 ∨ cs (p + 1 + 1 + 1) = 45) : (prs cs p).2.2.2 = (1, p + 4) := by
  rw [prs_of (n := 1) h (by decide)]
  show (sS cs (sD cs 0 2 (sD cs 0 7 (1, p + 1)).2).2).2 = (1, p + 4)
  rw [sD_ok h1]
  show (sS cs (sD cs 0 2 (1, p + 1 + 1)).2).2 = (1, p + 4)
  rw [sD_ok h2]
  show (sS cs (1, p + 1 + 1 + 1)).2 = (1, p + 4)
  rw [sS_ok h3, show p + 1 + 1 + 1 + 1 = p + 4 by omega]
theorem prs_r (h : cs p = 114) (h1 : 0 ≤ cs (p + 1) - 48 ∧ cs (p + 1) - 48 ≤ 7) (h2 : 0 ≤ cs (p + 1 + 1) - 48 ∧ cs (p + 1 + 1) - 48 ≤ 4) (h3 : 1 ≤ cs (p + 1 + 1 + 1) - 48 ∧ cs (p + 1 + 1 + 1) - 48 ≤ 9) : (prs cs p).2.2.2 = (1, p + 4) := by
  rw [prs_of (n := 2) h (by decide)]
  show (sT cs 1 50 (sD cs 0 7 (1, p + 1)).2).2 = (1, p + 4)
  rw [sD_ok h1]
  show (sT cs 1 50 (1, p + 1 + 1)).2 = (1, p + 4)
  rw [sT_ok (lo := 1) (hi := 50) ⟨by omega, by omega⟩ ⟨by split <;> omega, by split <;> omega⟩, show p + 1 + 1 + 1 + 1 = p + 4 by omega]
theorem prs_t (h : cs p = 116) (h1 : cs (p + 1) = 48) (h2 : 1 ≤ cs (p + 1 + 1) - 48 ∧ cs (p + 1 + 1) - 48 ≤ 9) : (prs cs p).2.2.2 = (1, p + 3) := by
  rw [prs_of (n := 6) h (by decide)]
  show (sT cs 1 99 (1, p + 1)).2 = (1, p + 3)
  rw [sT_ok (lo := 1) (hi := 99) ⟨by omega, by omega⟩ ⟨by split <;> omega, by split <;> omega⟩, show p + 1 + 1 + 1 = p + 3 by omega]
theorem prs_h (h : cs p = 104) (h1 : 0 ≤ cs (p + 1) - 48 ∧ cs (p + 1) - 48 ≤ 7) (h2 : cs (p + 1 + 1) = 43 ∨ cs (p + 1 + 1) = 45) : (prs cs p).2.2.2 = (1, p + 3) := by
  rw [prs_of (n := 4) h (by decide)]
  show (sS cs (sD cs 0 7 (1, p + 1)).2).2 = (1, p + 3)
  rw [sD_ok h1]
  show (sS cs (1, p + 1 + 1)).2 = (1, p + 3)
  rw [sS_ok h2, show p + 1 + 1 + 1 = p + 3 by omega]
theorem prs_s (h : cs p = 115) (h1 : cs (p + 1) = 51) (h2 : cs (p + 1 + 1) = 48) (h3 : 0 ≤ cs (p + 1 + 1 + 1) - 48 ∧ cs (p + 1 + 1 + 1) - 48 ≤ 9) (h4 : 0 ≤ cs (p + 1 + 1 + 1 + 1) - 48 ∧ cs (p + 1 + 1 + 1 + 1) - 48 ≤ 9) (h5 : cs (p + 1 + 1 + 1 + 1 + 1) = 48) : (prs cs p).2.2.2 = (1, p + 6) := by
  rw [prs_of (n := 5) h (by decide)]
  show (sF cs (sD cs 0 5 (1, p + 1)).2).2 = (1, p + 6)
  rw [sD_ok (by omega)]
  show (sF cs (1, p + 1 + 1)).2 = (1, p + 6)
  rw [sF_ok (by omega) h3 h4 (by omega), show p + 1 + 1 + 1 + 1 + 1 + 1 = p + 6 by omega]
theorem prs_l (h : cs p = 108) (h1 : 0 ≤ cs (p + 1) - 48 ∧ cs (p + 1) - 48 ≤ 7) : (prs cs p).2.2.2 = (1, p + 2) := by
  rw [prs_of (n := 3) h (by decide)]
  show (sD cs 0 7 (1, p + 1)).2 = (1, p + 2)
  rw [sD_ok h1, show p + 1 + 1 = p + 2 by omega]
/-- a block of the law's text, for the number y -/
def blk (y : Int) : List Int := [119, 48 + Int.tmod y 8, 48 + Int.tmod y 10, 48 + Int.tmod (Int.tdiv y 3) 10, 48 + Int.tmod y 4, 49 + Int.tmod y 9, 106, 48 + Int.tmod y 8, 48 + Int.tmod y 3, (if Int.tmod y 2 = 0 then 43 else 45), 114, 48 + Int.tmod y 8, 48 + Int.tmod y 5, 49 + Int.tmod y 9, 116, 48, 49 + Int.tmod y 9, 104, 48 + Int.tmod (Int.tdiv y 2) 8, (if Int.tmod y 3 = 0 then 45 else 43)]
def tlL (x : Int) : List Int := [115, 51, 48, 48 + Int.tmod x 10, 48 + Int.tmod (Int.tdiv x 2) 10, 48, 108, 48 + Int.tmod x 8]
def atL (cs : Int → Int) (p : Int) (l : List Int) : Prop := ∀ k : Nat, k < l.length → cs (p + k) = l.getD k 0
theorem tmB {y n : Int} (h : 0 ≤ y) (hn : 0 < n) : 0 ≤ Int.tmod y n ∧ Int.tmod y n < n := by
  rw [Int.tmod_eq_emod_of_nonneg h]
  exact ⟨Int.emod_nonneg _ (by omega), Int.emod_lt_of_pos _ hn⟩
theorem tdB {y n : Int} (h : 0 ≤ y) (hn : 0 < n) : 0 ≤ Int.tdiv y n := Int.tdiv_nonneg h (by omega)
theorem errF_blk {n : Nat} {y : Int} (hy : 0 ≤ y) (h : atL cs p (blk y)) (hL : p + 20 ≤ L) : errF cs L (n + 5) p = errF cs L n (p + 20) := by
  have a0 := h 0 (Nat.le_of_ble_eq_true rfl)
  have a1 := h 1 (Nat.le_of_ble_eq_true rfl)
  have a2 := h 2 (Nat.le_of_ble_eq_true rfl)
  have a3 := h 3 (Nat.le_of_ble_eq_true rfl)
  have a4 := h 4 (Nat.le_of_ble_eq_true rfl)
  have a5 := h 5 (Nat.le_of_ble_eq_true rfl)
  have a6 := h 6 (Nat.le_of_ble_eq_true rfl)
  have a7 := h 7 (Nat.le_of_ble_eq_true rfl)
  have a8 := h 8 (Nat.le_of_ble_eq_true rfl)
  have a9 := h 9 (Nat.le_of_ble_eq_true rfl)
  have a10 := h 10 (Nat.le_of_ble_eq_true rfl)
  have a11 := h 11 (Nat.le_of_ble_eq_true rfl)
  have a12 := h 12 (Nat.le_of_ble_eq_true rfl)
  have a13 := h 13 (Nat.le_of_ble_eq_true rfl)
  have a14 := h 14 (Nat.le_of_ble_eq_true rfl)
  have a15 := h 15 (Nat.le_of_ble_eq_true rfl)
  have a16 := h 16 (Nat.le_of_ble_eq_true rfl)
  have a17 := h 17 (Nat.le_of_ble_eq_true rfl)
  have a18 := h 18 (Nat.le_of_ble_eq_true rfl)
  have a19 := h 19 (Nat.le_of_ble_eq_true rfl)
  have e0 : cs p = 119 := by rw [show p = p + ((0 : Nat) : Int) by omega]; exact a0
  have e1 : cs (p + 1) = 48 + Int.tmod y 8 := a1
  have e2 : cs (p + 2) = 48 + Int.tmod y 10 := a2
  have e3 : cs (p + 3) = 48 + Int.tmod (Int.tdiv y 3) 10 := a3
  have e4 : cs (p + 4) = 48 + Int.tmod y 4 := a4
  have e5 : cs (p + 5) = 49 + Int.tmod y 9 := a5
  have e6 : cs (p + 6) = 106 := a6
  have e7 : cs (p + 7) = 48 + Int.tmod y 8 := a7
  have e8 : cs (p + 8) = 48 + Int.tmod y 3 := a8
  have e9 : cs (p + 9) = if Int.tmod y 2 = 0 then 43 else 45 := a9
  have e10 : cs (p + 10) = 114 := a10
  have e11 : cs (p + 11) = 48 + Int.tmod y 8 := a11
  have e12 : cs (p + 12) = 48 + Int.tmod y 5 := a12
  have e13 : cs (p + 13) = 49 + Int.tmod y 9 := a13
  have e14 : cs (p + 14) = 116 := a14
  have e15 : cs (p + 15) = 48 := a15
  have e16 : cs (p + 16) = 49 + Int.tmod y 9 := a16
  have e17 : cs (p + 17) = 104 := a17
  have e18 : cs (p + 18) = 48 + Int.tmod (Int.tdiv y 2) 8 := a18
  have e19 : cs (p + 19) = if Int.tmod y 3 = 0 then 45 else 43 := a19
  have b8 := tmB hy (n := 8) (by decide)
  have b10 := tmB hy (n := 10) (by decide)
  have b3 := tmB (tdB hy (n := 3) (by decide)) (n := 10) (by decide)
  have b4 := tmB hy (n := 4) (by decide)
  have b9 := tmB hy (n := 9) (by decide)
  have c3 := tmB hy (n := 3) (by decide)
  have b5 := tmB hy (n := 5) (by decide)
  have b2 := tmB (tdB hy (n := 2) (by decide)) (n := 8) (by decide)
  have s9 : cs (p + 9) = 43 ∨ cs (p + 9) = 45 := by rw [e9]; split <;> decide
  have s19 : cs (p + 19) = 43 ∨ cs (p + 19) = 45 := by rw [e19]; split <;> decide
  have st1 := errF_step (cs := cs) (L := L) (n := n + 4) (p := p) (q := p + 6) (by omega) (prs_w e0 (by omega) (by rw [show p + 1 + 1 = p + 2 by omega]; omega) (by rw [show p + 1 + 1 + 1 = p + 3 by omega]; omega) (by rw [show p + 1 + 1 + 1 + 1 = p + 4 by omega]; omega) (by rw [show p + 1 + 1 + 1 + 1 + 1 = p + 5 by omega]; omega))
  have st2 := errF_step (cs := cs) (L := L) (n := n + 3) (p := p + 6) (q := p + 6 + 4) (by omega) (prs_j e6 (by rw [show p + 6 + 1 = p + 7 by omega]; omega) (by rw [show p + 6 + 1 + 1 = p + 8 by omega]; omega) (by rw [show p + 6 + 1 + 1 + 1 = p + 9 by omega]; exact s9))
  have st3 := errF_step (cs := cs) (L := L) (n := n + 2) (p := p + 10) (q := p + 10 + 4) (by omega) (prs_r e10 (by rw [show p + 10 + 1 = p + 11 by omega]; omega) (by rw [show p + 10 + 1 + 1 = p + 12 by omega]; omega) (by rw [show p + 10 + 1 + 1 + 1 = p + 13 by omega]; omega))
  have st4 := errF_step (cs := cs) (L := L) (n := n + 1) (p := p + 14) (q := p + 14 + 3) (by omega) (prs_t e14 (by rw [show p + 14 + 1 = p + 15 by omega]; exact e15) (by rw [show p + 14 + 1 + 1 = p + 16 by omega]; omega))
  have st5 := errF_step (cs := cs) (L := L) (n := n) (p := p + 17) (q := p + 17 + 3) (by omega) (prs_h e17 (by rw [show p + 17 + 1 = p + 18 by omega]; omega) (by rw [show p + 17 + 1 + 1 = p + 19 by omega]; exact s19))
  rw [show p + 6 + 4 = p + 10 by omega] at st2
  rw [show p + 10 + 4 = p + 14 by omega] at st3
  rw [show p + 14 + 3 = p + 17 by omega] at st4
  rw [show p + 17 + 3 = p + 20 by omega] at st5
  exact st1.trans (st2.trans (st3.trans (st4.trans st5)))
theorem errF_tail {n : Nat} {y : Int} (hy : 0 ≤ y) (h : atL cs p (tlL y)) (hL : p + 8 = L) : errF cs L (n + 3) p = -1 := by
  have a0 := h 0 (Nat.le_of_ble_eq_true rfl)
  have a1 := h 1 (Nat.le_of_ble_eq_true rfl)
  have a2 := h 2 (Nat.le_of_ble_eq_true rfl)
  have a3 := h 3 (Nat.le_of_ble_eq_true rfl)
  have a4 := h 4 (Nat.le_of_ble_eq_true rfl)
  have a5 := h 5 (Nat.le_of_ble_eq_true rfl)
  have a6 := h 6 (Nat.le_of_ble_eq_true rfl)
  have a7 := h 7 (Nat.le_of_ble_eq_true rfl)
  have e0 : cs p = 115 := by rw [show p = p + ((0 : Nat) : Int) by omega]; exact a0
  have e1 : cs (p + 1) = 51 := a1
  have e2 : cs (p + 2) = 48 := a2
  have e3 : cs (p + 3) = 48 + Int.tmod y 10 := a3
  have e4 : cs (p + 4) = 48 + Int.tmod (Int.tdiv y 2) 10 := a4
  have e5 : cs (p + 5) = 48 := a5
  have e6 : cs (p + 6) = 108 := a6
  have e7 : cs (p + 7) = 48 + Int.tmod y 8 := a7
  have b10 := tmB hy (n := 10) (by decide)
  have b2 := tmB (tdB hy (n := 2) (by decide)) (n := 10) (by decide)
  have b8 := tmB hy (n := 8) (by decide)
  have st1 := errF_step (cs := cs) (L := L) (n := n + 2) (p := p) (q := p + 6) (by omega) (prs_s e0 e1 (by rw [show p + 1 + 1 = p + 2 by omega]; exact e2) (by rw [show p + 1 + 1 + 1 = p + 3 by omega]; omega) (by rw [show p + 1 + 1 + 1 + 1 = p + 4 by omega]; omega) (by rw [show p + 1 + 1 + 1 + 1 + 1 = p + 5 by omega]; exact e5))
  have st2 := errF_step (cs := cs) (L := L) (n := n + 1) (p := p + 6) (q := p + 6 + 2) (by omega) (prs_l e6 (by rw [show p + 6 + 1 = p + 7 by omega]; omega))
  rw [st1, st2]
  show (if p + 6 + 2 < L then _ else -1) = (-1 : Int)
  rw [if_neg (by omega)]
end XP
