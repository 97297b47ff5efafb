def Z_T_ticks (x1 : Int) (v0 : TZ) (X : (String → TZ → Prop)) (Q : (Int → TZ → Prop)) : Prop := (Z_T_act 6 x1 0 0 v0 X (fun r1_ v5_ => (Q r1_ v5_)))
set_option maxRecDepth 100000 in
theorem z_T_ticks {x1 : Int32} {x1z : Int} {v0 : TT} {v0z : TZ}  {X : String → TT → Prop} {Xz : (String → TZ → Prop)} {Q : Int32 → TT → Prop} {Qz : (Int → TZ → Prop)} (e_x1 : x1.toInt = x1z) (e_v0 : (aT v0) = v0z) (h_X : ∀ (a0 : String) (a1 : TT), Xz a0 (aT a1) → X a0 a1) (h_Q : ∀ (a0 : Int32) (a1 : TT), Qz a0.toInt (aT a1) → Q a0 a1) (h : Z_T_ticks x1z v0z Xz Qz) : P_T_ticks x1 v0 X Q := by
  subst e_x1
  subst e_v0
  unfold Z_T_ticks at h
  unfold P_T_ticks
  refine z_T_act rfl rfl rfl rfl rfl h_X (fun r1_ v5_ h => ?_) h
  exact h_Q _ _ h

def Z_T_undo (v0 : TZ) (X : (String → TZ → Prop)) (Q : (Int → TZ → Prop)) : Prop := ((¬ (Hz_count (Tz_history v0)) = 0 → (Z_H_takeBack (Tz_history v0) (Tz_state v0) (fun r2_ v6_ v7_ => (∀ v15_, v15_ = (Tz_set_history v0 v6_) → ((∀ v20_, v20_ = (Tz_set_state v15_ v7_) → ((Q r2_ v20_)))))))) ∧ ((Hz_count (Tz_history v0)) = 0 → (X ("java/lang/IllegalStateException") v0)))
set_option maxRecDepth 100000 in
theorem z_T_undo {v0 : TT} {v0z : TZ}  {X : String → TT → Prop} {Xz : (String → TZ → Prop)} {Q : Int32 → TT → Prop} {Qz : (Int → TZ → Prop)} (e_v0 : (aT v0) = v0z) (h_X : ∀ (a0 : String) (a1 : TT), Xz a0 (aT a1) → X a0 a1) (h_Q : ∀ (a0 : Int32) (a1 : TT), Qz a0.toInt (aT a1) → Q a0 a1) (h : Z_T_undo v0z Xz Qz) : P_T_undo v0 X Q := by
  subst e_v0
  unfold Z_T_undo at h
  unfold P_T_undo
  refine ⟨fun c1q => ?_, fun c1q => ?_⟩
  · have h := h.1 (fun k => c1q ((zt_eq rfl rfl).mpr k))
    refine z_H_takeBack rfl rfl (fun r2_ v6_ v7_ h => ?_) h
    intro v15_ ev15_
    have h := h (aT v15_) (by rw [ev15_]; exact rfl)
    intro v20_ ev20_
    have h := h (aT v20_) (by rw [ev20_]; exact rfl)
    exact h_Q _ _ h
  · have h := h.2 ((zt_eq rfl rfl).mp c1q)
    exact h_X _ _ h

def Z_T_why (v0 : TZ) (Q : (Int → Prop)) : Prop := (Z_S_firstStays (Tz_state v0) (fun r1_ => (Q r1_)))
set_option maxRecDepth 100000 in
theorem z_T_why {v0 : TT} {v0z : TZ}  {Q : Int32 → Prop} {Qz : (Int → Prop)} (e_v0 : (aT v0) = v0z) (h_Q : ∀ (a0 : Int32), Qz a0.toInt → Q a0) (h : Z_T_why v0z Qz) : P_T_why v0 Q := by
  subst e_v0
  unfold Z_T_why at h
  unfold P_T_why
  refine z_S_firstStays rfl (fun r1_ h => ?_) h
  exact h_Q _ h

def Z_T_slowest (v0 : TZ) (Q : (Int → Prop)) : Prop := (Z_S_slowestHolder (Tz_state v0) (fun r1_ => (Q r1_)))
set_option maxRecDepth 100000 in
theorem z_T_slowest {v0 : TT} {v0z : TZ}  {Q : Int32 → Prop} {Qz : (Int → Prop)} (e_v0 : (aT v0) = v0z) (h_Q : ∀ (a0 : Int32), Qz a0.toInt → Q a0) (h : Z_T_slowest v0z Qz) : P_T_slowest v0 Q := by
  subst e_v0
  unfold Z_T_slowest at h
  unfold P_T_slowest
  refine z_S_slowestHolder rfl (fun r1_ h => ?_) h
  exact h_Q _ h

def Z_T_truth (x1 : Int) (x2 : Int) (x3 : Int) (v0 : TZ) (X : (String → Prop)) (Q : (Int → Prop)) : Prop := (Z_T_isIn x2 (Lz_first (Sz_log (Tz_state v0))) (Lz_end (Sz_log (Tz_state v0))) (fun r1_ => ((¬ r1_ = 0 → (Z_T_isIn x1 0 7 (fun r6_ => ((r6_ = 0 → (X ("java/lang/IllegalArgumentException"))) ∧ (¬ r6_ = 0 → (Z_T_isIn x3 0 1 (fun r11_ => ((¬ r11_ = 0 → ((¬ x3 = 0 → (Z_L_toldBackwards x1 x2 (Sz_log (Tz_state v0)) (fun r17_ => (Q r17_)))) ∧ (x3 = 0 → (Z_L_toldForwards x1 x2 (Sz_log (Tz_state v0)) (fun r21_ => (Q r21_)))))) ∧ (r11_ = 0 → (X ("java/lang/IllegalArgumentException"))))))))))) ∧ (r1_ = 0 → (X ("java/lang/IndexOutOfBoundsException"))))))
set_option maxRecDepth 100000 in
theorem z_T_truth {x1 : Int32} {x1z : Int} {x2 : Int32} {x2z : Int} {x3 : Int32} {x3z : Int} {v0 : TT} {v0z : TZ}  {X : String → Prop} {Xz : (String → Prop)} {Q : Int32 → Prop} {Qz : (Int → Prop)} (e_x1 : x1.toInt = x1z) (e_x2 : x2.toInt = x2z) (e_x3 : x3.toInt = x3z) (e_v0 : (aT v0) = v0z) (h_X : ∀ (a0 : String), Xz a0 → X a0) (h_Q : ∀ (a0 : Int32), Qz a0.toInt → Q a0) (h : Z_T_truth x1z x2z x3z v0z Xz Qz) : P_T_truth x1 x2 x3 v0 X Q := by
  subst e_x1
  subst e_x2
  subst e_x3
  subst e_v0
  unfold Z_T_truth at h
  unfold P_T_truth
  refine z_T_isIn rfl rfl rfl (fun r1_ h => ?_) h
  refine ⟨fun c4q => ?_, fun c4q => ?_⟩
  · have h := h.1 (fun k => c4q ((zt_eq rfl rfl).mpr k))
    refine z_T_isIn rfl rfl rfl (fun r6_ h => ?_) h
    refine ⟨fun c3q => ?_, fun c3q => ?_⟩
    · have h := h.1 ((zt_eq rfl rfl).mp c3q)
      exact h_X _ h
    · have h := h.2 (fun k => c3q ((zt_eq rfl rfl).mpr k))
      refine z_T_isIn rfl rfl rfl (fun r11_ h => ?_) h
      refine ⟨fun c2q => ?_, fun c2q => ?_⟩
      · have h := h.1 (fun k => c2q ((zt_eq rfl rfl).mpr k))
        refine ⟨fun c1q => ?_, fun c1q => ?_⟩
        · have h := h.1 (fun k => c1q ((zt_eq rfl rfl).mpr k))
          refine z_L_toldBackwards rfl rfl rfl (fun r17_ h => ?_) h
          exact h_Q _ h
        · have h := h.2 ((zt_eq rfl rfl).mp c1q)
          refine z_L_toldForwards rfl rfl rfl (fun r21_ h => ?_) h
          exact h_Q _ h
      · have h := h.2 ((zt_eq rfl rfl).mp c2q)
        exact h_X _ h
  · have h := h.2 ((zt_eq rfl rfl).mp c4q)
    exact h_X _ h

def Z_T_copyToTry (v0 : TZ) (Q : (TZ → Prop)) : Prop := (Z_S_takeOver (Tz_trial v0) (Tz_state v0) (fun v5_ => (∀ v10_, v10_ = (Tz_set_trial v0 v5_) → ((Q v10_)))))
set_option maxRecDepth 100000 in
theorem z_T_copyToTry {v0 : TT} {v0z : TZ}  {Q : TT → Prop} {Qz : (TZ → Prop)} (e_v0 : (aT v0) = v0z) (h_Q : ∀ (a0 : TT), Qz (aT a0) → Q a0) (h : Z_T_copyToTry v0z Qz) : P_T_copyToTry v0 Q := by
  subst e_v0
  unfold Z_T_copyToTry at h
  unfold P_T_copyToTry
  refine z_S_takeOver rfl rfl (fun v5_ h => ?_) h
  intro v10_ ev10_
  have h := h (aT v10_) (by rw [ev10_]; exact rfl)
  exact h_Q _ h

def ZL_T_droppedIn_7 : Nat → Int → TZ → (Int → TZ → Prop) → Prop
  | 0, _, _, _ => False
  | n + 1, y2, v0, Q => ((300 < y2 → (Q (-1) v0)) ∧ (¬ 300 < y2 → (Z_S_passTime 1 (Tz_trial v0) (fun r10_ v14_ => (∀ v19_, v19_ = (Tz_set_trial v0 v14_) → (((r10_ ≤ 0 → zin (y2 + 1) ∧ (ZL_T_droppedIn_7 n (y2 + 1) v19_ Q)) ∧ (¬ r10_ ≤ 0 → (Q y2 v19_)))))))))
set_option maxRecDepth 100000 in
theorem zL_T_droppedIn_7 (n : Nat) : ∀ {y2 : Int32} {y2z : Int} {v0 : TT} {v0z : TZ}  {Q : Int32 → TT → Prop} {Qz : (Int → TZ → Prop)} (e_y2 : y2.toInt = y2z) (e_v0 : (aT v0) = v0z) (h_Q : ∀ (a0 : Int32) (a1 : TT), Qz a0.toInt (aT a1) → Q a0 a1) (h : ZL_T_droppedIn_7 n y2z v0z Qz), PL_T_droppedIn_7 n y2 v0 Q := by
  induction n with
  | zero =>
    intro y2 y2z v0 v0z Q Qz e_y2 e_v0 h_Q h
    exact (h : False).elim
  | succ n ih =>
    intro y2 y2z v0 v0z Q Qz e_y2 e_v0 h_Q h
    subst e_y2
    subst e_v0
    rw [ZL_T_droppedIn_7] at h
    rw [PL_T_droppedIn_7]
    refine ⟨fun c3q => ?_, fun c3q => ?_⟩
    · have h := h.1 ((zt_lt rfl rfl).mp c3q)
      exact h_Q _ _ h
    · have h := h.2 (fun k => c3q ((zt_lt rfl rfl).mpr k))
      refine z_S_passTime rfl rfl (fun r10_ v14_ h => ?_) h
      intro v19_ ev19_
      have h := h (aT v19_) (by rw [ev19_]; exact rfl)
      refine ⟨fun c2q => ?_, fun c2q => ?_⟩
      · have h := h.1 ((zt_le rfl rfl).mp c2q)
        obtain ⟨o1q, h⟩ := h
        refine ih (show (((y2 + 1) : Int32)).toInt = ((y2.toInt + 1) : Int) from (zt_add rfl rfl o1q)) rfl h_Q h
      · have h := h.2 (fun k => c2q ((zt_le rfl rfl).mpr k))
        exact h_Q _ _ h
def Z_T_droppedIn (v0 : TZ) (Q : (Int → TZ → Prop)) : Prop := (Z_T_copyToTry v0 (fun v5_ => (∃ n23_, (ZL_T_droppedIn_7 n23_ 1 v5_ Q))))
set_option maxRecDepth 100000 in
theorem z_T_droppedIn {v0 : TT} {v0z : TZ}  {Q : Int32 → TT → Prop} {Qz : (Int → TZ → Prop)} (e_v0 : (aT v0) = v0z) (h_Q : ∀ (a0 : Int32) (a1 : TT), Qz a0.toInt (aT a1) → Q a0 a1) (h : Z_T_droppedIn v0z Qz) : P_T_droppedIn v0 Q := by
  subst e_v0
  unfold Z_T_droppedIn at h
  unfold P_T_droppedIn
  refine z_T_copyToTry rfl (fun v5_ h => ?_) h
  obtain ⟨n23_, h⟩ := h
  refine ⟨n23_, ?_⟩
  refine zL_T_droppedIn_7 n23_ rfl rfl h_Q h

def ZL_T_lostIn_38 : Nat → Int → Int → Int → TZ → (String → TZ → Prop) → (Int → TZ → Prop) → Prop
  | 0, _, _, _, _, _, _ => False
  | n + 1, x1, y1, y3, v0, X, Q => ((300 < y3 → (Q (-1) v0)) ∧ (¬ 300 < y3 → (Z_S_passTime 1 (Tz_trial v0) (fun r23_ v27_ => (∀ v32_, v32_ = (Tz_set_trial v0 v27_) → ((Z_S_hasHold y1 (Tz_trial v32_) (fun r35_ => ((¬ r35_ = 0 → zin (y3 + 1) ∧ (ZL_T_lostIn_38 n x1 y1 (y3 + 1) v32_ X Q)) ∧ (r35_ = 0 → (Q y3 v32_)))))))))))
set_option maxRecDepth 100000 in
theorem zL_T_lostIn_38 (n : Nat) : ∀ {x1 : Int32} {x1z : Int} {y1 : Int32} {y1z : Int} {y3 : Int32} {y3z : Int} {v0 : TT} {v0z : TZ}  {X : String → TT → Prop} {Xz : (String → TZ → Prop)} {Q : Int32 → TT → Prop} {Qz : (Int → TZ → Prop)} (e_x1 : x1.toInt = x1z) (e_y1 : y1.toInt = y1z) (e_y3 : y3.toInt = y3z) (e_v0 : (aT v0) = v0z) (h_X : ∀ (a0 : String) (a1 : TT), Xz a0 (aT a1) → X a0 a1) (h_Q : ∀ (a0 : Int32) (a1 : TT), Qz a0.toInt (aT a1) → Q a0 a1) (h : ZL_T_lostIn_38 n x1z y1z y3z v0z Xz Qz), PL_T_lostIn_38 n x1 y1 y3 v0 X Q := by
  induction n with
  | zero =>
    intro x1 x1z y1 y1z y3 y3z v0 v0z X Xz Q Qz e_x1 e_y1 e_y3 e_v0 h_X h_Q h
    exact (h : False).elim
  | succ n ih =>
    intro x1 x1z y1 y1z y3 y3z v0 v0z X Xz Q Qz e_x1 e_y1 e_y3 e_v0 h_X h_Q h
    subst e_x1
    subst e_y1
    subst e_y3
    subst e_v0
    rw [ZL_T_lostIn_38] at h
    rw [PL_T_lostIn_38]
    refine ⟨fun c3q => ?_, fun c3q => ?_⟩
    · have h := h.1 ((zt_lt rfl rfl).mp c3q)
      exact h_Q _ _ h
    · have h := h.2 (fun k => c3q ((zt_lt rfl rfl).mpr k))
      refine z_S_passTime rfl rfl (fun r23_ v27_ h => ?_) h
      intro v32_ ev32_
      have h := h (aT v32_) (by rw [ev32_]; exact rfl)
      refine z_S_hasHold rfl rfl (fun r35_ h => ?_) h
      refine ⟨fun c2q => ?_, fun c2q => ?_⟩
      · have h := h.1 (fun k => c2q ((zt_eq rfl rfl).mpr k))
        obtain ⟨o1q, h⟩ := h
        refine ih rfl rfl (show (((y3 + 1) : Int32)).toInt = ((y3.toInt + 1) : Int) from (zt_add rfl rfl o1q)) rfl h_X h_Q h
      · have h := h.2 ((zt_eq rfl rfl).mp c2q)
        exact h_Q _ _ h
def Z_T_lostIn (x1 : Int) (v0 : TZ) (X : (String → TZ → Prop)) (Q : (Int → TZ → Prop)) : Prop := (Z_S_reader x1 (Tz_state v0) (fun r5_ => ((r5_ = none → (X ("java/lang/IndexOutOfBoundsException") v0)) ∧ (∀ i7_, r5_ = some i7_ → (Z_T_copyToTry v0 (fun v13_ => (Z_S_hasHold x1 (Tz_trial v13_) (fun r17_ => ((¬ r17_ = 0 → (∃ n40_, (ZL_T_lostIn_38 n40_ x1 x1 1 v13_ X Q))) ∧ (r17_ = 0 → (Q (-1) v13_)))))))))))
set_option maxRecDepth 100000 in
theorem z_T_lostIn {x1 : Int32} {x1z : Int} {v0 : TT} {v0z : TZ}  {X : String → TT → Prop} {Xz : (String → TZ → Prop)} {Q : Int32 → TT → Prop} {Qz : (Int → TZ → Prop)} (e_x1 : x1.toInt = x1z) (e_v0 : (aT v0) = v0z) (h_X : ∀ (a0 : String) (a1 : TT), Xz a0 (aT a1) → X a0 a1) (h_Q : ∀ (a0 : Int32) (a1 : TT), Qz a0.toInt (aT a1) → Q a0 a1) (h : Z_T_lostIn x1z v0z Xz Qz) : P_T_lostIn x1 v0 X Q := by
  subst e_x1
  subst e_v0
  unfold Z_T_lostIn at h
  unfold P_T_lostIn
  refine z_S_reader rfl rfl (fun r5_ h => ?_) h
  refine ⟨fun c => ?_, fun i7_ c => ?_⟩
  · have h := h.1 c
    exact h_X _ _ h
  · have h := h.2 i7_ c
    refine z_T_copyToTry rfl (fun v13_ h => ?_) h
    refine z_S_hasHold rfl rfl (fun r17_ h => ?_) h
    refine ⟨fun c1q => ?_, fun c1q => ?_⟩
    · have h := h.1 (fun k => c1q ((zt_eq rfl rfl).mpr k))
      obtain ⟨n40_, h⟩ := h
      refine ⟨n40_, ?_⟩
      refine zL_T_lostIn_38 n40_ rfl rfl rfl rfl h_X h_Q h
    · have h := h.2 ((zt_eq rfl rfl).mp c1q)
      exact h_Q _ _ h

def Z_T_ifFree (x1 : Int) (v0 : TZ) (X : (String → TZ → Prop)) (Q : (Int → TZ → Prop)) : Prop := (Z_S_reader x1 (Tz_state v0) (fun r5_ => ((r5_ = none → (X ("java/lang/IndexOutOfBoundsException") v0)) ∧ (∀ i7_, r5_ = some i7_ → (Z_T_copyToTry v0 (fun v13_ => (Z_S_attempt 4 x1 0 0 (Tz_trial v13_) (fun r17_ v21_ => (∀ v26_, v26_ = (Tz_set_trial v13_ v21_) → ((Z_S_passTime 1 (Tz_trial v26_) (fun r29_ v33_ => (∀ v38_, v38_ = (Tz_set_trial v26_ v33_) → ((Q r29_ v38_)))))))))))))))
set_option maxRecDepth 100000 in
theorem z_T_ifFree {x1 : Int32} {x1z : Int} {v0 : TT} {v0z : TZ}  {X : String → TT → Prop} {Xz : (String → TZ → Prop)} {Q : Int32 → TT → Prop} {Qz : (Int → TZ → Prop)} (e_x1 : x1.toInt = x1z) (e_v0 : (aT v0) = v0z) (h_X : ∀ (a0 : String) (a1 : TT), Xz a0 (aT a1) → X a0 a1) (h_Q : ∀ (a0 : Int32) (a1 : TT), Qz a0.toInt (aT a1) → Q a0 a1) (h : Z_T_ifFree x1z v0z Xz Qz) : P_T_ifFree x1 v0 X Q := by
  subst e_x1
  subst e_v0
  unfold Z_T_ifFree at h
  unfold P_T_ifFree
  refine z_S_reader rfl rfl (fun r5_ h => ?_) h
  refine ⟨fun c => ?_, fun i7_ c => ?_⟩
  · have h := h.1 c
    exact h_X _ _ h
  · have h := h.2 i7_ c
    refine z_T_copyToTry rfl (fun v13_ h => ?_) h
    refine z_S_attempt rfl rfl rfl rfl rfl (fun r17_ v21_ h => ?_) h
    intro v26_ ev26_
    have h := h (aT v26_) (by rw [ev26_]; exact rfl)
    refine z_S_passTime rfl rfl (fun r29_ v33_ h => ?_) h
    intro v38_ ev38_
    have h := h (aT v38_) (by rw [ev38_]; exact rfl)
    exact h_Q _ _ h

def Z_T_dropsNone (x1 : Int) (x2 : Int) (v0 : TZ) (Q : (Int → TZ → Prop)) : Prop := (Z_T_copyToTry v0 (fun v5_ => (Z_S_attempt 5 3 x1 0 (Tz_trial v5_) (fun r9_ v13_ => (∀ v18_, v18_ = (Tz_set_trial v5_ v13_) → ((Z_S_passTime x2 (Tz_trial v18_) (fun r21_ v25_ => (∀ v30_, v30_ = (Tz_set_trial v18_ v25_) → (((¬ r21_ = 0 → (Q 0 v30_)) ∧ (r21_ = 0 → (Q 1 v30_)))))))))))))
set_option maxRecDepth 100000 in
theorem z_T_dropsNone {x1 : Int32} {x1z : Int} {x2 : Int32} {x2z : Int} {v0 : TT} {v0z : TZ}  {Q : Int32 → TT → Prop} {Qz : (Int → TZ → Prop)} (e_x1 : x1.toInt = x1z) (e_x2 : x2.toInt = x2z) (e_v0 : (aT v0) = v0z) (h_Q : ∀ (a0 : Int32) (a1 : TT), Qz a0.toInt (aT a1) → Q a0 a1) (h : Z_T_dropsNone x1z x2z v0z Qz) : P_T_dropsNone x1 x2 v0 Q := by
  subst e_x1
  subst e_x2
  subst e_v0
  unfold Z_T_dropsNone at h
  unfold P_T_dropsNone
  refine z_T_copyToTry rfl (fun v5_ h => ?_) h
  refine z_S_attempt rfl rfl rfl rfl rfl (fun r9_ v13_ h => ?_) h
  intro v18_ ev18_
  have h := h (aT v18_) (by rw [ev18_]; exact rfl)
  refine z_S_passTime rfl rfl (fun r21_ v25_ h => ?_) h
  intro v30_ ev30_
  have h := h (aT v30_) (by rw [ev30_]; exact rfl)
  refine ⟨fun c1q => ?_, fun c1q => ?_⟩
  · have h := h.1 (fun k => c1q ((zt_eq rfl rfl).mpr k))
    exact h_Q _ _ h
  · have h := h.2 ((zt_eq rfl rfl).mp c1q)
    exact h_Q _ _ h

def Z_T_leastRoom (x1 : Int) (v0 : TZ) (X : (String → TZ → Prop)) (Q : (Int → TZ → Prop)) : Prop := (Z_T_isIn x1 1 200 (fun r1_ => ((¬ r1_ = 0 → (Z_T_dropsNone 0 x1 v0 (fun r6_ v10_ => ((r6_ = 0 → ((4000 < (Lz_length (Sz_log (Tz_state v10_))) → (Q (-1) v10_)) ∧ (¬ 4000 < (Lz_length (Sz_log (Tz_state v10_))) → (Z_T_dropsNone (Lz_length (Sz_log (Tz_state v10_))) x1 v10_ (fun r16_ v20_ => ((r16_ = 0 → (Q (-1) v20_)) ∧ (¬ r16_ = 0 → (Q (Lz_length (Sz_log (Tz_state v10_))) v20_)))))))) ∧ (¬ r6_ = 0 → (Q 0 v10_)))))) ∧ (r1_ = 0 → (X ("java/lang/IllegalArgumentException") v0)))))
set_option maxRecDepth 100000 in
theorem z_T_leastRoom {x1 : Int32} {x1z : Int} {v0 : TT} {v0z : TZ}  {X : String → TT → Prop} {Xz : (String → TZ → Prop)} {Q : Int32 → TT → Prop} {Qz : (Int → TZ → Prop)} (e_x1 : x1.toInt = x1z) (e_v0 : (aT v0) = v0z) (h_X : ∀ (a0 : String) (a1 : TT), Xz a0 (aT a1) → X a0 a1) (h_Q : ∀ (a0 : Int32) (a1 : TT), Qz a0.toInt (aT a1) → Q a0 a1) (h : Z_T_leastRoom x1z v0z Xz Qz) : P_T_leastRoom x1 v0 X Q := by
  subst e_x1
  subst e_v0
  unfold Z_T_leastRoom at h
  unfold P_T_leastRoom
  refine z_T_isIn rfl rfl rfl (fun r1_ h => ?_) h
  refine ⟨fun c4q => ?_, fun c4q => ?_⟩
  · have h := h.1 (fun k => c4q ((zt_eq rfl rfl).mpr k))
    refine z_T_dropsNone rfl rfl rfl (fun r6_ v10_ h => ?_) h
    refine ⟨fun c3q => ?_, fun c3q => ?_⟩
    · have h := h.1 ((zt_eq rfl rfl).mp c3q)
      refine ⟨fun c2q => ?_, fun c2q => ?_⟩
      · have h := h.1 ((zt_lt rfl rfl).mp c2q)
        exact h_Q _ _ h
      · have h := h.2 (fun k => c2q ((zt_lt rfl rfl).mpr k))
        refine z_T_dropsNone rfl rfl rfl (fun r16_ v20_ h => ?_) h
        refine ⟨fun c1q => ?_, fun c1q => ?_⟩
        · have h := h.1 ((zt_eq rfl rfl).mp c1q)
          exact h_Q _ _ h
        · have h := h.2 (fun k => c1q ((zt_eq rfl rfl).mpr k))
          exact h_Q _ _ h
    · have h := h.2 (fun k => c3q ((zt_eq rfl rfl).mpr k))
      exact h_Q _ _ h
  · have h := h.2 ((zt_eq rfl rfl).mp c4q)
    exact h_X _ _ h

def ZL_T_withoutGroups_5 : Nat → Int → Int → Int → Int → Int → (Int → Prop) → Prop
  | 0, _, _, _, _, _, _ => False
  | n + 1, x1, x2, y2, y3, y5, Q => ((y2 ≤ y5 → (Q y3)) ∧ (¬ y2 ≤ y5 → zin (y5 + 1) ∧ (ZL_T_withoutGroups_5 n x1 x2 y2 (wl (Int.tdiv y3 1000000)) (y5 + 1) Q)))
set_option maxRecDepth 100000 in
theorem zL_T_withoutGroups_5 (n : Nat) : ∀ {x1 : Int64} {x1z : Int} {x2 : Int32} {x2z : Int} {y2 : Int32} {y2z : Int} {y3 : Int64} {y3z : Int} {y5 : Int32} {y5z : Int}  {Q : Int64 → Prop} {Qz : (Int → Prop)} (e_x1 : x1.toInt = x1z) (e_x2 : x2.toInt = x2z) (e_y2 : y2.toInt = y2z) (e_y3 : y3.toInt = y3z) (e_y5 : y5.toInt = y5z) (h_Q : ∀ (a0 : Int64), Qz a0.toInt → Q a0) (h : ZL_T_withoutGroups_5 n x1z x2z y2z y3z y5z Qz), PL_T_withoutGroups_5 n x1 x2 y2 y3 y5 Q := by
  induction n with
  | zero =>
    intro x1 x1z x2 x2z y2 y2z y3 y3z y5 y5z Q Qz e_x1 e_x2 e_y2 e_y3 e_y5 h_Q h
    exact (h : False).elim
  | succ n ih =>
    intro x1 x1z x2 x2z y2 y2z y3 y3z y5 y5z Q Qz e_x1 e_x2 e_y2 e_y3 e_y5 h_Q h
    subst e_x1
    subst e_x2
    subst e_y2
    subst e_y3
    subst e_y5
    rw [ZL_T_withoutGroups_5] at h
    rw [PL_T_withoutGroups_5]
    refine ⟨fun c2q => ?_, fun c2q => ?_⟩
    · have h := h.1 ((zt_le rfl rfl).mp c2q)
      exact h_Q _ h
    · have h := h.2 (fun k => c2q ((zt_le rfl rfl).mpr k))
      obtain ⟨o1q, h⟩ := h
      refine ih rfl rfl rfl (show (y3 / 1000000).toInt = ((wl (Int.tdiv y3.toInt 1000000)) : Int) from (zt_ldiv rfl rfl)) (show (((y5 + 1) : Int32)).toInt = ((y5.toInt + 1) : Int) from (zt_add rfl rfl o1q)) h_Q h
def Z_T_withoutGroups (x1 : Int) (x2 : Int) (Q : (Int → Prop)) : Prop := (∃ n2_, (ZL_T_withoutGroups_5 n2_ x1 x2 x2 x1 0 Q))
set_option maxRecDepth 100000 in
theorem z_T_withoutGroups {x1 : Int64} {x1z : Int} {x2 : Int32} {x2z : Int}  {Q : Int64 → Prop} {Qz : (Int → Prop)} (e_x1 : x1.toInt = x1z) (e_x2 : x2.toInt = x2z) (h_Q : ∀ (a0 : Int64), Qz a0.toInt → Q a0) (h : Z_T_withoutGroups x1z x2z Qz) : P_T_withoutGroups x1 x2 Q := by
  subst e_x1
  subst e_x2
  unfold Z_T_withoutGroups at h
  unfold P_T_withoutGroups
  obtain ⟨n2_, h⟩ := h
  refine ⟨n2_, ?_⟩
  refine zL_T_withoutGroups_5 n2_ rfl rfl rfl rfl rfl h_Q h

def ZJ_T_succeeds_42 (x1 : Int) (y1 : Int) (y2 : Int) (y3 : Int) (y4 : Int) (y5 : Int) (u0 : Int) (v0 : SZ) (Q : (Int → SZ → Prop)) : Prop := (((Int.tdiv y1 100000) = 1 → (Z_S_attempt 0 y2 (Int.tmod (Int.tdiv y1 100) 100) y4 v0 (fun r3_ v7_ => (r3_ = 0 ∨ r3_ = 1) ∧ ((Q r3_ v7_))))) ∧ (¬ (Int.tdiv y1 100000) = 1 → (((Int.tdiv y1 100000) = 2 → ((u0 = 0 → (Q 0 v0)) ∧ (¬ u0 = 0 → (Z_S_getsFurther y2 y4 v0 (fun r13_ v17_ => ((r13_ = 0 → (Q 0 v17_)) ∧ (¬ r13_ = 0 → (Q 1 v17_)))))))) ∧ (¬ (Int.tdiv y1 100000) = 2 → (((Int.tdiv y1 100000) = 3 → ((¬ (Int.tmod (Int.tdiv y1 10) 100) = 0 → (Q 0 v0)) ∧ ((Int.tmod (Int.tdiv y1 10) 100) = 0 → ((1 < y3 → (Q 0 v0)) ∧ (¬ 1 < y3 → (Z_S_attempt 1 y2 (Int.tmod (Int.tdiv y1 1000) 10) y3 v0 (fun r25_ v29_ => ((r25_ = 0 → (Q 0 v29_)) ∧ (¬ r25_ = 0 → (Q 1 v29_)))))))))) ∧ (¬ (Int.tdiv y1 100000) = 3 → (((Int.tdiv y1 100000) = 4 → ((¬ (Int.tmod y1 10000) = 0 → (Q 0 v0)) ∧ ((Int.tmod y1 10000) = 0 → (Z_S_attempt 3 y2 0 0 v0 (fun r36_ v40_ => ((r36_ = 0 → (Q 0 v40_)) ∧ (¬ r36_ = 0 → (Q 1 v40_)))))))) ∧ (¬ (Int.tdiv y1 100000) = 4 → (((Int.tdiv y1 100000) = 5 → ((¬ (Int.tmod (Int.tdiv y1 100) 1000) = 0 → (Q 0 v0)) ∧ ((Int.tmod (Int.tdiv y1 100) 1000) = 0 → (Z_S_attempt 6 y4 0 0 v0 (fun r47_ v51_ => ((r47_ = 0 → (Q 0 v51_)) ∧ (¬ r47_ = 0 → (Q 1 v51_)))))))) ∧ (¬ (Int.tdiv y1 100000) = 5 → (((Int.tdiv y1 100000) = 6 → ((¬ (Int.tmod (Int.tdiv y1 1000) 10) = 0 → (Q 0 v0)) ∧ ((Int.tmod (Int.tdiv y1 1000) 10) = 0 → (Z_S_isAtLeastAt y2 y5 v0 (fun r58_ => ((r58_ = 0 → (Q 0 v0)) ∧ (¬ r58_ = 0 → (Q 1 v0)))))))) ∧ (¬ (Int.tdiv y1 100000) = 6 → (((Int.tdiv y1 100000) = 7 → ((u0 = 0 → (Q 0 v0)) ∧ (¬ u0 = 0 → ((8 ≤ y2 → (Q 0 v0)) ∧ (¬ 8 ≤ y2 → (Z_L_toldForwards y2 (Lz_end (Sz_log v0)) (Sz_log v0) (fun r66_ => ((¬ r66_ = y4 → (Q 0 v0)) ∧ (r66_ = y4 → (Q 1 v0)))))))))) ∧ (¬ (Int.tdiv y1 100000) = 7 → (((Int.tdiv y1 100000) = 8 → ((¬ (Int.tmod (Int.tdiv y1 1000) 100) = 0 → (Q 0 v0)) ∧ ((Int.tmod (Int.tdiv y1 1000) 100) = 0 → (((Lz_first (Sz_log v0)) < y5 → (Q 0 v0)) ∧ (¬ (Lz_first (Sz_log v0)) < y5 → (Q 1 v0)))))) ∧ (¬ (Int.tdiv y1 100000) = 8 → (((Int.tdiv y1 100000) = 9 → ((¬ (Int.tmod (Int.tdiv y1 10) 1000) = 0 → (Q 0 v0)) ∧ ((Int.tmod (Int.tdiv y1 10) 1000) = 0 → ((1 < y3 → (Q 0 v0)) ∧ (¬ 1 < y3 → (Z_S_reader y2 v0 (fun r81_ => ((r81_ = none → (Q 0 v0)) ∧ (∀ i83_, r81_ = some i83_ → (Z_S_hasHold y2 v0 (fun r85_ => ((¬ y3 = 1 → ((¬ r85_ = 0 → (Q 0 v0)) ∧ (r85_ = 0 → (Q 1 v0)))) ∧ (y3 = 1 → ((¬ r85_ = 1 → (Q 0 v0)) ∧ (r85_ = 1 → (Q 1 v0)))))))))))))))) ∧ (¬ (Int.tdiv y1 100000) = 9 → (Q 0 v0)))))))))))))))))))
set_option maxRecDepth 100000 in
theorem zJ_T_succeeds_42 {x1 : Int32} {x1z : Int} {y1 : Int32} {y1z : Int} {y2 : Int32} {y2z : Int} {y3 : Int32} {y3z : Int} {y4 : Int32} {y4z : Int} {y5 : Int32} {y5z : Int} {u0 : Int32} {u0z : Int} {v0 : ST} {v0z : SZ}  {Q : Int32 → ST → Prop} {Qz : (Int → SZ → Prop)} (e_x1 : x1.toInt = x1z) (e_y1 : y1.toInt = y1z) (e_y2 : y2.toInt = y2z) (e_y3 : y3.toInt = y3z) (e_y4 : y4.toInt = y4z) (e_y5 : y5.toInt = y5z) (e_u0 : u0.toInt = u0z) (e_v0 : (aS v0) = v0z) (h_Q : ∀ (a0 : Int32) (a1 : ST), Qz a0.toInt (aS a1) → Q a0 a1) (h : ZJ_T_succeeds_42 x1z y1z y2z y3z y4z y5z u0z v0z Qz) : PJ_T_succeeds_42 x1 y1 y2 y3 y4 y5 u0 v0 Q := by
  subst e_x1
  subst e_y1
  subst e_y2
  subst e_y3
  subst e_y4
  subst e_y5
  subst e_u0
  subst e_v0
  unfold ZJ_T_succeeds_42 at h
  unfold PJ_T_succeeds_42
  refine ⟨fun c31q => ?_, fun c31q => ?_⟩
  · have h := h.1 ((zt_eq (show (((y1 / 100000) : Int32)).toInt = ((Int.tdiv y1.toInt 100000) : Int) from (zt_div rfl rfl (by decide))) rfl).mp c31q)
    refine z_S_attempt rfl rfl (show (((zrem (y1 / 100) 100) : Int32)).toInt = ((Int.tmod (Int.tdiv y1.toInt 100) 100) : Int) from (zt_rem (show (((y1 / 100) : Int32)).toInt = ((Int.tdiv y1.toInt 100) : Int) from (zt_div rfl rfl (by decide))) rfl (by decide) (by decide))) rfl rfl (fun r3_ v7_ h => ?_) h
    obtain ⟨i1q, h⟩ := h
    refine ⟨zt_zb rfl i1q, ?_⟩
    exact h_Q _ _ h
  · have h := h.2 (fun k => c31q ((zt_eq (show (((y1 / 100000) : Int32)).toInt = ((Int.tdiv y1.toInt 100000) : Int) from (zt_div rfl rfl (by decide))) rfl).mpr k))
    refine ⟨fun c30q => ?_, fun c30q => ?_⟩
    · have h := h.1 ((zt_eq (show (((y1 / 100000) : Int32)).toInt = ((Int.tdiv y1.toInt 100000) : Int) from (zt_div rfl rfl (by decide))) rfl).mp c30q)
      refine ⟨fun c3q => ?_, fun c3q => ?_⟩
      · have h := h.1 ((zt_eq rfl rfl).mp c3q)
        exact h_Q _ _ h
      · have h := h.2 (fun k => c3q ((zt_eq rfl rfl).mpr k))
        refine z_S_getsFurther rfl rfl rfl (fun r13_ v17_ h => ?_) h
        refine ⟨fun c2q => ?_, fun c2q => ?_⟩
        · have h := h.1 ((zt_eq rfl rfl).mp c2q)
          exact h_Q _ _ h
        · have h := h.2 (fun k => c2q ((zt_eq rfl rfl).mpr k))
          exact h_Q _ _ h
    · have h := h.2 (fun k => c30q ((zt_eq (show (((y1 / 100000) : Int32)).toInt = ((Int.tdiv y1.toInt 100000) : Int) from (zt_div rfl rfl (by decide))) rfl).mpr k))
      refine ⟨fun c29q => ?_, fun c29q => ?_⟩
      · have h := h.1 ((zt_eq (show (((y1 / 100000) : Int32)).toInt = ((Int.tdiv y1.toInt 100000) : Int) from (zt_div rfl rfl (by decide))) rfl).mp c29q)
        refine ⟨fun c6q => ?_, fun c6q => ?_⟩
        · have h := h.1 (fun k => c6q ((zt_eq (show (((zrem (y1 / 10) 100) : Int32)).toInt = ((Int.tmod (Int.tdiv y1.toInt 10) 100) : Int) from (zt_rem (show (((y1 / 10) : Int32)).toInt = ((Int.tdiv y1.toInt 10) : Int) from (zt_div rfl rfl (by decide))) rfl (by decide) (by decide))) rfl).mpr k))
          exact h_Q _ _ h
        · have h := h.2 ((zt_eq (show (((zrem (y1 / 10) 100) : Int32)).toInt = ((Int.tmod (Int.tdiv y1.toInt 10) 100) : Int) from (zt_rem (show (((y1 / 10) : Int32)).toInt = ((Int.tdiv y1.toInt 10) : Int) from (zt_div rfl rfl (by decide))) rfl (by decide) (by decide))) rfl).mp c6q)
          refine ⟨fun c5q => ?_, fun c5q => ?_⟩
          · have h := h.1 ((zt_lt rfl rfl).mp c5q)
            exact h_Q _ _ h
          · have h := h.2 (fun k => c5q ((zt_lt rfl rfl).mpr k))
            refine z_S_attempt rfl rfl (show (((zrem (y1 / 1000) 10) : Int32)).toInt = ((Int.tmod (Int.tdiv y1.toInt 1000) 10) : Int) from (zt_rem (show (((y1 / 1000) : Int32)).toInt = ((Int.tdiv y1.toInt 1000) : Int) from (zt_div rfl rfl (by decide))) rfl (by decide) (by decide))) rfl rfl (fun r25_ v29_ h => ?_) h
            refine ⟨fun c4q => ?_, fun c4q => ?_⟩
            · have h := h.1 ((zt_eq rfl rfl).mp c4q)
              exact h_Q _ _ h
            · have h := h.2 (fun k => c4q ((zt_eq rfl rfl).mpr k))
              exact h_Q _ _ h
      · have h := h.2 (fun k => c29q ((zt_eq (show (((y1 / 100000) : Int32)).toInt = ((Int.tdiv y1.toInt 100000) : Int) from (zt_div rfl rfl (by decide))) rfl).mpr k))
        refine ⟨fun c28q => ?_, fun c28q => ?_⟩
        · have h := h.1 ((zt_eq (show (((y1 / 100000) : Int32)).toInt = ((Int.tdiv y1.toInt 100000) : Int) from (zt_div rfl rfl (by decide))) rfl).mp c28q)
          refine ⟨fun c8q => ?_, fun c8q => ?_⟩
          · have h := h.1 (fun k => c8q ((zt_eq (show (((zrem y1 10000) : Int32)).toInt = ((Int.tmod y1.toInt 10000) : Int) from (zt_rem rfl rfl (by decide) (by decide))) rfl).mpr k))
            exact h_Q _ _ h
          · have h := h.2 ((zt_eq (show (((zrem y1 10000) : Int32)).toInt = ((Int.tmod y1.toInt 10000) : Int) from (zt_rem rfl rfl (by decide) (by decide))) rfl).mp c8q)
            refine z_S_attempt rfl rfl rfl rfl rfl (fun r36_ v40_ h => ?_) h
            refine ⟨fun c7q => ?_, fun c7q => ?_⟩
            · have h := h.1 ((zt_eq rfl rfl).mp c7q)
              exact h_Q _ _ h
            · have h := h.2 (fun k => c7q ((zt_eq rfl rfl).mpr k))
              exact h_Q _ _ h
        · have h := h.2 (fun k => c28q ((zt_eq (show (((y1 / 100000) : Int32)).toInt = ((Int.tdiv y1.toInt 100000) : Int) from (zt_div rfl rfl (by decide))) rfl).mpr k))
          refine ⟨fun c27q => ?_, fun c27q => ?_⟩
          · have h := h.1 ((zt_eq (show (((y1 / 100000) : Int32)).toInt = ((Int.tdiv y1.toInt 100000) : Int) from (zt_div rfl rfl (by decide))) rfl).mp c27q)
            refine ⟨fun c10q => ?_, fun c10q => ?_⟩
            · have h := h.1 (fun k => c10q ((zt_eq (show (((zrem (y1 / 100) 1000) : Int32)).toInt = ((Int.tmod (Int.tdiv y1.toInt 100) 1000) : Int) from (zt_rem (show (((y1 / 100) : Int32)).toInt = ((Int.tdiv y1.toInt 100) : Int) from (zt_div rfl rfl (by decide))) rfl (by decide) (by decide))) rfl).mpr k))
              exact h_Q _ _ h
            · have h := h.2 ((zt_eq (show (((zrem (y1 / 100) 1000) : Int32)).toInt = ((Int.tmod (Int.tdiv y1.toInt 100) 1000) : Int) from (zt_rem (show (((y1 / 100) : Int32)).toInt = ((Int.tdiv y1.toInt 100) : Int) from (zt_div rfl rfl (by decide))) rfl (by decide) (by decide))) rfl).mp c10q)
              refine z_S_attempt rfl rfl rfl rfl rfl (fun r47_ v51_ h => ?_) h
              refine ⟨fun c9q => ?_, fun c9q => ?_⟩
              · have h := h.1 ((zt_eq rfl rfl).mp c9q)
                exact h_Q _ _ h
              · have h := h.2 (fun k => c9q ((zt_eq rfl rfl).mpr k))
                exact h_Q _ _ h
          · have h := h.2 (fun k => c27q ((zt_eq (show (((y1 / 100000) : Int32)).toInt = ((Int.tdiv y1.toInt 100000) : Int) from (zt_div rfl rfl (by decide))) rfl).mpr k))
            refine ⟨fun c26q => ?_, fun c26q => ?_⟩
            · have h := h.1 ((zt_eq (show (((y1 / 100000) : Int32)).toInt = ((Int.tdiv y1.toInt 100000) : Int) from (zt_div rfl rfl (by decide))) rfl).mp c26q)
              refine ⟨fun c12q => ?_, fun c12q => ?_⟩
              · have h := h.1 (fun k => c12q ((zt_eq (show (((zrem (y1 / 1000) 10) : Int32)).toInt = ((Int.tmod (Int.tdiv y1.toInt 1000) 10) : Int) from (zt_rem (show (((y1 / 1000) : Int32)).toInt = ((Int.tdiv y1.toInt 1000) : Int) from (zt_div rfl rfl (by decide))) rfl (by decide) (by decide))) rfl).mpr k))
                exact h_Q _ _ h
              · have h := h.2 ((zt_eq (show (((zrem (y1 / 1000) 10) : Int32)).toInt = ((Int.tmod (Int.tdiv y1.toInt 1000) 10) : Int) from (zt_rem (show (((y1 / 1000) : Int32)).toInt = ((Int.tdiv y1.toInt 1000) : Int) from (zt_div rfl rfl (by decide))) rfl (by decide) (by decide))) rfl).mp c12q)
                refine z_S_isAtLeastAt rfl rfl rfl (fun r58_ h => ?_) h
                refine ⟨fun c11q => ?_, fun c11q => ?_⟩
                · have h := h.1 ((zt_eq rfl rfl).mp c11q)
                  exact h_Q _ _ h
                · have h := h.2 (fun k => c11q ((zt_eq rfl rfl).mpr k))
                  exact h_Q _ _ h
            · have h := h.2 (fun k => c26q ((zt_eq (show (((y1 / 100000) : Int32)).toInt = ((Int.tdiv y1.toInt 100000) : Int) from (zt_div rfl rfl (by decide))) rfl).mpr k))
              refine ⟨fun c25q => ?_, fun c25q => ?_⟩
              · have h := h.1 ((zt_eq (show (((y1 / 100000) : Int32)).toInt = ((Int.tdiv y1.toInt 100000) : Int) from (zt_div rfl rfl (by decide))) rfl).mp c25q)
                refine ⟨fun c15q => ?_, fun c15q => ?_⟩
                · have h := h.1 ((zt_eq rfl rfl).mp c15q)
                  exact h_Q _ _ h
                · have h := h.2 (fun k => c15q ((zt_eq rfl rfl).mpr k))
                  refine ⟨fun c14q => ?_, fun c14q => ?_⟩
                  · have h := h.1 ((zt_le rfl rfl).mp c14q)
                    exact h_Q _ _ h
                  · have h := h.2 (fun k => c14q ((zt_le rfl rfl).mpr k))
                    refine z_L_toldForwards rfl rfl rfl (fun r66_ h => ?_) h
                    refine ⟨fun c13q => ?_, fun c13q => ?_⟩
                    · have h := h.1 (fun k => c13q ((zt_eq rfl rfl).mpr k))
                      exact h_Q _ _ h
                    · have h := h.2 ((zt_eq rfl rfl).mp c13q)
                      exact h_Q _ _ h
              · have h := h.2 (fun k => c25q ((zt_eq (show (((y1 / 100000) : Int32)).toInt = ((Int.tdiv y1.toInt 100000) : Int) from (zt_div rfl rfl (by decide))) rfl).mpr k))
                refine ⟨fun c24q => ?_, fun c24q => ?_⟩
                · have h := h.1 ((zt_eq (show (((y1 / 100000) : Int32)).toInt = ((Int.tdiv y1.toInt 100000) : Int) from (zt_div rfl rfl (by decide))) rfl).mp c24q)
                  refine ⟨fun c17q => ?_, fun c17q => ?_⟩
                  · have h := h.1 (fun k => c17q ((zt_eq (show (((zrem (y1 / 1000) 100) : Int32)).toInt = ((Int.tmod (Int.tdiv y1.toInt 1000) 100) : Int) from (zt_rem (show (((y1 / 1000) : Int32)).toInt = ((Int.tdiv y1.toInt 1000) : Int) from (zt_div rfl rfl (by decide))) rfl (by decide) (by decide))) rfl).mpr k))
                    exact h_Q _ _ h
                  · have h := h.2 ((zt_eq (show (((zrem (y1 / 1000) 100) : Int32)).toInt = ((Int.tmod (Int.tdiv y1.toInt 1000) 100) : Int) from (zt_rem (show (((y1 / 1000) : Int32)).toInt = ((Int.tdiv y1.toInt 1000) : Int) from (zt_div rfl rfl (by decide))) rfl (by decide) (by decide))) rfl).mp c17q)
                    refine ⟨fun c16q => ?_, fun c16q => ?_⟩
                    · have h := h.1 ((zt_lt rfl rfl).mp c16q)
                      exact h_Q _ _ h
                    · have h := h.2 (fun k => c16q ((zt_lt rfl rfl).mpr k))
                      exact h_Q _ _ h
                · have h := h.2 (fun k => c24q ((zt_eq (show (((y1 / 100000) : Int32)).toInt = ((Int.tdiv y1.toInt 100000) : Int) from (zt_div rfl rfl (by decide))) rfl).mpr k))
                  refine ⟨fun c23q => ?_, fun c23q => ?_⟩
                  · have h := h.1 ((zt_eq (show (((y1 / 100000) : Int32)).toInt = ((Int.tdiv y1.toInt 100000) : Int) from (zt_div rfl rfl (by decide))) rfl).mp c23q)
                    refine ⟨fun c22q => ?_, fun c22q => ?_⟩
                    · have h := h.1 (fun k => c22q ((zt_eq (show (((zrem (y1 / 10) 1000) : Int32)).toInt = ((Int.tmod (Int.tdiv y1.toInt 10) 1000) : Int) from (zt_rem (show (((y1 / 10) : Int32)).toInt = ((Int.tdiv y1.toInt 10) : Int) from (zt_div rfl rfl (by decide))) rfl (by decide) (by decide))) rfl).mpr k))
                      exact h_Q _ _ h
                    · have h := h.2 ((zt_eq (show (((zrem (y1 / 10) 1000) : Int32)).toInt = ((Int.tmod (Int.tdiv y1.toInt 10) 1000) : Int) from (zt_rem (show (((y1 / 10) : Int32)).toInt = ((Int.tdiv y1.toInt 10) : Int) from (zt_div rfl rfl (by decide))) rfl (by decide) (by decide))) rfl).mp c22q)
                      refine ⟨fun c21q => ?_, fun c21q => ?_⟩
                      · have h := h.1 ((zt_lt rfl rfl).mp c21q)
                        exact h_Q _ _ h
                      · have h := h.2 (fun k => c21q ((zt_lt rfl rfl).mpr k))
                        refine z_S_reader rfl rfl (fun r81_ h => ?_) h
                        refine ⟨fun c => ?_, fun i83_ c => ?_⟩
                        · have h := h.1 c
                          exact h_Q _ _ h
                        · have h := h.2 i83_ c
                          refine z_S_hasHold rfl rfl (fun r85_ h => ?_) h
                          refine ⟨fun c20q => ?_, fun c20q => ?_⟩
                          · have h := h.1 (fun k => c20q ((zt_eq rfl rfl).mpr k))
                            refine ⟨fun c18q => ?_, fun c18q => ?_⟩
                            · have h := h.1 (fun k => c18q ((zt_eq rfl rfl).mpr k))
                              exact h_Q _ _ h
                            · have h := h.2 ((zt_eq rfl rfl).mp c18q)
                              exact h_Q _ _ h
                          · have h := h.2 ((zt_eq rfl rfl).mp c20q)
                            refine ⟨fun c19q => ?_, fun c19q => ?_⟩
                            · have h := h.1 (fun k => c19q ((zt_eq rfl rfl).mpr k))
                              exact h_Q _ _ h
                            · have h := h.2 ((zt_eq rfl rfl).mp c19q)
                              exact h_Q _ _ h
                  · have h := h.2 (fun k => c23q ((zt_eq (show (((y1 / 100000) : Int32)).toInt = ((Int.tdiv y1.toInt 100000) : Int) from (zt_div rfl rfl (by decide))) rfl).mpr k))
                    exact h_Q _ _ h
def Z_T_succeeds (x1 : Int) (v0 : SZ) (Q : (Int → SZ → Prop)) : Prop := ((¬ (Int.tmod (Int.tdiv x1 100) 100) = 0 → (ZJ_T_succeeds_42 x1 x1 (Int.tmod (Int.tdiv x1 10000) 10) (Int.tmod x1 10) (Int.tmod x1 100) (Int.tmod x1 1000) 0 v0 Q)) ∧ ((Int.tmod (Int.tdiv x1 100) 100) = 0 → (ZJ_T_succeeds_42 x1 x1 (Int.tmod (Int.tdiv x1 10000) 10) (Int.tmod x1 10) (Int.tmod x1 100) (Int.tmod x1 1000) 1 v0 Q)))
set_option maxRecDepth 100000 in
theorem z_T_succeeds {x1 : Int32} {x1z : Int} {v0 : ST} {v0z : SZ}  {Q : Int32 → ST → Prop} {Qz : (Int → SZ → Prop)} (e_x1 : x1.toInt = x1z) (e_v0 : (aS v0) = v0z) (h_Q : ∀ (a0 : Int32) (a1 : ST), Qz a0.toInt (aS a1) → Q a0 a1) (h : Z_T_succeeds x1z v0z Qz) : P_T_succeeds x1 v0 Q := by
  subst e_x1
  subst e_v0
  unfold Z_T_succeeds at h
  unfold P_T_succeeds
  refine ⟨fun c1q => ?_, fun c1q => ?_⟩
  · have h := h.1 (fun k => c1q ((zt_eq (show (((zrem (x1 / 100) 100) : Int32)).toInt = ((Int.tmod (Int.tdiv x1.toInt 100) 100) : Int) from (zt_rem (show (((x1 / 100) : Int32)).toInt = ((Int.tdiv x1.toInt 100) : Int) from (zt_div rfl rfl (by decide))) rfl (by decide) (by decide))) rfl).mpr k))
    refine zJ_T_succeeds_42 rfl rfl (show (((zrem (x1 / 10000) 10) : Int32)).toInt = ((Int.tmod (Int.tdiv x1.toInt 10000) 10) : Int) from (zt_rem (show (((x1 / 10000) : Int32)).toInt = ((Int.tdiv x1.toInt 10000) : Int) from (zt_div rfl rfl (by decide))) rfl (by decide) (by decide))) (show (((zrem x1 10) : Int32)).toInt = ((Int.tmod x1.toInt 10) : Int) from (zt_rem rfl rfl (by decide) (by decide))) (show (((zrem x1 100) : Int32)).toInt = ((Int.tmod x1.toInt 100) : Int) from (zt_rem rfl rfl (by decide) (by decide))) (show (((zrem x1 1000) : Int32)).toInt = ((Int.tmod x1.toInt 1000) : Int) from (zt_rem rfl rfl (by decide) (by decide))) rfl rfl h_Q h
  · have h := h.2 ((zt_eq (show (((zrem (x1 / 100) 100) : Int32)).toInt = ((Int.tmod (Int.tdiv x1.toInt 100) 100) : Int) from (zt_rem (show (((x1 / 100) : Int32)).toInt = ((Int.tdiv x1.toInt 100) : Int) from (zt_div rfl rfl (by decide))) rfl (by decide) (by decide))) rfl).mp c1q)
    refine zJ_T_succeeds_42 rfl rfl (show (((zrem (x1 / 10000) 10) : Int32)).toInt = ((Int.tmod (Int.tdiv x1.toInt 10000) 10) : Int) from (zt_rem (show (((x1 / 10000) : Int32)).toInt = ((Int.tdiv x1.toInt 10000) : Int) from (zt_div rfl rfl (by decide))) rfl (by decide) (by decide))) (show (((zrem x1 10) : Int32)).toInt = ((Int.tmod x1.toInt 10) : Int) from (zt_rem rfl rfl (by decide) (by decide))) (show (((zrem x1 100) : Int32)).toInt = ((Int.tmod x1.toInt 100) : Int) from (zt_rem rfl rfl (by decide) (by decide))) (show (((zrem x1 1000) : Int32)).toInt = ((Int.tmod x1.toInt 1000) : Int) from (zt_rem rfl rfl (by decide) (by decide))) rfl rfl h_Q h

def ZL_T_runScript_54 : Nat → Int → Int → Int → Int → Int → TZ → (String → TZ → Prop) → (Int → TZ → Prop) → Prop
  | 0, _, _, _, _, _, _, _, _ => False
  | n + 1, x1, x2, y1, y2, y5, v0, X, Q => ((y1 ≤ y5 → (Q (-1) v0)) ∧ (¬ y1 ≤ y5 → zin (y1 - 1) ∧ zin ((y1 - 1) - y5) ∧ (Z_T_withoutGroups y2 ((y1 - 1) - y5) (fun r21_ => ¬ (1000000 : Int) = 0 ∧ (Z_T_succeeds (wi (zremlZ r21_ 1000000)) (Tz_trial v0) (fun r25_ v29_ => (∀ v34_, v34_ = (Tz_set_trial v0 v29_) → (((¬ r25_ = 0 → zin (y5 + 1) ∧ (ZL_T_runScript_54 n x1 x2 y1 y2 (y5 + 1) v34_ X Q)) ∧ (r25_ = 0 → (Q y5 v34_)))))))))))
set_option maxRecDepth 100000 in
theorem zL_T_runScript_54 (n : Nat) : ∀ {x1 : Int32} {x1z : Int} {x2 : Int64} {x2z : Int} {y1 : Int32} {y1z : Int} {y2 : Int64} {y2z : Int} {y5 : Int32} {y5z : Int} {v0 : TT} {v0z : TZ}  {X : String → TT → Prop} {Xz : (String → TZ → Prop)} {Q : Int32 → TT → Prop} {Qz : (Int → TZ → Prop)} (e_x1 : x1.toInt = x1z) (e_x2 : x2.toInt = x2z) (e_y1 : y1.toInt = y1z) (e_y2 : y2.toInt = y2z) (e_y5 : y5.toInt = y5z) (e_v0 : (aT v0) = v0z) (h_X : ∀ (a0 : String) (a1 : TT), Xz a0 (aT a1) → X a0 a1) (h_Q : ∀ (a0 : Int32) (a1 : TT), Qz a0.toInt (aT a1) → Q a0 a1) (h : ZL_T_runScript_54 n x1z x2z y1z y2z y5z v0z Xz Qz), PL_T_runScript_54 n x1 x2 y1 y2 y5 v0 X Q := by
  induction n with
  | zero =>
    intro x1 x1z x2 x2z y1 y1z y2 y2z y5 y5z v0 v0z X Xz Q Qz e_x1 e_x2 e_y1 e_y2 e_y5 e_v0 h_X h_Q h
    exact (h : False).elim
  | succ n ih =>
    intro x1 x1z x2 x2z y1 y1z y2 y2z y5 y5z v0 v0z X Xz Q Qz e_x1 e_x2 e_y1 e_y2 e_y5 e_v0 h_X h_Q h
    subst e_x1
    subst e_x2
    subst e_y1
    subst e_y2
    subst e_y5
    subst e_v0
    rw [ZL_T_runScript_54] at h
    rw [PL_T_runScript_54]
    refine ⟨fun c6q => ?_, fun c6q => ?_⟩
    · have h := h.1 ((zt_le rfl rfl).mp c6q)
      exact h_Q _ _ h
    · have h := h.2 (fun k => c6q ((zt_le rfl rfl).mpr k))
      obtain ⟨o1q, h⟩ := h
      obtain ⟨o2q, h⟩ := h
      refine z_T_withoutGroups rfl (show ((((y1 - 1) - y5) : Int32)).toInt = (((y1.toInt - 1) - y5.toInt) : Int) from (zt_sub (show (((y1 - 1) : Int32)).toInt = ((y1.toInt - 1) : Int) from (zt_sub rfl rfl o1q)) rfl o2q)) (fun r21_ h => ?_) h
      obtain ⟨o3q, h⟩ := h
      refine z_T_succeeds (show (((Int64.toInt32 (zreml r21_ 1000000)) : Int32)).toInt = ((wi (zremlZ r21_.toInt 1000000)) : Int) from (zt_l2i (show (zreml r21_ 1000000).toInt = ((zremlZ r21_.toInt 1000000) : Int) from (zt_reml rfl rfl o3q)))) rfl (fun r25_ v29_ h => ?_) h
      intro v34_ ev34_
      have h := h (aT v34_) (by rw [ev34_]; exact rfl)
      refine ⟨fun c5q => ?_, fun c5q => ?_⟩
      · have h := h.1 (fun k => c5q ((zt_eq rfl rfl).mpr k))
        obtain ⟨o4q, h⟩ := h
        refine ih rfl rfl rfl rfl (show (((y5 + 1) : Int32)).toInt = ((y5.toInt + 1) : Int) from (zt_add rfl rfl o4q)) rfl h_X h_Q h
      · have h := h.2 ((zt_eq rfl rfl).mp c5q)
        exact h_Q _ _ h
def Z_T_runScript (x1 : Int) (x2 : Int) (v0 : TZ) (X : (String → TZ → Prop)) (Q : (Int → TZ → Prop)) : Prop := (Z_T_isIn x1 1 3 (fun r1_ => ((¬ r1_ = 0 → (((lg_cmpZ x2 0) < 0 → (X ("java/lang/IllegalArgumentException") v0)) ∧ (¬ (lg_cmpZ x2 0) < 0 → (Z_T_withoutGroups x2 x1 (fun r7_ => (((lg_cmpZ r7_ 0) ≤ 0 → (Z_T_copyToTry v0 (fun v16_ => (∃ n38_, (ZL_T_runScript_54 n38_ x1 x2 x1 x2 0 v16_ X Q))))) ∧ (¬ (lg_cmpZ r7_ 0) ≤ 0 → (X ("java/lang/IllegalArgumentException") v0)))))))) ∧ (r1_ = 0 → (X ("java/lang/IllegalArgumentException") v0)))))
set_option maxRecDepth 100000 in
theorem z_T_runScript {x1 : Int32} {x1z : Int} {x2 : Int64} {x2z : Int} {v0 : TT} {v0z : TZ}  {X : String → TT → Prop} {Xz : (String → TZ → Prop)} {Q : Int32 → TT → Prop} {Qz : (Int → TZ → Prop)} (e_x1 : x1.toInt = x1z) (e_x2 : x2.toInt = x2z) (e_v0 : (aT v0) = v0z) (h_X : ∀ (a0 : String) (a1 : TT), Xz a0 (aT a1) → X a0 a1) (h_Q : ∀ (a0 : Int32) (a1 : TT), Qz a0.toInt (aT a1) → Q a0 a1) (h : Z_T_runScript x1z x2z v0z Xz Qz) : P_T_runScript x1 x2 v0 X Q := by
  subst e_x1
  subst e_x2
  subst e_v0
  unfold Z_T_runScript at h
  unfold P_T_runScript
  refine z_T_isIn rfl rfl rfl (fun r1_ h => ?_) h
  refine ⟨fun c3q => ?_, fun c3q => ?_⟩
  · have h := h.1 (fun k => c3q ((zt_eq rfl rfl).mpr k))
    refine ⟨fun c2q => ?_, fun c2q => ?_⟩
    · have h := h.1 ((zt_lt (show (((lg_cmp x2 0) : Int32)).toInt = ((lg_cmpZ x2.toInt 0) : Int) from (zt_lg_cmp rfl rfl)) rfl).mp c2q)
      exact h_X _ _ h
    · have h := h.2 (fun k => c2q ((zt_lt (show (((lg_cmp x2 0) : Int32)).toInt = ((lg_cmpZ x2.toInt 0) : Int) from (zt_lg_cmp rfl rfl)) rfl).mpr k))
      refine z_T_withoutGroups rfl rfl (fun r7_ h => ?_) h
      refine ⟨fun c1q => ?_, fun c1q => ?_⟩
      · have h := h.1 ((zt_le (show (((lg_cmp r7_ 0) : Int32)).toInt = ((lg_cmpZ r7_.toInt 0) : Int) from (zt_lg_cmp rfl rfl)) rfl).mp c1q)
        refine z_T_copyToTry rfl (fun v16_ h => ?_) h
        obtain ⟨n38_, h⟩ := h
        refine ⟨n38_, ?_⟩
        refine zL_T_runScript_54 n38_ rfl rfl rfl rfl rfl rfl h_X h_Q h
      · have h := h.2 (fun k => c1q ((zt_le (show (((lg_cmp r7_ 0) : Int32)).toInt = ((lg_cmpZ r7_.toInt 0) : Int) from (zt_lg_cmp rfl rfl)) rfl).mpr k))
        exact h_X _ _ h
  · have h := h.2 ((zt_eq rfl rfl).mp c3q)
    exact h_X _ _ h

def ZJ_T_takeTurn_193 (x1 : Int) (y2 : Int) (y3 : Int) (v0 : SZ) (Q : (SZ → Prop)) : Prop := ((¬ y3 = 11 → zin (1 + (Int.tmod y2 8)) ∧ (Z_S_attempt 6 (1 + (Int.tmod y2 8)) 0 0 v0 (fun r8_ v12_ => (Q v12_)))) ∧ (y3 = 11 → (Z_S_attempt 5 2 (Int.tmod y2 20) 0 v0 (fun r16_ v20_ => (Q v20_)))))
set_option maxRecDepth 100000 in
theorem zJ_T_takeTurn_193 {x1 : Int32} {x1z : Int} {y2 : Int32} {y2z : Int} {y3 : Int32} {y3z : Int} {v0 : ST} {v0z : SZ}  {Q : ST → Prop} {Qz : (SZ → Prop)} (e_x1 : x1.toInt = x1z) (e_y2 : y2.toInt = y2z) (e_y3 : y3.toInt = y3z) (e_v0 : (aS v0) = v0z) (h_Q : ∀ (a0 : ST), Qz (aS a0) → Q a0) (h : ZJ_T_takeTurn_193 x1z y2z y3z v0z Qz) : PJ_T_takeTurn_193 x1 y2 y3 v0 Q := by
  subst e_x1
  subst e_y2
  subst e_y3
  subst e_v0
  unfold ZJ_T_takeTurn_193 at h
  unfold PJ_T_takeTurn_193
  refine ⟨fun c2q => ?_, fun c2q => ?_⟩
  · have h := h.1 (fun k => c2q ((zt_eq rfl rfl).mpr k))
    obtain ⟨o1q, h⟩ := h
    refine z_S_attempt rfl (show (((1 + (zrem y2 8)) : Int32)).toInt = ((1 + (Int.tmod y2.toInt 8)) : Int) from (zt_add rfl (show (((zrem y2 8) : Int32)).toInt = ((Int.tmod y2.toInt 8) : Int) from (zt_rem rfl rfl (by decide) (by decide))) o1q)) rfl rfl rfl (fun r8_ v12_ h => ?_) h
    exact h_Q _ h
  · have h := h.2 ((zt_eq rfl rfl).mp c2q)
    refine z_S_attempt rfl rfl (show (((zrem y2 20) : Int32)).toInt = ((Int.tmod y2.toInt 20) : Int) from (zt_rem rfl rfl (by decide) (by decide))) rfl rfl (fun r16_ v20_ h => ?_) h
    exact h_Q _ h
def ZJ_T_takeTurn_135 (x1 : Int) (y2 : Int) (y3 : Int) (v0 : SZ) (Q : (SZ → Prop)) : Prop := ((¬ y3 = 10 → ((¬ y3 = 11 → (ZJ_T_takeTurn_193 x1 y2 y3 v0 Q)) ∧ (y3 = 11 → ((¬ (Int.tmod (Int.tdiv y2 1024) 2) = 0 → (ZJ_T_takeTurn_193 x1 y2 y3 v0 Q)) ∧ ((Int.tmod (Int.tdiv y2 1024) 2) = 0 → (Z_S_attempt 5 3 (Int.tmod y2 600) 0 v0 (fun r25_ v29_ => (Q v29_)))))))) ∧ (y3 = 10 → (Z_S_attempt 4 (Int.tmod y2 8) (Int.tmod (Int.tdiv y2 32) 2) 0 v0 (fun r33_ v37_ => (Q v37_)))))
set_option maxRecDepth 100000 in
theorem zJ_T_takeTurn_135 {x1 : Int32} {x1z : Int} {y2 : Int32} {y2z : Int} {y3 : Int32} {y3z : Int} {v0 : ST} {v0z : SZ}  {Q : ST → Prop} {Qz : (SZ → Prop)} (e_x1 : x1.toInt = x1z) (e_y2 : y2.toInt = y2z) (e_y3 : y3.toInt = y3z) (e_v0 : (aS v0) = v0z) (h_Q : ∀ (a0 : ST), Qz (aS a0) → Q a0) (h : ZJ_T_takeTurn_135 x1z y2z y3z v0z Qz) : PJ_T_takeTurn_135 x1 y2 y3 v0 Q := by
  subst e_x1
  subst e_y2
  subst e_y3
  subst e_v0
  unfold ZJ_T_takeTurn_135 at h
  unfold PJ_T_takeTurn_135
  refine ⟨fun c3q => ?_, fun c3q => ?_⟩
  · have h := h.1 (fun k => c3q ((zt_eq rfl rfl).mpr k))
    refine ⟨fun c2q => ?_, fun c2q => ?_⟩
    · have h := h.1 (fun k => c2q ((zt_eq rfl rfl).mpr k))
      refine zJ_T_takeTurn_193 rfl rfl rfl rfl h_Q h
    · have h := h.2 ((zt_eq rfl rfl).mp c2q)
      refine ⟨fun c1q => ?_, fun c1q => ?_⟩
      · have h := h.1 (fun k => c1q ((zt_eq (show (((zrem (y2 / 1024) 2) : Int32)).toInt = ((Int.tmod (Int.tdiv y2.toInt 1024) 2) : Int) from (zt_rem (show (((y2 / 1024) : Int32)).toInt = ((Int.tdiv y2.toInt 1024) : Int) from (zt_div rfl rfl (by decide))) rfl (by decide) (by decide))) rfl).mpr k))
        refine zJ_T_takeTurn_193 rfl rfl rfl rfl h_Q h
      · have h := h.2 ((zt_eq (show (((zrem (y2 / 1024) 2) : Int32)).toInt = ((Int.tmod (Int.tdiv y2.toInt 1024) 2) : Int) from (zt_rem (show (((y2 / 1024) : Int32)).toInt = ((Int.tdiv y2.toInt 1024) : Int) from (zt_div rfl rfl (by decide))) rfl (by decide) (by decide))) rfl).mp c1q)
        refine z_S_attempt rfl rfl (show (((zrem y2 600) : Int32)).toInt = ((Int.tmod y2.toInt 600) : Int) from (zt_rem rfl rfl (by decide) (by decide))) rfl rfl (fun r25_ v29_ h => ?_) h
        exact h_Q _ h
  · have h := h.2 ((zt_eq rfl rfl).mp c3q)
    refine z_S_attempt rfl (show (((zrem y2 8) : Int32)).toInt = ((Int.tmod y2.toInt 8) : Int) from (zt_rem rfl rfl (by decide) (by decide))) (show (((zrem (y2 / 32) 2) : Int32)).toInt = ((Int.tmod (Int.tdiv y2.toInt 32) 2) : Int) from (zt_rem (show (((y2 / 32) : Int32)).toInt = ((Int.tdiv y2.toInt 32) : Int) from (zt_div rfl rfl (by decide))) rfl (by decide) (by decide))) rfl rfl (fun r33_ v37_ h => ?_) h
    exact h_Q _ h
def Z_T_takeTurn (x1 : Int) (v0 : SZ) (Q : (SZ → Prop)) : Prop := ((5 < (Int.tmod x1 16) → ((7 < (Int.tmod x1 16) → ((9 < (Int.tmod x1 16) → ((¬ (Int.tmod x1 16) = 10 → (ZJ_T_takeTurn_135 x1 (Int.tdiv x1 16) (Int.tmod x1 16) v0 Q)) ∧ ((Int.tmod x1 16) = 10 → ((¬ (Int.tmod (Int.tdiv (Int.tdiv x1 16) 8) 4) = 0 → (ZJ_T_takeTurn_135 x1 (Int.tdiv x1 16) (Int.tmod x1 16) v0 Q)) ∧ ((Int.tmod (Int.tdiv (Int.tdiv x1 16) 8) 4) = 0 → (Z_S_attempt 3 (Int.tmod (Int.tdiv x1 16) 8) 0 0 v0 (fun r42_ v46_ => (Q v46_)))))))) ∧ (¬ 9 < (Int.tmod x1 16) → zin (1 + (Int.tmod (Int.tdiv (Int.tdiv x1 16) 8) 12)) ∧ (Z_S_attempt 2 (Int.tmod (Int.tdiv x1 16) 8) (1 + (Int.tmod (Int.tdiv (Int.tdiv x1 16) 8) 12)) 0 v0 (fun r50_ v54_ => (Q v54_)))))) ∧ (¬ 7 < (Int.tmod x1 16) → (Z_S_attempt 1 (Int.tmod (Int.tdiv x1 16) 8) (Int.tmod (Int.tdiv (Int.tdiv x1 16) 8) 3) (Int.tmod (Int.tdiv (Int.tdiv x1 16) 32) 2) v0 (fun r58_ v62_ => (Q v62_)))))) ∧ (¬ 5 < (Int.tmod x1 16) → zin (1 + (Int.tmod (Int.tdiv (Int.tdiv x1 16) 1024) 40)) ∧ (Z_S_attempt 0 (Int.tmod (Int.tdiv x1 16) 8) (Int.tmod (Int.tdiv (Int.tdiv x1 16) 8) 100) (1 + (Int.tmod (Int.tdiv (Int.tdiv x1 16) 1024) 40)) v0 (fun r66_ v70_ => (Q v70_)))))
set_option maxRecDepth 100000 in
theorem z_T_takeTurn {x1 : Int32} {x1z : Int} {v0 : ST} {v0z : SZ}  {Q : ST → Prop} {Qz : (SZ → Prop)} (e_x1 : x1.toInt = x1z) (e_v0 : (aS v0) = v0z) (h_Q : ∀ (a0 : ST), Qz (aS a0) → Q a0) (h : Z_T_takeTurn x1z v0z Qz) : P_T_takeTurn x1 v0 Q := by
  subst e_x1
  subst e_v0
  unfold Z_T_takeTurn at h
  unfold P_T_takeTurn
  refine ⟨fun c7q => ?_, fun c7q => ?_⟩
  · have h := h.1 ((zt_lt rfl (show (((zrem x1 16) : Int32)).toInt = ((Int.tmod x1.toInt 16) : Int) from (zt_rem rfl rfl (by decide) (by decide)))).mp c7q)
    refine ⟨fun c5q => ?_, fun c5q => ?_⟩
    · have h := h.1 ((zt_lt rfl (show (((zrem x1 16) : Int32)).toInt = ((Int.tmod x1.toInt 16) : Int) from (zt_rem rfl rfl (by decide) (by decide)))).mp c5q)
      refine ⟨fun c4q => ?_, fun c4q => ?_⟩
      · have h := h.1 ((zt_lt rfl (show (((zrem x1 16) : Int32)).toInt = ((Int.tmod x1.toInt 16) : Int) from (zt_rem rfl rfl (by decide) (by decide)))).mp c4q)
        refine ⟨fun c2q => ?_, fun c2q => ?_⟩
        · have h := h.1 (fun k => c2q ((zt_eq (show (((zrem x1 16) : Int32)).toInt = ((Int.tmod x1.toInt 16) : Int) from (zt_rem rfl rfl (by decide) (by decide))) rfl).mpr k))
          refine zJ_T_takeTurn_135 rfl (show (((x1 / 16) : Int32)).toInt = ((Int.tdiv x1.toInt 16) : Int) from (zt_div rfl rfl (by decide))) (show (((zrem x1 16) : Int32)).toInt = ((Int.tmod x1.toInt 16) : Int) from (zt_rem rfl rfl (by decide) (by decide))) rfl h_Q h
        · have h := h.2 ((zt_eq (show (((zrem x1 16) : Int32)).toInt = ((Int.tmod x1.toInt 16) : Int) from (zt_rem rfl rfl (by decide) (by decide))) rfl).mp c2q)
          refine ⟨fun c1q => ?_, fun c1q => ?_⟩
          · have h := h.1 (fun k => c1q ((zt_eq (show (((zrem ((x1 / 16) / 8) 4) : Int32)).toInt = ((Int.tmod (Int.tdiv (Int.tdiv x1.toInt 16) 8) 4) : Int) from (zt_rem (show ((((x1 / 16) / 8) : Int32)).toInt = ((Int.tdiv (Int.tdiv x1.toInt 16) 8) : Int) from (zt_div (show (((x1 / 16) : Int32)).toInt = ((Int.tdiv x1.toInt 16) : Int) from (zt_div rfl rfl (by decide))) rfl (by decide))) rfl (by decide) (by decide))) rfl).mpr k))
            refine zJ_T_takeTurn_135 rfl (show (((x1 / 16) : Int32)).toInt = ((Int.tdiv x1.toInt 16) : Int) from (zt_div rfl rfl (by decide))) (show (((zrem x1 16) : Int32)).toInt = ((Int.tmod x1.toInt 16) : Int) from (zt_rem rfl rfl (by decide) (by decide))) rfl h_Q h
          · have h := h.2 ((zt_eq (show (((zrem ((x1 / 16) / 8) 4) : Int32)).toInt = ((Int.tmod (Int.tdiv (Int.tdiv x1.toInt 16) 8) 4) : Int) from (zt_rem (show ((((x1 / 16) / 8) : Int32)).toInt = ((Int.tdiv (Int.tdiv x1.toInt 16) 8) : Int) from (zt_div (show (((x1 / 16) : Int32)).toInt = ((Int.tdiv x1.toInt 16) : Int) from (zt_div rfl rfl (by decide))) rfl (by decide))) rfl (by decide) (by decide))) rfl).mp c1q)
            refine z_S_attempt rfl (show (((zrem (x1 / 16) 8) : Int32)).toInt = ((Int.tmod (Int.tdiv x1.toInt 16) 8) : Int) from (zt_rem (show (((x1 / 16) : Int32)).toInt = ((Int.tdiv x1.toInt 16) : Int) from (zt_div rfl rfl (by decide))) rfl (by decide) (by decide))) rfl rfl rfl (fun r42_ v46_ h => ?_) h
            exact h_Q _ h
      · have h := h.2 (fun k => c4q ((zt_lt rfl (show (((zrem x1 16) : Int32)).toInt = ((Int.tmod x1.toInt 16) : Int) from (zt_rem rfl rfl (by decide) (by decide)))).mpr k))
        obtain ⟨o3q, h⟩ := h
        refine z_S_attempt rfl (show (((zrem (x1 / 16) 8) : Int32)).toInt = ((Int.tmod (Int.tdiv x1.toInt 16) 8) : Int) from (zt_rem (show (((x1 / 16) : Int32)).toInt = ((Int.tdiv x1.toInt 16) : Int) from (zt_div rfl rfl (by decide))) rfl (by decide) (by decide))) (show (((1 + (zrem ((x1 / 16) / 8) 12)) : Int32)).toInt = ((1 + (Int.tmod (Int.tdiv (Int.tdiv x1.toInt 16) 8) 12)) : Int) from (zt_add rfl (show (((zrem ((x1 / 16) / 8) 12) : Int32)).toInt = ((Int.tmod (Int.tdiv (Int.tdiv x1.toInt 16) 8) 12) : Int) from (zt_rem (show ((((x1 / 16) / 8) : Int32)).toInt = ((Int.tdiv (Int.tdiv x1.toInt 16) 8) : Int) from (zt_div (show (((x1 / 16) : Int32)).toInt = ((Int.tdiv x1.toInt 16) : Int) from (zt_div rfl rfl (by decide))) rfl (by decide))) rfl (by decide) (by decide))) o3q)) rfl rfl (fun r50_ v54_ h => ?_) h
        exact h_Q _ h
    · have h := h.2 (fun k => c5q ((zt_lt rfl (show (((zrem x1 16) : Int32)).toInt = ((Int.tmod x1.toInt 16) : Int) from (zt_rem rfl rfl (by decide) (by decide)))).mpr k))
      refine z_S_attempt rfl (show (((zrem (x1 / 16) 8) : Int32)).toInt = ((Int.tmod (Int.tdiv x1.toInt 16) 8) : Int) from (zt_rem (show (((x1 / 16) : Int32)).toInt = ((Int.tdiv x1.toInt 16) : Int) from (zt_div rfl rfl (by decide))) rfl (by decide) (by decide))) (show (((zrem ((x1 / 16) / 8) 3) : Int32)).toInt = ((Int.tmod (Int.tdiv (Int.tdiv x1.toInt 16) 8) 3) : Int) from (zt_rem (show ((((x1 / 16) / 8) : Int32)).toInt = ((Int.tdiv (Int.tdiv x1.toInt 16) 8) : Int) from (zt_div (show (((x1 / 16) : Int32)).toInt = ((Int.tdiv x1.toInt 16) : Int) from (zt_div rfl rfl (by decide))) rfl (by decide))) rfl (by decide) (by decide))) (show (((zrem ((x1 / 16) / 32) 2) : Int32)).toInt = ((Int.tmod (Int.tdiv (Int.tdiv x1.toInt 16) 32) 2) : Int) from (zt_rem (show ((((x1 / 16) / 32) : Int32)).toInt = ((Int.tdiv (Int.tdiv x1.toInt 16) 32) : Int) from (zt_div (show (((x1 / 16) : Int32)).toInt = ((Int.tdiv x1.toInt 16) : Int) from (zt_div rfl rfl (by decide))) rfl (by decide))) rfl (by decide) (by decide))) rfl (fun r58_ v62_ h => ?_) h
      exact h_Q _ h
  · have h := h.2 (fun k => c7q ((zt_lt rfl (show (((zrem x1 16) : Int32)).toInt = ((Int.tmod x1.toInt 16) : Int) from (zt_rem rfl rfl (by decide) (by decide)))).mpr k))
    obtain ⟨o6q, h⟩ := h
    refine z_S_attempt rfl (show (((zrem (x1 / 16) 8) : Int32)).toInt = ((Int.tmod (Int.tdiv x1.toInt 16) 8) : Int) from (zt_rem (show (((x1 / 16) : Int32)).toInt = ((Int.tdiv x1.toInt 16) : Int) from (zt_div rfl rfl (by decide))) rfl (by decide) (by decide))) (show (((zrem ((x1 / 16) / 8) 100) : Int32)).toInt = ((Int.tmod (Int.tdiv (Int.tdiv x1.toInt 16) 8) 100) : Int) from (zt_rem (show ((((x1 / 16) / 8) : Int32)).toInt = ((Int.tdiv (Int.tdiv x1.toInt 16) 8) : Int) from (zt_div (show (((x1 / 16) : Int32)).toInt = ((Int.tdiv x1.toInt 16) : Int) from (zt_div rfl rfl (by decide))) rfl (by decide))) rfl (by decide) (by decide))) (show (((1 + (zrem ((x1 / 16) / 1024) 40)) : Int32)).toInt = ((1 + (Int.tmod (Int.tdiv (Int.tdiv x1.toInt 16) 1024) 40)) : Int) from (zt_add rfl (show (((zrem ((x1 / 16) / 1024) 40) : Int32)).toInt = ((Int.tmod (Int.tdiv (Int.tdiv x1.toInt 16) 1024) 40) : Int) from (zt_rem (show ((((x1 / 16) / 1024) : Int32)).toInt = ((Int.tdiv (Int.tdiv x1.toInt 16) 1024) : Int) from (zt_div (show (((x1 / 16) : Int32)).toInt = ((Int.tdiv x1.toInt 16) : Int) from (zt_div rfl rfl (by decide))) rfl (by decide))) rfl (by decide) (by decide))) o6q)) rfl (fun r66_ v70_ h => ?_) h
    exact h_Q _ h

def ZL_T_simulate_32 : Nat → Int → Int → Int → Int → Int → TZ → (String → TZ → Prop) → (Int → TZ → Prop) → Prop
  | 0, _, _, _, _, _, _, _, _ => False
  | n + 1, x1, x2, y3, y5, y7, v0, X, Q => ((y3 ≤ y7 → (Z_S_readerCount (Tz_trial v0) (fun r15_ => zin ((Lz_dropped (Sz_log (Tz_trial v0))) - (Lz_dropped (Sz_log (Tz_state v0)))) ∧ zin (10000 * ((Lz_dropped (Sz_log (Tz_trial v0))) - (Lz_dropped (Sz_log (Tz_state v0))))) ∧ zin ((Sz_missed (Tz_trial v0)) - (Sz_missed (Tz_state v0))) ∧ zin (100 * (zminZ ((Sz_missed (Tz_trial v0)) - (Sz_missed (Tz_state v0))) 99)) ∧ zin ((10000 * ((Lz_dropped (Sz_log (Tz_trial v0))) - (Lz_dropped (Sz_log (Tz_state v0))))) + (100 * (zminZ ((Sz_missed (Tz_trial v0)) - (Sz_missed (Tz_state v0))) 99))) ∧ zin (((10000 * ((Lz_dropped (Sz_log (Tz_trial v0))) - (Lz_dropped (Sz_log (Tz_state v0))))) + (100 * (zminZ ((Sz_missed (Tz_trial v0)) - (Sz_missed (Tz_state v0))) 99))) + r15_) ∧ (Q (((10000 * ((Lz_dropped (Sz_log (Tz_trial v0))) - (Lz_dropped (Sz_log (Tz_state v0))))) + (100 * (zminZ ((Sz_missed (Tz_trial v0)) - (Sz_missed (Tz_state v0))) 99))) + r15_) v0)))) ∧ (¬ y3 ≤ y7 → (Z_T_takeTurn (wi (zushrZ (wl ((wl (y5 * 6364136223846793005)) + 1442695040888963407)) 33)) (Tz_trial v0) (fun v23_ => (∀ v28_, v28_ = (Tz_set_trial v0 v23_) → (zin (y7 + 1) ∧ (ZL_T_simulate_32 n x1 x2 y3 (wl ((wl (y5 * 6364136223846793005)) + 1442695040888963407)) (y7 + 1) v28_ X Q)))))))
set_option maxRecDepth 100000 in
theorem zL_T_simulate_32 (n : Nat) : ∀ {x1 : Int64} {x1z : Int} {x2 : Int32} {x2z : Int} {y3 : Int32} {y3z : Int} {y5 : Int64} {y5z : Int} {y7 : Int32} {y7z : Int} {v0 : TT} {v0z : TZ}  {X : String → TT → Prop} {Xz : (String → TZ → Prop)} {Q : Int32 → TT → Prop} {Qz : (Int → TZ → Prop)} (e_x1 : x1.toInt = x1z) (e_x2 : x2.toInt = x2z) (e_y3 : y3.toInt = y3z) (e_y5 : y5.toInt = y5z) (e_y7 : y7.toInt = y7z) (e_v0 : (aT v0) = v0z) (h_X : ∀ (a0 : String) (a1 : TT), Xz a0 (aT a1) → X a0 a1) (h_Q : ∀ (a0 : Int32) (a1 : TT), Qz a0.toInt (aT a1) → Q a0 a1) (h : ZL_T_simulate_32 n x1z x2z y3z y5z y7z v0z Xz Qz), PL_T_simulate_32 n x1 x2 y3 y5 y7 v0 X Q := by
  induction n with
  | zero =>
    intro x1 x1z x2 x2z y3 y3z y5 y5z y7 y7z v0 v0z X Xz Q Qz e_x1 e_x2 e_y3 e_y5 e_y7 e_v0 h_X h_Q h
    exact (h : False).elim
  | succ n ih =>
    intro x1 x1z x2 x2z y3 y3z y5 y5z y7 y7z v0 v0z X Xz Q Qz e_x1 e_x2 e_y3 e_y5 e_y7 e_v0 h_X h_Q h
    subst e_x1
    subst e_x2
    subst e_y3
    subst e_y5
    subst e_y7
    subst e_v0
    rw [ZL_T_simulate_32] at h
    rw [PL_T_simulate_32]
    refine ⟨fun c8q => ?_, fun c8q => ?_⟩
    · have h := h.1 ((zt_le rfl rfl).mp c8q)
      refine z_S_readerCount rfl (fun r15_ h => ?_) h
      obtain ⟨o1q, h⟩ := h
      obtain ⟨o2q, h⟩ := h
      obtain ⟨o3q, h⟩ := h
      obtain ⟨o4q, h⟩ := h
      obtain ⟨o5q, h⟩ := h
      obtain ⟨o6q, h⟩ := h
      exact h_Q _ _ (Eq.mpr (congrArg (fun k => Qz k (aT v0)) (show (((((10000 * ((L_dropped (S_log (T_trial v0))) - (L_dropped (S_log (T_state v0))))) + (100 * (zmin ((S_missed (T_trial v0)) - (S_missed (T_state v0))) 99))) + r15_) : Int32)).toInt = ((((10000 * ((Lz_dropped (Sz_log (Tz_trial (aT v0)))) - (Lz_dropped (Sz_log (Tz_state (aT v0)))))) + (100 * (zminZ ((Sz_missed (Tz_trial (aT v0))) - (Sz_missed (Tz_state (aT v0)))) 99))) + r15_.toInt) : Int) from (zt_add (show ((((10000 * ((L_dropped (S_log (T_trial v0))) - (L_dropped (S_log (T_state v0))))) + (100 * (zmin ((S_missed (T_trial v0)) - (S_missed (T_state v0))) 99))) : Int32)).toInt = (((10000 * ((Lz_dropped (Sz_log (Tz_trial (aT v0)))) - (Lz_dropped (Sz_log (Tz_state (aT v0)))))) + (100 * (zminZ ((Sz_missed (Tz_trial (aT v0))) - (Sz_missed (Tz_state (aT v0)))) 99))) : Int) from (zt_add (show (((10000 * ((L_dropped (S_log (T_trial v0))) - (L_dropped (S_log (T_state v0))))) : Int32)).toInt = ((10000 * ((Lz_dropped (Sz_log (Tz_trial (aT v0)))) - (Lz_dropped (Sz_log (Tz_state (aT v0)))))) : Int) from (zt_mul rfl (show ((((L_dropped (S_log (T_trial v0))) - (L_dropped (S_log (T_state v0)))) : Int32)).toInt = (((Lz_dropped (Sz_log (Tz_trial (aT v0)))) - (Lz_dropped (Sz_log (Tz_state (aT v0))))) : Int) from (zt_sub rfl rfl o1q)) o2q)) (show (((100 * (zmin ((S_missed (T_trial v0)) - (S_missed (T_state v0))) 99)) : Int32)).toInt = ((100 * (zminZ ((Sz_missed (Tz_trial (aT v0))) - (Sz_missed (Tz_state (aT v0)))) 99)) : Int) from (zt_mul rfl (show (((zmin ((S_missed (T_trial v0)) - (S_missed (T_state v0))) 99) : Int32)).toInt = ((zminZ ((Sz_missed (Tz_trial (aT v0))) - (Sz_missed (Tz_state (aT v0)))) 99) : Int) from (zt_min (show ((((S_missed (T_trial v0)) - (S_missed (T_state v0))) : Int32)).toInt = (((Sz_missed (Tz_trial (aT v0))) - (Sz_missed (Tz_state (aT v0)))) : Int) from (zt_sub rfl rfl o3q)) rfl)) o4q)) o5q)) rfl o6q))) h)
    · have h := h.2 (fun k => c8q ((zt_le rfl rfl).mpr k))
      refine z_T_takeTurn (show (((Int64.toInt32 (zushr ((y5 * 6364136223846793005) + 1442695040888963407) 33)) : Int32)).toInt = ((wi (zushrZ (wl ((wl (y5.toInt * 6364136223846793005)) + 1442695040888963407)) 33)) : Int) from (zt_l2i (show (zushr ((y5 * 6364136223846793005) + 1442695040888963407) 33).toInt = ((zushrZ (wl ((wl (y5.toInt * 6364136223846793005)) + 1442695040888963407)) 33) : Int) from (zt_zushr (show ((y5 * 6364136223846793005) + 1442695040888963407).toInt = ((wl ((wl (y5.toInt * 6364136223846793005)) + 1442695040888963407)) : Int) from (zt_ladd (show (y5 * 6364136223846793005).toInt = ((wl (y5.toInt * 6364136223846793005)) : Int) from (zt_lmul rfl rfl)) rfl)) rfl)))) rfl (fun v23_ h => ?_) h
      intro v28_ ev28_
      have h := h (aT v28_) (by rw [ev28_]; exact rfl)
      obtain ⟨o7q, h⟩ := h
      refine ih rfl rfl rfl (show ((y5 * 6364136223846793005) + 1442695040888963407).toInt = ((wl ((wl (y5.toInt * 6364136223846793005)) + 1442695040888963407)) : Int) from (zt_ladd (show (y5 * 6364136223846793005).toInt = ((wl (y5.toInt * 6364136223846793005)) : Int) from (zt_lmul rfl rfl)) rfl)) (show (((y7 + 1) : Int32)).toInt = ((y7.toInt + 1) : Int) from (zt_add rfl rfl o7q)) rfl h_X h_Q h
def Z_T_simulate (x1 : Int) (x2 : Int) (v0 : TZ) (X : (String → TZ → Prop)) (Q : (Int → TZ → Prop)) : Prop := (Z_T_isIn x2 1 60 (fun r1_ => ((¬ r1_ = 0 → (Z_T_copyToTry v0 (fun v10_ => (∃ n31_, (ZL_T_simulate_32 n31_ x1 x2 x2 x1 0 v10_ X Q))))) ∧ (r1_ = 0 → (X ("java/lang/IllegalArgumentException") v0)))))
set_option maxRecDepth 100000 in
theorem z_T_simulate {x1 : Int64} {x1z : Int} {x2 : Int32} {x2z : Int} {v0 : TT} {v0z : TZ}  {X : String → TT → Prop} {Xz : (String → TZ → Prop)} {Q : Int32 → TT → Prop} {Qz : (Int → TZ → Prop)} (e_x1 : x1.toInt = x1z) (e_x2 : x2.toInt = x2z) (e_v0 : (aT v0) = v0z) (h_X : ∀ (a0 : String) (a1 : TT), Xz a0 (aT a1) → X a0 a1) (h_Q : ∀ (a0 : Int32) (a1 : TT), Qz a0.toInt (aT a1) → Q a0 a1) (h : Z_T_simulate x1z x2z v0z Xz Qz) : P_T_simulate x1 x2 v0 X Q := by
  subst e_x1
  subst e_x2
  subst e_v0
  unfold Z_T_simulate at h
  unfold P_T_simulate
  refine z_T_isIn rfl rfl rfl (fun r1_ h => ?_) h
  refine ⟨fun c1q => ?_, fun c1q => ?_⟩
  · have h := h.1 (fun k => c1q ((zt_eq rfl rfl).mpr k))
    refine z_T_copyToTry rfl (fun v10_ h => ?_) h
    obtain ⟨n31_, h⟩ := h
    refine ⟨n31_, ?_⟩
    refine zL_T_simulate_32 n31_ rfl rfl rfl rfl rfl rfl h_X h_Q h
  · have h := h.2 ((zt_eq rfl rfl).mp c1q)
    exact h_X _ _ h

def ZJ_T_save_38 (x1 : Int) (y1 : Int) (v0 : TZ) (X : (String → TZ → Prop)) (Q : (Int → TZ → Prop)) : Prop := ((0 : Int) ≤ y1 ∧ (y1 : Int) < 2) ∧ ((∀ v26_, v26_ = (Tz_set_filled v0 (updz (Tz_filled v0) (Int.toNat y1) 1)) → ((Q (Sz_time (Tz_state v26_)) v26_))))
set_option maxRecDepth 100000 in
theorem zJ_T_save_38 {x1 : Int32} {x1z : Int} {y1 : Int32} {y1z : Int} {v0 : TT} {v0z : TZ}  {X : String → TT → Prop} {Xz : (String → TZ → Prop)} {Q : Int32 → TT → Prop} {Qz : (Int → TZ → Prop)} (e_x1 : x1.toInt = x1z) (e_y1 : y1.toInt = y1z) (e_v0 : (aT v0) = v0z) (h_X : ∀ (a0 : String) (a1 : TT), Xz a0 (aT a1) → X a0 a1) (h_Q : ∀ (a0 : Int32) (a1 : TT), Qz a0.toInt (aT a1) → Q a0 a1) (h : ZJ_T_save_38 x1z y1z v0z Xz Qz) : PJ_T_save_38 x1 y1 v0 X Q := by
  subst e_x1
  subst e_y1
  subst e_v0
  unfold ZJ_T_save_38 at h
  unfold PJ_T_save_38
  obtain ⟨i1q, h⟩ := h
  refine ⟨zt_in rfl i1q, ?_⟩
  intro v26_ ev26_
  have h := h (aT v26_) (by rw [ev26_]; exact (show (aT (T_set_filled v0 (upd (T_filled v0) (Int32.toNatClampNeg y1) 1))) = (Tz_set_filled (aT v0) (updz (Tz_filled (aT v0)) (Int.toNat y1.toInt) 1)) from (congrArg (fun k => Tz_set_filled (aT v0) k) (show (aA (upd (T_filled v0) (Int32.toNatClampNeg y1) 1)) = (updz (Tz_filled (aT v0)) (Int.toNat y1.toInt) 1) from (zt_upd rfl rfl rfl)))))
  exact h_Q _ _ h
def Z_T_save (x1 : Int) (v0 : TZ) (X : (String → TZ → Prop)) (Q : (Int → TZ → Prop)) : Prop := (Z_T_isIn x1 0 1 (fun r1_ => ((¬ r1_ = 0 → ((0 : Int) ≤ x1 ∧ (x1 : Int) < 2) ∧ ((Z_S_takeOver (Tz_slots v0 (Int.toNat x1)) (Tz_state v0) (fun v11_ => (∀ v16_, v16_ = (Tz_seti_slots v0 (Int.toNat x1) v11_) → ((ZJ_T_save_38 x1 x1 v16_ X Q))))))) ∧ (r1_ = 0 → (X ("java/lang/IndexOutOfBoundsException") v0)))))
set_option maxRecDepth 100000 in
theorem z_T_save {x1 : Int32} {x1z : Int} {v0 : TT} {v0z : TZ}  {X : String → TT → Prop} {Xz : (String → TZ → Prop)} {Q : Int32 → TT → Prop} {Qz : (Int → TZ → Prop)} (e_x1 : x1.toInt = x1z) (e_v0 : (aT v0) = v0z) (h_X : ∀ (a0 : String) (a1 : TT), Xz a0 (aT a1) → X a0 a1) (h_Q : ∀ (a0 : Int32) (a1 : TT), Qz a0.toInt (aT a1) → Q a0 a1) (h : Z_T_save x1z v0z Xz Qz) : P_T_save x1 v0 X Q := by
  subst e_x1
  subst e_v0
  unfold Z_T_save at h
  unfold P_T_save
  refine z_T_isIn rfl rfl rfl (fun r1_ h => ?_) h
  refine ⟨fun c2q => ?_, fun c2q => ?_⟩
  · have h := h.1 (fun k => c2q ((zt_eq rfl rfl).mpr k))
    obtain ⟨i1q, h⟩ := h
    refine ⟨zt_in rfl i1q, ?_⟩
    refine z_S_takeOver rfl rfl (fun v11_ h => ?_) h
    intro v16_ ev16_
    have h := h (aT v16_) (by rw [ev16_]; exact (show (aT (T_seti_slots v0 (Int32.toNatClampNeg x1) v11_)) = (Tz_seti_slots (aT v0) (Int.toNat x1.toInt) (aS v11_)) from (zt_seti_T_slots rfl rfl rfl)))
    refine zJ_T_save_38 rfl rfl rfl h_X h_Q h
  · have h := h.2 ((zt_eq rfl rfl).mp c2q)
    exact h_X _ _ h

def Z_T_restore (x1 : Int) (v0 : TZ) (X : (String → TZ → Prop)) (Q : (Int → TZ → Prop)) : Prop := (Z_T_isIn x1 0 1 (fun r1_ => ((¬ r1_ = 0 → ((0 : Int) ≤ x1 ∧ (x1 : Int) < 2) ∧ (((¬ (Tz_filled v0 (Int.toNat x1)) = 0 → ((0 : Int) ≤ x1 ∧ (x1 : Int) < 2) ∧ ((Z_S_takeOver (Tz_state v0) (Tz_slots v0 (Int.toNat x1)) (fun v13_ => (∀ v18_, v18_ = (Tz_set_state v0 v13_) → ((Z_H_forget (Tz_history v18_) (fun v25_ => (∀ v30_, v30_ = (Tz_set_history v18_ v25_) → ((Q (Sz_time (Tz_state v30_)) v30_))))))))))) ∧ ((Tz_filled v0 (Int.toNat x1)) = 0 → (X ("java/lang/IllegalStateException") v0))))) ∧ (r1_ = 0 → (X ("java/lang/IndexOutOfBoundsException") v0)))))
set_option maxRecDepth 100000 in
theorem z_T_restore {x1 : Int32} {x1z : Int} {v0 : TT} {v0z : TZ}  {X : String → TT → Prop} {Xz : (String → TZ → Prop)} {Q : Int32 → TT → Prop} {Qz : (Int → TZ → Prop)} (e_x1 : x1.toInt = x1z) (e_v0 : (aT v0) = v0z) (h_X : ∀ (a0 : String) (a1 : TT), Xz a0 (aT a1) → X a0 a1) (h_Q : ∀ (a0 : Int32) (a1 : TT), Qz a0.toInt (aT a1) → Q a0 a1) (h : Z_T_restore x1z v0z Xz Qz) : P_T_restore x1 v0 X Q := by
  subst e_x1
  subst e_v0
  unfold Z_T_restore at h
  unfold P_T_restore
  refine z_T_isIn rfl rfl rfl (fun r1_ h => ?_) h
  refine ⟨fun c4q => ?_, fun c4q => ?_⟩
  · have h := h.1 (fun k => c4q ((zt_eq rfl rfl).mpr k))
    obtain ⟨i1q, h⟩ := h
    refine ⟨zt_in rfl i1q, ?_⟩
    refine ⟨fun c3q => ?_, fun c3q => ?_⟩
    · have h := h.1 (fun k => c3q ((zt_eq rfl rfl).mpr k))
      obtain ⟨i2q, h⟩ := h
      refine ⟨zt_in rfl i2q, ?_⟩
      refine z_S_takeOver rfl rfl (fun v13_ h => ?_) h
      intro v18_ ev18_
      have h := h (aT v18_) (by rw [ev18_]; exact rfl)
      refine z_H_forget rfl (fun v25_ h => ?_) h
      intro v30_ ev30_
      have h := h (aT v30_) (by rw [ev30_]; exact rfl)
      exact h_Q _ _ h
    · have h := h.2 ((zt_eq rfl rfl).mp c3q)
      exact h_X _ _ h
  · have h := h.2 ((zt_eq rfl rfl).mp c4q)
    exact h_X _ _ h
