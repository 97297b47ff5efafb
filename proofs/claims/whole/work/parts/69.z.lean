def ZJ_M_setting_18 (x1 : Int) (y1 : Int) (u0 : Int) (v0 : MZ) (Q : (Int → MZ → Prop)) : Prop := (Z_M_refused u0 v0 (fun r6_ v10_ => ((r6_ = 0 → zin (610 + y1) ∧ ((0 : Int) ≤ (610 + y1) ∧ ((610 + y1) : Int) < 621) ∧ ((Q (Mz_now v10_ (Int.toNat (610 + y1))) v10_))) ∧ (¬ r6_ = 0 → (Q 0 v10_)))))
set_option maxRecDepth 100000 in
theorem zJ_M_setting_18 {x1 : Int32} {x1z : Int} {y1 : Int32} {y1z : Int} {u0 : Int32} {u0z : Int} {v0 : MT} {v0z : MZ}  {Q : Int32 → MT → Prop} {Qz : (Int → MZ → Prop)} (e_x1 : x1.toInt = x1z) (e_y1 : y1.toInt = y1z) (e_u0 : u0.toInt = u0z) (e_v0 : (aM v0) = v0z) (h_Q : ∀ (a0 : Int32) (a1 : MT), Qz a0.toInt (aM a1) → Q a0 a1) (h : ZJ_M_setting_18 x1z y1z u0z v0z Qz) : PJ_M_setting_18 x1 y1 u0 v0 Q := by
  subst e_x1
  subst e_y1
  subst e_u0
  subst e_v0
  unfold ZJ_M_setting_18 at h
  unfold PJ_M_setting_18
  refine z_M_refused rfl rfl (fun r6_ v10_ h => ?_) h
  refine ⟨fun c3q => ?_, fun c3q => ?_⟩
  · have h := h.1 ((zt_eq rfl rfl).mp c3q)
    obtain ⟨o1q, h⟩ := h
    obtain ⟨i2q, h⟩ := h
    refine ⟨zt_in (show (((610 + y1) : Int32)).toInt = ((610 + y1.toInt) : Int) from (zt_add rfl rfl o1q)) i2q, ?_⟩
    exact h_Q _ _ (Eq.mpr (congrArg (fun k => Qz k (aM v10_)) (show (((M_now v10_ (Int32.toNatClampNeg (610 + y1))) : Int32)).toInt = ((Mz_now (aM v10_) (Int.toNat (610 + y1.toInt))) : Int) from (congrArg (fun k => Mz_now (aM v10_) k) (show (Int32.toNatClampNeg (610 + y1)) = (Int.toNat (610 + y1.toInt)) from (congrArg Int.toNat (show (((610 + y1) : Int32)).toInt = ((610 + y1.toInt) : Int) from (zt_add rfl rfl o1q))))))) h)
  · have h := h.2 (fun k => c3q ((zt_eq rfl rfl).mpr k))
    exact h_Q _ _ h
def Z_M_setting (x1 : Int) (v0 : MZ) (Q : (Int → MZ → Prop)) : Prop := (Z_M_in x1 0 5 (fun r1_ => ((r1_ = 0 → (ZJ_M_setting_18 x1 x1 1 v0 Q)) ∧ (¬ r1_ = 0 → (ZJ_M_setting_18 x1 x1 0 v0 Q)))))
set_option maxRecDepth 100000 in
theorem z_M_setting {x1 : Int32} {x1z : Int} {v0 : MT} {v0z : MZ}  {Q : Int32 → MT → Prop} {Qz : (Int → MZ → Prop)} (e_x1 : x1.toInt = x1z) (e_v0 : (aM v0) = v0z) (h_Q : ∀ (a0 : Int32) (a1 : MT), Qz a0.toInt (aM a1) → Q a0 a1) (h : Z_M_setting x1z v0z Qz) : P_M_setting x1 v0 Q := by
  subst e_x1
  subst e_v0
  unfold Z_M_setting at h
  unfold P_M_setting
  refine z_M_in (show (Int32.toInt64 x1).toInt = (x1.toInt : Int) from (zt_i2l rfl)) rfl rfl (fun r1_ h => ?_) h
  refine ⟨fun c1q => ?_, fun c1q => ?_⟩
  · have h := h.1 ((zt_eq rfl rfl).mp c1q)
    refine zJ_M_setting_18 rfl rfl rfl rfl h_Q h
  · have h := h.2 (fun k => c1q ((zt_eq rfl rfl).mpr k))
    refine zJ_M_setting_18 rfl rfl rfl rfl h_Q h

def ZJ_M_write_33 (x1 : Int) (x2 : Int) (x3 : Int) (y1 : Int) (y2 : Int) (y3 : Int) (u0 : Int) (v0 : MZ) (Q : (Int → MZ → Prop)) : Prop := (Z_M_refused u0 v0 (fun r8_ v12_ => ((r8_ = 0 → (Z_M_remember v12_ (fun v21_ => (Z_M_goWrite y1 y2 y3 (Mz_now v21_) (fun r25_ v29_ => (∀ v34_, v34_ = (Mz_set_now v21_ v29_) → ((Q r25_ v34_)))))))) ∧ (¬ r8_ = 0 → (Q 0 v12_)))))
set_option maxRecDepth 100000 in
theorem zJ_M_write_33 {x1 : Int32} {x1z : Int} {x2 : Int32} {x2z : Int} {x3 : Int32} {x3z : Int} {y1 : Int32} {y1z : Int} {y2 : Int32} {y2z : Int} {y3 : Int32} {y3z : Int} {u0 : Int32} {u0z : Int} {v0 : MT} {v0z : MZ}  {Q : Int32 → MT → Prop} {Qz : (Int → MZ → Prop)} (e_x1 : x1.toInt = x1z) (e_x2 : x2.toInt = x2z) (e_x3 : x3.toInt = x3z) (e_y1 : y1.toInt = y1z) (e_y2 : y2.toInt = y2z) (e_y3 : y3.toInt = y3z) (e_u0 : u0.toInt = u0z) (e_v0 : (aM v0) = v0z) (h_Q : ∀ (a0 : Int32) (a1 : MT), Qz a0.toInt (aM a1) → Q a0 a1) (h : ZJ_M_write_33 x1z x2z x3z y1z y2z y3z u0z v0z Qz) : PJ_M_write_33 x1 x2 x3 y1 y2 y3 u0 v0 Q := by
  subst e_x1
  subst e_x2
  subst e_x3
  subst e_y1
  subst e_y2
  subst e_y3
  subst e_u0
  subst e_v0
  unfold ZJ_M_write_33 at h
  unfold PJ_M_write_33
  refine z_M_refused rfl rfl (fun r8_ v12_ h => ?_) h
  refine ⟨fun c1q => ?_, fun c1q => ?_⟩
  · have h := h.1 ((zt_eq rfl rfl).mp c1q)
    refine z_M_remember rfl (fun v21_ h => ?_) h
    refine z_M_goWrite rfl rfl rfl rfl (fun r25_ v29_ h => ?_) h
    intro v34_ ev34_
    have h := h (aM v34_) (by rw [ev34_]; exact rfl)
    exact h_Q _ _ h
  · have h := h.2 (fun k => c1q ((zt_eq rfl rfl).mpr k))
    exact h_Q _ _ h
def Z_M_write (x1 : Int) (x2 : Int) (x3 : Int) (v0 : MZ) (Q : (Int → MZ → Prop)) : Prop := (Z_M_isRow x1 x2 x3 (fun r1_ => ((¬ r1_ = 0 → ((0 : Int) ≤ 401 ∧ (401 : Int) < 621) ∧ (((¬ (Mz_now v0 (Int.toNat 401)) = 200 → (ZJ_M_write_33 x1 x2 x3 x1 x2 x3 0 v0 Q)) ∧ ((Mz_now v0 (Int.toNat 401)) = 200 → (ZJ_M_write_33 x1 x2 x3 x1 x2 x3 2 v0 Q))))) ∧ (r1_ = 0 → (ZJ_M_write_33 x1 x2 x3 x1 x2 x3 1 v0 Q)))))
set_option maxRecDepth 100000 in
theorem z_M_write {x1 : Int32} {x1z : Int} {x2 : Int32} {x2z : Int} {x3 : Int32} {x3z : Int} {v0 : MT} {v0z : MZ}  {Q : Int32 → MT → Prop} {Qz : (Int → MZ → Prop)} (e_x1 : x1.toInt = x1z) (e_x2 : x2.toInt = x2z) (e_x3 : x3.toInt = x3z) (e_v0 : (aM v0) = v0z) (h_Q : ∀ (a0 : Int32) (a1 : MT), Qz a0.toInt (aM a1) → Q a0 a1) (h : Z_M_write x1z x2z x3z v0z Qz) : P_M_write x1 x2 x3 v0 Q := by
  subst e_x1
  subst e_x2
  subst e_x3
  subst e_v0
  unfold Z_M_write at h
  unfold P_M_write
  refine z_M_isRow rfl rfl rfl (fun r1_ h => ?_) h
  refine ⟨fun c3q => ?_, fun c3q => ?_⟩
  · have h := h.1 (fun k => c3q ((zt_eq rfl rfl).mpr k))
    obtain ⟨i1q, h⟩ := h
    refine ⟨zt_in (show (401 : Int32).toInt = 401 from by decide) i1q, ?_⟩
    refine ⟨fun c2q => ?_, fun c2q => ?_⟩
    · have h := h.1 (fun k => c2q ((zt_eq rfl rfl).mpr k))
      refine zJ_M_write_33 rfl rfl rfl rfl rfl rfl rfl rfl h_Q h
    · have h := h.2 ((zt_eq rfl rfl).mp c2q)
      refine zJ_M_write_33 rfl rfl rfl rfl rfl rfl rfl rfl h_Q h
  · have h := h.2 ((zt_eq rfl rfl).mp c3q)
    refine zJ_M_write_33 rfl rfl rfl rfl rfl rfl rfl rfl h_Q h

def ZJ_M_join_42 (x1 : Int) (x2 : Int) (x3 : Int) (y1 : Int) (y2 : Int) (y3 : Int) (u0 : Int) (v0 : MZ) (Q : (Int → MZ → Prop)) : Prop := (Z_M_refused u0 v0 (fun r6_ v10_ => ((r6_ = 0 → (Z_M_remember v10_ (fun v19_ => (Z_M_goJoin y1 y2 y3 (Mz_now v19_) (fun r23_ v27_ => (∀ v32_, v32_ = (Mz_set_now v19_ v27_) → ((Q r23_ v32_)))))))) ∧ (¬ r6_ = 0 → (Q 0 v10_)))))
set_option maxRecDepth 100000 in
theorem zJ_M_join_42 {x1 : Int32} {x1z : Int} {x2 : Int32} {x2z : Int} {x3 : Int32} {x3z : Int} {y1 : Int32} {y1z : Int} {y2 : Int32} {y2z : Int} {y3 : Int32} {y3z : Int} {u0 : Int32} {u0z : Int} {v0 : MT} {v0z : MZ}  {Q : Int32 → MT → Prop} {Qz : (Int → MZ → Prop)} (e_x1 : x1.toInt = x1z) (e_x2 : x2.toInt = x2z) (e_x3 : x3.toInt = x3z) (e_y1 : y1.toInt = y1z) (e_y2 : y2.toInt = y2z) (e_y3 : y3.toInt = y3z) (e_u0 : u0.toInt = u0z) (e_v0 : (aM v0) = v0z) (h_Q : ∀ (a0 : Int32) (a1 : MT), Qz a0.toInt (aM a1) → Q a0 a1) (h : ZJ_M_join_42 x1z x2z x3z y1z y2z y3z u0z v0z Qz) : PJ_M_join_42 x1 x2 x3 y1 y2 y3 u0 v0 Q := by
  subst e_x1
  subst e_x2
  subst e_x3
  subst e_y1
  subst e_y2
  subst e_y3
  subst e_u0
  subst e_v0
  unfold ZJ_M_join_42 at h
  unfold PJ_M_join_42
  refine z_M_refused rfl rfl (fun r6_ v10_ h => ?_) h
  refine ⟨fun c1q => ?_, fun c1q => ?_⟩
  · have h := h.1 ((zt_eq rfl rfl).mp c1q)
    refine z_M_remember rfl (fun v19_ h => ?_) h
    refine z_M_goJoin rfl rfl rfl rfl (fun r23_ v27_ h => ?_) h
    intro v32_ ev32_
    have h := h (aM v32_) (by rw [ev32_]; exact rfl)
    exact h_Q _ _ h
  · have h := h.2 (fun k => c1q ((zt_eq rfl rfl).mpr k))
    exact h_Q _ _ h
def ZJ_M_join_20 (x1 : Int) (x2 : Int) (x3 : Int) (y1 : Int) (y2 : Int) (y3 : Int) (v0 : MZ) (Q : (Int → MZ → Prop)) : Prop := (ZJ_M_join_42 x1 x2 x3 y1 y2 y3 1 v0 Q)
set_option maxRecDepth 100000 in
theorem zJ_M_join_20 {x1 : Int32} {x1z : Int} {x2 : Int32} {x2z : Int} {x3 : Int32} {x3z : Int} {y1 : Int32} {y1z : Int} {y2 : Int32} {y2z : Int} {y3 : Int32} {y3z : Int} {v0 : MT} {v0z : MZ}  {Q : Int32 → MT → Prop} {Qz : (Int → MZ → Prop)} (e_x1 : x1.toInt = x1z) (e_x2 : x2.toInt = x2z) (e_x3 : x3.toInt = x3z) (e_y1 : y1.toInt = y1z) (e_y2 : y2.toInt = y2z) (e_y3 : y3.toInt = y3z) (e_v0 : (aM v0) = v0z) (h_Q : ∀ (a0 : Int32) (a1 : MT), Qz a0.toInt (aM a1) → Q a0 a1) (h : ZJ_M_join_20 x1z x2z x3z y1z y2z y3z v0z Qz) : PJ_M_join_20 x1 x2 x3 y1 y2 y3 v0 Q := by
  subst e_x1
  subst e_x2
  subst e_x3
  subst e_y1
  subst e_y2
  subst e_y3
  subst e_v0
  unfold ZJ_M_join_20 at h
  unfold PJ_M_join_20
  refine zJ_M_join_42 rfl rfl rfl rfl rfl rfl rfl rfl h_Q h
def Z_M_join (x1 : Int) (x2 : Int) (x3 : Int) (v0 : MZ) (Q : (Int → MZ → Prop)) : Prop := (Z_M_isName x1 (fun r1_ => ((r1_ = 0 → (ZJ_M_join_20 x1 x2 x3 x1 x2 x3 v0 Q)) ∧ (¬ r1_ = 0 → (Z_M_in x2 0 2 (fun r35_ => ((¬ r35_ = 0 → (Z_M_canJoin x1 x2 x3 (Mz_now v0) (fun r40_ => ((¬ r40_ = 0 → (ZJ_M_join_42 x1 x2 x3 x1 x2 x3 0 v0 Q)) ∧ (r40_ = 0 → (ZJ_M_join_42 x1 x2 x3 x1 x2 x3 2 v0 Q)))))) ∧ (r35_ = 0 → (ZJ_M_join_20 x1 x2 x3 x1 x2 x3 v0 Q)))))))))
set_option maxRecDepth 100000 in
theorem z_M_join {x1 : Int32} {x1z : Int} {x2 : Int32} {x2z : Int} {x3 : Int32} {x3z : Int} {v0 : MT} {v0z : MZ}  {Q : Int32 → MT → Prop} {Qz : (Int → MZ → Prop)} (e_x1 : x1.toInt = x1z) (e_x2 : x2.toInt = x2z) (e_x3 : x3.toInt = x3z) (e_v0 : (aM v0) = v0z) (h_Q : ∀ (a0 : Int32) (a1 : MT), Qz a0.toInt (aM a1) → Q a0 a1) (h : Z_M_join x1z x2z x3z v0z Qz) : P_M_join x1 x2 x3 v0 Q := by
  subst e_x1
  subst e_x2
  subst e_x3
  subst e_v0
  unfold Z_M_join at h
  unfold P_M_join
  refine z_M_isName rfl (fun r1_ h => ?_) h
  refine ⟨fun c3q => ?_, fun c3q => ?_⟩
  · have h := h.1 ((zt_eq rfl rfl).mp c3q)
    refine zJ_M_join_20 rfl rfl rfl rfl rfl rfl rfl h_Q h
  · have h := h.2 (fun k => c3q ((zt_eq rfl rfl).mpr k))
    refine z_M_in (show (Int32.toInt64 x2).toInt = (x2.toInt : Int) from (zt_i2l rfl)) rfl rfl (fun r35_ h => ?_) h
    refine ⟨fun c2q => ?_, fun c2q => ?_⟩
    · have h := h.1 (fun k => c2q ((zt_eq rfl rfl).mpr k))
      refine z_M_canJoin rfl rfl rfl rfl (fun r40_ h => ?_) h
      refine ⟨fun c1q => ?_, fun c1q => ?_⟩
      · have h := h.1 (fun k => c1q ((zt_eq rfl rfl).mpr k))
        refine zJ_M_join_42 rfl rfl rfl rfl rfl rfl rfl rfl h_Q h
      · have h := h.2 ((zt_eq rfl rfl).mp c1q)
        refine zJ_M_join_42 rfl rfl rfl rfl rfl rfl rfl rfl h_Q h
    · have h := h.2 ((zt_eq rfl rfl).mp c2q)
      refine zJ_M_join_20 rfl rfl rfl rfl rfl rfl rfl h_Q h

def ZJ_M_read_33 (x1 : Int) (x2 : Int) (y1 : Int) (y2 : Int) (u0 : Int) (v0 : MZ) (Q : (Int → MZ → Prop)) : Prop := (Z_M_refused u0 v0 (fun r11_ v15_ => ((r11_ = 0 → (Z_M_remember v15_ (fun v24_ => (Z_M_goRead y1 y2 (Mz_now v24_) (fun r28_ v32_ => (∀ v37_, v37_ = (Mz_set_now v24_ v32_) → ((Q r28_ v37_)))))))) ∧ (¬ r11_ = 0 → (Q 0 v15_)))))
set_option maxRecDepth 100000 in
theorem zJ_M_read_33 {x1 : Int32} {x1z : Int} {x2 : Int32} {x2z : Int} {y1 : Int32} {y1z : Int} {y2 : Int32} {y2z : Int} {u0 : Int32} {u0z : Int} {v0 : MT} {v0z : MZ}  {Q : Int32 → MT → Prop} {Qz : (Int → MZ → Prop)} (e_x1 : x1.toInt = x1z) (e_x2 : x2.toInt = x2z) (e_y1 : y1.toInt = y1z) (e_y2 : y2.toInt = y2z) (e_u0 : u0.toInt = u0z) (e_v0 : (aM v0) = v0z) (h_Q : ∀ (a0 : Int32) (a1 : MT), Qz a0.toInt (aM a1) → Q a0 a1) (h : ZJ_M_read_33 x1z x2z y1z y2z u0z v0z Qz) : PJ_M_read_33 x1 x2 y1 y2 u0 v0 Q := by
  subst e_x1
  subst e_x2
  subst e_y1
  subst e_y2
  subst e_u0
  subst e_v0
  unfold ZJ_M_read_33 at h
  unfold PJ_M_read_33
  refine z_M_refused rfl rfl (fun r11_ v15_ h => ?_) h
  refine ⟨fun c1q => ?_, fun c1q => ?_⟩
  · have h := h.1 ((zt_eq rfl rfl).mp c1q)
    refine z_M_remember rfl (fun v24_ h => ?_) h
    refine z_M_goRead rfl rfl rfl (fun r28_ v32_ h => ?_) h
    intro v37_ ev37_
    have h := h (aM v37_) (by rw [ev37_]; exact rfl)
    exact h_Q _ _ h
  · have h := h.2 (fun k => c1q ((zt_eq rfl rfl).mpr k))
    exact h_Q _ _ h
def Z_M_read (x1 : Int) (x2 : Int) (v0 : MZ) (Q : (Int → MZ → Prop)) : Prop := (Z_M_isReader x1 (Mz_now v0) (fun r1_ => ((¬ r1_ = 0 → (Z_M_in x2 1 50 (fun r6_ => ((¬ r6_ = 0 → (ZJ_M_read_33 x1 x2 x1 x2 0 v0 Q)) ∧ (r6_ = 0 → (ZJ_M_read_33 x1 x2 x1 x2 2 v0 Q)))))) ∧ (r1_ = 0 → (ZJ_M_read_33 x1 x2 x1 x2 1 v0 Q)))))
set_option maxRecDepth 100000 in
theorem z_M_read {x1 : Int32} {x1z : Int} {x2 : Int32} {x2z : Int} {v0 : MT} {v0z : MZ}  {Q : Int32 → MT → Prop} {Qz : (Int → MZ → Prop)} (e_x1 : x1.toInt = x1z) (e_x2 : x2.toInt = x2z) (e_v0 : (aM v0) = v0z) (h_Q : ∀ (a0 : Int32) (a1 : MT), Qz a0.toInt (aM a1) → Q a0 a1) (h : Z_M_read x1z x2z v0z Qz) : P_M_read x1 x2 v0 Q := by
  subst e_x1
  subst e_x2
  subst e_v0
  unfold Z_M_read at h
  unfold P_M_read
  refine z_M_isReader rfl rfl (fun r1_ h => ?_) h
  refine ⟨fun c2q => ?_, fun c2q => ?_⟩
  · have h := h.1 (fun k => c2q ((zt_eq rfl rfl).mpr k))
    refine z_M_in (show (Int32.toInt64 x2).toInt = (x2.toInt : Int) from (zt_i2l rfl)) rfl rfl (fun r6_ h => ?_) h
    refine ⟨fun c1q => ?_, fun c1q => ?_⟩
    · have h := h.1 (fun k => c1q ((zt_eq rfl rfl).mpr k))
      refine zJ_M_read_33 rfl rfl rfl rfl rfl rfl h_Q h
    · have h := h.2 ((zt_eq rfl rfl).mp c1q)
      refine zJ_M_read_33 rfl rfl rfl rfl rfl rfl h_Q h
  · have h := h.2 ((zt_eq rfl rfl).mp c2q)
    refine zJ_M_read_33 rfl rfl rfl rfl rfl rfl h_Q h

def ZJ_M_leave_17 (x1 : Int) (y1 : Int) (u0 : Int) (v0 : MZ) (Q : (Int → MZ → Prop)) : Prop := (Z_M_refused u0 v0 (fun r6_ v10_ => ((r6_ = 0 → (Z_M_remember v10_ (fun v19_ => (Z_M_goLeave y1 (Mz_now v19_) (fun r23_ v27_ => (∀ v32_, v32_ = (Mz_set_now v19_ v27_) → ((Q r23_ v32_)))))))) ∧ (¬ r6_ = 0 → (Q 0 v10_)))))
set_option maxRecDepth 100000 in
theorem zJ_M_leave_17 {x1 : Int32} {x1z : Int} {y1 : Int32} {y1z : Int} {u0 : Int32} {u0z : Int} {v0 : MT} {v0z : MZ}  {Q : Int32 → MT → Prop} {Qz : (Int → MZ → Prop)} (e_x1 : x1.toInt = x1z) (e_y1 : y1.toInt = y1z) (e_u0 : u0.toInt = u0z) (e_v0 : (aM v0) = v0z) (h_Q : ∀ (a0 : Int32) (a1 : MT), Qz a0.toInt (aM a1) → Q a0 a1) (h : ZJ_M_leave_17 x1z y1z u0z v0z Qz) : PJ_M_leave_17 x1 y1 u0 v0 Q := by
  subst e_x1
  subst e_y1
  subst e_u0
  subst e_v0
  unfold ZJ_M_leave_17 at h
  unfold PJ_M_leave_17
  refine z_M_refused rfl rfl (fun r6_ v10_ h => ?_) h
  refine ⟨fun c1q => ?_, fun c1q => ?_⟩
  · have h := h.1 ((zt_eq rfl rfl).mp c1q)
    refine z_M_remember rfl (fun v19_ h => ?_) h
    refine z_M_goLeave rfl rfl (fun r23_ v27_ h => ?_) h
    intro v32_ ev32_
    have h := h (aM v32_) (by rw [ev32_]; exact rfl)
    exact h_Q _ _ h
  · have h := h.2 (fun k => c1q ((zt_eq rfl rfl).mpr k))
    exact h_Q _ _ h
def Z_M_leave (x1 : Int) (v0 : MZ) (Q : (Int → MZ → Prop)) : Prop := (Z_M_isReader x1 (Mz_now v0) (fun r1_ => ((r1_ = 0 → (ZJ_M_leave_17 x1 x1 1 v0 Q)) ∧ (¬ r1_ = 0 → (ZJ_M_leave_17 x1 x1 0 v0 Q)))))
set_option maxRecDepth 100000 in
theorem z_M_leave {x1 : Int32} {x1z : Int} {v0 : MT} {v0z : MZ}  {Q : Int32 → MT → Prop} {Qz : (Int → MZ → Prop)} (e_x1 : x1.toInt = x1z) (e_v0 : (aM v0) = v0z) (h_Q : ∀ (a0 : Int32) (a1 : MT), Qz a0.toInt (aM a1) → Q a0 a1) (h : Z_M_leave x1z v0z Qz) : P_M_leave x1 v0 Q := by
  subst e_x1
  subst e_v0
  unfold Z_M_leave at h
  unfold P_M_leave
  refine z_M_isReader rfl rfl (fun r1_ h => ?_) h
  refine ⟨fun c1q => ?_, fun c1q => ?_⟩
  · have h := h.1 ((zt_eq rfl rfl).mp c1q)
    refine zJ_M_leave_17 rfl rfl rfl rfl h_Q h
  · have h := h.2 (fun k => c1q ((zt_eq rfl rfl).mpr k))
    refine zJ_M_leave_17 rfl rfl rfl rfl h_Q h

def ZJ_M_hold_33 (x1 : Int) (x2 : Int) (y1 : Int) (y2 : Int) (u0 : Int) (v0 : MZ) (Q : (Int → MZ → Prop)) : Prop := (Z_M_refused u0 v0 (fun r11_ v15_ => ((r11_ = 0 → (Z_M_remember v15_ (fun v24_ => (Z_M_goHold y1 y2 (Mz_now v24_) (fun r28_ v32_ => (∀ v37_, v37_ = (Mz_set_now v24_ v32_) → ((Q r28_ v37_)))))))) ∧ (¬ r11_ = 0 → (Q 0 v15_)))))
set_option maxRecDepth 100000 in
theorem zJ_M_hold_33 {x1 : Int32} {x1z : Int} {x2 : Int32} {x2z : Int} {y1 : Int32} {y1z : Int} {y2 : Int32} {y2z : Int} {u0 : Int32} {u0z : Int} {v0 : MT} {v0z : MZ}  {Q : Int32 → MT → Prop} {Qz : (Int → MZ → Prop)} (e_x1 : x1.toInt = x1z) (e_x2 : x2.toInt = x2z) (e_y1 : y1.toInt = y1z) (e_y2 : y2.toInt = y2z) (e_u0 : u0.toInt = u0z) (e_v0 : (aM v0) = v0z) (h_Q : ∀ (a0 : Int32) (a1 : MT), Qz a0.toInt (aM a1) → Q a0 a1) (h : ZJ_M_hold_33 x1z x2z y1z y2z u0z v0z Qz) : PJ_M_hold_33 x1 x2 y1 y2 u0 v0 Q := by
  subst e_x1
  subst e_x2
  subst e_y1
  subst e_y2
  subst e_u0
  subst e_v0
  unfold ZJ_M_hold_33 at h
  unfold PJ_M_hold_33
  refine z_M_refused rfl rfl (fun r11_ v15_ h => ?_) h
  refine ⟨fun c1q => ?_, fun c1q => ?_⟩
  · have h := h.1 ((zt_eq rfl rfl).mp c1q)
    refine z_M_remember rfl (fun v24_ h => ?_) h
    refine z_M_goHold rfl rfl rfl (fun r28_ v32_ h => ?_) h
    intro v37_ ev37_
    have h := h (aM v37_) (by rw [ev37_]; exact rfl)
    exact h_Q _ _ h
  · have h := h.2 (fun k => c1q ((zt_eq rfl rfl).mpr k))
    exact h_Q _ _ h
def Z_M_hold (x1 : Int) (x2 : Int) (v0 : MZ) (Q : (Int → MZ → Prop)) : Prop := (Z_M_isReader x1 (Mz_now v0) (fun r1_ => ((¬ r1_ = 0 → (Z_M_canHold x1 x2 (Mz_now v0) (fun r6_ => ((¬ r6_ = 0 → (ZJ_M_hold_33 x1 x2 x1 x2 0 v0 Q)) ∧ (r6_ = 0 → (ZJ_M_hold_33 x1 x2 x1 x2 2 v0 Q)))))) ∧ (r1_ = 0 → (ZJ_M_hold_33 x1 x2 x1 x2 1 v0 Q)))))
set_option maxRecDepth 100000 in
theorem z_M_hold {x1 : Int32} {x1z : Int} {x2 : Int32} {x2z : Int} {v0 : MT} {v0z : MZ}  {Q : Int32 → MT → Prop} {Qz : (Int → MZ → Prop)} (e_x1 : x1.toInt = x1z) (e_x2 : x2.toInt = x2z) (e_v0 : (aM v0) = v0z) (h_Q : ∀ (a0 : Int32) (a1 : MT), Qz a0.toInt (aM a1) → Q a0 a1) (h : Z_M_hold x1z x2z v0z Qz) : P_M_hold x1 x2 v0 Q := by
  subst e_x1
  subst e_x2
  subst e_v0
  unfold Z_M_hold at h
  unfold P_M_hold
  refine z_M_isReader rfl rfl (fun r1_ h => ?_) h
  refine ⟨fun c2q => ?_, fun c2q => ?_⟩
  · have h := h.1 (fun k => c2q ((zt_eq rfl rfl).mpr k))
    refine z_M_canHold rfl rfl rfl (fun r6_ h => ?_) h
    refine ⟨fun c1q => ?_, fun c1q => ?_⟩
    · have h := h.1 (fun k => c1q ((zt_eq rfl rfl).mpr k))
      refine zJ_M_hold_33 rfl rfl rfl rfl rfl rfl h_Q h
    · have h := h.2 ((zt_eq rfl rfl).mp c1q)
      refine zJ_M_hold_33 rfl rfl rfl rfl rfl rfl h_Q h
  · have h := h.2 ((zt_eq rfl rfl).mp c2q)
    refine zJ_M_hold_33 rfl rfl rfl rfl rfl rfl h_Q h

def ZJ_M_set_14 (x1 : Int) (x2 : Int) (y1 : Int) (y2 : Int) (u0 : Int) (v0 : MZ) (Q : (Int → MZ → Prop)) : Prop := (Z_M_refused u0 v0 (fun r6_ v10_ => ((r6_ = 0 → (Z_M_remember v10_ (fun v19_ => (Z_M_put y1 y2 (Mz_now v19_) (fun r23_ v27_ => (∀ v32_, v32_ = (Mz_set_now v19_ v27_) → ((Q r23_ v32_)))))))) ∧ (¬ r6_ = 0 → (Q 0 v10_)))))
set_option maxRecDepth 100000 in
theorem zJ_M_set_14 {x1 : Int32} {x1z : Int} {x2 : Int32} {x2z : Int} {y1 : Int32} {y1z : Int} {y2 : Int32} {y2z : Int} {u0 : Int32} {u0z : Int} {v0 : MT} {v0z : MZ}  {Q : Int32 → MT → Prop} {Qz : (Int → MZ → Prop)} (e_x1 : x1.toInt = x1z) (e_x2 : x2.toInt = x2z) (e_y1 : y1.toInt = y1z) (e_y2 : y2.toInt = y2z) (e_u0 : u0.toInt = u0z) (e_v0 : (aM v0) = v0z) (h_Q : ∀ (a0 : Int32) (a1 : MT), Qz a0.toInt (aM a1) → Q a0 a1) (h : ZJ_M_set_14 x1z x2z y1z y2z u0z v0z Qz) : PJ_M_set_14 x1 x2 y1 y2 u0 v0 Q := by
  subst e_x1
  subst e_x2
  subst e_y1
  subst e_y2
  subst e_u0
  subst e_v0
  unfold ZJ_M_set_14 at h
  unfold PJ_M_set_14
  refine z_M_refused rfl rfl (fun r6_ v10_ h => ?_) h
  refine ⟨fun c1q => ?_, fun c1q => ?_⟩
  · have h := h.1 ((zt_eq rfl rfl).mp c1q)
    refine z_M_remember rfl (fun v19_ h => ?_) h
    refine z_M_put rfl rfl rfl (fun r23_ v27_ h => ?_) h
    intro v32_ ev32_
    have h := h (aM v32_) (by rw [ev32_]; exact rfl)
    exact h_Q _ _ h
  · have h := h.2 (fun k => c1q ((zt_eq rfl rfl).mpr k))
    exact h_Q _ _ h
def Z_M_set (x1 : Int) (x2 : Int) (v0 : MZ) (Q : (Int → MZ → Prop)) : Prop := (Z_M_isSetting x1 x2 (fun r1_ => ((r1_ = 0 → (ZJ_M_set_14 x1 x2 x1 x2 1 v0 Q)) ∧ (¬ r1_ = 0 → (ZJ_M_set_14 x1 x2 x1 x2 0 v0 Q)))))
set_option maxRecDepth 100000 in
theorem z_M_set {x1 : Int32} {x1z : Int} {x2 : Int32} {x2z : Int} {v0 : MT} {v0z : MZ}  {Q : Int32 → MT → Prop} {Qz : (Int → MZ → Prop)} (e_x1 : x1.toInt = x1z) (e_x2 : x2.toInt = x2z) (e_v0 : (aM v0) = v0z) (h_Q : ∀ (a0 : Int32) (a1 : MT), Qz a0.toInt (aM a1) → Q a0 a1) (h : Z_M_set x1z x2z v0z Qz) : P_M_set x1 x2 v0 Q := by
  subst e_x1
  subst e_x2
  subst e_v0
  unfold Z_M_set at h
  unfold P_M_set
  refine z_M_isSetting rfl rfl (fun r1_ h => ?_) h
  refine ⟨fun c1q => ?_, fun c1q => ?_⟩
  · have h := h.1 ((zt_eq rfl rfl).mp c1q)
    refine zJ_M_set_14 rfl rfl rfl rfl rfl rfl h_Q h
  · have h := h.2 (fun k => c1q ((zt_eq rfl rfl).mpr k))
    refine zJ_M_set_14 rfl rfl rfl rfl rfl rfl h_Q h

def ZJ_M_ticks_18 (x1 : Int) (y1 : Int) (u0 : Int) (v0 : MZ) (Q : (Int → MZ → Prop)) : Prop := (Z_M_refused u0 v0 (fun r6_ v10_ => ((r6_ = 0 → (Z_M_remember v10_ (fun v19_ => (Z_M_goTicks y1 (Mz_now v19_) (fun r23_ v27_ => (∀ v32_, v32_ = (Mz_set_now v19_ v27_) → ((Q r23_ v32_)))))))) ∧ (¬ r6_ = 0 → (Q 0 v10_)))))
set_option maxRecDepth 100000 in
theorem zJ_M_ticks_18 {x1 : Int32} {x1z : Int} {y1 : Int32} {y1z : Int} {u0 : Int32} {u0z : Int} {v0 : MT} {v0z : MZ}  {Q : Int32 → MT → Prop} {Qz : (Int → MZ → Prop)} (e_x1 : x1.toInt = x1z) (e_y1 : y1.toInt = y1z) (e_u0 : u0.toInt = u0z) (e_v0 : (aM v0) = v0z) (h_Q : ∀ (a0 : Int32) (a1 : MT), Qz a0.toInt (aM a1) → Q a0 a1) (h : ZJ_M_ticks_18 x1z y1z u0z v0z Qz) : PJ_M_ticks_18 x1 y1 u0 v0 Q := by
  subst e_x1
  subst e_y1
  subst e_u0
  subst e_v0
  unfold ZJ_M_ticks_18 at h
  unfold PJ_M_ticks_18
  refine z_M_refused rfl rfl (fun r6_ v10_ h => ?_) h
  refine ⟨fun c1q => ?_, fun c1q => ?_⟩
  · have h := h.1 ((zt_eq rfl rfl).mp c1q)
    refine z_M_remember rfl (fun v19_ h => ?_) h
    refine z_M_goTicks rfl rfl (fun r23_ v27_ h => ?_) h
    intro v32_ ev32_
    have h := h (aM v32_) (by rw [ev32_]; exact rfl)
    exact h_Q _ _ h
  · have h := h.2 (fun k => c1q ((zt_eq rfl rfl).mpr k))
    exact h_Q _ _ h
def Z_M_ticks (x1 : Int) (v0 : MZ) (Q : (Int → MZ → Prop)) : Prop := (Z_M_in x1 1 99 (fun r1_ => ((r1_ = 0 → (ZJ_M_ticks_18 x1 x1 1 v0 Q)) ∧ (¬ r1_ = 0 → (ZJ_M_ticks_18 x1 x1 0 v0 Q)))))
set_option maxRecDepth 100000 in
theorem z_M_ticks {x1 : Int32} {x1z : Int} {v0 : MT} {v0z : MZ}  {Q : Int32 → MT → Prop} {Qz : (Int → MZ → Prop)} (e_x1 : x1.toInt = x1z) (e_v0 : (aM v0) = v0z) (h_Q : ∀ (a0 : Int32) (a1 : MT), Qz a0.toInt (aM a1) → Q a0 a1) (h : Z_M_ticks x1z v0z Qz) : P_M_ticks x1 v0 Q := by
  subst e_x1
  subst e_v0
  unfold Z_M_ticks at h
  unfold P_M_ticks
  refine z_M_in (show (Int32.toInt64 x1).toInt = (x1.toInt : Int) from (zt_i2l rfl)) rfl rfl (fun r1_ h => ?_) h
  refine ⟨fun c1q => ?_, fun c1q => ?_⟩
  · have h := h.1 ((zt_eq rfl rfl).mp c1q)
    refine zJ_M_ticks_18 rfl rfl rfl rfl h_Q h
  · have h := h.2 (fun k => c1q ((zt_eq rfl rfl).mpr k))
    refine zJ_M_ticks_18 rfl rfl rfl rfl h_Q h

def ZL_M_undo_33 : Nat → Int → MZ → (Int → MZ → Prop) → Prop
  | 0, _, _, _ => False
  | n + 1, y1, v0, Q => ((621 ≤ y1 → (Q (Mz_states v0) v0)) ∧ (¬ 621 ≤ y1 → zin (621 * (Mz_states v0)) ∧ zin ((621 * (Mz_states v0)) + y1) ∧ ((0 : Int) ≤ ((621 * (Mz_states v0)) + y1) ∧ (((621 * (Mz_states v0)) + y1) : Int) < 8694) ∧ (((0 : Int) ≤ y1 ∧ (y1 : Int) < 621) ∧ ((∀ v28_, v28_ = (Mz_set_now v0 (updz (Mz_now v0) (Int.toNat y1) (Mz_book v0 (Int.toNat ((621 * (Mz_states v0)) + y1))))) → (zin (y1 + 1) ∧ (ZL_M_undo_33 n (y1 + 1) v28_ Q)))))))
set_option maxRecDepth 100000 in
theorem zL_M_undo_33 (n : Nat) : ∀ {y1 : Int32} {y1z : Int} {v0 : MT} {v0z : MZ}  {Q : Int32 → MT → Prop} {Qz : (Int → MZ → Prop)} (e_y1 : y1.toInt = y1z) (e_v0 : (aM v0) = v0z) (h_Q : ∀ (a0 : Int32) (a1 : MT), Qz a0.toInt (aM a1) → Q a0 a1) (h : ZL_M_undo_33 n y1z v0z Qz), PL_M_undo_33 n y1 v0 Q := by
  induction n with
  | zero =>
    intro y1 y1z v0 v0z Q Qz e_y1 e_v0 h_Q h
    exact (h : False).elim
  | succ n ih =>
    intro y1 y1z v0 v0z Q Qz e_y1 e_v0 h_Q h
    subst e_y1
    subst e_v0
    rw [ZL_M_undo_33] at h
    rw [PL_M_undo_33]
    refine ⟨fun c6q => ?_, fun c6q => ?_⟩
    · have h := h.1 ((zt_le rfl rfl).mp c6q)
      exact h_Q _ _ h
    · have h := h.2 (fun k => c6q ((zt_le rfl rfl).mpr k))
      obtain ⟨o1q, h⟩ := h
      obtain ⟨o2q, h⟩ := h
      obtain ⟨i3q, h⟩ := h
      refine ⟨zt_in (show ((((621 * (M_states v0)) + y1) : Int32)).toInt = (((621 * (Mz_states (aM v0))) + y1.toInt) : Int) from (zt_add (show (((621 * (M_states v0)) : Int32)).toInt = ((621 * (Mz_states (aM v0))) : Int) from (zt_mul rfl rfl o1q)) rfl o2q)) i3q, ?_⟩
      obtain ⟨i4q, h⟩ := h
      refine ⟨zt_in rfl i4q, ?_⟩
      intro v28_ ev28_
      have h := h (aM v28_) (by rw [ev28_]; exact (show (aM (M_set_now v0 (upd (M_now v0) (Int32.toNatClampNeg y1) (M_book v0 (Int32.toNatClampNeg ((621 * (M_states v0)) + y1)))))) = (Mz_set_now (aM v0) (updz (Mz_now (aM v0)) (Int.toNat y1.toInt) (Mz_book (aM v0) (Int.toNat ((621 * (Mz_states (aM v0))) + y1.toInt))))) from (congrArg (fun k => Mz_set_now (aM v0) k) (show (aA (upd (M_now v0) (Int32.toNatClampNeg y1) (M_book v0 (Int32.toNatClampNeg ((621 * (M_states v0)) + y1))))) = (updz (Mz_now (aM v0)) (Int.toNat y1.toInt) (Mz_book (aM v0) (Int.toNat ((621 * (Mz_states (aM v0))) + y1.toInt)))) from (zt_upd rfl rfl (show (((M_book v0 (Int32.toNatClampNeg ((621 * (M_states v0)) + y1))) : Int32)).toInt = ((Mz_book (aM v0) (Int.toNat ((621 * (Mz_states (aM v0))) + y1.toInt))) : Int) from (congrArg (fun k => Mz_book (aM v0) k) (show (Int32.toNatClampNeg ((621 * (M_states v0)) + y1)) = (Int.toNat ((621 * (Mz_states (aM v0))) + y1.toInt)) from (congrArg Int.toNat (show ((((621 * (M_states v0)) + y1) : Int32)).toInt = (((621 * (Mz_states (aM v0))) + y1.toInt) : Int) from (zt_add (show (((621 * (M_states v0)) : Int32)).toInt = ((621 * (Mz_states (aM v0))) : Int) from (zt_mul rfl rfl o1q)) rfl o2q)))))))))))
      obtain ⟨o5q, h⟩ := h
      refine ih (show (((y1 + 1) : Int32)).toInt = ((y1.toInt + 1) : Int) from (zt_add rfl rfl o5q)) rfl h_Q h
def ZJ_M_undo_13 (u0 : Int) (v0 : MZ) (Q : (Int → MZ → Prop)) : Prop := (Z_M_refused u0 v0 (fun r2_ v6_ => ((r2_ = 0 → zin ((Mz_states v6_) - 1) ∧ (∀ v16_, v16_ = (Mz_set_states v6_ ((Mz_states v6_) - 1)) → ((∃ n31_, (ZL_M_undo_33 n31_ 0 v16_ Q))))) ∧ (¬ r2_ = 0 → (Q 0 v6_)))))
set_option maxRecDepth 100000 in
theorem zJ_M_undo_13 {u0 : Int32} {u0z : Int} {v0 : MT} {v0z : MZ}  {Q : Int32 → MT → Prop} {Qz : (Int → MZ → Prop)} (e_u0 : u0.toInt = u0z) (e_v0 : (aM v0) = v0z) (h_Q : ∀ (a0 : Int32) (a1 : MT), Qz a0.toInt (aM a1) → Q a0 a1) (h : ZJ_M_undo_13 u0z v0z Qz) : PJ_M_undo_13 u0 v0 Q := by
  subst e_u0
  subst e_v0
  unfold ZJ_M_undo_13 at h
  unfold PJ_M_undo_13
  refine z_M_refused rfl rfl (fun r2_ v6_ h => ?_) h
  refine ⟨fun c2q => ?_, fun c2q => ?_⟩
  · have h := h.1 ((zt_eq rfl rfl).mp c2q)
    obtain ⟨o1q, h⟩ := h
    intro v16_ ev16_
    have h := h (aM v16_) (by rw [ev16_]; exact (show (aM (M_set_states v6_ ((M_states v6_) - 1))) = (Mz_set_states (aM v6_) ((Mz_states (aM v6_)) - 1)) from (congrArg (fun k => Mz_set_states (aM v6_) k) (show ((((M_states v6_) - 1) : Int32)).toInt = (((Mz_states (aM v6_)) - 1) : Int) from (zt_sub rfl rfl o1q)))))
    obtain ⟨n31_, h⟩ := h
    refine ⟨n31_, ?_⟩
    refine zL_M_undo_33 n31_ rfl rfl h_Q h
  · have h := h.2 (fun k => c2q ((zt_eq rfl rfl).mpr k))
    exact h_Q _ _ h
def Z_M_undo (v0 : MZ) (Q : (Int → MZ → Prop)) : Prop := ((¬ (Mz_states v0) = 0 → (ZJ_M_undo_13 0 v0 Q)) ∧ ((Mz_states v0) = 0 → (ZJ_M_undo_13 1 v0 Q)))
set_option maxRecDepth 100000 in
theorem z_M_undo {v0 : MT} {v0z : MZ}  {Q : Int32 → MT → Prop} {Qz : (Int → MZ → Prop)} (e_v0 : (aM v0) = v0z) (h_Q : ∀ (a0 : Int32) (a1 : MT), Qz a0.toInt (aM a1) → Q a0 a1) (h : Z_M_undo v0z Qz) : P_M_undo v0 Q := by
  subst e_v0
  unfold Z_M_undo at h
  unfold P_M_undo
  refine ⟨fun c1q => ?_, fun c1q => ?_⟩
  · have h := h.1 (fun k => c1q ((zt_eq rfl rfl).mpr k))
    refine zJ_M_undo_13 rfl rfl h_Q h
  · have h := h.2 ((zt_eq rfl rfl).mp c1q)
    refine zJ_M_undo_13 rfl rfl h_Q h

def Z_M_why (v0 : MZ) (Q : (Int → MZ → Prop)) : Prop := (∀ v6_, v6_ = (Mz_set_refusal v0 0) → ((Z_M_whyStays (Mz_now v6_) (fun r9_ => (Q r9_ v6_)))))
set_option maxRecDepth 100000 in
theorem z_M_why {v0 : MT} {v0z : MZ}  {Q : Int32 → MT → Prop} {Qz : (Int → MZ → Prop)} (e_v0 : (aM v0) = v0z) (h_Q : ∀ (a0 : Int32) (a1 : MT), Qz a0.toInt (aM a1) → Q a0 a1) (h : Z_M_why v0z Qz) : P_M_why v0 Q := by
  subst e_v0
  unfold Z_M_why at h
  unfold P_M_why
  intro v6_ ev6_
  have h := h (aM v6_) (by rw [ev6_]; exact rfl)
  refine z_M_whyStays rfl (fun r9_ h => ?_) h
  exact h_Q _ _ h

def ZJ_M_slowest_46 (y1 : Int) (y2 : Int) (u0 : Int) (v0 : MZ) (K9 : (Int → Int → MZ → Prop)) (Q : (Int → MZ → Prop)) : Prop := ((u0 = 0 → zin (y2 + 1) ∧ (K9 y1 (y2 + 1) v0)) ∧ (¬ u0 = 0 → ((y1 = (-1) → zin (y2 + 1) ∧ (K9 y2 (y2 + 1) v0)) ∧ (¬ y1 = (-1) → (Z_M_reader y2 (fun r17_ => zin (r17_ + 1) ∧ ((0 : Int) ≤ (r17_ + 1) ∧ ((r17_ + 1) : Int) < 621) ∧ ((Z_M_reader y1 (fun r22_ => zin (r22_ + 1) ∧ ((0 : Int) ≤ (r22_ + 1) ∧ ((r22_ + 1) : Int) < 621) ∧ ((((Mz_now v0 (Int.toNat (r22_ + 1))) ≤ (Mz_now v0 (Int.toNat (r17_ + 1))) → zin (y2 + 1) ∧ (K9 y1 (y2 + 1) v0)) ∧ (¬ (Mz_now v0 (Int.toNat (r22_ + 1))) ≤ (Mz_now v0 (Int.toNat (r17_ + 1))) → zin (y2 + 1) ∧ (K9 y2 (y2 + 1) v0)))))))))))))
set_option maxRecDepth 100000 in
theorem zJ_M_slowest_46 {y1 : Int32} {y1z : Int} {y2 : Int32} {y2z : Int} {u0 : Int32} {u0z : Int} {v0 : MT} {v0z : MZ}  {K9 : Int32 → Int32 → MT → Prop} {K9z : (Int → Int → MZ → Prop)} {Q : Int32 → MT → Prop} {Qz : (Int → MZ → Prop)} (e_y1 : y1.toInt = y1z) (e_y2 : y2.toInt = y2z) (e_u0 : u0.toInt = u0z) (e_v0 : (aM v0) = v0z) (h_K9 : ∀ (a0 : Int32) (a1 : Int32) (a2 : MT), K9z a0.toInt a1.toInt (aM a2) → K9 a0 a1 a2) (h_Q : ∀ (a0 : Int32) (a1 : MT), Qz a0.toInt (aM a1) → Q a0 a1) (h : ZJ_M_slowest_46 y1z y2z u0z v0z K9z Qz) : PJ_M_slowest_46 y1 y2 u0 v0 K9 Q := by
  subst e_y1
  subst e_y2
  subst e_u0
  subst e_v0
  unfold ZJ_M_slowest_46 at h
  unfold PJ_M_slowest_46
  refine ⟨fun c11q => ?_, fun c11q => ?_⟩
  · have h := h.1 ((zt_eq rfl rfl).mp c11q)
    obtain ⟨o1q, h⟩ := h
    exact h_K9 _ _ _ (Eq.mpr (congrArg (fun k => K9z y1.toInt k (aM v0)) (show (((y2 + 1) : Int32)).toInt = ((y2.toInt + 1) : Int) from (zt_add rfl rfl o1q))) h)
  · have h := h.2 (fun k => c11q ((zt_eq rfl rfl).mpr k))
    refine ⟨fun c10q => ?_, fun c10q => ?_⟩
    · have h := h.1 ((zt_eq rfl rfl).mp c10q)
      obtain ⟨o2q, h⟩ := h
      exact h_K9 _ _ _ (Eq.mpr (congrArg (fun k => K9z y2.toInt k (aM v0)) (show (((y2 + 1) : Int32)).toInt = ((y2.toInt + 1) : Int) from (zt_add rfl rfl o2q))) h)
    · have h := h.2 (fun k => c10q ((zt_eq rfl rfl).mpr k))
      refine z_M_reader rfl (fun r17_ h => ?_) h
      obtain ⟨o3q, h⟩ := h
      obtain ⟨i4q, h⟩ := h
      refine ⟨zt_in (show (((r17_ + 1) : Int32)).toInt = ((r17_.toInt + 1) : Int) from (zt_add rfl rfl o3q)) i4q, ?_⟩
      refine z_M_reader rfl (fun r22_ h => ?_) h
      obtain ⟨o5q, h⟩ := h
      obtain ⟨i6q, h⟩ := h
      refine ⟨zt_in (show (((r22_ + 1) : Int32)).toInt = ((r22_.toInt + 1) : Int) from (zt_add rfl rfl o5q)) i6q, ?_⟩
      refine ⟨fun c9q => ?_, fun c9q => ?_⟩
      · have h := h.1 ((zt_le (show (((M_now v0 (Int32.toNatClampNeg (r22_ + 1))) : Int32)).toInt = ((Mz_now (aM v0) (Int.toNat (r22_.toInt + 1))) : Int) from (congrArg (fun k => Mz_now (aM v0) k) (show (Int32.toNatClampNeg (r22_ + 1)) = (Int.toNat (r22_.toInt + 1)) from (congrArg Int.toNat (show (((r22_ + 1) : Int32)).toInt = ((r22_.toInt + 1) : Int) from (zt_add rfl rfl o5q)))))) (show (((M_now v0 (Int32.toNatClampNeg (r17_ + 1))) : Int32)).toInt = ((Mz_now (aM v0) (Int.toNat (r17_.toInt + 1))) : Int) from (congrArg (fun k => Mz_now (aM v0) k) (show (Int32.toNatClampNeg (r17_ + 1)) = (Int.toNat (r17_.toInt + 1)) from (congrArg Int.toNat (show (((r17_ + 1) : Int32)).toInt = ((r17_.toInt + 1) : Int) from (zt_add rfl rfl o3q))))))).mp c9q)
        obtain ⟨o7q, h⟩ := h
        exact h_K9 _ _ _ (Eq.mpr (congrArg (fun k => K9z y1.toInt k (aM v0)) (show (((y2 + 1) : Int32)).toInt = ((y2.toInt + 1) : Int) from (zt_add rfl rfl o7q))) h)
      · have h := h.2 (fun k => c9q ((zt_le (show (((M_now v0 (Int32.toNatClampNeg (r22_ + 1))) : Int32)).toInt = ((Mz_now (aM v0) (Int.toNat (r22_.toInt + 1))) : Int) from (congrArg (fun k => Mz_now (aM v0) k) (show (Int32.toNatClampNeg (r22_ + 1)) = (Int.toNat (r22_.toInt + 1)) from (congrArg Int.toNat (show (((r22_ + 1) : Int32)).toInt = ((r22_.toInt + 1) : Int) from (zt_add rfl rfl o5q)))))) (show (((M_now v0 (Int32.toNatClampNeg (r17_ + 1))) : Int32)).toInt = ((Mz_now (aM v0) (Int.toNat (r17_.toInt + 1))) : Int) from (congrArg (fun k => Mz_now (aM v0) k) (show (Int32.toNatClampNeg (r17_ + 1)) = (Int.toNat (r17_.toInt + 1)) from (congrArg Int.toNat (show (((r17_ + 1) : Int32)).toInt = ((r17_.toInt + 1) : Int) from (zt_add rfl rfl o3q))))))).mpr k))
        obtain ⟨o8q, h⟩ := h
        exact h_K9 _ _ _ (Eq.mpr (congrArg (fun k => K9z y2.toInt k (aM v0)) (show (((y2 + 1) : Int32)).toInt = ((y2.toInt + 1) : Int) from (zt_add rfl rfl o8q))) h)
def ZJ_M_slowest_45 (y1 : Int) (y2 : Int) (v0 : MZ) (K9 : (Int → Int → MZ → Prop)) (Q : (Int → MZ → Prop)) : Prop := (ZJ_M_slowest_46 y1 y2 0 v0 (fun a0 a1 w0 => (K9 a0 a1 w0)) Q)
set_option maxRecDepth 100000 in
theorem zJ_M_slowest_45 {y1 : Int32} {y1z : Int} {y2 : Int32} {y2z : Int} {v0 : MT} {v0z : MZ}  {K9 : Int32 → Int32 → MT → Prop} {K9z : (Int → Int → MZ → Prop)} {Q : Int32 → MT → Prop} {Qz : (Int → MZ → Prop)} (e_y1 : y1.toInt = y1z) (e_y2 : y2.toInt = y2z) (e_v0 : (aM v0) = v0z) (h_K9 : ∀ (a0 : Int32) (a1 : Int32) (a2 : MT), K9z a0.toInt a1.toInt (aM a2) → K9 a0 a1 a2) (h_Q : ∀ (a0 : Int32) (a1 : MT), Qz a0.toInt (aM a1) → Q a0 a1) (h : ZJ_M_slowest_45 y1z y2z v0z K9z Qz) : PJ_M_slowest_45 y1 y2 v0 K9 Q := by
  subst e_y1
  subst e_y2
  subst e_v0
  unfold ZJ_M_slowest_45 at h
  unfold PJ_M_slowest_45
  refine zJ_M_slowest_46 rfl rfl rfl rfl (fun a0 a1 w0 h => ?_) h_Q h
  exact h_K9 _ _ _ h
def ZL_M_slowest_9 : Nat → Int → Int → MZ → (Int → MZ → Prop) → Prop
  | 0, _, _, _, _ => False
  | n + 1, y1, y2, v0, Q => ((8 ≤ y2 → (Q y1 v0)) ∧ (¬ 8 ≤ y2 → (Z_M_isReader y2 (Mz_now v0) (fun r10_ => ((r10_ = 0 → (ZJ_M_slowest_45 y1 y2 v0 (fun a0 a1 w0 => (ZL_M_slowest_9 n a0 a1 w0 Q)) Q)) ∧ (¬ r10_ = 0 → (Z_M_reader y2 (fun r28_ => zin (r28_ + 2) ∧ ((0 : Int) ≤ (r28_ + 2) ∧ ((r28_ + 2) : Int) < 621) ∧ (((¬ (Mz_now v0 (Int.toNat (r28_ + 2))) = 1 → (ZJ_M_slowest_45 y1 y2 v0 (fun a0 a1 w0 => (ZL_M_slowest_9 n a0 a1 w0 Q)) Q)) ∧ ((Mz_now v0 (Int.toNat (r28_ + 2))) = 1 → (ZJ_M_slowest_46 y1 y2 1 v0 (fun a0 a1 w0 => (ZL_M_slowest_9 n a0 a1 w0 Q)) Q))))))))))))
set_option maxRecDepth 100000 in
theorem zL_M_slowest_9 (n : Nat) : ∀ {y1 : Int32} {y1z : Int} {y2 : Int32} {y2z : Int} {v0 : MT} {v0z : MZ}  {Q : Int32 → MT → Prop} {Qz : (Int → MZ → Prop)} (e_y1 : y1.toInt = y1z) (e_y2 : y2.toInt = y2z) (e_v0 : (aM v0) = v0z) (h_Q : ∀ (a0 : Int32) (a1 : MT), Qz a0.toInt (aM a1) → Q a0 a1) (h : ZL_M_slowest_9 n y1z y2z v0z Qz), PL_M_slowest_9 n y1 y2 v0 Q := by
  induction n with
  | zero =>
    intro y1 y1z y2 y2z v0 v0z Q Qz e_y1 e_y2 e_v0 h_Q h
    exact (h : False).elim
  | succ n ih =>
    intro y1 y1z y2 y2z v0 v0z Q Qz e_y1 e_y2 e_v0 h_Q h
    subst e_y1
    subst e_y2
    subst e_v0
    rw [ZL_M_slowest_9] at h
    rw [PL_M_slowest_9]
    refine ⟨fun c5q => ?_, fun c5q => ?_⟩
    · have h := h.1 ((zt_le rfl rfl).mp c5q)
      exact h_Q _ _ h
    · have h := h.2 (fun k => c5q ((zt_le rfl rfl).mpr k))
      refine z_M_isReader rfl rfl (fun r10_ h => ?_) h
      refine ⟨fun c4q => ?_, fun c4q => ?_⟩
      · have h := h.1 ((zt_eq rfl rfl).mp c4q)
        refine zJ_M_slowest_45 rfl rfl rfl (fun a0 a1 w0 h => ?_) h_Q h
        refine ih rfl rfl rfl h_Q h
      · have h := h.2 (fun k => c4q ((zt_eq rfl rfl).mpr k))
        refine z_M_reader rfl (fun r28_ h => ?_) h
        obtain ⟨o1q, h⟩ := h
        obtain ⟨i2q, h⟩ := h
        refine ⟨zt_in (show (((r28_ + 2) : Int32)).toInt = ((r28_.toInt + 2) : Int) from (zt_add rfl rfl o1q)) i2q, ?_⟩
        refine ⟨fun c3q => ?_, fun c3q => ?_⟩
        · have h := h.1 (fun k => c3q ((zt_eq (show (((M_now v0 (Int32.toNatClampNeg (r28_ + 2))) : Int32)).toInt = ((Mz_now (aM v0) (Int.toNat (r28_.toInt + 2))) : Int) from (congrArg (fun k => Mz_now (aM v0) k) (show (Int32.toNatClampNeg (r28_ + 2)) = (Int.toNat (r28_.toInt + 2)) from (congrArg Int.toNat (show (((r28_ + 2) : Int32)).toInt = ((r28_.toInt + 2) : Int) from (zt_add rfl rfl o1q)))))) rfl).mpr k))
          refine zJ_M_slowest_45 rfl rfl rfl (fun a0 a1 w0 h => ?_) h_Q h
          refine ih rfl rfl rfl h_Q h
        · have h := h.2 ((zt_eq (show (((M_now v0 (Int32.toNatClampNeg (r28_ + 2))) : Int32)).toInt = ((Mz_now (aM v0) (Int.toNat (r28_.toInt + 2))) : Int) from (congrArg (fun k => Mz_now (aM v0) k) (show (Int32.toNatClampNeg (r28_ + 2)) = (Int.toNat (r28_.toInt + 2)) from (congrArg Int.toNat (show (((r28_ + 2) : Int32)).toInt = ((r28_.toInt + 2) : Int) from (zt_add rfl rfl o1q)))))) rfl).mp c3q)
          refine zJ_M_slowest_46 rfl rfl rfl rfl (fun a0 a1 w0 h => ?_) h_Q h
          refine ih rfl rfl rfl h_Q h
def Z_M_slowest (v0 : MZ) (Q : (Int → MZ → Prop)) : Prop := (∀ v6_, v6_ = (Mz_set_refusal v0 0) → ((∃ n34_, (ZL_M_slowest_9 n34_ (-1) 0 v6_ Q))))
set_option maxRecDepth 100000 in
theorem z_M_slowest {v0 : MT} {v0z : MZ}  {Q : Int32 → MT → Prop} {Qz : (Int → MZ → Prop)} (e_v0 : (aM v0) = v0z) (h_Q : ∀ (a0 : Int32) (a1 : MT), Qz a0.toInt (aM a1) → Q a0 a1) (h : Z_M_slowest v0z Qz) : P_M_slowest v0 Q := by
  subst e_v0
  unfold Z_M_slowest at h
  unfold P_M_slowest
  intro v6_ ev6_
  have h := h (aM v6_) (by rw [ev6_]; exact rfl)
  obtain ⟨n34_, h⟩ := h
  refine ⟨n34_, ?_⟩
  refine zL_M_slowest_9 n34_ rfl rfl rfl h_Q h

def ZJ_M_truth_53 (x1 : Int) (x2 : Int) (x3 : Int) (y1 : Int) (y2 : Int) (y3 : Int) (u0 : Int) (v0 : MZ) (Q : (Int → MZ → Prop)) : Prop := (Z_M_refused u0 v0 (fun r13_ v17_ => ((r13_ = 0 → ((¬ y3 = 0 → (Z_M_toldBack y1 y2 (Mz_now v17_) (fun r23_ => (Q r23_ v17_)))) ∧ (y3 = 0 → (Z_M_told y1 y2 (Mz_now v17_) (fun r27_ => (Q r27_ v17_)))))) ∧ (¬ r13_ = 0 → (Q 0 v17_)))))
set_option maxRecDepth 100000 in
theorem zJ_M_truth_53 {x1 : Int32} {x1z : Int} {x2 : Int32} {x2z : Int} {x3 : Int32} {x3z : Int} {y1 : Int32} {y1z : Int} {y2 : Int32} {y2z : Int} {y3 : Int32} {y3z : Int} {u0 : Int32} {u0z : Int} {v0 : MT} {v0z : MZ}  {Q : Int32 → MT → Prop} {Qz : (Int → MZ → Prop)} (e_x1 : x1.toInt = x1z) (e_x2 : x2.toInt = x2z) (e_x3 : x3.toInt = x3z) (e_y1 : y1.toInt = y1z) (e_y2 : y2.toInt = y2z) (e_y3 : y3.toInt = y3z) (e_u0 : u0.toInt = u0z) (e_v0 : (aM v0) = v0z) (h_Q : ∀ (a0 : Int32) (a1 : MT), Qz a0.toInt (aM a1) → Q a0 a1) (h : ZJ_M_truth_53 x1z x2z x3z y1z y2z y3z u0z v0z Qz) : PJ_M_truth_53 x1 x2 x3 y1 y2 y3 u0 v0 Q := by
  subst e_x1
  subst e_x2
  subst e_x3
  subst e_y1
  subst e_y2
  subst e_y3
  subst e_u0
  subst e_v0
  unfold ZJ_M_truth_53 at h
  unfold PJ_M_truth_53
  refine z_M_refused rfl rfl (fun r13_ v17_ h => ?_) h
  refine ⟨fun c2q => ?_, fun c2q => ?_⟩
  · have h := h.1 ((zt_eq rfl rfl).mp c2q)
    refine ⟨fun c1q => ?_, fun c1q => ?_⟩
    · have h := h.1 (fun k => c1q ((zt_eq rfl rfl).mpr k))
      refine z_M_toldBack rfl rfl rfl (fun r23_ h => ?_) h
      exact h_Q _ _ h
    · have h := h.2 ((zt_eq rfl rfl).mp c1q)
      refine z_M_told rfl rfl rfl (fun r27_ h => ?_) h
      exact h_Q _ _ h
  · have h := h.2 (fun k => c2q ((zt_eq rfl rfl).mpr k))
    exact h_Q _ _ h
def ZJ_M_truth_48 (x1 : Int) (x2 : Int) (x3 : Int) (y1 : Int) (y2 : Int) (y3 : Int) (v0 : MZ) (Q : (Int → MZ → Prop)) : Prop := (ZJ_M_truth_53 x1 x2 x3 y1 y2 y3 2 v0 Q)
set_option maxRecDepth 100000 in
theorem zJ_M_truth_48 {x1 : Int32} {x1z : Int} {x2 : Int32} {x2z : Int} {x3 : Int32} {x3z : Int} {y1 : Int32} {y1z : Int} {y2 : Int32} {y2z : Int} {y3 : Int32} {y3z : Int} {v0 : MT} {v0z : MZ}  {Q : Int32 → MT → Prop} {Qz : (Int → MZ → Prop)} (e_x1 : x1.toInt = x1z) (e_x2 : x2.toInt = x2z) (e_x3 : x3.toInt = x3z) (e_y1 : y1.toInt = y1z) (e_y2 : y2.toInt = y2z) (e_y3 : y3.toInt = y3z) (e_v0 : (aM v0) = v0z) (h_Q : ∀ (a0 : Int32) (a1 : MT), Qz a0.toInt (aM a1) → Q a0 a1) (h : ZJ_M_truth_48 x1z x2z x3z y1z y2z y3z v0z Qz) : PJ_M_truth_48 x1 x2 x3 y1 y2 y3 v0 Q := by
  subst e_x1
  subst e_x2
  subst e_x3
  subst e_y1
  subst e_y2
  subst e_y3
  subst e_v0
  unfold ZJ_M_truth_48 at h
  unfold PJ_M_truth_48
  refine zJ_M_truth_53 rfl rfl rfl rfl rfl rfl rfl rfl h_Q h
def Z_M_truth (x1 : Int) (x2 : Int) (x3 : Int) (v0 : MZ) (Q : (Int → MZ → Prop)) : Prop := ((0 : Int) ≤ 400 ∧ (400 : Int) < 621) ∧ (((0 : Int) ≤ 401 ∧ (401 : Int) < 621) ∧ ((Z_M_in x2 (Mz_now v0 (Int.toNat 400)) (Mz_now v0 (Int.toNat 401)) (fun r3_ => ((¬ r3_ = 0 → (Z_M_isKey x1 (fun r8_ => ((r8_ = 0 → (ZJ_M_truth_48 x1 x2 x3 x1 x2 x3 v0 Q)) ∧ (¬ r8_ = 0 → (Z_M_in x3 0 1 (fun r31_ => ((¬ r31_ = 0 → (ZJ_M_truth_53 x1 x2 x3 x1 x2 x3 0 v0 Q)) ∧ (r31_ = 0 → (ZJ_M_truth_48 x1 x2 x3 x1 x2 x3 v0 Q)))))))))) ∧ (r3_ = 0 → (ZJ_M_truth_53 x1 x2 x3 x1 x2 x3 1 v0 Q)))))))
set_option maxRecDepth 100000 in
theorem z_M_truth {x1 : Int32} {x1z : Int} {x2 : Int32} {x2z : Int} {x3 : Int32} {x3z : Int} {v0 : MT} {v0z : MZ}  {Q : Int32 → MT → Prop} {Qz : (Int → MZ → Prop)} (e_x1 : x1.toInt = x1z) (e_x2 : x2.toInt = x2z) (e_x3 : x3.toInt = x3z) (e_v0 : (aM v0) = v0z) (h_Q : ∀ (a0 : Int32) (a1 : MT), Qz a0.toInt (aM a1) → Q a0 a1) (h : Z_M_truth x1z x2z x3z v0z Qz) : P_M_truth x1 x2 x3 v0 Q := by
  subst e_x1
  subst e_x2
  subst e_x3
  subst e_v0
  unfold Z_M_truth at h
  unfold P_M_truth
  obtain ⟨i1q, h⟩ := h
  refine ⟨zt_in (show (400 : Int32).toInt = 400 from by decide) i1q, ?_⟩
  obtain ⟨i2q, h⟩ := h
  refine ⟨zt_in (show (401 : Int32).toInt = 401 from by decide) i2q, ?_⟩
  refine z_M_in (show (Int32.toInt64 x2).toInt = (x2.toInt : Int) from (zt_i2l rfl)) (show (Int32.toInt64 (M_now v0 (Int32.toNatClampNeg 400))).toInt = ((Mz_now (aM v0) (Int.toNat 400)) : Int) from (zt_i2l rfl)) (show (Int32.toInt64 (M_now v0 (Int32.toNatClampNeg 401))).toInt = ((Mz_now (aM v0) (Int.toNat 401)) : Int) from (zt_i2l rfl)) (fun r3_ h => ?_) h
  refine ⟨fun c5q => ?_, fun c5q => ?_⟩
  · have h := h.1 (fun k => c5q ((zt_eq rfl rfl).mpr k))
    refine z_M_isKey rfl (fun r8_ h => ?_) h
    refine ⟨fun c4q => ?_, fun c4q => ?_⟩
    · have h := h.1 ((zt_eq rfl rfl).mp c4q)
      refine zJ_M_truth_48 rfl rfl rfl rfl rfl rfl rfl h_Q h
    · have h := h.2 (fun k => c4q ((zt_eq rfl rfl).mpr k))
      refine z_M_in (show (Int32.toInt64 x3).toInt = (x3.toInt : Int) from (zt_i2l rfl)) rfl rfl (fun r31_ h => ?_) h
      refine ⟨fun c3q => ?_, fun c3q => ?_⟩
      · have h := h.1 (fun k => c3q ((zt_eq rfl rfl).mpr k))
        refine zJ_M_truth_53 rfl rfl rfl rfl rfl rfl rfl rfl h_Q h
      · have h := h.2 ((zt_eq rfl rfl).mp c3q)
        refine zJ_M_truth_48 rfl rfl rfl rfl rfl rfl rfl h_Q h
  · have h := h.2 ((zt_eq rfl rfl).mp c5q)
    refine zJ_M_truth_53 rfl rfl rfl rfl rfl rfl rfl rfl h_Q h

def ZL_M_droppedIn_18 : Nat → Int → MZ → (Int → MZ → Prop) → Prop
  | 0, _, _, _ => False
  | n + 1, y1, v0, Q => ((300 < y1 → (Q (-1) v0)) ∧ (¬ 300 < y1 → (Z_M_tick (Mz_trial v0) (fun v26_ => (∀ v31_, v31_ = (Mz_set_trial v0 v26_) → (((0 : Int) ≤ 617 ∧ (617 : Int) < 621) ∧ (((0 : Int) ≤ 617 ∧ (617 : Int) < 621) ∧ ((((Mz_trial v31_ (Int.toNat 617)) ≤ (Mz_now v31_ (Int.toNat 617)) → zin (y1 + 1) ∧ (ZL_M_droppedIn_18 n (y1 + 1) v31_ Q)) ∧ (¬ (Mz_trial v31_ (Int.toNat 617)) ≤ (Mz_now v31_ (Int.toNat 617)) → (Q y1 v31_)))))))))))
set_option maxRecDepth 100000 in
theorem zL_M_droppedIn_18 (n : Nat) : ∀ {y1 : Int32} {y1z : Int} {v0 : MT} {v0z : MZ}  {Q : Int32 → MT → Prop} {Qz : (Int → MZ → Prop)} (e_y1 : y1.toInt = y1z) (e_v0 : (aM v0) = v0z) (h_Q : ∀ (a0 : Int32) (a1 : MT), Qz a0.toInt (aM a1) → Q a0 a1) (h : ZL_M_droppedIn_18 n y1z v0z Qz), PL_M_droppedIn_18 n y1 v0 Q := by
  induction n with
  | zero =>
    intro y1 y1z v0 v0z Q Qz e_y1 e_v0 h_Q h
    exact (h : False).elim
  | succ n ih =>
    intro y1 y1z v0 v0z Q Qz e_y1 e_v0 h_Q h
    subst e_y1
    subst e_v0
    rw [ZL_M_droppedIn_18] at h
    rw [PL_M_droppedIn_18]
    refine ⟨fun c5q => ?_, fun c5q => ?_⟩
    · have h := h.1 ((zt_lt rfl rfl).mp c5q)
      exact h_Q _ _ h
    · have h := h.2 (fun k => c5q ((zt_lt rfl rfl).mpr k))
      refine z_M_tick rfl (fun v26_ h => ?_) h
      intro v31_ ev31_
      have h := h (aM v31_) (by rw [ev31_]; exact rfl)
      obtain ⟨i1q, h⟩ := h
      refine ⟨zt_in (show (617 : Int32).toInt = 617 from by decide) i1q, ?_⟩
      obtain ⟨i2q, h⟩ := h
      refine ⟨zt_in (show (617 : Int32).toInt = 617 from by decide) i2q, ?_⟩
      refine ⟨fun c4q => ?_, fun c4q => ?_⟩
      · have h := h.1 ((zt_le rfl rfl).mp c4q)
        obtain ⟨o3q, h⟩ := h
        refine ih (show (((y1 + 1) : Int32)).toInt = ((y1.toInt + 1) : Int) from (zt_add rfl rfl o3q)) rfl h_Q h
      · have h := h.2 (fun k => c4q ((zt_le rfl rfl).mpr k))
        exact h_Q _ _ h
def Z_M_droppedIn (v0 : MZ) (Q : (Int → MZ → Prop)) : Prop := (∀ v6_, v6_ = (Mz_set_refusal v0 0) → ((Z_M_copy (Mz_now v6_) (Mz_trial v6_) (fun v13_ => (∀ v18_, v18_ = (Mz_set_trial v6_ v13_) → ((∃ n37_, (ZL_M_droppedIn_18 n37_ 1 v18_ Q))))))))
set_option maxRecDepth 100000 in
theorem z_M_droppedIn {v0 : MT} {v0z : MZ}  {Q : Int32 → MT → Prop} {Qz : (Int → MZ → Prop)} (e_v0 : (aM v0) = v0z) (h_Q : ∀ (a0 : Int32) (a1 : MT), Qz a0.toInt (aM a1) → Q a0 a1) (h : Z_M_droppedIn v0z Qz) : P_M_droppedIn v0 Q := by
  subst e_v0
  unfold Z_M_droppedIn at h
  unfold P_M_droppedIn
  intro v6_ ev6_
  have h := h (aM v6_) (by rw [ev6_]; exact rfl)
  refine z_M_copy rfl rfl (fun v13_ h => ?_) h
  intro v18_ ev18_
  have h := h (aM v18_) (by rw [ev18_]; exact rfl)
  obtain ⟨n37_, h⟩ := h
  refine ⟨n37_, ?_⟩
  refine zL_M_droppedIn_18 n37_ rfl rfl h_Q h

def ZL_M_lostIn_54 : Nat → Int → Int → Int → MZ → (Int → MZ → Prop) → Prop
  | 0, _, _, _, _, _ => False
  | n + 1, x1, y1, y2, v0, Q => ((300 < y2 → (Q (-1) v0)) ∧ (¬ 300 < y2 → (Z_M_tick (Mz_trial v0) (fun v38_ => (∀ v43_, v43_ = (Mz_set_trial v0 v38_) → ((Z_M_reader y1 (fun r46_ => zin (r46_ + 2) ∧ ((0 : Int) ≤ (r46_ + 2) ∧ ((r46_ + 2) : Int) < 621) ∧ (((¬ (Mz_trial v43_ (Int.toNat (r46_ + 2))) = 0 → zin (y2 + 1) ∧ (ZL_M_lostIn_54 n x1 y1 (y2 + 1) v43_ Q)) ∧ ((Mz_trial v43_ (Int.toNat (r46_ + 2))) = 0 → (Q y2 v43_))))))))))))
set_option maxRecDepth 100000 in
theorem zL_M_lostIn_54 (n : Nat) : ∀ {x1 : Int32} {x1z : Int} {y1 : Int32} {y1z : Int} {y2 : Int32} {y2z : Int} {v0 : MT} {v0z : MZ}  {Q : Int32 → MT → Prop} {Qz : (Int → MZ → Prop)} (e_x1 : x1.toInt = x1z) (e_y1 : y1.toInt = y1z) (e_y2 : y2.toInt = y2z) (e_v0 : (aM v0) = v0z) (h_Q : ∀ (a0 : Int32) (a1 : MT), Qz a0.toInt (aM a1) → Q a0 a1) (h : ZL_M_lostIn_54 n x1z y1z y2z v0z Qz), PL_M_lostIn_54 n x1 y1 y2 v0 Q := by
  induction n with
  | zero =>
    intro x1 x1z y1 y1z y2 y2z v0 v0z Q Qz e_x1 e_y1 e_y2 e_v0 h_Q h
    exact (h : False).elim
  | succ n ih =>
    intro x1 x1z y1 y1z y2 y2z v0 v0z Q Qz e_x1 e_y1 e_y2 e_v0 h_Q h
    subst e_x1
    subst e_y1
    subst e_y2
    subst e_v0
    rw [ZL_M_lostIn_54] at h
    rw [PL_M_lostIn_54]
    refine ⟨fun c5q => ?_, fun c5q => ?_⟩
    · have h := h.1 ((zt_lt rfl rfl).mp c5q)
      exact h_Q _ _ h
    · have h := h.2 (fun k => c5q ((zt_lt rfl rfl).mpr k))
      refine z_M_tick rfl (fun v38_ h => ?_) h
      intro v43_ ev43_
      have h := h (aM v43_) (by rw [ev43_]; exact rfl)
      refine z_M_reader rfl (fun r46_ h => ?_) h
      obtain ⟨o1q, h⟩ := h
      obtain ⟨i2q, h⟩ := h
      refine ⟨zt_in (show (((r46_ + 2) : Int32)).toInt = ((r46_.toInt + 2) : Int) from (zt_add rfl rfl o1q)) i2q, ?_⟩
      refine ⟨fun c4q => ?_, fun c4q => ?_⟩
      · have h := h.1 (fun k => c4q ((zt_eq (show (((M_trial v43_ (Int32.toNatClampNeg (r46_ + 2))) : Int32)).toInt = ((Mz_trial (aM v43_) (Int.toNat (r46_.toInt + 2))) : Int) from (congrArg (fun k => Mz_trial (aM v43_) k) (show (Int32.toNatClampNeg (r46_ + 2)) = (Int.toNat (r46_.toInt + 2)) from (congrArg Int.toNat (show (((r46_ + 2) : Int32)).toInt = ((r46_.toInt + 2) : Int) from (zt_add rfl rfl o1q)))))) rfl).mpr k))
        obtain ⟨o3q, h⟩ := h
        refine ih rfl rfl (show (((y2 + 1) : Int32)).toInt = ((y2.toInt + 1) : Int) from (zt_add rfl rfl o3q)) rfl h_Q h
      · have h := h.2 ((zt_eq (show (((M_trial v43_ (Int32.toNatClampNeg (r46_ + 2))) : Int32)).toInt = ((Mz_trial (aM v43_) (Int.toNat (r46_.toInt + 2))) : Int) from (congrArg (fun k => Mz_trial (aM v43_) k) (show (Int32.toNatClampNeg (r46_ + 2)) = (Int.toNat (r46_.toInt + 2)) from (congrArg Int.toNat (show (((r46_ + 2) : Int32)).toInt = ((r46_.toInt + 2) : Int) from (zt_add rfl rfl o1q)))))) rfl).mp c4q)
        exact h_Q _ _ h
def ZJ_M_lostIn_17 (x1 : Int) (y1 : Int) (u0 : Int) (v0 : MZ) (Q : (Int → MZ → Prop)) : Prop := (Z_M_refused u0 v0 (fun r6_ v10_ => ((r6_ = 0 → (Z_M_reader y1 (fun r15_ => zin (r15_ + 2) ∧ ((0 : Int) ≤ (r15_ + 2) ∧ ((r15_ + 2) : Int) < 621) ∧ (((¬ (Mz_now v10_ (Int.toNat (r15_ + 2))) = 0 → (Z_M_copy (Mz_now v10_) (Mz_trial v10_) (fun v25_ => (∀ v30_, v30_ = (Mz_set_trial v10_ v25_) → ((∃ n52_, (ZL_M_lostIn_54 n52_ x1 y1 1 v30_ Q))))))) ∧ ((Mz_now v10_ (Int.toNat (r15_ + 2))) = 0 → (Q (-1) v10_))))))) ∧ (¬ r6_ = 0 → (Q 0 v10_)))))
set_option maxRecDepth 100000 in
theorem zJ_M_lostIn_17 {x1 : Int32} {x1z : Int} {y1 : Int32} {y1z : Int} {u0 : Int32} {u0z : Int} {v0 : MT} {v0z : MZ}  {Q : Int32 → MT → Prop} {Qz : (Int → MZ → Prop)} (e_x1 : x1.toInt = x1z) (e_y1 : y1.toInt = y1z) (e_u0 : u0.toInt = u0z) (e_v0 : (aM v0) = v0z) (h_Q : ∀ (a0 : Int32) (a1 : MT), Qz a0.toInt (aM a1) → Q a0 a1) (h : ZJ_M_lostIn_17 x1z y1z u0z v0z Qz) : PJ_M_lostIn_17 x1 y1 u0 v0 Q := by
  subst e_x1
  subst e_y1
  subst e_u0
  subst e_v0
  unfold ZJ_M_lostIn_17 at h
  unfold PJ_M_lostIn_17
  refine z_M_refused rfl rfl (fun r6_ v10_ h => ?_) h
  refine ⟨fun c4q => ?_, fun c4q => ?_⟩
  · have h := h.1 ((zt_eq rfl rfl).mp c4q)
    refine z_M_reader rfl (fun r15_ h => ?_) h
    obtain ⟨o1q, h⟩ := h
    obtain ⟨i2q, h⟩ := h
    refine ⟨zt_in (show (((r15_ + 2) : Int32)).toInt = ((r15_.toInt + 2) : Int) from (zt_add rfl rfl o1q)) i2q, ?_⟩
    refine ⟨fun c3q => ?_, fun c3q => ?_⟩
    · have h := h.1 (fun k => c3q ((zt_eq (show (((M_now v10_ (Int32.toNatClampNeg (r15_ + 2))) : Int32)).toInt = ((Mz_now (aM v10_) (Int.toNat (r15_.toInt + 2))) : Int) from (congrArg (fun k => Mz_now (aM v10_) k) (show (Int32.toNatClampNeg (r15_ + 2)) = (Int.toNat (r15_.toInt + 2)) from (congrArg Int.toNat (show (((r15_ + 2) : Int32)).toInt = ((r15_.toInt + 2) : Int) from (zt_add rfl rfl o1q)))))) rfl).mpr k))
      refine z_M_copy rfl rfl (fun v25_ h => ?_) h
      intro v30_ ev30_
      have h := h (aM v30_) (by rw [ev30_]; exact rfl)
      obtain ⟨n52_, h⟩ := h
      refine ⟨n52_, ?_⟩
      refine zL_M_lostIn_54 n52_ rfl rfl rfl rfl h_Q h
    · have h := h.2 ((zt_eq (show (((M_now v10_ (Int32.toNatClampNeg (r15_ + 2))) : Int32)).toInt = ((Mz_now (aM v10_) (Int.toNat (r15_.toInt + 2))) : Int) from (congrArg (fun k => Mz_now (aM v10_) k) (show (Int32.toNatClampNeg (r15_ + 2)) = (Int.toNat (r15_.toInt + 2)) from (congrArg Int.toNat (show (((r15_ + 2) : Int32)).toInt = ((r15_.toInt + 2) : Int) from (zt_add rfl rfl o1q)))))) rfl).mp c3q)
      exact h_Q _ _ h
  · have h := h.2 (fun k => c4q ((zt_eq rfl rfl).mpr k))
    exact h_Q _ _ h
def Z_M_lostIn (x1 : Int) (v0 : MZ) (Q : (Int → MZ → Prop)) : Prop := (Z_M_isReader x1 (Mz_now v0) (fun r1_ => ((r1_ = 0 → (ZJ_M_lostIn_17 x1 x1 1 v0 Q)) ∧ (¬ r1_ = 0 → (ZJ_M_lostIn_17 x1 x1 0 v0 Q)))))
set_option maxRecDepth 100000 in
theorem z_M_lostIn {x1 : Int32} {x1z : Int} {v0 : MT} {v0z : MZ}  {Q : Int32 → MT → Prop} {Qz : (Int → MZ → Prop)} (e_x1 : x1.toInt = x1z) (e_v0 : (aM v0) = v0z) (h_Q : ∀ (a0 : Int32) (a1 : MT), Qz a0.toInt (aM a1) → Q a0 a1) (h : Z_M_lostIn x1z v0z Qz) : P_M_lostIn x1 v0 Q := by
  subst e_x1
  subst e_v0
  unfold Z_M_lostIn at h
  unfold P_M_lostIn
  refine z_M_isReader rfl rfl (fun r1_ h => ?_) h
  refine ⟨fun c1q => ?_, fun c1q => ?_⟩
  · have h := h.1 ((zt_eq rfl rfl).mp c1q)
    refine zJ_M_lostIn_17 rfl rfl rfl rfl h_Q h
  · have h := h.2 (fun k => c1q ((zt_eq rfl rfl).mpr k))
    refine zJ_M_lostIn_17 rfl rfl rfl rfl h_Q h

def ZJ_M_ifFree_17 (x1 : Int) (y1 : Int) (u0 : Int) (v0 : MZ) (Q : (Int → MZ → Prop)) : Prop := (Z_M_refused u0 v0 (fun r6_ v10_ => ((r6_ = 0 → (Z_M_copy (Mz_now v10_) (Mz_trial v10_) (fun v19_ => (∀ v24_, v24_ = (Mz_set_trial v10_ v19_) → ((Z_M_reader y1 (fun r27_ => zin (r27_ + 2) ∧ ((0 : Int) ≤ (r27_ + 2) ∧ ((r27_ + 2) : Int) < 621) ∧ ((∀ v38_, v38_ = (Mz_set_trial v24_ (updz (Mz_trial v24_) (Int.toNat (r27_ + 2)) 0)) → ((Z_M_goTicks 1 (Mz_trial v38_) (fun r41_ v45_ => (∀ v50_, v50_ = (Mz_set_trial v38_ v45_) → ((Q r41_ v50_))))))))))))))) ∧ (¬ r6_ = 0 → (Q 0 v10_)))))
set_option maxRecDepth 100000 in
theorem zJ_M_ifFree_17 {x1 : Int32} {x1z : Int} {y1 : Int32} {y1z : Int} {u0 : Int32} {u0z : Int} {v0 : MT} {v0z : MZ}  {Q : Int32 → MT → Prop} {Qz : (Int → MZ → Prop)} (e_x1 : x1.toInt = x1z) (e_y1 : y1.toInt = y1z) (e_u0 : u0.toInt = u0z) (e_v0 : (aM v0) = v0z) (h_Q : ∀ (a0 : Int32) (a1 : MT), Qz a0.toInt (aM a1) → Q a0 a1) (h : ZJ_M_ifFree_17 x1z y1z u0z v0z Qz) : PJ_M_ifFree_17 x1 y1 u0 v0 Q := by
  subst e_x1
  subst e_y1
  subst e_u0
  subst e_v0
  unfold ZJ_M_ifFree_17 at h
  unfold PJ_M_ifFree_17
  refine z_M_refused rfl rfl (fun r6_ v10_ h => ?_) h
  refine ⟨fun c3q => ?_, fun c3q => ?_⟩
  · have h := h.1 ((zt_eq rfl rfl).mp c3q)
    refine z_M_copy rfl rfl (fun v19_ h => ?_) h
    intro v24_ ev24_
    have h := h (aM v24_) (by rw [ev24_]; exact rfl)
    refine z_M_reader rfl (fun r27_ h => ?_) h
    obtain ⟨o1q, h⟩ := h
    obtain ⟨i2q, h⟩ := h
    refine ⟨zt_in (show (((r27_ + 2) : Int32)).toInt = ((r27_.toInt + 2) : Int) from (zt_add rfl rfl o1q)) i2q, ?_⟩
    intro v38_ ev38_
    have h := h (aM v38_) (by rw [ev38_]; exact (show (aM (M_set_trial v24_ (upd (M_trial v24_) (Int32.toNatClampNeg (r27_ + 2)) 0))) = (Mz_set_trial (aM v24_) (updz (Mz_trial (aM v24_)) (Int.toNat (r27_.toInt + 2)) 0)) from (congrArg (fun k => Mz_set_trial (aM v24_) k) (show (aA (upd (M_trial v24_) (Int32.toNatClampNeg (r27_ + 2)) 0)) = (updz (Mz_trial (aM v24_)) (Int.toNat (r27_.toInt + 2)) 0) from (zt_upd rfl (show (Int32.toNatClampNeg (r27_ + 2)) = (Int.toNat (r27_.toInt + 2)) from (congrArg Int.toNat (show (((r27_ + 2) : Int32)).toInt = ((r27_.toInt + 2) : Int) from (zt_add rfl rfl o1q)))) rfl)))))
    refine z_M_goTicks rfl rfl (fun r41_ v45_ h => ?_) h
    intro v50_ ev50_
    have h := h (aM v50_) (by rw [ev50_]; exact rfl)
    exact h_Q _ _ h
  · have h := h.2 (fun k => c3q ((zt_eq rfl rfl).mpr k))
    exact h_Q _ _ h
def Z_M_ifFree (x1 : Int) (v0 : MZ) (Q : (Int → MZ → Prop)) : Prop := (Z_M_isReader x1 (Mz_now v0) (fun r1_ => ((r1_ = 0 → (ZJ_M_ifFree_17 x1 x1 1 v0 Q)) ∧ (¬ r1_ = 0 → (ZJ_M_ifFree_17 x1 x1 0 v0 Q)))))
set_option maxRecDepth 100000 in
theorem z_M_ifFree {x1 : Int32} {x1z : Int} {v0 : MT} {v0z : MZ}  {Q : Int32 → MT → Prop} {Qz : (Int → MZ → Prop)} (e_x1 : x1.toInt = x1z) (e_v0 : (aM v0) = v0z) (h_Q : ∀ (a0 : Int32) (a1 : MT), Qz a0.toInt (aM a1) → Q a0 a1) (h : Z_M_ifFree x1z v0z Qz) : P_M_ifFree x1 v0 Q := by
  subst e_x1
  subst e_v0
  unfold Z_M_ifFree at h
  unfold P_M_ifFree
  refine z_M_isReader rfl rfl (fun r1_ h => ?_) h
  refine ⟨fun c1q => ?_, fun c1q => ?_⟩
  · have h := h.1 ((zt_eq rfl rfl).mp c1q)
    refine zJ_M_ifFree_17 rfl rfl rfl rfl h_Q h
  · have h := h.2 (fun k => c1q ((zt_eq rfl rfl).mpr k))
    refine zJ_M_ifFree_17 rfl rfl rfl rfl h_Q h

def Z_M_keepsAll (x1 : Int) (x2 : Int) (v0 : MZ) (Q : (Int → MZ → Prop)) : Prop := (Z_M_copy (Mz_now v0) (Mz_trial v0) (fun v5_ => (∀ v10_, v10_ = (Mz_set_trial v0 v5_) → (((0 : Int) ≤ 613 ∧ (613 : Int) < 621) ∧ ((∀ v20_, v20_ = (Mz_set_trial v10_ (updz (Mz_trial v10_) (Int.toNat 613) x1)) → ((Z_M_goTicks x2 (Mz_trial v20_) (fun r23_ v27_ => (∀ v32_, v32_ = (Mz_set_trial v20_ v27_) → (((¬ r23_ = 0 → (Q 0 v32_)) ∧ (r23_ = 0 → (Q 1 v32_))))))))))))))
set_option maxRecDepth 100000 in
theorem z_M_keepsAll {x1 : Int32} {x1z : Int} {x2 : Int32} {x2z : Int} {v0 : MT} {v0z : MZ}  {Q : Int32 → MT → Prop} {Qz : (Int → MZ → Prop)} (e_x1 : x1.toInt = x1z) (e_x2 : x2.toInt = x2z) (e_v0 : (aM v0) = v0z) (h_Q : ∀ (a0 : Int32) (a1 : MT), Qz a0.toInt (aM a1) → Q a0 a1) (h : Z_M_keepsAll x1z x2z v0z Qz) : P_M_keepsAll x1 x2 v0 Q := by
  subst e_x1
  subst e_x2
  subst e_v0
  unfold Z_M_keepsAll at h
  unfold P_M_keepsAll
  refine z_M_copy rfl rfl (fun v5_ h => ?_) h
  intro v10_ ev10_
  have h := h (aM v10_) (by rw [ev10_]; exact rfl)
  obtain ⟨i1q, h⟩ := h
  refine ⟨zt_in (show (613 : Int32).toInt = 613 from by decide) i1q, ?_⟩
  intro v20_ ev20_
  have h := h (aM v20_) (by rw [ev20_]; exact (show (aM (M_set_trial v10_ (upd (M_trial v10_) (Int32.toNatClampNeg 613) x1))) = (Mz_set_trial (aM v10_) (updz (Mz_trial (aM v10_)) (Int.toNat 613) x1.toInt)) from (congrArg (fun k => Mz_set_trial (aM v10_) k) (show (aA (upd (M_trial v10_) (Int32.toNatClampNeg 613) x1)) = (updz (Mz_trial (aM v10_)) (Int.toNat 613) x1.toInt) from (zt_upd rfl rfl rfl)))))
  refine z_M_goTicks rfl rfl (fun r23_ v27_ h => ?_) h
  intro v32_ ev32_
  have h := h (aM v32_) (by rw [ev32_]; exact rfl)
  refine ⟨fun c2q => ?_, fun c2q => ?_⟩
  · have h := h.1 (fun k => c2q ((zt_eq rfl rfl).mpr k))
    exact h_Q _ _ h
  · have h := h.2 ((zt_eq rfl rfl).mp c2q)
    exact h_Q _ _ h

def ZJ_M_leastRoom_18 (x1 : Int) (y1 : Int) (u0 : Int) (v0 : MZ) (Q : (Int → MZ → Prop)) : Prop := (Z_M_refused u0 v0 (fun r6_ v10_ => ((r6_ = 0 → ((0 : Int) ≤ 400 ∧ (400 : Int) < 621) ∧ (((0 : Int) ≤ 401 ∧ (401 : Int) < 621) ∧ ((Z_M_sizes (Mz_now v10_ (Int.toNat 400)) (Mz_now v10_ (Int.toNat 401)) (Mz_now v10_) (fun r17_ => (Z_M_keepsAll 0 y1 v10_ (fun r21_ v25_ => ((r21_ = 0 → ((4000 < r17_ → (Q (-1) v25_)) ∧ (¬ 4000 < r17_ → (Z_M_keepsAll r17_ y1 v25_ (fun r31_ v35_ => ((r31_ = 0 → (Q (-1) v35_)) ∧ (¬ r31_ = 0 → (Q r17_ v35_)))))))) ∧ (¬ r21_ = 0 → (Q 0 v25_)))))))))) ∧ (¬ r6_ = 0 → (Q 0 v10_)))))
set_option maxRecDepth 100000 in
theorem zJ_M_leastRoom_18 {x1 : Int32} {x1z : Int} {y1 : Int32} {y1z : Int} {u0 : Int32} {u0z : Int} {v0 : MT} {v0z : MZ}  {Q : Int32 → MT → Prop} {Qz : (Int → MZ → Prop)} (e_x1 : x1.toInt = x1z) (e_y1 : y1.toInt = y1z) (e_u0 : u0.toInt = u0z) (e_v0 : (aM v0) = v0z) (h_Q : ∀ (a0 : Int32) (a1 : MT), Qz a0.toInt (aM a1) → Q a0 a1) (h : ZJ_M_leastRoom_18 x1z y1z u0z v0z Qz) : PJ_M_leastRoom_18 x1 y1 u0 v0 Q := by
  subst e_x1
  subst e_y1
  subst e_u0
  subst e_v0
  unfold ZJ_M_leastRoom_18 at h
  unfold PJ_M_leastRoom_18
  refine z_M_refused rfl rfl (fun r6_ v10_ h => ?_) h
  refine ⟨fun c6q => ?_, fun c6q => ?_⟩
  · have h := h.1 ((zt_eq rfl rfl).mp c6q)
    obtain ⟨i1q, h⟩ := h
    refine ⟨zt_in (show (400 : Int32).toInt = 400 from by decide) i1q, ?_⟩
    obtain ⟨i2q, h⟩ := h
    refine ⟨zt_in (show (401 : Int32).toInt = 401 from by decide) i2q, ?_⟩
    refine z_M_sizes rfl rfl rfl (fun r17_ h => ?_) h
    refine z_M_keepsAll rfl rfl rfl (fun r21_ v25_ h => ?_) h
    refine ⟨fun c5q => ?_, fun c5q => ?_⟩
    · have h := h.1 ((zt_eq rfl rfl).mp c5q)
      refine ⟨fun c4q => ?_, fun c4q => ?_⟩
      · have h := h.1 ((zt_lt rfl rfl).mp c4q)
        exact h_Q _ _ h
      · have h := h.2 (fun k => c4q ((zt_lt rfl rfl).mpr k))
        refine z_M_keepsAll rfl rfl rfl (fun r31_ v35_ h => ?_) h
        refine ⟨fun c3q => ?_, fun c3q => ?_⟩
        · have h := h.1 ((zt_eq rfl rfl).mp c3q)
          exact h_Q _ _ h
        · have h := h.2 (fun k => c3q ((zt_eq rfl rfl).mpr k))
          exact h_Q _ _ h
    · have h := h.2 (fun k => c5q ((zt_eq rfl rfl).mpr k))
      exact h_Q _ _ h
  · have h := h.2 (fun k => c6q ((zt_eq rfl rfl).mpr k))
    exact h_Q _ _ h
def Z_M_leastRoom (x1 : Int) (v0 : MZ) (Q : (Int → MZ → Prop)) : Prop := (Z_M_in x1 1 200 (fun r1_ => ((r1_ = 0 → (ZJ_M_leastRoom_18 x1 x1 1 v0 Q)) ∧ (¬ r1_ = 0 → (ZJ_M_leastRoom_18 x1 x1 0 v0 Q)))))
set_option maxRecDepth 100000 in
theorem z_M_leastRoom {x1 : Int32} {x1z : Int} {v0 : MT} {v0z : MZ}  {Q : Int32 → MT → Prop} {Qz : (Int → MZ → Prop)} (e_x1 : x1.toInt = x1z) (e_v0 : (aM v0) = v0z) (h_Q : ∀ (a0 : Int32) (a1 : MT), Qz a0.toInt (aM a1) → Q a0 a1) (h : Z_M_leastRoom x1z v0z Qz) : P_M_leastRoom x1 v0 Q := by
  subst e_x1
  subst e_v0
  unfold Z_M_leastRoom at h
  unfold P_M_leastRoom
  refine z_M_in (show (Int32.toInt64 x1).toInt = (x1.toInt : Int) from (zt_i2l rfl)) rfl rfl (fun r1_ h => ?_) h
  refine ⟨fun c1q => ?_, fun c1q => ?_⟩
  · have h := h.1 ((zt_eq rfl rfl).mp c1q)
    refine zJ_M_leastRoom_18 rfl rfl rfl rfl h_Q h
  · have h := h.2 (fun k => c1q ((zt_eq rfl rfl).mpr k))
    refine zJ_M_leastRoom_18 rfl rfl rfl rfl h_Q h

def Z_M_runWrite (x1 : Int) (x2 : Int) (x3 : Int) (v0 : MZ) (Q : (Int → MZ → Prop)) : Prop := (Z_M_isRow x1 x2 x3 (fun r1_ => ((r1_ = 0 → (Q 0 v0)) ∧ (¬ r1_ = 0 → ((0 : Int) ≤ 401 ∧ (401 : Int) < 621) ∧ (((200 ≤ (Mz_trial v0 (Int.toNat 401)) → (Q 0 v0)) ∧ (¬ 200 ≤ (Mz_trial v0 (Int.toNat 401)) → (Z_M_goWrite x1 x2 x3 (Mz_trial v0) (fun r8_ v12_ => (∀ v17_, v17_ = (Mz_set_trial v0 v12_) → (((r8_ < 0 → (Q 0 v17_)) ∧ (¬ r8_ < 0 → (Q 1 v17_))))))))))))))
set_option maxRecDepth 100000 in
theorem z_M_runWrite {x1 : Int32} {x1z : Int} {x2 : Int32} {x2z : Int} {x3 : Int32} {x3z : Int} {v0 : MT} {v0z : MZ}  {Q : Int32 → MT → Prop} {Qz : (Int → MZ → Prop)} (e_x1 : x1.toInt = x1z) (e_x2 : x2.toInt = x2z) (e_x3 : x3.toInt = x3z) (e_v0 : (aM v0) = v0z) (h_Q : ∀ (a0 : Int32) (a1 : MT), Qz a0.toInt (aM a1) → Q a0 a1) (h : Z_M_runWrite x1z x2z x3z v0z Qz) : P_M_runWrite x1 x2 x3 v0 Q := by
  subst e_x1
  subst e_x2
  subst e_x3
  subst e_v0
  unfold Z_M_runWrite at h
  unfold P_M_runWrite
  refine z_M_isRow rfl rfl rfl (fun r1_ h => ?_) h
  refine ⟨fun c4q => ?_, fun c4q => ?_⟩
  · have h := h.1 ((zt_eq rfl rfl).mp c4q)
    exact h_Q _ _ h
  · have h := h.2 (fun k => c4q ((zt_eq rfl rfl).mpr k))
    obtain ⟨i1q, h⟩ := h
    refine ⟨zt_in (show (401 : Int32).toInt = 401 from by decide) i1q, ?_⟩
    refine ⟨fun c3q => ?_, fun c3q => ?_⟩
    · have h := h.1 ((zt_le rfl rfl).mp c3q)
      exact h_Q _ _ h
    · have h := h.2 (fun k => c3q ((zt_le rfl rfl).mpr k))
      refine z_M_goWrite rfl rfl rfl rfl (fun r8_ v12_ h => ?_) h
      intro v17_ ev17_
      have h := h (aM v17_) (by rw [ev17_]; exact rfl)
      refine ⟨fun c2q => ?_, fun c2q => ?_⟩
      · have h := h.1 ((zt_lt rfl rfl).mp c2q)
        exact h_Q _ _ h
      · have h := h.2 (fun k => c2q ((zt_lt rfl rfl).mpr k))
        exact h_Q _ _ h

def Z_M_runRead (x1 : Int) (x2 : Int) (v0 : MZ) (Q : (Int → MZ → Prop)) : Prop := (Z_M_isReader x1 (Mz_trial v0) (fun r1_ => ((r1_ = 0 → (Q 0 v0)) ∧ (¬ r1_ = 0 → (Z_M_in x2 1 50 (fun r6_ => ((r6_ = 0 → (Q 0 v0)) ∧ (¬ r6_ = 0 → (Z_M_goRead x1 x2 (Mz_trial v0) (fun r11_ v15_ => (∀ v20_, v20_ = (Mz_set_trial v0 v15_) → (((r11_ = 0 → (Q 0 v20_)) ∧ (¬ r11_ = 0 → (Q 1 v20_)))))))))))))))
set_option maxRecDepth 100000 in
theorem z_M_runRead {x1 : Int32} {x1z : Int} {x2 : Int32} {x2z : Int} {v0 : MT} {v0z : MZ}  {Q : Int32 → MT → Prop} {Qz : (Int → MZ → Prop)} (e_x1 : x1.toInt = x1z) (e_x2 : x2.toInt = x2z) (e_v0 : (aM v0) = v0z) (h_Q : ∀ (a0 : Int32) (a1 : MT), Qz a0.toInt (aM a1) → Q a0 a1) (h : Z_M_runRead x1z x2z v0z Qz) : P_M_runRead x1 x2 v0 Q := by
  subst e_x1
  subst e_x2
  subst e_v0
  unfold Z_M_runRead at h
  unfold P_M_runRead
  refine z_M_isReader rfl rfl (fun r1_ h => ?_) h
  refine ⟨fun c3q => ?_, fun c3q => ?_⟩
  · have h := h.1 ((zt_eq rfl rfl).mp c3q)
    exact h_Q _ _ h
  · have h := h.2 (fun k => c3q ((zt_eq rfl rfl).mpr k))
    refine z_M_in (show (Int32.toInt64 x2).toInt = (x2.toInt : Int) from (zt_i2l rfl)) rfl rfl (fun r6_ h => ?_) h
    refine ⟨fun c2q => ?_, fun c2q => ?_⟩
    · have h := h.1 ((zt_eq rfl rfl).mp c2q)
      exact h_Q _ _ h
    · have h := h.2 (fun k => c2q ((zt_eq rfl rfl).mpr k))
      refine z_M_goRead rfl rfl rfl (fun r11_ v15_ h => ?_) h
      intro v20_ ev20_
      have h := h (aM v20_) (by rw [ev20_]; exact rfl)
      refine ⟨fun c1q => ?_, fun c1q => ?_⟩
      · have h := h.1 ((zt_eq rfl rfl).mp c1q)
        exact h_Q _ _ h
      · have h := h.2 (fun k => c1q ((zt_eq rfl rfl).mpr k))
        exact h_Q _ _ h

def Z_M_runJoin (x1 : Int) (x2 : Int) (x3 : Int) (v0 : MZ) (Q : (Int → MZ → Prop)) : Prop := (Z_M_isName x1 (fun r1_ => ((r1_ = 0 → (Q 0 v0)) ∧ (¬ r1_ = 0 → (Z_M_in x2 0 2 (fun r6_ => ((r6_ = 0 → (Q 0 v0)) ∧ (¬ r6_ = 0 → (Z_M_canJoin x1 x2 x3 (Mz_trial v0) (fun r11_ => ((r11_ = 0 → (Q 0 v0)) ∧ (¬ r11_ = 0 → (Z_M_goJoin x1 x2 x3 (Mz_trial v0) (fun r16_ v20_ => (∀ v25_, v25_ = (Mz_set_trial v0 v20_) → (((r16_ < 0 → (Q 0 v25_)) ∧ (¬ r16_ < 0 → (Q 1 v25_)))))))))))))))))))
set_option maxRecDepth 100000 in
theorem z_M_runJoin {x1 : Int32} {x1z : Int} {x2 : Int32} {x2z : Int} {x3 : Int32} {x3z : Int} {v0 : MT} {v0z : MZ}  {Q : Int32 → MT → Prop} {Qz : (Int → MZ → Prop)} (e_x1 : x1.toInt = x1z) (e_x2 : x2.toInt = x2z) (e_x3 : x3.toInt = x3z) (e_v0 : (aM v0) = v0z) (h_Q : ∀ (a0 : Int32) (a1 : MT), Qz a0.toInt (aM a1) → Q a0 a1) (h : Z_M_runJoin x1z x2z x3z v0z Qz) : P_M_runJoin x1 x2 x3 v0 Q := by
  subst e_x1
  subst e_x2
  subst e_x3
  subst e_v0
  unfold Z_M_runJoin at h
  unfold P_M_runJoin
  refine z_M_isName rfl (fun r1_ h => ?_) h
  refine ⟨fun c4q => ?_, fun c4q => ?_⟩
  · have h := h.1 ((zt_eq rfl rfl).mp c4q)
    exact h_Q _ _ h
  · have h := h.2 (fun k => c4q ((zt_eq rfl rfl).mpr k))
    refine z_M_in (show (Int32.toInt64 x2).toInt = (x2.toInt : Int) from (zt_i2l rfl)) rfl rfl (fun r6_ h => ?_) h
    refine ⟨fun c3q => ?_, fun c3q => ?_⟩
    · have h := h.1 ((zt_eq rfl rfl).mp c3q)
      exact h_Q _ _ h
    · have h := h.2 (fun k => c3q ((zt_eq rfl rfl).mpr k))
      refine z_M_canJoin rfl rfl rfl rfl (fun r11_ h => ?_) h
      refine ⟨fun c2q => ?_, fun c2q => ?_⟩
      · have h := h.1 ((zt_eq rfl rfl).mp c2q)
        exact h_Q _ _ h
      · have h := h.2 (fun k => c2q ((zt_eq rfl rfl).mpr k))
        refine z_M_goJoin rfl rfl rfl rfl (fun r16_ v20_ h => ?_) h
        intro v25_ ev25_
        have h := h (aM v25_) (by rw [ev25_]; exact rfl)
        refine ⟨fun c1q => ?_, fun c1q => ?_⟩
        · have h := h.1 ((zt_lt rfl rfl).mp c1q)
          exact h_Q _ _ h
        · have h := h.2 (fun k => c1q ((zt_lt rfl rfl).mpr k))
          exact h_Q _ _ h

def Z_M_runLeave (x1 : Int) (v0 : MZ) (Q : (Int → MZ → Prop)) : Prop := (Z_M_isReader x1 (Mz_trial v0) (fun r1_ => ((r1_ = 0 → (Q 0 v0)) ∧ (¬ r1_ = 0 → (Z_M_goLeave x1 (Mz_trial v0) (fun r6_ v10_ => (∀ v15_, v15_ = (Mz_set_trial v0 v10_) → (((r6_ < 0 → (Q 0 v15_)) ∧ (¬ r6_ < 0 → (Q 1 v15_)))))))))))
set_option maxRecDepth 100000 in
theorem z_M_runLeave {x1 : Int32} {x1z : Int} {v0 : MT} {v0z : MZ}  {Q : Int32 → MT → Prop} {Qz : (Int → MZ → Prop)} (e_x1 : x1.toInt = x1z) (e_v0 : (aM v0) = v0z) (h_Q : ∀ (a0 : Int32) (a1 : MT), Qz a0.toInt (aM a1) → Q a0 a1) (h : Z_M_runLeave x1z v0z Qz) : P_M_runLeave x1 v0 Q := by
  subst e_x1
  subst e_v0
  unfold Z_M_runLeave at h
  unfold P_M_runLeave
  refine z_M_isReader rfl rfl (fun r1_ h => ?_) h
  refine ⟨fun c2q => ?_, fun c2q => ?_⟩
  · have h := h.1 ((zt_eq rfl rfl).mp c2q)
    exact h_Q _ _ h
  · have h := h.2 (fun k => c2q ((zt_eq rfl rfl).mpr k))
    refine z_M_goLeave rfl rfl (fun r6_ v10_ h => ?_) h
    intro v15_ ev15_
    have h := h (aM v15_) (by rw [ev15_]; exact rfl)
    refine ⟨fun c1q => ?_, fun c1q => ?_⟩
    · have h := h.1 ((zt_lt rfl rfl).mp c1q)
      exact h_Q _ _ h
    · have h := h.2 (fun k => c1q ((zt_lt rfl rfl).mpr k))
      exact h_Q _ _ h

def Z_M_runTicks (x1 : Int) (v0 : MZ) (Q : (Int → MZ → Prop)) : Prop := (Z_M_in x1 1 99 (fun r1_ => ((r1_ = 0 → (Q 0 v0)) ∧ (¬ r1_ = 0 → (Z_M_goTicks x1 (Mz_trial v0) (fun r6_ v10_ => (∀ v15_, v15_ = (Mz_set_trial v0 v10_) → (((r6_ < 0 → (Q 0 v15_)) ∧ (¬ r6_ < 0 → (Q 1 v15_)))))))))))
set_option maxRecDepth 100000 in
theorem z_M_runTicks {x1 : Int32} {x1z : Int} {v0 : MT} {v0z : MZ}  {Q : Int32 → MT → Prop} {Qz : (Int → MZ → Prop)} (e_x1 : x1.toInt = x1z) (e_v0 : (aM v0) = v0z) (h_Q : ∀ (a0 : Int32) (a1 : MT), Qz a0.toInt (aM a1) → Q a0 a1) (h : Z_M_runTicks x1z v0z Qz) : P_M_runTicks x1 v0 Q := by
  subst e_x1
  subst e_v0
  unfold Z_M_runTicks at h
  unfold P_M_runTicks
  refine z_M_in (show (Int32.toInt64 x1).toInt = (x1.toInt : Int) from (zt_i2l rfl)) rfl rfl (fun r1_ h => ?_) h
  refine ⟨fun c2q => ?_, fun c2q => ?_⟩
  · have h := h.1 ((zt_eq rfl rfl).mp c2q)
    exact h_Q _ _ h
  · have h := h.2 (fun k => c2q ((zt_eq rfl rfl).mpr k))
    refine z_M_goTicks rfl rfl (fun r6_ v10_ h => ?_) h
    intro v15_ ev15_
    have h := h (aM v15_) (by rw [ev15_]; exact rfl)
    refine ⟨fun c1q => ?_, fun c1q => ?_⟩
    · have h := h.1 ((zt_lt rfl rfl).mp c1q)
      exact h_Q _ _ h
    · have h := h.2 (fun k => c1q ((zt_lt rfl rfl).mpr k))
      exact h_Q _ _ h
