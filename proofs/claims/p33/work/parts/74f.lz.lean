def Z_LAW_says (x1 : Int) (x2 : Int) (x3 : Int) (x4 : Int) (v0 : TZ) (Q : (Int → TZ → Prop)) : Prop := (Z_LAW_append x1 v0 (fun r1_ v6_ => (((lg_cmpZ r1_ 0) ≤ 0 → (Q 0 v6_)) ∧ (¬ (lg_cmpZ r1_ 0) ≤ 0 → (Z_LAW_append x2 v6_ (fun r11_ v16_ => (((lg_cmpZ r11_ 0) ≤ 0 → (Q 0 v16_)) ∧ (¬ (lg_cmpZ r11_ 0) ≤ 0 → (Z_LAW_append x3 v16_ (fun r21_ v26_ => (((lg_cmpZ r21_ 0) ≤ 0 → (Q 0 v26_)) ∧ (¬ (lg_cmpZ r21_ 0) ≤ 0 → (Z_LAW_append x4 v26_ (fun r31_ v36_ => (((lg_cmpZ r31_ 0) ≤ 0 → (Q 0 v36_)) ∧ (¬ (lg_cmpZ r31_ 0) ≤ 0 → (Q 1 v36_)))))))))))))))))
set_option maxRecDepth 100000 in
theorem z_LAW_says {x1 : Int32} {x1z : Int} {x2 : Int32} {x2z : Int} {x3 : Int32} {x3z : Int} {x4 : Int32} {x4z : Int} {v0 : TT} {v0z : TZ}  {Q : Int32 → TT → Prop} {Qz : (Int → TZ → Prop)} (e_x1 : x1.toInt = x1z) (e_x2 : x2.toInt = x2z) (e_x3 : x3.toInt = x3z) (e_x4 : x4.toInt = x4z) (e_v0 : (aT v0) = v0z) (h_Q : ∀ (a0 : Int32) (a1 : TT), Qz a0.toInt (aT a1) → Q a0 a1) (h : Z_LAW_says x1z x2z x3z x4z v0z Qz) : P_LAW_says x1 x2 x3 x4 v0 Q := by
  subst e_x1
  subst e_x2
  subst e_x3
  subst e_x4
  subst e_v0
  unfold Z_LAW_says at h
  unfold P_LAW_says
  refine z_LAW_append rfl rfl (fun r1_ v6_ h => ?_) h
  refine ⟨fun c4q => ?_, fun c4q => ?_⟩
  · have h := h.1 ((zt_le (show (((lg_cmp r1_ 0) : Int32)).toInt = ((lg_cmpZ r1_.toInt 0) : Int) from (zt_lg_cmp rfl rfl)) rfl).mp c4q)
    exact h_Q _ _ h
  · have h := h.2 (fun k => c4q ((zt_le (show (((lg_cmp r1_ 0) : Int32)).toInt = ((lg_cmpZ r1_.toInt 0) : Int) from (zt_lg_cmp rfl rfl)) rfl).mpr k))
    refine z_LAW_append rfl rfl (fun r11_ v16_ h => ?_) h
    refine ⟨fun c3q => ?_, fun c3q => ?_⟩
    · have h := h.1 ((zt_le (show (((lg_cmp r11_ 0) : Int32)).toInt = ((lg_cmpZ r11_.toInt 0) : Int) from (zt_lg_cmp rfl rfl)) rfl).mp c3q)
      exact h_Q _ _ h
    · have h := h.2 (fun k => c3q ((zt_le (show (((lg_cmp r11_ 0) : Int32)).toInt = ((lg_cmpZ r11_.toInt 0) : Int) from (zt_lg_cmp rfl rfl)) rfl).mpr k))
      refine z_LAW_append rfl rfl (fun r21_ v26_ h => ?_) h
      refine ⟨fun c2q => ?_, fun c2q => ?_⟩
      · have h := h.1 ((zt_le (show (((lg_cmp r21_ 0) : Int32)).toInt = ((lg_cmpZ r21_.toInt 0) : Int) from (zt_lg_cmp rfl rfl)) rfl).mp c2q)
        exact h_Q _ _ h
      · have h := h.2 (fun k => c2q ((zt_le (show (((lg_cmp r21_ 0) : Int32)).toInt = ((lg_cmpZ r21_.toInt 0) : Int) from (zt_lg_cmp rfl rfl)) rfl).mpr k))
        refine z_LAW_append rfl rfl (fun r31_ v36_ h => ?_) h
        refine ⟨fun c1q => ?_, fun c1q => ?_⟩
        · have h := h.1 ((zt_le (show (((lg_cmp r31_ 0) : Int32)).toInt = ((lg_cmpZ r31_.toInt 0) : Int) from (zt_lg_cmp rfl rfl)) rfl).mp c1q)
          exact h_Q _ _ h
        · have h := h.2 (fun k => c1q ((zt_le (show (((lg_cmp r31_ 0) : Int32)).toInt = ((lg_cmpZ r31_.toInt 0) : Int) from (zt_lg_cmp rfl rfl)) rfl).mpr k))
          exact h_Q _ _ h
