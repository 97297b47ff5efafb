def ZJ_LAW_follows_571 (x1 : Int) (y2 : Int) (y4 : Int) (v0 : TZ) (Q : (Int → TZ → Prop)) : Prop := ((y4 = 0 → (Q 0 v0)) ∧ (¬ y4 = 0 → (Z_LAW_now v0 (fun r58_ => ((¬ (lg_cmpZ r58_ y2) = 0 → (Q 0 v0)) ∧ ((lg_cmpZ r58_ y2) = 0 → (Z_LAW_restore 1 v0 (fun r64_ v69_ => (((lg_cmpZ r64_ 0) < 0 → (Q 0 v69_)) ∧ (¬ (lg_cmpZ r64_ 0) < 0 → (Z_LAW_now v69_ (fun r74_ => ((¬ (lg_cmpZ r74_ y2) = 0 → (Q 0 v69_)) ∧ ((lg_cmpZ r74_ y2) = 0 → (Z_LAW_undo v69_ (fun r80_ v85_ => ((¬ (lg_cmpZ r80_ (-9000000000000000003)) = 0 → (Q 0 v85_)) ∧ ((lg_cmpZ r80_ (-9000000000000000003)) = 0 → (Q 1 v85_)))))))))))))))))))
set_option maxRecDepth 100000 in
theorem zJ_LAW_follows_571 {x1 : Int32} {x1z : Int} {y2 : Int64} {y2z : Int} {y4 : Int32} {y4z : Int} {v0 : TT} {v0z : TZ}  {Q : Int32 → TT → Prop} {Qz : (Int → TZ → Prop)} (e_x1 : x1.toInt = x1z) (e_y2 : y2.toInt = y2z) (e_y4 : y4.toInt = y4z) (e_v0 : (aT v0) = v0z) (h_Q : ∀ (a0 : Int32) (a1 : TT), Qz a0.toInt (aT a1) → Q a0 a1) (h : ZJ_LAW_follows_571 x1z y2z y4z v0z Qz) : PJ_LAW_follows_571 x1 y2 y4 v0 Q := by
  subst e_x1
  subst e_y2
  subst e_y4
  subst e_v0
  unfold ZJ_LAW_follows_571 at h
  unfold PJ_LAW_follows_571
  refine ⟨fun c5q => ?_, fun c5q => ?_⟩
  · have h := h.1 ((zt_eq rfl rfl).mp c5q)
    exact h_Q _ _ h
  · have h := h.2 (fun k => c5q ((zt_eq rfl rfl).mpr k))
    refine z_LAW_now rfl (fun r58_ h => ?_) h
    refine ⟨fun c4q => ?_, fun c4q => ?_⟩
    · have h := h.1 (fun k => c4q ((zt_eq (show (((lg_cmp r58_ y2) : Int32)).toInt = ((lg_cmpZ r58_.toInt y2.toInt) : Int) from (zt_lg_cmp rfl rfl)) rfl).mpr k))
      exact h_Q _ _ h
    · have h := h.2 ((zt_eq (show (((lg_cmp r58_ y2) : Int32)).toInt = ((lg_cmpZ r58_.toInt y2.toInt) : Int) from (zt_lg_cmp rfl rfl)) rfl).mp c4q)
      refine z_LAW_restore rfl rfl (fun r64_ v69_ h => ?_) h
      refine ⟨fun c3q => ?_, fun c3q => ?_⟩
      · have h := h.1 ((zt_lt (show (((lg_cmp r64_ 0) : Int32)).toInt = ((lg_cmpZ r64_.toInt 0) : Int) from (zt_lg_cmp rfl rfl)) rfl).mp c3q)
        exact h_Q _ _ h
      · have h := h.2 (fun k => c3q ((zt_lt (show (((lg_cmp r64_ 0) : Int32)).toInt = ((lg_cmpZ r64_.toInt 0) : Int) from (zt_lg_cmp rfl rfl)) rfl).mpr k))
        refine z_LAW_now rfl (fun r74_ h => ?_) h
        refine ⟨fun c2q => ?_, fun c2q => ?_⟩
        · have h := h.1 (fun k => c2q ((zt_eq (show (((lg_cmp r74_ y2) : Int32)).toInt = ((lg_cmpZ r74_.toInt y2.toInt) : Int) from (zt_lg_cmp rfl rfl)) rfl).mpr k))
          exact h_Q _ _ h
        · have h := h.2 ((zt_eq (show (((lg_cmp r74_ y2) : Int32)).toInt = ((lg_cmpZ r74_.toInt y2.toInt) : Int) from (zt_lg_cmp rfl rfl)) rfl).mp c2q)
          refine z_LAW_undo rfl (fun r80_ v85_ h => ?_) h
          refine ⟨fun c1q => ?_, fun c1q => ?_⟩
          · have h := h.1 (fun k => c1q ((zt_eq (show (((lg_cmp r80_ (-9000000000000000003)) : Int32)).toInt = ((lg_cmpZ r80_.toInt (-9000000000000000003)) : Int) from (zt_lg_cmp rfl rfl)) rfl).mpr k))
            exact h_Q _ _ h
          · have h := h.2 ((zt_eq (show (((lg_cmp r80_ (-9000000000000000003)) : Int32)).toInt = ((lg_cmpZ r80_.toInt (-9000000000000000003)) : Int) from (zt_lg_cmp rfl rfl)) rfl).mp c1q)
            exact h_Q _ _ h
def ZJ_LAW_follows_569 (x1 : Int) (y2 : Int) (u0 : Int) (v0 : TZ) (Q : (Int → TZ → Prop)) : Prop := (ZJ_LAW_follows_571 x1 y2 u0 v0 Q)
set_option maxRecDepth 100000 in
theorem zJ_LAW_follows_569 {x1 : Int32} {x1z : Int} {y2 : Int64} {y2z : Int} {u0 : Int32} {u0z : Int} {v0 : TT} {v0z : TZ}  {Q : Int32 → TT → Prop} {Qz : (Int → TZ → Prop)} (e_x1 : x1.toInt = x1z) (e_y2 : y2.toInt = y2z) (e_u0 : u0.toInt = u0z) (e_v0 : (aT v0) = v0z) (h_Q : ∀ (a0 : Int32) (a1 : TT), Qz a0.toInt (aT a1) → Q a0 a1) (h : ZJ_LAW_follows_569 x1z y2z u0z v0z Qz) : PJ_LAW_follows_569 x1 y2 u0 v0 Q := by
  subst e_x1
  subst e_y2
  subst e_u0
  subst e_v0
  unfold ZJ_LAW_follows_569 at h
  unfold PJ_LAW_follows_569
  refine zJ_LAW_follows_571 rfl rfl rfl rfl h_Q h
def ZJ_LAW_follows_568 (x1 : Int) (y2 : Int) (v0 : TZ) (Q : (Int → TZ → Prop)) : Prop := (ZJ_LAW_follows_569 x1 y2 0 v0 Q)
set_option maxRecDepth 100000 in
theorem zJ_LAW_follows_568 {x1 : Int32} {x1z : Int} {y2 : Int64} {y2z : Int} {v0 : TT} {v0z : TZ}  {Q : Int32 → TT → Prop} {Qz : (Int → TZ → Prop)} (e_x1 : x1.toInt = x1z) (e_y2 : y2.toInt = y2z) (e_v0 : (aT v0) = v0z) (h_Q : ∀ (a0 : Int32) (a1 : TT), Qz a0.toInt (aT a1) → Q a0 a1) (h : ZJ_LAW_follows_568 x1z y2z v0z Qz) : PJ_LAW_follows_568 x1 y2 v0 Q := by
  subst e_x1
  subst e_y2
  subst e_v0
  unfold ZJ_LAW_follows_568 at h
  unfold PJ_LAW_follows_568
  refine zJ_LAW_follows_569 rfl rfl rfl rfl h_Q h
def ZJ_LAW_follows_555 (x1 : Int) (y2 : Int) (v0 : TZ) (Q : (Int → TZ → Prop)) : Prop := (Z_LAW_undo v0 (fun r122_ v127_ => (((lg_cmpZ r122_ 0) < 0 → (ZJ_LAW_follows_568 x1 y2 v127_ Q)) ∧ (¬ (lg_cmpZ r122_ 0) < 0 → (ZJ_LAW_follows_569 x1 y2 1 v127_ Q)))))
set_option maxRecDepth 100000 in
theorem zJ_LAW_follows_555 {x1 : Int32} {x1z : Int} {y2 : Int64} {y2z : Int} {v0 : TT} {v0z : TZ}  {Q : Int32 → TT → Prop} {Qz : (Int → TZ → Prop)} (e_x1 : x1.toInt = x1z) (e_y2 : y2.toInt = y2z) (e_v0 : (aT v0) = v0z) (h_Q : ∀ (a0 : Int32) (a1 : TT), Qz a0.toInt (aT a1) → Q a0 a1) (h : ZJ_LAW_follows_555 x1z y2z v0z Qz) : PJ_LAW_follows_555 x1 y2 v0 Q := by
  subst e_x1
  subst e_y2
  subst e_v0
  unfold ZJ_LAW_follows_555 at h
  unfold PJ_LAW_follows_555
  refine z_LAW_undo rfl (fun r122_ v127_ h => ?_) h
  refine ⟨fun c1q => ?_, fun c1q => ?_⟩
  · have h := h.1 ((zt_lt (show (((lg_cmp r122_ 0) : Int32)).toInt = ((lg_cmpZ r122_.toInt 0) : Int) from (zt_lg_cmp rfl rfl)) rfl).mp c1q)
    refine zJ_LAW_follows_568 rfl rfl rfl h_Q h
  · have h := h.2 (fun k => c1q ((zt_lt (show (((lg_cmp r122_ 0) : Int32)).toInt = ((lg_cmpZ r122_.toInt 0) : Int) from (zt_lg_cmp rfl rfl)) rfl).mpr k))
    refine zJ_LAW_follows_569 rfl rfl rfl rfl h_Q h
def ZJ_LAW_follows_437 (x1 : Int) (y1 : Int) (y2 : Int) (y4 : Int) (v0 : TZ) (Q : (Int → TZ → Prop)) : Prop := zin (1 + (Int.tmod y1 99)) ∧ (Z_LAW_leastRoom (1 + (Int.tmod y1 99)) v0 (fun r42_ v47_ => (Z_LAW_setting 3 v47_ (fun r51_ => (((wi r42_) = (-1) → (ZJ_LAW_follows_571 x1 y2 y4 v47_ Q)) ∧ (¬ (wi r42_) = (-1) → ((y4 = 0 → (ZJ_LAW_follows_571 x1 y2 y4 v47_ Q)) ∧ (¬ y4 = 0 → (Z_LAW_set 3 (wi r42_) v47_ (fun r91_ v96_ => ((¬ (lg_cmpZ r91_ r51_) = 0 → (ZJ_LAW_follows_568 x1 y2 v96_ Q)) ∧ ((lg_cmpZ r91_ r51_) = 0 → (Z_LAW_ticks (1 + (Int.tmod y1 99)) v96_ (fun r101_ v106_ => ((¬ (lg_cmpZ r101_ 0) = 0 → (ZJ_LAW_follows_568 x1 y2 v106_ Q)) ∧ ((lg_cmpZ r101_ 0) = 0 → (Z_LAW_undo v106_ (fun r111_ v116_ => (((lg_cmpZ r111_ 0) < 0 → (ZJ_LAW_follows_568 x1 y2 v116_ Q)) ∧ (¬ (lg_cmpZ r111_ 0) < 0 → (((wi r42_) = 0 → (ZJ_LAW_follows_555 x1 y2 v116_ Q)) ∧ (¬ (wi r42_) = 0 → zin ((wi r42_) - 1) ∧ (Z_LAW_set 3 ((wi r42_) - 1) v116_ (fun r132_ v137_ => ((¬ (lg_cmpZ r132_ (wi r42_)) = 0 → (ZJ_LAW_follows_568 x1 y2 v137_ Q)) ∧ ((lg_cmpZ r132_ (wi r42_)) = 0 → (Z_LAW_ticks (1 + (Int.tmod y1 99)) v137_ (fun r142_ v147_ => (((lg_cmpZ r142_ 0) ≤ 0 → (ZJ_LAW_follows_568 x1 y2 v147_ Q)) ∧ (¬ (lg_cmpZ r142_ 0) ≤ 0 → (Z_LAW_undo v147_ (fun r152_ v157_ => (((lg_cmpZ r152_ 0) < 0 → (ZJ_LAW_follows_568 x1 y2 v157_ Q)) ∧ (¬ (lg_cmpZ r152_ 0) < 0 → (Z_LAW_undo v157_ (fun r162_ v167_ => (((lg_cmpZ r162_ 0) < 0 → (ZJ_LAW_follows_568 x1 y2 v167_ Q)) ∧ (¬ (lg_cmpZ r162_ 0) < 0 → (ZJ_LAW_follows_555 x1 y2 v167_ Q)))))))))))))))))))))))))))))))))))))))
set_option maxRecDepth 100000 in
theorem zJ_LAW_follows_437 {x1 : Int32} {x1z : Int} {y1 : Int32} {y1z : Int} {y2 : Int64} {y2z : Int} {y4 : Int32} {y4z : Int} {v0 : TT} {v0z : TZ}  {Q : Int32 → TT → Prop} {Qz : (Int → TZ → Prop)} (e_x1 : x1.toInt = x1z) (e_y1 : y1.toInt = y1z) (e_y2 : y2.toInt = y2z) (e_y4 : y4.toInt = y4z) (e_v0 : (aT v0) = v0z) (h_Q : ∀ (a0 : Int32) (a1 : TT), Qz a0.toInt (aT a1) → Q a0 a1) (h : ZJ_LAW_follows_437 x1z y1z y2z y4z v0z Qz) : PJ_LAW_follows_437 x1 y1 y2 y4 v0 Q := by
  subst e_x1
  subst e_y1
  subst e_y2
  subst e_y4
  subst e_v0
  unfold ZJ_LAW_follows_437 at h
  unfold PJ_LAW_follows_437
  obtain ⟨o1q, h⟩ := h
  refine z_LAW_leastRoom (show (((1 + (zrem y1 99)) : Int32)).toInt = ((1 + (Int.tmod y1.toInt 99)) : Int) from (zt_add rfl (show (((zrem y1 99) : Int32)).toInt = ((Int.tmod y1.toInt 99) : Int) from (zt_rem rfl rfl (by decide) (by decide))) o1q)) rfl (fun r42_ v47_ h => ?_) h
  refine z_LAW_setting rfl rfl (fun r51_ h => ?_) h
  refine ⟨fun c12q => ?_, fun c12q => ?_⟩
  · have h := h.1 ((zt_eq (show (((Int64.toInt32 r42_) : Int32)).toInt = ((wi r42_.toInt) : Int) from (zt_l2i rfl)) rfl).mp c12q)
    refine zJ_LAW_follows_571 rfl rfl rfl rfl h_Q h
  · have h := h.2 (fun k => c12q ((zt_eq (show (((Int64.toInt32 r42_) : Int32)).toInt = ((wi r42_.toInt) : Int) from (zt_l2i rfl)) rfl).mpr k))
    refine ⟨fun c11q => ?_, fun c11q => ?_⟩
    · have h := h.1 ((zt_eq rfl rfl).mp c11q)
      refine zJ_LAW_follows_571 rfl rfl rfl rfl h_Q h
    · have h := h.2 (fun k => c11q ((zt_eq rfl rfl).mpr k))
      refine z_LAW_set rfl (show (((Int64.toInt32 r42_) : Int32)).toInt = ((wi r42_.toInt) : Int) from (zt_l2i rfl)) rfl (fun r91_ v96_ h => ?_) h
      refine ⟨fun c10q => ?_, fun c10q => ?_⟩
      · have h := h.1 (fun k => c10q ((zt_eq (show (((lg_cmp r91_ r51_) : Int32)).toInt = ((lg_cmpZ r91_.toInt r51_.toInt) : Int) from (zt_lg_cmp rfl rfl)) rfl).mpr k))
        refine zJ_LAW_follows_568 rfl rfl rfl h_Q h
      · have h := h.2 ((zt_eq (show (((lg_cmp r91_ r51_) : Int32)).toInt = ((lg_cmpZ r91_.toInt r51_.toInt) : Int) from (zt_lg_cmp rfl rfl)) rfl).mp c10q)
        refine z_LAW_ticks (show (((1 + (zrem y1 99)) : Int32)).toInt = ((1 + (Int.tmod y1.toInt 99)) : Int) from (zt_add rfl (show (((zrem y1 99) : Int32)).toInt = ((Int.tmod y1.toInt 99) : Int) from (zt_rem rfl rfl (by decide) (by decide))) o1q)) rfl (fun r101_ v106_ h => ?_) h
        refine ⟨fun c9q => ?_, fun c9q => ?_⟩
        · have h := h.1 (fun k => c9q ((zt_eq (show (((lg_cmp r101_ 0) : Int32)).toInt = ((lg_cmpZ r101_.toInt 0) : Int) from (zt_lg_cmp rfl rfl)) rfl).mpr k))
          refine zJ_LAW_follows_568 rfl rfl rfl h_Q h
        · have h := h.2 ((zt_eq (show (((lg_cmp r101_ 0) : Int32)).toInt = ((lg_cmpZ r101_.toInt 0) : Int) from (zt_lg_cmp rfl rfl)) rfl).mp c9q)
          refine z_LAW_undo rfl (fun r111_ v116_ h => ?_) h
          refine ⟨fun c8q => ?_, fun c8q => ?_⟩
          · have h := h.1 ((zt_lt (show (((lg_cmp r111_ 0) : Int32)).toInt = ((lg_cmpZ r111_.toInt 0) : Int) from (zt_lg_cmp rfl rfl)) rfl).mp c8q)
            refine zJ_LAW_follows_568 rfl rfl rfl h_Q h
          · have h := h.2 (fun k => c8q ((zt_lt (show (((lg_cmp r111_ 0) : Int32)).toInt = ((lg_cmpZ r111_.toInt 0) : Int) from (zt_lg_cmp rfl rfl)) rfl).mpr k))
            refine ⟨fun c7q => ?_, fun c7q => ?_⟩
            · have h := h.1 ((zt_eq (show (((Int64.toInt32 r42_) : Int32)).toInt = ((wi r42_.toInt) : Int) from (zt_l2i rfl)) rfl).mp c7q)
              refine zJ_LAW_follows_555 rfl rfl rfl h_Q h
            · have h := h.2 (fun k => c7q ((zt_eq (show (((Int64.toInt32 r42_) : Int32)).toInt = ((wi r42_.toInt) : Int) from (zt_l2i rfl)) rfl).mpr k))
              obtain ⟨o2q, h⟩ := h
              refine z_LAW_set rfl (show ((((Int64.toInt32 r42_) - 1) : Int32)).toInt = (((wi r42_.toInt) - 1) : Int) from (zt_sub (show (((Int64.toInt32 r42_) : Int32)).toInt = ((wi r42_.toInt) : Int) from (zt_l2i rfl)) rfl o2q)) rfl (fun r132_ v137_ h => ?_) h
              refine ⟨fun c6q => ?_, fun c6q => ?_⟩
              · have h := h.1 (fun k => c6q ((zt_eq (show (((lg_cmp r132_ (Int32.toInt64 (Int64.toInt32 r42_))) : Int32)).toInt = ((lg_cmpZ r132_.toInt (wi r42_.toInt)) : Int) from (zt_lg_cmp rfl (show (Int32.toInt64 (Int64.toInt32 r42_)).toInt = ((wi r42_.toInt) : Int) from (zt_i2l (show (((Int64.toInt32 r42_) : Int32)).toInt = ((wi r42_.toInt) : Int) from (zt_l2i rfl)))))) rfl).mpr k))
                refine zJ_LAW_follows_568 rfl rfl rfl h_Q h
              · have h := h.2 ((zt_eq (show (((lg_cmp r132_ (Int32.toInt64 (Int64.toInt32 r42_))) : Int32)).toInt = ((lg_cmpZ r132_.toInt (wi r42_.toInt)) : Int) from (zt_lg_cmp rfl (show (Int32.toInt64 (Int64.toInt32 r42_)).toInt = ((wi r42_.toInt) : Int) from (zt_i2l (show (((Int64.toInt32 r42_) : Int32)).toInt = ((wi r42_.toInt) : Int) from (zt_l2i rfl)))))) rfl).mp c6q)
                refine z_LAW_ticks (show (((1 + (zrem y1 99)) : Int32)).toInt = ((1 + (Int.tmod y1.toInt 99)) : Int) from (zt_add rfl (show (((zrem y1 99) : Int32)).toInt = ((Int.tmod y1.toInt 99) : Int) from (zt_rem rfl rfl (by decide) (by decide))) o1q)) rfl (fun r142_ v147_ h => ?_) h
                refine ⟨fun c5q => ?_, fun c5q => ?_⟩
                · have h := h.1 ((zt_le (show (((lg_cmp r142_ 0) : Int32)).toInt = ((lg_cmpZ r142_.toInt 0) : Int) from (zt_lg_cmp rfl rfl)) rfl).mp c5q)
                  refine zJ_LAW_follows_568 rfl rfl rfl h_Q h
                · have h := h.2 (fun k => c5q ((zt_le (show (((lg_cmp r142_ 0) : Int32)).toInt = ((lg_cmpZ r142_.toInt 0) : Int) from (zt_lg_cmp rfl rfl)) rfl).mpr k))
                  refine z_LAW_undo rfl (fun r152_ v157_ h => ?_) h
                  refine ⟨fun c4q => ?_, fun c4q => ?_⟩
                  · have h := h.1 ((zt_lt (show (((lg_cmp r152_ 0) : Int32)).toInt = ((lg_cmpZ r152_.toInt 0) : Int) from (zt_lg_cmp rfl rfl)) rfl).mp c4q)
                    refine zJ_LAW_follows_568 rfl rfl rfl h_Q h
                  · have h := h.2 (fun k => c4q ((zt_lt (show (((lg_cmp r152_ 0) : Int32)).toInt = ((lg_cmpZ r152_.toInt 0) : Int) from (zt_lg_cmp rfl rfl)) rfl).mpr k))
                    refine z_LAW_undo rfl (fun r162_ v167_ h => ?_) h
                    refine ⟨fun c3q => ?_, fun c3q => ?_⟩
                    · have h := h.1 ((zt_lt (show (((lg_cmp r162_ 0) : Int32)).toInt = ((lg_cmpZ r162_.toInt 0) : Int) from (zt_lg_cmp rfl rfl)) rfl).mp c3q)
                      refine zJ_LAW_follows_568 rfl rfl rfl h_Q h
                    · have h := h.2 (fun k => c3q ((zt_lt (show (((lg_cmp r162_ 0) : Int32)).toInt = ((lg_cmpZ r162_.toInt 0) : Int) from (zt_lg_cmp rfl rfl)) rfl).mpr k))
                      refine zJ_LAW_follows_555 rfl rfl rfl h_Q h
def ZJ_LAW_follows_435 (x1 : Int) (y1 : Int) (y2 : Int) (u0 : Int) (v0 : TZ) (Q : (Int → TZ → Prop)) : Prop := (ZJ_LAW_follows_437 x1 y1 y2 u0 v0 Q)
set_option maxRecDepth 100000 in
theorem zJ_LAW_follows_435 {x1 : Int32} {x1z : Int} {y1 : Int32} {y1z : Int} {y2 : Int64} {y2z : Int} {u0 : Int32} {u0z : Int} {v0 : TT} {v0z : TZ}  {Q : Int32 → TT → Prop} {Qz : (Int → TZ → Prop)} (e_x1 : x1.toInt = x1z) (e_y1 : y1.toInt = y1z) (e_y2 : y2.toInt = y2z) (e_u0 : u0.toInt = u0z) (e_v0 : (aT v0) = v0z) (h_Q : ∀ (a0 : Int32) (a1 : TT), Qz a0.toInt (aT a1) → Q a0 a1) (h : ZJ_LAW_follows_435 x1z y1z y2z u0z v0z Qz) : PJ_LAW_follows_435 x1 y1 y2 u0 v0 Q := by
  subst e_x1
  subst e_y1
  subst e_y2
  subst e_u0
  subst e_v0
  unfold ZJ_LAW_follows_435 at h
  unfold PJ_LAW_follows_435
  refine zJ_LAW_follows_437 rfl rfl rfl rfl rfl h_Q h
def ZJ_LAW_follows_434 (x1 : Int) (y1 : Int) (y2 : Int) (v0 : TZ) (Q : (Int → TZ → Prop)) : Prop := (ZJ_LAW_follows_435 x1 y1 y2 0 v0 Q)
set_option maxRecDepth 100000 in
theorem zJ_LAW_follows_434 {x1 : Int32} {x1z : Int} {y1 : Int32} {y1z : Int} {y2 : Int64} {y2z : Int} {v0 : TT} {v0z : TZ}  {Q : Int32 → TT → Prop} {Qz : (Int → TZ → Prop)} (e_x1 : x1.toInt = x1z) (e_y1 : y1.toInt = y1z) (e_y2 : y2.toInt = y2z) (e_v0 : (aT v0) = v0z) (h_Q : ∀ (a0 : Int32) (a1 : TT), Qz a0.toInt (aT a1) → Q a0 a1) (h : ZJ_LAW_follows_434 x1z y1z y2z v0z Qz) : PJ_LAW_follows_434 x1 y1 y2 v0 Q := by
  subst e_x1
  subst e_y1
  subst e_y2
  subst e_v0
  unfold ZJ_LAW_follows_434 at h
  unfold PJ_LAW_follows_434
  refine zJ_LAW_follows_435 rfl rfl rfl rfl rfl h_Q h
def ZJ_LAW_follows_388 (x1 : Int) (y1 : Int) (y2 : Int) (y11 : Int) (u0 : Int) (u1 : Int) (v0 : TZ) (Q : (Int → TZ → Prop)) : Prop := ((¬ (lg_cmpZ u1 u0) = 0 → (ZJ_LAW_follows_434 x1 y1 y2 v0 Q)) ∧ ((lg_cmpZ u1 u0) = 0 → (Z_LAW_ticks 1 v0 (fun r220_ v225_ => ((¬ (lg_cmpZ r220_ y11) = 0 → (ZJ_LAW_follows_434 x1 y1 y2 v225_ Q)) ∧ ((lg_cmpZ r220_ y11) = 0 → (Z_LAW_undo v225_ (fun r230_ v235_ => (((lg_cmpZ r230_ 0) < 0 → (ZJ_LAW_follows_434 x1 y1 y2 v235_ Q)) ∧ (¬ (lg_cmpZ r230_ 0) < 0 → (Z_LAW_undo v235_ (fun r240_ v245_ => (((lg_cmpZ r240_ 0) < 0 → (ZJ_LAW_follows_434 x1 y1 y2 v245_ Q)) ∧ (¬ (lg_cmpZ r240_ 0) < 0 → (Z_LAW_now v245_ (fun r250_ => ((¬ (lg_cmpZ r250_ y2) = 0 → (ZJ_LAW_follows_434 x1 y1 y2 v245_ Q)) ∧ ((lg_cmpZ r250_ y2) = 0 → (ZJ_LAW_follows_435 x1 y1 y2 1 v245_ Q)))))))))))))))))))
set_option maxRecDepth 100000 in
theorem zJ_LAW_follows_388 {x1 : Int32} {x1z : Int} {y1 : Int32} {y1z : Int} {y2 : Int64} {y2z : Int} {y11 : Int64} {y11z : Int} {u0 : Int64} {u0z : Int} {u1 : Int64} {u1z : Int} {v0 : TT} {v0z : TZ}  {Q : Int32 → TT → Prop} {Qz : (Int → TZ → Prop)} (e_x1 : x1.toInt = x1z) (e_y1 : y1.toInt = y1z) (e_y2 : y2.toInt = y2z) (e_y11 : y11.toInt = y11z) (e_u0 : u0.toInt = u0z) (e_u1 : u1.toInt = u1z) (e_v0 : (aT v0) = v0z) (h_Q : ∀ (a0 : Int32) (a1 : TT), Qz a0.toInt (aT a1) → Q a0 a1) (h : ZJ_LAW_follows_388 x1z y1z y2z y11z u0z u1z v0z Qz) : PJ_LAW_follows_388 x1 y1 y2 y11 u0 u1 v0 Q := by
  subst e_x1
  subst e_y1
  subst e_y2
  subst e_y11
  subst e_u0
  subst e_u1
  subst e_v0
  unfold ZJ_LAW_follows_388 at h
  unfold PJ_LAW_follows_388
  refine ⟨fun c5q => ?_, fun c5q => ?_⟩
  · have h := h.1 (fun k => c5q ((zt_eq (show (((lg_cmp u1 u0) : Int32)).toInt = ((lg_cmpZ u1.toInt u0.toInt) : Int) from (zt_lg_cmp rfl rfl)) rfl).mpr k))
    refine zJ_LAW_follows_434 rfl rfl rfl rfl h_Q h
  · have h := h.2 ((zt_eq (show (((lg_cmp u1 u0) : Int32)).toInt = ((lg_cmpZ u1.toInt u0.toInt) : Int) from (zt_lg_cmp rfl rfl)) rfl).mp c5q)
    refine z_LAW_ticks rfl rfl (fun r220_ v225_ h => ?_) h
    refine ⟨fun c4q => ?_, fun c4q => ?_⟩
    · have h := h.1 (fun k => c4q ((zt_eq (show (((lg_cmp r220_ y11) : Int32)).toInt = ((lg_cmpZ r220_.toInt y11.toInt) : Int) from (zt_lg_cmp rfl rfl)) rfl).mpr k))
      refine zJ_LAW_follows_434 rfl rfl rfl rfl h_Q h
    · have h := h.2 ((zt_eq (show (((lg_cmp r220_ y11) : Int32)).toInt = ((lg_cmpZ r220_.toInt y11.toInt) : Int) from (zt_lg_cmp rfl rfl)) rfl).mp c4q)
      refine z_LAW_undo rfl (fun r230_ v235_ h => ?_) h
      refine ⟨fun c3q => ?_, fun c3q => ?_⟩
      · have h := h.1 ((zt_lt (show (((lg_cmp r230_ 0) : Int32)).toInt = ((lg_cmpZ r230_.toInt 0) : Int) from (zt_lg_cmp rfl rfl)) rfl).mp c3q)
        refine zJ_LAW_follows_434 rfl rfl rfl rfl h_Q h
      · have h := h.2 (fun k => c3q ((zt_lt (show (((lg_cmp r230_ 0) : Int32)).toInt = ((lg_cmpZ r230_.toInt 0) : Int) from (zt_lg_cmp rfl rfl)) rfl).mpr k))
        refine z_LAW_undo rfl (fun r240_ v245_ h => ?_) h
        refine ⟨fun c2q => ?_, fun c2q => ?_⟩
        · have h := h.1 ((zt_lt (show (((lg_cmp r240_ 0) : Int32)).toInt = ((lg_cmpZ r240_.toInt 0) : Int) from (zt_lg_cmp rfl rfl)) rfl).mp c2q)
          refine zJ_LAW_follows_434 rfl rfl rfl rfl h_Q h
        · have h := h.2 (fun k => c2q ((zt_lt (show (((lg_cmp r240_ 0) : Int32)).toInt = ((lg_cmpZ r240_.toInt 0) : Int) from (zt_lg_cmp rfl rfl)) rfl).mpr k))
          refine z_LAW_now rfl (fun r250_ h => ?_) h
          refine ⟨fun c1q => ?_, fun c1q => ?_⟩
          · have h := h.1 (fun k => c1q ((zt_eq (show (((lg_cmp r250_ y2) : Int32)).toInt = ((lg_cmpZ r250_.toInt y2.toInt) : Int) from (zt_lg_cmp rfl rfl)) rfl).mpr k))
            refine zJ_LAW_follows_434 rfl rfl rfl rfl h_Q h
          · have h := h.2 ((zt_eq (show (((lg_cmp r250_ y2) : Int32)).toInt = ((lg_cmpZ r250_.toInt y2.toInt) : Int) from (zt_lg_cmp rfl rfl)) rfl).mp c1q)
            refine zJ_LAW_follows_435 rfl rfl rfl rfl rfl h_Q h
def ZJ_LAW_follows_366 (x1 : Int) (y1 : Int) (y2 : Int) (y4 : Int) (y8 : Int) (y11 : Int) (y13 : Int) (v0 : TZ) (Q : (Int → TZ → Prop)) : Prop := ((y4 = 0 → (ZJ_LAW_follows_434 x1 y1 y2 v0 Q)) ∧ (¬ y4 = 0 → (Z_LAW_hold y8 0 v0 (fun r209_ v214_ => ((y13 = 0 → (ZJ_LAW_follows_388 x1 y1 y2 y11 0 r209_ v214_ Q)) ∧ (¬ y13 = 0 → (ZJ_LAW_follows_388 x1 y1 y2 y11 1 r209_ v214_ Q)))))))
set_option maxRecDepth 100000 in
theorem zJ_LAW_follows_366 {x1 : Int32} {x1z : Int} {y1 : Int32} {y1z : Int} {y2 : Int64} {y2z : Int} {y4 : Int32} {y4z : Int} {y8 : Int32} {y8z : Int} {y11 : Int64} {y11z : Int} {y13 : Int32} {y13z : Int} {v0 : TT} {v0z : TZ}  {Q : Int32 → TT → Prop} {Qz : (Int → TZ → Prop)} (e_x1 : x1.toInt = x1z) (e_y1 : y1.toInt = y1z) (e_y2 : y2.toInt = y2z) (e_y4 : y4.toInt = y4z) (e_y8 : y8.toInt = y8z) (e_y11 : y11.toInt = y11z) (e_y13 : y13.toInt = y13z) (e_v0 : (aT v0) = v0z) (h_Q : ∀ (a0 : Int32) (a1 : TT), Qz a0.toInt (aT a1) → Q a0 a1) (h : ZJ_LAW_follows_366 x1z y1z y2z y4z y8z y11z y13z v0z Qz) : PJ_LAW_follows_366 x1 y1 y2 y4 y8 y11 y13 v0 Q := by
  subst e_x1
  subst e_y1
  subst e_y2
  subst e_y4
  subst e_y8
  subst e_y11
  subst e_y13
  subst e_v0
  unfold ZJ_LAW_follows_366 at h
  unfold PJ_LAW_follows_366
  refine ⟨fun c2q => ?_, fun c2q => ?_⟩
  · have h := h.1 ((zt_eq rfl rfl).mp c2q)
    refine zJ_LAW_follows_434 rfl rfl rfl rfl h_Q h
  · have h := h.2 (fun k => c2q ((zt_eq rfl rfl).mpr k))
    refine z_LAW_hold rfl rfl rfl (fun r209_ v214_ h => ?_) h
    refine ⟨fun c1q => ?_, fun c1q => ?_⟩
    · have h := h.1 ((zt_eq rfl rfl).mp c1q)
      refine zJ_LAW_follows_388 rfl rfl rfl rfl rfl rfl rfl h_Q h
    · have h := h.2 (fun k => c1q ((zt_eq rfl rfl).mpr k))
      refine zJ_LAW_follows_388 rfl rfl rfl rfl rfl rfl rfl h_Q h
def ZJ_LAW_follows_364 (x1 : Int) (y1 : Int) (y2 : Int) (y8 : Int) (y11 : Int) (y13 : Int) (u0 : Int) (v0 : TZ) (Q : (Int → TZ → Prop)) : Prop := (ZJ_LAW_follows_366 x1 y1 y2 u0 y8 y11 y13 v0 Q)
set_option maxRecDepth 100000 in
theorem zJ_LAW_follows_364 {x1 : Int32} {x1z : Int} {y1 : Int32} {y1z : Int} {y2 : Int64} {y2z : Int} {y8 : Int32} {y8z : Int} {y11 : Int64} {y11z : Int} {y13 : Int32} {y13z : Int} {u0 : Int32} {u0z : Int} {v0 : TT} {v0z : TZ}  {Q : Int32 → TT → Prop} {Qz : (Int → TZ → Prop)} (e_x1 : x1.toInt = x1z) (e_y1 : y1.toInt = y1z) (e_y2 : y2.toInt = y2z) (e_y8 : y8.toInt = y8z) (e_y11 : y11.toInt = y11z) (e_y13 : y13.toInt = y13z) (e_u0 : u0.toInt = u0z) (e_v0 : (aT v0) = v0z) (h_Q : ∀ (a0 : Int32) (a1 : TT), Qz a0.toInt (aT a1) → Q a0 a1) (h : ZJ_LAW_follows_364 x1z y1z y2z y8z y11z y13z u0z v0z Qz) : PJ_LAW_follows_364 x1 y1 y2 y8 y11 y13 u0 v0 Q := by
  subst e_x1
  subst e_y1
  subst e_y2
  subst e_y8
  subst e_y11
  subst e_y13
  subst e_u0
  subst e_v0
  unfold ZJ_LAW_follows_364 at h
  unfold PJ_LAW_follows_364
  refine zJ_LAW_follows_366 rfl rfl rfl rfl rfl rfl rfl rfl h_Q h
def ZJ_LAW_follows_363 (x1 : Int) (y1 : Int) (y2 : Int) (y8 : Int) (y11 : Int) (y13 : Int) (v0 : TZ) (Q : (Int → TZ → Prop)) : Prop := (ZJ_LAW_follows_364 x1 y1 y2 y8 y11 y13 0 v0 Q)
set_option maxRecDepth 100000 in
theorem zJ_LAW_follows_363 {x1 : Int32} {x1z : Int} {y1 : Int32} {y1z : Int} {y2 : Int64} {y2z : Int} {y8 : Int32} {y8z : Int} {y11 : Int64} {y11z : Int} {y13 : Int32} {y13z : Int} {v0 : TT} {v0z : TZ}  {Q : Int32 → TT → Prop} {Qz : (Int → TZ → Prop)} (e_x1 : x1.toInt = x1z) (e_y1 : y1.toInt = y1z) (e_y2 : y2.toInt = y2z) (e_y8 : y8.toInt = y8z) (e_y11 : y11.toInt = y11z) (e_y13 : y13.toInt = y13z) (e_v0 : (aT v0) = v0z) (h_Q : ∀ (a0 : Int32) (a1 : TT), Qz a0.toInt (aT a1) → Q a0 a1) (h : ZJ_LAW_follows_363 x1z y1z y2z y8z y11z y13z v0z Qz) : PJ_LAW_follows_363 x1 y1 y2 y8 y11 y13 v0 Q := by
  subst e_x1
  subst e_y1
  subst e_y2
  subst e_y8
  subst e_y11
  subst e_y13
  subst e_v0
  unfold ZJ_LAW_follows_363 at h
  unfold PJ_LAW_follows_363
  refine zJ_LAW_follows_364 rfl rfl rfl rfl rfl rfl rfl rfl h_Q h
def ZJ_LAW_follows_254 (x1 : Int) (y1 : Int) (y2 : Int) (y4 : Int) (y8 : Int) (y9 : Int) (y11 : Int) (u0 : Int) (v0 : TZ) (Q : (Int → TZ → Prop)) : Prop := (Z_LAW_about 9 v0 (fun r197_ => (Z_LAW_about 10 v0 (fun r202_ => ((u0 = 0 → (ZJ_LAW_follows_366 x1 y1 y2 y4 y8 y11 u0 v0 Q)) ∧ (¬ u0 = 0 → (((lg_cmpZ y9 (-1)) = 0 → (ZJ_LAW_follows_366 x1 y1 y2 y4 y8 y11 u0 v0 Q)) ∧ (¬ (lg_cmpZ y9 (-1)) = 0 → ((0 ≤ (lg_cmpZ y9 100) → (ZJ_LAW_follows_366 x1 y1 y2 y4 y8 y11 u0 v0 Q)) ∧ (¬ 0 ≤ (lg_cmpZ y9 100) → (Z_LAW_ticks (wi y9) v0 (fun r258_ v263_ => (((lg_cmpZ r258_ 0) < 0 → (ZJ_LAW_follows_363 x1 y1 y2 y8 y11 u0 v263_ Q)) ∧ (¬ (lg_cmpZ r258_ 0) < 0 → (Z_LAW_readerOf y8 1 v263_ (fun r268_ => ((¬ (lg_cmpZ r268_ 0) = 0 → (ZJ_LAW_follows_363 x1 y1 y2 y8 y11 u0 v263_ Q)) ∧ ((lg_cmpZ r268_ 0) = 0 → (Z_LAW_readerOf y8 8 v263_ (fun r274_ => (((lg_cmpZ r274_ 0) ≤ 0 → (ZJ_LAW_follows_363 x1 y1 y2 y8 y11 u0 v263_ Q)) ∧ (¬ (lg_cmpZ r274_ 0) ≤ 0 → (Z_LAW_about 9 v263_ (fun r280_ => (Z_LAW_about 10 v263_ (fun r285_ => (((lg_cmpZ (wl (r280_ + r285_)) (wl (r197_ + r202_))) ≤ 0 → (ZJ_LAW_follows_363 x1 y1 y2 y8 y11 u0 v263_ Q)) ∧ (¬ (lg_cmpZ (wl (r280_ + r285_)) (wl (r197_ + r202_))) ≤ 0 → (Z_LAW_undo v263_ (fun r291_ v296_ => (((lg_cmpZ r291_ 0) < 0 → (ZJ_LAW_follows_363 x1 y1 y2 y8 y11 u0 v296_ Q)) ∧ (¬ (lg_cmpZ r291_ 0) < 0 → (ZJ_LAW_follows_364 x1 y1 y2 y8 y11 u0 1 v296_ Q)))))))))))))))))))))))))))))))))
set_option maxRecDepth 100000 in
theorem zJ_LAW_follows_254 {x1 : Int32} {x1z : Int} {y1 : Int32} {y1z : Int} {y2 : Int64} {y2z : Int} {y4 : Int32} {y4z : Int} {y8 : Int32} {y8z : Int} {y9 : Int64} {y9z : Int} {y11 : Int64} {y11z : Int} {u0 : Int32} {u0z : Int} {v0 : TT} {v0z : TZ}  {Q : Int32 → TT → Prop} {Qz : (Int → TZ → Prop)} (e_x1 : x1.toInt = x1z) (e_y1 : y1.toInt = y1z) (e_y2 : y2.toInt = y2z) (e_y4 : y4.toInt = y4z) (e_y8 : y8.toInt = y8z) (e_y9 : y9.toInt = y9z) (e_y11 : y11.toInt = y11z) (e_u0 : u0.toInt = u0z) (e_v0 : (aT v0) = v0z) (h_Q : ∀ (a0 : Int32) (a1 : TT), Qz a0.toInt (aT a1) → Q a0 a1) (h : ZJ_LAW_follows_254 x1z y1z y2z y4z y8z y9z y11z u0z v0z Qz) : PJ_LAW_follows_254 x1 y1 y2 y4 y8 y9 y11 u0 v0 Q := by
  subst e_x1
  subst e_y1
  subst e_y2
  subst e_y4
  subst e_y8
  subst e_y9
  subst e_y11
  subst e_u0
  subst e_v0
  unfold ZJ_LAW_follows_254 at h
  unfold PJ_LAW_follows_254
  refine z_LAW_about rfl rfl (fun r197_ h => ?_) h
  refine z_LAW_about rfl rfl (fun r202_ h => ?_) h
  refine ⟨fun c8q => ?_, fun c8q => ?_⟩
  · have h := h.1 ((zt_eq rfl rfl).mp c8q)
    refine zJ_LAW_follows_366 rfl rfl rfl rfl rfl rfl rfl rfl h_Q h
  · have h := h.2 (fun k => c8q ((zt_eq rfl rfl).mpr k))
    refine ⟨fun c7q => ?_, fun c7q => ?_⟩
    · have h := h.1 ((zt_eq (show (((lg_cmp y9 (-1)) : Int32)).toInt = ((lg_cmpZ y9.toInt (-1)) : Int) from (zt_lg_cmp rfl rfl)) rfl).mp c7q)
      refine zJ_LAW_follows_366 rfl rfl rfl rfl rfl rfl rfl rfl h_Q h
    · have h := h.2 (fun k => c7q ((zt_eq (show (((lg_cmp y9 (-1)) : Int32)).toInt = ((lg_cmpZ y9.toInt (-1)) : Int) from (zt_lg_cmp rfl rfl)) rfl).mpr k))
      refine ⟨fun c6q => ?_, fun c6q => ?_⟩
      · have h := h.1 ((zt_le rfl (show (((lg_cmp y9 100) : Int32)).toInt = ((lg_cmpZ y9.toInt 100) : Int) from (zt_lg_cmp rfl rfl))).mp c6q)
        refine zJ_LAW_follows_366 rfl rfl rfl rfl rfl rfl rfl rfl h_Q h
      · have h := h.2 (fun k => c6q ((zt_le rfl (show (((lg_cmp y9 100) : Int32)).toInt = ((lg_cmpZ y9.toInt 100) : Int) from (zt_lg_cmp rfl rfl))).mpr k))
        refine z_LAW_ticks (show (((Int64.toInt32 y9) : Int32)).toInt = ((wi y9.toInt) : Int) from (zt_l2i rfl)) rfl (fun r258_ v263_ h => ?_) h
        refine ⟨fun c5q => ?_, fun c5q => ?_⟩
        · have h := h.1 ((zt_lt (show (((lg_cmp r258_ 0) : Int32)).toInt = ((lg_cmpZ r258_.toInt 0) : Int) from (zt_lg_cmp rfl rfl)) rfl).mp c5q)
          refine zJ_LAW_follows_363 rfl rfl rfl rfl rfl rfl rfl h_Q h
        · have h := h.2 (fun k => c5q ((zt_lt (show (((lg_cmp r258_ 0) : Int32)).toInt = ((lg_cmpZ r258_.toInt 0) : Int) from (zt_lg_cmp rfl rfl)) rfl).mpr k))
          refine z_LAW_readerOf rfl rfl rfl (fun r268_ h => ?_) h
          refine ⟨fun c4q => ?_, fun c4q => ?_⟩
          · have h := h.1 (fun k => c4q ((zt_eq (show (((lg_cmp r268_ 0) : Int32)).toInt = ((lg_cmpZ r268_.toInt 0) : Int) from (zt_lg_cmp rfl rfl)) rfl).mpr k))
            refine zJ_LAW_follows_363 rfl rfl rfl rfl rfl rfl rfl h_Q h
          · have h := h.2 ((zt_eq (show (((lg_cmp r268_ 0) : Int32)).toInt = ((lg_cmpZ r268_.toInt 0) : Int) from (zt_lg_cmp rfl rfl)) rfl).mp c4q)
            refine z_LAW_readerOf rfl rfl rfl (fun r274_ h => ?_) h
            refine ⟨fun c3q => ?_, fun c3q => ?_⟩
            · have h := h.1 ((zt_le (show (((lg_cmp r274_ 0) : Int32)).toInt = ((lg_cmpZ r274_.toInt 0) : Int) from (zt_lg_cmp rfl rfl)) rfl).mp c3q)
              refine zJ_LAW_follows_363 rfl rfl rfl rfl rfl rfl rfl h_Q h
            · have h := h.2 (fun k => c3q ((zt_le (show (((lg_cmp r274_ 0) : Int32)).toInt = ((lg_cmpZ r274_.toInt 0) : Int) from (zt_lg_cmp rfl rfl)) rfl).mpr k))
              refine z_LAW_about rfl rfl (fun r280_ h => ?_) h
              refine z_LAW_about rfl rfl (fun r285_ h => ?_) h
              refine ⟨fun c2q => ?_, fun c2q => ?_⟩
              · have h := h.1 ((zt_le (show (((lg_cmp (r280_ + r285_) (r197_ + r202_)) : Int32)).toInt = ((lg_cmpZ (wl (r280_.toInt + r285_.toInt)) (wl (r197_.toInt + r202_.toInt))) : Int) from (zt_lg_cmp (show (r280_ + r285_).toInt = ((wl (r280_.toInt + r285_.toInt)) : Int) from (zt_ladd rfl rfl)) (show (r197_ + r202_).toInt = ((wl (r197_.toInt + r202_.toInt)) : Int) from (zt_ladd rfl rfl)))) rfl).mp c2q)
                refine zJ_LAW_follows_363 rfl rfl rfl rfl rfl rfl rfl h_Q h
              · have h := h.2 (fun k => c2q ((zt_le (show (((lg_cmp (r280_ + r285_) (r197_ + r202_)) : Int32)).toInt = ((lg_cmpZ (wl (r280_.toInt + r285_.toInt)) (wl (r197_.toInt + r202_.toInt))) : Int) from (zt_lg_cmp (show (r280_ + r285_).toInt = ((wl (r280_.toInt + r285_.toInt)) : Int) from (zt_ladd rfl rfl)) (show (r197_ + r202_).toInt = ((wl (r197_.toInt + r202_.toInt)) : Int) from (zt_ladd rfl rfl)))) rfl).mpr k))
                refine z_LAW_undo rfl (fun r291_ v296_ h => ?_) h
                refine ⟨fun c1q => ?_, fun c1q => ?_⟩
                · have h := h.1 ((zt_lt (show (((lg_cmp r291_ 0) : Int32)).toInt = ((lg_cmpZ r291_.toInt 0) : Int) from (zt_lg_cmp rfl rfl)) rfl).mp c1q)
                  refine zJ_LAW_follows_363 rfl rfl rfl rfl rfl rfl rfl h_Q h
                · have h := h.2 (fun k => c1q ((zt_lt (show (((lg_cmp r291_ 0) : Int32)).toInt = ((lg_cmpZ r291_.toInt 0) : Int) from (zt_lg_cmp rfl rfl)) rfl).mpr k))
                  refine zJ_LAW_follows_364 rfl rfl rfl rfl rfl rfl rfl rfl h_Q h
def ZJ_LAW_follows_196 (x1 : Int) (y1 : Int) (y2 : Int) (y4 : Int) (v0 : TZ) (Q : (Int → TZ → Prop)) : Prop := (Z_LAW_readerOf (Int.tmod y1 8) 0 v0 (fun r36_ => (((lg_cmpZ r36_ (-9000000000000000001)) = 0 → (ZJ_LAW_follows_437 x1 y1 y2 y4 v0 Q)) ∧ (¬ (lg_cmpZ r36_ (-9000000000000000001)) = 0 → ((y4 = 0 → (ZJ_LAW_follows_437 x1 y1 y2 y4 v0 Q)) ∧ (¬ y4 = 0 → (Z_LAW_lostIn (Int.tmod y1 8) v0 (fun r173_ v178_ => (Z_LAW_ifFree (Int.tmod y1 8) v178_ (fun r182_ v187_ => (Z_LAW_readerOf (Int.tmod y1 8) 1 v187_ (fun r191_ => ((¬ (lg_cmpZ r191_ 1) = 0 → (ZJ_LAW_follows_254 x1 y1 y2 y4 (Int.tmod y1 8) r173_ r182_ 0 v187_ Q)) ∧ ((lg_cmpZ r191_ 1) = 0 → (ZJ_LAW_follows_254 x1 y1 y2 y4 (Int.tmod y1 8) r173_ r182_ 1 v187_ Q)))))))))))))))
set_option maxRecDepth 100000 in
theorem zJ_LAW_follows_196 {x1 : Int32} {x1z : Int} {y1 : Int32} {y1z : Int} {y2 : Int64} {y2z : Int} {y4 : Int32} {y4z : Int} {v0 : TT} {v0z : TZ}  {Q : Int32 → TT → Prop} {Qz : (Int → TZ → Prop)} (e_x1 : x1.toInt = x1z) (e_y1 : y1.toInt = y1z) (e_y2 : y2.toInt = y2z) (e_y4 : y4.toInt = y4z) (e_v0 : (aT v0) = v0z) (h_Q : ∀ (a0 : Int32) (a1 : TT), Qz a0.toInt (aT a1) → Q a0 a1) (h : ZJ_LAW_follows_196 x1z y1z y2z y4z v0z Qz) : PJ_LAW_follows_196 x1 y1 y2 y4 v0 Q := by
  subst e_x1
  subst e_y1
  subst e_y2
  subst e_y4
  subst e_v0
  unfold ZJ_LAW_follows_196 at h
  unfold PJ_LAW_follows_196
  refine z_LAW_readerOf (show (((zrem y1 8) : Int32)).toInt = ((Int.tmod y1.toInt 8) : Int) from (zt_rem rfl rfl (by decide) (by decide))) rfl rfl (fun r36_ h => ?_) h
  refine ⟨fun c3q => ?_, fun c3q => ?_⟩
  · have h := h.1 ((zt_eq (show (((lg_cmp r36_ (-9000000000000000001)) : Int32)).toInt = ((lg_cmpZ r36_.toInt (-9000000000000000001)) : Int) from (zt_lg_cmp rfl rfl)) rfl).mp c3q)
    refine zJ_LAW_follows_437 rfl rfl rfl rfl rfl h_Q h
  · have h := h.2 (fun k => c3q ((zt_eq (show (((lg_cmp r36_ (-9000000000000000001)) : Int32)).toInt = ((lg_cmpZ r36_.toInt (-9000000000000000001)) : Int) from (zt_lg_cmp rfl rfl)) rfl).mpr k))
    refine ⟨fun c2q => ?_, fun c2q => ?_⟩
    · have h := h.1 ((zt_eq rfl rfl).mp c2q)
      refine zJ_LAW_follows_437 rfl rfl rfl rfl rfl h_Q h
    · have h := h.2 (fun k => c2q ((zt_eq rfl rfl).mpr k))
      refine z_LAW_lostIn (show (((zrem y1 8) : Int32)).toInt = ((Int.tmod y1.toInt 8) : Int) from (zt_rem rfl rfl (by decide) (by decide))) rfl (fun r173_ v178_ h => ?_) h
      refine z_LAW_ifFree (show (((zrem y1 8) : Int32)).toInt = ((Int.tmod y1.toInt 8) : Int) from (zt_rem rfl rfl (by decide) (by decide))) rfl (fun r182_ v187_ h => ?_) h
      refine z_LAW_readerOf (show (((zrem y1 8) : Int32)).toInt = ((Int.tmod y1.toInt 8) : Int) from (zt_rem rfl rfl (by decide) (by decide))) rfl rfl (fun r191_ h => ?_) h
      refine ⟨fun c1q => ?_, fun c1q => ?_⟩
      · have h := h.1 (fun k => c1q ((zt_eq (show (((lg_cmp r191_ 1) : Int32)).toInt = ((lg_cmpZ r191_.toInt 1) : Int) from (zt_lg_cmp rfl rfl)) rfl).mpr k))
        refine zJ_LAW_follows_254 rfl rfl rfl rfl (show (((zrem y1 8) : Int32)).toInt = ((Int.tmod y1.toInt 8) : Int) from (zt_rem rfl rfl (by decide) (by decide))) rfl rfl rfl rfl h_Q h
      · have h := h.2 ((zt_eq (show (((lg_cmp r191_ 1) : Int32)).toInt = ((lg_cmpZ r191_.toInt 1) : Int) from (zt_lg_cmp rfl rfl)) rfl).mp c1q)
        refine zJ_LAW_follows_254 rfl rfl rfl rfl (show (((zrem y1 8) : Int32)).toInt = ((Int.tmod y1.toInt 8) : Int) from (zt_rem rfl rfl (by decide) (by decide))) rfl rfl rfl rfl h_Q h
def ZJ_LAW_follows_194 (x1 : Int) (y1 : Int) (y2 : Int) (u0 : Int) (v0 : TZ) (Q : (Int → TZ → Prop)) : Prop := (ZJ_LAW_follows_196 x1 y1 y2 u0 v0 Q)
set_option maxRecDepth 100000 in
theorem zJ_LAW_follows_194 {x1 : Int32} {x1z : Int} {y1 : Int32} {y1z : Int} {y2 : Int64} {y2z : Int} {u0 : Int32} {u0z : Int} {v0 : TT} {v0z : TZ}  {Q : Int32 → TT → Prop} {Qz : (Int → TZ → Prop)} (e_x1 : x1.toInt = x1z) (e_y1 : y1.toInt = y1z) (e_y2 : y2.toInt = y2z) (e_u0 : u0.toInt = u0z) (e_v0 : (aT v0) = v0z) (h_Q : ∀ (a0 : Int32) (a1 : TT), Qz a0.toInt (aT a1) → Q a0 a1) (h : ZJ_LAW_follows_194 x1z y1z y2z u0z v0z Qz) : PJ_LAW_follows_194 x1 y1 y2 u0 v0 Q := by
  subst e_x1
  subst e_y1
  subst e_y2
  subst e_u0
  subst e_v0
  unfold ZJ_LAW_follows_194 at h
  unfold PJ_LAW_follows_194
  refine zJ_LAW_follows_196 rfl rfl rfl rfl rfl h_Q h
def ZJ_LAW_follows_193 (x1 : Int) (y1 : Int) (y2 : Int) (v0 : TZ) (Q : (Int → TZ → Prop)) : Prop := (ZJ_LAW_follows_194 x1 y1 y2 0 v0 Q)
set_option maxRecDepth 100000 in
theorem zJ_LAW_follows_193 {x1 : Int32} {x1z : Int} {y1 : Int32} {y1z : Int} {y2 : Int64} {y2z : Int} {v0 : TT} {v0z : TZ}  {Q : Int32 → TT → Prop} {Qz : (Int → TZ → Prop)} (e_x1 : x1.toInt = x1z) (e_y1 : y1.toInt = y1z) (e_y2 : y2.toInt = y2z) (e_v0 : (aT v0) = v0z) (h_Q : ∀ (a0 : Int32) (a1 : TT), Qz a0.toInt (aT a1) → Q a0 a1) (h : ZJ_LAW_follows_193 x1z y1z y2z v0z Qz) : PJ_LAW_follows_193 x1 y1 y2 v0 Q := by
  subst e_x1
  subst e_y1
  subst e_y2
  subst e_v0
  unfold ZJ_LAW_follows_193 at h
  unfold PJ_LAW_follows_193
  refine zJ_LAW_follows_194 rfl rfl rfl rfl rfl h_Q h
def ZJ_LAW_follows_158 (x1 : Int) (y1 : Int) (y2 : Int) (y4 : Int) (y5 : Int) (v0 : TZ) (Q : (Int → TZ → Prop)) : Prop := ((¬ y5 = (-1) → (ZJ_LAW_follows_196 x1 y1 y2 y4 v0 Q)) ∧ (y5 = (-1) → ((y4 = 0 → (ZJ_LAW_follows_196 x1 y1 y2 y4 v0 Q)) ∧ (¬ y4 = 0 → (Z_LAW_ticks 99 v0 (fun r302_ v307_ => ((¬ (lg_cmpZ r302_ 0) = 0 → (ZJ_LAW_follows_193 x1 y1 y2 v307_ Q)) ∧ ((lg_cmpZ r302_ 0) = 0 → (Z_LAW_undo v307_ (fun r312_ v317_ => (((lg_cmpZ r312_ 0) < 0 → (ZJ_LAW_follows_193 x1 y1 y2 v317_ Q)) ∧ (¬ (lg_cmpZ r312_ 0) < 0 → (ZJ_LAW_follows_194 x1 y1 y2 1 v317_ Q)))))))))))))
set_option maxRecDepth 100000 in
theorem zJ_LAW_follows_158 {x1 : Int32} {x1z : Int} {y1 : Int32} {y1z : Int} {y2 : Int64} {y2z : Int} {y4 : Int32} {y4z : Int} {y5 : Int32} {y5z : Int} {v0 : TT} {v0z : TZ}  {Q : Int32 → TT → Prop} {Qz : (Int → TZ → Prop)} (e_x1 : x1.toInt = x1z) (e_y1 : y1.toInt = y1z) (e_y2 : y2.toInt = y2z) (e_y4 : y4.toInt = y4z) (e_y5 : y5.toInt = y5z) (e_v0 : (aT v0) = v0z) (h_Q : ∀ (a0 : Int32) (a1 : TT), Qz a0.toInt (aT a1) → Q a0 a1) (h : ZJ_LAW_follows_158 x1z y1z y2z y4z y5z v0z Qz) : PJ_LAW_follows_158 x1 y1 y2 y4 y5 v0 Q := by
  subst e_x1
  subst e_y1
  subst e_y2
  subst e_y4
  subst e_y5
  subst e_v0
  unfold ZJ_LAW_follows_158 at h
  unfold PJ_LAW_follows_158
  refine ⟨fun c4q => ?_, fun c4q => ?_⟩
  · have h := h.1 (fun k => c4q ((zt_eq rfl rfl).mpr k))
    refine zJ_LAW_follows_196 rfl rfl rfl rfl rfl h_Q h
  · have h := h.2 ((zt_eq rfl rfl).mp c4q)
    refine ⟨fun c3q => ?_, fun c3q => ?_⟩
    · have h := h.1 ((zt_eq rfl rfl).mp c3q)
      refine zJ_LAW_follows_196 rfl rfl rfl rfl rfl h_Q h
    · have h := h.2 (fun k => c3q ((zt_eq rfl rfl).mpr k))
      refine z_LAW_ticks rfl rfl (fun r302_ v307_ h => ?_) h
      refine ⟨fun c2q => ?_, fun c2q => ?_⟩
      · have h := h.1 (fun k => c2q ((zt_eq (show (((lg_cmp r302_ 0) : Int32)).toInt = ((lg_cmpZ r302_.toInt 0) : Int) from (zt_lg_cmp rfl rfl)) rfl).mpr k))
        refine zJ_LAW_follows_193 rfl rfl rfl rfl h_Q h
      · have h := h.2 ((zt_eq (show (((lg_cmp r302_ 0) : Int32)).toInt = ((lg_cmpZ r302_.toInt 0) : Int) from (zt_lg_cmp rfl rfl)) rfl).mp c2q)
        refine z_LAW_undo rfl (fun r312_ v317_ h => ?_) h
        refine ⟨fun c1q => ?_, fun c1q => ?_⟩
        · have h := h.1 ((zt_lt (show (((lg_cmp r312_ 0) : Int32)).toInt = ((lg_cmpZ r312_.toInt 0) : Int) from (zt_lg_cmp rfl rfl)) rfl).mp c1q)
          refine zJ_LAW_follows_193 rfl rfl rfl rfl h_Q h
        · have h := h.2 (fun k => c1q ((zt_lt (show (((lg_cmp r312_ 0) : Int32)).toInt = ((lg_cmpZ r312_.toInt 0) : Int) from (zt_lg_cmp rfl rfl)) rfl).mpr k))
          refine zJ_LAW_follows_194 rfl rfl rfl rfl rfl h_Q h
def ZJ_LAW_follows_153 (x1 : Int) (y1 : Int) (y2 : Int) (u0 : Int) (v0 : TZ) (Q : (Int → TZ → Prop)) : Prop := (ZJ_LAW_follows_196 x1 y1 y2 u0 v0 Q)
set_option maxRecDepth 100000 in
theorem zJ_LAW_follows_153 {x1 : Int32} {x1z : Int} {y1 : Int32} {y1z : Int} {y2 : Int64} {y2z : Int} {u0 : Int32} {u0z : Int} {v0 : TT} {v0z : TZ}  {Q : Int32 → TT → Prop} {Qz : (Int → TZ → Prop)} (e_x1 : x1.toInt = x1z) (e_y1 : y1.toInt = y1z) (e_y2 : y2.toInt = y2z) (e_u0 : u0.toInt = u0z) (e_v0 : (aT v0) = v0z) (h_Q : ∀ (a0 : Int32) (a1 : TT), Qz a0.toInt (aT a1) → Q a0 a1) (h : ZJ_LAW_follows_153 x1z y1z y2z u0z v0z Qz) : PJ_LAW_follows_153 x1 y1 y2 u0 v0 Q := by
  subst e_x1
  subst e_y1
  subst e_y2
  subst e_u0
  subst e_v0
  unfold ZJ_LAW_follows_153 at h
  unfold PJ_LAW_follows_153
  refine zJ_LAW_follows_196 rfl rfl rfl rfl rfl h_Q h
def ZJ_LAW_follows_152 (x1 : Int) (y1 : Int) (y2 : Int) (v0 : TZ) (Q : (Int → TZ → Prop)) : Prop := (ZJ_LAW_follows_153 x1 y1 y2 0 v0 Q)
set_option maxRecDepth 100000 in
theorem zJ_LAW_follows_152 {x1 : Int32} {x1z : Int} {y1 : Int32} {y1z : Int} {y2 : Int64} {y2z : Int} {v0 : TT} {v0z : TZ}  {Q : Int32 → TT → Prop} {Qz : (Int → TZ → Prop)} (e_x1 : x1.toInt = x1z) (e_y1 : y1.toInt = y1z) (e_y2 : y2.toInt = y2z) (e_v0 : (aT v0) = v0z) (h_Q : ∀ (a0 : Int32) (a1 : TT), Qz a0.toInt (aT a1) → Q a0 a1) (h : ZJ_LAW_follows_152 x1z y1z y2z v0z Qz) : PJ_LAW_follows_152 x1 y1 y2 v0 Q := by
  subst e_x1
  subst e_y1
  subst e_y2
  subst e_v0
  unfold ZJ_LAW_follows_152 at h
  unfold PJ_LAW_follows_152
  refine zJ_LAW_follows_153 rfl rfl rfl rfl rfl h_Q h
def ZJ_LAW_follows_148 (x1 : Int) (y1 : Int) (y2 : Int) (v0 : TZ) (Q : (Int → TZ → Prop)) : Prop := (ZJ_LAW_follows_153 x1 y1 y2 1 v0 Q)
set_option maxRecDepth 100000 in
theorem zJ_LAW_follows_148 {x1 : Int32} {x1z : Int} {y1 : Int32} {y1z : Int} {y2 : Int64} {y2z : Int} {v0 : TT} {v0z : TZ}  {Q : Int32 → TT → Prop} {Qz : (Int → TZ → Prop)} (e_x1 : x1.toInt = x1z) (e_y1 : y1.toInt = y1z) (e_y2 : y2.toInt = y2z) (e_v0 : (aT v0) = v0z) (h_Q : ∀ (a0 : Int32) (a1 : TT), Qz a0.toInt (aT a1) → Q a0 a1) (h : ZJ_LAW_follows_148 x1z y1z y2z v0z Qz) : PJ_LAW_follows_148 x1 y1 y2 v0 Q := by
  subst e_x1
  subst e_y1
  subst e_y2
  subst e_v0
  unfold ZJ_LAW_follows_148 at h
  unfold PJ_LAW_follows_148
  refine zJ_LAW_follows_153 rfl rfl rfl rfl rfl h_Q h
def ZJ_LAW_follows_54 (x1 : Int) (y1 : Int) (y2 : Int) (u0 : Int) (v0 : TZ) (Q : (Int → TZ → Prop)) : Prop := (Z_T_droppedIn v0 (fun r21_ v25_ => (Z_LAW_about 8 v25_ (fun r29_ => ((r21_ = (-1) → (ZJ_LAW_follows_158 x1 y1 y2 u0 r21_ v25_ Q)) ∧ (¬ r21_ = (-1) → ((100 ≤ r21_ → (ZJ_LAW_follows_158 x1 y1 y2 u0 r21_ v25_ Q)) ∧ (¬ 100 ≤ r21_ → ((u0 = 0 → (ZJ_LAW_follows_158 x1 y1 y2 u0 r21_ v25_ Q)) ∧ (¬ u0 = 0 → (Z_LAW_ticks r21_ v25_ (fun r324_ v329_ => (((lg_cmpZ r324_ 0) ≤ 0 → (ZJ_LAW_follows_152 x1 y1 y2 v329_ Q)) ∧ (¬ (lg_cmpZ r324_ 0) ≤ 0 → (Z_LAW_about 8 v329_ (fun r334_ => (((lg_cmpZ r334_ r29_) ≤ 0 → (ZJ_LAW_follows_152 x1 y1 y2 v329_ Q)) ∧ (¬ (lg_cmpZ r334_ r29_) ≤ 0 → (Z_LAW_undo v329_ (fun r340_ v345_ => (((lg_cmpZ r340_ 0) < 0 → (ZJ_LAW_follows_152 x1 y1 y2 v345_ Q)) ∧ (¬ (lg_cmpZ r340_ 0) < 0 → ((r21_ = 1 → (ZJ_LAW_follows_148 x1 y1 y2 v345_ Q)) ∧ (¬ r21_ = 1 → zin (r21_ - 1) ∧ (Z_LAW_ticks (r21_ - 1) v345_ (fun r351_ v356_ => ((¬ (lg_cmpZ r351_ 0) = 0 → (ZJ_LAW_follows_152 x1 y1 y2 v356_ Q)) ∧ ((lg_cmpZ r351_ 0) = 0 → (Z_LAW_undo v356_ (fun r361_ v366_ => (((lg_cmpZ r361_ 0) < 0 → (ZJ_LAW_follows_152 x1 y1 y2 v366_ Q)) ∧ (¬ (lg_cmpZ r361_ 0) < 0 → (ZJ_LAW_follows_148 x1 y1 y2 v366_ Q)))))))))))))))))))))))))))))))))
set_option maxRecDepth 100000 in
theorem zJ_LAW_follows_54 {x1 : Int32} {x1z : Int} {y1 : Int32} {y1z : Int} {y2 : Int64} {y2z : Int} {u0 : Int32} {u0z : Int} {v0 : TT} {v0z : TZ}  {Q : Int32 → TT → Prop} {Qz : (Int → TZ → Prop)} (e_x1 : x1.toInt = x1z) (e_y1 : y1.toInt = y1z) (e_y2 : y2.toInt = y2z) (e_u0 : u0.toInt = u0z) (e_v0 : (aT v0) = v0z) (h_Q : ∀ (a0 : Int32) (a1 : TT), Qz a0.toInt (aT a1) → Q a0 a1) (h : ZJ_LAW_follows_54 x1z y1z y2z u0z v0z Qz) : PJ_LAW_follows_54 x1 y1 y2 u0 v0 Q := by
  subst e_x1
  subst e_y1
  subst e_y2
  subst e_u0
  subst e_v0
  unfold ZJ_LAW_follows_54 at h
  unfold PJ_LAW_follows_54
  refine z_T_droppedIn rfl (fun r21_ v25_ h => ?_) h
  refine z_LAW_about rfl rfl (fun r29_ h => ?_) h
  refine ⟨fun c10q => ?_, fun c10q => ?_⟩
  · have h := h.1 ((zt_eq rfl rfl).mp c10q)
    refine zJ_LAW_follows_158 rfl rfl rfl rfl rfl rfl h_Q h
  · have h := h.2 (fun k => c10q ((zt_eq rfl rfl).mpr k))
    refine ⟨fun c9q => ?_, fun c9q => ?_⟩
    · have h := h.1 ((zt_le rfl rfl).mp c9q)
      refine zJ_LAW_follows_158 rfl rfl rfl rfl rfl rfl h_Q h
    · have h := h.2 (fun k => c9q ((zt_le rfl rfl).mpr k))
      refine ⟨fun c8q => ?_, fun c8q => ?_⟩
      · have h := h.1 ((zt_eq rfl rfl).mp c8q)
        refine zJ_LAW_follows_158 rfl rfl rfl rfl rfl rfl h_Q h
      · have h := h.2 (fun k => c8q ((zt_eq rfl rfl).mpr k))
        refine z_LAW_ticks rfl rfl (fun r324_ v329_ h => ?_) h
        refine ⟨fun c7q => ?_, fun c7q => ?_⟩
        · have h := h.1 ((zt_le (show (((lg_cmp r324_ 0) : Int32)).toInt = ((lg_cmpZ r324_.toInt 0) : Int) from (zt_lg_cmp rfl rfl)) rfl).mp c7q)
          refine zJ_LAW_follows_152 rfl rfl rfl rfl h_Q h
        · have h := h.2 (fun k => c7q ((zt_le (show (((lg_cmp r324_ 0) : Int32)).toInt = ((lg_cmpZ r324_.toInt 0) : Int) from (zt_lg_cmp rfl rfl)) rfl).mpr k))
          refine z_LAW_about rfl rfl (fun r334_ h => ?_) h
          refine ⟨fun c6q => ?_, fun c6q => ?_⟩
          · have h := h.1 ((zt_le (show (((lg_cmp r334_ r29_) : Int32)).toInt = ((lg_cmpZ r334_.toInt r29_.toInt) : Int) from (zt_lg_cmp rfl rfl)) rfl).mp c6q)
            refine zJ_LAW_follows_152 rfl rfl rfl rfl h_Q h
          · have h := h.2 (fun k => c6q ((zt_le (show (((lg_cmp r334_ r29_) : Int32)).toInt = ((lg_cmpZ r334_.toInt r29_.toInt) : Int) from (zt_lg_cmp rfl rfl)) rfl).mpr k))
            refine z_LAW_undo rfl (fun r340_ v345_ h => ?_) h
            refine ⟨fun c5q => ?_, fun c5q => ?_⟩
            · have h := h.1 ((zt_lt (show (((lg_cmp r340_ 0) : Int32)).toInt = ((lg_cmpZ r340_.toInt 0) : Int) from (zt_lg_cmp rfl rfl)) rfl).mp c5q)
              refine zJ_LAW_follows_152 rfl rfl rfl rfl h_Q h
            · have h := h.2 (fun k => c5q ((zt_lt (show (((lg_cmp r340_ 0) : Int32)).toInt = ((lg_cmpZ r340_.toInt 0) : Int) from (zt_lg_cmp rfl rfl)) rfl).mpr k))
              refine ⟨fun c4q => ?_, fun c4q => ?_⟩
              · have h := h.1 ((zt_eq rfl rfl).mp c4q)
                refine zJ_LAW_follows_148 rfl rfl rfl rfl h_Q h
              · have h := h.2 (fun k => c4q ((zt_eq rfl rfl).mpr k))
                obtain ⟨o1q, h⟩ := h
                refine z_LAW_ticks (show (((r21_ - 1) : Int32)).toInt = ((r21_.toInt - 1) : Int) from (zt_sub rfl rfl o1q)) rfl (fun r351_ v356_ h => ?_) h
                refine ⟨fun c3q => ?_, fun c3q => ?_⟩
                · have h := h.1 (fun k => c3q ((zt_eq (show (((lg_cmp r351_ 0) : Int32)).toInt = ((lg_cmpZ r351_.toInt 0) : Int) from (zt_lg_cmp rfl rfl)) rfl).mpr k))
                  refine zJ_LAW_follows_152 rfl rfl rfl rfl h_Q h
                · have h := h.2 ((zt_eq (show (((lg_cmp r351_ 0) : Int32)).toInt = ((lg_cmpZ r351_.toInt 0) : Int) from (zt_lg_cmp rfl rfl)) rfl).mp c3q)
                  refine z_LAW_undo rfl (fun r361_ v366_ h => ?_) h
                  refine ⟨fun c2q => ?_, fun c2q => ?_⟩
                  · have h := h.1 ((zt_lt (show (((lg_cmp r361_ 0) : Int32)).toInt = ((lg_cmpZ r361_.toInt 0) : Int) from (zt_lg_cmp rfl rfl)) rfl).mp c2q)
                    refine zJ_LAW_follows_152 rfl rfl rfl rfl h_Q h
                  · have h := h.2 (fun k => c2q ((zt_lt (show (((lg_cmp r361_ 0) : Int32)).toInt = ((lg_cmpZ r361_.toInt 0) : Int) from (zt_lg_cmp rfl rfl)) rfl).mpr k))
                    refine zJ_LAW_follows_148 rfl rfl rfl rfl h_Q h
def ZJ_LAW_follows_53 (x1 : Int) (y1 : Int) (y2 : Int) (v0 : TZ) (Q : (Int → TZ → Prop)) : Prop := (ZJ_LAW_follows_54 x1 y1 y2 0 v0 Q)
set_option maxRecDepth 100000 in
theorem zJ_LAW_follows_53 {x1 : Int32} {x1z : Int} {y1 : Int32} {y1z : Int} {y2 : Int64} {y2z : Int} {v0 : TT} {v0z : TZ}  {Q : Int32 → TT → Prop} {Qz : (Int → TZ → Prop)} (e_x1 : x1.toInt = x1z) (e_y1 : y1.toInt = y1z) (e_y2 : y2.toInt = y2z) (e_v0 : (aT v0) = v0z) (h_Q : ∀ (a0 : Int32) (a1 : TT), Qz a0.toInt (aT a1) → Q a0 a1) (h : ZJ_LAW_follows_53 x1z y1z y2z v0z Qz) : PJ_LAW_follows_53 x1 y1 y2 v0 Q := by
  subst e_x1
  subst e_y1
  subst e_y2
  subst e_v0
  unfold ZJ_LAW_follows_53 at h
  unfold PJ_LAW_follows_53
  refine zJ_LAW_follows_54 rfl rfl rfl rfl rfl h_Q h
def Z_LAW_follows (x1 : Int) (v0 : TZ) (Q : (Int → TZ → Prop)) : Prop := (Z_LAW_now v0 (fun r1_ => (Z_LAW_save 1 v0 (fun r6_ v11_ => (Z_LAW_about 7 v11_ (fun r15_ => ((¬ (lg_cmpZ r6_ r15_) = 0 → (ZJ_LAW_follows_53 x1 x1 r1_ v11_ Q)) ∧ ((lg_cmpZ r6_ r15_) = 0 → (Z_LAW_simulate x1 6 v11_ (fun r371_ v376_ => (Z_LAW_simulate x1 6 v376_ (fun r380_ v385_ => ((¬ (lg_cmpZ r371_ r380_) = 0 → (ZJ_LAW_follows_53 x1 x1 r1_ v385_ Q)) ∧ ((lg_cmpZ r371_ r380_) = 0 → (Z_LAW_now v385_ (fun r390_ => ((¬ (lg_cmpZ r390_ r1_) = 0 → (ZJ_LAW_follows_53 x1 x1 r1_ v385_ Q)) ∧ ((lg_cmpZ r390_ r1_) = 0 → (ZJ_LAW_follows_54 x1 x1 r1_ 1 v385_ Q)))))))))))))))))))
set_option maxRecDepth 100000 in
theorem z_LAW_follows {x1 : Int32} {x1z : Int} {v0 : TT} {v0z : TZ}  {Q : Int32 → TT → Prop} {Qz : (Int → TZ → Prop)} (e_x1 : x1.toInt = x1z) (e_v0 : (aT v0) = v0z) (h_Q : ∀ (a0 : Int32) (a1 : TT), Qz a0.toInt (aT a1) → Q a0 a1) (h : Z_LAW_follows x1z v0z Qz) : P_LAW_follows x1 v0 Q := by
  subst e_x1
  subst e_v0
  unfold Z_LAW_follows at h
  unfold P_LAW_follows
  refine z_LAW_now rfl (fun r1_ h => ?_) h
  refine z_LAW_save rfl rfl (fun r6_ v11_ h => ?_) h
  refine z_LAW_about rfl rfl (fun r15_ h => ?_) h
  refine ⟨fun c3q => ?_, fun c3q => ?_⟩
  · have h := h.1 (fun k => c3q ((zt_eq (show (((lg_cmp r6_ r15_) : Int32)).toInt = ((lg_cmpZ r6_.toInt r15_.toInt) : Int) from (zt_lg_cmp rfl rfl)) rfl).mpr k))
    refine zJ_LAW_follows_53 rfl rfl rfl rfl h_Q h
  · have h := h.2 ((zt_eq (show (((lg_cmp r6_ r15_) : Int32)).toInt = ((lg_cmpZ r6_.toInt r15_.toInt) : Int) from (zt_lg_cmp rfl rfl)) rfl).mp c3q)
    refine z_LAW_simulate (show (Int32.toInt64 x1).toInt = (x1.toInt : Int) from (zt_i2l rfl)) rfl rfl (fun r371_ v376_ h => ?_) h
    refine z_LAW_simulate (show (Int32.toInt64 x1).toInt = (x1.toInt : Int) from (zt_i2l rfl)) rfl rfl (fun r380_ v385_ h => ?_) h
    refine ⟨fun c2q => ?_, fun c2q => ?_⟩
    · have h := h.1 (fun k => c2q ((zt_eq (show (((lg_cmp r371_ r380_) : Int32)).toInt = ((lg_cmpZ r371_.toInt r380_.toInt) : Int) from (zt_lg_cmp rfl rfl)) rfl).mpr k))
      refine zJ_LAW_follows_53 rfl rfl rfl rfl h_Q h
    · have h := h.2 ((zt_eq (show (((lg_cmp r371_ r380_) : Int32)).toInt = ((lg_cmpZ r371_.toInt r380_.toInt) : Int) from (zt_lg_cmp rfl rfl)) rfl).mp c2q)
      refine z_LAW_now rfl (fun r390_ h => ?_) h
      refine ⟨fun c1q => ?_, fun c1q => ?_⟩
      · have h := h.1 (fun k => c1q ((zt_eq (show (((lg_cmp r390_ r1_) : Int32)).toInt = ((lg_cmpZ r390_.toInt r1_.toInt) : Int) from (zt_lg_cmp rfl rfl)) rfl).mpr k))
        refine zJ_LAW_follows_53 rfl rfl rfl rfl h_Q h
      · have h := h.2 ((zt_eq (show (((lg_cmp r390_ r1_) : Int32)).toInt = ((lg_cmpZ r390_.toInt r1_.toInt) : Int) from (zt_lg_cmp rfl rfl)) rfl).mp c1q)
        refine zJ_LAW_follows_54 rfl rfl rfl rfl rfl h_Q h
