def ZJ_LAW_act_116 (x1 : Int) (x2 : Int) (y2 : Int) (y3 : Int) (v0 : TZ) (Q : (Int → TZ → Prop)) : Prop := zin (1 + (Int.tmod (Int.tdiv y3 100) 40)) ∧ (Z_LAW_write (Int.tmod y2 8) (Int.tmod y3 100) (1 + (Int.tmod (Int.tdiv y3 100) 40)) v0 (fun r2_ v7_ => (Q r2_ v7_)))
set_option maxRecDepth 100000 in
theorem zJ_LAW_act_116 {x1 : Int32} {x1z : Int} {x2 : Int32} {x2z : Int} {y2 : Int32} {y2z : Int} {y3 : Int32} {y3z : Int} {v0 : TT} {v0z : TZ}  {Q : Int64 → TT → Prop} {Qz : (Int → TZ → Prop)} (e_x1 : x1.toInt = x1z) (e_x2 : x2.toInt = x2z) (e_y2 : y2.toInt = y2z) (e_y3 : y3.toInt = y3z) (e_v0 : (aT v0) = v0z) (h_Q : ∀ (a0 : Int64) (a1 : TT), Qz a0.toInt (aT a1) → Q a0 a1) (h : ZJ_LAW_act_116 x1z x2z y2z y3z v0z Qz) : PJ_LAW_act_116 x1 x2 y2 y3 v0 Q := by
  subst e_x1
  subst e_x2
  subst e_y2
  subst e_y3
  subst e_v0
  unfold ZJ_LAW_act_116 at h
  unfold PJ_LAW_act_116
  obtain ⟨o1q, h⟩ := h
  refine z_LAW_write (show (((zrem y2 8) : Int32)).toInt = ((Int.tmod y2.toInt 8) : Int) from (zt_rem rfl rfl (by decide) (by decide))) (show (((zrem y3 100) : Int32)).toInt = ((Int.tmod y3.toInt 100) : Int) from (zt_rem rfl rfl (by decide) (by decide))) (show (((1 + (zrem (y3 / 100) 40)) : Int32)).toInt = ((1 + (Int.tmod (Int.tdiv y3.toInt 100) 40)) : Int) from (zt_add rfl (show (((zrem (y3 / 100) 40) : Int32)).toInt = ((Int.tmod (Int.tdiv y3.toInt 100) 40) : Int) from (zt_rem (show (((y3 / 100) : Int32)).toInt = ((Int.tdiv y3.toInt 100) : Int) from (zt_div rfl rfl (by decide))) rfl (by decide) (by decide))) o1q)) rfl (fun r2_ v7_ h => ?_) h
  exact h_Q _ _ h
def ZJ_LAW_act_155 (x1 : Int) (x2 : Int) (y3 : Int) (u0 : Int) (v0 : TZ) (Q : (Int → TZ → Prop)) : Prop := ((¬ (Int.tmod (Int.tdiv y3 9) 2) = 0 → (Z_LAW_join u0 (Int.tmod (Int.tdiv y3 3) 3) 0 v0 (fun r19_ v24_ => (Q r19_ v24_)))) ∧ ((Int.tmod (Int.tdiv y3 9) 2) = 0 → (Z_LAW_join u0 (Int.tmod (Int.tdiv y3 3) 3) 1 v0 (fun r28_ v33_ => (Q r28_ v33_)))))
set_option maxRecDepth 100000 in
theorem zJ_LAW_act_155 {x1 : Int32} {x1z : Int} {x2 : Int32} {x2z : Int} {y3 : Int32} {y3z : Int} {u0 : Int32} {u0z : Int} {v0 : TT} {v0z : TZ}  {Q : Int64 → TT → Prop} {Qz : (Int → TZ → Prop)} (e_x1 : x1.toInt = x1z) (e_x2 : x2.toInt = x2z) (e_y3 : y3.toInt = y3z) (e_u0 : u0.toInt = u0z) (e_v0 : (aT v0) = v0z) (h_Q : ∀ (a0 : Int64) (a1 : TT), Qz a0.toInt (aT a1) → Q a0 a1) (h : ZJ_LAW_act_155 x1z x2z y3z u0z v0z Qz) : PJ_LAW_act_155 x1 x2 y3 u0 v0 Q := by
  subst e_x1
  subst e_x2
  subst e_y3
  subst e_u0
  subst e_v0
  unfold ZJ_LAW_act_155 at h
  unfold PJ_LAW_act_155
  refine ⟨fun c1q => ?_, fun c1q => ?_⟩
  · have h := h.1 (fun k => c1q ((zt_eq (show (((zrem (y3 / 9) 2) : Int32)).toInt = ((Int.tmod (Int.tdiv y3.toInt 9) 2) : Int) from (zt_rem (show (((y3 / 9) : Int32)).toInt = ((Int.tdiv y3.toInt 9) : Int) from (zt_div rfl rfl (by decide))) rfl (by decide) (by decide))) rfl).mpr k))
    refine z_LAW_join rfl (show (((zrem (y3 / 3) 3) : Int32)).toInt = ((Int.tmod (Int.tdiv y3.toInt 3) 3) : Int) from (zt_rem (show (((y3 / 3) : Int32)).toInt = ((Int.tdiv y3.toInt 3) : Int) from (zt_div rfl rfl (by decide))) rfl (by decide) (by decide))) rfl rfl (fun r19_ v24_ h => ?_) h
    exact h_Q _ _ h
  · have h := h.2 ((zt_eq (show (((zrem (y3 / 9) 2) : Int32)).toInt = ((Int.tmod (Int.tdiv y3.toInt 9) 2) : Int) from (zt_rem (show (((y3 / 9) : Int32)).toInt = ((Int.tdiv y3.toInt 9) : Int) from (zt_div rfl rfl (by decide))) rfl (by decide) (by decide))) rfl).mp c1q)
    refine z_LAW_join rfl (show (((zrem (y3 / 3) 3) : Int32)).toInt = ((Int.tmod (Int.tdiv y3.toInt 3) 3) : Int) from (zt_rem (show (((y3 / 3) : Int32)).toInt = ((Int.tdiv y3.toInt 3) : Int) from (zt_div rfl rfl (by decide))) rfl (by decide) (by decide))) rfl rfl (fun r28_ v33_ h => ?_) h
    exact h_Q _ _ h
def ZJ_LAW_act_138 (x1 : Int) (x2 : Int) (y2 : Int) (y3 : Int) (v0 : TZ) (Q : (Int → TZ → Prop)) : Prop := (((Int.tmod y3 3) ≤ 0 → (ZJ_LAW_act_155 x1 x2 y3 (Int.tmod y2 8) v0 Q)) ∧ (¬ (Int.tmod y3 3) ≤ 0 → (ZJ_LAW_act_155 x1 x2 y3 (Int.tmod y2 3) v0 Q)))
set_option maxRecDepth 100000 in
theorem zJ_LAW_act_138 {x1 : Int32} {x1z : Int} {x2 : Int32} {x2z : Int} {y2 : Int32} {y2z : Int} {y3 : Int32} {y3z : Int} {v0 : TT} {v0z : TZ}  {Q : Int64 → TT → Prop} {Qz : (Int → TZ → Prop)} (e_x1 : x1.toInt = x1z) (e_x2 : x2.toInt = x2z) (e_y2 : y2.toInt = y2z) (e_y3 : y3.toInt = y3z) (e_v0 : (aT v0) = v0z) (h_Q : ∀ (a0 : Int64) (a1 : TT), Qz a0.toInt (aT a1) → Q a0 a1) (h : ZJ_LAW_act_138 x1z x2z y2z y3z v0z Qz) : PJ_LAW_act_138 x1 x2 y2 y3 v0 Q := by
  subst e_x1
  subst e_x2
  subst e_y2
  subst e_y3
  subst e_v0
  unfold ZJ_LAW_act_138 at h
  unfold PJ_LAW_act_138
  refine ⟨fun c1q => ?_, fun c1q => ?_⟩
  · have h := h.1 ((zt_le (show (((zrem y3 3) : Int32)).toInt = ((Int.tmod y3.toInt 3) : Int) from (zt_rem rfl rfl (by decide) (by decide))) rfl).mp c1q)
    refine zJ_LAW_act_155 rfl rfl rfl (show (((zrem y2 8) : Int32)).toInt = ((Int.tmod y2.toInt 8) : Int) from (zt_rem rfl rfl (by decide) (by decide))) rfl h_Q h
  · have h := h.2 (fun k => c1q ((zt_le (show (((zrem y3 3) : Int32)).toInt = ((Int.tmod y3.toInt 3) : Int) from (zt_rem rfl rfl (by decide) (by decide))) rfl).mpr k))
    refine zJ_LAW_act_155 rfl rfl rfl (show (((zrem y2 3) : Int32)).toInt = ((Int.tmod y2.toInt 3) : Int) from (zt_rem rfl rfl (by decide) (by decide))) rfl h_Q h
def ZJ_LAW_act_195 (x1 : Int) (x2 : Int) (y3 : Int) (u0 : Int) (v0 : TZ) (Q : (Int → TZ → Prop)) : Prop := zin (1 + (Int.tmod (Int.tdiv y3 3) 9)) ∧ (Z_LAW_read u0 (1 + (Int.tmod (Int.tdiv y3 3) 9)) v0 (fun r41_ v46_ => (Q r41_ v46_)))
set_option maxRecDepth 100000 in
theorem zJ_LAW_act_195 {x1 : Int32} {x1z : Int} {x2 : Int32} {x2z : Int} {y3 : Int32} {y3z : Int} {u0 : Int32} {u0z : Int} {v0 : TT} {v0z : TZ}  {Q : Int64 → TT → Prop} {Qz : (Int → TZ → Prop)} (e_x1 : x1.toInt = x1z) (e_x2 : x2.toInt = x2z) (e_y3 : y3.toInt = y3z) (e_u0 : u0.toInt = u0z) (e_v0 : (aT v0) = v0z) (h_Q : ∀ (a0 : Int64) (a1 : TT), Qz a0.toInt (aT a1) → Q a0 a1) (h : ZJ_LAW_act_195 x1z x2z y3z u0z v0z Qz) : PJ_LAW_act_195 x1 x2 y3 u0 v0 Q := by
  subst e_x1
  subst e_x2
  subst e_y3
  subst e_u0
  subst e_v0
  unfold ZJ_LAW_act_195 at h
  unfold PJ_LAW_act_195
  obtain ⟨o1q, h⟩ := h
  refine z_LAW_read rfl (show (((1 + (zrem (y3 / 3) 9)) : Int32)).toInt = ((1 + (Int.tmod (Int.tdiv y3.toInt 3) 9)) : Int) from (zt_add rfl (show (((zrem (y3 / 3) 9) : Int32)).toInt = ((Int.tmod (Int.tdiv y3.toInt 3) 9) : Int) from (zt_rem (show (((y3 / 3) : Int32)).toInt = ((Int.tdiv y3.toInt 3) : Int) from (zt_div rfl rfl (by decide))) rfl (by decide) (by decide))) o1q)) rfl (fun r41_ v46_ h => ?_) h
  exact h_Q _ _ h
def ZJ_LAW_act_178 (x1 : Int) (x2 : Int) (y2 : Int) (y3 : Int) (v0 : TZ) (Q : (Int → TZ → Prop)) : Prop := (((Int.tmod y3 3) ≤ 0 → (ZJ_LAW_act_195 x1 x2 y3 (Int.tmod y2 8) v0 Q)) ∧ (¬ (Int.tmod y3 3) ≤ 0 → (ZJ_LAW_act_195 x1 x2 y3 (Int.tmod y2 3) v0 Q)))
set_option maxRecDepth 100000 in
theorem zJ_LAW_act_178 {x1 : Int32} {x1z : Int} {x2 : Int32} {x2z : Int} {y2 : Int32} {y2z : Int} {y3 : Int32} {y3z : Int} {v0 : TT} {v0z : TZ}  {Q : Int64 → TT → Prop} {Qz : (Int → TZ → Prop)} (e_x1 : x1.toInt = x1z) (e_x2 : x2.toInt = x2z) (e_y2 : y2.toInt = y2z) (e_y3 : y3.toInt = y3z) (e_v0 : (aT v0) = v0z) (h_Q : ∀ (a0 : Int64) (a1 : TT), Qz a0.toInt (aT a1) → Q a0 a1) (h : ZJ_LAW_act_178 x1z x2z y2z y3z v0z Qz) : PJ_LAW_act_178 x1 x2 y2 y3 v0 Q := by
  subst e_x1
  subst e_x2
  subst e_y2
  subst e_y3
  subst e_v0
  unfold ZJ_LAW_act_178 at h
  unfold PJ_LAW_act_178
  refine ⟨fun c1q => ?_, fun c1q => ?_⟩
  · have h := h.1 ((zt_le (show (((zrem y3 3) : Int32)).toInt = ((Int.tmod y3.toInt 3) : Int) from (zt_rem rfl rfl (by decide) (by decide))) rfl).mp c1q)
    refine zJ_LAW_act_195 rfl rfl rfl (show (((zrem y2 8) : Int32)).toInt = ((Int.tmod y2.toInt 8) : Int) from (zt_rem rfl rfl (by decide) (by decide))) rfl h_Q h
  · have h := h.2 (fun k => c1q ((zt_le (show (((zrem y3 3) : Int32)).toInt = ((Int.tmod y3.toInt 3) : Int) from (zt_rem rfl rfl (by decide) (by decide))) rfl).mpr k))
    refine zJ_LAW_act_195 rfl rfl rfl (show (((zrem y2 3) : Int32)).toInt = ((Int.tmod y2.toInt 3) : Int) from (zt_rem rfl rfl (by decide) (by decide))) rfl h_Q h
def ZJ_LAW_act_216 (x1 : Int) (x2 : Int) (y2 : Int) (y3 : Int) (v0 : TZ) (Q : (Int → TZ → Prop)) : Prop := ((¬ (Int.tmod y3 2) = 0 → (Z_LAW_hold (Int.tmod y2 4) 0 v0 (fun r64_ v69_ => (Q r64_ v69_)))) ∧ ((Int.tmod y3 2) = 0 → (Z_LAW_hold (Int.tmod y2 4) 1 v0 (fun r73_ v78_ => (Q r73_ v78_)))))
set_option maxRecDepth 100000 in
theorem zJ_LAW_act_216 {x1 : Int32} {x1z : Int} {x2 : Int32} {x2z : Int} {y2 : Int32} {y2z : Int} {y3 : Int32} {y3z : Int} {v0 : TT} {v0z : TZ}  {Q : Int64 → TT → Prop} {Qz : (Int → TZ → Prop)} (e_x1 : x1.toInt = x1z) (e_x2 : x2.toInt = x2z) (e_y2 : y2.toInt = y2z) (e_y3 : y3.toInt = y3z) (e_v0 : (aT v0) = v0z) (h_Q : ∀ (a0 : Int64) (a1 : TT), Qz a0.toInt (aT a1) → Q a0 a1) (h : ZJ_LAW_act_216 x1z x2z y2z y3z v0z Qz) : PJ_LAW_act_216 x1 x2 y2 y3 v0 Q := by
  subst e_x1
  subst e_x2
  subst e_y2
  subst e_y3
  subst e_v0
  unfold ZJ_LAW_act_216 at h
  unfold PJ_LAW_act_216
  refine ⟨fun c1q => ?_, fun c1q => ?_⟩
  · have h := h.1 (fun k => c1q ((zt_eq (show (((zrem y3 2) : Int32)).toInt = ((Int.tmod y3.toInt 2) : Int) from (zt_rem rfl rfl (by decide) (by decide))) rfl).mpr k))
    refine z_LAW_hold (show (((zrem y2 4) : Int32)).toInt = ((Int.tmod y2.toInt 4) : Int) from (zt_rem rfl rfl (by decide) (by decide))) rfl rfl (fun r64_ v69_ h => ?_) h
    exact h_Q _ _ h
  · have h := h.2 ((zt_eq (show (((zrem y3 2) : Int32)).toInt = ((Int.tmod y3.toInt 2) : Int) from (zt_rem rfl rfl (by decide) (by decide))) rfl).mp c1q)
    refine z_LAW_hold (show (((zrem y2 4) : Int32)).toInt = ((Int.tmod y2.toInt 4) : Int) from (zt_rem rfl rfl (by decide) (by decide))) rfl rfl (fun r73_ v78_ h => ?_) h
    exact h_Q _ _ h
def ZJ_LAW_act_235 (x1 : Int) (x2 : Int) (y2 : Int) (y3 : Int) (v0 : TZ) (Q : (Int → TZ → Prop)) : Prop := ((¬ (Int.tmod y2 6) = 0 → ((¬ (Int.tmod y2 6) = 1 → ((¬ (Int.tmod y2 6) = 2 → ((¬ (Int.tmod y2 6) = 3 → ((¬ (Int.tmod y2 6) = 4 → (Z_LAW_set (Int.tmod y2 6) (Int.tmod y3 12) v0 (fun r89_ v94_ => (Q r89_ v94_)))) ∧ ((Int.tmod y2 6) = 4 → (Z_LAW_set (Int.tmod y2 6) (Int.tmod y3 300) v0 (fun r98_ v103_ => (Q r98_ v103_)))))) ∧ ((Int.tmod y2 6) = 3 → (Z_LAW_set (Int.tmod y2 6) (Int.tmod y3 200) v0 (fun r107_ v112_ => (Q r107_ v112_)))))) ∧ ((Int.tmod y2 6) = 2 → (Z_LAW_set (Int.tmod y2 6) (Int.tmod y3 9) v0 (fun r116_ v121_ => (Q r116_ v121_)))))) ∧ ((Int.tmod y2 6) = 1 → zin (40 + (Int.tmod y3 161)) ∧ (Z_LAW_set (Int.tmod y2 6) (40 + (Int.tmod y3 161)) v0 (fun r125_ v130_ => (Q r125_ v130_)))))) ∧ ((Int.tmod y2 6) = 0 → zin (1 + (Int.tmod y3 8)) ∧ (Z_LAW_set (Int.tmod y2 6) (1 + (Int.tmod y3 8)) v0 (fun r134_ v139_ => (Q r134_ v139_)))))
set_option maxRecDepth 100000 in
theorem zJ_LAW_act_235 {x1 : Int32} {x1z : Int} {x2 : Int32} {x2z : Int} {y2 : Int32} {y2z : Int} {y3 : Int32} {y3z : Int} {v0 : TT} {v0z : TZ}  {Q : Int64 → TT → Prop} {Qz : (Int → TZ → Prop)} (e_x1 : x1.toInt = x1z) (e_x2 : x2.toInt = x2z) (e_y2 : y2.toInt = y2z) (e_y3 : y3.toInt = y3z) (e_v0 : (aT v0) = v0z) (h_Q : ∀ (a0 : Int64) (a1 : TT), Qz a0.toInt (aT a1) → Q a0 a1) (h : ZJ_LAW_act_235 x1z x2z y2z y3z v0z Qz) : PJ_LAW_act_235 x1 x2 y2 y3 v0 Q := by
  subst e_x1
  subst e_x2
  subst e_y2
  subst e_y3
  subst e_v0
  unfold ZJ_LAW_act_235 at h
  unfold PJ_LAW_act_235
  refine ⟨fun c7q => ?_, fun c7q => ?_⟩
  · have h := h.1 (fun k => c7q ((zt_eq (show (((zrem y2 6) : Int32)).toInt = ((Int.tmod y2.toInt 6) : Int) from (zt_rem rfl rfl (by decide) (by decide))) rfl).mpr k))
    refine ⟨fun c5q => ?_, fun c5q => ?_⟩
    · have h := h.1 (fun k => c5q ((zt_eq (show (((zrem y2 6) : Int32)).toInt = ((Int.tmod y2.toInt 6) : Int) from (zt_rem rfl rfl (by decide) (by decide))) rfl).mpr k))
      refine ⟨fun c3q => ?_, fun c3q => ?_⟩
      · have h := h.1 (fun k => c3q ((zt_eq (show (((zrem y2 6) : Int32)).toInt = ((Int.tmod y2.toInt 6) : Int) from (zt_rem rfl rfl (by decide) (by decide))) rfl).mpr k))
        refine ⟨fun c2q => ?_, fun c2q => ?_⟩
        · have h := h.1 (fun k => c2q ((zt_eq (show (((zrem y2 6) : Int32)).toInt = ((Int.tmod y2.toInt 6) : Int) from (zt_rem rfl rfl (by decide) (by decide))) rfl).mpr k))
          refine ⟨fun c1q => ?_, fun c1q => ?_⟩
          · have h := h.1 (fun k => c1q ((zt_eq (show (((zrem y2 6) : Int32)).toInt = ((Int.tmod y2.toInt 6) : Int) from (zt_rem rfl rfl (by decide) (by decide))) rfl).mpr k))
            refine z_LAW_set (show (((zrem y2 6) : Int32)).toInt = ((Int.tmod y2.toInt 6) : Int) from (zt_rem rfl rfl (by decide) (by decide))) (show (((zrem y3 12) : Int32)).toInt = ((Int.tmod y3.toInt 12) : Int) from (zt_rem rfl rfl (by decide) (by decide))) rfl (fun r89_ v94_ h => ?_) h
            exact h_Q _ _ h
          · have h := h.2 ((zt_eq (show (((zrem y2 6) : Int32)).toInt = ((Int.tmod y2.toInt 6) : Int) from (zt_rem rfl rfl (by decide) (by decide))) rfl).mp c1q)
            refine z_LAW_set (show (((zrem y2 6) : Int32)).toInt = ((Int.tmod y2.toInt 6) : Int) from (zt_rem rfl rfl (by decide) (by decide))) (show (((zrem y3 300) : Int32)).toInt = ((Int.tmod y3.toInt 300) : Int) from (zt_rem rfl rfl (by decide) (by decide))) rfl (fun r98_ v103_ h => ?_) h
            exact h_Q _ _ h
        · have h := h.2 ((zt_eq (show (((zrem y2 6) : Int32)).toInt = ((Int.tmod y2.toInt 6) : Int) from (zt_rem rfl rfl (by decide) (by decide))) rfl).mp c2q)
          refine z_LAW_set (show (((zrem y2 6) : Int32)).toInt = ((Int.tmod y2.toInt 6) : Int) from (zt_rem rfl rfl (by decide) (by decide))) (show (((zrem y3 200) : Int32)).toInt = ((Int.tmod y3.toInt 200) : Int) from (zt_rem rfl rfl (by decide) (by decide))) rfl (fun r107_ v112_ h => ?_) h
          exact h_Q _ _ h
      · have h := h.2 ((zt_eq (show (((zrem y2 6) : Int32)).toInt = ((Int.tmod y2.toInt 6) : Int) from (zt_rem rfl rfl (by decide) (by decide))) rfl).mp c3q)
        refine z_LAW_set (show (((zrem y2 6) : Int32)).toInt = ((Int.tmod y2.toInt 6) : Int) from (zt_rem rfl rfl (by decide) (by decide))) (show (((zrem y3 9) : Int32)).toInt = ((Int.tmod y3.toInt 9) : Int) from (zt_rem rfl rfl (by decide) (by decide))) rfl (fun r116_ v121_ h => ?_) h
        exact h_Q _ _ h
    · have h := h.2 ((zt_eq (show (((zrem y2 6) : Int32)).toInt = ((Int.tmod y2.toInt 6) : Int) from (zt_rem rfl rfl (by decide) (by decide))) rfl).mp c5q)
      obtain ⟨o4q, h⟩ := h
      refine z_LAW_set (show (((zrem y2 6) : Int32)).toInt = ((Int.tmod y2.toInt 6) : Int) from (zt_rem rfl rfl (by decide) (by decide))) (show (((40 + (zrem y3 161)) : Int32)).toInt = ((40 + (Int.tmod y3.toInt 161)) : Int) from (zt_add rfl (show (((zrem y3 161) : Int32)).toInt = ((Int.tmod y3.toInt 161) : Int) from (zt_rem rfl rfl (by decide) (by decide))) o4q)) rfl (fun r125_ v130_ h => ?_) h
      exact h_Q _ _ h
  · have h := h.2 ((zt_eq (show (((zrem y2 6) : Int32)).toInt = ((Int.tmod y2.toInt 6) : Int) from (zt_rem rfl rfl (by decide) (by decide))) rfl).mp c7q)
    obtain ⟨o6q, h⟩ := h
    refine z_LAW_set (show (((zrem y2 6) : Int32)).toInt = ((Int.tmod y2.toInt 6) : Int) from (zt_rem rfl rfl (by decide) (by decide))) (show (((1 + (zrem y3 8)) : Int32)).toInt = ((1 + (Int.tmod y3.toInt 8)) : Int) from (zt_add rfl (show (((zrem y3 8) : Int32)).toInt = ((Int.tmod y3.toInt 8) : Int) from (zt_rem rfl rfl (by decide) (by decide))) o6q)) rfl (fun r134_ v139_ h => ?_) h
    exact h_Q _ _ h
def ZJ_LAW_act_324 (x1 : Int) (x2 : Int) (y2 : Int) (y3 : Int) (v0 : TZ) (Q : (Int → TZ → Prop)) : Prop := ((¬ (Int.tmod y3 5) = 0 → zin (1 + (Int.tmod y2 6)) ∧ (Z_LAW_ticks (1 + (Int.tmod y2 6)) v0 (fun r146_ v151_ => (Q r146_ v151_)))) ∧ ((Int.tmod y3 5) = 0 → zin (1 + (Int.tmod y2 60)) ∧ (Z_LAW_ticks (1 + (Int.tmod y2 60)) v0 (fun r155_ v160_ => (Q r155_ v160_)))))
set_option maxRecDepth 100000 in
theorem zJ_LAW_act_324 {x1 : Int32} {x1z : Int} {x2 : Int32} {x2z : Int} {y2 : Int32} {y2z : Int} {y3 : Int32} {y3z : Int} {v0 : TT} {v0z : TZ}  {Q : Int64 → TT → Prop} {Qz : (Int → TZ → Prop)} (e_x1 : x1.toInt = x1z) (e_x2 : x2.toInt = x2z) (e_y2 : y2.toInt = y2z) (e_y3 : y3.toInt = y3z) (e_v0 : (aT v0) = v0z) (h_Q : ∀ (a0 : Int64) (a1 : TT), Qz a0.toInt (aT a1) → Q a0 a1) (h : ZJ_LAW_act_324 x1z x2z y2z y3z v0z Qz) : PJ_LAW_act_324 x1 x2 y2 y3 v0 Q := by
  subst e_x1
  subst e_x2
  subst e_y2
  subst e_y3
  subst e_v0
  unfold ZJ_LAW_act_324 at h
  unfold PJ_LAW_act_324
  refine ⟨fun c3q => ?_, fun c3q => ?_⟩
  · have h := h.1 (fun k => c3q ((zt_eq (show (((zrem y3 5) : Int32)).toInt = ((Int.tmod y3.toInt 5) : Int) from (zt_rem rfl rfl (by decide) (by decide))) rfl).mpr k))
    obtain ⟨o1q, h⟩ := h
    refine z_LAW_ticks (show (((1 + (zrem y2 6)) : Int32)).toInt = ((1 + (Int.tmod y2.toInt 6)) : Int) from (zt_add rfl (show (((zrem y2 6) : Int32)).toInt = ((Int.tmod y2.toInt 6) : Int) from (zt_rem rfl rfl (by decide) (by decide))) o1q)) rfl (fun r146_ v151_ h => ?_) h
    exact h_Q _ _ h
  · have h := h.2 ((zt_eq (show (((zrem y3 5) : Int32)).toInt = ((Int.tmod y3.toInt 5) : Int) from (zt_rem rfl rfl (by decide) (by decide))) rfl).mp c3q)
    obtain ⟨o2q, h⟩ := h
    refine z_LAW_ticks (show (((1 + (zrem y2 60)) : Int32)).toInt = ((1 + (Int.tmod y2.toInt 60)) : Int) from (zt_add rfl (show (((zrem y2 60) : Int32)).toInt = ((Int.tmod y2.toInt 60) : Int) from (zt_rem rfl rfl (by decide) (by decide))) o2q)) rfl (fun r155_ v160_ h => ?_) h
    exact h_Q _ _ h
def Z_LAW_act (x1 : Int) (x2 : Int) (v0 : TZ) (Q : (Int → TZ → Prop)) : Prop := (((Int.tmod x1 24) = 0 → (ZJ_LAW_act_116 x1 x2 x2 (Int.tdiv x2 32) v0 Q)) ∧ (¬ (Int.tmod x1 24) = 0 → (((Int.tmod x1 24) = 1 → (ZJ_LAW_act_116 x1 x2 x2 (Int.tdiv x2 32) v0 Q)) ∧ (¬ (Int.tmod x1 24) = 1 → (((Int.tmod x1 24) = 2 → (ZJ_LAW_act_116 x1 x2 x2 (Int.tdiv x2 32) v0 Q)) ∧ (¬ (Int.tmod x1 24) = 2 → (((Int.tmod x1 24) = 3 → (ZJ_LAW_act_116 x1 x2 x2 (Int.tdiv x2 32) v0 Q)) ∧ (¬ (Int.tmod x1 24) = 3 → (((Int.tmod x1 24) = 4 → (ZJ_LAW_act_116 x1 x2 x2 (Int.tdiv x2 32) v0 Q)) ∧ (¬ (Int.tmod x1 24) = 4 → (((Int.tmod x1 24) = 5 → (ZJ_LAW_act_116 x1 x2 x2 (Int.tdiv x2 32) v0 Q)) ∧ (¬ (Int.tmod x1 24) = 5 → (((Int.tmod x1 24) = 6 → (ZJ_LAW_act_138 x1 x2 x2 (Int.tdiv x2 32) v0 Q)) ∧ (¬ (Int.tmod x1 24) = 6 → (((Int.tmod x1 24) = 7 → (ZJ_LAW_act_138 x1 x2 x2 (Int.tdiv x2 32) v0 Q)) ∧ (¬ (Int.tmod x1 24) = 7 → (((Int.tmod x1 24) = 8 → (ZJ_LAW_act_138 x1 x2 x2 (Int.tdiv x2 32) v0 Q)) ∧ (¬ (Int.tmod x1 24) = 8 → (((Int.tmod x1 24) = 9 → (ZJ_LAW_act_178 x1 x2 x2 (Int.tdiv x2 32) v0 Q)) ∧ (¬ (Int.tmod x1 24) = 9 → (((Int.tmod x1 24) = 10 → (ZJ_LAW_act_178 x1 x2 x2 (Int.tdiv x2 32) v0 Q)) ∧ (¬ (Int.tmod x1 24) = 10 → (((Int.tmod x1 24) = 11 → (ZJ_LAW_act_178 x1 x2 x2 (Int.tdiv x2 32) v0 Q)) ∧ (¬ (Int.tmod x1 24) = 11 → (((Int.tmod x1 24) = 12 → (Z_LAW_leave (Int.tmod x2 8) v0 (fun r53_ v58_ => (Q r53_ v58_)))) ∧ (¬ (Int.tmod x1 24) = 12 → (((Int.tmod x1 24) = 13 → (ZJ_LAW_act_216 x1 x2 x2 (Int.tdiv x2 32) v0 Q)) ∧ (¬ (Int.tmod x1 24) = 13 → (((Int.tmod x1 24) = 14 → (ZJ_LAW_act_216 x1 x2 x2 (Int.tdiv x2 32) v0 Q)) ∧ (¬ (Int.tmod x1 24) = 14 → (((Int.tmod x1 24) = 15 → (ZJ_LAW_act_235 x1 x2 x2 (Int.tdiv x2 32) v0 Q)) ∧ (¬ (Int.tmod x1 24) = 15 → (((Int.tmod x1 24) = 16 → (ZJ_LAW_act_235 x1 x2 x2 (Int.tdiv x2 32) v0 Q)) ∧ (¬ (Int.tmod x1 24) = 16 → (((Int.tmod x1 24) = 17 → (ZJ_LAW_act_324 x1 x2 x2 (Int.tdiv x2 32) v0 Q)) ∧ (¬ (Int.tmod x1 24) = 17 → (((Int.tmod x1 24) = 18 → (ZJ_LAW_act_324 x1 x2 x2 (Int.tdiv x2 32) v0 Q)) ∧ (¬ (Int.tmod x1 24) = 18 → (((Int.tmod x1 24) = 19 → (ZJ_LAW_act_324 x1 x2 x2 (Int.tdiv x2 32) v0 Q)) ∧ (¬ (Int.tmod x1 24) = 19 → (((Int.tmod x1 24) = 20 → (ZJ_LAW_act_324 x1 x2 x2 (Int.tdiv x2 32) v0 Q)) ∧ (¬ (Int.tmod x1 24) = 20 → (((Int.tmod x1 24) = 21 → (Z_LAW_undo v0 (fun r168_ v173_ => (Q r168_ v173_)))) ∧ (¬ (Int.tmod x1 24) = 21 → (((Int.tmod x1 24) = 22 → (Z_LAW_undo v0 (fun r178_ v183_ => (Q r178_ v183_)))) ∧ (¬ (Int.tmod x1 24) = 22 → ((¬ (Int.tmod (Int.tdiv x2 32) 2) = 0 → (Z_LAW_restore (zandZ (Int.tdiv (Int.tdiv x2 32) 2) 1) v0 (fun r188_ v193_ => (Q r188_ v193_)))) ∧ ((Int.tmod (Int.tdiv x2 32) 2) = 0 → (Z_LAW_save (zandZ (Int.tdiv (Int.tdiv x2 32) 2) 1) v0 (fun r197_ v202_ => (Q r197_ v202_)))))))))))))))))))))))))))))))))))))))))))))))))))
set_option maxRecDepth 100000 in
theorem z_LAW_act {x1 : Int32} {x1z : Int} {x2 : Int32} {x2z : Int} {v0 : TT} {v0z : TZ}  {Q : Int64 → TT → Prop} {Qz : (Int → TZ → Prop)} (e_x1 : x1.toInt = x1z) (e_x2 : x2.toInt = x2z) (e_v0 : (aT v0) = v0z) (h_Q : ∀ (a0 : Int64) (a1 : TT), Qz a0.toInt (aT a1) → Q a0 a1) (h : Z_LAW_act x1z x2z v0z Qz) : P_LAW_act x1 x2 v0 Q := by
  subst e_x1
  subst e_x2
  subst e_v0
  unfold Z_LAW_act at h
  unfold P_LAW_act
  refine ⟨fun c24q => ?_, fun c24q => ?_⟩
  · have h := h.1 ((zt_eq (show (((zrem x1 24) : Int32)).toInt = ((Int.tmod x1.toInt 24) : Int) from (zt_rem rfl rfl (by decide) (by decide))) rfl).mp c24q)
    refine zJ_LAW_act_116 rfl rfl rfl (show (((x2 / 32) : Int32)).toInt = ((Int.tdiv x2.toInt 32) : Int) from (zt_div rfl rfl (by decide))) rfl h_Q h
  · have h := h.2 (fun k => c24q ((zt_eq (show (((zrem x1 24) : Int32)).toInt = ((Int.tmod x1.toInt 24) : Int) from (zt_rem rfl rfl (by decide) (by decide))) rfl).mpr k))
    refine ⟨fun c23q => ?_, fun c23q => ?_⟩
    · have h := h.1 ((zt_eq (show (((zrem x1 24) : Int32)).toInt = ((Int.tmod x1.toInt 24) : Int) from (zt_rem rfl rfl (by decide) (by decide))) rfl).mp c23q)
      refine zJ_LAW_act_116 rfl rfl rfl (show (((x2 / 32) : Int32)).toInt = ((Int.tdiv x2.toInt 32) : Int) from (zt_div rfl rfl (by decide))) rfl h_Q h
    · have h := h.2 (fun k => c23q ((zt_eq (show (((zrem x1 24) : Int32)).toInt = ((Int.tmod x1.toInt 24) : Int) from (zt_rem rfl rfl (by decide) (by decide))) rfl).mpr k))
      refine ⟨fun c22q => ?_, fun c22q => ?_⟩
      · have h := h.1 ((zt_eq (show (((zrem x1 24) : Int32)).toInt = ((Int.tmod x1.toInt 24) : Int) from (zt_rem rfl rfl (by decide) (by decide))) rfl).mp c22q)
        refine zJ_LAW_act_116 rfl rfl rfl (show (((x2 / 32) : Int32)).toInt = ((Int.tdiv x2.toInt 32) : Int) from (zt_div rfl rfl (by decide))) rfl h_Q h
      · have h := h.2 (fun k => c22q ((zt_eq (show (((zrem x1 24) : Int32)).toInt = ((Int.tmod x1.toInt 24) : Int) from (zt_rem rfl rfl (by decide) (by decide))) rfl).mpr k))
        refine ⟨fun c21q => ?_, fun c21q => ?_⟩
        · have h := h.1 ((zt_eq (show (((zrem x1 24) : Int32)).toInt = ((Int.tmod x1.toInt 24) : Int) from (zt_rem rfl rfl (by decide) (by decide))) rfl).mp c21q)
          refine zJ_LAW_act_116 rfl rfl rfl (show (((x2 / 32) : Int32)).toInt = ((Int.tdiv x2.toInt 32) : Int) from (zt_div rfl rfl (by decide))) rfl h_Q h
        · have h := h.2 (fun k => c21q ((zt_eq (show (((zrem x1 24) : Int32)).toInt = ((Int.tmod x1.toInt 24) : Int) from (zt_rem rfl rfl (by decide) (by decide))) rfl).mpr k))
          refine ⟨fun c20q => ?_, fun c20q => ?_⟩
          · have h := h.1 ((zt_eq (show (((zrem x1 24) : Int32)).toInt = ((Int.tmod x1.toInt 24) : Int) from (zt_rem rfl rfl (by decide) (by decide))) rfl).mp c20q)
            refine zJ_LAW_act_116 rfl rfl rfl (show (((x2 / 32) : Int32)).toInt = ((Int.tdiv x2.toInt 32) : Int) from (zt_div rfl rfl (by decide))) rfl h_Q h
          · have h := h.2 (fun k => c20q ((zt_eq (show (((zrem x1 24) : Int32)).toInt = ((Int.tmod x1.toInt 24) : Int) from (zt_rem rfl rfl (by decide) (by decide))) rfl).mpr k))
            refine ⟨fun c19q => ?_, fun c19q => ?_⟩
            · have h := h.1 ((zt_eq (show (((zrem x1 24) : Int32)).toInt = ((Int.tmod x1.toInt 24) : Int) from (zt_rem rfl rfl (by decide) (by decide))) rfl).mp c19q)
              refine zJ_LAW_act_116 rfl rfl rfl (show (((x2 / 32) : Int32)).toInt = ((Int.tdiv x2.toInt 32) : Int) from (zt_div rfl rfl (by decide))) rfl h_Q h
            · have h := h.2 (fun k => c19q ((zt_eq (show (((zrem x1 24) : Int32)).toInt = ((Int.tmod x1.toInt 24) : Int) from (zt_rem rfl rfl (by decide) (by decide))) rfl).mpr k))
              refine ⟨fun c18q => ?_, fun c18q => ?_⟩
              · have h := h.1 ((zt_eq (show (((zrem x1 24) : Int32)).toInt = ((Int.tmod x1.toInt 24) : Int) from (zt_rem rfl rfl (by decide) (by decide))) rfl).mp c18q)
                refine zJ_LAW_act_138 rfl rfl rfl (show (((x2 / 32) : Int32)).toInt = ((Int.tdiv x2.toInt 32) : Int) from (zt_div rfl rfl (by decide))) rfl h_Q h
              · have h := h.2 (fun k => c18q ((zt_eq (show (((zrem x1 24) : Int32)).toInt = ((Int.tmod x1.toInt 24) : Int) from (zt_rem rfl rfl (by decide) (by decide))) rfl).mpr k))
                refine ⟨fun c17q => ?_, fun c17q => ?_⟩
                · have h := h.1 ((zt_eq (show (((zrem x1 24) : Int32)).toInt = ((Int.tmod x1.toInt 24) : Int) from (zt_rem rfl rfl (by decide) (by decide))) rfl).mp c17q)
                  refine zJ_LAW_act_138 rfl rfl rfl (show (((x2 / 32) : Int32)).toInt = ((Int.tdiv x2.toInt 32) : Int) from (zt_div rfl rfl (by decide))) rfl h_Q h
                · have h := h.2 (fun k => c17q ((zt_eq (show (((zrem x1 24) : Int32)).toInt = ((Int.tmod x1.toInt 24) : Int) from (zt_rem rfl rfl (by decide) (by decide))) rfl).mpr k))
                  refine ⟨fun c16q => ?_, fun c16q => ?_⟩
                  · have h := h.1 ((zt_eq (show (((zrem x1 24) : Int32)).toInt = ((Int.tmod x1.toInt 24) : Int) from (zt_rem rfl rfl (by decide) (by decide))) rfl).mp c16q)
                    refine zJ_LAW_act_138 rfl rfl rfl (show (((x2 / 32) : Int32)).toInt = ((Int.tdiv x2.toInt 32) : Int) from (zt_div rfl rfl (by decide))) rfl h_Q h
                  · have h := h.2 (fun k => c16q ((zt_eq (show (((zrem x1 24) : Int32)).toInt = ((Int.tmod x1.toInt 24) : Int) from (zt_rem rfl rfl (by decide) (by decide))) rfl).mpr k))
                    refine ⟨fun c15q => ?_, fun c15q => ?_⟩
                    · have h := h.1 ((zt_eq (show (((zrem x1 24) : Int32)).toInt = ((Int.tmod x1.toInt 24) : Int) from (zt_rem rfl rfl (by decide) (by decide))) rfl).mp c15q)
                      refine zJ_LAW_act_178 rfl rfl rfl (show (((x2 / 32) : Int32)).toInt = ((Int.tdiv x2.toInt 32) : Int) from (zt_div rfl rfl (by decide))) rfl h_Q h
                    · have h := h.2 (fun k => c15q ((zt_eq (show (((zrem x1 24) : Int32)).toInt = ((Int.tmod x1.toInt 24) : Int) from (zt_rem rfl rfl (by decide) (by decide))) rfl).mpr k))
                      refine ⟨fun c14q => ?_, fun c14q => ?_⟩
                      · have h := h.1 ((zt_eq (show (((zrem x1 24) : Int32)).toInt = ((Int.tmod x1.toInt 24) : Int) from (zt_rem rfl rfl (by decide) (by decide))) rfl).mp c14q)
                        refine zJ_LAW_act_178 rfl rfl rfl (show (((x2 / 32) : Int32)).toInt = ((Int.tdiv x2.toInt 32) : Int) from (zt_div rfl rfl (by decide))) rfl h_Q h
                      · have h := h.2 (fun k => c14q ((zt_eq (show (((zrem x1 24) : Int32)).toInt = ((Int.tmod x1.toInt 24) : Int) from (zt_rem rfl rfl (by decide) (by decide))) rfl).mpr k))
                        refine ⟨fun c13q => ?_, fun c13q => ?_⟩
                        · have h := h.1 ((zt_eq (show (((zrem x1 24) : Int32)).toInt = ((Int.tmod x1.toInt 24) : Int) from (zt_rem rfl rfl (by decide) (by decide))) rfl).mp c13q)
                          refine zJ_LAW_act_178 rfl rfl rfl (show (((x2 / 32) : Int32)).toInt = ((Int.tdiv x2.toInt 32) : Int) from (zt_div rfl rfl (by decide))) rfl h_Q h
                        · have h := h.2 (fun k => c13q ((zt_eq (show (((zrem x1 24) : Int32)).toInt = ((Int.tmod x1.toInt 24) : Int) from (zt_rem rfl rfl (by decide) (by decide))) rfl).mpr k))
                          refine ⟨fun c12q => ?_, fun c12q => ?_⟩
                          · have h := h.1 ((zt_eq (show (((zrem x1 24) : Int32)).toInt = ((Int.tmod x1.toInt 24) : Int) from (zt_rem rfl rfl (by decide) (by decide))) rfl).mp c12q)
                            refine z_LAW_leave (show (((zrem x2 8) : Int32)).toInt = ((Int.tmod x2.toInt 8) : Int) from (zt_rem rfl rfl (by decide) (by decide))) rfl (fun r53_ v58_ h => ?_) h
                            exact h_Q _ _ h
                          · have h := h.2 (fun k => c12q ((zt_eq (show (((zrem x1 24) : Int32)).toInt = ((Int.tmod x1.toInt 24) : Int) from (zt_rem rfl rfl (by decide) (by decide))) rfl).mpr k))
                            refine ⟨fun c11q => ?_, fun c11q => ?_⟩
                            · have h := h.1 ((zt_eq (show (((zrem x1 24) : Int32)).toInt = ((Int.tmod x1.toInt 24) : Int) from (zt_rem rfl rfl (by decide) (by decide))) rfl).mp c11q)
                              refine zJ_LAW_act_216 rfl rfl rfl (show (((x2 / 32) : Int32)).toInt = ((Int.tdiv x2.toInt 32) : Int) from (zt_div rfl rfl (by decide))) rfl h_Q h
                            · have h := h.2 (fun k => c11q ((zt_eq (show (((zrem x1 24) : Int32)).toInt = ((Int.tmod x1.toInt 24) : Int) from (zt_rem rfl rfl (by decide) (by decide))) rfl).mpr k))
                              refine ⟨fun c10q => ?_, fun c10q => ?_⟩
                              · have h := h.1 ((zt_eq (show (((zrem x1 24) : Int32)).toInt = ((Int.tmod x1.toInt 24) : Int) from (zt_rem rfl rfl (by decide) (by decide))) rfl).mp c10q)
                                refine zJ_LAW_act_216 rfl rfl rfl (show (((x2 / 32) : Int32)).toInt = ((Int.tdiv x2.toInt 32) : Int) from (zt_div rfl rfl (by decide))) rfl h_Q h
                              · have h := h.2 (fun k => c10q ((zt_eq (show (((zrem x1 24) : Int32)).toInt = ((Int.tmod x1.toInt 24) : Int) from (zt_rem rfl rfl (by decide) (by decide))) rfl).mpr k))
                                refine ⟨fun c9q => ?_, fun c9q => ?_⟩
                                · have h := h.1 ((zt_eq (show (((zrem x1 24) : Int32)).toInt = ((Int.tmod x1.toInt 24) : Int) from (zt_rem rfl rfl (by decide) (by decide))) rfl).mp c9q)
                                  refine zJ_LAW_act_235 rfl rfl rfl (show (((x2 / 32) : Int32)).toInt = ((Int.tdiv x2.toInt 32) : Int) from (zt_div rfl rfl (by decide))) rfl h_Q h
                                · have h := h.2 (fun k => c9q ((zt_eq (show (((zrem x1 24) : Int32)).toInt = ((Int.tmod x1.toInt 24) : Int) from (zt_rem rfl rfl (by decide) (by decide))) rfl).mpr k))
                                  refine ⟨fun c8q => ?_, fun c8q => ?_⟩
                                  · have h := h.1 ((zt_eq (show (((zrem x1 24) : Int32)).toInt = ((Int.tmod x1.toInt 24) : Int) from (zt_rem rfl rfl (by decide) (by decide))) rfl).mp c8q)
                                    refine zJ_LAW_act_235 rfl rfl rfl (show (((x2 / 32) : Int32)).toInt = ((Int.tdiv x2.toInt 32) : Int) from (zt_div rfl rfl (by decide))) rfl h_Q h
                                  · have h := h.2 (fun k => c8q ((zt_eq (show (((zrem x1 24) : Int32)).toInt = ((Int.tmod x1.toInt 24) : Int) from (zt_rem rfl rfl (by decide) (by decide))) rfl).mpr k))
                                    refine ⟨fun c7q => ?_, fun c7q => ?_⟩
                                    · have h := h.1 ((zt_eq (show (((zrem x1 24) : Int32)).toInt = ((Int.tmod x1.toInt 24) : Int) from (zt_rem rfl rfl (by decide) (by decide))) rfl).mp c7q)
                                      refine zJ_LAW_act_324 rfl rfl rfl (show (((x2 / 32) : Int32)).toInt = ((Int.tdiv x2.toInt 32) : Int) from (zt_div rfl rfl (by decide))) rfl h_Q h
                                    · have h := h.2 (fun k => c7q ((zt_eq (show (((zrem x1 24) : Int32)).toInt = ((Int.tmod x1.toInt 24) : Int) from (zt_rem rfl rfl (by decide) (by decide))) rfl).mpr k))
                                      refine ⟨fun c6q => ?_, fun c6q => ?_⟩
                                      · have h := h.1 ((zt_eq (show (((zrem x1 24) : Int32)).toInt = ((Int.tmod x1.toInt 24) : Int) from (zt_rem rfl rfl (by decide) (by decide))) rfl).mp c6q)
                                        refine zJ_LAW_act_324 rfl rfl rfl (show (((x2 / 32) : Int32)).toInt = ((Int.tdiv x2.toInt 32) : Int) from (zt_div rfl rfl (by decide))) rfl h_Q h
                                      · have h := h.2 (fun k => c6q ((zt_eq (show (((zrem x1 24) : Int32)).toInt = ((Int.tmod x1.toInt 24) : Int) from (zt_rem rfl rfl (by decide) (by decide))) rfl).mpr k))
                                        refine ⟨fun c5q => ?_, fun c5q => ?_⟩
                                        · have h := h.1 ((zt_eq (show (((zrem x1 24) : Int32)).toInt = ((Int.tmod x1.toInt 24) : Int) from (zt_rem rfl rfl (by decide) (by decide))) rfl).mp c5q)
                                          refine zJ_LAW_act_324 rfl rfl rfl (show (((x2 / 32) : Int32)).toInt = ((Int.tdiv x2.toInt 32) : Int) from (zt_div rfl rfl (by decide))) rfl h_Q h
                                        · have h := h.2 (fun k => c5q ((zt_eq (show (((zrem x1 24) : Int32)).toInt = ((Int.tmod x1.toInt 24) : Int) from (zt_rem rfl rfl (by decide) (by decide))) rfl).mpr k))
                                          refine ⟨fun c4q => ?_, fun c4q => ?_⟩
                                          · have h := h.1 ((zt_eq (show (((zrem x1 24) : Int32)).toInt = ((Int.tmod x1.toInt 24) : Int) from (zt_rem rfl rfl (by decide) (by decide))) rfl).mp c4q)
                                            refine zJ_LAW_act_324 rfl rfl rfl (show (((x2 / 32) : Int32)).toInt = ((Int.tdiv x2.toInt 32) : Int) from (zt_div rfl rfl (by decide))) rfl h_Q h
                                          · have h := h.2 (fun k => c4q ((zt_eq (show (((zrem x1 24) : Int32)).toInt = ((Int.tmod x1.toInt 24) : Int) from (zt_rem rfl rfl (by decide) (by decide))) rfl).mpr k))
                                            refine ⟨fun c3q => ?_, fun c3q => ?_⟩
                                            · have h := h.1 ((zt_eq (show (((zrem x1 24) : Int32)).toInt = ((Int.tmod x1.toInt 24) : Int) from (zt_rem rfl rfl (by decide) (by decide))) rfl).mp c3q)
                                              refine z_LAW_undo rfl (fun r168_ v173_ h => ?_) h
                                              exact h_Q _ _ h
                                            · have h := h.2 (fun k => c3q ((zt_eq (show (((zrem x1 24) : Int32)).toInt = ((Int.tmod x1.toInt 24) : Int) from (zt_rem rfl rfl (by decide) (by decide))) rfl).mpr k))
                                              refine ⟨fun c2q => ?_, fun c2q => ?_⟩
                                              · have h := h.1 ((zt_eq (show (((zrem x1 24) : Int32)).toInt = ((Int.tmod x1.toInt 24) : Int) from (zt_rem rfl rfl (by decide) (by decide))) rfl).mp c2q)
                                                refine z_LAW_undo rfl (fun r178_ v183_ h => ?_) h
                                                exact h_Q _ _ h
                                              · have h := h.2 (fun k => c2q ((zt_eq (show (((zrem x1 24) : Int32)).toInt = ((Int.tmod x1.toInt 24) : Int) from (zt_rem rfl rfl (by decide) (by decide))) rfl).mpr k))
                                                refine ⟨fun c1q => ?_, fun c1q => ?_⟩
                                                · have h := h.1 (fun k => c1q ((zt_eq (show (((zrem (x2 / 32) 2) : Int32)).toInt = ((Int.tmod (Int.tdiv x2.toInt 32) 2) : Int) from (zt_rem (show (((x2 / 32) : Int32)).toInt = ((Int.tdiv x2.toInt 32) : Int) from (zt_div rfl rfl (by decide))) rfl (by decide) (by decide))) rfl).mpr k))
                                                  refine z_LAW_restore (show (((zand ((x2 / 32) / 2) 1) : Int32)).toInt = ((zandZ (Int.tdiv (Int.tdiv x2.toInt 32) 2) 1) : Int) from (zt_zand (show ((((x2 / 32) / 2) : Int32)).toInt = ((Int.tdiv (Int.tdiv x2.toInt 32) 2) : Int) from (zt_div (show (((x2 / 32) : Int32)).toInt = ((Int.tdiv x2.toInt 32) : Int) from (zt_div rfl rfl (by decide))) rfl (by decide))) rfl)) rfl (fun r188_ v193_ h => ?_) h
                                                  exact h_Q _ _ h
                                                · have h := h.2 ((zt_eq (show (((zrem (x2 / 32) 2) : Int32)).toInt = ((Int.tmod (Int.tdiv x2.toInt 32) 2) : Int) from (zt_rem (show (((x2 / 32) : Int32)).toInt = ((Int.tdiv x2.toInt 32) : Int) from (zt_div rfl rfl (by decide))) rfl (by decide) (by decide))) rfl).mp c1q)
                                                  refine z_LAW_save (show (((zand ((x2 / 32) / 2) 1) : Int32)).toInt = ((zandZ (Int.tdiv (Int.tdiv x2.toInt 32) 2) 1) : Int) from (zt_zand (show ((((x2 / 32) / 2) : Int32)).toInt = ((Int.tdiv (Int.tdiv x2.toInt 32) 2) : Int) from (zt_div (show (((x2 / 32) : Int32)).toInt = ((Int.tdiv x2.toInt 32) : Int) from (zt_div rfl rfl (by decide))) rfl (by decide))) rfl)) rfl (fun r197_ v202_ h => ?_) h
                                                  exact h_Q _ _ h
