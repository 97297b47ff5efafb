def Z_LAW_alike (x1 : Int) (v0 : TZ) (v1 : TZ) (Q : (Int → TZ → TZ → Prop)) : Prop := (Z_LAW_now v0 (fun r1_ => (Z_LAW_now v1 (fun r6_ => ((¬ (lg_cmpZ r1_ r6_) = 0 → (Q 0 v0 v1)) ∧ ((lg_cmpZ r1_ r6_) = 0 → (Z_T_errorPosition v0 (fun r12_ v16_ => (Z_T_errorPosition v1 (fun r21_ v25_ => ((¬ r12_ = r21_ → (Q 0 v16_ v25_)) ∧ (r12_ = r21_ → (Z_T_droppedIn v16_ (fun r31_ v35_ => (Z_T_droppedIn v25_ (fun r40_ v44_ => ((¬ r31_ = r40_ → (Q 0 v35_ v44_)) ∧ (r31_ = r40_ → zin (1 + (Int.tmod x1 200)) ∧ (Z_LAW_leastRoom (1 + (Int.tmod x1 200)) v35_ (fun r50_ v55_ => (Z_LAW_leastRoom (1 + (Int.tmod x1 200)) v44_ (fun r60_ v65_ => ((¬ (lg_cmpZ r50_ r60_) = 0 → (Q 0 v55_ v65_)) ∧ ((lg_cmpZ r50_ r60_) = 0 → (Z_LAW_about 0 v55_ (fun r71_ => (Z_LAW_truth (Int.tmod x1 8) (wi r71_) 1 v55_ (fun r76_ => (Z_LAW_about 0 v65_ (fun r81_ => (Z_LAW_truth (Int.tmod x1 8) (wi r81_) 0 v65_ (fun r86_ => ((¬ (lg_cmpZ r76_ r86_) = 0 → (Q 0 v55_ v65_)) ∧ ((lg_cmpZ r76_ r86_) = 0 → (Z_LAW_simulate x1 5 v55_ (fun r92_ v97_ => (Z_LAW_simulate x1 5 v65_ (fun r102_ v107_ => ((¬ (lg_cmpZ r92_ r102_) = 0 → (Q 0 v97_ v107_)) ∧ ((lg_cmpZ r92_ r102_) = 0 → (Z_LAW_script 2 (wl (500009800000 + (Int.tmod x1 100))) v97_ (fun r113_ v118_ => (Z_LAW_script 2 (wl (500009800000 + (Int.tmod x1 100))) v107_ (fun r123_ v128_ => ((¬ (lg_cmpZ r113_ r123_) = 0 → (Q 0 v118_ v128_)) ∧ ((lg_cmpZ r113_ r123_) = 0 → (Q 1 v118_ v128_)))))))))))))))))))))))))))))))))))))))))))))))
set_option maxRecDepth 100000 in
theorem z_LAW_alike {x1 : Int32} {x1z : Int} {v0 : TT} {v0z : TZ} {v1 : TT} {v1z : TZ}  {Q : Int32 → TT → TT → Prop} {Qz : (Int → TZ → TZ → Prop)} (e_x1 : x1.toInt = x1z) (e_v0 : (aT v0) = v0z) (e_v1 : (aT v1) = v1z) (h_Q : ∀ (a0 : Int32) (a1 : TT) (a2 : TT), Qz a0.toInt (aT a1) (aT a2) → Q a0 a1 a2) (h : Z_LAW_alike x1z v0z v1z Qz) : P_LAW_alike x1 v0 v1 Q := by
  subst e_x1
  subst e_v0
  subst e_v1
  unfold Z_LAW_alike at h
  unfold P_LAW_alike
  refine z_LAW_now rfl (fun r1_ h => ?_) h
  refine z_LAW_now rfl (fun r6_ h => ?_) h
  refine ⟨fun c8q => ?_, fun c8q => ?_⟩
  · have h := h.1 (fun k => c8q ((zt_eq (show (((lg_cmp r1_ r6_) : Int32)).toInt = ((lg_cmpZ r1_.toInt r6_.toInt) : Int) from (zt_lg_cmp rfl rfl)) rfl).mpr k))
    exact h_Q _ _ _ h
  · have h := h.2 ((zt_eq (show (((lg_cmp r1_ r6_) : Int32)).toInt = ((lg_cmpZ r1_.toInt r6_.toInt) : Int) from (zt_lg_cmp rfl rfl)) rfl).mp c8q)
    refine z_T_errorPosition rfl (fun r12_ v16_ h => ?_) h
    refine z_T_errorPosition rfl (fun r21_ v25_ h => ?_) h
    refine ⟨fun c7q => ?_, fun c7q => ?_⟩
    · have h := h.1 (fun k => c7q ((zt_eq rfl rfl).mpr k))
      exact h_Q _ _ _ h
    · have h := h.2 ((zt_eq rfl rfl).mp c7q)
      refine z_T_droppedIn rfl (fun r31_ v35_ h => ?_) h
      refine z_T_droppedIn rfl (fun r40_ v44_ h => ?_) h
      refine ⟨fun c6q => ?_, fun c6q => ?_⟩
      · have h := h.1 (fun k => c6q ((zt_eq rfl rfl).mpr k))
        exact h_Q _ _ _ h
      · have h := h.2 ((zt_eq rfl rfl).mp c6q)
        obtain ⟨o1q, h⟩ := h
        refine z_LAW_leastRoom (show (((1 + (zrem x1 200)) : Int32)).toInt = ((1 + (Int.tmod x1.toInt 200)) : Int) from (zt_add rfl (show (((zrem x1 200) : Int32)).toInt = ((Int.tmod x1.toInt 200) : Int) from (zt_rem rfl rfl (by decide) (by decide))) o1q)) rfl (fun r50_ v55_ h => ?_) h
        refine z_LAW_leastRoom (show (((1 + (zrem x1 200)) : Int32)).toInt = ((1 + (Int.tmod x1.toInt 200)) : Int) from (zt_add rfl (show (((zrem x1 200) : Int32)).toInt = ((Int.tmod x1.toInt 200) : Int) from (zt_rem rfl rfl (by decide) (by decide))) o1q)) rfl (fun r60_ v65_ h => ?_) h
        refine ⟨fun c5q => ?_, fun c5q => ?_⟩
        · have h := h.1 (fun k => c5q ((zt_eq (show (((lg_cmp r50_ r60_) : Int32)).toInt = ((lg_cmpZ r50_.toInt r60_.toInt) : Int) from (zt_lg_cmp rfl rfl)) rfl).mpr k))
          exact h_Q _ _ _ h
        · have h := h.2 ((zt_eq (show (((lg_cmp r50_ r60_) : Int32)).toInt = ((lg_cmpZ r50_.toInt r60_.toInt) : Int) from (zt_lg_cmp rfl rfl)) rfl).mp c5q)
          refine z_LAW_about rfl rfl (fun r71_ h => ?_) h
          refine z_LAW_truth (show (((zrem x1 8) : Int32)).toInt = ((Int.tmod x1.toInt 8) : Int) from (zt_rem rfl rfl (by decide) (by decide))) (show (((Int64.toInt32 r71_) : Int32)).toInt = ((wi r71_.toInt) : Int) from (zt_l2i rfl)) rfl rfl (fun r76_ h => ?_) h
          refine z_LAW_about rfl rfl (fun r81_ h => ?_) h
          refine z_LAW_truth (show (((zrem x1 8) : Int32)).toInt = ((Int.tmod x1.toInt 8) : Int) from (zt_rem rfl rfl (by decide) (by decide))) (show (((Int64.toInt32 r81_) : Int32)).toInt = ((wi r81_.toInt) : Int) from (zt_l2i rfl)) rfl rfl (fun r86_ h => ?_) h
          refine ⟨fun c4q => ?_, fun c4q => ?_⟩
          · have h := h.1 (fun k => c4q ((zt_eq (show (((lg_cmp r76_ r86_) : Int32)).toInt = ((lg_cmpZ r76_.toInt r86_.toInt) : Int) from (zt_lg_cmp rfl rfl)) rfl).mpr k))
            exact h_Q _ _ _ h
          · have h := h.2 ((zt_eq (show (((lg_cmp r76_ r86_) : Int32)).toInt = ((lg_cmpZ r76_.toInt r86_.toInt) : Int) from (zt_lg_cmp rfl rfl)) rfl).mp c4q)
            refine z_LAW_simulate (show (Int32.toInt64 x1).toInt = (x1.toInt : Int) from (zt_i2l rfl)) rfl rfl (fun r92_ v97_ h => ?_) h
            refine z_LAW_simulate (show (Int32.toInt64 x1).toInt = (x1.toInt : Int) from (zt_i2l rfl)) rfl rfl (fun r102_ v107_ h => ?_) h
            refine ⟨fun c3q => ?_, fun c3q => ?_⟩
            · have h := h.1 (fun k => c3q ((zt_eq (show (((lg_cmp r92_ r102_) : Int32)).toInt = ((lg_cmpZ r92_.toInt r102_.toInt) : Int) from (zt_lg_cmp rfl rfl)) rfl).mpr k))
              exact h_Q _ _ _ h
            · have h := h.2 ((zt_eq (show (((lg_cmp r92_ r102_) : Int32)).toInt = ((lg_cmpZ r92_.toInt r102_.toInt) : Int) from (zt_lg_cmp rfl rfl)) rfl).mp c3q)
              refine z_LAW_script rfl (show (500009800000 + (Int32.toInt64 (zrem x1 100))).toInt = ((wl (500009800000 + (Int.tmod x1.toInt 100))) : Int) from (zt_ladd rfl (show (Int32.toInt64 (zrem x1 100)).toInt = ((Int.tmod x1.toInt 100) : Int) from (zt_i2l (show (((zrem x1 100) : Int32)).toInt = ((Int.tmod x1.toInt 100) : Int) from (zt_rem rfl rfl (by decide) (by decide))))))) rfl (fun r113_ v118_ h => ?_) h
              refine z_LAW_script rfl (show (500009800000 + (Int32.toInt64 (zrem x1 100))).toInt = ((wl (500009800000 + (Int.tmod x1.toInt 100))) : Int) from (zt_ladd rfl (show (Int32.toInt64 (zrem x1 100)).toInt = ((Int.tmod x1.toInt 100) : Int) from (zt_i2l (show (((zrem x1 100) : Int32)).toInt = ((Int.tmod x1.toInt 100) : Int) from (zt_rem rfl rfl (by decide) (by decide))))))) rfl (fun r123_ v128_ h => ?_) h
              refine ⟨fun c2q => ?_, fun c2q => ?_⟩
              · have h := h.1 (fun k => c2q ((zt_eq (show (((lg_cmp r113_ r123_) : Int32)).toInt = ((lg_cmpZ r113_.toInt r123_.toInt) : Int) from (zt_lg_cmp rfl rfl)) rfl).mpr k))
                exact h_Q _ _ _ h
              · have h := h.2 ((zt_eq (show (((lg_cmp r113_ r123_) : Int32)).toInt = ((lg_cmpZ r113_.toInt r123_.toInt) : Int) from (zt_lg_cmp rfl rfl)) rfl).mp c2q)
                exact h_Q _ _ _ h
