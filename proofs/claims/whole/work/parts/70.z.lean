def Z_M_command (x1 : Int) (v0 : MZ) (Q : (Int → MZ → Prop)) : Prop := (((Int.tdiv x1 100000) = 1 → (Z_M_runWrite (Int.tmod (Int.tdiv x1 10000) 10) (Int.tmod (Int.tdiv x1 100) 100) (Int.tmod x1 100) v0 (fun r2_ v6_ => (r2_ = 0 ∨ r2_ = 1) ∧ ((Q r2_ v6_))))) ∧ (¬ (Int.tdiv x1 100000) = 1 → (((Int.tdiv x1 100000) = 2 → ((100 ≤ (Int.tmod x1 10000) → (Q 0 v0)) ∧ (¬ 100 ≤ (Int.tmod x1 10000) → (Z_M_runRead (Int.tmod (Int.tdiv x1 10000) 10) (Int.tmod x1 100) v0 (fun r12_ v16_ => ((r12_ = 0 → (Q 0 v16_)) ∧ (¬ r12_ = 0 → (Q 1 v16_)))))))) ∧ (¬ (Int.tdiv x1 100000) = 2 → (((Int.tdiv x1 100000) = 3 → ((2 ≤ (Int.tmod x1 1000) → (Q 0 v0)) ∧ (¬ 2 ≤ (Int.tmod x1 1000) → ((¬ (Int.tmod x1 10) = 1 → (Z_M_runJoin (Int.tmod (Int.tdiv x1 10000) 10) (Int.tmod (Int.tdiv x1 1000) 10) 0 v0 (fun r24_ v28_ => ((r24_ = 0 → (Q 0 v28_)) ∧ (¬ r24_ = 0 → (Q 1 v28_)))))) ∧ ((Int.tmod x1 10) = 1 → (Z_M_runJoin (Int.tmod (Int.tdiv x1 10000) 10) (Int.tmod (Int.tdiv x1 1000) 10) 1 v0 (fun r33_ v37_ => ((r33_ = 0 → (Q 0 v37_)) ∧ (¬ r33_ = 0 → (Q 1 v37_)))))))))) ∧ (¬ (Int.tdiv x1 100000) = 3 → (((Int.tdiv x1 100000) = 4 → ((¬ (Int.tmod x1 10000) = 0 → (Q 0 v0)) ∧ ((Int.tmod x1 10000) = 0 → (Z_M_runLeave (Int.tmod (Int.tdiv x1 10000) 10) v0 (fun r44_ v48_ => ((r44_ = 0 → (Q 0 v48_)) ∧ (¬ r44_ = 0 → (Q 1 v48_)))))))) ∧ (¬ (Int.tdiv x1 100000) = 4 → (((Int.tdiv x1 100000) = 5 → ((100 ≤ (Int.tmod x1 100000) → (Q 0 v0)) ∧ (¬ 100 ≤ (Int.tmod x1 100000) → (Z_M_runTicks (Int.tmod x1 100) v0 (fun r55_ v59_ => ((r55_ = 0 → (Q 0 v59_)) ∧ (¬ r55_ = 0 → (Q 1 v59_)))))))) ∧ (¬ (Int.tdiv x1 100000) = 5 → (((Int.tdiv x1 100000) = 6 → ((1000 ≤ (Int.tmod x1 10000) → (Q 0 v0)) ∧ (¬ 1000 ≤ (Int.tmod x1 10000) → (Z_M_isReader (Int.tmod (Int.tdiv x1 10000) 10) (Mz_trial v0) (fun r66_ => ((r66_ = 0 → (Q 0 v0)) ∧ (¬ r66_ = 0 → (Z_M_reader (Int.tmod (Int.tdiv x1 10000) 10) (fun r71_ => zin (r71_ + 1) ∧ ((0 : Int) ≤ (r71_ + 1) ∧ ((r71_ + 1) : Int) < 621) ∧ ((((Mz_trial v0 (Int.toNat (r71_ + 1))) < (Int.tmod x1 10000) → (Q 0 v0)) ∧ (¬ (Mz_trial v0 (Int.toNat (r71_ + 1))) < (Int.tmod x1 10000) → (Q 1 v0))))))))))))) ∧ (¬ (Int.tdiv x1 100000) = 6 → (((Int.tdiv x1 100000) = 7 → ((100 ≤ (Int.tmod x1 10000) → (Q 0 v0)) ∧ (¬ 100 ≤ (Int.tmod x1 10000) → (Z_M_isKey (Int.tmod (Int.tdiv x1 10000) 10) (fun r79_ => ((r79_ = 0 → (Q 0 v0)) ∧ (¬ r79_ = 0 → ((0 : Int) ≤ 401 ∧ (401 : Int) < 621) ∧ ((Z_M_told (Int.tmod (Int.tdiv x1 10000) 10) (Mz_trial v0 (Int.toNat 401)) (Mz_trial v0) (fun r85_ => ((¬ r85_ = (Int.tmod x1 100) → (Q 0 v0)) ∧ (r85_ = (Int.tmod x1 100) → (Q 1 v0))))))))))))) ∧ (¬ (Int.tdiv x1 100000) = 7 → (((Int.tdiv x1 100000) = 8 → ((1000 ≤ (Int.tmod x1 100000) → (Q 0 v0)) ∧ (¬ 1000 ≤ (Int.tmod x1 100000) → ((0 : Int) ≤ 400 ∧ (400 : Int) < 621) ∧ ((((Mz_trial v0 (Int.toNat 400)) < (Int.tmod x1 100000) → (Q 0 v0)) ∧ (¬ (Mz_trial v0 (Int.toNat 400)) < (Int.tmod x1 100000) → (Q 1 v0))))))) ∧ (¬ (Int.tdiv x1 100000) = 8 → (((Int.tdiv x1 100000) = 9 → ((2 ≤ (Int.tmod x1 10000) → (Q 0 v0)) ∧ (¬ 2 ≤ (Int.tmod x1 10000) → (Z_M_isReader (Int.tmod (Int.tdiv x1 10000) 10) (Mz_trial v0) (fun r96_ => ((r96_ = 0 → (Q 0 v0)) ∧ (¬ r96_ = 0 → (Z_M_reader (Int.tmod (Int.tdiv x1 10000) 10) (fun r101_ => zin (r101_ + 2) ∧ ((0 : Int) ≤ (r101_ + 2) ∧ ((r101_ + 2) : Int) < 621) ∧ (((¬ (Mz_trial v0 (Int.toNat (r101_ + 2))) = (Int.tmod x1 10) → (Q 0 v0)) ∧ ((Mz_trial v0 (Int.toNat (r101_ + 2))) = (Int.tmod x1 10) → (Q 1 v0))))))))))))) ∧ (¬ (Int.tdiv x1 100000) = 9 → (Q 0 v0)))))))))))))))))))
set_option maxRecDepth 100000 in
theorem z_M_command {x1 : Int32} {x1z : Int} {v0 : MT} {v0z : MZ}  {Q : Int32 → MT → Prop} {Qz : (Int → MZ → Prop)} (e_x1 : x1.toInt = x1z) (e_v0 : (aM v0) = v0z) (h_Q : ∀ (a0 : Int32) (a1 : MT), Qz a0.toInt (aM a1) → Q a0 a1) (h : Z_M_command x1z v0z Qz) : P_M_command x1 v0 Q := by
  subst e_x1
  subst e_v0
  unfold Z_M_command at h
  unfold P_M_command
  refine ⟨fun c37q => ?_, fun c37q => ?_⟩
  · have h := h.1 ((zt_eq (show (((x1 / 100000) : Int32)).toInt = ((Int.tdiv x1.toInt 100000) : Int) from (zt_div rfl rfl (by decide))) rfl).mp c37q)
    refine z_M_runWrite (show (((zrem (x1 / 10000) 10) : Int32)).toInt = ((Int.tmod (Int.tdiv x1.toInt 10000) 10) : Int) from (zt_rem (show (((x1 / 10000) : Int32)).toInt = ((Int.tdiv x1.toInt 10000) : Int) from (zt_div rfl rfl (by decide))) rfl (by decide) (by decide))) (show (((zrem (x1 / 100) 100) : Int32)).toInt = ((Int.tmod (Int.tdiv x1.toInt 100) 100) : Int) from (zt_rem (show (((x1 / 100) : Int32)).toInt = ((Int.tdiv x1.toInt 100) : Int) from (zt_div rfl rfl (by decide))) rfl (by decide) (by decide))) (show (((zrem x1 100) : Int32)).toInt = ((Int.tmod x1.toInt 100) : Int) from (zt_rem rfl rfl (by decide) (by decide))) rfl (fun r2_ v6_ h => ?_) h
    obtain ⟨i1q, h⟩ := h
    refine ⟨zt_zb rfl i1q, ?_⟩
    exact h_Q _ _ h
  · have h := h.2 (fun k => c37q ((zt_eq (show (((x1 / 100000) : Int32)).toInt = ((Int.tdiv x1.toInt 100000) : Int) from (zt_div rfl rfl (by decide))) rfl).mpr k))
    refine ⟨fun c36q => ?_, fun c36q => ?_⟩
    · have h := h.1 ((zt_eq (show (((x1 / 100000) : Int32)).toInt = ((Int.tdiv x1.toInt 100000) : Int) from (zt_div rfl rfl (by decide))) rfl).mp c36q)
      refine ⟨fun c3q => ?_, fun c3q => ?_⟩
      · have h := h.1 ((zt_le rfl (show (((zrem x1 10000) : Int32)).toInt = ((Int.tmod x1.toInt 10000) : Int) from (zt_rem rfl rfl (by decide) (by decide)))).mp c3q)
        exact h_Q _ _ h
      · have h := h.2 (fun k => c3q ((zt_le rfl (show (((zrem x1 10000) : Int32)).toInt = ((Int.tmod x1.toInt 10000) : Int) from (zt_rem rfl rfl (by decide) (by decide)))).mpr k))
        refine z_M_runRead (show (((zrem (x1 / 10000) 10) : Int32)).toInt = ((Int.tmod (Int.tdiv x1.toInt 10000) 10) : Int) from (zt_rem (show (((x1 / 10000) : Int32)).toInt = ((Int.tdiv x1.toInt 10000) : Int) from (zt_div rfl rfl (by decide))) rfl (by decide) (by decide))) (show (((zrem x1 100) : Int32)).toInt = ((Int.tmod x1.toInt 100) : Int) from (zt_rem rfl rfl (by decide) (by decide))) rfl (fun r12_ v16_ h => ?_) h
        refine ⟨fun c2q => ?_, fun c2q => ?_⟩
        · have h := h.1 ((zt_eq rfl rfl).mp c2q)
          exact h_Q _ _ h
        · have h := h.2 (fun k => c2q ((zt_eq rfl rfl).mpr k))
          exact h_Q _ _ h
    · have h := h.2 (fun k => c36q ((zt_eq (show (((x1 / 100000) : Int32)).toInt = ((Int.tdiv x1.toInt 100000) : Int) from (zt_div rfl rfl (by decide))) rfl).mpr k))
      refine ⟨fun c35q => ?_, fun c35q => ?_⟩
      · have h := h.1 ((zt_eq (show (((x1 / 100000) : Int32)).toInt = ((Int.tdiv x1.toInt 100000) : Int) from (zt_div rfl rfl (by decide))) rfl).mp c35q)
        refine ⟨fun c7q => ?_, fun c7q => ?_⟩
        · have h := h.1 ((zt_le rfl (show (((zrem x1 1000) : Int32)).toInt = ((Int.tmod x1.toInt 1000) : Int) from (zt_rem rfl rfl (by decide) (by decide)))).mp c7q)
          exact h_Q _ _ h
        · have h := h.2 (fun k => c7q ((zt_le rfl (show (((zrem x1 1000) : Int32)).toInt = ((Int.tmod x1.toInt 1000) : Int) from (zt_rem rfl rfl (by decide) (by decide)))).mpr k))
          refine ⟨fun c6q => ?_, fun c6q => ?_⟩
          · have h := h.1 (fun k => c6q ((zt_eq (show (((zrem x1 10) : Int32)).toInt = ((Int.tmod x1.toInt 10) : Int) from (zt_rem rfl rfl (by decide) (by decide))) rfl).mpr k))
            refine z_M_runJoin (show (((zrem (x1 / 10000) 10) : Int32)).toInt = ((Int.tmod (Int.tdiv x1.toInt 10000) 10) : Int) from (zt_rem (show (((x1 / 10000) : Int32)).toInt = ((Int.tdiv x1.toInt 10000) : Int) from (zt_div rfl rfl (by decide))) rfl (by decide) (by decide))) (show (((zrem (x1 / 1000) 10) : Int32)).toInt = ((Int.tmod (Int.tdiv x1.toInt 1000) 10) : Int) from (zt_rem (show (((x1 / 1000) : Int32)).toInt = ((Int.tdiv x1.toInt 1000) : Int) from (zt_div rfl rfl (by decide))) rfl (by decide) (by decide))) rfl rfl (fun r24_ v28_ h => ?_) h
            refine ⟨fun c4q => ?_, fun c4q => ?_⟩
            · have h := h.1 ((zt_eq rfl rfl).mp c4q)
              exact h_Q _ _ h
            · have h := h.2 (fun k => c4q ((zt_eq rfl rfl).mpr k))
              exact h_Q _ _ h
          · have h := h.2 ((zt_eq (show (((zrem x1 10) : Int32)).toInt = ((Int.tmod x1.toInt 10) : Int) from (zt_rem rfl rfl (by decide) (by decide))) rfl).mp c6q)
            refine z_M_runJoin (show (((zrem (x1 / 10000) 10) : Int32)).toInt = ((Int.tmod (Int.tdiv x1.toInt 10000) 10) : Int) from (zt_rem (show (((x1 / 10000) : Int32)).toInt = ((Int.tdiv x1.toInt 10000) : Int) from (zt_div rfl rfl (by decide))) rfl (by decide) (by decide))) (show (((zrem (x1 / 1000) 10) : Int32)).toInt = ((Int.tmod (Int.tdiv x1.toInt 1000) 10) : Int) from (zt_rem (show (((x1 / 1000) : Int32)).toInt = ((Int.tdiv x1.toInt 1000) : Int) from (zt_div rfl rfl (by decide))) rfl (by decide) (by decide))) rfl rfl (fun r33_ v37_ h => ?_) h
            refine ⟨fun c5q => ?_, fun c5q => ?_⟩
            · have h := h.1 ((zt_eq rfl rfl).mp c5q)
              exact h_Q _ _ h
            · have h := h.2 (fun k => c5q ((zt_eq rfl rfl).mpr k))
              exact h_Q _ _ h
      · have h := h.2 (fun k => c35q ((zt_eq (show (((x1 / 100000) : Int32)).toInt = ((Int.tdiv x1.toInt 100000) : Int) from (zt_div rfl rfl (by decide))) rfl).mpr k))
        refine ⟨fun c34q => ?_, fun c34q => ?_⟩
        · have h := h.1 ((zt_eq (show (((x1 / 100000) : Int32)).toInt = ((Int.tdiv x1.toInt 100000) : Int) from (zt_div rfl rfl (by decide))) rfl).mp c34q)
          refine ⟨fun c9q => ?_, fun c9q => ?_⟩
          · have h := h.1 (fun k => c9q ((zt_eq (show (((zrem x1 10000) : Int32)).toInt = ((Int.tmod x1.toInt 10000) : Int) from (zt_rem rfl rfl (by decide) (by decide))) rfl).mpr k))
            exact h_Q _ _ h
          · have h := h.2 ((zt_eq (show (((zrem x1 10000) : Int32)).toInt = ((Int.tmod x1.toInt 10000) : Int) from (zt_rem rfl rfl (by decide) (by decide))) rfl).mp c9q)
            refine z_M_runLeave (show (((zrem (x1 / 10000) 10) : Int32)).toInt = ((Int.tmod (Int.tdiv x1.toInt 10000) 10) : Int) from (zt_rem (show (((x1 / 10000) : Int32)).toInt = ((Int.tdiv x1.toInt 10000) : Int) from (zt_div rfl rfl (by decide))) rfl (by decide) (by decide))) rfl (fun r44_ v48_ h => ?_) h
            refine ⟨fun c8q => ?_, fun c8q => ?_⟩
            · have h := h.1 ((zt_eq rfl rfl).mp c8q)
              exact h_Q _ _ h
            · have h := h.2 (fun k => c8q ((zt_eq rfl rfl).mpr k))
              exact h_Q _ _ h
        · have h := h.2 (fun k => c34q ((zt_eq (show (((x1 / 100000) : Int32)).toInt = ((Int.tdiv x1.toInt 100000) : Int) from (zt_div rfl rfl (by decide))) rfl).mpr k))
          refine ⟨fun c33q => ?_, fun c33q => ?_⟩
          · have h := h.1 ((zt_eq (show (((x1 / 100000) : Int32)).toInt = ((Int.tdiv x1.toInt 100000) : Int) from (zt_div rfl rfl (by decide))) rfl).mp c33q)
            refine ⟨fun c11q => ?_, fun c11q => ?_⟩
            · have h := h.1 ((zt_le rfl (show (((zrem x1 100000) : Int32)).toInt = ((Int.tmod x1.toInt 100000) : Int) from (zt_rem rfl rfl (by decide) (by decide)))).mp c11q)
              exact h_Q _ _ h
            · have h := h.2 (fun k => c11q ((zt_le rfl (show (((zrem x1 100000) : Int32)).toInt = ((Int.tmod x1.toInt 100000) : Int) from (zt_rem rfl rfl (by decide) (by decide)))).mpr k))
              refine z_M_runTicks (show (((zrem x1 100) : Int32)).toInt = ((Int.tmod x1.toInt 100) : Int) from (zt_rem rfl rfl (by decide) (by decide))) rfl (fun r55_ v59_ h => ?_) h
              refine ⟨fun c10q => ?_, fun c10q => ?_⟩
              · have h := h.1 ((zt_eq rfl rfl).mp c10q)
                exact h_Q _ _ h
              · have h := h.2 (fun k => c10q ((zt_eq rfl rfl).mpr k))
                exact h_Q _ _ h
          · have h := h.2 (fun k => c33q ((zt_eq (show (((x1 / 100000) : Int32)).toInt = ((Int.tdiv x1.toInt 100000) : Int) from (zt_div rfl rfl (by decide))) rfl).mpr k))
            refine ⟨fun c32q => ?_, fun c32q => ?_⟩
            · have h := h.1 ((zt_eq (show (((x1 / 100000) : Int32)).toInt = ((Int.tdiv x1.toInt 100000) : Int) from (zt_div rfl rfl (by decide))) rfl).mp c32q)
              refine ⟨fun c16q => ?_, fun c16q => ?_⟩
              · have h := h.1 ((zt_le rfl (show (((zrem x1 10000) : Int32)).toInt = ((Int.tmod x1.toInt 10000) : Int) from (zt_rem rfl rfl (by decide) (by decide)))).mp c16q)
                exact h_Q _ _ h
              · have h := h.2 (fun k => c16q ((zt_le rfl (show (((zrem x1 10000) : Int32)).toInt = ((Int.tmod x1.toInt 10000) : Int) from (zt_rem rfl rfl (by decide) (by decide)))).mpr k))
                refine z_M_isReader (show (((zrem (x1 / 10000) 10) : Int32)).toInt = ((Int.tmod (Int.tdiv x1.toInt 10000) 10) : Int) from (zt_rem (show (((x1 / 10000) : Int32)).toInt = ((Int.tdiv x1.toInt 10000) : Int) from (zt_div rfl rfl (by decide))) rfl (by decide) (by decide))) rfl (fun r66_ h => ?_) h
                refine ⟨fun c15q => ?_, fun c15q => ?_⟩
                · have h := h.1 ((zt_eq rfl rfl).mp c15q)
                  exact h_Q _ _ h
                · have h := h.2 (fun k => c15q ((zt_eq rfl rfl).mpr k))
                  refine z_M_reader (show (((zrem (x1 / 10000) 10) : Int32)).toInt = ((Int.tmod (Int.tdiv x1.toInt 10000) 10) : Int) from (zt_rem (show (((x1 / 10000) : Int32)).toInt = ((Int.tdiv x1.toInt 10000) : Int) from (zt_div rfl rfl (by decide))) rfl (by decide) (by decide))) (fun r71_ h => ?_) h
                  obtain ⟨o12q, h⟩ := h
                  obtain ⟨i13q, h⟩ := h
                  refine ⟨zt_in (show (((r71_ + 1) : Int32)).toInt = ((r71_.toInt + 1) : Int) from (zt_add rfl rfl o12q)) i13q, ?_⟩
                  refine ⟨fun c14q => ?_, fun c14q => ?_⟩
                  · have h := h.1 ((zt_lt (show (((M_trial v0 (Int32.toNatClampNeg (r71_ + 1))) : Int32)).toInt = ((Mz_trial (aM v0) (Int.toNat (r71_.toInt + 1))) : Int) from (congrArg (fun k => Mz_trial (aM v0) k) (show (Int32.toNatClampNeg (r71_ + 1)) = (Int.toNat (r71_.toInt + 1)) from (congrArg Int.toNat (show (((r71_ + 1) : Int32)).toInt = ((r71_.toInt + 1) : Int) from (zt_add rfl rfl o12q)))))) (show (((zrem x1 10000) : Int32)).toInt = ((Int.tmod x1.toInt 10000) : Int) from (zt_rem rfl rfl (by decide) (by decide)))).mp c14q)
                    exact h_Q _ _ h
                  · have h := h.2 (fun k => c14q ((zt_lt (show (((M_trial v0 (Int32.toNatClampNeg (r71_ + 1))) : Int32)).toInt = ((Mz_trial (aM v0) (Int.toNat (r71_.toInt + 1))) : Int) from (congrArg (fun k => Mz_trial (aM v0) k) (show (Int32.toNatClampNeg (r71_ + 1)) = (Int.toNat (r71_.toInt + 1)) from (congrArg Int.toNat (show (((r71_ + 1) : Int32)).toInt = ((r71_.toInt + 1) : Int) from (zt_add rfl rfl o12q)))))) (show (((zrem x1 10000) : Int32)).toInt = ((Int.tmod x1.toInt 10000) : Int) from (zt_rem rfl rfl (by decide) (by decide)))).mpr k))
                    exact h_Q _ _ h
            · have h := h.2 (fun k => c32q ((zt_eq (show (((x1 / 100000) : Int32)).toInt = ((Int.tdiv x1.toInt 100000) : Int) from (zt_div rfl rfl (by decide))) rfl).mpr k))
              refine ⟨fun c31q => ?_, fun c31q => ?_⟩
              · have h := h.1 ((zt_eq (show (((x1 / 100000) : Int32)).toInt = ((Int.tdiv x1.toInt 100000) : Int) from (zt_div rfl rfl (by decide))) rfl).mp c31q)
                refine ⟨fun c20q => ?_, fun c20q => ?_⟩
                · have h := h.1 ((zt_le rfl (show (((zrem x1 10000) : Int32)).toInt = ((Int.tmod x1.toInt 10000) : Int) from (zt_rem rfl rfl (by decide) (by decide)))).mp c20q)
                  exact h_Q _ _ h
                · have h := h.2 (fun k => c20q ((zt_le rfl (show (((zrem x1 10000) : Int32)).toInt = ((Int.tmod x1.toInt 10000) : Int) from (zt_rem rfl rfl (by decide) (by decide)))).mpr k))
                  refine z_M_isKey (show (((zrem (x1 / 10000) 10) : Int32)).toInt = ((Int.tmod (Int.tdiv x1.toInt 10000) 10) : Int) from (zt_rem (show (((x1 / 10000) : Int32)).toInt = ((Int.tdiv x1.toInt 10000) : Int) from (zt_div rfl rfl (by decide))) rfl (by decide) (by decide))) (fun r79_ h => ?_) h
                  refine ⟨fun c19q => ?_, fun c19q => ?_⟩
                  · have h := h.1 ((zt_eq rfl rfl).mp c19q)
                    exact h_Q _ _ h
                  · have h := h.2 (fun k => c19q ((zt_eq rfl rfl).mpr k))
                    obtain ⟨i17q, h⟩ := h
                    refine ⟨zt_in (show (401 : Int32).toInt = 401 from by decide) i17q, ?_⟩
                    refine z_M_told (show (((zrem (x1 / 10000) 10) : Int32)).toInt = ((Int.tmod (Int.tdiv x1.toInt 10000) 10) : Int) from (zt_rem (show (((x1 / 10000) : Int32)).toInt = ((Int.tdiv x1.toInt 10000) : Int) from (zt_div rfl rfl (by decide))) rfl (by decide) (by decide))) rfl rfl (fun r85_ h => ?_) h
                    refine ⟨fun c18q => ?_, fun c18q => ?_⟩
                    · have h := h.1 (fun k => c18q ((zt_eq rfl (show (((zrem x1 100) : Int32)).toInt = ((Int.tmod x1.toInt 100) : Int) from (zt_rem rfl rfl (by decide) (by decide)))).mpr k))
                      exact h_Q _ _ h
                    · have h := h.2 ((zt_eq rfl (show (((zrem x1 100) : Int32)).toInt = ((Int.tmod x1.toInt 100) : Int) from (zt_rem rfl rfl (by decide) (by decide)))).mp c18q)
                      exact h_Q _ _ h
              · have h := h.2 (fun k => c31q ((zt_eq (show (((x1 / 100000) : Int32)).toInt = ((Int.tdiv x1.toInt 100000) : Int) from (zt_div rfl rfl (by decide))) rfl).mpr k))
                refine ⟨fun c30q => ?_, fun c30q => ?_⟩
                · have h := h.1 ((zt_eq (show (((x1 / 100000) : Int32)).toInt = ((Int.tdiv x1.toInt 100000) : Int) from (zt_div rfl rfl (by decide))) rfl).mp c30q)
                  refine ⟨fun c23q => ?_, fun c23q => ?_⟩
                  · have h := h.1 ((zt_le rfl (show (((zrem x1 100000) : Int32)).toInt = ((Int.tmod x1.toInt 100000) : Int) from (zt_rem rfl rfl (by decide) (by decide)))).mp c23q)
                    exact h_Q _ _ h
                  · have h := h.2 (fun k => c23q ((zt_le rfl (show (((zrem x1 100000) : Int32)).toInt = ((Int.tmod x1.toInt 100000) : Int) from (zt_rem rfl rfl (by decide) (by decide)))).mpr k))
                    obtain ⟨i21q, h⟩ := h
                    refine ⟨zt_in (show (400 : Int32).toInt = 400 from by decide) i21q, ?_⟩
                    refine ⟨fun c22q => ?_, fun c22q => ?_⟩
                    · have h := h.1 ((zt_lt rfl (show (((zrem x1 100000) : Int32)).toInt = ((Int.tmod x1.toInt 100000) : Int) from (zt_rem rfl rfl (by decide) (by decide)))).mp c22q)
                      exact h_Q _ _ h
                    · have h := h.2 (fun k => c22q ((zt_lt rfl (show (((zrem x1 100000) : Int32)).toInt = ((Int.tmod x1.toInt 100000) : Int) from (zt_rem rfl rfl (by decide) (by decide)))).mpr k))
                      exact h_Q _ _ h
                · have h := h.2 (fun k => c30q ((zt_eq (show (((x1 / 100000) : Int32)).toInt = ((Int.tdiv x1.toInt 100000) : Int) from (zt_div rfl rfl (by decide))) rfl).mpr k))
                  refine ⟨fun c29q => ?_, fun c29q => ?_⟩
                  · have h := h.1 ((zt_eq (show (((x1 / 100000) : Int32)).toInt = ((Int.tdiv x1.toInt 100000) : Int) from (zt_div rfl rfl (by decide))) rfl).mp c29q)
                    refine ⟨fun c28q => ?_, fun c28q => ?_⟩
                    · have h := h.1 ((zt_le rfl (show (((zrem x1 10000) : Int32)).toInt = ((Int.tmod x1.toInt 10000) : Int) from (zt_rem rfl rfl (by decide) (by decide)))).mp c28q)
                      exact h_Q _ _ h
                    · have h := h.2 (fun k => c28q ((zt_le rfl (show (((zrem x1 10000) : Int32)).toInt = ((Int.tmod x1.toInt 10000) : Int) from (zt_rem rfl rfl (by decide) (by decide)))).mpr k))
                      refine z_M_isReader (show (((zrem (x1 / 10000) 10) : Int32)).toInt = ((Int.tmod (Int.tdiv x1.toInt 10000) 10) : Int) from (zt_rem (show (((x1 / 10000) : Int32)).toInt = ((Int.tdiv x1.toInt 10000) : Int) from (zt_div rfl rfl (by decide))) rfl (by decide) (by decide))) rfl (fun r96_ h => ?_) h
                      refine ⟨fun c27q => ?_, fun c27q => ?_⟩
                      · have h := h.1 ((zt_eq rfl rfl).mp c27q)
                        exact h_Q _ _ h
                      · have h := h.2 (fun k => c27q ((zt_eq rfl rfl).mpr k))
                        refine z_M_reader (show (((zrem (x1 / 10000) 10) : Int32)).toInt = ((Int.tmod (Int.tdiv x1.toInt 10000) 10) : Int) from (zt_rem (show (((x1 / 10000) : Int32)).toInt = ((Int.tdiv x1.toInt 10000) : Int) from (zt_div rfl rfl (by decide))) rfl (by decide) (by decide))) (fun r101_ h => ?_) h
                        obtain ⟨o24q, h⟩ := h
                        obtain ⟨i25q, h⟩ := h
                        refine ⟨zt_in (show (((r101_ + 2) : Int32)).toInt = ((r101_.toInt + 2) : Int) from (zt_add rfl rfl o24q)) i25q, ?_⟩
                        refine ⟨fun c26q => ?_, fun c26q => ?_⟩
                        · have h := h.1 (fun k => c26q ((zt_eq (show (((M_trial v0 (Int32.toNatClampNeg (r101_ + 2))) : Int32)).toInt = ((Mz_trial (aM v0) (Int.toNat (r101_.toInt + 2))) : Int) from (congrArg (fun k => Mz_trial (aM v0) k) (show (Int32.toNatClampNeg (r101_ + 2)) = (Int.toNat (r101_.toInt + 2)) from (congrArg Int.toNat (show (((r101_ + 2) : Int32)).toInt = ((r101_.toInt + 2) : Int) from (zt_add rfl rfl o24q)))))) (show (((zrem x1 10) : Int32)).toInt = ((Int.tmod x1.toInt 10) : Int) from (zt_rem rfl rfl (by decide) (by decide)))).mpr k))
                          exact h_Q _ _ h
                        · have h := h.2 ((zt_eq (show (((M_trial v0 (Int32.toNatClampNeg (r101_ + 2))) : Int32)).toInt = ((Mz_trial (aM v0) (Int.toNat (r101_.toInt + 2))) : Int) from (congrArg (fun k => Mz_trial (aM v0) k) (show (Int32.toNatClampNeg (r101_ + 2)) = (Int.toNat (r101_.toInt + 2)) from (congrArg Int.toNat (show (((r101_ + 2) : Int32)).toInt = ((r101_.toInt + 2) : Int) from (zt_add rfl rfl o24q)))))) (show (((zrem x1 10) : Int32)).toInt = ((Int.tmod x1.toInt 10) : Int) from (zt_rem rfl rfl (by decide) (by decide)))).mp c26q)
                          exact h_Q _ _ h
                  · have h := h.2 (fun k => c29q ((zt_eq (show (((x1 / 100000) : Int32)).toInt = ((Int.tdiv x1.toInt 100000) : Int) from (zt_div rfl rfl (by decide))) rfl).mpr k))
                    exact h_Q _ _ h

def ZL_M_runScript_57 : Nat → Int → Int → Int → Int → Int → MZ → (Int → MZ → Prop) → Prop
  | 0, _, _, _, _, _, _, _ => False
  | n + 1, x1, x2, y1, y2, y4, v0, Q => ((y1 ≤ y4 → (Q (-1) v0)) ∧ (¬ y1 ≤ y4 → zin (y1 - 1) ∧ zin ((y1 - 1) - y4) ∧ zin (6 * ((y1 - 1) - y4)) ∧ (Z_M_tens (6 * ((y1 - 1) - y4)) (fun r28_ => ¬ (r28_ : Int) = 0 ∧ (¬ (1000000 : Int) = 0 ∧ (Z_M_command (wi (zremlZ (wl (Int.tdiv y2 r28_)) 1000000)) v0 (fun r33_ v37_ => ((¬ r33_ = 0 → zin (y4 + 1) ∧ (ZL_M_runScript_57 n x1 x2 y1 y2 (y4 + 1) v37_ Q)) ∧ (r33_ = 0 → (Q y4 v37_))))))))))
set_option maxRecDepth 100000 in
theorem zL_M_runScript_57 (n : Nat) : ∀ {x1 : Int32} {x1z : Int} {x2 : Int64} {x2z : Int} {y1 : Int32} {y1z : Int} {y2 : Int64} {y2z : Int} {y4 : Int32} {y4z : Int} {v0 : MT} {v0z : MZ}  {Q : Int32 → MT → Prop} {Qz : (Int → MZ → Prop)} (e_x1 : x1.toInt = x1z) (e_x2 : x2.toInt = x2z) (e_y1 : y1.toInt = y1z) (e_y2 : y2.toInt = y2z) (e_y4 : y4.toInt = y4z) (e_v0 : (aM v0) = v0z) (h_Q : ∀ (a0 : Int32) (a1 : MT), Qz a0.toInt (aM a1) → Q a0 a1) (h : ZL_M_runScript_57 n x1z x2z y1z y2z y4z v0z Qz), PL_M_runScript_57 n x1 x2 y1 y2 y4 v0 Q := by
  induction n with
  | zero =>
    intro x1 x1z x2 x2z y1 y1z y2 y2z y4 y4z v0 v0z Q Qz e_x1 e_x2 e_y1 e_y2 e_y4 e_v0 h_Q h
    exact (h : False).elim
  | succ n ih =>
    intro x1 x1z x2 x2z y1 y1z y2 y2z y4 y4z v0 v0z Q Qz e_x1 e_x2 e_y1 e_y2 e_y4 e_v0 h_Q h
    subst e_x1
    subst e_x2
    subst e_y1
    subst e_y2
    subst e_y4
    subst e_v0
    rw [ZL_M_runScript_57] at h
    rw [PL_M_runScript_57]
    refine ⟨fun c8q => ?_, fun c8q => ?_⟩
    · have h := h.1 ((zt_le rfl rfl).mp c8q)
      exact h_Q _ _ h
    · have h := h.2 (fun k => c8q ((zt_le rfl rfl).mpr k))
      obtain ⟨o1q, h⟩ := h
      obtain ⟨o2q, h⟩ := h
      obtain ⟨o3q, h⟩ := h
      refine z_M_tens (show (((6 * ((y1 - 1) - y4)) : Int32)).toInt = ((6 * ((y1.toInt - 1) - y4.toInt)) : Int) from (zt_mul rfl (show ((((y1 - 1) - y4) : Int32)).toInt = (((y1.toInt - 1) - y4.toInt) : Int) from (zt_sub (show (((y1 - 1) : Int32)).toInt = ((y1.toInt - 1) : Int) from (zt_sub rfl rfl o1q)) rfl o2q)) o3q)) (fun r28_ h => ?_) h
      obtain ⟨i4q, h⟩ := h
      refine ⟨fun k => i4q ((zt_leq rfl rfl).mp k), ?_⟩
      obtain ⟨o5q, h⟩ := h
      refine z_M_command (show (((Int64.toInt32 (zreml (y2 / r28_) 1000000)) : Int32)).toInt = ((wi (zremlZ (wl (Int.tdiv y2.toInt r28_.toInt)) 1000000)) : Int) from (zt_l2i (show (zreml (y2 / r28_) 1000000).toInt = ((zremlZ (wl (Int.tdiv y2.toInt r28_.toInt)) 1000000) : Int) from (zt_reml (show (y2 / r28_).toInt = ((wl (Int.tdiv y2.toInt r28_.toInt)) : Int) from (zt_ldiv rfl rfl)) rfl o5q)))) rfl (fun r33_ v37_ h => ?_) h
      refine ⟨fun c7q => ?_, fun c7q => ?_⟩
      · have h := h.1 (fun k => c7q ((zt_eq rfl rfl).mpr k))
        obtain ⟨o6q, h⟩ := h
        refine ih rfl rfl rfl rfl (show (((y4 + 1) : Int32)).toInt = ((y4.toInt + 1) : Int) from (zt_add rfl rfl o6q)) rfl h_Q h
      · have h := h.2 ((zt_eq rfl rfl).mp c7q)
        exact h_Q _ _ h
def ZJ_M_runScript_35 (x1 : Int) (x2 : Int) (y1 : Int) (y2 : Int) (u0 : Int) (v0 : MZ) (Q : (Int → MZ → Prop)) : Prop := (Z_M_refused u0 v0 (fun r6_ v10_ => ((r6_ = 0 → (Z_M_copy (Mz_now v10_) (Mz_trial v10_) (fun v19_ => (∀ v24_, v24_ = (Mz_set_trial v10_ v19_) → ((∃ n42_, (ZL_M_runScript_57 n42_ x1 x2 y1 y2 0 v24_ Q))))))) ∧ (¬ r6_ = 0 → (Q 0 v10_)))))
set_option maxRecDepth 100000 in
theorem zJ_M_runScript_35 {x1 : Int32} {x1z : Int} {x2 : Int64} {x2z : Int} {y1 : Int32} {y1z : Int} {y2 : Int64} {y2z : Int} {u0 : Int32} {u0z : Int} {v0 : MT} {v0z : MZ}  {Q : Int32 → MT → Prop} {Qz : (Int → MZ → Prop)} (e_x1 : x1.toInt = x1z) (e_x2 : x2.toInt = x2z) (e_y1 : y1.toInt = y1z) (e_y2 : y2.toInt = y2z) (e_u0 : u0.toInt = u0z) (e_v0 : (aM v0) = v0z) (h_Q : ∀ (a0 : Int32) (a1 : MT), Qz a0.toInt (aM a1) → Q a0 a1) (h : ZJ_M_runScript_35 x1z x2z y1z y2z u0z v0z Qz) : PJ_M_runScript_35 x1 x2 y1 y2 u0 v0 Q := by
  subst e_x1
  subst e_x2
  subst e_y1
  subst e_y2
  subst e_u0
  subst e_v0
  unfold ZJ_M_runScript_35 at h
  unfold PJ_M_runScript_35
  refine z_M_refused rfl rfl (fun r6_ v10_ h => ?_) h
  refine ⟨fun c1q => ?_, fun c1q => ?_⟩
  · have h := h.1 ((zt_eq rfl rfl).mp c1q)
    refine z_M_copy rfl rfl (fun v19_ h => ?_) h
    intro v24_ ev24_
    have h := h (aM v24_) (by rw [ev24_]; exact rfl)
    obtain ⟨n42_, h⟩ := h
    refine ⟨n42_, ?_⟩
    refine zL_M_runScript_57 n42_ rfl rfl rfl rfl rfl rfl h_Q h
  · have h := h.2 (fun k => c1q ((zt_eq rfl rfl).mpr k))
    exact h_Q _ _ h
def ZJ_M_runScript_34 (x1 : Int) (x2 : Int) (y1 : Int) (y2 : Int) (v0 : MZ) (Q : (Int → MZ → Prop)) : Prop := (ZJ_M_runScript_35 x1 x2 y1 y2 1 v0 Q)
set_option maxRecDepth 100000 in
theorem zJ_M_runScript_34 {x1 : Int32} {x1z : Int} {x2 : Int64} {x2z : Int} {y1 : Int32} {y1z : Int} {y2 : Int64} {y2z : Int} {v0 : MT} {v0z : MZ}  {Q : Int32 → MT → Prop} {Qz : (Int → MZ → Prop)} (e_x1 : x1.toInt = x1z) (e_x2 : x2.toInt = x2z) (e_y1 : y1.toInt = y1z) (e_y2 : y2.toInt = y2z) (e_v0 : (aM v0) = v0z) (h_Q : ∀ (a0 : Int32) (a1 : MT), Qz a0.toInt (aM a1) → Q a0 a1) (h : ZJ_M_runScript_34 x1z x2z y1z y2z v0z Qz) : PJ_M_runScript_34 x1 x2 y1 y2 v0 Q := by
  subst e_x1
  subst e_x2
  subst e_y1
  subst e_y2
  subst e_v0
  unfold ZJ_M_runScript_34 at h
  unfold PJ_M_runScript_34
  refine zJ_M_runScript_35 rfl rfl rfl rfl rfl rfl h_Q h
def Z_M_runScript (x1 : Int) (x2 : Int) (v0 : MZ) (Q : (Int → MZ → Prop)) : Prop := (Z_M_in x1 1 3 (fun r1_ => ((r1_ = 0 → (ZJ_M_runScript_34 x1 x2 x1 x2 v0 Q)) ∧ (¬ r1_ = 0 → zin (6 * x1) ∧ (Z_M_tens (6 * x1) (fun r43_ => (Z_M_in x2 0 (wl (r43_ - 1)) (fun r47_ => ((r47_ = 0 → (ZJ_M_runScript_34 x1 x2 x1 x2 v0 Q)) ∧ (¬ r47_ = 0 → (ZJ_M_runScript_35 x1 x2 x1 x2 0 v0 Q)))))))))))
set_option maxRecDepth 100000 in
theorem z_M_runScript {x1 : Int32} {x1z : Int} {x2 : Int64} {x2z : Int} {v0 : MT} {v0z : MZ}  {Q : Int32 → MT → Prop} {Qz : (Int → MZ → Prop)} (e_x1 : x1.toInt = x1z) (e_x2 : x2.toInt = x2z) (e_v0 : (aM v0) = v0z) (h_Q : ∀ (a0 : Int32) (a1 : MT), Qz a0.toInt (aM a1) → Q a0 a1) (h : Z_M_runScript x1z x2z v0z Qz) : P_M_runScript x1 x2 v0 Q := by
  subst e_x1
  subst e_x2
  subst e_v0
  unfold Z_M_runScript at h
  unfold P_M_runScript
  refine z_M_in (show (Int32.toInt64 x1).toInt = (x1.toInt : Int) from (zt_i2l rfl)) rfl rfl (fun r1_ h => ?_) h
  refine ⟨fun c3q => ?_, fun c3q => ?_⟩
  · have h := h.1 ((zt_eq rfl rfl).mp c3q)
    refine zJ_M_runScript_34 rfl rfl rfl rfl rfl h_Q h
  · have h := h.2 (fun k => c3q ((zt_eq rfl rfl).mpr k))
    obtain ⟨o1q, h⟩ := h
    refine z_M_tens (show (((6 * x1) : Int32)).toInt = ((6 * x1.toInt) : Int) from (zt_mul rfl rfl o1q)) (fun r43_ h => ?_) h
    refine z_M_in rfl rfl (show (r43_ - 1).toInt = ((wl (r43_.toInt - 1)) : Int) from (zt_lsub rfl rfl)) (fun r47_ h => ?_) h
    refine ⟨fun c2q => ?_, fun c2q => ?_⟩
    · have h := h.1 ((zt_eq rfl rfl).mp c2q)
      refine zJ_M_runScript_34 rfl rfl rfl rfl rfl h_Q h
    · have h := h.2 (fun k => c2q ((zt_eq rfl rfl).mpr k))
      refine zJ_M_runScript_35 rfl rfl rfl rfl rfl rfl h_Q h

def Z_M_runHold (x1 : Int) (x2 : Int) (v0 : MZ) (Q : (Int → MZ → Prop)) : Prop := (Z_M_isReader x1 (Mz_trial v0) (fun r1_ => ((r1_ = 0 → (Q 0 v0)) ∧ (¬ r1_ = 0 → (Z_M_canHold x1 x2 (Mz_trial v0) (fun r6_ => ((r6_ = 0 → (Q 0 v0)) ∧ (¬ r6_ = 0 → (Z_M_goHold x1 x2 (Mz_trial v0) (fun r11_ v15_ => (∀ v20_, v20_ = (Mz_set_trial v0 v15_) → (((r11_ < 0 → (Q 0 v20_)) ∧ (¬ r11_ < 0 → (Q 1 v20_)))))))))))))))
set_option maxRecDepth 100000 in
theorem z_M_runHold {x1 : Int32} {x1z : Int} {x2 : Int32} {x2z : Int} {v0 : MT} {v0z : MZ}  {Q : Int32 → MT → Prop} {Qz : (Int → MZ → Prop)} (e_x1 : x1.toInt = x1z) (e_x2 : x2.toInt = x2z) (e_v0 : (aM v0) = v0z) (h_Q : ∀ (a0 : Int32) (a1 : MT), Qz a0.toInt (aM a1) → Q a0 a1) (h : Z_M_runHold x1z x2z v0z Qz) : P_M_runHold x1 x2 v0 Q := by
  subst e_x1
  subst e_x2
  subst e_v0
  unfold Z_M_runHold at h
  unfold P_M_runHold
  refine z_M_isReader rfl rfl (fun r1_ h => ?_) h
  refine ⟨fun c3q => ?_, fun c3q => ?_⟩
  · have h := h.1 ((zt_eq rfl rfl).mp c3q)
    exact h_Q _ _ h
  · have h := h.2 (fun k => c3q ((zt_eq rfl rfl).mpr k))
    refine z_M_canHold rfl rfl rfl (fun r6_ h => ?_) h
    refine ⟨fun c2q => ?_, fun c2q => ?_⟩
    · have h := h.1 ((zt_eq rfl rfl).mp c2q)
      exact h_Q _ _ h
    · have h := h.2 (fun k => c2q ((zt_eq rfl rfl).mpr k))
      refine z_M_goHold rfl rfl rfl (fun r11_ v15_ h => ?_) h
      intro v20_ ev20_
      have h := h (aM v20_) (by rw [ev20_]; exact rfl)
      refine ⟨fun c1q => ?_, fun c1q => ?_⟩
      · have h := h.1 ((zt_lt rfl rfl).mp c1q)
        exact h_Q _ _ h
      · have h := h.2 (fun k => c1q ((zt_lt rfl rfl).mpr k))
        exact h_Q _ _ h

def ZJ_M_stir_72 (x1 : Int) (y2 : Int) (v0 : MZ) (Q : (MZ → Prop)) : Prop := zin (1 + (Int.tmod (Int.tdiv y2 1024) 40)) ∧ (Z_M_runWrite (Int.tmod y2 8) (Int.tmod (Int.tdiv y2 8) 100) (1 + (Int.tmod (Int.tdiv y2 1024) 40)) v0 (fun r2_ v6_ => (Q v6_)))
set_option maxRecDepth 100000 in
theorem zJ_M_stir_72 {x1 : Int32} {x1z : Int} {y2 : Int32} {y2z : Int} {v0 : MT} {v0z : MZ}  {Q : MT → Prop} {Qz : (MZ → Prop)} (e_x1 : x1.toInt = x1z) (e_y2 : y2.toInt = y2z) (e_v0 : (aM v0) = v0z) (h_Q : ∀ (a0 : MT), Qz (aM a0) → Q a0) (h : ZJ_M_stir_72 x1z y2z v0z Qz) : PJ_M_stir_72 x1 y2 v0 Q := by
  subst e_x1
  subst e_y2
  subst e_v0
  unfold ZJ_M_stir_72 at h
  unfold PJ_M_stir_72
  obtain ⟨o1q, h⟩ := h
  refine z_M_runWrite (show (((zrem y2 8) : Int32)).toInt = ((Int.tmod y2.toInt 8) : Int) from (zt_rem rfl rfl (by decide) (by decide))) (show (((zrem (y2 / 8) 100) : Int32)).toInt = ((Int.tmod (Int.tdiv y2.toInt 8) 100) : Int) from (zt_rem (show (((y2 / 8) : Int32)).toInt = ((Int.tdiv y2.toInt 8) : Int) from (zt_div rfl rfl (by decide))) rfl (by decide) (by decide))) (show (((1 + (zrem (y2 / 1024) 40)) : Int32)).toInt = ((1 + (Int.tmod (Int.tdiv y2.toInt 1024) 40)) : Int) from (zt_add rfl (show (((zrem (y2 / 1024) 40) : Int32)).toInt = ((Int.tmod (Int.tdiv y2.toInt 1024) 40) : Int) from (zt_rem (show (((y2 / 1024) : Int32)).toInt = ((Int.tdiv y2.toInt 1024) : Int) from (zt_div rfl rfl (by decide))) rfl (by decide) (by decide))) o1q)) rfl (fun r2_ v6_ h => ?_) h
  exact h_Q _ h
def ZJ_M_stir_102 (x1 : Int) (y2 : Int) (v0 : MZ) (Q : (MZ → Prop)) : Prop := ((¬ (Int.tmod (Int.tdiv y2 32) 2) = 1 → (Z_M_runJoin (Int.tmod y2 8) (Int.tmod (Int.tdiv y2 8) 3) 0 v0 (fun r17_ v21_ => (Q v21_)))) ∧ ((Int.tmod (Int.tdiv y2 32) 2) = 1 → (Z_M_runJoin (Int.tmod y2 8) (Int.tmod (Int.tdiv y2 8) 3) 1 v0 (fun r25_ v29_ => (Q v29_)))))
set_option maxRecDepth 100000 in
theorem zJ_M_stir_102 {x1 : Int32} {x1z : Int} {y2 : Int32} {y2z : Int} {v0 : MT} {v0z : MZ}  {Q : MT → Prop} {Qz : (MZ → Prop)} (e_x1 : x1.toInt = x1z) (e_y2 : y2.toInt = y2z) (e_v0 : (aM v0) = v0z) (h_Q : ∀ (a0 : MT), Qz (aM a0) → Q a0) (h : ZJ_M_stir_102 x1z y2z v0z Qz) : PJ_M_stir_102 x1 y2 v0 Q := by
  subst e_x1
  subst e_y2
  subst e_v0
  unfold ZJ_M_stir_102 at h
  unfold PJ_M_stir_102
  refine ⟨fun c1q => ?_, fun c1q => ?_⟩
  · have h := h.1 (fun k => c1q ((zt_eq (show (((zrem (y2 / 32) 2) : Int32)).toInt = ((Int.tmod (Int.tdiv y2.toInt 32) 2) : Int) from (zt_rem (show (((y2 / 32) : Int32)).toInt = ((Int.tdiv y2.toInt 32) : Int) from (zt_div rfl rfl (by decide))) rfl (by decide) (by decide))) rfl).mpr k))
    refine z_M_runJoin (show (((zrem y2 8) : Int32)).toInt = ((Int.tmod y2.toInt 8) : Int) from (zt_rem rfl rfl (by decide) (by decide))) (show (((zrem (y2 / 8) 3) : Int32)).toInt = ((Int.tmod (Int.tdiv y2.toInt 8) 3) : Int) from (zt_rem (show (((y2 / 8) : Int32)).toInt = ((Int.tdiv y2.toInt 8) : Int) from (zt_div rfl rfl (by decide))) rfl (by decide) (by decide))) rfl rfl (fun r17_ v21_ h => ?_) h
    exact h_Q _ h
  · have h := h.2 ((zt_eq (show (((zrem (y2 / 32) 2) : Int32)).toInt = ((Int.tmod (Int.tdiv y2.toInt 32) 2) : Int) from (zt_rem (show (((y2 / 32) : Int32)).toInt = ((Int.tdiv y2.toInt 32) : Int) from (zt_div rfl rfl (by decide))) rfl (by decide) (by decide))) rfl).mp c1q)
    refine z_M_runJoin (show (((zrem y2 8) : Int32)).toInt = ((Int.tmod y2.toInt 8) : Int) from (zt_rem rfl rfl (by decide) (by decide))) (show (((zrem (y2 / 8) 3) : Int32)).toInt = ((Int.tmod (Int.tdiv y2.toInt 8) 3) : Int) from (zt_rem (show (((y2 / 8) : Int32)).toInt = ((Int.tdiv y2.toInt 8) : Int) from (zt_div rfl rfl (by decide))) rfl (by decide) (by decide))) rfl rfl (fun r25_ v29_ h => ?_) h
    exact h_Q _ h
def ZJ_M_stir_136 (x1 : Int) (y2 : Int) (v0 : MZ) (Q : (MZ → Prop)) : Prop := zin (1 + (Int.tmod (Int.tdiv y2 8) 12)) ∧ (Z_M_runRead (Int.tmod y2 8) (1 + (Int.tmod (Int.tdiv y2 8) 12)) v0 (fun r35_ v39_ => (Q v39_)))
set_option maxRecDepth 100000 in
theorem zJ_M_stir_136 {x1 : Int32} {x1z : Int} {y2 : Int32} {y2z : Int} {v0 : MT} {v0z : MZ}  {Q : MT → Prop} {Qz : (MZ → Prop)} (e_x1 : x1.toInt = x1z) (e_y2 : y2.toInt = y2z) (e_v0 : (aM v0) = v0z) (h_Q : ∀ (a0 : MT), Qz (aM a0) → Q a0) (h : ZJ_M_stir_136 x1z y2z v0z Qz) : PJ_M_stir_136 x1 y2 v0 Q := by
  subst e_x1
  subst e_y2
  subst e_v0
  unfold ZJ_M_stir_136 at h
  unfold PJ_M_stir_136
  obtain ⟨o1q, h⟩ := h
  refine z_M_runRead (show (((zrem y2 8) : Int32)).toInt = ((Int.tmod y2.toInt 8) : Int) from (zt_rem rfl rfl (by decide) (by decide))) (show (((1 + (zrem (y2 / 8) 12)) : Int32)).toInt = ((1 + (Int.tmod (Int.tdiv y2.toInt 8) 12)) : Int) from (zt_add rfl (show (((zrem (y2 / 8) 12) : Int32)).toInt = ((Int.tmod (Int.tdiv y2.toInt 8) 12) : Int) from (zt_rem (show (((y2 / 8) : Int32)).toInt = ((Int.tdiv y2.toInt 8) : Int) from (zt_div rfl rfl (by decide))) rfl (by decide) (by decide))) o1q)) rfl (fun r35_ v39_ h => ?_) h
  exact h_Q _ h
def Z_M_stir (x1 : Int) (v0 : MZ) (Q : (MZ → Prop)) : Prop := (((Int.tmod x1 16) = 0 → (ZJ_M_stir_72 x1 (Int.tdiv x1 16) v0 Q)) ∧ (¬ (Int.tmod x1 16) = 0 → (((Int.tmod x1 16) = 1 → (ZJ_M_stir_72 x1 (Int.tdiv x1 16) v0 Q)) ∧ (¬ (Int.tmod x1 16) = 1 → (((Int.tmod x1 16) = 2 → (ZJ_M_stir_72 x1 (Int.tdiv x1 16) v0 Q)) ∧ (¬ (Int.tmod x1 16) = 2 → (((Int.tmod x1 16) = 3 → (ZJ_M_stir_72 x1 (Int.tdiv x1 16) v0 Q)) ∧ (¬ (Int.tmod x1 16) = 3 → (((Int.tmod x1 16) = 4 → (ZJ_M_stir_72 x1 (Int.tdiv x1 16) v0 Q)) ∧ (¬ (Int.tmod x1 16) = 4 → (((Int.tmod x1 16) = 5 → (ZJ_M_stir_72 x1 (Int.tdiv x1 16) v0 Q)) ∧ (¬ (Int.tmod x1 16) = 5 → (((Int.tmod x1 16) = 6 → (ZJ_M_stir_102 x1 (Int.tdiv x1 16) v0 Q)) ∧ (¬ (Int.tmod x1 16) = 6 → (((Int.tmod x1 16) = 7 → (ZJ_M_stir_102 x1 (Int.tdiv x1 16) v0 Q)) ∧ (¬ (Int.tmod x1 16) = 7 → (((Int.tmod x1 16) = 8 → (ZJ_M_stir_136 x1 (Int.tdiv x1 16) v0 Q)) ∧ (¬ (Int.tmod x1 16) = 8 → (((Int.tmod x1 16) = 9 → (ZJ_M_stir_136 x1 (Int.tdiv x1 16) v0 Q)) ∧ (¬ (Int.tmod x1 16) = 9 → (((Int.tmod x1 16) = 10 → ((¬ (Int.tmod (Int.tdiv (Int.tdiv x1 16) 8) 4) = 0 → ((¬ (Int.tmod (Int.tdiv (Int.tdiv x1 16) 32) 2) = 1 → (Z_M_runHold (Int.tmod (Int.tdiv x1 16) 8) 0 v0 (fun r47_ v51_ => (Q v51_)))) ∧ ((Int.tmod (Int.tdiv (Int.tdiv x1 16) 32) 2) = 1 → (Z_M_runHold (Int.tmod (Int.tdiv x1 16) 8) 1 v0 (fun r55_ v59_ => (Q v59_)))))) ∧ ((Int.tmod (Int.tdiv (Int.tdiv x1 16) 8) 4) = 0 → (Z_M_runLeave (Int.tmod (Int.tdiv x1 16) 8) v0 (fun r63_ v67_ => (Q v67_)))))) ∧ (¬ (Int.tmod x1 16) = 10 → (((Int.tmod x1 16) = 11 → ((¬ (Int.tmod (Int.tdiv (Int.tdiv x1 16) 1024) 2) = 0 → (Z_M_put 2 (Int.tmod (Int.tdiv x1 16) 20) (Mz_trial v0) (fun r73_ v77_ => (∀ v82_, v82_ = (Mz_set_trial v0 v77_) → ((Q v82_)))))) ∧ ((Int.tmod (Int.tdiv (Int.tdiv x1 16) 1024) 2) = 0 → (Z_M_put 3 (Int.tmod (Int.tdiv x1 16) 600) (Mz_trial v0) (fun r85_ v89_ => (∀ v94_, v94_ = (Mz_set_trial v0 v89_) → ((Q v94_)))))))) ∧ (¬ (Int.tmod x1 16) = 11 → zin (1 + (Int.tmod (Int.tdiv x1 16) 8)) ∧ (Z_M_runTicks (1 + (Int.tmod (Int.tdiv x1 16) 8)) v0 (fun r97_ v101_ => (Q v101_)))))))))))))))))))))))))))
set_option maxRecDepth 100000 in
theorem z_M_stir {x1 : Int32} {x1z : Int} {v0 : MT} {v0z : MZ}  {Q : MT → Prop} {Qz : (MZ → Prop)} (e_x1 : x1.toInt = x1z) (e_v0 : (aM v0) = v0z) (h_Q : ∀ (a0 : MT), Qz (aM a0) → Q a0) (h : Z_M_stir x1z v0z Qz) : P_M_stir x1 v0 Q := by
  subst e_x1
  subst e_v0
  unfold Z_M_stir at h
  unfold P_M_stir
  refine ⟨fun c16q => ?_, fun c16q => ?_⟩
  · have h := h.1 ((zt_eq (show (((zrem x1 16) : Int32)).toInt = ((Int.tmod x1.toInt 16) : Int) from (zt_rem rfl rfl (by decide) (by decide))) rfl).mp c16q)
    refine zJ_M_stir_72 rfl (show (((x1 / 16) : Int32)).toInt = ((Int.tdiv x1.toInt 16) : Int) from (zt_div rfl rfl (by decide))) rfl h_Q h
  · have h := h.2 (fun k => c16q ((zt_eq (show (((zrem x1 16) : Int32)).toInt = ((Int.tmod x1.toInt 16) : Int) from (zt_rem rfl rfl (by decide) (by decide))) rfl).mpr k))
    refine ⟨fun c15q => ?_, fun c15q => ?_⟩
    · have h := h.1 ((zt_eq (show (((zrem x1 16) : Int32)).toInt = ((Int.tmod x1.toInt 16) : Int) from (zt_rem rfl rfl (by decide) (by decide))) rfl).mp c15q)
      refine zJ_M_stir_72 rfl (show (((x1 / 16) : Int32)).toInt = ((Int.tdiv x1.toInt 16) : Int) from (zt_div rfl rfl (by decide))) rfl h_Q h
    · have h := h.2 (fun k => c15q ((zt_eq (show (((zrem x1 16) : Int32)).toInt = ((Int.tmod x1.toInt 16) : Int) from (zt_rem rfl rfl (by decide) (by decide))) rfl).mpr k))
      refine ⟨fun c14q => ?_, fun c14q => ?_⟩
      · have h := h.1 ((zt_eq (show (((zrem x1 16) : Int32)).toInt = ((Int.tmod x1.toInt 16) : Int) from (zt_rem rfl rfl (by decide) (by decide))) rfl).mp c14q)
        refine zJ_M_stir_72 rfl (show (((x1 / 16) : Int32)).toInt = ((Int.tdiv x1.toInt 16) : Int) from (zt_div rfl rfl (by decide))) rfl h_Q h
      · have h := h.2 (fun k => c14q ((zt_eq (show (((zrem x1 16) : Int32)).toInt = ((Int.tmod x1.toInt 16) : Int) from (zt_rem rfl rfl (by decide) (by decide))) rfl).mpr k))
        refine ⟨fun c13q => ?_, fun c13q => ?_⟩
        · have h := h.1 ((zt_eq (show (((zrem x1 16) : Int32)).toInt = ((Int.tmod x1.toInt 16) : Int) from (zt_rem rfl rfl (by decide) (by decide))) rfl).mp c13q)
          refine zJ_M_stir_72 rfl (show (((x1 / 16) : Int32)).toInt = ((Int.tdiv x1.toInt 16) : Int) from (zt_div rfl rfl (by decide))) rfl h_Q h
        · have h := h.2 (fun k => c13q ((zt_eq (show (((zrem x1 16) : Int32)).toInt = ((Int.tmod x1.toInt 16) : Int) from (zt_rem rfl rfl (by decide) (by decide))) rfl).mpr k))
          refine ⟨fun c12q => ?_, fun c12q => ?_⟩
          · have h := h.1 ((zt_eq (show (((zrem x1 16) : Int32)).toInt = ((Int.tmod x1.toInt 16) : Int) from (zt_rem rfl rfl (by decide) (by decide))) rfl).mp c12q)
            refine zJ_M_stir_72 rfl (show (((x1 / 16) : Int32)).toInt = ((Int.tdiv x1.toInt 16) : Int) from (zt_div rfl rfl (by decide))) rfl h_Q h
          · have h := h.2 (fun k => c12q ((zt_eq (show (((zrem x1 16) : Int32)).toInt = ((Int.tmod x1.toInt 16) : Int) from (zt_rem rfl rfl (by decide) (by decide))) rfl).mpr k))
            refine ⟨fun c11q => ?_, fun c11q => ?_⟩
            · have h := h.1 ((zt_eq (show (((zrem x1 16) : Int32)).toInt = ((Int.tmod x1.toInt 16) : Int) from (zt_rem rfl rfl (by decide) (by decide))) rfl).mp c11q)
              refine zJ_M_stir_72 rfl (show (((x1 / 16) : Int32)).toInt = ((Int.tdiv x1.toInt 16) : Int) from (zt_div rfl rfl (by decide))) rfl h_Q h
            · have h := h.2 (fun k => c11q ((zt_eq (show (((zrem x1 16) : Int32)).toInt = ((Int.tmod x1.toInt 16) : Int) from (zt_rem rfl rfl (by decide) (by decide))) rfl).mpr k))
              refine ⟨fun c10q => ?_, fun c10q => ?_⟩
              · have h := h.1 ((zt_eq (show (((zrem x1 16) : Int32)).toInt = ((Int.tmod x1.toInt 16) : Int) from (zt_rem rfl rfl (by decide) (by decide))) rfl).mp c10q)
                refine zJ_M_stir_102 rfl (show (((x1 / 16) : Int32)).toInt = ((Int.tdiv x1.toInt 16) : Int) from (zt_div rfl rfl (by decide))) rfl h_Q h
              · have h := h.2 (fun k => c10q ((zt_eq (show (((zrem x1 16) : Int32)).toInt = ((Int.tmod x1.toInt 16) : Int) from (zt_rem rfl rfl (by decide) (by decide))) rfl).mpr k))
                refine ⟨fun c9q => ?_, fun c9q => ?_⟩
                · have h := h.1 ((zt_eq (show (((zrem x1 16) : Int32)).toInt = ((Int.tmod x1.toInt 16) : Int) from (zt_rem rfl rfl (by decide) (by decide))) rfl).mp c9q)
                  refine zJ_M_stir_102 rfl (show (((x1 / 16) : Int32)).toInt = ((Int.tdiv x1.toInt 16) : Int) from (zt_div rfl rfl (by decide))) rfl h_Q h
                · have h := h.2 (fun k => c9q ((zt_eq (show (((zrem x1 16) : Int32)).toInt = ((Int.tmod x1.toInt 16) : Int) from (zt_rem rfl rfl (by decide) (by decide))) rfl).mpr k))
                  refine ⟨fun c8q => ?_, fun c8q => ?_⟩
                  · have h := h.1 ((zt_eq (show (((zrem x1 16) : Int32)).toInt = ((Int.tmod x1.toInt 16) : Int) from (zt_rem rfl rfl (by decide) (by decide))) rfl).mp c8q)
                    refine zJ_M_stir_136 rfl (show (((x1 / 16) : Int32)).toInt = ((Int.tdiv x1.toInt 16) : Int) from (zt_div rfl rfl (by decide))) rfl h_Q h
                  · have h := h.2 (fun k => c8q ((zt_eq (show (((zrem x1 16) : Int32)).toInt = ((Int.tmod x1.toInt 16) : Int) from (zt_rem rfl rfl (by decide) (by decide))) rfl).mpr k))
                    refine ⟨fun c7q => ?_, fun c7q => ?_⟩
                    · have h := h.1 ((zt_eq (show (((zrem x1 16) : Int32)).toInt = ((Int.tmod x1.toInt 16) : Int) from (zt_rem rfl rfl (by decide) (by decide))) rfl).mp c7q)
                      refine zJ_M_stir_136 rfl (show (((x1 / 16) : Int32)).toInt = ((Int.tdiv x1.toInt 16) : Int) from (zt_div rfl rfl (by decide))) rfl h_Q h
                    · have h := h.2 (fun k => c7q ((zt_eq (show (((zrem x1 16) : Int32)).toInt = ((Int.tmod x1.toInt 16) : Int) from (zt_rem rfl rfl (by decide) (by decide))) rfl).mpr k))
                      refine ⟨fun c6q => ?_, fun c6q => ?_⟩
                      · have h := h.1 ((zt_eq (show (((zrem x1 16) : Int32)).toInt = ((Int.tmod x1.toInt 16) : Int) from (zt_rem rfl rfl (by decide) (by decide))) rfl).mp c6q)
                        refine ⟨fun c2q => ?_, fun c2q => ?_⟩
                        · have h := h.1 (fun k => c2q ((zt_eq (show (((zrem ((x1 / 16) / 8) 4) : Int32)).toInt = ((Int.tmod (Int.tdiv (Int.tdiv x1.toInt 16) 8) 4) : Int) from (zt_rem (show ((((x1 / 16) / 8) : Int32)).toInt = ((Int.tdiv (Int.tdiv x1.toInt 16) 8) : Int) from (zt_div (show (((x1 / 16) : Int32)).toInt = ((Int.tdiv x1.toInt 16) : Int) from (zt_div rfl rfl (by decide))) rfl (by decide))) rfl (by decide) (by decide))) rfl).mpr k))
                          refine ⟨fun c1q => ?_, fun c1q => ?_⟩
                          · have h := h.1 (fun k => c1q ((zt_eq (show (((zrem ((x1 / 16) / 32) 2) : Int32)).toInt = ((Int.tmod (Int.tdiv (Int.tdiv x1.toInt 16) 32) 2) : Int) from (zt_rem (show ((((x1 / 16) / 32) : Int32)).toInt = ((Int.tdiv (Int.tdiv x1.toInt 16) 32) : Int) from (zt_div (show (((x1 / 16) : Int32)).toInt = ((Int.tdiv x1.toInt 16) : Int) from (zt_div rfl rfl (by decide))) rfl (by decide))) rfl (by decide) (by decide))) rfl).mpr k))
                            refine z_M_runHold (show (((zrem (x1 / 16) 8) : Int32)).toInt = ((Int.tmod (Int.tdiv x1.toInt 16) 8) : Int) from (zt_rem (show (((x1 / 16) : Int32)).toInt = ((Int.tdiv x1.toInt 16) : Int) from (zt_div rfl rfl (by decide))) rfl (by decide) (by decide))) rfl rfl (fun r47_ v51_ h => ?_) h
                            exact h_Q _ h
                          · have h := h.2 ((zt_eq (show (((zrem ((x1 / 16) / 32) 2) : Int32)).toInt = ((Int.tmod (Int.tdiv (Int.tdiv x1.toInt 16) 32) 2) : Int) from (zt_rem (show ((((x1 / 16) / 32) : Int32)).toInt = ((Int.tdiv (Int.tdiv x1.toInt 16) 32) : Int) from (zt_div (show (((x1 / 16) : Int32)).toInt = ((Int.tdiv x1.toInt 16) : Int) from (zt_div rfl rfl (by decide))) rfl (by decide))) rfl (by decide) (by decide))) rfl).mp c1q)
                            refine z_M_runHold (show (((zrem (x1 / 16) 8) : Int32)).toInt = ((Int.tmod (Int.tdiv x1.toInt 16) 8) : Int) from (zt_rem (show (((x1 / 16) : Int32)).toInt = ((Int.tdiv x1.toInt 16) : Int) from (zt_div rfl rfl (by decide))) rfl (by decide) (by decide))) rfl rfl (fun r55_ v59_ h => ?_) h
                            exact h_Q _ h
                        · have h := h.2 ((zt_eq (show (((zrem ((x1 / 16) / 8) 4) : Int32)).toInt = ((Int.tmod (Int.tdiv (Int.tdiv x1.toInt 16) 8) 4) : Int) from (zt_rem (show ((((x1 / 16) / 8) : Int32)).toInt = ((Int.tdiv (Int.tdiv x1.toInt 16) 8) : Int) from (zt_div (show (((x1 / 16) : Int32)).toInt = ((Int.tdiv x1.toInt 16) : Int) from (zt_div rfl rfl (by decide))) rfl (by decide))) rfl (by decide) (by decide))) rfl).mp c2q)
                          refine z_M_runLeave (show (((zrem (x1 / 16) 8) : Int32)).toInt = ((Int.tmod (Int.tdiv x1.toInt 16) 8) : Int) from (zt_rem (show (((x1 / 16) : Int32)).toInt = ((Int.tdiv x1.toInt 16) : Int) from (zt_div rfl rfl (by decide))) rfl (by decide) (by decide))) rfl (fun r63_ v67_ h => ?_) h
                          exact h_Q _ h
                      · have h := h.2 (fun k => c6q ((zt_eq (show (((zrem x1 16) : Int32)).toInt = ((Int.tmod x1.toInt 16) : Int) from (zt_rem rfl rfl (by decide) (by decide))) rfl).mpr k))
                        refine ⟨fun c5q => ?_, fun c5q => ?_⟩
                        · have h := h.1 ((zt_eq (show (((zrem x1 16) : Int32)).toInt = ((Int.tmod x1.toInt 16) : Int) from (zt_rem rfl rfl (by decide) (by decide))) rfl).mp c5q)
                          refine ⟨fun c3q => ?_, fun c3q => ?_⟩
                          · have h := h.1 (fun k => c3q ((zt_eq (show (((zrem ((x1 / 16) / 1024) 2) : Int32)).toInt = ((Int.tmod (Int.tdiv (Int.tdiv x1.toInt 16) 1024) 2) : Int) from (zt_rem (show ((((x1 / 16) / 1024) : Int32)).toInt = ((Int.tdiv (Int.tdiv x1.toInt 16) 1024) : Int) from (zt_div (show (((x1 / 16) : Int32)).toInt = ((Int.tdiv x1.toInt 16) : Int) from (zt_div rfl rfl (by decide))) rfl (by decide))) rfl (by decide) (by decide))) rfl).mpr k))
                            refine z_M_put rfl (show (((zrem (x1 / 16) 20) : Int32)).toInt = ((Int.tmod (Int.tdiv x1.toInt 16) 20) : Int) from (zt_rem (show (((x1 / 16) : Int32)).toInt = ((Int.tdiv x1.toInt 16) : Int) from (zt_div rfl rfl (by decide))) rfl (by decide) (by decide))) rfl (fun r73_ v77_ h => ?_) h
                            intro v82_ ev82_
                            have h := h (aM v82_) (by rw [ev82_]; exact rfl)
                            exact h_Q _ h
                          · have h := h.2 ((zt_eq (show (((zrem ((x1 / 16) / 1024) 2) : Int32)).toInt = ((Int.tmod (Int.tdiv (Int.tdiv x1.toInt 16) 1024) 2) : Int) from (zt_rem (show ((((x1 / 16) / 1024) : Int32)).toInt = ((Int.tdiv (Int.tdiv x1.toInt 16) 1024) : Int) from (zt_div (show (((x1 / 16) : Int32)).toInt = ((Int.tdiv x1.toInt 16) : Int) from (zt_div rfl rfl (by decide))) rfl (by decide))) rfl (by decide) (by decide))) rfl).mp c3q)
                            refine z_M_put rfl (show (((zrem (x1 / 16) 600) : Int32)).toInt = ((Int.tmod (Int.tdiv x1.toInt 16) 600) : Int) from (zt_rem (show (((x1 / 16) : Int32)).toInt = ((Int.tdiv x1.toInt 16) : Int) from (zt_div rfl rfl (by decide))) rfl (by decide) (by decide))) rfl (fun r85_ v89_ h => ?_) h
                            intro v94_ ev94_
                            have h := h (aM v94_) (by rw [ev94_]; exact rfl)
                            exact h_Q _ h
                        · have h := h.2 (fun k => c5q ((zt_eq (show (((zrem x1 16) : Int32)).toInt = ((Int.tmod x1.toInt 16) : Int) from (zt_rem rfl rfl (by decide) (by decide))) rfl).mpr k))
                          obtain ⟨o4q, h⟩ := h
                          refine z_M_runTicks (show (((1 + (zrem (x1 / 16) 8)) : Int32)).toInt = ((1 + (Int.tmod (Int.tdiv x1.toInt 16) 8)) : Int) from (zt_add rfl (show (((zrem (x1 / 16) 8) : Int32)).toInt = ((Int.tmod (Int.tdiv x1.toInt 16) 8) : Int) from (zt_rem (show (((x1 / 16) : Int32)).toInt = ((Int.tdiv x1.toInt 16) : Int) from (zt_div rfl rfl (by decide))) rfl (by decide) (by decide))) o4q)) rfl (fun r97_ v101_ h => ?_) h
                          exact h_Q _ h

def ZL_M_simulate_43 : Nat → Int → Int → Int → Int → Int → MZ → (Int → MZ → Prop) → Prop
  | 0, _, _, _, _, _, _, _ => False
  | n + 1, x1, x2, y3, y4, y6, v0, Q => ((y3 ≤ y6 → ((0 : Int) ≤ 620 ∧ (620 : Int) < 621) ∧ (((0 : Int) ≤ 620 ∧ (620 : Int) < 621) ∧ (((0 : Int) ≤ 617 ∧ (617 : Int) < 621) ∧ (((0 : Int) ≤ 617 ∧ (617 : Int) < 621) ∧ (zin ((Mz_trial v0 (Int.toNat 620)) - (Mz_now v0 (Int.toNat 620))) ∧ ((((Mz_trial v0 (Int.toNat 620)) - (Mz_now v0 (Int.toNat 620))) ≤ 99 → (Z_M_readers (Mz_trial v0) (fun r33_ => zin ((Mz_trial v0 (Int.toNat 617)) - (Mz_now v0 (Int.toNat 617))) ∧ zin (10000 * ((Mz_trial v0 (Int.toNat 617)) - (Mz_now v0 (Int.toNat 617)))) ∧ zin (100 * ((Mz_trial v0 (Int.toNat 620)) - (Mz_now v0 (Int.toNat 620)))) ∧ zin ((10000 * ((Mz_trial v0 (Int.toNat 617)) - (Mz_now v0 (Int.toNat 617)))) + (100 * ((Mz_trial v0 (Int.toNat 620)) - (Mz_now v0 (Int.toNat 620))))) ∧ zin (((10000 * ((Mz_trial v0 (Int.toNat 617)) - (Mz_now v0 (Int.toNat 617)))) + (100 * ((Mz_trial v0 (Int.toNat 620)) - (Mz_now v0 (Int.toNat 620))))) + r33_) ∧ (Q (((10000 * ((Mz_trial v0 (Int.toNat 617)) - (Mz_now v0 (Int.toNat 617)))) + (100 * ((Mz_trial v0 (Int.toNat 620)) - (Mz_now v0 (Int.toNat 620))))) + r33_) v0)))) ∧ (¬ ((Mz_trial v0 (Int.toNat 620)) - (Mz_now v0 (Int.toNat 620))) ≤ 99 → (Z_M_readers (Mz_trial v0) (fun r37_ => zin ((Mz_trial v0 (Int.toNat 617)) - (Mz_now v0 (Int.toNat 617))) ∧ zin (10000 * ((Mz_trial v0 (Int.toNat 617)) - (Mz_now v0 (Int.toNat 617)))) ∧ zin (100 * 99) ∧ zin ((10000 * ((Mz_trial v0 (Int.toNat 617)) - (Mz_now v0 (Int.toNat 617)))) + (100 * 99)) ∧ zin (((10000 * ((Mz_trial v0 (Int.toNat 617)) - (Mz_now v0 (Int.toNat 617)))) + (100 * 99)) + r37_) ∧ (Q (((10000 * ((Mz_trial v0 (Int.toNat 617)) - (Mz_now v0 (Int.toNat 617)))) + (100 * 99)) + r37_) v0)))))))))) ∧ (¬ y3 ≤ y6 → (Z_M_stir (wi (zushrZ (wl ((wl (y4 * 6364136223846793005)) + 1442695040888963407)) 33)) v0 (fun v45_ => zin (y6 + 1) ∧ (ZL_M_simulate_43 n x1 x2 y3 (wl ((wl (y4 * 6364136223846793005)) + 1442695040888963407)) (y6 + 1) v45_ Q)))))
set_option maxRecDepth 100000 in
theorem zL_M_simulate_43 (n : Nat) : ∀ {x1 : Int64} {x1z : Int} {x2 : Int32} {x2z : Int} {y3 : Int32} {y3z : Int} {y4 : Int64} {y4z : Int} {y6 : Int32} {y6z : Int} {v0 : MT} {v0z : MZ}  {Q : Int32 → MT → Prop} {Qz : (Int → MZ → Prop)} (e_x1 : x1.toInt = x1z) (e_x2 : x2.toInt = x2z) (e_y3 : y3.toInt = y3z) (e_y4 : y4.toInt = y4z) (e_y6 : y6.toInt = y6z) (e_v0 : (aM v0) = v0z) (h_Q : ∀ (a0 : Int32) (a1 : MT), Qz a0.toInt (aM a1) → Q a0 a1) (h : ZL_M_simulate_43 n x1z x2z y3z y4z y6z v0z Qz), PL_M_simulate_43 n x1 x2 y3 y4 y6 v0 Q := by
  induction n with
  | zero =>
    intro x1 x1z x2 x2z y3 y3z y4 y4z y6 y6z v0 v0z Q Qz e_x1 e_x2 e_y3 e_y4 e_y6 e_v0 h_Q h
    exact (h : False).elim
  | succ n ih =>
    intro x1 x1z x2 x2z y3 y3z y4 y4z y6 y6z v0 v0z Q Qz e_x1 e_x2 e_y3 e_y4 e_y6 e_v0 h_Q h
    subst e_x1
    subst e_x2
    subst e_y3
    subst e_y4
    subst e_y6
    subst e_v0
    rw [ZL_M_simulate_43] at h
    rw [PL_M_simulate_43]
    refine ⟨fun c18q => ?_, fun c18q => ?_⟩
    · have h := h.1 ((zt_le rfl rfl).mp c18q)
      obtain ⟨i1q, h⟩ := h
      refine ⟨zt_in (show (620 : Int32).toInt = 620 from by decide) i1q, ?_⟩
      obtain ⟨i2q, h⟩ := h
      refine ⟨zt_in (show (620 : Int32).toInt = 620 from by decide) i2q, ?_⟩
      obtain ⟨i3q, h⟩ := h
      refine ⟨zt_in (show (617 : Int32).toInt = 617 from by decide) i3q, ?_⟩
      obtain ⟨i4q, h⟩ := h
      refine ⟨zt_in (show (617 : Int32).toInt = 617 from by decide) i4q, ?_⟩
      obtain ⟨o5q, h⟩ := h
      refine ⟨fun c16q => ?_, fun c16q => ?_⟩
      · have h := h.1 ((zt_le (show ((((M_trial v0 (Int32.toNatClampNeg 620)) - (M_now v0 (Int32.toNatClampNeg 620))) : Int32)).toInt = (((Mz_trial (aM v0) (Int.toNat 620)) - (Mz_now (aM v0) (Int.toNat 620))) : Int) from (zt_sub rfl rfl o5q)) rfl).mp c16q)
        refine z_M_readers rfl (fun r33_ h => ?_) h
        obtain ⟨o6q, h⟩ := h
        obtain ⟨o7q, h⟩ := h
        obtain ⟨o8q, h⟩ := h
        obtain ⟨o9q, h⟩ := h
        obtain ⟨o10q, h⟩ := h
        exact h_Q _ _ (Eq.mpr (congrArg (fun k => Qz k (aM v0)) (show (((((10000 * ((M_trial v0 (Int32.toNatClampNeg 617)) - (M_now v0 (Int32.toNatClampNeg 617)))) + (100 * ((M_trial v0 (Int32.toNatClampNeg 620)) - (M_now v0 (Int32.toNatClampNeg 620))))) + r33_) : Int32)).toInt = ((((10000 * ((Mz_trial (aM v0) (Int.toNat 617)) - (Mz_now (aM v0) (Int.toNat 617)))) + (100 * ((Mz_trial (aM v0) (Int.toNat 620)) - (Mz_now (aM v0) (Int.toNat 620))))) + r33_.toInt) : Int) from (zt_add (show ((((10000 * ((M_trial v0 (Int32.toNatClampNeg 617)) - (M_now v0 (Int32.toNatClampNeg 617)))) + (100 * ((M_trial v0 (Int32.toNatClampNeg 620)) - (M_now v0 (Int32.toNatClampNeg 620))))) : Int32)).toInt = (((10000 * ((Mz_trial (aM v0) (Int.toNat 617)) - (Mz_now (aM v0) (Int.toNat 617)))) + (100 * ((Mz_trial (aM v0) (Int.toNat 620)) - (Mz_now (aM v0) (Int.toNat 620))))) : Int) from (zt_add (show (((10000 * ((M_trial v0 (Int32.toNatClampNeg 617)) - (M_now v0 (Int32.toNatClampNeg 617)))) : Int32)).toInt = ((10000 * ((Mz_trial (aM v0) (Int.toNat 617)) - (Mz_now (aM v0) (Int.toNat 617)))) : Int) from (zt_mul rfl (show ((((M_trial v0 (Int32.toNatClampNeg 617)) - (M_now v0 (Int32.toNatClampNeg 617))) : Int32)).toInt = (((Mz_trial (aM v0) (Int.toNat 617)) - (Mz_now (aM v0) (Int.toNat 617))) : Int) from (zt_sub rfl rfl o6q)) o7q)) (show (((100 * ((M_trial v0 (Int32.toNatClampNeg 620)) - (M_now v0 (Int32.toNatClampNeg 620)))) : Int32)).toInt = ((100 * ((Mz_trial (aM v0) (Int.toNat 620)) - (Mz_now (aM v0) (Int.toNat 620)))) : Int) from (zt_mul rfl (show ((((M_trial v0 (Int32.toNatClampNeg 620)) - (M_now v0 (Int32.toNatClampNeg 620))) : Int32)).toInt = (((Mz_trial (aM v0) (Int.toNat 620)) - (Mz_now (aM v0) (Int.toNat 620))) : Int) from (zt_sub rfl rfl o5q)) o8q)) o9q)) rfl o10q))) h)
      · have h := h.2 (fun k => c16q ((zt_le (show ((((M_trial v0 (Int32.toNatClampNeg 620)) - (M_now v0 (Int32.toNatClampNeg 620))) : Int32)).toInt = (((Mz_trial (aM v0) (Int.toNat 620)) - (Mz_now (aM v0) (Int.toNat 620))) : Int) from (zt_sub rfl rfl o5q)) rfl).mpr k))
        refine z_M_readers rfl (fun r37_ h => ?_) h
        obtain ⟨o11q, h⟩ := h
        obtain ⟨o12q, h⟩ := h
        obtain ⟨o13q, h⟩ := h
        obtain ⟨o14q, h⟩ := h
        obtain ⟨o15q, h⟩ := h
        exact h_Q _ _ (Eq.mpr (congrArg (fun k => Qz k (aM v0)) (show (((((10000 * ((M_trial v0 (Int32.toNatClampNeg 617)) - (M_now v0 (Int32.toNatClampNeg 617)))) + (100 * 99)) + r37_) : Int32)).toInt = ((((10000 * ((Mz_trial (aM v0) (Int.toNat 617)) - (Mz_now (aM v0) (Int.toNat 617)))) + (100 * 99)) + r37_.toInt) : Int) from (zt_add (show ((((10000 * ((M_trial v0 (Int32.toNatClampNeg 617)) - (M_now v0 (Int32.toNatClampNeg 617)))) + (100 * 99)) : Int32)).toInt = (((10000 * ((Mz_trial (aM v0) (Int.toNat 617)) - (Mz_now (aM v0) (Int.toNat 617)))) + (100 * 99)) : Int) from (zt_add (show (((10000 * ((M_trial v0 (Int32.toNatClampNeg 617)) - (M_now v0 (Int32.toNatClampNeg 617)))) : Int32)).toInt = ((10000 * ((Mz_trial (aM v0) (Int.toNat 617)) - (Mz_now (aM v0) (Int.toNat 617)))) : Int) from (zt_mul rfl (show ((((M_trial v0 (Int32.toNatClampNeg 617)) - (M_now v0 (Int32.toNatClampNeg 617))) : Int32)).toInt = (((Mz_trial (aM v0) (Int.toNat 617)) - (Mz_now (aM v0) (Int.toNat 617))) : Int) from (zt_sub rfl rfl o11q)) o12q)) (show (((100 * 99) : Int32)).toInt = ((100 * 99) : Int) from (zt_mul rfl rfl o13q)) o14q)) rfl o15q))) h)
    · have h := h.2 (fun k => c18q ((zt_le rfl rfl).mpr k))
      refine z_M_stir (show (((Int64.toInt32 (zushr ((y4 * 6364136223846793005) + 1442695040888963407) 33)) : Int32)).toInt = ((wi (zushrZ (wl ((wl (y4.toInt * 6364136223846793005)) + 1442695040888963407)) 33)) : Int) from (zt_l2i (show (zushr ((y4 * 6364136223846793005) + 1442695040888963407) 33).toInt = ((zushrZ (wl ((wl (y4.toInt * 6364136223846793005)) + 1442695040888963407)) 33) : Int) from (zt_zushr (show ((y4 * 6364136223846793005) + 1442695040888963407).toInt = ((wl ((wl (y4.toInt * 6364136223846793005)) + 1442695040888963407)) : Int) from (zt_ladd (show (y4 * 6364136223846793005).toInt = ((wl (y4.toInt * 6364136223846793005)) : Int) from (zt_lmul rfl rfl)) rfl)) rfl)))) rfl (fun v45_ h => ?_) h
      obtain ⟨o17q, h⟩ := h
      refine ih rfl rfl rfl (show ((y4 * 6364136223846793005) + 1442695040888963407).toInt = ((wl ((wl (y4.toInt * 6364136223846793005)) + 1442695040888963407)) : Int) from (zt_ladd (show (y4 * 6364136223846793005).toInt = ((wl (y4.toInt * 6364136223846793005)) : Int) from (zt_lmul rfl rfl)) rfl)) (show (((y6 + 1) : Int32)).toInt = ((y6.toInt + 1) : Int) from (zt_add rfl rfl o17q)) rfl h_Q h
def ZJ_M_simulate_18 (x1 : Int) (x2 : Int) (y1 : Int) (y3 : Int) (u0 : Int) (v0 : MZ) (Q : (Int → MZ → Prop)) : Prop := (Z_M_refused u0 v0 (fun r6_ v10_ => ((r6_ = 0 → (Z_M_copy (Mz_now v10_) (Mz_trial v10_) (fun v19_ => (∀ v24_, v24_ = (Mz_set_trial v10_ v19_) → ((∃ n49_, (ZL_M_simulate_43 n49_ x1 x2 y3 y1 0 v24_ Q))))))) ∧ (¬ r6_ = 0 → (Q 0 v10_)))))
set_option maxRecDepth 100000 in
theorem zJ_M_simulate_18 {x1 : Int64} {x1z : Int} {x2 : Int32} {x2z : Int} {y1 : Int64} {y1z : Int} {y3 : Int32} {y3z : Int} {u0 : Int32} {u0z : Int} {v0 : MT} {v0z : MZ}  {Q : Int32 → MT → Prop} {Qz : (Int → MZ → Prop)} (e_x1 : x1.toInt = x1z) (e_x2 : x2.toInt = x2z) (e_y1 : y1.toInt = y1z) (e_y3 : y3.toInt = y3z) (e_u0 : u0.toInt = u0z) (e_v0 : (aM v0) = v0z) (h_Q : ∀ (a0 : Int32) (a1 : MT), Qz a0.toInt (aM a1) → Q a0 a1) (h : ZJ_M_simulate_18 x1z x2z y1z y3z u0z v0z Qz) : PJ_M_simulate_18 x1 x2 y1 y3 u0 v0 Q := by
  subst e_x1
  subst e_x2
  subst e_y1
  subst e_y3
  subst e_u0
  subst e_v0
  unfold ZJ_M_simulate_18 at h
  unfold PJ_M_simulate_18
  refine z_M_refused rfl rfl (fun r6_ v10_ h => ?_) h
  refine ⟨fun c1q => ?_, fun c1q => ?_⟩
  · have h := h.1 ((zt_eq rfl rfl).mp c1q)
    refine z_M_copy rfl rfl (fun v19_ h => ?_) h
    intro v24_ ev24_
    have h := h (aM v24_) (by rw [ev24_]; exact rfl)
    obtain ⟨n49_, h⟩ := h
    refine ⟨n49_, ?_⟩
    refine zL_M_simulate_43 n49_ rfl rfl rfl rfl rfl rfl h_Q h
  · have h := h.2 (fun k => c1q ((zt_eq rfl rfl).mpr k))
    exact h_Q _ _ h
def Z_M_simulate (x1 : Int) (x2 : Int) (v0 : MZ) (Q : (Int → MZ → Prop)) : Prop := (Z_M_in x2 1 60 (fun r1_ => ((r1_ = 0 → (ZJ_M_simulate_18 x1 x2 x1 x2 1 v0 Q)) ∧ (¬ r1_ = 0 → (ZJ_M_simulate_18 x1 x2 x1 x2 0 v0 Q)))))
set_option maxRecDepth 100000 in
theorem z_M_simulate {x1 : Int64} {x1z : Int} {x2 : Int32} {x2z : Int} {v0 : MT} {v0z : MZ}  {Q : Int32 → MT → Prop} {Qz : (Int → MZ → Prop)} (e_x1 : x1.toInt = x1z) (e_x2 : x2.toInt = x2z) (e_v0 : (aM v0) = v0z) (h_Q : ∀ (a0 : Int32) (a1 : MT), Qz a0.toInt (aM a1) → Q a0 a1) (h : Z_M_simulate x1z x2z v0z Qz) : P_M_simulate x1 x2 v0 Q := by
  subst e_x1
  subst e_x2
  subst e_v0
  unfold Z_M_simulate at h
  unfold P_M_simulate
  refine z_M_in (show (Int32.toInt64 x2).toInt = (x2.toInt : Int) from (zt_i2l rfl)) rfl rfl (fun r1_ h => ?_) h
  refine ⟨fun c1q => ?_, fun c1q => ?_⟩
  · have h := h.1 ((zt_eq rfl rfl).mp c1q)
    refine zJ_M_simulate_18 rfl rfl rfl rfl rfl rfl h_Q h
  · have h := h.2 (fun k => c1q ((zt_eq rfl rfl).mpr k))
    refine zJ_M_simulate_18 rfl rfl rfl rfl rfl rfl h_Q h

def ZL_M_save_26 : Nat → Int → Int → Int → MZ → (Int → MZ → Prop) → Prop
  | 0, _, _, _, _, _ => False
  | n + 1, x1, y1, y2, v0, Q => ((621 ≤ y2 → ((0 : Int) ≤ y1 ∧ (y1 : Int) < 2) ∧ ((∀ v23_, v23_ = (Mz_set_isKept v0 (updz (Mz_isKept v0) (Int.toNat y1) 1)) → (((0 : Int) ≤ 616 ∧ (616 : Int) < 621) ∧ ((Q (Mz_now v23_ (Int.toNat 616)) v23_)))))) ∧ (¬ 621 ≤ y2 → ((0 : Int) ≤ y2 ∧ (y2 : Int) < 621) ∧ (zin (621 * y1) ∧ zin ((621 * y1) + y2) ∧ ((0 : Int) ≤ ((621 * y1) + y2) ∧ (((621 * y1) + y2) : Int) < 1242) ∧ ((∀ v35_, v35_ = (Mz_set_kept v0 (updz (Mz_kept v0) (Int.toNat ((621 * y1) + y2)) (Mz_now v0 (Int.toNat y2)))) → (zin (y2 + 1) ∧ (ZL_M_save_26 n x1 y1 (y2 + 1) v35_ Q)))))))
set_option maxRecDepth 100000 in
theorem zL_M_save_26 (n : Nat) : ∀ {x1 : Int32} {x1z : Int} {y1 : Int32} {y1z : Int} {y2 : Int32} {y2z : Int} {v0 : MT} {v0z : MZ}  {Q : Int32 → MT → Prop} {Qz : (Int → MZ → Prop)} (e_x1 : x1.toInt = x1z) (e_y1 : y1.toInt = y1z) (e_y2 : y2.toInt = y2z) (e_v0 : (aM v0) = v0z) (h_Q : ∀ (a0 : Int32) (a1 : MT), Qz a0.toInt (aM a1) → Q a0 a1) (h : ZL_M_save_26 n x1z y1z y2z v0z Qz), PL_M_save_26 n x1 y1 y2 v0 Q := by
  induction n with
  | zero =>
    intro x1 x1z y1 y1z y2 y2z v0 v0z Q Qz e_x1 e_y1 e_y2 e_v0 h_Q h
    exact (h : False).elim
  | succ n ih =>
    intro x1 x1z y1 y1z y2 y2z v0 v0z Q Qz e_x1 e_y1 e_y2 e_v0 h_Q h
    subst e_x1
    subst e_y1
    subst e_y2
    subst e_v0
    rw [ZL_M_save_26] at h
    rw [PL_M_save_26]
    refine ⟨fun c8q => ?_, fun c8q => ?_⟩
    · have h := h.1 ((zt_le rfl rfl).mp c8q)
      obtain ⟨i1q, h⟩ := h
      refine ⟨zt_in rfl i1q, ?_⟩
      intro v23_ ev23_
      have h := h (aM v23_) (by rw [ev23_]; exact (show (aM (M_set_isKept v0 (upd (M_isKept v0) (Int32.toNatClampNeg y1) 1))) = (Mz_set_isKept (aM v0) (updz (Mz_isKept (aM v0)) (Int.toNat y1.toInt) 1)) from (congrArg (fun k => Mz_set_isKept (aM v0) k) (show (aA (upd (M_isKept v0) (Int32.toNatClampNeg y1) 1)) = (updz (Mz_isKept (aM v0)) (Int.toNat y1.toInt) 1) from (zt_upd rfl rfl rfl)))))
      obtain ⟨i2q, h⟩ := h
      refine ⟨zt_in (show (616 : Int32).toInt = 616 from by decide) i2q, ?_⟩
      exact h_Q _ _ h
    · have h := h.2 (fun k => c8q ((zt_le rfl rfl).mpr k))
      obtain ⟨i3q, h⟩ := h
      refine ⟨zt_in rfl i3q, ?_⟩
      obtain ⟨o4q, h⟩ := h
      obtain ⟨o5q, h⟩ := h
      obtain ⟨i6q, h⟩ := h
      refine ⟨zt_in (show ((((621 * y1) + y2) : Int32)).toInt = (((621 * y1.toInt) + y2.toInt) : Int) from (zt_add (show (((621 * y1) : Int32)).toInt = ((621 * y1.toInt) : Int) from (zt_mul rfl rfl o4q)) rfl o5q)) i6q, ?_⟩
      intro v35_ ev35_
      have h := h (aM v35_) (by rw [ev35_]; exact (show (aM (M_set_kept v0 (upd (M_kept v0) (Int32.toNatClampNeg ((621 * y1) + y2)) (M_now v0 (Int32.toNatClampNeg y2))))) = (Mz_set_kept (aM v0) (updz (Mz_kept (aM v0)) (Int.toNat ((621 * y1.toInt) + y2.toInt)) (Mz_now (aM v0) (Int.toNat y2.toInt)))) from (congrArg (fun k => Mz_set_kept (aM v0) k) (show (aA (upd (M_kept v0) (Int32.toNatClampNeg ((621 * y1) + y2)) (M_now v0 (Int32.toNatClampNeg y2)))) = (updz (Mz_kept (aM v0)) (Int.toNat ((621 * y1.toInt) + y2.toInt)) (Mz_now (aM v0) (Int.toNat y2.toInt))) from (zt_upd rfl (show (Int32.toNatClampNeg ((621 * y1) + y2)) = (Int.toNat ((621 * y1.toInt) + y2.toInt)) from (congrArg Int.toNat (show ((((621 * y1) + y2) : Int32)).toInt = (((621 * y1.toInt) + y2.toInt) : Int) from (zt_add (show (((621 * y1) : Int32)).toInt = ((621 * y1.toInt) : Int) from (zt_mul rfl rfl o4q)) rfl o5q)))) rfl)))))
      obtain ⟨o7q, h⟩ := h
      refine ih rfl rfl (show (((y2 + 1) : Int32)).toInt = ((y2.toInt + 1) : Int) from (zt_add rfl rfl o7q)) rfl h_Q h
def Z_M_save (x1 : Int) (v0 : MZ) (Q : (Int → MZ → Prop)) : Prop := (Z_M_in x1 0 1 (fun r1_ => ((r1_ = 0 → (Z_M_refused 1 v0 (fun r6_ v10_ => ((r6_ = 0 → (∃ n38_, (ZL_M_save_26 n38_ x1 x1 0 v10_ Q))) ∧ (¬ r6_ = 0 → (Q 0 v10_)))))) ∧ (¬ r1_ = 0 → (Z_M_refused 0 v0 (fun r39_ v43_ => ((r39_ = 0 → (∃ n48_, (ZL_M_save_26 n48_ x1 x1 0 v43_ Q))) ∧ (¬ r39_ = 0 → (Q 0 v43_)))))))))
set_option maxRecDepth 100000 in
theorem z_M_save {x1 : Int32} {x1z : Int} {v0 : MT} {v0z : MZ}  {Q : Int32 → MT → Prop} {Qz : (Int → MZ → Prop)} (e_x1 : x1.toInt = x1z) (e_v0 : (aM v0) = v0z) (h_Q : ∀ (a0 : Int32) (a1 : MT), Qz a0.toInt (aM a1) → Q a0 a1) (h : Z_M_save x1z v0z Qz) : P_M_save x1 v0 Q := by
  subst e_x1
  subst e_v0
  unfold Z_M_save at h
  unfold P_M_save
  refine z_M_in (show (Int32.toInt64 x1).toInt = (x1.toInt : Int) from (zt_i2l rfl)) rfl rfl (fun r1_ h => ?_) h
  refine ⟨fun c3q => ?_, fun c3q => ?_⟩
  · have h := h.1 ((zt_eq rfl rfl).mp c3q)
    refine z_M_refused rfl rfl (fun r6_ v10_ h => ?_) h
    refine ⟨fun c1q => ?_, fun c1q => ?_⟩
    · have h := h.1 ((zt_eq rfl rfl).mp c1q)
      obtain ⟨n38_, h⟩ := h
      refine ⟨n38_, ?_⟩
      refine zL_M_save_26 n38_ rfl rfl rfl rfl h_Q h
    · have h := h.2 (fun k => c1q ((zt_eq rfl rfl).mpr k))
      exact h_Q _ _ h
  · have h := h.2 (fun k => c3q ((zt_eq rfl rfl).mpr k))
    refine z_M_refused rfl rfl (fun r39_ v43_ h => ?_) h
    refine ⟨fun c2q => ?_, fun c2q => ?_⟩
    · have h := h.1 ((zt_eq rfl rfl).mp c2q)
      obtain ⟨n48_, h⟩ := h
      refine ⟨n48_, ?_⟩
      refine zL_M_save_26 n48_ rfl rfl rfl rfl h_Q h
    · have h := h.2 (fun k => c2q ((zt_eq rfl rfl).mpr k))
      exact h_Q _ _ h
