theorem dX3_named_0 : decode cX3_named 0 = .ok (.iload_n 1, 1) := by decide +kernel
theorem dX3_named_1 : decode cX3_named 1 = .ok (.ifCond .lt 18, 3) := by decide +kernel
theorem dX3_named_4 : decode cX3_named 4 = .ok (.iload_n 1, 1) := by decide +kernel
theorem dX3_named_5 : decode cX3_named 5 = .ok (.bipush 8, 2) := by decide +kernel
theorem dX3_named_7 : decode cX3_named 7 = .ok (.if_icmp .ge 12, 3) := by decide +kernel
theorem dX3_named_10 : decode cX3_named 10 = .ok (.aload_n 0, 1) := by decide +kernel
theorem dX3_named_11 : decode cX3_named 11 = .ok (.getfield 20, 3) := by decide +kernel
theorem dX3_named_14 : decode cX3_named 14 = .ok (.iload_n 1, 1) := by decide +kernel
theorem dX3_named_15 : decode cX3_named 15 = .ok (.aaload, 1) := by decide +kernel
theorem dX3_named_16 : decode cX3_named 16 = .ok (.goto 4, 3) := by decide +kernel
theorem dX3_named_19 : decode cX3_named 19 = .ok (.aconst_null, 1) := by decide +kernel
theorem dX3_named_20 : decode cX3_named 20 = .ok (.areturn, 1) := by decide +kernel
def P_S_named (x1 : Int32) (v0 : ST) (Q : Option Nat → Prop) : Prop := ((x1 < 0 → Q none) ∧ (¬ x1 < 0 → ((8 ≤ x1 → Q none) ∧ (¬ 8 ≤ x1 → vp_in x1 8 ∧ (Q (some (Int32.toNatClampNeg x1)))))))
set_option maxRecDepth 100000 in
theorem s_S_named {l : Launch} {D : zD} {B : Nat} {sa : Nat → Nat} (hfl : l.stackTraces = false) {z : Nat} {G : zG} {b0 : Nat} {x1 : Int32} {v0 : ST} {Q : Option Nat → Prop} (h0 : SA b0 v0 G) (h : P_S_named x1 v0 Q) : zSp l D B sa yX3_named cX3_named 2 (some (.object "TrimmedLog$Reader")) 0 0 0 0 [.ref b0, .int x1] z G (zRa fun r z' G' => z = z' ∧ G = G' ∧ ∃ q : Option Nat, r = q.map (fun i => b0 + 10 + 2 * i) ∧ (∀ i, q = some i → i < 8) ∧ Q q) := by
  unfold P_S_named at h
  refine z_ofW (by decide +kernel) hfl [some (.ref b0), some (.int x1)] rfl (Nat.le_of_ble_eq_true rfl) (fun p e s m args below meth c O hret hlk hnm => ?_)
  have O : zO p l s m args c D B sa 2 cX3_named RX3 := O
  refine z_iload_n O dX3_named_0 rfl rfl ?_
  refine z_if_lt (tgt := 19) O dX3_named_1 (by decide) (fun c1_ => ?_) (fun c1_ => ?_)
  · have h := h.1 c1_
    refine z_null O dX3_named_19 ?_
    exact z_aret O hret (Or.inl ⟨_, rfl⟩) (Or.inl rfl) hlk dX3_named_20 (Nat.le_of_ble_eq_true rfl) (Nat.le_of_ble_eq_true rfl) ⟨none, rfl, rfl, rfl, none, rfl, (fun _ h => by cases h), h⟩
  · have h := h.2 c1_
    refine z_iload_n O dX3_named_4 rfl rfl ?_
    refine z_bipush (v := 8) O dX3_named_5 (by decide) ?_
    refine z_icmp_ge (tgt := 19) O dX3_named_7 (by decide) (fun c2_ => ?_) (fun c2_ => ?_)
    · have h := h.1 c2_
      refine z_null O dX3_named_19 ?_
      exact z_aret O hret (Or.inl ⟨_, rfl⟩) (Or.inl rfl) hlk dX3_named_20 (Nat.le_of_ble_eq_true rfl) (Nat.le_of_ble_eq_true rfl) ⟨none, rfl, rfl, rfl, none, rfl, (fun _ h => by cases h), h⟩
    · have h := h.2 c2_
      refine z_aload_n O dX3_named_10 rfl rfl ?_
      refine z_get (v := .ref (b0 + 8)) O wf_RX3_20 dX3_named_11 (S_obj h0) rfl ?_
      refine z_iload_n O dX3_named_14 rfl rfl ?_
      obtain ⟨q3_, h⟩ := h
      refine z_rald O dX3_named_15 (S_readers_row h0) q3_ ?_
      refine z_goto (tgt := 20) O dX3_named_16 (by decide) ?_
      exact z_aret O hret (Or.inl ⟨_, rfl⟩) (Or.inr ⟨_, rfl⟩) hlk dX3_named_20 (Nat.le_of_ble_eq_true rfl) (Nat.le_of_ble_eq_true rfl) ⟨some _, rfl, rfl, rfl, some (Int32.toNatClampNeg x1), rfl, (fun _ h => by cases h; exact (z_lt q3_)), h⟩

theorem dX3_reader_0 : decode cX3_reader 0 = .ok (.aload_n 0, 1) := by decide +kernel
theorem dX3_reader_1 : decode cX3_reader 1 = .ok (.iload_n 1, 1) := by decide +kernel
theorem dX3_reader_2 : decode cX3_reader 2 = .ok (.invokevirtual 61, 3) := by decide +kernel
theorem dX3_reader_5 : decode cX3_reader 5 = .ok (.astore_n 2, 1) := by decide +kernel
theorem dX3_reader_6 : decode cX3_reader 6 = .ok (.aload_n 2, 1) := by decide +kernel
theorem dX3_reader_7 : decode cX3_reader 7 = .ok (.ifnull 14, 3) := by decide +kernel
theorem dX3_reader_10 : decode cX3_reader 10 = .ok (.aload_n 2, 1) := by decide +kernel
theorem dX3_reader_11 : decode cX3_reader 11 = .ok (.getfield 65, 3) := by decide +kernel
theorem dX3_reader_14 : decode cX3_reader 14 = .ok (.ifCond .eq 7, 3) := by decide +kernel
theorem dX3_reader_17 : decode cX3_reader 17 = .ok (.aload_n 2, 1) := by decide +kernel
theorem dX3_reader_18 : decode cX3_reader 18 = .ok (.goto 4, 3) := by decide +kernel
theorem dX3_reader_21 : decode cX3_reader 21 = .ok (.aconst_null, 1) := by decide +kernel
theorem dX3_reader_22 : decode cX3_reader 22 = .ok (.areturn, 1) := by decide +kernel
def P_S_reader (x1 : Int32) (v0 : ST) (Q : Option Nat → Prop) : Prop := P_S_named x1 v0 (fun r5_ => ((r5_ = none → Q none) ∧ (∀ i7_, r5_ = some i7_ → (((R_present (S_readers v0 i7_)) = 0 → Q none) ∧ (¬ (R_present (S_readers v0 i7_)) = 0 → Q (some i7_))))))
set_option maxRecDepth 100000 in
theorem s_S_reader {l : Launch} {D : zD} {B : Nat} {sa : Nat → Nat} (hfl : l.stackTraces = false) {z : Nat} {G : zG} {b0 : Nat} {x1 : Int32} {v0 : ST} {Q : Option Nat → Prop} (h0 : SA b0 v0 G) (h : P_S_reader x1 v0 Q) : zSp l D B sa yX3_reader cX3_reader 3 (some (.object "TrimmedLog$Reader")) 1 21 0 0 [.ref b0, .int x1] z G (zRa fun r z' G' => z = z' ∧ G = G' ∧ ∃ q : Option Nat, r = q.map (fun i => b0 + 10 + 2 * i) ∧ (∀ i, q = some i → i < 8) ∧ Q q) := by
  unfold P_S_reader at h
  refine z_ofW (by decide +kernel) hfl [some (.ref b0), some (.int x1), none] rfl (Nat.le_of_ble_eq_true rfl) (fun p e s m args below meth c O hret hlk hnm => ?_)
  have O : zO p l s m args c D B sa 3 cX3_reader RX3 := O
  refine z_aload_n O dX3_reader_0 rfl rfl ?_
  refine z_iload_n O dX3_reader_1 rfl rfl ?_
  refine z_callVa (As := [.int x1]) (st := []) O (s_S_named hfl h0 h) wy_X3_named wl_RX3_61 dX3_reader_2 rfl rfl (S_obj h0) ⟨by decide, rfl⟩ ⟨Nat.le_of_ble_eq_true rfl, Nat.le_of_ble_eq_true rfl⟩ (Nat.le_of_ble_eq_true rfl) ⟨Nat.le_of_ble_eq_true rfl, Nat.le_of_ble_eq_true rfl⟩ (fun r1_ z2_ G3_ hq4_ => ?_)
  obtain ⟨rfl, rfl, r5_, rfl, hb6_, h⟩ := hq4_
  cases r5_ with
  | none =>
    have h := h.1 rfl
    refine z_astoreN_n (L' := [some (.ref b0), some (.int x1), some (.null)]) O dX3_reader_5 rfl (by decide) rfl ?_
    refine z_aloadN_n O dX3_reader_6 rfl rfl ?_
    refine z_ifnullN (tgt := 21) O dX3_reader_7 (by decide) ?_
    refine z_null O dX3_reader_21 ?_
    exact z_aret O hret (Or.inl ⟨_, rfl⟩) (Or.inl rfl) hlk dX3_reader_22 (Nat.le_of_ble_eq_true rfl) (Nat.le_of_ble_eq_true rfl) ⟨none, rfl, rfl, rfl, none, rfl, (fun _ h => by cases h), h⟩
  | some i7_ =>
    have hi8_ := hb6_ _ rfl
    have h := h.2 i7_ rfl
    refine z_astore_n (L' := [some (.ref b0), some (.int x1), some (.ref (b0 + 10 + 2 * i7_))]) O dX3_reader_5 rfl (by decide) rfl ?_
    refine z_aload_n O dX3_reader_6 rfl rfl ?_
    refine z_ifnull O dX3_reader_7 ?_
    refine z_aload_n O dX3_reader_10 rfl rfl ?_
    refine z_get (v := .int (R_present (S_readers v0 i7_))) O wf_RX3_65 dX3_reader_11 (R_obj (S_readers_of h0 hi8_)) rfl ?_
    refine z_if_eq (tgt := 21) O dX3_reader_14 (by decide) (fun c9_ => ?_) (fun c9_ => ?_)
    · have h := h.1 c9_
      refine z_null O dX3_reader_21 ?_
      exact z_aret O hret (Or.inl ⟨_, rfl⟩) (Or.inl rfl) hlk dX3_reader_22 (Nat.le_of_ble_eq_true rfl) (Nat.le_of_ble_eq_true rfl) ⟨none, rfl, rfl, rfl, none, rfl, (fun _ h => by cases h), h⟩
    · have h := h.2 c9_
      refine z_aload_n O dX3_reader_17 rfl rfl ?_
      refine z_goto (tgt := 22) O dX3_reader_18 (by decide) ?_
      exact z_aret O hret (Or.inl ⟨_, rfl⟩) (Or.inr ⟨_, rfl⟩) hlk dX3_reader_22 (Nat.le_of_ble_eq_true rfl) (Nat.le_of_ble_eq_true rfl) ⟨some _, rfl, rfl, rfl, some i7_, rfl, (fun _ h => by cases h; exact hi8_), h⟩

theorem dX3_hasHold_0 : decode cX3_hasHold 0 = .ok (.aload_n 0, 1) := by decide +kernel
theorem dX3_hasHold_1 : decode cX3_hasHold 1 = .ok (.iload_n 1, 1) := by decide +kernel
theorem dX3_hasHold_2 : decode cX3_hasHold 2 = .ok (.invokevirtual 69, 3) := by decide +kernel
theorem dX3_hasHold_5 : decode cX3_hasHold 5 = .ok (.astore_n 2, 1) := by decide +kernel
theorem dX3_hasHold_6 : decode cX3_hasHold 6 = .ok (.aload_n 2, 1) := by decide +kernel
theorem dX3_hasHold_7 : decode cX3_hasHold 7 = .ok (.ifnull 14, 3) := by decide +kernel
theorem dX3_hasHold_10 : decode cX3_hasHold 10 = .ok (.aload_n 2, 1) := by decide +kernel
theorem dX3_hasHold_11 : decode cX3_hasHold 11 = .ok (.getfield 72, 3) := by decide +kernel
theorem dX3_hasHold_14 : decode cX3_hasHold 14 = .ok (.ifCond .eq 7, 3) := by decide +kernel
theorem dX3_hasHold_17 : decode cX3_hasHold 17 = .ok (.iconst 1, 1) := by decide +kernel
theorem dX3_hasHold_18 : decode cX3_hasHold 18 = .ok (.goto 4, 3) := by decide +kernel
theorem dX3_hasHold_21 : decode cX3_hasHold 21 = .ok (.iconst 0, 1) := by decide +kernel
theorem dX3_hasHold_22 : decode cX3_hasHold 22 = .ok (.ireturn, 1) := by decide +kernel
def P_S_hasHold (x1 : Int32) (v0 : ST) (Q : Int32 → Prop) : Prop := P_S_reader x1 v0 (fun r5_ => ((r5_ = none → Q 0) ∧ (∀ i7_, r5_ = some i7_ → (((R_held (S_readers v0 i7_)) = 0 → Q 0) ∧ (¬ (R_held (S_readers v0 i7_)) = 0 → Q 1)))))
set_option maxRecDepth 100000 in
theorem s_S_hasHold {l : Launch} {D : zD} {B : Nat} {sa : Nat → Nat} (hfl : l.stackTraces = false) {z : Nat} {G : zG} {b0 : Nat} {x1 : Int32} {v0 : ST} {Q : Int32 → Prop} (h0 : SA b0 v0 G) (h : P_S_hasHold x1 v0 Q) : zSp l D B sa yX3_hasHold cX3_hasHold 3 (some .boolean) 2 43 0 0 [.ref b0, .int x1] z G (zRi fun r z' G' => z = z' ∧ G = G' ∧ Q r) := by
  unfold P_S_hasHold at h
  refine z_ofW (by decide +kernel) hfl [some (.ref b0), some (.int x1), none] rfl (Nat.le_of_ble_eq_true rfl) (fun p e s m args below meth c O hret hlk hnm => ?_)
  have O : zO p l s m args c D B sa 3 cX3_hasHold RX3 := O
  refine z_aload_n O dX3_hasHold_0 rfl rfl ?_
  refine z_iload_n O dX3_hasHold_1 rfl rfl ?_
  refine z_callVa (As := [.int x1]) (st := []) O (s_S_reader hfl h0 h) wy_X3_reader wl_RX3_69 dX3_hasHold_2 rfl rfl (S_obj h0) ⟨by decide, rfl⟩ ⟨Nat.le_of_ble_eq_true rfl, Nat.le_of_ble_eq_true rfl⟩ (Nat.le_of_ble_eq_true rfl) ⟨Nat.le_of_ble_eq_true rfl, Nat.le_of_ble_eq_true rfl⟩ (fun r1_ z2_ G3_ hq4_ => ?_)
  obtain ⟨rfl, rfl, r5_, rfl, hb6_, h⟩ := hq4_
  cases r5_ with
  | none =>
    have h := h.1 rfl
    refine z_astoreN_n (L' := [some (.ref b0), some (.int x1), some (.null)]) O dX3_hasHold_5 rfl (by decide) rfl ?_
    refine z_aloadN_n O dX3_hasHold_6 rfl rfl ?_
    refine z_ifnullN (tgt := 21) O dX3_hasHold_7 (by decide) ?_
    refine z_iconst (v := 0) O dX3_hasHold_21 (by decide) ?_
    exact z_zret O hret rfl hlk dX3_hasHold_22 (Nat.le_of_ble_eq_true rfl) (Nat.le_of_ble_eq_true rfl) ⟨_, rfl, rfl, rfl, h⟩
  | some i7_ =>
    have hi8_ := hb6_ _ rfl
    have h := h.2 i7_ rfl
    refine z_astore_n (L' := [some (.ref b0), some (.int x1), some (.ref (b0 + 10 + 2 * i7_))]) O dX3_hasHold_5 rfl (by decide) rfl ?_
    refine z_aload_n O dX3_hasHold_6 rfl rfl ?_
    refine z_ifnull O dX3_hasHold_7 ?_
    refine z_aload_n O dX3_hasHold_10 rfl rfl ?_
    refine z_get (v := .int (R_held (S_readers v0 i7_))) O wf_RX3_72 dX3_hasHold_11 (R_obj (S_readers_of h0 hi8_)) rfl ?_
    refine z_if_eq (tgt := 21) O dX3_hasHold_14 (by decide) (fun c9_ => ?_) (fun c9_ => ?_)
    · have h := h.1 c9_
      refine z_iconst (v := 0) O dX3_hasHold_21 (by decide) ?_
      exact z_zret O hret rfl hlk dX3_hasHold_22 (Nat.le_of_ble_eq_true rfl) (Nat.le_of_ble_eq_true rfl) ⟨_, rfl, rfl, rfl, h⟩
    · have h := h.2 c9_
      refine z_iconst (v := 1) O dX3_hasHold_17 (by decide) ?_
      refine z_goto (tgt := 22) O dX3_hasHold_18 (by decide) ?_
      exact z_zret O hret rfl hlk dX3_hasHold_22 (Nat.le_of_ble_eq_true rfl) (Nat.le_of_ble_eq_true rfl) ⟨_, rfl, rfl, rfl, h⟩

theorem dX3_hasGap_0 : decode cX3_hasGap 0 = .ok (.aload_n 0, 1) := by decide +kernel
theorem dX3_hasGap_1 : decode cX3_hasGap 1 = .ok (.iload_n 1, 1) := by decide +kernel
theorem dX3_hasGap_2 : decode cX3_hasGap 2 = .ok (.invokevirtual 69, 3) := by decide +kernel
theorem dX3_hasGap_5 : decode cX3_hasGap 5 = .ok (.astore_n 2, 1) := by decide +kernel
theorem dX3_hasGap_6 : decode cX3_hasGap 6 = .ok (.aload_n 2, 1) := by decide +kernel
theorem dX3_hasGap_7 : decode cX3_hasGap 7 = .ok (.ifnull 21, 3) := by decide +kernel
theorem dX3_hasGap_10 : decode cX3_hasGap 10 = .ok (.aload_n 2, 1) := by decide +kernel
theorem dX3_hasGap_11 : decode cX3_hasGap 11 = .ok (.getfield 75, 3) := by decide +kernel
theorem dX3_hasGap_14 : decode cX3_hasGap 14 = .ok (.aload_n 0, 1) := by decide +kernel
theorem dX3_hasGap_15 : decode cX3_hasGap 15 = .ok (.getfield 12, 3) := by decide +kernel
theorem dX3_hasGap_18 : decode cX3_hasGap 18 = .ok (.getfield 78, 3) := by decide +kernel
theorem dX3_hasGap_21 : decode cX3_hasGap 21 = .ok (.if_icmp .ge 7, 3) := by decide +kernel
theorem dX3_hasGap_24 : decode cX3_hasGap 24 = .ok (.iconst 1, 1) := by decide +kernel
theorem dX3_hasGap_25 : decode cX3_hasGap 25 = .ok (.goto 4, 3) := by decide +kernel
theorem dX3_hasGap_28 : decode cX3_hasGap 28 = .ok (.iconst 0, 1) := by decide +kernel
theorem dX3_hasGap_29 : decode cX3_hasGap 29 = .ok (.ireturn, 1) := by decide +kernel
def P_S_hasGap (x1 : Int32) (v0 : ST) (Q : Int32 → Prop) : Prop := P_S_reader x1 v0 (fun r5_ => ((r5_ = none → Q 0) ∧ (∀ i7_, r5_ = some i7_ → (((L_first (S_log v0)) ≤ (R_place (S_readers v0 i7_)) → Q 0) ∧ (¬ (L_first (S_log v0)) ≤ (R_place (S_readers v0 i7_)) → Q 1)))))
set_option maxRecDepth 100000 in
theorem s_S_hasGap {l : Launch} {D : zD} {B : Nat} {sa : Nat → Nat} (hfl : l.stackTraces = false) {z : Nat} {G : zG} {b0 : Nat} {x1 : Int32} {v0 : ST} {Q : Int32 → Prop} (h0 : SA b0 v0 G) (h : P_S_hasGap x1 v0 Q) : zSp l D B sa yX3_hasGap cX3_hasGap 3 (some .boolean) 2 43 0 0 [.ref b0, .int x1] z G (zRi fun r z' G' => z = z' ∧ G = G' ∧ Q r) := by
  unfold P_S_hasGap at h
  refine z_ofW (by decide +kernel) hfl [some (.ref b0), some (.int x1), none] rfl (Nat.le_of_ble_eq_true rfl) (fun p e s m args below meth c O hret hlk hnm => ?_)
  have O : zO p l s m args c D B sa 3 cX3_hasGap RX3 := O
  refine z_aload_n O dX3_hasGap_0 rfl rfl ?_
  refine z_iload_n O dX3_hasGap_1 rfl rfl ?_
  refine z_callVa (As := [.int x1]) (st := []) O (s_S_reader hfl h0 h) wy_X3_reader wl_RX3_69 dX3_hasGap_2 rfl rfl (S_obj h0) ⟨by decide, rfl⟩ ⟨Nat.le_of_ble_eq_true rfl, Nat.le_of_ble_eq_true rfl⟩ (Nat.le_of_ble_eq_true rfl) ⟨Nat.le_of_ble_eq_true rfl, Nat.le_of_ble_eq_true rfl⟩ (fun r1_ z2_ G3_ hq4_ => ?_)
  obtain ⟨rfl, rfl, r5_, rfl, hb6_, h⟩ := hq4_
  cases r5_ with
  | none =>
    have h := h.1 rfl
    refine z_astoreN_n (L' := [some (.ref b0), some (.int x1), some (.null)]) O dX3_hasGap_5 rfl (by decide) rfl ?_
    refine z_aloadN_n O dX3_hasGap_6 rfl rfl ?_
    refine z_ifnullN (tgt := 28) O dX3_hasGap_7 (by decide) ?_
    refine z_iconst (v := 0) O dX3_hasGap_28 (by decide) ?_
    exact z_zret O hret rfl hlk dX3_hasGap_29 (Nat.le_of_ble_eq_true rfl) (Nat.le_of_ble_eq_true rfl) ⟨_, rfl, rfl, rfl, h⟩
  | some i7_ =>
    have hi8_ := hb6_ _ rfl
    have h := h.2 i7_ rfl
    refine z_astore_n (L' := [some (.ref b0), some (.int x1), some (.ref (b0 + 10 + 2 * i7_))]) O dX3_hasGap_5 rfl (by decide) rfl ?_
    refine z_aload_n O dX3_hasGap_6 rfl rfl ?_
    refine z_ifnull O dX3_hasGap_7 ?_
    refine z_aload_n O dX3_hasGap_10 rfl rfl ?_
    refine z_get (v := .int (R_place (S_readers v0 i7_))) O wf_RX3_75 dX3_hasGap_11 (R_obj (S_readers_of h0 hi8_)) rfl ?_
    refine z_aload_n O dX3_hasGap_14 rfl rfl ?_
    refine z_get (v := .ref (b0 + 1)) O wf_RX3_12 dX3_hasGap_15 (S_obj h0) rfl ?_
    refine z_get (v := .int (L_first (S_log v0))) O wf_RX3_78 dX3_hasGap_18 (L_obj (S_log_of h0)) rfl ?_
    refine z_icmp_ge (tgt := 28) O dX3_hasGap_21 (by decide) (fun c9_ => ?_) (fun c9_ => ?_)
    · have h := h.1 c9_
      refine z_iconst (v := 0) O dX3_hasGap_28 (by decide) ?_
      exact z_zret O hret rfl hlk dX3_hasGap_29 (Nat.le_of_ble_eq_true rfl) (Nat.le_of_ble_eq_true rfl) ⟨_, rfl, rfl, rfl, h⟩
    · have h := h.2 c9_
      refine z_iconst (v := 1) O dX3_hasGap_24 (by decide) ?_
      refine z_goto (tgt := 29) O dX3_hasGap_25 (by decide) ?_
      exact z_zret O hret rfl hlk dX3_hasGap_29 (Nat.le_of_ble_eq_true rfl) (Nat.le_of_ble_eq_true rfl) ⟨_, rfl, rfl, rfl, h⟩

theorem dX3_isAtLeastAt_0 : decode cX3_isAtLeastAt 0 = .ok (.aload_n 0, 1) := by decide +kernel
theorem dX3_isAtLeastAt_1 : decode cX3_isAtLeastAt 1 = .ok (.iload_n 1, 1) := by decide +kernel
theorem dX3_isAtLeastAt_2 : decode cX3_isAtLeastAt 2 = .ok (.invokevirtual 69, 3) := by decide +kernel
theorem dX3_isAtLeastAt_5 : decode cX3_isAtLeastAt 5 = .ok (.astore_n 3, 1) := by decide +kernel
theorem dX3_isAtLeastAt_6 : decode cX3_isAtLeastAt 6 = .ok (.aload_n 3, 1) := by decide +kernel
theorem dX3_isAtLeastAt_7 : decode cX3_isAtLeastAt 7 = .ok (.ifnull 15, 3) := by decide +kernel
theorem dX3_isAtLeastAt_10 : decode cX3_isAtLeastAt 10 = .ok (.aload_n 3, 1) := by decide +kernel
theorem dX3_isAtLeastAt_11 : decode cX3_isAtLeastAt 11 = .ok (.getfield 75, 3) := by decide +kernel
theorem dX3_isAtLeastAt_14 : decode cX3_isAtLeastAt 14 = .ok (.iload_n 2, 1) := by decide +kernel
theorem dX3_isAtLeastAt_15 : decode cX3_isAtLeastAt 15 = .ok (.if_icmp .lt 7, 3) := by decide +kernel
theorem dX3_isAtLeastAt_18 : decode cX3_isAtLeastAt 18 = .ok (.iconst 1, 1) := by decide +kernel
theorem dX3_isAtLeastAt_19 : decode cX3_isAtLeastAt 19 = .ok (.goto 4, 3) := by decide +kernel
theorem dX3_isAtLeastAt_22 : decode cX3_isAtLeastAt 22 = .ok (.iconst 0, 1) := by decide +kernel
theorem dX3_isAtLeastAt_23 : decode cX3_isAtLeastAt 23 = .ok (.ireturn, 1) := by decide +kernel
def P_S_isAtLeastAt (x1 : Int32) (x2 : Int32) (v0 : ST) (Q : Int32 → Prop) : Prop := P_S_reader x1 v0 (fun r5_ => ((r5_ = none → Q 0) ∧ (∀ i7_, r5_ = some i7_ → (((R_place (S_readers v0 i7_)) < x2 → Q 0) ∧ (¬ (R_place (S_readers v0 i7_)) < x2 → Q 1)))))
set_option maxRecDepth 100000 in
theorem s_S_isAtLeastAt {l : Launch} {D : zD} {B : Nat} {sa : Nat → Nat} (hfl : l.stackTraces = false) {z : Nat} {G : zG} {b0 : Nat} {x1 : Int32} {x2 : Int32} {v0 : ST} {Q : Int32 → Prop} (h0 : SA b0 v0 G) (h : P_S_isAtLeastAt x1 x2 v0 Q) : zSp l D B sa yX3_isAtLeastAt cX3_isAtLeastAt 4 (some .boolean) 2 43 0 0 [.ref b0, .int x1, .int x2] z G (zRi fun r z' G' => z = z' ∧ G = G' ∧ Q r) := by
  unfold P_S_isAtLeastAt at h
  refine z_ofW (by decide +kernel) hfl [some (.ref b0), some (.int x1), some (.int x2), none] rfl (Nat.le_of_ble_eq_true rfl) (fun p e s m args below meth c O hret hlk hnm => ?_)
  have O : zO p l s m args c D B sa 4 cX3_isAtLeastAt RX3 := O
  refine z_aload_n O dX3_isAtLeastAt_0 rfl rfl ?_
  refine z_iload_n O dX3_isAtLeastAt_1 rfl rfl ?_
  refine z_callVa (As := [.int x1]) (st := []) O (s_S_reader hfl h0 h) wy_X3_reader wl_RX3_69 dX3_isAtLeastAt_2 rfl rfl (S_obj h0) ⟨by decide, rfl⟩ ⟨Nat.le_of_ble_eq_true rfl, Nat.le_of_ble_eq_true rfl⟩ (Nat.le_of_ble_eq_true rfl) ⟨Nat.le_of_ble_eq_true rfl, Nat.le_of_ble_eq_true rfl⟩ (fun r1_ z2_ G3_ hq4_ => ?_)
  obtain ⟨rfl, rfl, r5_, rfl, hb6_, h⟩ := hq4_
  cases r5_ with
  | none =>
    have h := h.1 rfl
    refine z_astoreN_n (L' := [some (.ref b0), some (.int x1), some (.int x2), some (.null)]) O dX3_isAtLeastAt_5 rfl (by decide) rfl ?_
    refine z_aloadN_n O dX3_isAtLeastAt_6 rfl rfl ?_
    refine z_ifnullN (tgt := 22) O dX3_isAtLeastAt_7 (by decide) ?_
    refine z_iconst (v := 0) O dX3_isAtLeastAt_22 (by decide) ?_
    exact z_zret O hret rfl hlk dX3_isAtLeastAt_23 (Nat.le_of_ble_eq_true rfl) (Nat.le_of_ble_eq_true rfl) ⟨_, rfl, rfl, rfl, h⟩
  | some i7_ =>
    have hi8_ := hb6_ _ rfl
    have h := h.2 i7_ rfl
    refine z_astore_n (L' := [some (.ref b0), some (.int x1), some (.int x2), some (.ref (b0 + 10 + 2 * i7_))]) O dX3_isAtLeastAt_5 rfl (by decide) rfl ?_
    refine z_aload_n O dX3_isAtLeastAt_6 rfl rfl ?_
    refine z_ifnull O dX3_isAtLeastAt_7 ?_
    refine z_aload_n O dX3_isAtLeastAt_10 rfl rfl ?_
    refine z_get (v := .int (R_place (S_readers v0 i7_))) O wf_RX3_75 dX3_isAtLeastAt_11 (R_obj (S_readers_of h0 hi8_)) rfl ?_
    refine z_iload_n O dX3_isAtLeastAt_14 rfl rfl ?_
    refine z_icmp_lt (tgt := 22) O dX3_isAtLeastAt_15 (by decide) (fun c9_ => ?_) (fun c9_ => ?_)
    · have h := h.1 c9_
      refine z_iconst (v := 0) O dX3_isAtLeastAt_22 (by decide) ?_
      exact z_zret O hret rfl hlk dX3_isAtLeastAt_23 (Nat.le_of_ble_eq_true rfl) (Nat.le_of_ble_eq_true rfl) ⟨_, rfl, rfl, rfl, h⟩
    · have h := h.2 c9_
      refine z_iconst (v := 1) O dX3_isAtLeastAt_18 (by decide) ?_
      refine z_goto (tgt := 23) O dX3_isAtLeastAt_19 (by decide) ?_
      exact z_zret O hret rfl hlk dX3_isAtLeastAt_23 (Nat.le_of_ble_eq_true rfl) (Nat.le_of_ble_eq_true rfl) ⟨_, rfl, rfl, rfl, h⟩

theorem dX5_asNumber_0 : decode cX5_asNumber 0 = .ok (.iload_n 0, 1) := by decide +kernel
theorem dX5_asNumber_1 : decode cX5_asNumber 1 = .ok (.ifCond .eq 7, 3) := by decide +kernel
theorem dX5_asNumber_4 : decode cX5_asNumber 4 = .ok (.iconst 1, 1) := by decide +kernel
theorem dX5_asNumber_5 : decode cX5_asNumber 5 = .ok (.goto 4, 3) := by decide +kernel
theorem dX5_asNumber_8 : decode cX5_asNumber 8 = .ok (.iconst 0, 1) := by decide +kernel
theorem dX5_asNumber_9 : decode cX5_asNumber 9 = .ok (.ireturn, 1) := by decide +kernel
def P_T_asNumber (x1 : Int32) (Q : Int32 → Prop) : Prop := ((x1 = 0 → Q 0) ∧ (¬ x1 = 0 → Q 1))
set_option maxRecDepth 100000 in
theorem s_T_asNumber {l : Launch} {D : zD} {B : Nat} {sa : Nat → Nat} (hfl : l.stackTraces = false) {z : Nat} {G : zG} {x1 : Int32} {Q : Int32 → Prop}  (h : P_T_asNumber x1 Q) : zSp l D B sa yX5_asNumber cX5_asNumber 1 (some .int) 0 0 0 0 [.int x1] z G (zRi fun r z' G' => z = z' ∧ G = G' ∧ Q r) := by
  unfold P_T_asNumber at h
  refine z_ofW (by decide +kernel) hfl [some (.int x1)] rfl (Nat.le_of_ble_eq_true rfl) (fun p e s m args below meth c O hret hlk hnm => ?_)
  have O : zO p l s m args c D B sa 1 cX5_asNumber RX5 := O
  refine z_iload_n O dX5_asNumber_0 rfl rfl ?_
  refine z_if_eq (tgt := 8) O dX5_asNumber_1 (by decide) (fun c1_ => ?_) (fun c1_ => ?_)
  · have h := h.1 c1_
    refine z_iconst (v := 0) O dX5_asNumber_8 (by decide) ?_
    exact z_iret O hret hlk dX5_asNumber_9 (Nat.le_of_ble_eq_true rfl) (Nat.le_of_ble_eq_true rfl) ⟨_, rfl, rfl, rfl, h⟩
  · have h := h.2 c1_
    refine z_iconst (v := 1) O dX5_asNumber_4 (by decide) ?_
    refine z_goto (tgt := 9) O dX5_asNumber_5 (by decide) ?_
    exact z_iret O hret hlk dX5_asNumber_9 (Nat.le_of_ble_eq_true rfl) (Nat.le_of_ble_eq_true rfl) ⟨_, rfl, rfl, rfl, h⟩

theorem dX3_readerCount_0 : decode cX3_readerCount 0 = .ok (.iconst 0, 1) := by decide +kernel
theorem dX3_readerCount_1 : decode cX3_readerCount 1 = .ok (.istore_n 1, 1) := by decide +kernel
theorem dX3_readerCount_2 : decode cX3_readerCount 2 = .ok (.iconst 0, 1) := by decide +kernel
theorem dX3_readerCount_3 : decode cX3_readerCount 3 = .ok (.istore_n 2, 1) := by decide +kernel
theorem dX3_readerCount_4 : decode cX3_readerCount 4 = .ok (.iload_n 2, 1) := by decide +kernel
theorem dX3_readerCount_5 : decode cX3_readerCount 5 = .ok (.bipush 8, 2) := by decide +kernel
theorem dX3_readerCount_7 : decode cX3_readerCount 7 = .ok (.if_icmp .ge 28, 3) := by decide +kernel
theorem dX3_readerCount_10 : decode cX3_readerCount 10 = .ok (.iload_n 1, 1) := by decide +kernel
theorem dX3_readerCount_11 : decode cX3_readerCount 11 = .ok (.aload_n 0, 1) := by decide +kernel
theorem dX3_readerCount_12 : decode cX3_readerCount 12 = .ok (.iload_n 2, 1) := by decide +kernel
theorem dX3_readerCount_13 : decode cX3_readerCount 13 = .ok (.invokevirtual 69, 3) := by decide +kernel
theorem dX3_readerCount_16 : decode cX3_readerCount 16 = .ok (.ifnull 7, 3) := by decide +kernel
theorem dX3_readerCount_19 : decode cX3_readerCount 19 = .ok (.iconst 1, 1) := by decide +kernel
theorem dX3_readerCount_20 : decode cX3_readerCount 20 = .ok (.goto 4, 3) := by decide +kernel
theorem dX3_readerCount_23 : decode cX3_readerCount 23 = .ok (.iconst 0, 1) := by decide +kernel
theorem dX3_readerCount_24 : decode cX3_readerCount 24 = .ok (.invokestatic 81, 3) := by decide +kernel
theorem dX3_readerCount_27 : decode cX3_readerCount 27 = .ok (.iadd, 1) := by decide +kernel
theorem dX3_readerCount_28 : decode cX3_readerCount 28 = .ok (.istore_n 1, 1) := by decide +kernel
theorem dX3_readerCount_29 : decode cX3_readerCount 29 = .ok (.iinc 2 1, 3) := by decide +kernel
theorem dX3_readerCount_32 : decode cX3_readerCount 32 = .ok (.goto (-28), 3) := by decide +kernel
theorem dX3_readerCount_35 : decode cX3_readerCount 35 = .ok (.iload_n 1, 1) := by decide +kernel
theorem dX3_readerCount_36 : decode cX3_readerCount 36 = .ok (.ireturn, 1) := by decide +kernel
def PL_S_readerCount_4 : Nat → ST → Int32 → Int32 → (Int32 → Prop) → Prop
  | 0, _, _, _, _ => False
  | n + 1, v0, y1, y2, Q => ((8 ≤ y2 → Q y1) ∧ (¬ 8 ≤ y2 → P_S_reader y2 v0 (fun r6_ => ((r6_ = none → P_T_asNumber 0 (fun r10_ => ((fun y1 y2 => PL_S_readerCount_4 n v0 y1 y2  Q) (y1 + r10_) (y2 + 1)))) ∧ (∀ i8_, r6_ = some i8_ → P_T_asNumber 1 (fun r14_ => ((fun y1 y2 => PL_S_readerCount_4 n v0 y1 y2  Q) (y1 + r14_) (y2 + 1))))))))
def P_S_readerCount (v0 : ST) (Q : Int32 → Prop) : Prop := (∃ n18_, PL_S_readerCount_4 n18_ v0 0 0 Q)
set_option maxRecDepth 100000 in
theorem s_S_readerCount {l : Launch} {D : zD} {B : Nat} {sa : Nat → Nat} (hfl : l.stackTraces = false) {z : Nat} {G : zG} {b0 : Nat} {v0 : ST} {Q : Int32 → Prop} (h0 : SA b0 v0 G) (h : P_S_readerCount v0 Q) : zSp l D B sa yX3_readerCount cX3_readerCount 3 (some .int) 2 43 0 0 [.ref b0] z G (zRi fun r z' G' => z = z' ∧ G = G' ∧ Q r) := by
  unfold P_S_readerCount at h
  refine z_ofW (by decide +kernel) hfl [some (.ref b0), none, none] rfl (Nat.le_of_ble_eq_true rfl) (fun p e s m args below meth c O hret hlk hnm => ?_)
  have O : zO p l s m args c D B sa 3 cX3_readerCount RX3 := O
  have HL4 : ∀ (n9 : Nat)    (y1 : Int32) (y2 : Int32) (h : PL_S_readerCount_4 n9 v0 y1 y2 Q), zT p l e (zrm 2 43 0 0) s m args below meth c (zEnd below D B (zRi fun r z' G' => z = z' ∧ G = G' ∧ Q r) args s 0 0) D B 3 0 0 4 [] [some (.ref b0), some (.int y1), some (.int y2)] z G := by
    intro n9   
    induction n9 with
    | zero =>
      intro _ _ h
      exact (h : False).elim
    | succ n ih =>
      intro y1 y2 h
      rw [PL_S_readerCount_4] at h
      refine z_iload_n O dX3_readerCount_4 rfl rfl ?_
      refine z_bipush (v := 8) O dX3_readerCount_5 (by decide) ?_
      refine z_icmp_ge (tgt := 35) O dX3_readerCount_7 (by decide) (fun c1_ => ?_) (fun c1_ => ?_)
      · have h := h.1 c1_
        refine z_iload_n O dX3_readerCount_35 rfl rfl ?_
        exact z_iret O hret hlk dX3_readerCount_36 (Nat.le_of_ble_eq_true rfl) (Nat.le_of_ble_eq_true rfl) ⟨_, rfl, rfl, rfl, h⟩
      · have h := h.2 c1_
        refine z_iload_n O dX3_readerCount_10 rfl rfl ?_
        refine z_aload_n O dX3_readerCount_11 rfl rfl ?_
        refine z_iload_n O dX3_readerCount_12 rfl rfl ?_
        refine z_callVa (As := [.int y2]) (st := [.int y1]) O (s_S_reader hfl h0 h) wy_X3_reader wl_RX3_69 dX3_readerCount_13 rfl rfl (S_obj h0) ⟨by decide, rfl⟩ ⟨Nat.le_of_ble_eq_true rfl, Nat.le_of_ble_eq_true rfl⟩ (Nat.le_of_ble_eq_true rfl) ⟨Nat.le_of_ble_eq_true rfl, Nat.le_of_ble_eq_true rfl⟩ (fun r2_ z3_ G4_ hq5_ => ?_)
        obtain ⟨rfl, rfl, r6_, rfl, hb7_, h⟩ := hq5_
        cases r6_ with
        | none =>
          have h := h.1 rfl
          refine z_ifnullN (tgt := 23) O dX3_readerCount_16 (by decide) ?_
          refine z_iconst (v := 0) O dX3_readerCount_23 (by decide) ?_
          refine z_callNi (As := [.int 0]) (st := [.int y1]) O (s_T_asNumber hfl h) wy_X5_asNumber wl_RX3_81 dX3_readerCount_24 rfl rfl ⟨Nat.le_of_ble_eq_true rfl, Nat.le_of_ble_eq_true rfl⟩ (Nat.le_of_ble_eq_true rfl) ⟨Nat.le_of_ble_eq_true rfl, Nat.le_of_ble_eq_true rfl⟩ (fun r10_ z11_ G12_ hq13_ => ?_)
          obtain ⟨rfl, rfl, h⟩ := hq13_
          refine z_iadd O dX3_readerCount_27 ?_
          refine z_istore_n (L' := [some (.ref b0), some (.int (y1 + r10_)), some (.int y2)]) O dX3_readerCount_28 rfl (by decide) rfl ?_
          refine z_iinc (v := (y2 + 1)) (L' := [some (.ref b0), some (.int (y1 + r10_)), some (.int (y2 + 1))]) O dX3_readerCount_29 rfl (by first | rfl | decide) (by decide) rfl ?_
          refine z_goto (tgt := 4) O dX3_readerCount_32 (by decide) ?_
          exact z_subL (L' := [some (.ref b0), some (.int (y1 + r10_)), some (.int (y2 + 1))]) (zLe.sub (And.intro rfl (And.intro rfl (And.intro rfl True.intro)))) (ih (y1 + r10_) (y2 + 1) h)
        | some i8_ =>
          have hi9_ := hb7_ _ rfl
          have h := h.2 i8_ rfl
          refine z_ifnull O dX3_readerCount_16 ?_
          refine z_iconst (v := 1) O dX3_readerCount_19 (by decide) ?_
          refine z_goto (tgt := 24) O dX3_readerCount_20 (by decide) ?_
          refine z_callNi (As := [.int 1]) (st := [.int y1]) O (s_T_asNumber hfl h) wy_X5_asNumber wl_RX3_81 dX3_readerCount_24 rfl rfl ⟨Nat.le_of_ble_eq_true rfl, Nat.le_of_ble_eq_true rfl⟩ (Nat.le_of_ble_eq_true rfl) ⟨Nat.le_of_ble_eq_true rfl, Nat.le_of_ble_eq_true rfl⟩ (fun r14_ z15_ G16_ hq17_ => ?_)
          obtain ⟨rfl, rfl, h⟩ := hq17_
          refine z_iadd O dX3_readerCount_27 ?_
          refine z_istore_n (L' := [some (.ref b0), some (.int (y1 + r14_)), some (.int y2)]) O dX3_readerCount_28 rfl (by decide) rfl ?_
          refine z_iinc (v := (y2 + 1)) (L' := [some (.ref b0), some (.int (y1 + r14_)), some (.int (y2 + 1))]) O dX3_readerCount_29 rfl (by first | rfl | decide) (by decide) rfl ?_
          refine z_goto (tgt := 4) O dX3_readerCount_32 (by decide) ?_
          exact z_subL (L' := [some (.ref b0), some (.int (y1 + r14_)), some (.int (y2 + 1))]) (zLe.sub (And.intro rfl (And.intro rfl (And.intro rfl True.intro)))) (ih (y1 + r14_) (y2 + 1) h)
  refine z_iconst (v := 0) O dX3_readerCount_0 (by decide) ?_
  refine z_istore_n (L' := [some (.ref b0), some (.int 0), none]) O dX3_readerCount_1 rfl (by decide) rfl ?_
  refine z_iconst (v := 0) O dX3_readerCount_2 (by decide) ?_
  refine z_istore_n (L' := [some (.ref b0), some (.int 0), some (.int 0)]) O dX3_readerCount_3 rfl (by decide) rfl ?_
  obtain ⟨n18_, h⟩ := h
  exact z_subL (L' := [some (.ref b0), some (.int 0), some (.int 0)]) (zLe.sub (And.intro rfl (And.intro rfl (And.intro rfl True.intro)))) (HL4 n18_ 0 0 h)

theorem dX3_gapCount_0 : decode cX3_gapCount 0 = .ok (.iconst 0, 1) := by decide +kernel
theorem dX3_gapCount_1 : decode cX3_gapCount 1 = .ok (.istore_n 1, 1) := by decide +kernel
theorem dX3_gapCount_2 : decode cX3_gapCount 2 = .ok (.iconst 0, 1) := by decide +kernel
theorem dX3_gapCount_3 : decode cX3_gapCount 3 = .ok (.istore_n 2, 1) := by decide +kernel
theorem dX3_gapCount_4 : decode cX3_gapCount 4 = .ok (.iload_n 2, 1) := by decide +kernel
theorem dX3_gapCount_5 : decode cX3_gapCount 5 = .ok (.bipush 8, 2) := by decide +kernel
theorem dX3_gapCount_7 : decode cX3_gapCount 7 = .ok (.if_icmp .ge 20, 3) := by decide +kernel
theorem dX3_gapCount_10 : decode cX3_gapCount 10 = .ok (.iload_n 1, 1) := by decide +kernel
theorem dX3_gapCount_11 : decode cX3_gapCount 11 = .ok (.aload_n 0, 1) := by decide +kernel
theorem dX3_gapCount_12 : decode cX3_gapCount 12 = .ok (.iload_n 2, 1) := by decide +kernel
theorem dX3_gapCount_13 : decode cX3_gapCount 13 = .ok (.invokevirtual 85, 3) := by decide +kernel
theorem dX3_gapCount_16 : decode cX3_gapCount 16 = .ok (.invokestatic 81, 3) := by decide +kernel
theorem dX3_gapCount_19 : decode cX3_gapCount 19 = .ok (.iadd, 1) := by decide +kernel
theorem dX3_gapCount_20 : decode cX3_gapCount 20 = .ok (.istore_n 1, 1) := by decide +kernel
theorem dX3_gapCount_21 : decode cX3_gapCount 21 = .ok (.iinc 2 1, 3) := by decide +kernel
theorem dX3_gapCount_24 : decode cX3_gapCount 24 = .ok (.goto (-20), 3) := by decide +kernel
theorem dX3_gapCount_27 : decode cX3_gapCount 27 = .ok (.iload_n 1, 1) := by decide +kernel
theorem dX3_gapCount_28 : decode cX3_gapCount 28 = .ok (.ireturn, 1) := by decide +kernel
def PL_S_gapCount_4 : Nat → ST → Int32 → Int32 → (Int32 → Prop) → Prop
  | 0, _, _, _, _ => False
  | n + 1, v0, y1, y2, Q => ((8 ≤ y2 → Q y1) ∧ (¬ 8 ≤ y2 → P_S_hasGap y2 v0 (fun r2_ => (P_T_asNumber r2_ (fun r6_ => ((fun y1 y2 => PL_S_gapCount_4 n v0 y1 y2  Q) (y1 + r6_) (y2 + 1)))))))
def P_S_gapCount (v0 : ST) (Q : Int32 → Prop) : Prop := (∃ n10_, PL_S_gapCount_4 n10_ v0 0 0 Q)
set_option maxRecDepth 100000 in
theorem s_S_gapCount {l : Launch} {D : zD} {B : Nat} {sa : Nat → Nat} (hfl : l.stackTraces = false) {z : Nat} {G : zG} {b0 : Nat} {v0 : ST} {Q : Int32 → Prop} (h0 : SA b0 v0 G) (h : P_S_gapCount v0 Q) : zSp l D B sa yX3_gapCount cX3_gapCount 3 (some .int) 3 65 0 0 [.ref b0] z G (zRi fun r z' G' => z = z' ∧ G = G' ∧ Q r) := by
  unfold P_S_gapCount at h
  refine z_ofW (by decide +kernel) hfl [some (.ref b0), none, none] rfl (Nat.le_of_ble_eq_true rfl) (fun p e s m args below meth c O hret hlk hnm => ?_)
  have O : zO p l s m args c D B sa 3 cX3_gapCount RX3 := O
  have HL4 : ∀ (n9 : Nat)    (y1 : Int32) (y2 : Int32) (h : PL_S_gapCount_4 n9 v0 y1 y2 Q), zT p l e (zrm 3 65 0 0) s m args below meth c (zEnd below D B (zRi fun r z' G' => z = z' ∧ G = G' ∧ Q r) args s 0 0) D B 3 0 0 4 [] [some (.ref b0), some (.int y1), some (.int y2)] z G := by
    intro n9   
    induction n9 with
    | zero =>
      intro _ _ h
      exact (h : False).elim
    | succ n ih =>
      intro y1 y2 h
      rw [PL_S_gapCount_4] at h
      refine z_iload_n O dX3_gapCount_4 rfl rfl ?_
      refine z_bipush (v := 8) O dX3_gapCount_5 (by decide) ?_
      refine z_icmp_ge (tgt := 27) O dX3_gapCount_7 (by decide) (fun c1_ => ?_) (fun c1_ => ?_)
      · have h := h.1 c1_
        refine z_iload_n O dX3_gapCount_27 rfl rfl ?_
        exact z_iret O hret hlk dX3_gapCount_28 (Nat.le_of_ble_eq_true rfl) (Nat.le_of_ble_eq_true rfl) ⟨_, rfl, rfl, rfl, h⟩
      · have h := h.2 c1_
        refine z_iload_n O dX3_gapCount_10 rfl rfl ?_
        refine z_aload_n O dX3_gapCount_11 rfl rfl ?_
        refine z_iload_n O dX3_gapCount_12 rfl rfl ?_
        refine z_callVi (As := [.int y2]) (st := [.int y1]) O (s_S_hasGap hfl h0 h) wy_X3_hasGap wl_RX3_85 dX3_gapCount_13 rfl rfl (S_obj h0) ⟨by decide, rfl⟩ ⟨Nat.le_of_ble_eq_true rfl, Nat.le_of_ble_eq_true rfl⟩ (Nat.le_of_ble_eq_true rfl) ⟨Nat.le_of_ble_eq_true rfl, Nat.le_of_ble_eq_true rfl⟩ (fun r2_ z3_ G4_ hq5_ => ?_)
        obtain ⟨rfl, rfl, h⟩ := hq5_
        refine z_callNi (As := [.int r2_]) (st := [.int y1]) O (s_T_asNumber hfl h) wy_X5_asNumber wl_RX3_81 dX3_gapCount_16 rfl rfl ⟨Nat.le_of_ble_eq_true rfl, Nat.le_of_ble_eq_true rfl⟩ (Nat.le_of_ble_eq_true rfl) ⟨Nat.le_of_ble_eq_true rfl, Nat.le_of_ble_eq_true rfl⟩ (fun r6_ z7_ G8_ hq9_ => ?_)
        obtain ⟨rfl, rfl, h⟩ := hq9_
        refine z_iadd O dX3_gapCount_19 ?_
        refine z_istore_n (L' := [some (.ref b0), some (.int (y1 + r6_)), some (.int y2)]) O dX3_gapCount_20 rfl (by decide) rfl ?_
        refine z_iinc (v := (y2 + 1)) (L' := [some (.ref b0), some (.int (y1 + r6_)), some (.int (y2 + 1))]) O dX3_gapCount_21 rfl (by first | rfl | decide) (by decide) rfl ?_
        refine z_goto (tgt := 4) O dX3_gapCount_24 (by decide) ?_
        exact z_subL (L' := [some (.ref b0), some (.int (y1 + r6_)), some (.int (y2 + 1))]) (zLe.sub (And.intro rfl (And.intro rfl (And.intro rfl True.intro)))) (ih (y1 + r6_) (y2 + 1) h)
  refine z_iconst (v := 0) O dX3_gapCount_0 (by decide) ?_
  refine z_istore_n (L' := [some (.ref b0), some (.int 0), none]) O dX3_gapCount_1 rfl (by decide) rfl ?_
  refine z_iconst (v := 0) O dX3_gapCount_2 (by decide) ?_
  refine z_istore_n (L' := [some (.ref b0), some (.int 0), some (.int 0)]) O dX3_gapCount_3 rfl (by decide) rfl ?_
  obtain ⟨n10_, h⟩ := h
  exact z_subL (L' := [some (.ref b0), some (.int 0), some (.int 0)]) (zLe.sub (And.intro rfl (And.intro rfl (And.intro rfl True.intro)))) (HL4 n10_ 0 0 h)

theorem dX3_holdersUpTo_0 : decode cX3_holdersUpTo 0 = .ok (.iconst 0, 1) := by decide +kernel
theorem dX3_holdersUpTo_1 : decode cX3_holdersUpTo 1 = .ok (.istore_n 2, 1) := by decide +kernel
theorem dX3_holdersUpTo_2 : decode cX3_holdersUpTo 2 = .ok (.iconst 0, 1) := by decide +kernel
theorem dX3_holdersUpTo_3 : decode cX3_holdersUpTo 3 = .ok (.istore_n 3, 1) := by decide +kernel
theorem dX3_holdersUpTo_4 : decode cX3_holdersUpTo 4 = .ok (.iload_n 3, 1) := by decide +kernel
theorem dX3_holdersUpTo_5 : decode cX3_holdersUpTo 5 = .ok (.bipush 8, 2) := by decide +kernel
theorem dX3_holdersUpTo_7 : decode cX3_holdersUpTo 7 = .ok (.if_icmp .ge 50, 3) := by decide +kernel
theorem dX3_holdersUpTo_10 : decode cX3_holdersUpTo 10 = .ok (.aload_n 0, 1) := by decide +kernel
theorem dX3_holdersUpTo_11 : decode cX3_holdersUpTo 11 = .ok (.getfield 20, 3) := by decide +kernel
theorem dX3_holdersUpTo_14 : decode cX3_holdersUpTo 14 = .ok (.iload_n 3, 1) := by decide +kernel
theorem dX3_holdersUpTo_15 : decode cX3_holdersUpTo 15 = .ok (.aaload, 1) := by decide +kernel
theorem dX3_holdersUpTo_16 : decode cX3_holdersUpTo 16 = .ok (.astore 4, 2) := by decide +kernel
theorem dX3_holdersUpTo_18 : decode cX3_holdersUpTo 18 = .ok (.iload_n 2, 1) := by decide +kernel
theorem dX3_holdersUpTo_19 : decode cX3_holdersUpTo 19 = .ok (.aload 4, 2) := by decide +kernel
theorem dX3_holdersUpTo_21 : decode cX3_holdersUpTo 21 = .ok (.ifnull 24, 3) := by decide +kernel
theorem dX3_holdersUpTo_24 : decode cX3_holdersUpTo 24 = .ok (.aload 4, 2) := by decide +kernel
theorem dX3_holdersUpTo_26 : decode cX3_holdersUpTo 26 = .ok (.getfield 72, 3) := by decide +kernel
theorem dX3_holdersUpTo_29 : decode cX3_holdersUpTo 29 = .ok (.ifCond .eq 16, 3) := by decide +kernel
theorem dX3_holdersUpTo_32 : decode cX3_holdersUpTo 32 = .ok (.aload 4, 2) := by decide +kernel
theorem dX3_holdersUpTo_34 : decode cX3_holdersUpTo 34 = .ok (.getfield 75, 3) := by decide +kernel
theorem dX3_holdersUpTo_37 : decode cX3_holdersUpTo 37 = .ok (.iload_n 1, 1) := by decide +kernel
theorem dX3_holdersUpTo_38 : decode cX3_holdersUpTo 38 = .ok (.if_icmp .gt 7, 3) := by decide +kernel
theorem dX3_holdersUpTo_41 : decode cX3_holdersUpTo 41 = .ok (.iconst 1, 1) := by decide +kernel
theorem dX3_holdersUpTo_42 : decode cX3_holdersUpTo 42 = .ok (.goto 4, 3) := by decide +kernel
theorem dX3_holdersUpTo_45 : decode cX3_holdersUpTo 45 = .ok (.iconst 0, 1) := by decide +kernel
theorem dX3_holdersUpTo_46 : decode cX3_holdersUpTo 46 = .ok (.invokestatic 81, 3) := by decide +kernel
theorem dX3_holdersUpTo_49 : decode cX3_holdersUpTo 49 = .ok (.iadd, 1) := by decide +kernel
theorem dX3_holdersUpTo_50 : decode cX3_holdersUpTo 50 = .ok (.istore_n 2, 1) := by decide +kernel
theorem dX3_holdersUpTo_51 : decode cX3_holdersUpTo 51 = .ok (.iinc 3 1, 3) := by decide +kernel
theorem dX3_holdersUpTo_54 : decode cX3_holdersUpTo 54 = .ok (.goto (-50), 3) := by decide +kernel
theorem dX3_holdersUpTo_57 : decode cX3_holdersUpTo 57 = .ok (.iload_n 2, 1) := by decide +kernel
theorem dX3_holdersUpTo_58 : decode cX3_holdersUpTo 58 = .ok (.ireturn, 1) := by decide +kernel
def PL_S_holdersUpTo_4 : Nat → Int32 → ST → Int32 → Int32 → Int32 → (Int32 → Prop) → Prop
  | 0, _, _, _, _, _, _ => False
  | n + 1, x1, v0, y1, y2, y3, Q => ((8 ≤ y3 → Q y2) ∧ (¬ 8 ≤ y3 → vp_in y3 8 ∧ ((((R_held (S_readers v0 (Int32.toNatClampNeg y3))) = 0 → P_T_asNumber 0 (fun r4_ => ((fun y1 y2 y3 => PL_S_holdersUpTo_4 n x1 v0 y1 y2 y3  Q) y1 (y2 + r4_) (y3 + 1)))) ∧ (¬ (R_held (S_readers v0 (Int32.toNatClampNeg y3))) = 0 → ((y1 < (R_place (S_readers v0 (Int32.toNatClampNeg y3))) → P_T_asNumber 0 (fun r9_ => ((fun y1 y2 y3 => PL_S_holdersUpTo_4 n x1 v0 y1 y2 y3  Q) y1 (y2 + r9_) (y3 + 1)))) ∧ (¬ y1 < (R_place (S_readers v0 (Int32.toNatClampNeg y3))) → P_T_asNumber 1 (fun r13_ => ((fun y1 y2 y3 => PL_S_holdersUpTo_4 n x1 v0 y1 y2 y3  Q) y1 (y2 + r13_) (y3 + 1))))))))))
def P_S_holdersUpTo (x1 : Int32) (v0 : ST) (Q : Int32 → Prop) : Prop := (∃ n17_, PL_S_holdersUpTo_4 n17_ x1 v0 x1 0 0 Q)
set_option maxRecDepth 100000 in
theorem s_S_holdersUpTo {l : Launch} {D : zD} {B : Nat} {sa : Nat → Nat} (hfl : l.stackTraces = false) {z : Nat} {G : zG} {b0 : Nat} {x1 : Int32} {v0 : ST} {Q : Int32 → Prop} (h0 : SA b0 v0 G) (h : P_S_holdersUpTo x1 v0 Q) : zSp l D B sa yX3_holdersUpTo cX3_holdersUpTo 5 (some .int) 1 20 0 0 [.ref b0, .int x1] z G (zRi fun r z' G' => z = z' ∧ G = G' ∧ Q r) := by
  unfold P_S_holdersUpTo at h
  refine z_ofW (by decide +kernel) hfl [some (.ref b0), some (.int x1), none, none, none] rfl (Nat.le_of_ble_eq_true rfl) (fun p e s m args below meth c O hret hlk hnm => ?_)
  have O : zO p l s m args c D B sa 5 cX3_holdersUpTo RX3 := O
  have HL4 : ∀ (n9 : Nat)    (y1 : Int32) (y2 : Int32) (y3 : Int32) (h : PL_S_holdersUpTo_4 n9 x1 v0 y1 y2 y3 Q), zT p l e (zrm 1 20 0 0) s m args below meth c (zEnd below D B (zRi fun r z' G' => z = z' ∧ G = G' ∧ Q r) args s 0 0) D B 5 0 0 4 [] [some (.ref b0), some (.int y1), some (.int y2), some (.int y3), none] z G := by
    intro n9   
    induction n9 with
    | zero =>
      intro _ _ _ h
      exact (h : False).elim
    | succ n ih =>
      intro y1 y2 y3 h
      rw [PL_S_holdersUpTo_4] at h
      refine z_iload_n O dX3_holdersUpTo_4 rfl rfl ?_
      refine z_bipush (v := 8) O dX3_holdersUpTo_5 (by decide) ?_
      refine z_icmp_ge (tgt := 57) O dX3_holdersUpTo_7 (by decide) (fun c1_ => ?_) (fun c1_ => ?_)
      · have h := h.1 c1_
        refine z_iload_n O dX3_holdersUpTo_57 rfl rfl ?_
        exact z_iret O hret hlk dX3_holdersUpTo_58 (Nat.le_of_ble_eq_true rfl) (Nat.le_of_ble_eq_true rfl) ⟨_, rfl, rfl, rfl, h⟩
      · have h := h.2 c1_
        refine z_aload_n O dX3_holdersUpTo_10 rfl rfl ?_
        refine z_get (v := .ref (b0 + 8)) O wf_RX3_20 dX3_holdersUpTo_11 (S_obj h0) rfl ?_
        refine z_iload_n O dX3_holdersUpTo_14 rfl rfl ?_
        obtain ⟨q2_, h⟩ := h
        refine z_rald O dX3_holdersUpTo_15 (S_readers_row h0) q2_ ?_
        refine z_astore (L' := [some (.ref b0), some (.int y1), some (.int y2), some (.int y3), some (.ref (b0 + 10 + 2 * (Int32.toNatClampNeg y3)))]) O dX3_holdersUpTo_16 (by decide) rfl ?_
        refine z_iload_n O dX3_holdersUpTo_18 rfl rfl ?_
        refine z_aload O dX3_holdersUpTo_19 rfl ?_
        refine z_ifnull O dX3_holdersUpTo_21 ?_
        refine z_aload O dX3_holdersUpTo_24 rfl ?_
        refine z_get (v := .int (R_held (S_readers v0 (Int32.toNatClampNeg y3)))) O wf_RX3_72 dX3_holdersUpTo_26 (R_obj (S_readers_of h0 (z_lt q2_))) rfl ?_
        refine z_if_eq (tgt := 45) O dX3_holdersUpTo_29 (by decide) (fun c3_ => ?_) (fun c3_ => ?_)
        · have h := h.1 c3_
          refine z_iconst (v := 0) O dX3_holdersUpTo_45 (by decide) ?_
          refine z_callNi (As := [.int 0]) (st := [.int y2]) O (s_T_asNumber hfl h) wy_X5_asNumber wl_RX3_81 dX3_holdersUpTo_46 rfl rfl ⟨Nat.le_of_ble_eq_true rfl, Nat.le_of_ble_eq_true rfl⟩ (Nat.le_of_ble_eq_true rfl) ⟨Nat.le_of_ble_eq_true rfl, Nat.le_of_ble_eq_true rfl⟩ (fun r4_ z5_ G6_ hq7_ => ?_)
          obtain ⟨rfl, rfl, h⟩ := hq7_
          refine z_iadd O dX3_holdersUpTo_49 ?_
          refine z_istore_n (L' := [some (.ref b0), some (.int y1), some (.int (y2 + r4_)), some (.int y3), some (.ref (b0 + 10 + 2 * (Int32.toNatClampNeg y3)))]) O dX3_holdersUpTo_50 rfl (by decide) rfl ?_
          refine z_iinc (v := (y3 + 1)) (L' := [some (.ref b0), some (.int y1), some (.int (y2 + r4_)), some (.int (y3 + 1)), some (.ref (b0 + 10 + 2 * (Int32.toNatClampNeg y3)))]) O dX3_holdersUpTo_51 rfl (by first | rfl | decide) (by decide) rfl ?_
          refine z_goto (tgt := 4) O dX3_holdersUpTo_54 (by decide) ?_
          exact z_subL (L' := [some (.ref b0), some (.int y1), some (.int (y2 + r4_)), some (.int (y3 + 1)), none]) (zLe.sub (And.intro rfl (And.intro rfl (And.intro rfl (And.intro rfl True.intro))))) (ih y1 (y2 + r4_) (y3 + 1) h)
        · have h := h.2 c3_
          refine z_aload O dX3_holdersUpTo_32 rfl ?_
          refine z_get (v := .int (R_place (S_readers v0 (Int32.toNatClampNeg y3)))) O wf_RX3_75 dX3_holdersUpTo_34 (R_obj (S_readers_of h0 (z_lt q2_))) rfl ?_
          refine z_iload_n O dX3_holdersUpTo_37 rfl rfl ?_
          refine z_icmp_gt (tgt := 45) O dX3_holdersUpTo_38 (by decide) (fun c8_ => ?_) (fun c8_ => ?_)
          · have h := h.1 c8_
            refine z_iconst (v := 0) O dX3_holdersUpTo_45 (by decide) ?_
            refine z_callNi (As := [.int 0]) (st := [.int y2]) O (s_T_asNumber hfl h) wy_X5_asNumber wl_RX3_81 dX3_holdersUpTo_46 rfl rfl ⟨Nat.le_of_ble_eq_true rfl, Nat.le_of_ble_eq_true rfl⟩ (Nat.le_of_ble_eq_true rfl) ⟨Nat.le_of_ble_eq_true rfl, Nat.le_of_ble_eq_true rfl⟩ (fun r9_ z10_ G11_ hq12_ => ?_)
            obtain ⟨rfl, rfl, h⟩ := hq12_
            refine z_iadd O dX3_holdersUpTo_49 ?_
            refine z_istore_n (L' := [some (.ref b0), some (.int y1), some (.int (y2 + r9_)), some (.int y3), some (.ref (b0 + 10 + 2 * (Int32.toNatClampNeg y3)))]) O dX3_holdersUpTo_50 rfl (by decide) rfl ?_
            refine z_iinc (v := (y3 + 1)) (L' := [some (.ref b0), some (.int y1), some (.int (y2 + r9_)), some (.int (y3 + 1)), some (.ref (b0 + 10 + 2 * (Int32.toNatClampNeg y3)))]) O dX3_holdersUpTo_51 rfl (by first | rfl | decide) (by decide) rfl ?_
            refine z_goto (tgt := 4) O dX3_holdersUpTo_54 (by decide) ?_
            exact z_subL (L' := [some (.ref b0), some (.int y1), some (.int (y2 + r9_)), some (.int (y3 + 1)), none]) (zLe.sub (And.intro rfl (And.intro rfl (And.intro rfl (And.intro rfl True.intro))))) (ih y1 (y2 + r9_) (y3 + 1) h)
          · have h := h.2 c8_
            refine z_iconst (v := 1) O dX3_holdersUpTo_41 (by decide) ?_
            refine z_goto (tgt := 46) O dX3_holdersUpTo_42 (by decide) ?_
            refine z_callNi (As := [.int 1]) (st := [.int y2]) O (s_T_asNumber hfl h) wy_X5_asNumber wl_RX3_81 dX3_holdersUpTo_46 rfl rfl ⟨Nat.le_of_ble_eq_true rfl, Nat.le_of_ble_eq_true rfl⟩ (Nat.le_of_ble_eq_true rfl) ⟨Nat.le_of_ble_eq_true rfl, Nat.le_of_ble_eq_true rfl⟩ (fun r13_ z14_ G15_ hq16_ => ?_)
            obtain ⟨rfl, rfl, h⟩ := hq16_
            refine z_iadd O dX3_holdersUpTo_49 ?_
            refine z_istore_n (L' := [some (.ref b0), some (.int y1), some (.int (y2 + r13_)), some (.int y3), some (.ref (b0 + 10 + 2 * (Int32.toNatClampNeg y3)))]) O dX3_holdersUpTo_50 rfl (by decide) rfl ?_
            refine z_iinc (v := (y3 + 1)) (L' := [some (.ref b0), some (.int y1), some (.int (y2 + r13_)), some (.int (y3 + 1)), some (.ref (b0 + 10 + 2 * (Int32.toNatClampNeg y3)))]) O dX3_holdersUpTo_51 rfl (by first | rfl | decide) (by decide) rfl ?_
            refine z_goto (tgt := 4) O dX3_holdersUpTo_54 (by decide) ?_
            exact z_subL (L' := [some (.ref b0), some (.int y1), some (.int (y2 + r13_)), some (.int (y3 + 1)), none]) (zLe.sub (And.intro rfl (And.intro rfl (And.intro rfl (And.intro rfl True.intro))))) (ih y1 (y2 + r13_) (y3 + 1) h)
  refine z_iconst (v := 0) O dX3_holdersUpTo_0 (by decide) ?_
  refine z_istore_n (L' := [some (.ref b0), some (.int x1), some (.int 0), none, none]) O dX3_holdersUpTo_1 rfl (by decide) rfl ?_
  refine z_iconst (v := 0) O dX3_holdersUpTo_2 (by decide) ?_
  refine z_istore_n (L' := [some (.ref b0), some (.int x1), some (.int 0), some (.int 0), none]) O dX3_holdersUpTo_3 rfl (by decide) rfl ?_
  obtain ⟨n17_, h⟩ := h
  exact z_subL (L' := [some (.ref b0), some (.int x1), some (.int 0), some (.int 0), none]) (zLe.sub (And.intro rfl (And.intro rfl (And.intro rfl (And.intro rfl True.intro))))) (HL4 n17_ x1 0 0 h)

theorem dX3_slowestHolder_0 : decode cX3_slowestHolder 0 = .ok (.iconst (-1), 1) := by decide +kernel
theorem dX3_slowestHolder_1 : decode cX3_slowestHolder 1 = .ok (.istore_n 1, 1) := by decide +kernel
theorem dX3_slowestHolder_2 : decode cX3_slowestHolder 2 = .ok (.aload_n 0, 1) := by decide +kernel
theorem dX3_slowestHolder_3 : decode cX3_slowestHolder 3 = .ok (.getfield 12, 3) := by decide +kernel
theorem dX3_slowestHolder_6 : decode cX3_slowestHolder 6 = .ok (.getfield 89, 3) := by decide +kernel
theorem dX3_slowestHolder_9 : decode cX3_slowestHolder 9 = .ok (.iconst 1, 1) := by decide +kernel
theorem dX3_slowestHolder_10 : decode cX3_slowestHolder 10 = .ok (.iadd, 1) := by decide +kernel
theorem dX3_slowestHolder_11 : decode cX3_slowestHolder 11 = .ok (.istore_n 2, 1) := by decide +kernel
theorem dX3_slowestHolder_12 : decode cX3_slowestHolder 12 = .ok (.iconst 0, 1) := by decide +kernel
theorem dX3_slowestHolder_13 : decode cX3_slowestHolder 13 = .ok (.istore_n 3, 1) := by decide +kernel
theorem dX3_slowestHolder_14 : decode cX3_slowestHolder 14 = .ok (.iload_n 3, 1) := by decide +kernel
theorem dX3_slowestHolder_15 : decode cX3_slowestHolder 15 = .ok (.bipush 8, 2) := by decide +kernel
theorem dX3_slowestHolder_17 : decode cX3_slowestHolder 17 = .ok (.if_icmp .ge 46, 3) := by decide +kernel
theorem dX3_slowestHolder_20 : decode cX3_slowestHolder 20 = .ok (.aload_n 0, 1) := by decide +kernel
theorem dX3_slowestHolder_21 : decode cX3_slowestHolder 21 = .ok (.iload_n 3, 1) := by decide +kernel
theorem dX3_slowestHolder_22 : decode cX3_slowestHolder 22 = .ok (.invokevirtual 69, 3) := by decide +kernel
theorem dX3_slowestHolder_25 : decode cX3_slowestHolder 25 = .ok (.astore 4, 2) := by decide +kernel
theorem dX3_slowestHolder_27 : decode cX3_slowestHolder 27 = .ok (.aload 4, 2) := by decide +kernel
theorem dX3_slowestHolder_29 : decode cX3_slowestHolder 29 = .ok (.ifnull 28, 3) := by decide +kernel
theorem dX3_slowestHolder_32 : decode cX3_slowestHolder 32 = .ok (.aload 4, 2) := by decide +kernel
theorem dX3_slowestHolder_34 : decode cX3_slowestHolder 34 = .ok (.getfield 72, 3) := by decide +kernel
theorem dX3_slowestHolder_37 : decode cX3_slowestHolder 37 = .ok (.ifCond .eq 20, 3) := by decide +kernel
theorem dX3_slowestHolder_40 : decode cX3_slowestHolder 40 = .ok (.aload 4, 2) := by decide +kernel
theorem dX3_slowestHolder_42 : decode cX3_slowestHolder 42 = .ok (.getfield 75, 3) := by decide +kernel
theorem dX3_slowestHolder_45 : decode cX3_slowestHolder 45 = .ok (.iload_n 2, 1) := by decide +kernel
theorem dX3_slowestHolder_46 : decode cX3_slowestHolder 46 = .ok (.if_icmp .ge 11, 3) := by decide +kernel
theorem dX3_slowestHolder_49 : decode cX3_slowestHolder 49 = .ok (.iload_n 3, 1) := by decide +kernel
theorem dX3_slowestHolder_50 : decode cX3_slowestHolder 50 = .ok (.istore_n 1, 1) := by decide +kernel
theorem dX3_slowestHolder_51 : decode cX3_slowestHolder 51 = .ok (.aload 4, 2) := by decide +kernel
theorem dX3_slowestHolder_53 : decode cX3_slowestHolder 53 = .ok (.getfield 75, 3) := by decide +kernel
theorem dX3_slowestHolder_56 : decode cX3_slowestHolder 56 = .ok (.istore_n 2, 1) := by decide +kernel
theorem dX3_slowestHolder_57 : decode cX3_slowestHolder 57 = .ok (.iinc 3 1, 3) := by decide +kernel
theorem dX3_slowestHolder_60 : decode cX3_slowestHolder 60 = .ok (.goto (-46), 3) := by decide +kernel
theorem dX3_slowestHolder_63 : decode cX3_slowestHolder 63 = .ok (.iload_n 1, 1) := by decide +kernel
theorem dX3_slowestHolder_64 : decode cX3_slowestHolder 64 = .ok (.ireturn, 1) := by decide +kernel
def PL_S_slowestHolder_14 : Nat → ST → Int32 → Int32 → Int32 → (Int32 → Prop) → Prop
  | 0, _, _, _, _, _ => False
  | n + 1, v0, y1, y2, y3, Q => ((8 ≤ y3 → Q y1) ∧ (¬ 8 ≤ y3 → P_S_reader y3 v0 (fun r6_ => ((r6_ = none → (fun y1 y2 y3 => PL_S_slowestHolder_14 n v0 y1 y2 y3  Q) y1 y2 (y3 + 1)) ∧ (∀ i8_, r6_ = some i8_ → (((R_held (S_readers v0 i8_)) = 0 → (fun y1 y2 y3 => PL_S_slowestHolder_14 n v0 y1 y2 y3  Q) y1 y2 (y3 + 1)) ∧ (¬ (R_held (S_readers v0 i8_)) = 0 → ((y2 ≤ (R_place (S_readers v0 i8_)) → (fun y1 y2 y3 => PL_S_slowestHolder_14 n v0 y1 y2 y3  Q) y1 y2 (y3 + 1)) ∧ (¬ y2 ≤ (R_place (S_readers v0 i8_)) → (fun y1 y2 y3 => PL_S_slowestHolder_14 n v0 y1 y2 y3  Q) y3 (R_place (S_readers v0 i8_)) (y3 + 1))))))))))
def P_S_slowestHolder (v0 : ST) (Q : Int32 → Prop) : Prop := (∃ n12_, PL_S_slowestHolder_14 n12_ v0 (-1) ((L_end (S_log v0)) + 1) 0 Q)
set_option maxRecDepth 100000 in
theorem s_S_slowestHolder {l : Launch} {D : zD} {B : Nat} {sa : Nat → Nat} (hfl : l.stackTraces = false) {z : Nat} {G : zG} {b0 : Nat} {v0 : ST} {Q : Int32 → Prop} (h0 : SA b0 v0 G) (h : P_S_slowestHolder v0 Q) : zSp l D B sa yX3_slowestHolder cX3_slowestHolder 5 (some .int) 2 43 0 0 [.ref b0] z G (zRi fun r z' G' => z = z' ∧ G = G' ∧ Q r) := by
  unfold P_S_slowestHolder at h
  refine z_ofW (by decide +kernel) hfl [some (.ref b0), none, none, none, none] rfl (Nat.le_of_ble_eq_true rfl) (fun p e s m args below meth c O hret hlk hnm => ?_)
  have O : zO p l s m args c D B sa 5 cX3_slowestHolder RX3 := O
  have HL14 : ∀ (n9 : Nat)    (y1 : Int32) (y2 : Int32) (y3 : Int32) (h : PL_S_slowestHolder_14 n9 v0 y1 y2 y3 Q), zT p l e (zrm 2 43 0 0) s m args below meth c (zEnd below D B (zRi fun r z' G' => z = z' ∧ G = G' ∧ Q r) args s 0 0) D B 5 0 0 14 [] [some (.ref b0), some (.int y1), some (.int y2), some (.int y3), none] z G := by
    intro n9   
    induction n9 with
    | zero =>
      intro _ _ _ h
      exact (h : False).elim
    | succ n ih =>
      intro y1 y2 y3 h
      rw [PL_S_slowestHolder_14] at h
      refine z_iload_n O dX3_slowestHolder_14 rfl rfl ?_
      refine z_bipush (v := 8) O dX3_slowestHolder_15 (by decide) ?_
      refine z_icmp_ge (tgt := 63) O dX3_slowestHolder_17 (by decide) (fun c1_ => ?_) (fun c1_ => ?_)
      · have h := h.1 c1_
        refine z_iload_n O dX3_slowestHolder_63 rfl rfl ?_
        exact z_iret O hret hlk dX3_slowestHolder_64 (Nat.le_of_ble_eq_true rfl) (Nat.le_of_ble_eq_true rfl) ⟨_, rfl, rfl, rfl, h⟩
      · have h := h.2 c1_
        refine z_aload_n O dX3_slowestHolder_20 rfl rfl ?_
        refine z_iload_n O dX3_slowestHolder_21 rfl rfl ?_
        refine z_callVa (As := [.int y3]) (st := []) O (s_S_reader hfl h0 h) wy_X3_reader wl_RX3_69 dX3_slowestHolder_22 rfl rfl (S_obj h0) ⟨by decide, rfl⟩ ⟨Nat.le_of_ble_eq_true rfl, Nat.le_of_ble_eq_true rfl⟩ (Nat.le_of_ble_eq_true rfl) ⟨Nat.le_of_ble_eq_true rfl, Nat.le_of_ble_eq_true rfl⟩ (fun r2_ z3_ G4_ hq5_ => ?_)
        obtain ⟨rfl, rfl, r6_, rfl, hb7_, h⟩ := hq5_
        cases r6_ with
        | none =>
          have h := h.1 rfl
          refine z_astoreN (L' := [some (.ref b0), some (.int y1), some (.int y2), some (.int y3), some (.null)]) O dX3_slowestHolder_25 (by decide) rfl ?_
          refine z_aloadN O dX3_slowestHolder_27 rfl ?_
          refine z_ifnullN (tgt := 57) O dX3_slowestHolder_29 (by decide) ?_
          refine z_iinc (v := (y3 + 1)) (L' := [some (.ref b0), some (.int y1), some (.int y2), some (.int (y3 + 1)), some (.null)]) O dX3_slowestHolder_57 rfl (by first | rfl | decide) (by decide) rfl ?_
          refine z_goto (tgt := 14) O dX3_slowestHolder_60 (by decide) ?_
          exact z_subL (L' := [some (.ref b0), some (.int y1), some (.int y2), some (.int (y3 + 1)), none]) (zLe.sub (And.intro rfl (And.intro rfl (And.intro rfl (And.intro rfl True.intro))))) (ih y1 y2 (y3 + 1) h)
        | some i8_ =>
          have hi9_ := hb7_ _ rfl
          have h := h.2 i8_ rfl
          refine z_astore (L' := [some (.ref b0), some (.int y1), some (.int y2), some (.int y3), some (.ref (b0 + 10 + 2 * i8_))]) O dX3_slowestHolder_25 (by decide) rfl ?_
          refine z_aload O dX3_slowestHolder_27 rfl ?_
          refine z_ifnull O dX3_slowestHolder_29 ?_
          refine z_aload O dX3_slowestHolder_32 rfl ?_
          refine z_get (v := .int (R_held (S_readers v0 i8_))) O wf_RX3_72 dX3_slowestHolder_34 (R_obj (S_readers_of h0 hi9_)) rfl ?_
          refine z_if_eq (tgt := 57) O dX3_slowestHolder_37 (by decide) (fun c10_ => ?_) (fun c10_ => ?_)
          · have h := h.1 c10_
            refine z_iinc (v := (y3 + 1)) (L' := [some (.ref b0), some (.int y1), some (.int y2), some (.int (y3 + 1)), some (.ref (b0 + 10 + 2 * i8_))]) O dX3_slowestHolder_57 rfl (by first | rfl | decide) (by decide) rfl ?_
            refine z_goto (tgt := 14) O dX3_slowestHolder_60 (by decide) ?_
            exact z_subL (L' := [some (.ref b0), some (.int y1), some (.int y2), some (.int (y3 + 1)), none]) (zLe.sub (And.intro rfl (And.intro rfl (And.intro rfl (And.intro rfl True.intro))))) (ih y1 y2 (y3 + 1) h)
          · have h := h.2 c10_
            refine z_aload O dX3_slowestHolder_40 rfl ?_
            refine z_get (v := .int (R_place (S_readers v0 i8_))) O wf_RX3_75 dX3_slowestHolder_42 (R_obj (S_readers_of h0 hi9_)) rfl ?_
            refine z_iload_n O dX3_slowestHolder_45 rfl rfl ?_
            refine z_icmp_ge (tgt := 57) O dX3_slowestHolder_46 (by decide) (fun c11_ => ?_) (fun c11_ => ?_)
            · have h := h.1 c11_
              refine z_iinc (v := (y3 + 1)) (L' := [some (.ref b0), some (.int y1), some (.int y2), some (.int (y3 + 1)), some (.ref (b0 + 10 + 2 * i8_))]) O dX3_slowestHolder_57 rfl (by first | rfl | decide) (by decide) rfl ?_
              refine z_goto (tgt := 14) O dX3_slowestHolder_60 (by decide) ?_
              exact z_subL (L' := [some (.ref b0), some (.int y1), some (.int y2), some (.int (y3 + 1)), none]) (zLe.sub (And.intro rfl (And.intro rfl (And.intro rfl (And.intro rfl True.intro))))) (ih y1 y2 (y3 + 1) h)
            · have h := h.2 c11_
              refine z_iload_n O dX3_slowestHolder_49 rfl rfl ?_
              refine z_istore_n (L' := [some (.ref b0), some (.int y3), some (.int y2), some (.int y3), some (.ref (b0 + 10 + 2 * i8_))]) O dX3_slowestHolder_50 rfl (by decide) rfl ?_
              refine z_aload O dX3_slowestHolder_51 rfl ?_
              refine z_get (v := .int (R_place (S_readers v0 i8_))) O wf_RX3_75 dX3_slowestHolder_53 (R_obj (S_readers_of h0 hi9_)) rfl ?_
              refine z_istore_n (L' := [some (.ref b0), some (.int y3), some (.int (R_place (S_readers v0 i8_))), some (.int y3), some (.ref (b0 + 10 + 2 * i8_))]) O dX3_slowestHolder_56 rfl (by decide) rfl ?_
              refine z_iinc (v := (y3 + 1)) (L' := [some (.ref b0), some (.int y3), some (.int (R_place (S_readers v0 i8_))), some (.int (y3 + 1)), some (.ref (b0 + 10 + 2 * i8_))]) O dX3_slowestHolder_57 rfl (by first | rfl | decide) (by decide) rfl ?_
              refine z_goto (tgt := 14) O dX3_slowestHolder_60 (by decide) ?_
              exact z_subL (L' := [some (.ref b0), some (.int y3), some (.int (R_place (S_readers v0 i8_))), some (.int (y3 + 1)), none]) (zLe.sub (And.intro rfl (And.intro rfl (And.intro rfl (And.intro rfl True.intro))))) (ih y3 (R_place (S_readers v0 i8_)) (y3 + 1) h)
  refine z_iconst (v := (-1)) O dX3_slowestHolder_0 (by decide) ?_
  refine z_istore_n (L' := [some (.ref b0), some (.int (-1)), none, none, none]) O dX3_slowestHolder_1 rfl (by decide) rfl ?_
  refine z_aload_n O dX3_slowestHolder_2 rfl rfl ?_
  refine z_get (v := .ref (b0 + 1)) O wf_RX3_12 dX3_slowestHolder_3 (S_obj h0) rfl ?_
  refine z_get (v := .int (L_end (S_log v0))) O wf_RX3_89 dX3_slowestHolder_6 (L_obj (S_log_of h0)) rfl ?_
  refine z_iconst (v := 1) O dX3_slowestHolder_9 (by decide) ?_
  refine z_iadd O dX3_slowestHolder_10 ?_
  refine z_istore_n (L' := [some (.ref b0), some (.int (-1)), some (.int ((L_end (S_log v0)) + 1)), none, none]) O dX3_slowestHolder_11 rfl (by decide) rfl ?_
  refine z_iconst (v := 0) O dX3_slowestHolder_12 (by decide) ?_
  refine z_istore_n (L' := [some (.ref b0), some (.int (-1)), some (.int ((L_end (S_log v0)) + 1)), some (.int 0), none]) O dX3_slowestHolder_13 rfl (by decide) rfl ?_
  obtain ⟨n12_, h⟩ := h
  exact z_subL (L' := [some (.ref b0), some (.int (-1)), some (.int ((L_end (S_log v0)) + 1)), some (.int 0), none]) (zLe.sub (And.intro rfl (And.intro rfl (And.intro rfl (And.intro rfl True.intro))))) (HL14 n12_ (-1) ((L_end (S_log v0)) + 1) 0 h)
