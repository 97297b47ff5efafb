def zandZ (x y : Int) : Int := (zand (Int32.ofInt x) (Int32.ofInt y)).toInt
def zshrZ (x y : Int) : Int := (zshr (Int32.ofInt x) (Int32.ofInt y)).toInt
theorem zt_zand {a b : Int32} {A B : Int} (ha : a.toInt = A) (hb : b.toInt = B) : (zand a b).toInt = zandZ A B := by
  subst ha; subst hb
  unfold zandZ
  rw [Int32.ofInt_toInt, Int32.ofInt_toInt]
theorem zt_zshr {a b : Int32} {A B : Int} (ha : a.toInt = A) (hb : b.toInt = B) : (zshr a b).toInt = zshrZ A B := by
  subst ha; subst hb
  unfold zshrZ
  rw [Int32.ofInt_toInt, Int32.ofInt_toInt]
def Z_LAW_append (x1 : Int) (v0 : TZ) (Q : Int → TZ → Prop) : Prop := Z_T_append x1 v0 (fun E v => (E = "java/lang/IllegalArgumentException" → Q (-9000000000000000002) v) ∧ (E = "java/lang/IllegalStateException" → Q (-9000000000000000003) v) ∧ ((¬ E = "java/lang/IllegalArgumentException" ∧ ¬ E = "java/lang/IllegalStateException") → False)) (fun r v => Q r v)
theorem z_LAW_append {x1 : Int32} {x1z : Int} {v0 : TT} {v0z : TZ} {Q : Int64 → TT → Prop} {Qz : Int → TZ → Prop} (e_x1 : x1.toInt = x1z) (e_v0 : aT v0 = v0z) (h_Q : ∀ (a0 : Int64) (a1 : TT), Qz a0.toInt (aT a1) → Q a0 a1) (h : Z_LAW_append x1z v0z Qz) : P_LAW_append x1 v0 Q := by
  unfold Z_LAW_append at h
  unfold P_LAW_append
  refine z_T_append e_x1 e_v0 (fun E v h => ?_) (fun r v h => ?_) h
  · exact ⟨fun c => h_Q _ _ (h.1 c), fun c => h_Q _ _ (h.2.1 c), fun c => h.2.2 c⟩
  · refine h_Q _ _ ?_
    rw [Int32.toInt_toInt64]
    exact h
def Z_LAW_load  (v0 : TZ) (Q : Int → TZ → Prop) : Prop := Z_T_load  v0 (fun E v => (E = "java/lang/IllegalStateException" → Q (-9000000000000000003) v) ∧ ((¬ E = "java/lang/IllegalStateException") → False)) (fun r v => Q r v)
theorem z_LAW_load  {v0 : TT} {v0z : TZ} {Q : Int64 → TT → Prop} {Qz : Int → TZ → Prop}  (e_v0 : aT v0 = v0z) (h_Q : ∀ (a0 : Int64) (a1 : TT), Qz a0.toInt (aT a1) → Q a0 a1) (h : Z_LAW_load  v0z Qz) : P_LAW_load  v0 Q := by
  unfold Z_LAW_load at h
  unfold P_LAW_load
  refine z_T_load  e_v0 (fun E v h => ?_) (fun r v h => ?_) h
  · exact ⟨fun c => h_Q _ _ (h.1 c), fun c => h.2 c⟩
  · refine h_Q _ _ ?_
    rw [Int32.toInt_toInt64]
    exact h
def Z_LAW_about (x1 : Int) (v0 : TZ) (Q : Int → Prop) : Prop := Z_T_about x1 v0 (fun E => (E = "java/lang/IllegalArgumentException" → Q (-9000000000000000002)) ∧ ((¬ E = "java/lang/IllegalArgumentException") → False)) (fun r => Q r)
theorem z_LAW_about {x1 : Int32} {x1z : Int} {v0 : TT} {v0z : TZ} {Q : Int64 → Prop} {Qz : Int → Prop} (e_x1 : x1.toInt = x1z) (e_v0 : aT v0 = v0z) (h_Q : ∀ (a0 : Int64), Qz a0.toInt → Q a0) (h : Z_LAW_about x1z v0z Qz) : P_LAW_about x1 v0 Q := by
  unfold Z_LAW_about at h
  unfold P_LAW_about
  refine z_T_about e_x1 e_v0 (fun E h => ?_) (fun r h => ?_) h
  · exact ⟨fun c => h_Q _ (h.1 c), fun c => h.2 c⟩
  · refine h_Q _ ?_
    rw [Int32.toInt_toInt64]
    exact h
def Z_LAW_rowOf (x1 : Int) (x2 : Int) (v0 : TZ) (Q : Int → Prop) : Prop := Z_T_rowOf x1 x2 v0 (fun E => (E = "java/lang/IndexOutOfBoundsException" → Q (-9000000000000000001)) ∧ (E = "java/lang/IllegalArgumentException" → Q (-9000000000000000002)) ∧ ((¬ E = "java/lang/IndexOutOfBoundsException" ∧ ¬ E = "java/lang/IllegalArgumentException") → False)) (fun r => Q r)
theorem z_LAW_rowOf {x1 : Int32} {x1z : Int} {x2 : Int32} {x2z : Int} {v0 : TT} {v0z : TZ} {Q : Int64 → Prop} {Qz : Int → Prop} (e_x1 : x1.toInt = x1z) (e_x2 : x2.toInt = x2z) (e_v0 : aT v0 = v0z) (h_Q : ∀ (a0 : Int64), Qz a0.toInt → Q a0) (h : Z_LAW_rowOf x1z x2z v0z Qz) : P_LAW_rowOf x1 x2 v0 Q := by
  unfold Z_LAW_rowOf at h
  unfold P_LAW_rowOf
  refine z_T_rowOf e_x1 e_x2 e_v0 (fun E h => ?_) (fun r h => ?_) h
  · exact ⟨fun c => h_Q _ (h.1 c), fun c => h_Q _ (h.2.1 c), fun c => h.2.2 c⟩
  · refine h_Q _ ?_
    rw [Int32.toInt_toInt64]
    exact h
def Z_LAW_segmentOf (x1 : Int) (x2 : Int) (v0 : TZ) (Q : Int → Prop) : Prop := Z_T_segmentOf x1 x2 v0 (fun E => (E = "java/lang/IndexOutOfBoundsException" → Q (-9000000000000000001)) ∧ (E = "java/lang/IllegalArgumentException" → Q (-9000000000000000002)) ∧ ((¬ E = "java/lang/IndexOutOfBoundsException" ∧ ¬ E = "java/lang/IllegalArgumentException") → False)) (fun r => Q r)
theorem z_LAW_segmentOf {x1 : Int32} {x1z : Int} {x2 : Int32} {x2z : Int} {v0 : TT} {v0z : TZ} {Q : Int64 → Prop} {Qz : Int → Prop} (e_x1 : x1.toInt = x1z) (e_x2 : x2.toInt = x2z) (e_v0 : aT v0 = v0z) (h_Q : ∀ (a0 : Int64), Qz a0.toInt → Q a0) (h : Z_LAW_segmentOf x1z x2z v0z Qz) : P_LAW_segmentOf x1 x2 v0 Q := by
  unfold Z_LAW_segmentOf at h
  unfold P_LAW_segmentOf
  refine z_T_segmentOf e_x1 e_x2 e_v0 (fun E h => ?_) (fun r h => ?_) h
  · exact ⟨fun c => h_Q _ (h.1 c), fun c => h_Q _ (h.2.1 c), fun c => h.2.2 c⟩
  · refine h_Q _ ?_
    rw [Int32.toInt_toInt64]
    exact h
def Z_LAW_readerOf (x1 : Int) (x2 : Int) (v0 : TZ) (Q : Int → Prop) : Prop := Z_T_readerOf x1 x2 v0 (fun E => (E = "java/lang/IndexOutOfBoundsException" → Q (-9000000000000000001)) ∧ (E = "java/lang/IllegalArgumentException" → Q (-9000000000000000002)) ∧ ((¬ E = "java/lang/IndexOutOfBoundsException" ∧ ¬ E = "java/lang/IllegalArgumentException") → False)) (fun r => Q r)
theorem z_LAW_readerOf {x1 : Int32} {x1z : Int} {x2 : Int32} {x2z : Int} {v0 : TT} {v0z : TZ} {Q : Int64 → Prop} {Qz : Int → Prop} (e_x1 : x1.toInt = x1z) (e_x2 : x2.toInt = x2z) (e_v0 : aT v0 = v0z) (h_Q : ∀ (a0 : Int64), Qz a0.toInt → Q a0) (h : Z_LAW_readerOf x1z x2z v0z Qz) : P_LAW_readerOf x1 x2 v0 Q := by
  unfold Z_LAW_readerOf at h
  unfold P_LAW_readerOf
  refine z_T_readerOf e_x1 e_x2 e_v0 (fun E h => ?_) (fun r h => ?_) h
  · exact ⟨fun c => h_Q _ (h.1 c), fun c => h_Q _ (h.2.1 c), fun c => h.2.2 c⟩
  · refine h_Q _ ?_
    rw [Int32.toInt_toInt64]
    exact h
def Z_LAW_table (x1 : Int) (x2 : Int) (v0 : TZ) (Q : Int → Prop) : Prop := Z_T_table x1 x2 v0 (fun E => (E = "java/lang/IndexOutOfBoundsException" → Q (-9000000000000000001)) ∧ (E = "java/lang/IllegalArgumentException" → Q (-9000000000000000002)) ∧ ((¬ E = "java/lang/IndexOutOfBoundsException" ∧ ¬ E = "java/lang/IllegalArgumentException") → False)) (fun r => Q r)
theorem z_LAW_table {x1 : Int32} {x1z : Int} {x2 : Int32} {x2z : Int} {v0 : TT} {v0z : TZ} {Q : Int64 → Prop} {Qz : Int → Prop} (e_x1 : x1.toInt = x1z) (e_x2 : x2.toInt = x2z) (e_v0 : aT v0 = v0z) (h_Q : ∀ (a0 : Int64), Qz a0.toInt → Q a0) (h : Z_LAW_table x1z x2z v0z Qz) : P_LAW_table x1 x2 v0 Q := by
  unfold Z_LAW_table at h
  unfold P_LAW_table
  refine z_T_table e_x1 e_x2 e_v0 (fun E h => ?_) (fun r h => ?_) h
  · exact ⟨fun c => h_Q _ (h.1 c), fun c => h_Q _ (h.2.1 c), fun c => h.2.2 c⟩
  · refine h_Q _ ?_
    rw [Int32.toInt_toInt64]
    exact h
def Z_LAW_base (x1 : Int) (v0 : TZ) (Q : Int → Prop) : Prop := Z_T_base x1 v0 (fun E => (E = "java/lang/IllegalArgumentException" → Q (-9000000000000000002)) ∧ ((¬ E = "java/lang/IllegalArgumentException") → False)) (fun r => Q r)
theorem z_LAW_base {x1 : Int32} {x1z : Int} {v0 : TT} {v0z : TZ} {Q : Int64 → Prop} {Qz : Int → Prop} (e_x1 : x1.toInt = x1z) (e_v0 : aT v0 = v0z) (h_Q : ∀ (a0 : Int64), Qz a0.toInt → Q a0) (h : Z_LAW_base x1z v0z Qz) : P_LAW_base x1 v0 Q := by
  unfold Z_LAW_base at h
  unfold P_LAW_base
  refine z_T_base e_x1 e_v0 (fun E h => ?_) (fun r h => ?_) h
  · exact ⟨fun c => h_Q _ (h.1 c), fun c => h.2 c⟩
  · refine h_Q _ ?_
    rw [Int32.toInt_toInt64]
    exact h
def Z_LAW_setting (x1 : Int) (v0 : TZ) (Q : Int → Prop) : Prop := Z_T_setting x1 v0 (fun E => (E = "java/lang/IllegalArgumentException" → Q (-9000000000000000002)) ∧ ((¬ E = "java/lang/IllegalArgumentException") → False)) (fun r => Q r)
theorem z_LAW_setting {x1 : Int32} {x1z : Int} {v0 : TT} {v0z : TZ} {Q : Int64 → Prop} {Qz : Int → Prop} (e_x1 : x1.toInt = x1z) (e_v0 : aT v0 = v0z) (h_Q : ∀ (a0 : Int64), Qz a0.toInt → Q a0) (h : Z_LAW_setting x1z v0z Qz) : P_LAW_setting x1 v0 Q := by
  unfold Z_LAW_setting at h
  unfold P_LAW_setting
  refine z_T_setting e_x1 e_v0 (fun E h => ?_) (fun r h => ?_) h
  · exact ⟨fun c => h_Q _ (h.1 c), fun c => h.2 c⟩
  · refine h_Q _ ?_
    rw [Int32.toInt_toInt64]
    exact h
def Z_LAW_write (x1 : Int) (x2 : Int) (x3 : Int) (v0 : TZ) (Q : Int → TZ → Prop) : Prop := Z_T_write x1 x2 x3 v0 (fun E v => (E = "java/lang/IllegalArgumentException" → Q (-9000000000000000002) v) ∧ (E = "java/lang/IllegalStateException" → Q (-9000000000000000003) v) ∧ ((¬ E = "java/lang/IllegalArgumentException" ∧ ¬ E = "java/lang/IllegalStateException") → False)) (fun r v => Q r v)
theorem z_LAW_write {x1 : Int32} {x1z : Int} {x2 : Int32} {x2z : Int} {x3 : Int32} {x3z : Int} {v0 : TT} {v0z : TZ} {Q : Int64 → TT → Prop} {Qz : Int → TZ → Prop} (e_x1 : x1.toInt = x1z) (e_x2 : x2.toInt = x2z) (e_x3 : x3.toInt = x3z) (e_v0 : aT v0 = v0z) (h_Q : ∀ (a0 : Int64) (a1 : TT), Qz a0.toInt (aT a1) → Q a0 a1) (h : Z_LAW_write x1z x2z x3z v0z Qz) : P_LAW_write x1 x2 x3 v0 Q := by
  unfold Z_LAW_write at h
  unfold P_LAW_write
  refine z_T_write e_x1 e_x2 e_x3 e_v0 (fun E v h => ?_) (fun r v h => ?_) h
  · exact ⟨fun c => h_Q _ _ (h.1 c), fun c => h_Q _ _ (h.2.1 c), fun c => h.2.2 c⟩
  · refine h_Q _ _ ?_
    rw [Int32.toInt_toInt64]
    exact h
def Z_LAW_join (x1 : Int) (x2 : Int) (x3 : Int) (v0 : TZ) (Q : Int → TZ → Prop) : Prop := Z_T_join x1 x2 x3 v0 (fun E v => (E = "java/lang/IllegalArgumentException" → Q (-9000000000000000002) v) ∧ (E = "java/lang/IllegalStateException" → Q (-9000000000000000003) v) ∧ ((¬ E = "java/lang/IllegalArgumentException" ∧ ¬ E = "java/lang/IllegalStateException") → False)) (fun r v => Q r v)
theorem z_LAW_join {x1 : Int32} {x1z : Int} {x2 : Int32} {x2z : Int} {x3 : Int32} {x3z : Int} {v0 : TT} {v0z : TZ} {Q : Int64 → TT → Prop} {Qz : Int → TZ → Prop} (e_x1 : x1.toInt = x1z) (e_x2 : x2.toInt = x2z) (e_x3 : x3.toInt = x3z) (e_v0 : aT v0 = v0z) (h_Q : ∀ (a0 : Int64) (a1 : TT), Qz a0.toInt (aT a1) → Q a0 a1) (h : Z_LAW_join x1z x2z x3z v0z Qz) : P_LAW_join x1 x2 x3 v0 Q := by
  unfold Z_LAW_join at h
  unfold P_LAW_join
  refine z_T_join e_x1 e_x2 e_x3 e_v0 (fun E v h => ?_) (fun r v h => ?_) h
  · exact ⟨fun c => h_Q _ _ (h.1 c), fun c => h_Q _ _ (h.2.1 c), fun c => h.2.2 c⟩
  · refine h_Q _ _ ?_
    rw [Int32.toInt_toInt64]
    exact h
def Z_LAW_read (x1 : Int) (x2 : Int) (v0 : TZ) (Q : Int → TZ → Prop) : Prop := Z_T_read x1 x2 v0 (fun E v => (E = "java/lang/IndexOutOfBoundsException" → Q (-9000000000000000001) v) ∧ (E = "java/lang/IllegalArgumentException" → Q (-9000000000000000002) v) ∧ ((¬ E = "java/lang/IndexOutOfBoundsException" ∧ ¬ E = "java/lang/IllegalArgumentException") → False)) (fun r v => Q r v)
theorem z_LAW_read {x1 : Int32} {x1z : Int} {x2 : Int32} {x2z : Int} {v0 : TT} {v0z : TZ} {Q : Int64 → TT → Prop} {Qz : Int → TZ → Prop} (e_x1 : x1.toInt = x1z) (e_x2 : x2.toInt = x2z) (e_v0 : aT v0 = v0z) (h_Q : ∀ (a0 : Int64) (a1 : TT), Qz a0.toInt (aT a1) → Q a0 a1) (h : Z_LAW_read x1z x2z v0z Qz) : P_LAW_read x1 x2 v0 Q := by
  unfold Z_LAW_read at h
  unfold P_LAW_read
  refine z_T_read e_x1 e_x2 e_v0 (fun E v h => ?_) (fun r v h => ?_) h
  · exact ⟨fun c => h_Q _ _ (h.1 c), fun c => h_Q _ _ (h.2.1 c), fun c => h.2.2 c⟩
  · refine h_Q _ _ ?_
    rw [Int32.toInt_toInt64]
    exact h
def Z_LAW_leave (x1 : Int) (v0 : TZ) (Q : Int → TZ → Prop) : Prop := Z_T_leave x1 v0 (fun E v => (E = "java/lang/IndexOutOfBoundsException" → Q (-9000000000000000001) v) ∧ ((¬ E = "java/lang/IndexOutOfBoundsException") → False)) (fun r v => Q r v)
theorem z_LAW_leave {x1 : Int32} {x1z : Int} {v0 : TT} {v0z : TZ} {Q : Int64 → TT → Prop} {Qz : Int → TZ → Prop} (e_x1 : x1.toInt = x1z) (e_v0 : aT v0 = v0z) (h_Q : ∀ (a0 : Int64) (a1 : TT), Qz a0.toInt (aT a1) → Q a0 a1) (h : Z_LAW_leave x1z v0z Qz) : P_LAW_leave x1 v0 Q := by
  unfold Z_LAW_leave at h
  unfold P_LAW_leave
  refine z_T_leave e_x1 e_v0 (fun E v h => ?_) (fun r v h => ?_) h
  · exact ⟨fun c => h_Q _ _ (h.1 c), fun c => h.2 c⟩
  · refine h_Q _ _ ?_
    rw [Int32.toInt_toInt64]
    exact h
def Z_LAW_hold (x1 : Int) (x2 : Int) (v0 : TZ) (Q : Int → TZ → Prop) : Prop := Z_T_hold x1 x2 v0 (fun E v => (E = "java/lang/IndexOutOfBoundsException" → Q (-9000000000000000001) v) ∧ (E = "java/lang/IllegalStateException" → Q (-9000000000000000003) v) ∧ ((¬ E = "java/lang/IndexOutOfBoundsException" ∧ ¬ E = "java/lang/IllegalStateException") → False)) (fun r v => Q r v)
theorem z_LAW_hold {x1 : Int32} {x1z : Int} {x2 : Int32} {x2z : Int} {v0 : TT} {v0z : TZ} {Q : Int64 → TT → Prop} {Qz : Int → TZ → Prop} (e_x1 : x1.toInt = x1z) (e_x2 : x2.toInt = x2z) (e_v0 : aT v0 = v0z) (h_Q : ∀ (a0 : Int64) (a1 : TT), Qz a0.toInt (aT a1) → Q a0 a1) (h : Z_LAW_hold x1z x2z v0z Qz) : P_LAW_hold x1 x2 v0 Q := by
  unfold Z_LAW_hold at h
  unfold P_LAW_hold
  refine z_T_hold e_x1 e_x2 e_v0 (fun E v h => ?_) (fun r v h => ?_) h
  · exact ⟨fun c => h_Q _ _ (h.1 c), fun c => h_Q _ _ (h.2.1 c), fun c => h.2.2 c⟩
  · refine h_Q _ _ ?_
    rw [Int32.toInt_toInt64]
    exact h
def Z_LAW_set (x1 : Int) (x2 : Int) (v0 : TZ) (Q : Int → TZ → Prop) : Prop := Z_T_set x1 x2 v0 (fun E v => (E = "java/lang/IllegalArgumentException" → Q (-9000000000000000002) v) ∧ ((¬ E = "java/lang/IllegalArgumentException") → False)) (fun r v => Q r v)
theorem z_LAW_set {x1 : Int32} {x1z : Int} {x2 : Int32} {x2z : Int} {v0 : TT} {v0z : TZ} {Q : Int64 → TT → Prop} {Qz : Int → TZ → Prop} (e_x1 : x1.toInt = x1z) (e_x2 : x2.toInt = x2z) (e_v0 : aT v0 = v0z) (h_Q : ∀ (a0 : Int64) (a1 : TT), Qz a0.toInt (aT a1) → Q a0 a1) (h : Z_LAW_set x1z x2z v0z Qz) : P_LAW_set x1 x2 v0 Q := by
  unfold Z_LAW_set at h
  unfold P_LAW_set
  refine z_T_set e_x1 e_x2 e_v0 (fun E v h => ?_) (fun r v h => ?_) h
  · exact ⟨fun c => h_Q _ _ (h.1 c), fun c => h.2 c⟩
  · refine h_Q _ _ ?_
    rw [Int32.toInt_toInt64]
    exact h
def Z_LAW_ticks (x1 : Int) (v0 : TZ) (Q : Int → TZ → Prop) : Prop := Z_T_ticks x1 v0 (fun E v => (E = "java/lang/IllegalArgumentException" → Q (-9000000000000000002) v) ∧ ((¬ E = "java/lang/IllegalArgumentException") → False)) (fun r v => Q r v)
theorem z_LAW_ticks {x1 : Int32} {x1z : Int} {v0 : TT} {v0z : TZ} {Q : Int64 → TT → Prop} {Qz : Int → TZ → Prop} (e_x1 : x1.toInt = x1z) (e_v0 : aT v0 = v0z) (h_Q : ∀ (a0 : Int64) (a1 : TT), Qz a0.toInt (aT a1) → Q a0 a1) (h : Z_LAW_ticks x1z v0z Qz) : P_LAW_ticks x1 v0 Q := by
  unfold Z_LAW_ticks at h
  unfold P_LAW_ticks
  refine z_T_ticks e_x1 e_v0 (fun E v h => ?_) (fun r v h => ?_) h
  · exact ⟨fun c => h_Q _ _ (h.1 c), fun c => h.2 c⟩
  · refine h_Q _ _ ?_
    rw [Int32.toInt_toInt64]
    exact h
def Z_LAW_undo  (v0 : TZ) (Q : Int → TZ → Prop) : Prop := Z_T_undo  v0 (fun E v => (E = "java/lang/IllegalStateException" → Q (-9000000000000000003) v) ∧ ((¬ E = "java/lang/IllegalStateException") → False)) (fun r v => Q r v)
theorem z_LAW_undo  {v0 : TT} {v0z : TZ} {Q : Int64 → TT → Prop} {Qz : Int → TZ → Prop}  (e_v0 : aT v0 = v0z) (h_Q : ∀ (a0 : Int64) (a1 : TT), Qz a0.toInt (aT a1) → Q a0 a1) (h : Z_LAW_undo  v0z Qz) : P_LAW_undo  v0 Q := by
  unfold Z_LAW_undo at h
  unfold P_LAW_undo
  refine z_T_undo  e_v0 (fun E v h => ?_) (fun r v h => ?_) h
  · exact ⟨fun c => h_Q _ _ (h.1 c), fun c => h.2 c⟩
  · refine h_Q _ _ ?_
    rw [Int32.toInt_toInt64]
    exact h
def Z_LAW_truth (x1 : Int) (x2 : Int) (x3 : Int) (v0 : TZ) (Q : Int → Prop) : Prop := Z_T_truth x1 x2 x3 v0 (fun E => (E = "java/lang/IndexOutOfBoundsException" → Q (-9000000000000000001)) ∧ (E = "java/lang/IllegalArgumentException" → Q (-9000000000000000002)) ∧ ((¬ E = "java/lang/IndexOutOfBoundsException" ∧ ¬ E = "java/lang/IllegalArgumentException") → False)) (fun r => Q r)
theorem z_LAW_truth {x1 : Int32} {x1z : Int} {x2 : Int32} {x2z : Int} {x3 : Int32} {x3z : Int} {v0 : TT} {v0z : TZ} {Q : Int64 → Prop} {Qz : Int → Prop} (e_x1 : x1.toInt = x1z) (e_x2 : x2.toInt = x2z) (e_x3 : x3.toInt = x3z) (e_v0 : aT v0 = v0z) (h_Q : ∀ (a0 : Int64), Qz a0.toInt → Q a0) (h : Z_LAW_truth x1z x2z x3z v0z Qz) : P_LAW_truth x1 x2 x3 v0 Q := by
  unfold Z_LAW_truth at h
  unfold P_LAW_truth
  refine z_T_truth e_x1 e_x2 e_x3 e_v0 (fun E h => ?_) (fun r h => ?_) h
  · exact ⟨fun c => h_Q _ (h.1 c), fun c => h_Q _ (h.2.1 c), fun c => h.2.2 c⟩
  · refine h_Q _ ?_
    rw [Int32.toInt_toInt64]
    exact h
def Z_LAW_lostIn (x1 : Int) (v0 : TZ) (Q : Int → TZ → Prop) : Prop := Z_T_lostIn x1 v0 (fun E v => (E = "java/lang/IndexOutOfBoundsException" → Q (-9000000000000000001) v) ∧ ((¬ E = "java/lang/IndexOutOfBoundsException") → False)) (fun r v => Q r v)
theorem z_LAW_lostIn {x1 : Int32} {x1z : Int} {v0 : TT} {v0z : TZ} {Q : Int64 → TT → Prop} {Qz : Int → TZ → Prop} (e_x1 : x1.toInt = x1z) (e_v0 : aT v0 = v0z) (h_Q : ∀ (a0 : Int64) (a1 : TT), Qz a0.toInt (aT a1) → Q a0 a1) (h : Z_LAW_lostIn x1z v0z Qz) : P_LAW_lostIn x1 v0 Q := by
  unfold Z_LAW_lostIn at h
  unfold P_LAW_lostIn
  refine z_T_lostIn e_x1 e_v0 (fun E v h => ?_) (fun r v h => ?_) h
  · exact ⟨fun c => h_Q _ _ (h.1 c), fun c => h.2 c⟩
  · refine h_Q _ _ ?_
    rw [Int32.toInt_toInt64]
    exact h
def Z_LAW_ifFree (x1 : Int) (v0 : TZ) (Q : Int → TZ → Prop) : Prop := Z_T_ifFree x1 v0 (fun E v => (E = "java/lang/IndexOutOfBoundsException" → Q (-9000000000000000001) v) ∧ ((¬ E = "java/lang/IndexOutOfBoundsException") → False)) (fun r v => Q r v)
theorem z_LAW_ifFree {x1 : Int32} {x1z : Int} {v0 : TT} {v0z : TZ} {Q : Int64 → TT → Prop} {Qz : Int → TZ → Prop} (e_x1 : x1.toInt = x1z) (e_v0 : aT v0 = v0z) (h_Q : ∀ (a0 : Int64) (a1 : TT), Qz a0.toInt (aT a1) → Q a0 a1) (h : Z_LAW_ifFree x1z v0z Qz) : P_LAW_ifFree x1 v0 Q := by
  unfold Z_LAW_ifFree at h
  unfold P_LAW_ifFree
  refine z_T_ifFree e_x1 e_v0 (fun E v h => ?_) (fun r v h => ?_) h
  · exact ⟨fun c => h_Q _ _ (h.1 c), fun c => h.2 c⟩
  · refine h_Q _ _ ?_
    rw [Int32.toInt_toInt64]
    exact h
def Z_LAW_leastRoom (x1 : Int) (v0 : TZ) (Q : Int → TZ → Prop) : Prop := Z_T_leastRoom x1 v0 (fun E v => (E = "java/lang/IllegalArgumentException" → Q (-9000000000000000002) v) ∧ ((¬ E = "java/lang/IllegalArgumentException") → False)) (fun r v => Q r v)
theorem z_LAW_leastRoom {x1 : Int32} {x1z : Int} {v0 : TT} {v0z : TZ} {Q : Int64 → TT → Prop} {Qz : Int → TZ → Prop} (e_x1 : x1.toInt = x1z) (e_v0 : aT v0 = v0z) (h_Q : ∀ (a0 : Int64) (a1 : TT), Qz a0.toInt (aT a1) → Q a0 a1) (h : Z_LAW_leastRoom x1z v0z Qz) : P_LAW_leastRoom x1 v0 Q := by
  unfold Z_LAW_leastRoom at h
  unfold P_LAW_leastRoom
  refine z_T_leastRoom e_x1 e_v0 (fun E v h => ?_) (fun r v h => ?_) h
  · exact ⟨fun c => h_Q _ _ (h.1 c), fun c => h.2 c⟩
  · refine h_Q _ _ ?_
    rw [Int32.toInt_toInt64]
    exact h
def Z_LAW_script (x1 : Int) (x2 : Int) (v0 : TZ) (Q : Int → TZ → Prop) : Prop := Z_T_runScript x1 x2 v0 (fun E v => (E = "java/lang/IllegalArgumentException" → Q (-9000000000000000002) v) ∧ ((¬ E = "java/lang/IllegalArgumentException") → False)) (fun r v => Q r v)
theorem z_LAW_script {x1 : Int32} {x1z : Int} {x2 : Int64} {x2z : Int} {v0 : TT} {v0z : TZ} {Q : Int64 → TT → Prop} {Qz : Int → TZ → Prop} (e_x1 : x1.toInt = x1z) (e_x2 : x2.toInt = x2z) (e_v0 : aT v0 = v0z) (h_Q : ∀ (a0 : Int64) (a1 : TT), Qz a0.toInt (aT a1) → Q a0 a1) (h : Z_LAW_script x1z x2z v0z Qz) : P_LAW_script x1 x2 v0 Q := by
  unfold Z_LAW_script at h
  unfold P_LAW_script
  refine z_T_runScript e_x1 e_x2 e_v0 (fun E v h => ?_) (fun r v h => ?_) h
  · exact ⟨fun c => h_Q _ _ (h.1 c), fun c => h.2 c⟩
  · refine h_Q _ _ ?_
    rw [Int32.toInt_toInt64]
    exact h
def Z_LAW_simulate (x1 : Int) (x2 : Int) (v0 : TZ) (Q : Int → TZ → Prop) : Prop := Z_T_simulate x1 x2 v0 (fun E v => (E = "java/lang/IllegalArgumentException" → Q (-9000000000000000002) v) ∧ ((¬ E = "java/lang/IllegalArgumentException") → False)) (fun r v => Q r v)
theorem z_LAW_simulate {x1 : Int64} {x1z : Int} {x2 : Int32} {x2z : Int} {v0 : TT} {v0z : TZ} {Q : Int64 → TT → Prop} {Qz : Int → TZ → Prop} (e_x1 : x1.toInt = x1z) (e_x2 : x2.toInt = x2z) (e_v0 : aT v0 = v0z) (h_Q : ∀ (a0 : Int64) (a1 : TT), Qz a0.toInt (aT a1) → Q a0 a1) (h : Z_LAW_simulate x1z x2z v0z Qz) : P_LAW_simulate x1 x2 v0 Q := by
  unfold Z_LAW_simulate at h
  unfold P_LAW_simulate
  refine z_T_simulate e_x1 e_x2 e_v0 (fun E v h => ?_) (fun r v h => ?_) h
  · exact ⟨fun c => h_Q _ _ (h.1 c), fun c => h.2 c⟩
  · refine h_Q _ _ ?_
    rw [Int32.toInt_toInt64]
    exact h
def Z_LAW_save (x1 : Int) (v0 : TZ) (Q : Int → TZ → Prop) : Prop := Z_T_save x1 v0 (fun E v => (E = "java/lang/IndexOutOfBoundsException" → Q (-9000000000000000001) v) ∧ ((¬ E = "java/lang/IndexOutOfBoundsException") → False)) (fun r v => Q r v)
theorem z_LAW_save {x1 : Int32} {x1z : Int} {v0 : TT} {v0z : TZ} {Q : Int64 → TT → Prop} {Qz : Int → TZ → Prop} (e_x1 : x1.toInt = x1z) (e_v0 : aT v0 = v0z) (h_Q : ∀ (a0 : Int64) (a1 : TT), Qz a0.toInt (aT a1) → Q a0 a1) (h : Z_LAW_save x1z v0z Qz) : P_LAW_save x1 v0 Q := by
  unfold Z_LAW_save at h
  unfold P_LAW_save
  refine z_T_save e_x1 e_v0 (fun E v h => ?_) (fun r v h => ?_) h
  · exact ⟨fun c => h_Q _ _ (h.1 c), fun c => h.2 c⟩
  · refine h_Q _ _ ?_
    rw [Int32.toInt_toInt64]
    exact h
def Z_LAW_restore (x1 : Int) (v0 : TZ) (Q : Int → TZ → Prop) : Prop := Z_T_restore x1 v0 (fun E v => (E = "java/lang/IndexOutOfBoundsException" → Q (-9000000000000000001) v) ∧ (E = "java/lang/IllegalStateException" → Q (-9000000000000000003) v) ∧ ((¬ E = "java/lang/IndexOutOfBoundsException" ∧ ¬ E = "java/lang/IllegalStateException") → False)) (fun r v => Q r v)
theorem z_LAW_restore {x1 : Int32} {x1z : Int} {v0 : TT} {v0z : TZ} {Q : Int64 → TT → Prop} {Qz : Int → TZ → Prop} (e_x1 : x1.toInt = x1z) (e_v0 : aT v0 = v0z) (h_Q : ∀ (a0 : Int64) (a1 : TT), Qz a0.toInt (aT a1) → Q a0 a1) (h : Z_LAW_restore x1z v0z Qz) : P_LAW_restore x1 v0 Q := by
  unfold Z_LAW_restore at h
  unfold P_LAW_restore
  refine z_T_restore e_x1 e_v0 (fun E v h => ?_) (fun r v h => ?_) h
  · exact ⟨fun c => h_Q _ _ (h.1 c), fun c => h_Q _ _ (h.2.1 c), fun c => h.2.2 c⟩
  · refine h_Q _ _ ?_
    rw [Int32.toInt_toInt64]
    exact h
