/-! the reference: asks and their trace -/
def CMt (h : Mem) (T : TR) : Prop := h 373 27 = T.1 ∧ 0 ≤ T.1 ∧ T.1 ≤ 16 ∧ ∀ j, 0 ≤ j → j < T.1 → h 388 j = T.2 j
def TF (h h' : Mem) : Prop := (∀ c, c ≠ 373 → c ≠ 388 → h' c = h c) ∧ ∀ k : Int, k ≠ 27 → h' 373 k = h 373 k
theorem TF.tr {h h1 h2 : Mem} (a : TF h h1) (b : TF h1 h2) : TF h h2 := ⟨fun c c1 c2 => (b.1 c c1 c2).trans (a.1 c c1 c2), fun k hk => (b.2 k hk).trans (a.2 k hk)⟩
def AMp (h : Mem) (T : TR) (v : Option AV) (x : Int) (h' : Mem) (bs : List Int) : Prop := v = some (vI x) ∧ CMt h' (trs T bs) ∧ TF h h'
section MOM
variable {e q n L : Nat} {h : Mem} {σ : ST} {V : VW}
theorem c_X9_traces {T : TR} {b : Int} (hC : CMt h T) : Sem M_X9_traces [vR 373, vI b] (TT e q n L) h 0 0 (fun v t' h' => v = none ∧ t' = TT e q n L ∧ CMt h' (pushT T b) ∧ TF h h') := by
  obtain ⟨c1, c2, c3, c4⟩ := hC
  refine sem_intro (by decide) rfl (Nat.le_of_ble_eq_true rfl) rfl ?_
  refine aw_aload_n dX9_traces_0 rfl ?_
  refine aw_getI dX9_traces_1 fx_RX9_251 (by first | rfl | assumption) ?_
  rw [c1]
  refine aw_bipush dX9_traces_4 (by decide) (by decide) ?_
  refine aw_icmp_ge 29 dX9_traces_6 rfl (fun c6 => ?_) (fun c6 => ?_)
  · refine aw_return dX9_traces_29 rfl (Nat.le_refl _) (Nat.le_refl _) ?_
    refine ⟨rfl, rfl, ?_, fun c _ _ => rfl, fun _ _ => rfl⟩
    unfold pushT
    rw [if_neg (by omega)]
    exact ⟨c1, c2, c3, c4⟩
  · refine aw_aload_n dX9_traces_9 rfl ?_
    refine aw_getR1 dX9_traces_10 fx_RX9_53 (by first | rfl | assumption) (by first | rfl | assumption) ?_
    refine aw_aload_n dX9_traces_13 rfl ?_
    refine aw_getI dX9_traces_14 fx_RX9_251 (by first | rfl | assumption) ?_
    rw [c1]
    refine aw_iload_n dX9_traces_17 rfl ?_
    refine aw_iastore dX9_traces_18 (by first | rfl | assumption) (by omega) (by omega) (by omega) ?_
    refine aw_aload_n dX9_traces_19 rfl ?_
    refine aw_dup dX9_traces_20 rfl ?_
    refine aw_getI dX9_traces_21 fx_RX9_251 (by first | rfl | assumption) ?_
    rw [am_up_ne (by decide), c1]
    refine aw_iconst dX9_traces_24 (by decide) (by decide) ?_
    refine aw_iadd dX9_traces_25 (by omega) (by omega) ?_
    refine aw_putI dX9_traces_26 fp_RX9_251 (by first | rfl | assumption) ?_
    refine aw_return dX9_traces_29 rfl (Nat.le_refl _) (Nat.le_refl _) ?_
    refine ⟨rfl, rfl, ?_, fun c q1 q2 => by rw [am_up_ne q1, am_up_ne q2], fun k hk => by unfold am_up; rw [if_neg (by omega), if_neg (by omega)]⟩
    unfold pushT
    rw [if_pos (by omega)]
    refine ⟨by simp [am_up], by show 0 ≤ T.1 + 1; omega, by show T.1 + 1 ≤ 16; omega, fun j j0 j1 => ?_⟩
    have j2 : j < T.1 + 1 := j1
    show _ = (if j = T.1 then b else T.2 j)
    rw [am_up_ne (by decide)]
    unfold am_up
    by_cases ej : j = T.1
    · rw [if_pos ej, if_pos ⟨rfl, ej⟩]
    · rw [if_neg ej, if_neg (by omega)]; exact c4 j j0 (by omega)
theorem c_X9_referenceMark {T : TR} {i : Int} (hC : CMt h T) (ev : mV h 379 0 = V) (hV : WFv V) (i0 : 0 ≤ i) (i1 : i < V 0 0) (hk : V 1 i ≤ 3) : Sem M_X9_referenceMark [vR 373, vI i] (TT e q n L) h 0 0 (fun v t' h' => t' = TT e q n L ∧ AMp h T v (mkR V i) h' (mkRb V i)) := by
  have w2 := hV.2.1
  have wi := hV.2.2.2.2.2.2.2.2 i i0 i1
  have r1 := mA1 ev i0 i1
  have r3 := mA3 ev i0 i1
  unfold AMp mkR mkRb
  refine sem_intro (by decide) rfl (Nat.le_of_ble_eq_true rfl) rfl ?_
  refine aw_aload_n dX9_referenceMark_0 rfl ?_
  refine aw_iload_n dX9_referenceMark_1 rfl ?_
  refine aw_v1i dX9_referenceMark_2 vl_RX9_248 (by first | rfl | assumption) (Nat.le_of_ble_eq_true rfl) (Nat.le_of_ble_eq_true rfl) (Nat.le_of_ble_eq_true rfl) (Nat.le_refl _) (Nat.le_refl _) (c_X9_kindIn (by omega) (by omega)) ?_
  rw [r1]
  refine aw_istore_n (ls' := [_, _, _, _]) dX9_referenceMark_5 (by decide) rfl ?_
  refine aw_iload_n dX9_referenceMark_6 rfl ?_
  refine aw_iconst dX9_referenceMark_7 (by decide) (by decide) ?_
  refine aw_icmp_eq 27 dX9_referenceMark_8 rfl (fun c8 => ?_) (fun c8 => ?_)
  · refine aw_aload_n dX9_referenceMark_27 rfl ?_
    refine aw_bipush dX9_referenceMark_28 (by decide) (by decide) ?_
    refine aw_v1q dX9_referenceMark_30 vl_RX9_254 (by first | rfl | assumption) (Nat.le_of_ble_eq_true rfl) (Nat.le_of_ble_eq_true rfl) (Nat.le_of_ble_eq_true rfl) (Nat.le_refl _) (Nat.le_refl _) (c_X9_traces (by assumption)) ?_
    intro v t' h2 hq
    obtain ⟨rfl, rfl, f3, f4⟩ := hq
    refine aw_aload_n dX9_referenceMark_33 rfl ?_
    refine aw_bipush dX9_referenceMark_34 (by decide) (by decide) ?_
    refine aw_v1q dX9_referenceMark_36 vl_RX9_254 (by first | rfl | assumption) (Nat.le_of_ble_eq_true rfl) (Nat.le_of_ble_eq_true rfl) (Nat.le_of_ble_eq_true rfl) (Nat.le_refl _) (Nat.le_refl _) (c_X9_traces (by assumption)) ?_
    intro v t' h3 hq
    obtain ⟨rfl, rfl, f5, f6⟩ := hq
    refine aw_iload_n dX9_referenceMark_39 rfl ?_
    refine aw_aload_n dX9_referenceMark_40 rfl ?_
    refine aw_getR1 dX9_referenceMark_41 fx_RX9_25 (by first | rfl | assumption) (by first | rfl | assumption) ?_
    refine aw_iconst dX9_referenceMark_44 (by decide) (by decide) ?_
    refine aw_iconst dX9_referenceMark_45 (by decide) (by decide) ?_
    refine aw_iload_n dX9_referenceMark_46 rfl ?_
    refine aw_imul dX9_referenceMark_47 (by omega) (by omega) ?_
    refine aw_iadd dX9_referenceMark_48 (by omega) (by omega) ?_
    refine aw_iconst dX9_referenceMark_49 (by decide) (by decide) ?_
    refine aw_iadd dX9_referenceMark_50 (by omega) (by omega) ?_
    refine aw_iaload dX9_referenceMark_51 (by first | rfl | assumption) (by omega) (by omega) ?_
    have e3 : h3 379 (5 + 4 * i + 2) = V 3 i := by first | (rw [f6.1 379 (by decide) (by decide), f4.1 379 (by decide) (by decide), f2.1 379 (by decide) (by decide)]; exact r3) | (rw [f6.1 379 (by decide) (by decide), f4.1 379 (by decide) (by decide)]; exact r3)
    rw [e3]
    refine aw_iadd dX9_referenceMark_52 (by omega) (by omega) ?_
    refine aw_istore_n (ls' := [_, _, _, _]) dX9_referenceMark_53 (by decide) rfl ?_
    refine aw_iload_n dX9_referenceMark_54 rfl ?_
    refine aw_iconst dX9_referenceMark_55 (by decide) (by decide) ?_
    refine aw_icmp_ne 65 dX9_referenceMark_56 rfl (fun c56 => ?_) (fun c56 => ?_)
    · refine aw_iload_n dX9_referenceMark_65 rfl ?_
      refine aw_iconst dX9_referenceMark_66 (by decide) (by decide) ?_
      refine aw_icmp_ne 78 dX9_referenceMark_67 rfl (fun c67 => ?_) (fun c67 => ?_)
      · refine aw_iload_n dX9_referenceMark_78 rfl ?_
        refine aw_ireturn dX9_referenceMark_79 rfl (Nat.le_refl _) (Nat.le_refl _) ?_
        first | (exfalso; omega) | (refine ⟨rfl, ?_⟩; first | (rw [if_pos (by omega), if_pos (by omega)]; exact ⟨rfl, f5, (f2.tr f4).tr f6⟩) | (rw [if_neg (by omega), if_pos (by omega), if_neg (by omega), if_pos (by omega)]; exact ⟨am_ri (by omega), f5, (f2.tr f4).tr f6⟩) | (rw [if_neg (by omega), if_neg (by omega), if_neg (by omega), if_neg (by omega)]; exact ⟨rfl, f5, f4.tr f6⟩))
      · refine aw_iload_n dX9_referenceMark_70 rfl ?_
        refine aw_sipush dX9_referenceMark_71 (by decide) (by decide) ?_
        refine aw_isub dX9_referenceMark_74 (by omega) (by omega) ?_
        refine aw_goto 79 dX9_referenceMark_75 rfl ?_
        refine aw_ireturn dX9_referenceMark_79 rfl (Nat.le_refl _) (Nat.le_refl _) ?_
        first | (exfalso; omega) | (refine ⟨rfl, ?_⟩; first | (rw [if_pos (by omega), if_pos (by omega)]; exact ⟨rfl, f5, (f2.tr f4).tr f6⟩) | (rw [if_neg (by omega), if_pos (by omega), if_neg (by omega), if_pos (by omega)]; exact ⟨am_ri (by omega), f5, (f2.tr f4).tr f6⟩) | (rw [if_neg (by omega), if_neg (by omega), if_neg (by omega), if_neg (by omega)]; exact ⟨rfl, f5, f4.tr f6⟩))
    · refine aw_iconst dX9_referenceMark_59 (by decide) (by decide) ?_
      refine aw_iload_n dX9_referenceMark_60 rfl ?_
      refine aw_imul dX9_referenceMark_61 (by omega) (by omega) ?_
      refine aw_goto 79 dX9_referenceMark_62 rfl ?_
      refine aw_ireturn dX9_referenceMark_79 rfl (Nat.le_refl _) (Nat.le_refl _) ?_
      first | (exfalso; omega) | (refine ⟨rfl, ?_⟩; first | (rw [if_pos (by omega), if_pos (by omega)]; exact ⟨rfl, f5, (f2.tr f4).tr f6⟩) | (rw [if_neg (by omega), if_pos (by omega), if_neg (by omega), if_pos (by omega)]; exact ⟨am_ri (by omega), f5, (f2.tr f4).tr f6⟩) | (rw [if_neg (by omega), if_neg (by omega), if_neg (by omega), if_neg (by omega)]; exact ⟨rfl, f5, f4.tr f6⟩))
  · refine aw_aload_n dX9_referenceMark_11 rfl ?_
    refine aw_iload_n dX9_referenceMark_12 rfl ?_
    refine aw_iconst dX9_referenceMark_13 (by decide) (by decide) ?_
    refine aw_icmp_ne 22 dX9_referenceMark_14 rfl (fun c14 => ?_) (fun c14 => ?_)
    · refine aw_bipush dX9_referenceMark_22 (by decide) (by decide) ?_
      refine aw_v1q dX9_referenceMark_24 vl_RX9_254 (by first | rfl | assumption) (Nat.le_of_ble_eq_true rfl) (Nat.le_of_ble_eq_true rfl) (Nat.le_of_ble_eq_true rfl) (Nat.le_refl _) (Nat.le_refl _) (c_X9_traces (by assumption)) ?_
      intro v t' h1 hq
      obtain ⟨rfl, rfl, f1, f2⟩ := hq
      refine aw_aload_n dX9_referenceMark_27 rfl ?_
      refine aw_bipush dX9_referenceMark_28 (by decide) (by decide) ?_
      refine aw_v1q dX9_referenceMark_30 vl_RX9_254 (by first | rfl | assumption) (Nat.le_of_ble_eq_true rfl) (Nat.le_of_ble_eq_true rfl) (Nat.le_of_ble_eq_true rfl) (Nat.le_refl _) (Nat.le_refl _) (c_X9_traces (by assumption)) ?_
      intro v t' h2 hq
      obtain ⟨rfl, rfl, f3, f4⟩ := hq
      refine aw_aload_n dX9_referenceMark_33 rfl ?_
      refine aw_bipush dX9_referenceMark_34 (by decide) (by decide) ?_
      refine aw_v1q dX9_referenceMark_36 vl_RX9_254 (by first | rfl | assumption) (Nat.le_of_ble_eq_true rfl) (Nat.le_of_ble_eq_true rfl) (Nat.le_of_ble_eq_true rfl) (Nat.le_refl _) (Nat.le_refl _) (c_X9_traces (by assumption)) ?_
      intro v t' h3 hq
      obtain ⟨rfl, rfl, f5, f6⟩ := hq
      refine aw_iload_n dX9_referenceMark_39 rfl ?_
      refine aw_aload_n dX9_referenceMark_40 rfl ?_
      refine aw_getR1 dX9_referenceMark_41 fx_RX9_25 (by first | rfl | assumption) (by first | rfl | assumption) ?_
      refine aw_iconst dX9_referenceMark_44 (by decide) (by decide) ?_
      refine aw_iconst dX9_referenceMark_45 (by decide) (by decide) ?_
      refine aw_iload_n dX9_referenceMark_46 rfl ?_
      refine aw_imul dX9_referenceMark_47 (by omega) (by omega) ?_
      refine aw_iadd dX9_referenceMark_48 (by omega) (by omega) ?_
      refine aw_iconst dX9_referenceMark_49 (by decide) (by decide) ?_
      refine aw_iadd dX9_referenceMark_50 (by omega) (by omega) ?_
      refine aw_iaload dX9_referenceMark_51 (by first | rfl | assumption) (by omega) (by omega) ?_
      have e3 : h3 379 (5 + 4 * i + 2) = V 3 i := by first | (rw [f6.1 379 (by decide) (by decide), f4.1 379 (by decide) (by decide), f2.1 379 (by decide) (by decide)]; exact r3) | (rw [f6.1 379 (by decide) (by decide), f4.1 379 (by decide) (by decide)]; exact r3)
      rw [e3]
      refine aw_iadd dX9_referenceMark_52 (by omega) (by omega) ?_
      refine aw_istore_n (ls' := [_, _, _, _]) dX9_referenceMark_53 (by decide) rfl ?_
      refine aw_iload_n dX9_referenceMark_54 rfl ?_
      refine aw_iconst dX9_referenceMark_55 (by decide) (by decide) ?_
      refine aw_icmp_ne 65 dX9_referenceMark_56 rfl (fun c56 => ?_) (fun c56 => ?_)
      · refine aw_iload_n dX9_referenceMark_65 rfl ?_
        refine aw_iconst dX9_referenceMark_66 (by decide) (by decide) ?_
        refine aw_icmp_ne 78 dX9_referenceMark_67 rfl (fun c67 => ?_) (fun c67 => ?_)
        · refine aw_iload_n dX9_referenceMark_78 rfl ?_
          refine aw_ireturn dX9_referenceMark_79 rfl (Nat.le_refl _) (Nat.le_refl _) ?_
          first | (exfalso; omega) | (refine ⟨rfl, ?_⟩; first | (rw [if_pos (by omega), if_pos (by omega)]; exact ⟨rfl, f5, (f2.tr f4).tr f6⟩) | (rw [if_neg (by omega), if_pos (by omega), if_neg (by omega), if_pos (by omega)]; exact ⟨am_ri (by omega), f5, (f2.tr f4).tr f6⟩) | (rw [if_neg (by omega), if_neg (by omega), if_neg (by omega), if_neg (by omega)]; exact ⟨rfl, f5, f4.tr f6⟩))
        · refine aw_iload_n dX9_referenceMark_70 rfl ?_
          refine aw_sipush dX9_referenceMark_71 (by decide) (by decide) ?_
          refine aw_isub dX9_referenceMark_74 (by omega) (by omega) ?_
          refine aw_goto 79 dX9_referenceMark_75 rfl ?_
          refine aw_ireturn dX9_referenceMark_79 rfl (Nat.le_refl _) (Nat.le_refl _) ?_
          first | (exfalso; omega) | (refine ⟨rfl, ?_⟩; first | (rw [if_pos (by omega), if_pos (by omega)]; exact ⟨rfl, f5, (f2.tr f4).tr f6⟩) | (rw [if_neg (by omega), if_pos (by omega), if_neg (by omega), if_pos (by omega)]; exact ⟨am_ri (by omega), f5, (f2.tr f4).tr f6⟩) | (rw [if_neg (by omega), if_neg (by omega), if_neg (by omega), if_neg (by omega)]; exact ⟨rfl, f5, f4.tr f6⟩))
      · refine aw_iconst dX9_referenceMark_59 (by decide) (by decide) ?_
        refine aw_iload_n dX9_referenceMark_60 rfl ?_
        refine aw_imul dX9_referenceMark_61 (by omega) (by omega) ?_
        refine aw_goto 79 dX9_referenceMark_62 rfl ?_
        refine aw_ireturn dX9_referenceMark_79 rfl (Nat.le_refl _) (Nat.le_refl _) ?_
        first | (exfalso; omega) | (refine ⟨rfl, ?_⟩; first | (rw [if_pos (by omega), if_pos (by omega)]; exact ⟨rfl, f5, (f2.tr f4).tr f6⟩) | (rw [if_neg (by omega), if_pos (by omega), if_neg (by omega), if_pos (by omega)]; exact ⟨am_ri (by omega), f5, (f2.tr f4).tr f6⟩) | (rw [if_neg (by omega), if_neg (by omega), if_neg (by omega), if_neg (by omega)]; exact ⟨rfl, f5, f4.tr f6⟩))
    · refine aw_bipush dX9_referenceMark_17 (by decide) (by decide) ?_
      refine aw_goto 24 dX9_referenceMark_19 rfl ?_
      refine aw_v1q dX9_referenceMark_24 vl_RX9_254 (by first | rfl | assumption) (Nat.le_of_ble_eq_true rfl) (Nat.le_of_ble_eq_true rfl) (Nat.le_of_ble_eq_true rfl) (Nat.le_refl _) (Nat.le_refl _) (c_X9_traces (by assumption)) ?_
      intro v t' h1 hq
      obtain ⟨rfl, rfl, f1, f2⟩ := hq
      refine aw_aload_n dX9_referenceMark_27 rfl ?_
      refine aw_bipush dX9_referenceMark_28 (by decide) (by decide) ?_
      refine aw_v1q dX9_referenceMark_30 vl_RX9_254 (by first | rfl | assumption) (Nat.le_of_ble_eq_true rfl) (Nat.le_of_ble_eq_true rfl) (Nat.le_of_ble_eq_true rfl) (Nat.le_refl _) (Nat.le_refl _) (c_X9_traces (by assumption)) ?_
      intro v t' h2 hq
      obtain ⟨rfl, rfl, f3, f4⟩ := hq
      refine aw_aload_n dX9_referenceMark_33 rfl ?_
      refine aw_bipush dX9_referenceMark_34 (by decide) (by decide) ?_
      refine aw_v1q dX9_referenceMark_36 vl_RX9_254 (by first | rfl | assumption) (Nat.le_of_ble_eq_true rfl) (Nat.le_of_ble_eq_true rfl) (Nat.le_of_ble_eq_true rfl) (Nat.le_refl _) (Nat.le_refl _) (c_X9_traces (by assumption)) ?_
      intro v t' h3 hq
      obtain ⟨rfl, rfl, f5, f6⟩ := hq
      refine aw_iload_n dX9_referenceMark_39 rfl ?_
      refine aw_aload_n dX9_referenceMark_40 rfl ?_
      refine aw_getR1 dX9_referenceMark_41 fx_RX9_25 (by first | rfl | assumption) (by first | rfl | assumption) ?_
      refine aw_iconst dX9_referenceMark_44 (by decide) (by decide) ?_
      refine aw_iconst dX9_referenceMark_45 (by decide) (by decide) ?_
      refine aw_iload_n dX9_referenceMark_46 rfl ?_
      refine aw_imul dX9_referenceMark_47 (by omega) (by omega) ?_
      refine aw_iadd dX9_referenceMark_48 (by omega) (by omega) ?_
      refine aw_iconst dX9_referenceMark_49 (by decide) (by decide) ?_
      refine aw_iadd dX9_referenceMark_50 (by omega) (by omega) ?_
      refine aw_iaload dX9_referenceMark_51 (by first | rfl | assumption) (by omega) (by omega) ?_
      have e3 : h3 379 (5 + 4 * i + 2) = V 3 i := by first | (rw [f6.1 379 (by decide) (by decide), f4.1 379 (by decide) (by decide), f2.1 379 (by decide) (by decide)]; exact r3) | (rw [f6.1 379 (by decide) (by decide), f4.1 379 (by decide) (by decide)]; exact r3)
      rw [e3]
      refine aw_iadd dX9_referenceMark_52 (by omega) (by omega) ?_
      refine aw_istore_n (ls' := [_, _, _, _]) dX9_referenceMark_53 (by decide) rfl ?_
      refine aw_iload_n dX9_referenceMark_54 rfl ?_
      refine aw_iconst dX9_referenceMark_55 (by decide) (by decide) ?_
      refine aw_icmp_ne 65 dX9_referenceMark_56 rfl (fun c56 => ?_) (fun c56 => ?_)
      · refine aw_iload_n dX9_referenceMark_65 rfl ?_
        refine aw_iconst dX9_referenceMark_66 (by decide) (by decide) ?_
        refine aw_icmp_ne 78 dX9_referenceMark_67 rfl (fun c67 => ?_) (fun c67 => ?_)
        · refine aw_iload_n dX9_referenceMark_78 rfl ?_
          refine aw_ireturn dX9_referenceMark_79 rfl (Nat.le_refl _) (Nat.le_refl _) ?_
          first | (exfalso; omega) | (refine ⟨rfl, ?_⟩; first | (rw [if_pos (by omega), if_pos (by omega)]; exact ⟨rfl, f5, (f2.tr f4).tr f6⟩) | (rw [if_neg (by omega), if_pos (by omega), if_neg (by omega), if_pos (by omega)]; exact ⟨am_ri (by omega), f5, (f2.tr f4).tr f6⟩) | (rw [if_neg (by omega), if_neg (by omega), if_neg (by omega), if_neg (by omega)]; exact ⟨rfl, f5, f4.tr f6⟩))
        · refine aw_iload_n dX9_referenceMark_70 rfl ?_
          refine aw_sipush dX9_referenceMark_71 (by decide) (by decide) ?_
          refine aw_isub dX9_referenceMark_74 (by omega) (by omega) ?_
          refine aw_goto 79 dX9_referenceMark_75 rfl ?_
          refine aw_ireturn dX9_referenceMark_79 rfl (Nat.le_refl _) (Nat.le_refl _) ?_
          first | (exfalso; omega) | (refine ⟨rfl, ?_⟩; first | (rw [if_pos (by omega), if_pos (by omega)]; exact ⟨rfl, f5, (f2.tr f4).tr f6⟩) | (rw [if_neg (by omega), if_pos (by omega), if_neg (by omega), if_pos (by omega)]; exact ⟨am_ri (by omega), f5, (f2.tr f4).tr f6⟩) | (rw [if_neg (by omega), if_neg (by omega), if_neg (by omega), if_neg (by omega)]; exact ⟨rfl, f5, f4.tr f6⟩))
      · refine aw_iconst dX9_referenceMark_59 (by decide) (by decide) ?_
        refine aw_iload_n dX9_referenceMark_60 rfl ?_
        refine aw_imul dX9_referenceMark_61 (by omega) (by omega) ?_
        refine aw_goto 79 dX9_referenceMark_62 rfl ?_
        refine aw_ireturn dX9_referenceMark_79 rfl (Nat.le_refl _) (Nat.le_refl _) ?_
        first | (exfalso; omega) | (refine ⟨rfl, ?_⟩; first | (rw [if_pos (by omega), if_pos (by omega)]; exact ⟨rfl, f5, (f2.tr f4).tr f6⟩) | (rw [if_neg (by omega), if_pos (by omega), if_neg (by omega), if_pos (by omega)]; exact ⟨am_ri (by omega), f5, (f2.tr f4).tr f6⟩) | (rw [if_neg (by omega), if_neg (by omega), if_neg (by omega), if_neg (by omega)]; exact ⟨rfl, f5, f4.tr f6⟩))
theorem c_X9_wordSize {T : TR} {i : Int} (hC : CMt h T) (ev : mV h 379 0 = V) (hV : WFv V) (i0 : 0 ≤ i) (i1 : i < V 0 0) : Sem M_X9_wordSize [vR 373, vI i] (TT e q n L) h 0 0 (fun v t' h' => t' = TT e q n L ∧ AMp h T v (szW V i) h' (szWb V i)) := by
  have w2 := hV.2.1
  have wi := hV.2.2.2.2.2.2.2.2 i i0 i1
  have r1 := mA1 ev i0 i1
  have wb := wd_bd hV i0 i1
  unfold AMp szW szWb
  refine sem_intro (by decide) rfl (Nat.le_of_ble_eq_true rfl) rfl ?_
  refine aw_aload_n dX9_wordSize_0 rfl ?_
  refine aw_iload_n dX9_wordSize_1 rfl ?_
  refine aw_v1i dX9_wordSize_2 vl_RX9_248 (by first | rfl | assumption) (Nat.le_of_ble_eq_true rfl) (Nat.le_of_ble_eq_true rfl) (Nat.le_of_ble_eq_true rfl) (Nat.le_refl _) (Nat.le_refl _) (c_X9_kindIn (by omega) (by omega)) ?_
  rw [r1]
  refine aw_iconst dX9_wordSize_5 (by decide) (by decide) ?_
  refine aw_icmp_ne 13 dX9_wordSize_6 rfl (fun c6 => ?_) (fun c6 => ?_)
  · refine aw_iconst dX9_wordSize_13 (by decide) (by decide) ?_
    refine aw_istore_n (ls' := [_, _, _, _]) dX9_wordSize_14 (by decide) rfl ?_
    refine aw_iload_n dX9_wordSize_15 rfl ?_
    refine aw_if_eq 25 dX9_wordSize_16 rfl (fun c16 => ?_) (fun c16 => ?_)
    · refine aw_aload_n dX9_wordSize_25 rfl ?_
      refine aw_bipush dX9_wordSize_26 (by decide) (by decide) ?_
      refine aw_v1q dX9_wordSize_28 vl_RX9_254 (by first | rfl | assumption) (Nat.le_of_ble_eq_true rfl) (Nat.le_of_ble_eq_true rfl) (Nat.le_of_ble_eq_true rfl) (Nat.le_refl _) (Nat.le_refl _) (c_X9_traces (by assumption)) ?_
      intro v t' h2 hq
      obtain ⟨rfl, rfl, f3, f4⟩ := hq
      refine aw_aload_n dX9_wordSize_31 rfl ?_
      refine aw_bipush dX9_wordSize_32 (by decide) (by decide) ?_
      refine aw_v1q dX9_wordSize_34 vl_RX9_254 (by first | rfl | assumption) (Nat.le_of_ble_eq_true rfl) (Nat.le_of_ble_eq_true rfl) (Nat.le_of_ble_eq_true rfl) (Nat.le_refl _) (Nat.le_refl _) (c_X9_traces (by assumption)) ?_
      intro v t' h3 hq
      obtain ⟨rfl, rfl, f5, f6⟩ := hq
      have ev3 : mV h3 379 0 = V := by first | (rw [mV_fr (f6.1 379 (by decide) (by decide)), mV_fr (f4.1 379 (by decide) (by decide)), mV_fr (f2.1 379 (by decide) (by decide))]; exact ev) | (rw [mV_fr (f6.1 379 (by decide) (by decide)), mV_fr (f4.1 379 (by decide) (by decide))]; exact ev)
      refine aw_aload_n dX9_wordSize_37 rfl ?_
      refine aw_getR1 dX9_wordSize_38 fx_RX9_25 (by first | rfl | assumption) (by first | rfl | assumption) ?_
      refine aw_iload_n dX9_wordSize_41 rfl ?_
      refine aw_s2i dX9_wordSize_42 sl_RX9_158 (Nat.le_of_ble_eq_true rfl) (Nat.le_of_ble_eq_true rfl) (Nat.le_of_ble_eq_true rfl) (Nat.le_refl _) (Nat.le_refl _) (c_X9_wide (a := 379) rfl ev3 hV i0 i1) ?_
      refine aw_bipush dX9_wordSize_45 (by decide) (by decide) ?_
      refine aw_isub dX9_wordSize_47 (by omega) (by omega) ?_
      refine aw_istore_n (ls' := [_, _, _, _]) dX9_wordSize_48 (by decide) rfl ?_
      refine aw_iload_n dX9_wordSize_49 rfl ?_
      refine aw_if_eq 59 dX9_wordSize_50 rfl (fun c50 => ?_) (fun c50 => ?_)
      · refine aw_iload_n dX9_wordSize_59 rfl ?_
        refine aw_ireturn dX9_wordSize_60 rfl (Nat.le_refl _) (Nat.le_refl _) ?_
        first | (exfalso; omega) | (refine ⟨rfl, ?_⟩; first | (rw [if_pos (by omega), if_pos (by omega)]; exact ⟨am_ri (by omega), f5, (f2.tr f4).tr f6⟩) | (rw [if_neg (by omega), if_neg (by omega)]; exact ⟨rfl, f5, f4.tr f6⟩))
      · refine aw_iconst dX9_wordSize_53 (by decide) (by decide) ?_
        refine aw_iload_n dX9_wordSize_54 rfl ?_
        refine aw_imul dX9_wordSize_55 (by omega) (by omega) ?_
        refine aw_goto 60 dX9_wordSize_56 rfl ?_
        refine aw_ireturn dX9_wordSize_60 rfl (Nat.le_refl _) (Nat.le_refl _) ?_
        first | (exfalso; omega) | (refine ⟨rfl, ?_⟩; first | (rw [if_pos (by omega), if_pos (by omega)]; exact ⟨am_ri (by omega), f5, (f2.tr f4).tr f6⟩) | (rw [if_neg (by omega), if_neg (by omega)]; exact ⟨rfl, f5, f4.tr f6⟩))
    · refine aw_aload_n dX9_wordSize_19 rfl ?_
      refine aw_bipush dX9_wordSize_20 (by decide) (by decide) ?_
      refine aw_v1q dX9_wordSize_22 vl_RX9_254 (by first | rfl | assumption) (Nat.le_of_ble_eq_true rfl) (Nat.le_of_ble_eq_true rfl) (Nat.le_of_ble_eq_true rfl) (Nat.le_refl _) (Nat.le_refl _) (c_X9_traces (by assumption)) ?_
      intro v t' h1 hq
      obtain ⟨rfl, rfl, f1, f2⟩ := hq
      refine aw_aload_n dX9_wordSize_25 rfl ?_
      refine aw_bipush dX9_wordSize_26 (by decide) (by decide) ?_
      refine aw_v1q dX9_wordSize_28 vl_RX9_254 (by first | rfl | assumption) (Nat.le_of_ble_eq_true rfl) (Nat.le_of_ble_eq_true rfl) (Nat.le_of_ble_eq_true rfl) (Nat.le_refl _) (Nat.le_refl _) (c_X9_traces (by assumption)) ?_
      intro v t' h2 hq
      obtain ⟨rfl, rfl, f3, f4⟩ := hq
      refine aw_aload_n dX9_wordSize_31 rfl ?_
      refine aw_bipush dX9_wordSize_32 (by decide) (by decide) ?_
      refine aw_v1q dX9_wordSize_34 vl_RX9_254 (by first | rfl | assumption) (Nat.le_of_ble_eq_true rfl) (Nat.le_of_ble_eq_true rfl) (Nat.le_of_ble_eq_true rfl) (Nat.le_refl _) (Nat.le_refl _) (c_X9_traces (by assumption)) ?_
      intro v t' h3 hq
      obtain ⟨rfl, rfl, f5, f6⟩ := hq
      have ev3 : mV h3 379 0 = V := by first | (rw [mV_fr (f6.1 379 (by decide) (by decide)), mV_fr (f4.1 379 (by decide) (by decide)), mV_fr (f2.1 379 (by decide) (by decide))]; exact ev) | (rw [mV_fr (f6.1 379 (by decide) (by decide)), mV_fr (f4.1 379 (by decide) (by decide))]; exact ev)
      refine aw_aload_n dX9_wordSize_37 rfl ?_
      refine aw_getR1 dX9_wordSize_38 fx_RX9_25 (by first | rfl | assumption) (by first | rfl | assumption) ?_
      refine aw_iload_n dX9_wordSize_41 rfl ?_
      refine aw_s2i dX9_wordSize_42 sl_RX9_158 (Nat.le_of_ble_eq_true rfl) (Nat.le_of_ble_eq_true rfl) (Nat.le_of_ble_eq_true rfl) (Nat.le_refl _) (Nat.le_refl _) (c_X9_wide (a := 379) rfl ev3 hV i0 i1) ?_
      refine aw_bipush dX9_wordSize_45 (by decide) (by decide) ?_
      refine aw_isub dX9_wordSize_47 (by omega) (by omega) ?_
      refine aw_istore_n (ls' := [_, _, _, _]) dX9_wordSize_48 (by decide) rfl ?_
      refine aw_iload_n dX9_wordSize_49 rfl ?_
      refine aw_if_eq 59 dX9_wordSize_50 rfl (fun c50 => ?_) (fun c50 => ?_)
      · refine aw_iload_n dX9_wordSize_59 rfl ?_
        refine aw_ireturn dX9_wordSize_60 rfl (Nat.le_refl _) (Nat.le_refl _) ?_
        first | (exfalso; omega) | (refine ⟨rfl, ?_⟩; first | (rw [if_pos (by omega), if_pos (by omega)]; exact ⟨am_ri (by omega), f5, (f2.tr f4).tr f6⟩) | (rw [if_neg (by omega), if_neg (by omega)]; exact ⟨rfl, f5, f4.tr f6⟩))
      · refine aw_iconst dX9_wordSize_53 (by decide) (by decide) ?_
        refine aw_iload_n dX9_wordSize_54 rfl ?_
        refine aw_imul dX9_wordSize_55 (by omega) (by omega) ?_
        refine aw_goto 60 dX9_wordSize_56 rfl ?_
        refine aw_ireturn dX9_wordSize_60 rfl (Nat.le_refl _) (Nat.le_refl _) ?_
        first | (exfalso; omega) | (refine ⟨rfl, ?_⟩; first | (rw [if_pos (by omega), if_pos (by omega)]; exact ⟨am_ri (by omega), f5, (f2.tr f4).tr f6⟩) | (rw [if_neg (by omega), if_neg (by omega)]; exact ⟨rfl, f5, f4.tr f6⟩))
  · refine aw_iconst dX9_wordSize_9 (by decide) (by decide) ?_
    refine aw_goto 14 dX9_wordSize_10 rfl ?_
    refine aw_istore_n (ls' := [_, _, _, _]) dX9_wordSize_14 (by decide) rfl ?_
    refine aw_iload_n dX9_wordSize_15 rfl ?_
    refine aw_if_eq 25 dX9_wordSize_16 rfl (fun c16 => ?_) (fun c16 => ?_)
    · refine aw_aload_n dX9_wordSize_25 rfl ?_
      refine aw_bipush dX9_wordSize_26 (by decide) (by decide) ?_
      refine aw_v1q dX9_wordSize_28 vl_RX9_254 (by first | rfl | assumption) (Nat.le_of_ble_eq_true rfl) (Nat.le_of_ble_eq_true rfl) (Nat.le_of_ble_eq_true rfl) (Nat.le_refl _) (Nat.le_refl _) (c_X9_traces (by assumption)) ?_
      intro v t' h2 hq
      obtain ⟨rfl, rfl, f3, f4⟩ := hq
      refine aw_aload_n dX9_wordSize_31 rfl ?_
      refine aw_bipush dX9_wordSize_32 (by decide) (by decide) ?_
      refine aw_v1q dX9_wordSize_34 vl_RX9_254 (by first | rfl | assumption) (Nat.le_of_ble_eq_true rfl) (Nat.le_of_ble_eq_true rfl) (Nat.le_of_ble_eq_true rfl) (Nat.le_refl _) (Nat.le_refl _) (c_X9_traces (by assumption)) ?_
      intro v t' h3 hq
      obtain ⟨rfl, rfl, f5, f6⟩ := hq
      have ev3 : mV h3 379 0 = V := by first | (rw [mV_fr (f6.1 379 (by decide) (by decide)), mV_fr (f4.1 379 (by decide) (by decide)), mV_fr (f2.1 379 (by decide) (by decide))]; exact ev) | (rw [mV_fr (f6.1 379 (by decide) (by decide)), mV_fr (f4.1 379 (by decide) (by decide))]; exact ev)
      refine aw_aload_n dX9_wordSize_37 rfl ?_
      refine aw_getR1 dX9_wordSize_38 fx_RX9_25 (by first | rfl | assumption) (by first | rfl | assumption) ?_
      refine aw_iload_n dX9_wordSize_41 rfl ?_
      refine aw_s2i dX9_wordSize_42 sl_RX9_158 (Nat.le_of_ble_eq_true rfl) (Nat.le_of_ble_eq_true rfl) (Nat.le_of_ble_eq_true rfl) (Nat.le_refl _) (Nat.le_refl _) (c_X9_wide (a := 379) rfl ev3 hV i0 i1) ?_
      refine aw_bipush dX9_wordSize_45 (by decide) (by decide) ?_
      refine aw_isub dX9_wordSize_47 (by omega) (by omega) ?_
      refine aw_istore_n (ls' := [_, _, _, _]) dX9_wordSize_48 (by decide) rfl ?_
      refine aw_iload_n dX9_wordSize_49 rfl ?_
      refine aw_if_eq 59 dX9_wordSize_50 rfl (fun c50 => ?_) (fun c50 => ?_)
      · refine aw_iload_n dX9_wordSize_59 rfl ?_
        refine aw_ireturn dX9_wordSize_60 rfl (Nat.le_refl _) (Nat.le_refl _) ?_
        first | (exfalso; omega) | (refine ⟨rfl, ?_⟩; first | (rw [if_pos (by omega), if_pos (by omega)]; exact ⟨am_ri (by omega), f5, (f2.tr f4).tr f6⟩) | (rw [if_neg (by omega), if_neg (by omega)]; exact ⟨rfl, f5, f4.tr f6⟩))
      · refine aw_iconst dX9_wordSize_53 (by decide) (by decide) ?_
        refine aw_iload_n dX9_wordSize_54 rfl ?_
        refine aw_imul dX9_wordSize_55 (by omega) (by omega) ?_
        refine aw_goto 60 dX9_wordSize_56 rfl ?_
        refine aw_ireturn dX9_wordSize_60 rfl (Nat.le_refl _) (Nat.le_refl _) ?_
        first | (exfalso; omega) | (refine ⟨rfl, ?_⟩; first | (rw [if_pos (by omega), if_pos (by omega)]; exact ⟨am_ri (by omega), f5, (f2.tr f4).tr f6⟩) | (rw [if_neg (by omega), if_neg (by omega)]; exact ⟨rfl, f5, f4.tr f6⟩))
    · refine aw_aload_n dX9_wordSize_19 rfl ?_
      refine aw_bipush dX9_wordSize_20 (by decide) (by decide) ?_
      refine aw_v1q dX9_wordSize_22 vl_RX9_254 (by first | rfl | assumption) (Nat.le_of_ble_eq_true rfl) (Nat.le_of_ble_eq_true rfl) (Nat.le_of_ble_eq_true rfl) (Nat.le_refl _) (Nat.le_refl _) (c_X9_traces (by assumption)) ?_
      intro v t' h1 hq
      obtain ⟨rfl, rfl, f1, f2⟩ := hq
      refine aw_aload_n dX9_wordSize_25 rfl ?_
      refine aw_bipush dX9_wordSize_26 (by decide) (by decide) ?_
      refine aw_v1q dX9_wordSize_28 vl_RX9_254 (by first | rfl | assumption) (Nat.le_of_ble_eq_true rfl) (Nat.le_of_ble_eq_true rfl) (Nat.le_of_ble_eq_true rfl) (Nat.le_refl _) (Nat.le_refl _) (c_X9_traces (by assumption)) ?_
      intro v t' h2 hq
      obtain ⟨rfl, rfl, f3, f4⟩ := hq
      refine aw_aload_n dX9_wordSize_31 rfl ?_
      refine aw_bipush dX9_wordSize_32 (by decide) (by decide) ?_
      refine aw_v1q dX9_wordSize_34 vl_RX9_254 (by first | rfl | assumption) (Nat.le_of_ble_eq_true rfl) (Nat.le_of_ble_eq_true rfl) (Nat.le_of_ble_eq_true rfl) (Nat.le_refl _) (Nat.le_refl _) (c_X9_traces (by assumption)) ?_
      intro v t' h3 hq
      obtain ⟨rfl, rfl, f5, f6⟩ := hq
      have ev3 : mV h3 379 0 = V := by first | (rw [mV_fr (f6.1 379 (by decide) (by decide)), mV_fr (f4.1 379 (by decide) (by decide)), mV_fr (f2.1 379 (by decide) (by decide))]; exact ev) | (rw [mV_fr (f6.1 379 (by decide) (by decide)), mV_fr (f4.1 379 (by decide) (by decide))]; exact ev)
      refine aw_aload_n dX9_wordSize_37 rfl ?_
      refine aw_getR1 dX9_wordSize_38 fx_RX9_25 (by first | rfl | assumption) (by first | rfl | assumption) ?_
      refine aw_iload_n dX9_wordSize_41 rfl ?_
      refine aw_s2i dX9_wordSize_42 sl_RX9_158 (Nat.le_of_ble_eq_true rfl) (Nat.le_of_ble_eq_true rfl) (Nat.le_of_ble_eq_true rfl) (Nat.le_refl _) (Nat.le_refl _) (c_X9_wide (a := 379) rfl ev3 hV i0 i1) ?_
      refine aw_bipush dX9_wordSize_45 (by decide) (by decide) ?_
      refine aw_isub dX9_wordSize_47 (by omega) (by omega) ?_
      refine aw_istore_n (ls' := [_, _, _, _]) dX9_wordSize_48 (by decide) rfl ?_
      refine aw_iload_n dX9_wordSize_49 rfl ?_
      refine aw_if_eq 59 dX9_wordSize_50 rfl (fun c50 => ?_) (fun c50 => ?_)
      · refine aw_iload_n dX9_wordSize_59 rfl ?_
        refine aw_ireturn dX9_wordSize_60 rfl (Nat.le_refl _) (Nat.le_refl _) ?_
        first | (exfalso; omega) | (refine ⟨rfl, ?_⟩; first | (rw [if_pos (by omega), if_pos (by omega)]; exact ⟨am_ri (by omega), f5, (f2.tr f4).tr f6⟩) | (rw [if_neg (by omega), if_neg (by omega)]; exact ⟨rfl, f5, f4.tr f6⟩))
      · refine aw_iconst dX9_wordSize_53 (by decide) (by decide) ?_
        refine aw_iload_n dX9_wordSize_54 rfl ?_
        refine aw_imul dX9_wordSize_55 (by omega) (by omega) ?_
        refine aw_goto 60 dX9_wordSize_56 rfl ?_
        refine aw_ireturn dX9_wordSize_60 rfl (Nat.le_refl _) (Nat.le_refl _) ?_
        first | (exfalso; omega) | (refine ⟨rfl, ?_⟩; first | (rw [if_pos (by omega), if_pos (by omega)]; exact ⟨am_ri (by omega), f5, (f2.tr f4).tr f6⟩) | (rw [if_neg (by omega), if_neg (by omega)]; exact ⟨rfl, f5, f4.tr f6⟩))
theorem mkR_bd {i : Int} (hV : WFv V) (i0 : 0 ≤ i) (i1 : i < V 0 0) : -2000 ≤ mkR V i ∧ mkR V i ≤ 2000 := by
  have w2 := hV.2.1
  have wi := hV.2.2.2.2.2.2.2.2 i i0 i1
  unfold mkR
  split
  · omega
  · split <;> omega
theorem c_X9_referenceSize {T : TR} {i : Int} (hC : CMt h T) (ev : mV h 379 0 = V) (hV : WFv V) (i0 : 0 ≤ i) (i1 : i < V 0 0) (hk : V 1 i ≤ 3) : Sem M_X9_referenceSize [vR 373, vI i] (TT e q n L) h 0 0 (fun v t' h' => t' = TT e q n L ∧ AMp h T v (szR V i) h' (szRb V i)) := by
  have w2 := hV.2.1
  have wi := hV.2.2.2.2.2.2.2.2 i i0 i1
  have r1 := mA1 ev i0 i1
  have wb := wd_bd hV i0 i1
  have mb := mkR_bd hV i0 i1
  unfold AMp szR szRb
  refine sem_intro (by decide) rfl (Nat.le_of_ble_eq_true rfl) rfl ?_
  refine aw_aload_n dX9_referenceSize_0 rfl ?_
  refine aw_iload_n dX9_referenceSize_1 rfl ?_
  refine aw_v1i dX9_referenceSize_2 vl_RX9_248 (by first | rfl | assumption) (Nat.le_of_ble_eq_true rfl) (Nat.le_of_ble_eq_true rfl) (Nat.le_of_ble_eq_true rfl) (Nat.le_refl _) (Nat.le_refl _) (c_X9_kindIn (by omega) (by omega)) ?_
  rw [r1]
  refine aw_iconst dX9_referenceSize_5 (by decide) (by decide) ?_
  refine aw_icmp_ne 13 dX9_referenceSize_6 rfl (fun c6 => ?_) (fun c6 => ?_)
  · refine aw_iconst dX9_referenceSize_13 (by decide) (by decide) ?_
    refine aw_istore_n (ls' := [_, _, _, _]) dX9_referenceSize_14 (by decide) rfl ?_
    refine aw_iload_n dX9_referenceSize_15 rfl ?_
    refine aw_if_eq 25 dX9_referenceSize_16 rfl (fun c16 => ?_) (fun c16 => ?_)
    · refine aw_aload_n dX9_referenceSize_25 rfl ?_
      refine aw_bipush dX9_referenceSize_26 (by decide) (by decide) ?_
      refine aw_v1q dX9_referenceSize_28 vl_RX9_254 (by first | rfl | assumption) (Nat.le_of_ble_eq_true rfl) (Nat.le_of_ble_eq_true rfl) (Nat.le_of_ble_eq_true rfl) (Nat.le_refl _) (Nat.le_refl _) (c_X9_traces (by assumption)) ?_
      intro v t' h2 hq
      obtain ⟨rfl, rfl, f3, f4⟩ := hq
      refine aw_aload_n dX9_referenceSize_31 rfl ?_
      refine aw_bipush dX9_referenceSize_32 (by decide) (by decide) ?_
      refine aw_v1q dX9_referenceSize_34 vl_RX9_254 (by first | rfl | assumption) (Nat.le_of_ble_eq_true rfl) (Nat.le_of_ble_eq_true rfl) (Nat.le_of_ble_eq_true rfl) (Nat.le_refl _) (Nat.le_refl _) (c_X9_traces (by assumption)) ?_
      intro v t' h3 hq
      obtain ⟨rfl, rfl, f5, f6⟩ := hq
      have ev3 : mV h3 379 0 = V := by first | (rw [mV_fr (f6.1 379 (by decide) (by decide)), mV_fr (f4.1 379 (by decide) (by decide)), mV_fr (f2.1 379 (by decide) (by decide))]; exact ev) | (rw [mV_fr (f6.1 379 (by decide) (by decide)), mV_fr (f4.1 379 (by decide) (by decide))]; exact ev)
      refine aw_aload_n dX9_referenceSize_37 rfl ?_
      refine aw_getR1 dX9_referenceSize_38 fx_RX9_25 (by first | rfl | assumption) (by first | rfl | assumption) ?_
      refine aw_iload_n dX9_referenceSize_41 rfl ?_
      refine aw_s2i dX9_referenceSize_42 sl_RX9_158 (Nat.le_of_ble_eq_true rfl) (Nat.le_of_ble_eq_true rfl) (Nat.le_of_ble_eq_true rfl) (Nat.le_refl _) (Nat.le_refl _) (c_X9_wide (a := 379) rfl ev3 hV i0 i1) ?_
      refine aw_aload_n dX9_referenceSize_45 rfl ?_
      refine aw_iload_n dX9_referenceSize_46 rfl ?_
      refine aw_v1q dX9_referenceSize_47 vl_RX9_258 (by first | rfl | assumption) (Nat.le_of_ble_eq_true rfl) (Nat.le_of_ble_eq_true rfl) (Nat.le_of_ble_eq_true rfl) (Nat.le_refl _) (Nat.le_refl _) (c_X9_referenceMark f5 ev3 hV i0 i1 hk) ?_
      intro v t' h4 hq
      obtain ⟨rfl, rfl, f7, f8⟩ := hq
      refine aw_iadd dX9_referenceSize_50 (by omega) (by omega) ?_
      refine aw_istore_n (ls' := [_, _, _, _]) dX9_referenceSize_51 (by decide) rfl ?_
      refine aw_iload_n dX9_referenceSize_52 rfl ?_
      refine aw_if_eq 61 dX9_referenceSize_53 rfl (fun c53 => ?_) (fun c53 => ?_)
      · refine aw_iload_n dX9_referenceSize_61 rfl ?_
        refine aw_ireturn dX9_referenceSize_62 rfl (Nat.le_refl _) (Nat.le_refl _) ?_
        first | (exfalso; omega) | (refine ⟨rfl, ?_⟩; first | (rw [if_pos (by omega), if_pos (by omega)]; exact ⟨am_ri (by omega), by rw [trs_app]; exact f7, ((f2.tr f4).tr f6).tr f8⟩) | (rw [if_neg (by omega), if_neg (by omega)]; exact ⟨rfl, by rw [trs_app]; exact f7, (f4.tr f6).tr f8⟩))
      · refine aw_iload_n dX9_referenceSize_56 rfl ?_
        refine aw_ineg dX9_referenceSize_57 (by omega) (by omega) ?_
        refine aw_goto 62 dX9_referenceSize_58 rfl ?_
        refine aw_ireturn dX9_referenceSize_62 rfl (Nat.le_refl _) (Nat.le_refl _) ?_
        first | (exfalso; omega) | (refine ⟨rfl, ?_⟩; first | (rw [if_pos (by omega), if_pos (by omega)]; exact ⟨am_ri (by omega), by rw [trs_app]; exact f7, ((f2.tr f4).tr f6).tr f8⟩) | (rw [if_neg (by omega), if_neg (by omega)]; exact ⟨rfl, by rw [trs_app]; exact f7, (f4.tr f6).tr f8⟩))
    · refine aw_aload_n dX9_referenceSize_19 rfl ?_
      refine aw_bipush dX9_referenceSize_20 (by decide) (by decide) ?_
      refine aw_v1q dX9_referenceSize_22 vl_RX9_254 (by first | rfl | assumption) (Nat.le_of_ble_eq_true rfl) (Nat.le_of_ble_eq_true rfl) (Nat.le_of_ble_eq_true rfl) (Nat.le_refl _) (Nat.le_refl _) (c_X9_traces (by assumption)) ?_
      intro v t' h1 hq
      obtain ⟨rfl, rfl, f1, f2⟩ := hq
      refine aw_aload_n dX9_referenceSize_25 rfl ?_
      refine aw_bipush dX9_referenceSize_26 (by decide) (by decide) ?_
      refine aw_v1q dX9_referenceSize_28 vl_RX9_254 (by first | rfl | assumption) (Nat.le_of_ble_eq_true rfl) (Nat.le_of_ble_eq_true rfl) (Nat.le_of_ble_eq_true rfl) (Nat.le_refl _) (Nat.le_refl _) (c_X9_traces (by assumption)) ?_
      intro v t' h2 hq
      obtain ⟨rfl, rfl, f3, f4⟩ := hq
      refine aw_aload_n dX9_referenceSize_31 rfl ?_
      refine aw_bipush dX9_referenceSize_32 (by decide) (by decide) ?_
      refine aw_v1q dX9_referenceSize_34 vl_RX9_254 (by first | rfl | assumption) (Nat.le_of_ble_eq_true rfl) (Nat.le_of_ble_eq_true rfl) (Nat.le_of_ble_eq_true rfl) (Nat.le_refl _) (Nat.le_refl _) (c_X9_traces (by assumption)) ?_
      intro v t' h3 hq
      obtain ⟨rfl, rfl, f5, f6⟩ := hq
      have ev3 : mV h3 379 0 = V := by first | (rw [mV_fr (f6.1 379 (by decide) (by decide)), mV_fr (f4.1 379 (by decide) (by decide)), mV_fr (f2.1 379 (by decide) (by decide))]; exact ev) | (rw [mV_fr (f6.1 379 (by decide) (by decide)), mV_fr (f4.1 379 (by decide) (by decide))]; exact ev)
      refine aw_aload_n dX9_referenceSize_37 rfl ?_
      refine aw_getR1 dX9_referenceSize_38 fx_RX9_25 (by first | rfl | assumption) (by first | rfl | assumption) ?_
      refine aw_iload_n dX9_referenceSize_41 rfl ?_
      refine aw_s2i dX9_referenceSize_42 sl_RX9_158 (Nat.le_of_ble_eq_true rfl) (Nat.le_of_ble_eq_true rfl) (Nat.le_of_ble_eq_true rfl) (Nat.le_refl _) (Nat.le_refl _) (c_X9_wide (a := 379) rfl ev3 hV i0 i1) ?_
      refine aw_aload_n dX9_referenceSize_45 rfl ?_
      refine aw_iload_n dX9_referenceSize_46 rfl ?_
      refine aw_v1q dX9_referenceSize_47 vl_RX9_258 (by first | rfl | assumption) (Nat.le_of_ble_eq_true rfl) (Nat.le_of_ble_eq_true rfl) (Nat.le_of_ble_eq_true rfl) (Nat.le_refl _) (Nat.le_refl _) (c_X9_referenceMark f5 ev3 hV i0 i1 hk) ?_
      intro v t' h4 hq
      obtain ⟨rfl, rfl, f7, f8⟩ := hq
      refine aw_iadd dX9_referenceSize_50 (by omega) (by omega) ?_
      refine aw_istore_n (ls' := [_, _, _, _]) dX9_referenceSize_51 (by decide) rfl ?_
      refine aw_iload_n dX9_referenceSize_52 rfl ?_
      refine aw_if_eq 61 dX9_referenceSize_53 rfl (fun c53 => ?_) (fun c53 => ?_)
      · refine aw_iload_n dX9_referenceSize_61 rfl ?_
        refine aw_ireturn dX9_referenceSize_62 rfl (Nat.le_refl _) (Nat.le_refl _) ?_
        first | (exfalso; omega) | (refine ⟨rfl, ?_⟩; first | (rw [if_pos (by omega), if_pos (by omega)]; exact ⟨am_ri (by omega), by rw [trs_app]; exact f7, ((f2.tr f4).tr f6).tr f8⟩) | (rw [if_neg (by omega), if_neg (by omega)]; exact ⟨rfl, by rw [trs_app]; exact f7, (f4.tr f6).tr f8⟩))
      · refine aw_iload_n dX9_referenceSize_56 rfl ?_
        refine aw_ineg dX9_referenceSize_57 (by omega) (by omega) ?_
        refine aw_goto 62 dX9_referenceSize_58 rfl ?_
        refine aw_ireturn dX9_referenceSize_62 rfl (Nat.le_refl _) (Nat.le_refl _) ?_
        first | (exfalso; omega) | (refine ⟨rfl, ?_⟩; first | (rw [if_pos (by omega), if_pos (by omega)]; exact ⟨am_ri (by omega), by rw [trs_app]; exact f7, ((f2.tr f4).tr f6).tr f8⟩) | (rw [if_neg (by omega), if_neg (by omega)]; exact ⟨rfl, by rw [trs_app]; exact f7, (f4.tr f6).tr f8⟩))
  · refine aw_iconst dX9_referenceSize_9 (by decide) (by decide) ?_
    refine aw_goto 14 dX9_referenceSize_10 rfl ?_
    refine aw_istore_n (ls' := [_, _, _, _]) dX9_referenceSize_14 (by decide) rfl ?_
    refine aw_iload_n dX9_referenceSize_15 rfl ?_
    refine aw_if_eq 25 dX9_referenceSize_16 rfl (fun c16 => ?_) (fun c16 => ?_)
    · refine aw_aload_n dX9_referenceSize_25 rfl ?_
      refine aw_bipush dX9_referenceSize_26 (by decide) (by decide) ?_
      refine aw_v1q dX9_referenceSize_28 vl_RX9_254 (by first | rfl | assumption) (Nat.le_of_ble_eq_true rfl) (Nat.le_of_ble_eq_true rfl) (Nat.le_of_ble_eq_true rfl) (Nat.le_refl _) (Nat.le_refl _) (c_X9_traces (by assumption)) ?_
      intro v t' h2 hq
      obtain ⟨rfl, rfl, f3, f4⟩ := hq
      refine aw_aload_n dX9_referenceSize_31 rfl ?_
      refine aw_bipush dX9_referenceSize_32 (by decide) (by decide) ?_
      refine aw_v1q dX9_referenceSize_34 vl_RX9_254 (by first | rfl | assumption) (Nat.le_of_ble_eq_true rfl) (Nat.le_of_ble_eq_true rfl) (Nat.le_of_ble_eq_true rfl) (Nat.le_refl _) (Nat.le_refl _) (c_X9_traces (by assumption)) ?_
      intro v t' h3 hq
      obtain ⟨rfl, rfl, f5, f6⟩ := hq
      have ev3 : mV h3 379 0 = V := by first | (rw [mV_fr (f6.1 379 (by decide) (by decide)), mV_fr (f4.1 379 (by decide) (by decide)), mV_fr (f2.1 379 (by decide) (by decide))]; exact ev) | (rw [mV_fr (f6.1 379 (by decide) (by decide)), mV_fr (f4.1 379 (by decide) (by decide))]; exact ev)
      refine aw_aload_n dX9_referenceSize_37 rfl ?_
      refine aw_getR1 dX9_referenceSize_38 fx_RX9_25 (by first | rfl | assumption) (by first | rfl | assumption) ?_
      refine aw_iload_n dX9_referenceSize_41 rfl ?_
      refine aw_s2i dX9_referenceSize_42 sl_RX9_158 (Nat.le_of_ble_eq_true rfl) (Nat.le_of_ble_eq_true rfl) (Nat.le_of_ble_eq_true rfl) (Nat.le_refl _) (Nat.le_refl _) (c_X9_wide (a := 379) rfl ev3 hV i0 i1) ?_
      refine aw_aload_n dX9_referenceSize_45 rfl ?_
      refine aw_iload_n dX9_referenceSize_46 rfl ?_
      refine aw_v1q dX9_referenceSize_47 vl_RX9_258 (by first | rfl | assumption) (Nat.le_of_ble_eq_true rfl) (Nat.le_of_ble_eq_true rfl) (Nat.le_of_ble_eq_true rfl) (Nat.le_refl _) (Nat.le_refl _) (c_X9_referenceMark f5 ev3 hV i0 i1 hk) ?_
      intro v t' h4 hq
      obtain ⟨rfl, rfl, f7, f8⟩ := hq
      refine aw_iadd dX9_referenceSize_50 (by omega) (by omega) ?_
      refine aw_istore_n (ls' := [_, _, _, _]) dX9_referenceSize_51 (by decide) rfl ?_
      refine aw_iload_n dX9_referenceSize_52 rfl ?_
      refine aw_if_eq 61 dX9_referenceSize_53 rfl (fun c53 => ?_) (fun c53 => ?_)
      · refine aw_iload_n dX9_referenceSize_61 rfl ?_
        refine aw_ireturn dX9_referenceSize_62 rfl (Nat.le_refl _) (Nat.le_refl _) ?_
        first | (exfalso; omega) | (refine ⟨rfl, ?_⟩; first | (rw [if_pos (by omega), if_pos (by omega)]; exact ⟨am_ri (by omega), by rw [trs_app]; exact f7, ((f2.tr f4).tr f6).tr f8⟩) | (rw [if_neg (by omega), if_neg (by omega)]; exact ⟨rfl, by rw [trs_app]; exact f7, (f4.tr f6).tr f8⟩))
      · refine aw_iload_n dX9_referenceSize_56 rfl ?_
        refine aw_ineg dX9_referenceSize_57 (by omega) (by omega) ?_
        refine aw_goto 62 dX9_referenceSize_58 rfl ?_
        refine aw_ireturn dX9_referenceSize_62 rfl (Nat.le_refl _) (Nat.le_refl _) ?_
        first | (exfalso; omega) | (refine ⟨rfl, ?_⟩; first | (rw [if_pos (by omega), if_pos (by omega)]; exact ⟨am_ri (by omega), by rw [trs_app]; exact f7, ((f2.tr f4).tr f6).tr f8⟩) | (rw [if_neg (by omega), if_neg (by omega)]; exact ⟨rfl, by rw [trs_app]; exact f7, (f4.tr f6).tr f8⟩))
    · refine aw_aload_n dX9_referenceSize_19 rfl ?_
      refine aw_bipush dX9_referenceSize_20 (by decide) (by decide) ?_
      refine aw_v1q dX9_referenceSize_22 vl_RX9_254 (by first | rfl | assumption) (Nat.le_of_ble_eq_true rfl) (Nat.le_of_ble_eq_true rfl) (Nat.le_of_ble_eq_true rfl) (Nat.le_refl _) (Nat.le_refl _) (c_X9_traces (by assumption)) ?_
      intro v t' h1 hq
      obtain ⟨rfl, rfl, f1, f2⟩ := hq
      refine aw_aload_n dX9_referenceSize_25 rfl ?_
      refine aw_bipush dX9_referenceSize_26 (by decide) (by decide) ?_
      refine aw_v1q dX9_referenceSize_28 vl_RX9_254 (by first | rfl | assumption) (Nat.le_of_ble_eq_true rfl) (Nat.le_of_ble_eq_true rfl) (Nat.le_of_ble_eq_true rfl) (Nat.le_refl _) (Nat.le_refl _) (c_X9_traces (by assumption)) ?_
      intro v t' h2 hq
      obtain ⟨rfl, rfl, f3, f4⟩ := hq
      refine aw_aload_n dX9_referenceSize_31 rfl ?_
      refine aw_bipush dX9_referenceSize_32 (by decide) (by decide) ?_
      refine aw_v1q dX9_referenceSize_34 vl_RX9_254 (by first | rfl | assumption) (Nat.le_of_ble_eq_true rfl) (Nat.le_of_ble_eq_true rfl) (Nat.le_of_ble_eq_true rfl) (Nat.le_refl _) (Nat.le_refl _) (c_X9_traces (by assumption)) ?_
      intro v t' h3 hq
      obtain ⟨rfl, rfl, f5, f6⟩ := hq
      have ev3 : mV h3 379 0 = V := by first | (rw [mV_fr (f6.1 379 (by decide) (by decide)), mV_fr (f4.1 379 (by decide) (by decide)), mV_fr (f2.1 379 (by decide) (by decide))]; exact ev) | (rw [mV_fr (f6.1 379 (by decide) (by decide)), mV_fr (f4.1 379 (by decide) (by decide))]; exact ev)
      refine aw_aload_n dX9_referenceSize_37 rfl ?_
      refine aw_getR1 dX9_referenceSize_38 fx_RX9_25 (by first | rfl | assumption) (by first | rfl | assumption) ?_
      refine aw_iload_n dX9_referenceSize_41 rfl ?_
      refine aw_s2i dX9_referenceSize_42 sl_RX9_158 (Nat.le_of_ble_eq_true rfl) (Nat.le_of_ble_eq_true rfl) (Nat.le_of_ble_eq_true rfl) (Nat.le_refl _) (Nat.le_refl _) (c_X9_wide (a := 379) rfl ev3 hV i0 i1) ?_
      refine aw_aload_n dX9_referenceSize_45 rfl ?_
      refine aw_iload_n dX9_referenceSize_46 rfl ?_
      refine aw_v1q dX9_referenceSize_47 vl_RX9_258 (by first | rfl | assumption) (Nat.le_of_ble_eq_true rfl) (Nat.le_of_ble_eq_true rfl) (Nat.le_of_ble_eq_true rfl) (Nat.le_refl _) (Nat.le_refl _) (c_X9_referenceMark f5 ev3 hV i0 i1 hk) ?_
      intro v t' h4 hq
      obtain ⟨rfl, rfl, f7, f8⟩ := hq
      refine aw_iadd dX9_referenceSize_50 (by omega) (by omega) ?_
      refine aw_istore_n (ls' := [_, _, _, _]) dX9_referenceSize_51 (by decide) rfl ?_
      refine aw_iload_n dX9_referenceSize_52 rfl ?_
      refine aw_if_eq 61 dX9_referenceSize_53 rfl (fun c53 => ?_) (fun c53 => ?_)
      · refine aw_iload_n dX9_referenceSize_61 rfl ?_
        refine aw_ireturn dX9_referenceSize_62 rfl (Nat.le_refl _) (Nat.le_refl _) ?_
        first | (exfalso; omega) | (refine ⟨rfl, ?_⟩; first | (rw [if_pos (by omega), if_pos (by omega)]; exact ⟨am_ri (by omega), by rw [trs_app]; exact f7, ((f2.tr f4).tr f6).tr f8⟩) | (rw [if_neg (by omega), if_neg (by omega)]; exact ⟨rfl, by rw [trs_app]; exact f7, (f4.tr f6).tr f8⟩))
      · refine aw_iload_n dX9_referenceSize_56 rfl ?_
        refine aw_ineg dX9_referenceSize_57 (by omega) (by omega) ?_
        refine aw_goto 62 dX9_referenceSize_58 rfl ?_
        refine aw_ireturn dX9_referenceSize_62 rfl (Nat.le_refl _) (Nat.le_refl _) ?_
        first | (exfalso; omega) | (refine ⟨rfl, ?_⟩; first | (rw [if_pos (by omega), if_pos (by omega)]; exact ⟨am_ri (by omega), by rw [trs_app]; exact f7, ((f2.tr f4).tr f6).tr f8⟩) | (rw [if_neg (by omega), if_neg (by omega)]; exact ⟨rfl, by rw [trs_app]; exact f7, (f4.tr f6).tr f8⟩))
theorem szW_bd {i : Int} (hV : WFv V) (i0 : 0 ≤ i) (i1 : i < V 0 0) : -2000 ≤ szW V i ∧ szW V i ≤ 2000 := by
  have wb := wd_bd hV i0 i1
  unfold szW
  split <;> omega
theorem c_X9_wordMark {T : TR} {i : Int} (hC : CMt h T) (ev : mV h 379 0 = V) (hV : WFv V) (i0 : 0 ≤ i) (i1 : i < V 0 0) : Sem M_X9_wordMark [vR 373, vI i] (TT e q n L) h 0 0 (fun v t' h' => t' = TT e q n L ∧ AMp h T v (mkW V i) h' (mkWb V i)) := by
  have w2 := hV.2.1
  have mb := szW_bd hV i0 i1
  unfold AMp mkW mkWb
  refine sem_intro (by decide) rfl (Nat.le_of_ble_eq_true rfl) rfl ?_
  refine aw_aload_n dX9_wordMark_0 rfl ?_
  refine aw_bipush dX9_wordMark_1 (by decide) (by decide) ?_
  refine aw_v1q dX9_wordMark_3 vl_RX9_254 (by first | rfl | assumption) (Nat.le_of_ble_eq_true rfl) (Nat.le_of_ble_eq_true rfl) (Nat.le_of_ble_eq_true rfl) (Nat.le_refl _) (Nat.le_refl _) (c_X9_traces (by assumption)) ?_
  intro v t' h1 hq
  obtain ⟨rfl, rfl, f1, f2⟩ := hq
  refine aw_aload_n dX9_wordMark_6 rfl ?_
  refine aw_bipush dX9_wordMark_7 (by decide) (by decide) ?_
  refine aw_v1q dX9_wordMark_9 vl_RX9_254 (by first | rfl | assumption) (Nat.le_of_ble_eq_true rfl) (Nat.le_of_ble_eq_true rfl) (Nat.le_of_ble_eq_true rfl) (Nat.le_refl _) (Nat.le_refl _) (c_X9_traces (by assumption)) ?_
  intro v t' h2 hq
  obtain ⟨rfl, rfl, f3, f4⟩ := hq
  have ev3 : mV h2 379 0 = V := by rw [mV_fr (f4.1 379 (by decide) (by decide)), mV_fr (f2.1 379 (by decide) (by decide))]; exact ev
  refine aw_iload_n dX9_wordMark_12 rfl ?_
  refine aw_aload_n dX9_wordMark_13 rfl ?_
  refine aw_iload_n dX9_wordMark_14 rfl ?_
  refine aw_v1q dX9_wordMark_15 vl_RX9_261 (by first | rfl | assumption) (Nat.le_of_ble_eq_true rfl) (Nat.le_of_ble_eq_true rfl) (Nat.le_of_ble_eq_true rfl) (Nat.le_refl _) (Nat.le_refl _) (c_X9_wordSize f3 ev3 hV i0 i1) ?_
  intro v t' h4 hq
  obtain ⟨rfl, rfl, f7, f8⟩ := hq
  refine aw_isub dX9_wordMark_18 (by omega) (by omega) ?_
  refine aw_ireturn dX9_wordMark_19 rfl (Nat.le_refl _) (Nat.le_refl _) ?_
  exact ⟨rfl, rfl, by rw [trs_app]; exact f7, (f2.tr f4).tr f8⟩
theorem MS.trc {h' : Mem} {T : TR} (hM : MS h σ) (hT : CMt h' T) (f : TF h h') : MS h' (wTrc σ T) := by
  obtain ⟨m1, m2, m3, m4, m5, m6, m7, m8⟩ := hM
  refine ⟨fun i i0 i1 => ?_, ?_, ?_, ?_, ?_, ?_, fun k k0 k1 => ?_, ⟨hT.1, hT.2.2.2⟩⟩
  · rw [f.1 374 (by decide) (by decide), f.1 375 (by decide) (by decide), f.1 376 (by decide) (by decide)]; exact m1 i i0 i1
  · rw [f.2 4 (by decide)]; exact m2
  · rw [f.2 6 (by decide), f.1 378 (by decide) (by decide)]; exact m3
  · rw [f.2 7 (by decide)]; exact m4
  · rw [mV_fr (f.1 379 (by decide) (by decide))]; exact m5
  · rw [f.2 17 (by decide)]
    refine ⟨m6.1, m6.2.1, fun j hj => ?_⟩
    rw [mV_fr (f.1 382 (by decide) (by decide))]; exact m6.2.2 j hj
  · rw [f.1 384 (by decide) (by decide), mV_fr (f.1 383 (by decide) (by decide))]; exact m7 k k0 k1
theorem c_X9_ask {i w : Int} (hM : MS h σ) (hW : WFst σ) : Sem M_X9_ask [vR 373, vI i, vI w] (TT e q n L) h 0 0 (PM (sp_ask σ i w) h (TT e q n L)) := by
  unfold sp_ask
  have ev : mV h 379 0 = s_liv σ := hM.2.2.2.2.1
  have ec : h 379 3 = s_liv σ 0 0 := mA_c ev
  have ws := wf_sh hW.2.2.2.1
  have k1 : 0 ≤ i ∧ i ≤ h 379 3 - 1 → WFv (s_liv σ) ∧ h 379 (5 + 4 * i) = s_liv σ 1 i ∧ 1 ≤ s_liv σ 1 i ∧ s_liv σ 1 i ≤ 5 := fun z => by
    have hL := wf_liv hW.2.2.2.1 (by omega)
    have := hL.1.2.2.2.2.2.2.2.2 i (by omega) (by omega)
    exact ⟨hL.1, mA1 ev (by omega) (by omega), this.1, this.2.1⟩
  have hT : CMt (am_up h 373 27 0) (0, (s_trc σ).2) := ⟨by simp [am_up], by show (0 : Int) ≤ 0; omega, by show (0 : Int) ≤ 16; omega, fun j j0 j1 => absurd j1 (by show ¬ j < 0; omega)⟩
  have ev1 : mV (am_up h 373 27 0) 379 0 = s_liv σ := by rw [mV_fr (am_up_ne (by decide))]; exact ev
  have f0 : TF h (am_up h 373 27 0) := ⟨fun c c1 c2 => am_up_ne c1, fun k hk => by unfold am_up; rw [if_neg (by omega)]⟩
  have fin : ∀ (v : Option AV) (h' : Mem) (x : Int) (bs : List Int), askv (s_liv σ) i w = x → askb (s_liv σ) i w = bs → AMp (am_up h 373 27 0) (0, (s_trc σ).2) v x h' bs → PM (askv (s_liv σ) i w, wTrc σ (trs (0, (s_trc σ).2) (askb (s_liv σ) i w))) h (TT e q n L) v (TT e q n L) h' := by
    rintro v h' x bs e1 e2 ⟨a1, a2, a3⟩
    rw [e1, e2]
    exact ⟨a1, rfl, hM.trc a2 (f0.tr a3), fun c hc => (f0.tr a3).1 c (by omega) (by omega)⟩
  refine sem_intro (by decide) rfl (Nat.le_of_ble_eq_true rfl) rfl ?_
  refine aw_aload_n dX9_ask_0 rfl ?_
  refine aw_iload_n dX9_ask_1 rfl ?_
  refine aw_v1i dX9_ask_2 vl_RX9_202 (by first | rfl | assumption) (Nat.le_of_ble_eq_true rfl) (Nat.le_of_ble_eq_true rfl) (Nat.le_of_ble_eq_true rfl) (Nat.le_refl _) (Nat.le_refl _) (c_X9_isItem (by omega) (by omega)) ?_
  refine aw_ifB_eq 17 dX9_ask_5 rfl (fun c5 => ?_) (fun c5 => ?_)
  · refine aw_ldc (n := -1000001) dX9_ask_17 kc_RX9_70 (by decide) ?_
    refine aw_ireturn dX9_ask_19 rfl (Nat.le_refl _) (Nat.le_refl _) ?_
    rw [if_pos (by omega)]
    exact ⟨rfl, rfl, hM, fun _ _ => rfl⟩
  · refine aw_iload_n dX9_ask_8 rfl ?_
    refine aw_iconst dX9_ask_9 (by decide) (by decide) ?_
    refine aw_iconst dX9_ask_10 (by decide) (by decide) ?_
    refine aw_s3i dX9_ask_11 sl_RX9_62 (Nat.le_of_ble_eq_true rfl) (Nat.le_of_ble_eq_true rfl) (Nat.le_of_ble_eq_true rfl) (Nat.le_refl _) (Nat.le_refl _) (c_X9_in) ?_
    refine aw_ifB_ne 20 dX9_ask_14 rfl (fun c14 => ?_) (fun c14 => ?_)
    · obtain ⟨kw, kk1, kk2, kk3⟩ := k1 c5
      rw [if_neg (by omega)]
      refine aw_aload_n dX9_ask_20 rfl ?_
      refine aw_iconst dX9_ask_21 (by decide) (by decide) ?_
      refine aw_putI dX9_ask_22 fp_RX9_251 (by first | rfl | assumption) ?_
      refine aw_aload_n dX9_ask_25 rfl ?_
      refine aw_iload_n dX9_ask_26 rfl ?_
      refine aw_v1i dX9_ask_27 vl_RX9_248 (by first | rfl | assumption) (Nat.le_of_ble_eq_true rfl) (Nat.le_of_ble_eq_true rfl) (Nat.le_of_ble_eq_true rfl) (Nat.le_refl _) (Nat.le_refl _) (c_X9_kindIn (by omega) (by omega)) ?_
      rw [am_up_ne (by decide), kk1]
      refine aw_iconst dX9_ask_30 (by decide) (by decide) ?_
      refine aw_icmp_lt 38 dX9_ask_31 rfl (fun c31 => ?_) (fun c31 => ?_)
      · refine aw_iconst dX9_ask_38 (by decide) (by decide) ?_
        refine aw_istore_n (ls' := [_, _, _, _]) dX9_ask_39 (by decide) rfl ?_
        refine aw_iload_n dX9_ask_40 rfl ?_
        refine aw_if_ne 62 dX9_ask_41 rfl (fun c41 => ?_) (fun c41 => ?_)
        · refine aw_iload_n dX9_ask_62 rfl ?_
          refine aw_if_eq 74 dX9_ask_63 rfl (fun c63 => ?_) (fun c63 => ?_)
          · refine aw_aload_n dX9_ask_74 rfl ?_
            refine aw_iload_n dX9_ask_75 rfl ?_
            refine aw_v1q dX9_ask_76 vl_RX9_258 (by first | rfl | assumption) (Nat.le_of_ble_eq_true rfl) (Nat.le_of_ble_eq_true rfl) (Nat.le_of_ble_eq_true rfl) (Nat.le_refl _) (Nat.le_refl _) (c_X9_referenceMark hT ev1 kw (by omega) (by omega) (by omega)) ?_
            intro v t' h4 hq
            obtain ⟨rfl, hq⟩ := hq
            have hv := hq.1
            subst hv
            refine aw_ireturn dX9_ask_79 rfl (Nat.le_refl _) (Nat.le_refl _) ?_
            first | (exfalso; omega) | exact fin _ _ _ _ (by unfold askv; first | (rw [if_neg (by omega), if_pos (by omega)]; done) | (rw [if_neg (by omega), if_neg (by omega)]; done) | (rw [if_pos (by omega), if_pos (by omega)]; done) | (rw [if_pos (by omega), if_neg (by omega)]; done)) (by unfold askb; first | (rw [if_neg (by omega), if_pos (by omega)]; done) | (rw [if_neg (by omega), if_neg (by omega)]; done) | (rw [if_pos (by omega), if_pos (by omega)]; done) | (rw [if_pos (by omega), if_neg (by omega)]; done)) hq
          · refine aw_aload_n dX9_ask_66 rfl ?_
            refine aw_iload_n dX9_ask_67 rfl ?_
            refine aw_v1q dX9_ask_68 vl_RX9_267 (by first | rfl | assumption) (Nat.le_of_ble_eq_true rfl) (Nat.le_of_ble_eq_true rfl) (Nat.le_of_ble_eq_true rfl) (Nat.le_refl _) (Nat.le_refl _) (c_X9_wordMark hT ev1 kw (by omega) (by omega)) ?_
            intro v t' h4 hq
            obtain ⟨rfl, hq⟩ := hq
            have hv := hq.1
            subst hv
            refine aw_goto 79 dX9_ask_71 rfl ?_
            refine aw_ireturn dX9_ask_79 rfl (Nat.le_refl _) (Nat.le_refl _) ?_
            first | (exfalso; omega) | exact fin _ _ _ _ (by unfold askv; first | (rw [if_neg (by omega), if_pos (by omega)]; done) | (rw [if_neg (by omega), if_neg (by omega)]; done) | (rw [if_pos (by omega), if_pos (by omega)]; done) | (rw [if_pos (by omega), if_neg (by omega)]; done)) (by unfold askb; first | (rw [if_neg (by omega), if_pos (by omega)]; done) | (rw [if_neg (by omega), if_neg (by omega)]; done) | (rw [if_pos (by omega), if_pos (by omega)]; done) | (rw [if_pos (by omega), if_neg (by omega)]; done)) hq
        · refine aw_iload_n dX9_ask_44 rfl ?_
          refine aw_if_eq 56 dX9_ask_45 rfl (fun c45 => ?_) (fun c45 => ?_)
          · refine aw_aload_n dX9_ask_56 rfl ?_
            refine aw_iload_n dX9_ask_57 rfl ?_
            refine aw_v1q dX9_ask_58 vl_RX9_264 (by first | rfl | assumption) (Nat.le_of_ble_eq_true rfl) (Nat.le_of_ble_eq_true rfl) (Nat.le_of_ble_eq_true rfl) (Nat.le_refl _) (Nat.le_refl _) (c_X9_referenceSize hT ev1 kw (by omega) (by omega) (by omega)) ?_
            intro v t' h4 hq
            obtain ⟨rfl, hq⟩ := hq
            have hv := hq.1
            subst hv
            refine aw_ireturn dX9_ask_61 rfl (Nat.le_refl _) (Nat.le_refl _) ?_
            first | (exfalso; omega) | exact fin _ _ _ _ (by unfold askv; first | (rw [if_neg (by omega), if_pos (by omega)]; done) | (rw [if_neg (by omega), if_neg (by omega)]; done) | (rw [if_pos (by omega), if_pos (by omega)]; done) | (rw [if_pos (by omega), if_neg (by omega)]; done)) (by unfold askb; first | (rw [if_neg (by omega), if_pos (by omega)]; done) | (rw [if_neg (by omega), if_neg (by omega)]; done) | (rw [if_pos (by omega), if_pos (by omega)]; done) | (rw [if_pos (by omega), if_neg (by omega)]; done)) hq
          · refine aw_aload_n dX9_ask_48 rfl ?_
            refine aw_iload_n dX9_ask_49 rfl ?_
            refine aw_v1q dX9_ask_50 vl_RX9_261 (by first | rfl | assumption) (Nat.le_of_ble_eq_true rfl) (Nat.le_of_ble_eq_true rfl) (Nat.le_of_ble_eq_true rfl) (Nat.le_refl _) (Nat.le_refl _) (c_X9_wordSize hT ev1 kw (by omega) (by omega)) ?_
            intro v t' h4 hq
            obtain ⟨rfl, hq⟩ := hq
            have hv := hq.1
            subst hv
            refine aw_goto 61 dX9_ask_53 rfl ?_
            refine aw_ireturn dX9_ask_61 rfl (Nat.le_refl _) (Nat.le_refl _) ?_
            first | (exfalso; omega) | exact fin _ _ _ _ (by unfold askv; first | (rw [if_neg (by omega), if_pos (by omega)]; done) | (rw [if_neg (by omega), if_neg (by omega)]; done) | (rw [if_pos (by omega), if_pos (by omega)]; done) | (rw [if_pos (by omega), if_neg (by omega)]; done)) (by unfold askb; first | (rw [if_neg (by omega), if_pos (by omega)]; done) | (rw [if_neg (by omega), if_neg (by omega)]; done) | (rw [if_pos (by omega), if_pos (by omega)]; done) | (rw [if_pos (by omega), if_neg (by omega)]; done)) hq
      · refine aw_iconst dX9_ask_34 (by decide) (by decide) ?_
        refine aw_goto 39 dX9_ask_35 rfl ?_
        refine aw_istore_n (ls' := [_, _, _, _]) dX9_ask_39 (by decide) rfl ?_
        refine aw_iload_n dX9_ask_40 rfl ?_
        refine aw_if_ne 62 dX9_ask_41 rfl (fun c41 => ?_) (fun c41 => ?_)
        · refine aw_iload_n dX9_ask_62 rfl ?_
          refine aw_if_eq 74 dX9_ask_63 rfl (fun c63 => ?_) (fun c63 => ?_)
          · refine aw_aload_n dX9_ask_74 rfl ?_
            refine aw_iload_n dX9_ask_75 rfl ?_
            refine aw_v1q dX9_ask_76 vl_RX9_258 (by first | rfl | assumption) (Nat.le_of_ble_eq_true rfl) (Nat.le_of_ble_eq_true rfl) (Nat.le_of_ble_eq_true rfl) (Nat.le_refl _) (Nat.le_refl _) (c_X9_referenceMark hT ev1 kw (by omega) (by omega) (by omega)) ?_
            intro v t' h4 hq
            obtain ⟨rfl, hq⟩ := hq
            have hv := hq.1
            subst hv
            refine aw_ireturn dX9_ask_79 rfl (Nat.le_refl _) (Nat.le_refl _) ?_
            first | (exfalso; omega) | exact fin _ _ _ _ (by unfold askv; first | (rw [if_neg (by omega), if_pos (by omega)]; done) | (rw [if_neg (by omega), if_neg (by omega)]; done) | (rw [if_pos (by omega), if_pos (by omega)]; done) | (rw [if_pos (by omega), if_neg (by omega)]; done)) (by unfold askb; first | (rw [if_neg (by omega), if_pos (by omega)]; done) | (rw [if_neg (by omega), if_neg (by omega)]; done) | (rw [if_pos (by omega), if_pos (by omega)]; done) | (rw [if_pos (by omega), if_neg (by omega)]; done)) hq
          · refine aw_aload_n dX9_ask_66 rfl ?_
            refine aw_iload_n dX9_ask_67 rfl ?_
            refine aw_v1q dX9_ask_68 vl_RX9_267 (by first | rfl | assumption) (Nat.le_of_ble_eq_true rfl) (Nat.le_of_ble_eq_true rfl) (Nat.le_of_ble_eq_true rfl) (Nat.le_refl _) (Nat.le_refl _) (c_X9_wordMark hT ev1 kw (by omega) (by omega)) ?_
            intro v t' h4 hq
            obtain ⟨rfl, hq⟩ := hq
            have hv := hq.1
            subst hv
            refine aw_goto 79 dX9_ask_71 rfl ?_
            refine aw_ireturn dX9_ask_79 rfl (Nat.le_refl _) (Nat.le_refl _) ?_
            first | (exfalso; omega) | exact fin _ _ _ _ (by unfold askv; first | (rw [if_neg (by omega), if_pos (by omega)]; done) | (rw [if_neg (by omega), if_neg (by omega)]; done) | (rw [if_pos (by omega), if_pos (by omega)]; done) | (rw [if_pos (by omega), if_neg (by omega)]; done)) (by unfold askb; first | (rw [if_neg (by omega), if_pos (by omega)]; done) | (rw [if_neg (by omega), if_neg (by omega)]; done) | (rw [if_pos (by omega), if_pos (by omega)]; done) | (rw [if_pos (by omega), if_neg (by omega)]; done)) hq
        · refine aw_iload_n dX9_ask_44 rfl ?_
          refine aw_if_eq 56 dX9_ask_45 rfl (fun c45 => ?_) (fun c45 => ?_)
          · refine aw_aload_n dX9_ask_56 rfl ?_
            refine aw_iload_n dX9_ask_57 rfl ?_
            refine aw_v1q dX9_ask_58 vl_RX9_264 (by first | rfl | assumption) (Nat.le_of_ble_eq_true rfl) (Nat.le_of_ble_eq_true rfl) (Nat.le_of_ble_eq_true rfl) (Nat.le_refl _) (Nat.le_refl _) (c_X9_referenceSize hT ev1 kw (by omega) (by omega) (by omega)) ?_
            intro v t' h4 hq
            obtain ⟨rfl, hq⟩ := hq
            have hv := hq.1
            subst hv
            refine aw_ireturn dX9_ask_61 rfl (Nat.le_refl _) (Nat.le_refl _) ?_
            first | (exfalso; omega) | exact fin _ _ _ _ (by unfold askv; first | (rw [if_neg (by omega), if_pos (by omega)]; done) | (rw [if_neg (by omega), if_neg (by omega)]; done) | (rw [if_pos (by omega), if_pos (by omega)]; done) | (rw [if_pos (by omega), if_neg (by omega)]; done)) (by unfold askb; first | (rw [if_neg (by omega), if_pos (by omega)]; done) | (rw [if_neg (by omega), if_neg (by omega)]; done) | (rw [if_pos (by omega), if_pos (by omega)]; done) | (rw [if_pos (by omega), if_neg (by omega)]; done)) hq
          · refine aw_aload_n dX9_ask_48 rfl ?_
            refine aw_iload_n dX9_ask_49 rfl ?_
            refine aw_v1q dX9_ask_50 vl_RX9_261 (by first | rfl | assumption) (Nat.le_of_ble_eq_true rfl) (Nat.le_of_ble_eq_true rfl) (Nat.le_of_ble_eq_true rfl) (Nat.le_refl _) (Nat.le_refl _) (c_X9_wordSize hT ev1 kw (by omega) (by omega)) ?_
            intro v t' h4 hq
            obtain ⟨rfl, hq⟩ := hq
            have hv := hq.1
            subst hv
            refine aw_goto 61 dX9_ask_53 rfl ?_
            refine aw_ireturn dX9_ask_61 rfl (Nat.le_refl _) (Nat.le_refl _) ?_
            first | (exfalso; omega) | exact fin _ _ _ _ (by unfold askv; first | (rw [if_neg (by omega), if_pos (by omega)]; done) | (rw [if_neg (by omega), if_neg (by omega)]; done) | (rw [if_pos (by omega), if_pos (by omega)]; done) | (rw [if_pos (by omega), if_neg (by omega)]; done)) (by unfold askb; first | (rw [if_neg (by omega), if_pos (by omega)]; done) | (rw [if_neg (by omega), if_neg (by omega)]; done) | (rw [if_pos (by omega), if_pos (by omega)]; done) | (rw [if_pos (by omega), if_neg (by omega)]; done)) hq
    · refine aw_ldc (n := -1000001) dX9_ask_17 kc_RX9_70 (by decide) ?_
      refine aw_ireturn dX9_ask_19 rfl (Nat.le_refl _) (Nat.le_refl _) ?_
      rw [if_pos (by omega)]
      exact ⟨rfl, rfl, hM, fun _ _ => rfl⟩
end MOM
