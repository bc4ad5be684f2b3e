section AS2
variable {e q n L : Nat} {h : Mem}
set_option maxHeartbeats 1000000 in
theorem c_X0_sizeOfReference {T : TR} {i : Int} (hC : CSt h T) (hro : RO h) (hV : WFv (cV h 16)) (i0 : 0 ≤ i) (i1 : i < h 16 0) : Sem M_X0_sizeOfReference [vR 371, vI i] (TT e q n L) h 0 0 (fun v t' h' => t' = TT e q n L ∧ ASKp h T v (szR (cV h 16) i) h' (szRb (cV h 16) i)) := by
  have w2 := hV.2.1
  rw [cVc] at w2
  have wi := hV.2.2.2.2.2.2.2.2 i i0 (by rw [cVc]; exact i1)
  have k1 : cV h 16 1 i = h 17 i := cV1 i0 i1
  have hwb := wd_bd hV i0 (by rw [cVc]; exact i1)
  have hmb : -2000 ≤ mkR (cV h 16) i ∧ mkR (cV h 16) i ≤ 2000 := by
    unfold mkR
    split
    · omega
    · split <;> omega
  rw [k1] at wi
  unfold ASKp szR szRb
  rw [k1]
  refine sem_intro (by decide) rfl (Nat.le_of_ble_eq_true rfl) rfl ?_
  refine aw_aload_n dX0_sizeOfReference_0 rfl ?_
  refine aw_getR1 dX0_sizeOfReference_1 fx_RX0_15 (by first | assumption | rfl) (by first | assumption | rfl) ?_
  refine aw_getR1 dX0_sizeOfReference_4 fx_RX0_23 (by first | assumption | rfl) (by first | assumption | rfl) ?_
  refine aw_iload_n dX0_sizeOfReference_7 rfl ?_
  refine aw_iaload dX0_sizeOfReference_8 (by first | assumption | rfl) (by omega) (by omega) ?_
  refine aw_iconst dX0_sizeOfReference_9 (by decide) (by decide) ?_
  refine aw_icmp_ne 17 dX0_sizeOfReference_10 rfl (fun c10 => ?_) (fun c10 => ?_)
  · refine aw_iconst dX0_sizeOfReference_17 (by decide) (by decide) ?_
    refine aw_istore_n (ls' := [_, _, _, _]) dX0_sizeOfReference_18 (by decide) rfl ?_
    refine aw_iload_n dX0_sizeOfReference_19 rfl ?_
    refine aw_if_eq 29 dX0_sizeOfReference_20 rfl (fun c20 => ?_) (fun c20 => ?_)
    · refine aw_aload_n dX0_sizeOfReference_29 rfl ?_
      refine aw_bipush dX0_sizeOfReference_30 (by decide) (by decide) ?_
      refine aw_v1q dX0_sizeOfReference_32 vl_RX0_28 (by first | assumption | rfl) (Nat.le_of_ble_eq_true rfl) (Nat.le_of_ble_eq_true rfl) (Nat.le_of_ble_eq_true rfl) (Nat.le_refl _) (Nat.le_refl _) (c_X0_begin (by assumption)) ?_
      intro v t' h2 hq
      obtain ⟨rfl, rfl, f3, f4⟩ := hq
      have fr : ∀ c, c ≠ 371 → c ≠ 372 → h2 c = h c := fun c q1 q2 => by first | rw [f4 c q1 q2, f2 c q1 q2] | rw [f4 c q1 q2]
      refine aw_aload_n dX0_sizeOfReference_35 rfl ?_
      refine aw_iload_n dX0_sizeOfReference_36 rfl ?_
      refine aw_v1q dX0_sizeOfReference_37 vl_RX0_32 (by first | assumption | rfl) (Nat.le_of_ble_eq_true rfl) (Nat.le_of_ble_eq_true rfl) (Nat.le_of_ble_eq_true rfl) (Nat.le_refl _) (Nat.le_refl _) (c_X0_lentSize (by assumption) (RO_16 fr hro) (by rw [cV_16 fr]; exact hV) i0 (by rw [fr 16 (by decide) (by decide)]; exact i1)) ?_
      intro v t' h3 hq
      obtain ⟨rfl, rfl, f5, f6⟩ := hq
      rw [cV_16 fr]
      have fr2 : ∀ c, c ≠ 371 → c ≠ 372 → h3 c = h c := fun c q1 q2 => by rw [f6 c q1 q2, fr c q1 q2]
      refine aw_istore_n (ls' := [_, _, _, _]) dX0_sizeOfReference_40 (by decide) rfl ?_
      refine aw_iload_n dX0_sizeOfReference_41 rfl ?_
      refine aw_aload_n dX0_sizeOfReference_42 rfl ?_
      refine aw_iload_n dX0_sizeOfReference_43 rfl ?_
      refine aw_v1q dX0_sizeOfReference_44 vl_RX0_36 (by first | assumption | rfl) (Nat.le_of_ble_eq_true rfl) (Nat.le_of_ble_eq_true rfl) (Nat.le_of_ble_eq_true rfl) (Nat.le_refl _) (Nat.le_refl _) (c_X0_markOfReference (by assumption) (by rw [cV_16 fr2]; exact hV) i0 (by rw [fr2 16 (by decide) (by decide)]; exact i1)) ?_
      intro v t' h4 hq
      obtain ⟨rfl, rfl, f7, f8⟩ := hq
      rw [cV_16 fr2] at f7 ⊢
      refine aw_iadd dX0_sizeOfReference_47 (by omega) (by omega) ?_
      refine aw_istore_n (ls' := [_, _, _, _]) dX0_sizeOfReference_48 (by decide) rfl ?_
      refine aw_iload_n dX0_sizeOfReference_49 rfl ?_
      refine aw_if_eq 59 dX0_sizeOfReference_50 rfl (fun c50 => ?_) (fun c50 => ?_)
      · refine aw_iload_n dX0_sizeOfReference_59 rfl ?_
        refine aw_ireturn dX0_sizeOfReference_60 rfl (Nat.le_refl _) (Nat.le_refl _) ?_
        first | (exfalso; omega) | (refine ⟨rfl, ?_⟩; first | (rw [if_pos (by omega), if_pos (by omega)]; exact ⟨rfl, f7, fun c q1 q2 => by rw [f8 c q1 q2, fr2 c q1 q2]⟩) | (rw [if_neg (by omega), if_neg (by omega)]; exact ⟨rfl, f7, fun c q1 q2 => by rw [f8 c q1 q2, fr2 c q1 q2]⟩))
      · refine aw_iconst dX0_sizeOfReference_53 (by decide) (by decide) ?_
        refine aw_iload_n dX0_sizeOfReference_54 rfl ?_
        refine aw_isub dX0_sizeOfReference_55 (by omega) (by omega) ?_
        refine aw_goto 60 dX0_sizeOfReference_56 rfl ?_
        refine aw_ireturn dX0_sizeOfReference_60 rfl (Nat.le_refl _) (Nat.le_refl _) ?_
        first | (exfalso; omega) | (refine ⟨rfl, ?_⟩; first | (rw [if_pos (by omega), if_pos (by omega)]; exact ⟨rfl, f7, fun c q1 q2 => by rw [f8 c q1 q2, fr2 c q1 q2]⟩) | (rw [if_neg (by omega), if_neg (by omega)]; exact ⟨rfl, f7, fun c q1 q2 => by rw [f8 c q1 q2, fr2 c q1 q2]⟩))
    · refine aw_aload_n dX0_sizeOfReference_23 rfl ?_
      refine aw_bipush dX0_sizeOfReference_24 (by decide) (by decide) ?_
      refine aw_v1q dX0_sizeOfReference_26 vl_RX0_28 (by first | assumption | rfl) (Nat.le_of_ble_eq_true rfl) (Nat.le_of_ble_eq_true rfl) (Nat.le_of_ble_eq_true rfl) (Nat.le_refl _) (Nat.le_refl _) (c_X0_begin (by assumption)) ?_
      intro v t' h1 hq
      obtain ⟨rfl, rfl, f1, f2⟩ := hq
      refine aw_aload_n dX0_sizeOfReference_29 rfl ?_
      refine aw_bipush dX0_sizeOfReference_30 (by decide) (by decide) ?_
      refine aw_v1q dX0_sizeOfReference_32 vl_RX0_28 (by first | assumption | rfl) (Nat.le_of_ble_eq_true rfl) (Nat.le_of_ble_eq_true rfl) (Nat.le_of_ble_eq_true rfl) (Nat.le_refl _) (Nat.le_refl _) (c_X0_begin (by assumption)) ?_
      intro v t' h2 hq
      obtain ⟨rfl, rfl, f3, f4⟩ := hq
      have fr : ∀ c, c ≠ 371 → c ≠ 372 → h2 c = h c := fun c q1 q2 => by first | rw [f4 c q1 q2, f2 c q1 q2] | rw [f4 c q1 q2]
      refine aw_aload_n dX0_sizeOfReference_35 rfl ?_
      refine aw_iload_n dX0_sizeOfReference_36 rfl ?_
      refine aw_v1q dX0_sizeOfReference_37 vl_RX0_32 (by first | assumption | rfl) (Nat.le_of_ble_eq_true rfl) (Nat.le_of_ble_eq_true rfl) (Nat.le_of_ble_eq_true rfl) (Nat.le_refl _) (Nat.le_refl _) (c_X0_lentSize (by assumption) (RO_16 fr hro) (by rw [cV_16 fr]; exact hV) i0 (by rw [fr 16 (by decide) (by decide)]; exact i1)) ?_
      intro v t' h3 hq
      obtain ⟨rfl, rfl, f5, f6⟩ := hq
      rw [cV_16 fr]
      have fr2 : ∀ c, c ≠ 371 → c ≠ 372 → h3 c = h c := fun c q1 q2 => by rw [f6 c q1 q2, fr c q1 q2]
      refine aw_istore_n (ls' := [_, _, _, _]) dX0_sizeOfReference_40 (by decide) rfl ?_
      refine aw_iload_n dX0_sizeOfReference_41 rfl ?_
      refine aw_aload_n dX0_sizeOfReference_42 rfl ?_
      refine aw_iload_n dX0_sizeOfReference_43 rfl ?_
      refine aw_v1q dX0_sizeOfReference_44 vl_RX0_36 (by first | assumption | rfl) (Nat.le_of_ble_eq_true rfl) (Nat.le_of_ble_eq_true rfl) (Nat.le_of_ble_eq_true rfl) (Nat.le_refl _) (Nat.le_refl _) (c_X0_markOfReference (by assumption) (by rw [cV_16 fr2]; exact hV) i0 (by rw [fr2 16 (by decide) (by decide)]; exact i1)) ?_
      intro v t' h4 hq
      obtain ⟨rfl, rfl, f7, f8⟩ := hq
      rw [cV_16 fr2] at f7 ⊢
      refine aw_iadd dX0_sizeOfReference_47 (by omega) (by omega) ?_
      refine aw_istore_n (ls' := [_, _, _, _]) dX0_sizeOfReference_48 (by decide) rfl ?_
      refine aw_iload_n dX0_sizeOfReference_49 rfl ?_
      refine aw_if_eq 59 dX0_sizeOfReference_50 rfl (fun c50 => ?_) (fun c50 => ?_)
      · refine aw_iload_n dX0_sizeOfReference_59 rfl ?_
        refine aw_ireturn dX0_sizeOfReference_60 rfl (Nat.le_refl _) (Nat.le_refl _) ?_
        first | (exfalso; omega) | (refine ⟨rfl, ?_⟩; first | (rw [if_pos (by omega), if_pos (by omega)]; exact ⟨rfl, f7, fun c q1 q2 => by rw [f8 c q1 q2, fr2 c q1 q2]⟩) | (rw [if_neg (by omega), if_neg (by omega)]; exact ⟨rfl, f7, fun c q1 q2 => by rw [f8 c q1 q2, fr2 c q1 q2]⟩))
      · refine aw_iconst dX0_sizeOfReference_53 (by decide) (by decide) ?_
        refine aw_iload_n dX0_sizeOfReference_54 rfl ?_
        refine aw_isub dX0_sizeOfReference_55 (by omega) (by omega) ?_
        refine aw_goto 60 dX0_sizeOfReference_56 rfl ?_
        refine aw_ireturn dX0_sizeOfReference_60 rfl (Nat.le_refl _) (Nat.le_refl _) ?_
        first | (exfalso; omega) | (refine ⟨rfl, ?_⟩; first | (rw [if_pos (by omega), if_pos (by omega)]; exact ⟨rfl, f7, fun c q1 q2 => by rw [f8 c q1 q2, fr2 c q1 q2]⟩) | (rw [if_neg (by omega), if_neg (by omega)]; exact ⟨rfl, f7, fun c q1 q2 => by rw [f8 c q1 q2, fr2 c q1 q2]⟩))
  · refine aw_iconst dX0_sizeOfReference_13 (by decide) (by decide) ?_
    refine aw_goto 18 dX0_sizeOfReference_14 rfl ?_
    refine aw_istore_n (ls' := [_, _, _, _]) dX0_sizeOfReference_18 (by decide) rfl ?_
    refine aw_iload_n dX0_sizeOfReference_19 rfl ?_
    refine aw_if_eq 29 dX0_sizeOfReference_20 rfl (fun c20 => ?_) (fun c20 => ?_)
    · refine aw_aload_n dX0_sizeOfReference_29 rfl ?_
      refine aw_bipush dX0_sizeOfReference_30 (by decide) (by decide) ?_
      refine aw_v1q dX0_sizeOfReference_32 vl_RX0_28 (by first | assumption | rfl) (Nat.le_of_ble_eq_true rfl) (Nat.le_of_ble_eq_true rfl) (Nat.le_of_ble_eq_true rfl) (Nat.le_refl _) (Nat.le_refl _) (c_X0_begin (by assumption)) ?_
      intro v t' h2 hq
      obtain ⟨rfl, rfl, f3, f4⟩ := hq
      have fr : ∀ c, c ≠ 371 → c ≠ 372 → h2 c = h c := fun c q1 q2 => by first | rw [f4 c q1 q2, f2 c q1 q2] | rw [f4 c q1 q2]
      refine aw_aload_n dX0_sizeOfReference_35 rfl ?_
      refine aw_iload_n dX0_sizeOfReference_36 rfl ?_
      refine aw_v1q dX0_sizeOfReference_37 vl_RX0_32 (by first | assumption | rfl) (Nat.le_of_ble_eq_true rfl) (Nat.le_of_ble_eq_true rfl) (Nat.le_of_ble_eq_true rfl) (Nat.le_refl _) (Nat.le_refl _) (c_X0_lentSize (by assumption) (RO_16 fr hro) (by rw [cV_16 fr]; exact hV) i0 (by rw [fr 16 (by decide) (by decide)]; exact i1)) ?_
      intro v t' h3 hq
      obtain ⟨rfl, rfl, f5, f6⟩ := hq
      rw [cV_16 fr]
      have fr2 : ∀ c, c ≠ 371 → c ≠ 372 → h3 c = h c := fun c q1 q2 => by rw [f6 c q1 q2, fr c q1 q2]
      refine aw_istore_n (ls' := [_, _, _, _]) dX0_sizeOfReference_40 (by decide) rfl ?_
      refine aw_iload_n dX0_sizeOfReference_41 rfl ?_
      refine aw_aload_n dX0_sizeOfReference_42 rfl ?_
      refine aw_iload_n dX0_sizeOfReference_43 rfl ?_
      refine aw_v1q dX0_sizeOfReference_44 vl_RX0_36 (by first | assumption | rfl) (Nat.le_of_ble_eq_true rfl) (Nat.le_of_ble_eq_true rfl) (Nat.le_of_ble_eq_true rfl) (Nat.le_refl _) (Nat.le_refl _) (c_X0_markOfReference (by assumption) (by rw [cV_16 fr2]; exact hV) i0 (by rw [fr2 16 (by decide) (by decide)]; exact i1)) ?_
      intro v t' h4 hq
      obtain ⟨rfl, rfl, f7, f8⟩ := hq
      rw [cV_16 fr2] at f7 ⊢
      refine aw_iadd dX0_sizeOfReference_47 (by omega) (by omega) ?_
      refine aw_istore_n (ls' := [_, _, _, _]) dX0_sizeOfReference_48 (by decide) rfl ?_
      refine aw_iload_n dX0_sizeOfReference_49 rfl ?_
      refine aw_if_eq 59 dX0_sizeOfReference_50 rfl (fun c50 => ?_) (fun c50 => ?_)
      · refine aw_iload_n dX0_sizeOfReference_59 rfl ?_
        refine aw_ireturn dX0_sizeOfReference_60 rfl (Nat.le_refl _) (Nat.le_refl _) ?_
        first | (exfalso; omega) | (refine ⟨rfl, ?_⟩; first | (rw [if_pos (by omega), if_pos (by omega)]; exact ⟨rfl, f7, fun c q1 q2 => by rw [f8 c q1 q2, fr2 c q1 q2]⟩) | (rw [if_neg (by omega), if_neg (by omega)]; exact ⟨rfl, f7, fun c q1 q2 => by rw [f8 c q1 q2, fr2 c q1 q2]⟩))
      · refine aw_iconst dX0_sizeOfReference_53 (by decide) (by decide) ?_
        refine aw_iload_n dX0_sizeOfReference_54 rfl ?_
        refine aw_isub dX0_sizeOfReference_55 (by omega) (by omega) ?_
        refine aw_goto 60 dX0_sizeOfReference_56 rfl ?_
        refine aw_ireturn dX0_sizeOfReference_60 rfl (Nat.le_refl _) (Nat.le_refl _) ?_
        first | (exfalso; omega) | (refine ⟨rfl, ?_⟩; first | (rw [if_pos (by omega), if_pos (by omega)]; exact ⟨rfl, f7, fun c q1 q2 => by rw [f8 c q1 q2, fr2 c q1 q2]⟩) | (rw [if_neg (by omega), if_neg (by omega)]; exact ⟨rfl, f7, fun c q1 q2 => by rw [f8 c q1 q2, fr2 c q1 q2]⟩))
    · refine aw_aload_n dX0_sizeOfReference_23 rfl ?_
      refine aw_bipush dX0_sizeOfReference_24 (by decide) (by decide) ?_
      refine aw_v1q dX0_sizeOfReference_26 vl_RX0_28 (by first | assumption | rfl) (Nat.le_of_ble_eq_true rfl) (Nat.le_of_ble_eq_true rfl) (Nat.le_of_ble_eq_true rfl) (Nat.le_refl _) (Nat.le_refl _) (c_X0_begin (by assumption)) ?_
      intro v t' h1 hq
      obtain ⟨rfl, rfl, f1, f2⟩ := hq
      refine aw_aload_n dX0_sizeOfReference_29 rfl ?_
      refine aw_bipush dX0_sizeOfReference_30 (by decide) (by decide) ?_
      refine aw_v1q dX0_sizeOfReference_32 vl_RX0_28 (by first | assumption | rfl) (Nat.le_of_ble_eq_true rfl) (Nat.le_of_ble_eq_true rfl) (Nat.le_of_ble_eq_true rfl) (Nat.le_refl _) (Nat.le_refl _) (c_X0_begin (by assumption)) ?_
      intro v t' h2 hq
      obtain ⟨rfl, rfl, f3, f4⟩ := hq
      have fr : ∀ c, c ≠ 371 → c ≠ 372 → h2 c = h c := fun c q1 q2 => by first | rw [f4 c q1 q2, f2 c q1 q2] | rw [f4 c q1 q2]
      refine aw_aload_n dX0_sizeOfReference_35 rfl ?_
      refine aw_iload_n dX0_sizeOfReference_36 rfl ?_
      refine aw_v1q dX0_sizeOfReference_37 vl_RX0_32 (by first | assumption | rfl) (Nat.le_of_ble_eq_true rfl) (Nat.le_of_ble_eq_true rfl) (Nat.le_of_ble_eq_true rfl) (Nat.le_refl _) (Nat.le_refl _) (c_X0_lentSize (by assumption) (RO_16 fr hro) (by rw [cV_16 fr]; exact hV) i0 (by rw [fr 16 (by decide) (by decide)]; exact i1)) ?_
      intro v t' h3 hq
      obtain ⟨rfl, rfl, f5, f6⟩ := hq
      rw [cV_16 fr]
      have fr2 : ∀ c, c ≠ 371 → c ≠ 372 → h3 c = h c := fun c q1 q2 => by rw [f6 c q1 q2, fr c q1 q2]
      refine aw_istore_n (ls' := [_, _, _, _]) dX0_sizeOfReference_40 (by decide) rfl ?_
      refine aw_iload_n dX0_sizeOfReference_41 rfl ?_
      refine aw_aload_n dX0_sizeOfReference_42 rfl ?_
      refine aw_iload_n dX0_sizeOfReference_43 rfl ?_
      refine aw_v1q dX0_sizeOfReference_44 vl_RX0_36 (by first | assumption | rfl) (Nat.le_of_ble_eq_true rfl) (Nat.le_of_ble_eq_true rfl) (Nat.le_of_ble_eq_true rfl) (Nat.le_refl _) (Nat.le_refl _) (c_X0_markOfReference (by assumption) (by rw [cV_16 fr2]; exact hV) i0 (by rw [fr2 16 (by decide) (by decide)]; exact i1)) ?_
      intro v t' h4 hq
      obtain ⟨rfl, rfl, f7, f8⟩ := hq
      rw [cV_16 fr2] at f7 ⊢
      refine aw_iadd dX0_sizeOfReference_47 (by omega) (by omega) ?_
      refine aw_istore_n (ls' := [_, _, _, _]) dX0_sizeOfReference_48 (by decide) rfl ?_
      refine aw_iload_n dX0_sizeOfReference_49 rfl ?_
      refine aw_if_eq 59 dX0_sizeOfReference_50 rfl (fun c50 => ?_) (fun c50 => ?_)
      · refine aw_iload_n dX0_sizeOfReference_59 rfl ?_
        refine aw_ireturn dX0_sizeOfReference_60 rfl (Nat.le_refl _) (Nat.le_refl _) ?_
        first | (exfalso; omega) | (refine ⟨rfl, ?_⟩; first | (rw [if_pos (by omega), if_pos (by omega)]; exact ⟨rfl, f7, fun c q1 q2 => by rw [f8 c q1 q2, fr2 c q1 q2]⟩) | (rw [if_neg (by omega), if_neg (by omega)]; exact ⟨rfl, f7, fun c q1 q2 => by rw [f8 c q1 q2, fr2 c q1 q2]⟩))
      · refine aw_iconst dX0_sizeOfReference_53 (by decide) (by decide) ?_
        refine aw_iload_n dX0_sizeOfReference_54 rfl ?_
        refine aw_isub dX0_sizeOfReference_55 (by omega) (by omega) ?_
        refine aw_goto 60 dX0_sizeOfReference_56 rfl ?_
        refine aw_ireturn dX0_sizeOfReference_60 rfl (Nat.le_refl _) (Nat.le_refl _) ?_
        first | (exfalso; omega) | (refine ⟨rfl, ?_⟩; first | (rw [if_pos (by omega), if_pos (by omega)]; exact ⟨rfl, f7, fun c q1 q2 => by rw [f8 c q1 q2, fr2 c q1 q2]⟩) | (rw [if_neg (by omega), if_neg (by omega)]; exact ⟨rfl, f7, fun c q1 q2 => by rw [f8 c q1 q2, fr2 c q1 q2]⟩))
set_option maxHeartbeats 1000000 in
theorem c_X0_sizeOfWord {T : TR} {i : Int} (hC : CSt h T) (hro : RO h) (hV : WFv (cV h 16)) (i0 : 0 ≤ i) (i1 : i < h 16 0) : Sem M_X0_sizeOfWord [vR 371, vI i] (TT e q n L) h 0 0 (fun v t' h' => t' = TT e q n L ∧ ASKp h T v (szW (cV h 16) i) h' (szWb (cV h 16) i)) := by
  have w2 := hV.2.1
  rw [cVc] at w2
  have k1 : cV h 16 1 i = h 17 i := cV1 i0 i1
  have hwb := wd_bd hV i0 (by rw [cVc]; exact i1)
  unfold ASKp szW szWb
  rw [k1]
  refine sem_intro (by decide) rfl (Nat.le_of_ble_eq_true rfl) rfl ?_
  refine aw_aload_n dX0_sizeOfWord_0 rfl ?_
  refine aw_getR1 dX0_sizeOfWord_1 fx_RX0_15 (by first | assumption | rfl) (by first | assumption | rfl) ?_
  refine aw_getR1 dX0_sizeOfWord_4 fx_RX0_23 (by first | assumption | rfl) (by first | assumption | rfl) ?_
  refine aw_iload_n dX0_sizeOfWord_7 rfl ?_
  refine aw_iaload dX0_sizeOfWord_8 (by first | assumption | rfl) (by omega) (by omega) ?_
  refine aw_iconst dX0_sizeOfWord_9 (by decide) (by decide) ?_
  refine aw_icmp_ne 17 dX0_sizeOfWord_10 rfl (fun c10 => ?_) (fun c10 => ?_)
  · refine aw_iconst dX0_sizeOfWord_17 (by decide) (by decide) ?_
    refine aw_istore_n (ls' := [_, _, _, _]) dX0_sizeOfWord_18 (by decide) rfl ?_
    refine aw_iload_n dX0_sizeOfWord_19 rfl ?_
    refine aw_if_eq 29 dX0_sizeOfWord_20 rfl (fun c20 => ?_) (fun c20 => ?_)
    · refine aw_aload_n dX0_sizeOfWord_29 rfl ?_
      refine aw_bipush dX0_sizeOfWord_30 (by decide) (by decide) ?_
      refine aw_v1q dX0_sizeOfWord_32 vl_RX0_28 (by first | assumption | rfl) (Nat.le_of_ble_eq_true rfl) (Nat.le_of_ble_eq_true rfl) (Nat.le_of_ble_eq_true rfl) (Nat.le_refl _) (Nat.le_refl _) (c_X0_begin (by assumption)) ?_
      intro v t' h2 hq
      obtain ⟨rfl, rfl, f3, f4⟩ := hq
      have fr : ∀ c, c ≠ 371 → c ≠ 372 → h2 c = h c := fun c q1 q2 => by first | rw [f4 c q1 q2, f2 c q1 q2] | rw [f4 c q1 q2]
      refine aw_aload_n dX0_sizeOfWord_35 rfl ?_
      refine aw_iload_n dX0_sizeOfWord_36 rfl ?_
      refine aw_v1q dX0_sizeOfWord_37 vl_RX0_32 (by first | assumption | rfl) (Nat.le_of_ble_eq_true rfl) (Nat.le_of_ble_eq_true rfl) (Nat.le_of_ble_eq_true rfl) (Nat.le_refl _) (Nat.le_refl _) (c_X0_lentSize (by assumption) (RO_16 fr hro) (by rw [cV_16 fr]; exact hV) i0 (by rw [fr 16 (by decide) (by decide)]; exact i1)) ?_
      intro v t' h3 hq
      obtain ⟨rfl, rfl, f5, f6⟩ := hq
      rw [cV_16 fr]
      have fr2 : ∀ c, c ≠ 371 → c ≠ 372 → h3 c = h c := fun c q1 q2 => by rw [f6 c q1 q2, fr c q1 q2]
      refine aw_bipush dX0_sizeOfWord_40 (by decide) (by decide) ?_
      refine aw_isub dX0_sizeOfWord_42 (by omega) (by omega) ?_
      refine aw_istore_n (ls' := [_, _, _, _]) dX0_sizeOfWord_43 (by decide) rfl ?_
      refine aw_iload_n dX0_sizeOfWord_44 rfl ?_
      refine aw_if_eq 54 dX0_sizeOfWord_45 rfl (fun c45 => ?_) (fun c45 => ?_)
      · refine aw_iload_n dX0_sizeOfWord_54 rfl ?_
        refine aw_ireturn dX0_sizeOfWord_55 rfl (Nat.le_refl _) (Nat.le_refl _) ?_
        first | (exfalso; omega) | (refine ⟨rfl, ?_⟩; first | (rw [if_pos (by omega), if_pos (by omega)]; exact ⟨rfl, f5, fr2⟩) | (rw [if_neg (by omega), if_neg (by omega)]; exact ⟨rfl, f5, fr2⟩))
      · refine aw_iload_n dX0_sizeOfWord_48 rfl ?_
        refine aw_iconst dX0_sizeOfWord_49 (by decide) (by decide) ?_
        refine aw_imul dX0_sizeOfWord_50 (by omega) (by omega) ?_
        refine aw_goto 55 dX0_sizeOfWord_51 rfl ?_
        refine aw_ireturn dX0_sizeOfWord_55 rfl (Nat.le_refl _) (Nat.le_refl _) ?_
        first | (exfalso; omega) | (refine ⟨rfl, ?_⟩; first | (rw [if_pos (by omega), if_pos (by omega)]; exact ⟨rfl, f5, fr2⟩) | (rw [if_neg (by omega), if_neg (by omega)]; exact ⟨rfl, f5, fr2⟩))
    · refine aw_aload_n dX0_sizeOfWord_23 rfl ?_
      refine aw_bipush dX0_sizeOfWord_24 (by decide) (by decide) ?_
      refine aw_v1q dX0_sizeOfWord_26 vl_RX0_28 (by first | assumption | rfl) (Nat.le_of_ble_eq_true rfl) (Nat.le_of_ble_eq_true rfl) (Nat.le_of_ble_eq_true rfl) (Nat.le_refl _) (Nat.le_refl _) (c_X0_begin (by assumption)) ?_
      intro v t' h1 hq
      obtain ⟨rfl, rfl, f1, f2⟩ := hq
      refine aw_aload_n dX0_sizeOfWord_29 rfl ?_
      refine aw_bipush dX0_sizeOfWord_30 (by decide) (by decide) ?_
      refine aw_v1q dX0_sizeOfWord_32 vl_RX0_28 (by first | assumption | rfl) (Nat.le_of_ble_eq_true rfl) (Nat.le_of_ble_eq_true rfl) (Nat.le_of_ble_eq_true rfl) (Nat.le_refl _) (Nat.le_refl _) (c_X0_begin (by assumption)) ?_
      intro v t' h2 hq
      obtain ⟨rfl, rfl, f3, f4⟩ := hq
      have fr : ∀ c, c ≠ 371 → c ≠ 372 → h2 c = h c := fun c q1 q2 => by first | rw [f4 c q1 q2, f2 c q1 q2] | rw [f4 c q1 q2]
      refine aw_aload_n dX0_sizeOfWord_35 rfl ?_
      refine aw_iload_n dX0_sizeOfWord_36 rfl ?_
      refine aw_v1q dX0_sizeOfWord_37 vl_RX0_32 (by first | assumption | rfl) (Nat.le_of_ble_eq_true rfl) (Nat.le_of_ble_eq_true rfl) (Nat.le_of_ble_eq_true rfl) (Nat.le_refl _) (Nat.le_refl _) (c_X0_lentSize (by assumption) (RO_16 fr hro) (by rw [cV_16 fr]; exact hV) i0 (by rw [fr 16 (by decide) (by decide)]; exact i1)) ?_
      intro v t' h3 hq
      obtain ⟨rfl, rfl, f5, f6⟩ := hq
      rw [cV_16 fr]
      have fr2 : ∀ c, c ≠ 371 → c ≠ 372 → h3 c = h c := fun c q1 q2 => by rw [f6 c q1 q2, fr c q1 q2]
      refine aw_bipush dX0_sizeOfWord_40 (by decide) (by decide) ?_
      refine aw_isub dX0_sizeOfWord_42 (by omega) (by omega) ?_
      refine aw_istore_n (ls' := [_, _, _, _]) dX0_sizeOfWord_43 (by decide) rfl ?_
      refine aw_iload_n dX0_sizeOfWord_44 rfl ?_
      refine aw_if_eq 54 dX0_sizeOfWord_45 rfl (fun c45 => ?_) (fun c45 => ?_)
      · refine aw_iload_n dX0_sizeOfWord_54 rfl ?_
        refine aw_ireturn dX0_sizeOfWord_55 rfl (Nat.le_refl _) (Nat.le_refl _) ?_
        first | (exfalso; omega) | (refine ⟨rfl, ?_⟩; first | (rw [if_pos (by omega), if_pos (by omega)]; exact ⟨rfl, f5, fr2⟩) | (rw [if_neg (by omega), if_neg (by omega)]; exact ⟨rfl, f5, fr2⟩))
      · refine aw_iload_n dX0_sizeOfWord_48 rfl ?_
        refine aw_iconst dX0_sizeOfWord_49 (by decide) (by decide) ?_
        refine aw_imul dX0_sizeOfWord_50 (by omega) (by omega) ?_
        refine aw_goto 55 dX0_sizeOfWord_51 rfl ?_
        refine aw_ireturn dX0_sizeOfWord_55 rfl (Nat.le_refl _) (Nat.le_refl _) ?_
        first | (exfalso; omega) | (refine ⟨rfl, ?_⟩; first | (rw [if_pos (by omega), if_pos (by omega)]; exact ⟨rfl, f5, fr2⟩) | (rw [if_neg (by omega), if_neg (by omega)]; exact ⟨rfl, f5, fr2⟩))
  · refine aw_iconst dX0_sizeOfWord_13 (by decide) (by decide) ?_
    refine aw_goto 18 dX0_sizeOfWord_14 rfl ?_
    refine aw_istore_n (ls' := [_, _, _, _]) dX0_sizeOfWord_18 (by decide) rfl ?_
    refine aw_iload_n dX0_sizeOfWord_19 rfl ?_
    refine aw_if_eq 29 dX0_sizeOfWord_20 rfl (fun c20 => ?_) (fun c20 => ?_)
    · refine aw_aload_n dX0_sizeOfWord_29 rfl ?_
      refine aw_bipush dX0_sizeOfWord_30 (by decide) (by decide) ?_
      refine aw_v1q dX0_sizeOfWord_32 vl_RX0_28 (by first | assumption | rfl) (Nat.le_of_ble_eq_true rfl) (Nat.le_of_ble_eq_true rfl) (Nat.le_of_ble_eq_true rfl) (Nat.le_refl _) (Nat.le_refl _) (c_X0_begin (by assumption)) ?_
      intro v t' h2 hq
      obtain ⟨rfl, rfl, f3, f4⟩ := hq
      have fr : ∀ c, c ≠ 371 → c ≠ 372 → h2 c = h c := fun c q1 q2 => by first | rw [f4 c q1 q2, f2 c q1 q2] | rw [f4 c q1 q2]
      refine aw_aload_n dX0_sizeOfWord_35 rfl ?_
      refine aw_iload_n dX0_sizeOfWord_36 rfl ?_
      refine aw_v1q dX0_sizeOfWord_37 vl_RX0_32 (by first | assumption | rfl) (Nat.le_of_ble_eq_true rfl) (Nat.le_of_ble_eq_true rfl) (Nat.le_of_ble_eq_true rfl) (Nat.le_refl _) (Nat.le_refl _) (c_X0_lentSize (by assumption) (RO_16 fr hro) (by rw [cV_16 fr]; exact hV) i0 (by rw [fr 16 (by decide) (by decide)]; exact i1)) ?_
      intro v t' h3 hq
      obtain ⟨rfl, rfl, f5, f6⟩ := hq
      rw [cV_16 fr]
      have fr2 : ∀ c, c ≠ 371 → c ≠ 372 → h3 c = h c := fun c q1 q2 => by rw [f6 c q1 q2, fr c q1 q2]
      refine aw_bipush dX0_sizeOfWord_40 (by decide) (by decide) ?_
      refine aw_isub dX0_sizeOfWord_42 (by omega) (by omega) ?_
      refine aw_istore_n (ls' := [_, _, _, _]) dX0_sizeOfWord_43 (by decide) rfl ?_
      refine aw_iload_n dX0_sizeOfWord_44 rfl ?_
      refine aw_if_eq 54 dX0_sizeOfWord_45 rfl (fun c45 => ?_) (fun c45 => ?_)
      · refine aw_iload_n dX0_sizeOfWord_54 rfl ?_
        refine aw_ireturn dX0_sizeOfWord_55 rfl (Nat.le_refl _) (Nat.le_refl _) ?_
        first | (exfalso; omega) | (refine ⟨rfl, ?_⟩; first | (rw [if_pos (by omega), if_pos (by omega)]; exact ⟨rfl, f5, fr2⟩) | (rw [if_neg (by omega), if_neg (by omega)]; exact ⟨rfl, f5, fr2⟩))
      · refine aw_iload_n dX0_sizeOfWord_48 rfl ?_
        refine aw_iconst dX0_sizeOfWord_49 (by decide) (by decide) ?_
        refine aw_imul dX0_sizeOfWord_50 (by omega) (by omega) ?_
        refine aw_goto 55 dX0_sizeOfWord_51 rfl ?_
        refine aw_ireturn dX0_sizeOfWord_55 rfl (Nat.le_refl _) (Nat.le_refl _) ?_
        first | (exfalso; omega) | (refine ⟨rfl, ?_⟩; first | (rw [if_pos (by omega), if_pos (by omega)]; exact ⟨rfl, f5, fr2⟩) | (rw [if_neg (by omega), if_neg (by omega)]; exact ⟨rfl, f5, fr2⟩))
    · refine aw_aload_n dX0_sizeOfWord_23 rfl ?_
      refine aw_bipush dX0_sizeOfWord_24 (by decide) (by decide) ?_
      refine aw_v1q dX0_sizeOfWord_26 vl_RX0_28 (by first | assumption | rfl) (Nat.le_of_ble_eq_true rfl) (Nat.le_of_ble_eq_true rfl) (Nat.le_of_ble_eq_true rfl) (Nat.le_refl _) (Nat.le_refl _) (c_X0_begin (by assumption)) ?_
      intro v t' h1 hq
      obtain ⟨rfl, rfl, f1, f2⟩ := hq
      refine aw_aload_n dX0_sizeOfWord_29 rfl ?_
      refine aw_bipush dX0_sizeOfWord_30 (by decide) (by decide) ?_
      refine aw_v1q dX0_sizeOfWord_32 vl_RX0_28 (by first | assumption | rfl) (Nat.le_of_ble_eq_true rfl) (Nat.le_of_ble_eq_true rfl) (Nat.le_of_ble_eq_true rfl) (Nat.le_refl _) (Nat.le_refl _) (c_X0_begin (by assumption)) ?_
      intro v t' h2 hq
      obtain ⟨rfl, rfl, f3, f4⟩ := hq
      have fr : ∀ c, c ≠ 371 → c ≠ 372 → h2 c = h c := fun c q1 q2 => by first | rw [f4 c q1 q2, f2 c q1 q2] | rw [f4 c q1 q2]
      refine aw_aload_n dX0_sizeOfWord_35 rfl ?_
      refine aw_iload_n dX0_sizeOfWord_36 rfl ?_
      refine aw_v1q dX0_sizeOfWord_37 vl_RX0_32 (by first | assumption | rfl) (Nat.le_of_ble_eq_true rfl) (Nat.le_of_ble_eq_true rfl) (Nat.le_of_ble_eq_true rfl) (Nat.le_refl _) (Nat.le_refl _) (c_X0_lentSize (by assumption) (RO_16 fr hro) (by rw [cV_16 fr]; exact hV) i0 (by rw [fr 16 (by decide) (by decide)]; exact i1)) ?_
      intro v t' h3 hq
      obtain ⟨rfl, rfl, f5, f6⟩ := hq
      rw [cV_16 fr]
      have fr2 : ∀ c, c ≠ 371 → c ≠ 372 → h3 c = h c := fun c q1 q2 => by rw [f6 c q1 q2, fr c q1 q2]
      refine aw_bipush dX0_sizeOfWord_40 (by decide) (by decide) ?_
      refine aw_isub dX0_sizeOfWord_42 (by omega) (by omega) ?_
      refine aw_istore_n (ls' := [_, _, _, _]) dX0_sizeOfWord_43 (by decide) rfl ?_
      refine aw_iload_n dX0_sizeOfWord_44 rfl ?_
      refine aw_if_eq 54 dX0_sizeOfWord_45 rfl (fun c45 => ?_) (fun c45 => ?_)
      · refine aw_iload_n dX0_sizeOfWord_54 rfl ?_
        refine aw_ireturn dX0_sizeOfWord_55 rfl (Nat.le_refl _) (Nat.le_refl _) ?_
        first | (exfalso; omega) | (refine ⟨rfl, ?_⟩; first | (rw [if_pos (by omega), if_pos (by omega)]; exact ⟨rfl, f5, fr2⟩) | (rw [if_neg (by omega), if_neg (by omega)]; exact ⟨rfl, f5, fr2⟩))
      · refine aw_iload_n dX0_sizeOfWord_48 rfl ?_
        refine aw_iconst dX0_sizeOfWord_49 (by decide) (by decide) ?_
        refine aw_imul dX0_sizeOfWord_50 (by omega) (by omega) ?_
        refine aw_goto 55 dX0_sizeOfWord_51 rfl ?_
        refine aw_ireturn dX0_sizeOfWord_55 rfl (Nat.le_refl _) (Nat.le_refl _) ?_
        first | (exfalso; omega) | (refine ⟨rfl, ?_⟩; first | (rw [if_pos (by omega), if_pos (by omega)]; exact ⟨rfl, f5, fr2⟩) | (rw [if_neg (by omega), if_neg (by omega)]; exact ⟨rfl, f5, fr2⟩))
theorem c_X0_markOfWord {T : TR} {i : Int} (hC : CSt h T) (hro : RO h) (hV : WFv (cV h 16)) (i0 : 0 ≤ i) (i1 : i < h 16 0) : Sem M_X0_markOfWord [vR 371, vI i] (TT e q n L) h 0 0 (fun v t' h' => t' = TT e q n L ∧ ASKp h T v (mkW (cV h 16) i) h' (mkWb (cV h 16) i)) := by
  have w2 := hV.2.1
  rw [cVc] at w2
  have hwb := wd_bd hV i0 (by rw [cVc]; exact i1)
  have hsb : -1000 ≤ szW (cV h 16) i ∧ szW (cV h 16) i ≤ 1000 := by unfold szW; split <;> omega
  refine sem_intro (by decide) rfl (Nat.le_of_ble_eq_true rfl) rfl ?_
  refine aw_aload_n dX0_markOfWord_0 rfl ?_
  refine aw_bipush dX0_markOfWord_1 (by decide) (by decide) ?_
  refine aw_v1q dX0_markOfWord_3 vl_RX0_28 (by first | assumption | rfl) (Nat.le_of_ble_eq_true rfl) (Nat.le_of_ble_eq_true rfl) (Nat.le_of_ble_eq_true rfl) (Nat.le_refl _) (Nat.le_refl _) (c_X0_begin (by assumption)) ?_
  intro v t' h2 hq
  obtain ⟨rfl, rfl, f3, f4⟩ := hq
  refine aw_aload_n dX0_markOfWord_6 rfl ?_
  refine aw_iload_n dX0_markOfWord_7 rfl ?_
  refine aw_v1q dX0_markOfWord_8 vl_RX0_39 (by first | assumption | rfl) (Nat.le_of_ble_eq_true rfl) (Nat.le_of_ble_eq_true rfl) (Nat.le_of_ble_eq_true rfl) (Nat.le_refl _) (Nat.le_refl _) (c_X0_lentMark (by assumption)) ?_
  intro v t' h3 hq
  obtain ⟨rfl, rfl, f5, f6⟩ := hq
  have fr2 : ∀ c, c ≠ 371 → c ≠ 372 → h3 c = h c := fun c q1 q2 => by rw [f6 c q1 q2, f4 c q1 q2]
  refine aw_istore_n (ls' := [_, _, _]) dX0_markOfWord_11 (by decide) rfl ?_
  refine aw_iload_n dX0_markOfWord_12 rfl ?_
  refine aw_aload_n dX0_markOfWord_13 rfl ?_
  refine aw_iload_n dX0_markOfWord_14 rfl ?_
  refine aw_v1q dX0_markOfWord_15 vl_RX0_45 (by first | assumption | rfl) (Nat.le_of_ble_eq_true rfl) (Nat.le_of_ble_eq_true rfl) (Nat.le_of_ble_eq_true rfl) (Nat.le_refl _) (Nat.le_refl _) (c_X0_sizeOfWord (by assumption) (RO_16 fr2 hro) (by rw [cV_16 fr2]; exact hV) i0 (by rw [fr2 16 (by decide) (by decide)]; exact i1)) ?_
  intro v t' h4 hq
  obtain ⟨rfl, rfl, f7, f8⟩ := hq
  rw [cV_16 fr2] at f7 ⊢
  refine aw_isub dX0_markOfWord_18 (by omega) (by omega) ?_
  refine aw_ireturn dX0_markOfWord_19 rfl (Nat.le_refl _) (Nat.le_refl _) ?_
  exact ⟨rfl, rfl, f7, fun c q1 q2 => by rw [f8 c q1 q2, fr2 c q1 q2]⟩
end AS2
