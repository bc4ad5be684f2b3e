def up1 (f : Int → Int) (i v : Int) : Int → Int := fun j => if j = i then v else f j
def up2 (f : Int → Int → Int) (i : Int) (g : Int → Int) : Int → Int → Int := fun j => if j = i then g else f j
def wFnd (σ : ST) (f : Int) : ST := (σ.1, σ.2.1, σ.2.2.1, f, σ.2.2.2.2)
def sp_row (σ : ST) (r l k : Int) : Int × ST := if ¬ (0 ≤ r ∧ r < 8) ∨ ¬ (0 ≤ l ∧ l ≤ 2) ∨ 40 < k then (-1000001, σ) else if k < 0 then (-1000014, wFnd σ 4) else (k, (up1 σ.1 r l, up1 σ.2.1 r k, up2 σ.2.2.1 r (fun _ => 0), 0, σ.2.2.2.2))
def sp_set (σ : ST) (r i v : Int) : Int × ST := if ¬ (0 ≤ r ∧ r < 8) then (-1000001, σ) else if s_lan σ r = -1 then (-1000011, wFnd σ 1) else if ¬ (0 ≤ i ∧ i < s_siz σ r) then (-1000012, wFnd σ 2) else (low (s_lan σ r) v, (σ.1, σ.2.1, up2 σ.2.2.1 r (up1 (s_val σ r) i (low (s_lan σ r) v)), 0, σ.2.2.2.2))
def part (σ : ST) (r i k : Int) : Prop := 0 ≤ i ∧ 0 ≤ k ∧ i ≤ s_siz σ r ∧ k ≤ s_siz σ r - i
def sp_copy (σ : ST) (a i b j k : Int) : Int × ST := if ¬ (0 ≤ a ∧ a < 8) ∨ ¬ (0 ≤ b ∧ b < 8) then (-1000001, σ) else if s_lan σ a = -1 ∨ s_lan σ b = -1 then (-1000011, wFnd σ 1) else if s_lan σ a ≠ s_lan σ b then (-1000015, wFnd σ 5)
  else if ¬ (0 ≤ i ∧ 0 ≤ k ∧ i ≤ s_siz σ a ∧ k ≤ s_siz σ a - i ∧ 0 ≤ j ∧ j ≤ s_siz σ b ∧ k ≤ s_siz σ b - j) then (-1000012, wFnd σ 2) else (k, (σ.1, σ.2.1, up2 σ.2.2.1 b (fun x => if j ≤ x ∧ x < j + k then s_val σ a (i + (x - j)) else s_val σ b x), 0, σ.2.2.2.2))
def sp_drop (σ : ST) (r : Int) : Int × ST := if ¬ (0 ≤ r ∧ r < 8) then (-1000001, σ) else if s_lan σ r = -1 then (-1000011, wFnd σ 1) else (s_siz σ r, (up1 σ.1 r (-1), σ.2.1, σ.2.2.1, 0, σ.2.2.2.2))
def sp_feed (σ : ST) (x : Int) : Int × ST := if x < 0 ∨ 255 < x then (-1000001, σ) else if (s_tap σ).1 = 80 then (-1000003, σ) else ((s_tap σ).1 + 1, (σ.1, σ.2.1, σ.2.2.1, σ.2.2.2.1, ((s_tap σ).1 + 1, up1 (s_tap σ).2 (s_tap σ).1 x), σ.2.2.2.2.2))
/-- a call's end, on the program's side -/
def PC (sp : Int × ST) (h : Mem) (t : Tp) : Option AV → Tp → Mem → Prop := fun v t' h' => v = some (vI sp.1) ∧ t' = t ∧ CS h' sp.2 ∧ ∀ c, 373 ≤ c → h' c = h c
theorem CS.mkR {h h' : Mem} {σ : ST} {l s : Int → Int} {v : Int → Int → Int} {f : Int} (hC : CS h σ) (fr : ∀ c, c ≠ 0 → (c < 2 ∨ 12 < c) → h' c = h c) (f0 : ∀ j, j ≠ 12 → h' 0 j = h 0 j) (ff : h' 0 12 = f) (hr : ∀ i, 0 ≤ i → i < 8 → h' 2 i = l i ∧ h' 3 i = s i ∧ ∀ j, 0 ≤ j → j < 40 → h' (5 + i.toNat) j = v i j) : CS h' (l, s, v, f, σ.2.2.2.2) := by
  obtain ⟨-, -, a3, a4, a5, a6, a7, a8⟩ := hC
  refine ⟨hr, ff, ⟨by rw [f0 2 (by decide)]; exact a3.1, fun j j0 j1 => by rw [fr 13 (by decide) (by omega)]; exact a3.2 j j0 j1⟩, by rw [f0 11 (by decide)]; exact a4, ?_, a6.fr (fun c _ _ => fr c (by omega) (by omega)), fun k k0 k1 => ?_, ⟨by rw [fr 371 (by decide) (by omega)]; exact a8.1, fun j j0 j1 => by rw [fr 372 (by decide) (by omega)]; exact a8.2 j j0 j1⟩⟩
  · rw [show s_liv (l, s, v, f, σ.2.2.2.2) = s_liv σ from rfl, ← a5]
    exact cV_congr (fun k _ _ => by rw [fr _ (by omega) (by omega)]) (fun j k _ _ _ _ => by rw [fr _ (by omega) (by omega)])
  · rw [show s_img (l, s, v, f, σ.2.2.2.2) k = s_img σ k from rfl, ← a7 k k0 k1]
    exact cV_congr (fun k _ _ => by rw [fr _ (by omega) (by omega)]) (fun j k _ _ _ _ => by rw [fr _ (by omega) (by omega)])
theorem CS.mkF {h h' : Mem} {σ : ST} {f : Int} (hC : CS h σ) (fr : ∀ c, c ≠ 0 → h' c = h c) (f0 : ∀ j, j ≠ 12 → h' 0 j = h 0 j) (ff : h' 0 12 = f) : CS h' (wFnd σ f) :=
  hC.mkR (fun c c0 _ => fr c c0) f0 ff (fun i i0 i1 => by
    obtain ⟨a, b, c⟩ := hC.1 i i0 i1
    exact ⟨by rw [fr 2 (by decide)]; exact a, by rw [fr 3 (by decide)]; exact b, fun j j0 j1 => by rw [fr _ (by omega)]; exact c j j0 j1⟩)
theorem CS.upF {h : Mem} {σ : ST} {f : Int} (hC : CS h σ) : CS (am_up h 0 12 f) (wFnd σ f) := hC.mkF (fun c hc => am_up_ne hc) (fun j hj => by simp [am_up, hj]) (by simp [am_up])
section ROP
variable {e q n L : Nat} {h : Mem} {σ : ST}
theorem c_X8_row {r l k : Int} (hC : CS h σ) (hW : WFst σ) : Sem M_X8_row [vR 0, vI r, vI l, vI k] (TT e q n L) h 0 0 (PC (sp_row σ r l k) h (TT e q n L)) := by
  refine sem_intro (by decide) rfl (Nat.le_of_ble_eq_true rfl) rfl ?_
  refine aw_iload_n dX8_row_0 rfl ?_
  refine aw_s1i dX8_row_1 sl_RX8_73 (Nat.le_of_ble_eq_true rfl) (Nat.le_of_ble_eq_true rfl) (Nat.le_of_ble_eq_true rfl) (Nat.le_refl _) (Nat.le_refl _) (c_X5_isNumber) ?_
  refine aw_ifB_eq 20 dX8_row_4 rfl (fun c4 => ?_) (fun c4 => ?_)
  · refine aw_ldc (n := -1000001) dX8_row_20 kc_RX8_80 (by decide) ?_
    refine aw_ireturn dX8_row_22 rfl (Nat.le_refl _) (Nat.le_refl _) ?_
    unfold sp_row
    rw [if_pos (by omega)]
    exact ⟨rfl, rfl, hC, fun _ _ => rfl⟩
  · refine aw_iload_n dX8_row_7 rfl ?_
    refine aw_s1i dX8_row_8 sl_RX8_77 (Nat.le_of_ble_eq_true rfl) (Nat.le_of_ble_eq_true rfl) (Nat.le_of_ble_eq_true rfl) (Nat.le_refl _) (Nat.le_refl _) (c_X5_isLane) ?_
    refine aw_ifB_eq 20 dX8_row_11 rfl (fun c11 => ?_) (fun c11 => ?_)
    · refine aw_ldc (n := -1000001) dX8_row_20 kc_RX8_80 (by decide) ?_
      refine aw_ireturn dX8_row_22 rfl (Nat.le_refl _) (Nat.le_refl _) ?_
      unfold sp_row
      rw [if_pos (by omega)]
      exact ⟨rfl, rfl, hC, fun _ _ => rfl⟩
    · refine aw_iload_n dX8_row_14 rfl ?_
      refine aw_bipush dX8_row_15 (by decide) (by decide) ?_
      refine aw_icmp_le 23 dX8_row_17 rfl (fun c17 => ?_) (fun c17 => ?_)
      · refine aw_iload_n dX8_row_23 rfl ?_
        refine aw_if_ge 33 dX8_row_24 rfl (fun c24 => ?_) (fun c24 => ?_)
        · refine aw_aload_n dX8_row_33 rfl ?_
          refine aw_getR1 dX8_row_34 fx_RX8_10 (by first | rfl | assumption) (by first | rfl | assumption) ?_
          refine aw_iload_n dX8_row_37 rfl ?_
          refine aw_iload_n dX8_row_38 rfl ?_
          refine aw_iload_n dX8_row_39 rfl ?_
          refine aw_v3v dX8_row_40 vl_RX8_85 (by first | rfl | assumption) (Nat.le_of_ble_eq_true rfl) (Nat.le_of_ble_eq_true rfl) (Nat.le_of_ble_eq_true rfl) (Nat.le_refl _) (Nat.le_refl _) (c_X5_make (by omega) (by omega)) ?_
          refine aw_aload_n dX8_row_43 rfl ?_
          refine aw_iload_n dX8_row_44 rfl ?_
          refine aw_v1i dX8_row_45 vl_RX8_89 (by first | rfl | assumption) (Nat.le_of_ble_eq_true rfl) (Nat.le_of_ble_eq_true rfl) (Nat.le_of_ble_eq_true rfl) (Nat.le_refl _) (Nat.le_refl _) (c_X8_sound) ?_
          refine aw_ireturn dX8_row_48 rfl (Nat.le_refl _) (Nat.le_refl _) ?_
          unfold sp_row
          rw [if_neg (by omega), if_neg (by omega)]
          refine ⟨rfl, rfl, hC.mkR (fun c c0 c1 => ?_) (fun j hj => ?_) (by simp [am_up]) (fun i i0 i1 => ?_), fun c hc => ?_⟩
          · rw [am_up_ne c0]
            funext x
            unfold am_fill
            rw [if_neg (by omega), am_up_ne (by omega), am_up_ne (by omega)]
          · simp [am_up, hj, am_fill, show ¬ 0 = 5 + r.toNat by omega]
          · obtain ⟨a, b, c⟩ := hC.1 i i0 i1
            refine ⟨?_, ?_, fun j j0 j1 => ?_⟩
            · rw [am_up_ne (by omega)]
              unfold am_fill up1
              rw [if_neg (by omega), am_up_ne (by omega)]
              unfold am_up
              by_cases ei : i = r
              · rw [if_pos ⟨rfl, ei⟩, if_pos ei]
              · rw [if_neg (by omega), if_neg ei]; exact a
            · rw [am_up_ne (by omega)]
              unfold am_fill up1
              rw [if_neg (by omega)]
              by_cases ei : i = r
              · rw [if_pos ei]; simp [am_up, ei]
              · rw [if_neg ei]; refine Eq.trans ?_ b; simp [am_up, ei]
            · rw [am_up_ne (by omega)]
              unfold am_fill up2
              by_cases ei : i = r
              · rw [if_pos ei, if_pos (by omega)]
              · rw [if_neg ei, if_neg (by omega), am_up_ne (by omega), am_up_ne (by omega)]; exact c j j0 j1
          · rw [am_up_ne (by omega)]
            funext x
            unfold am_fill
            rw [if_neg (by omega), am_up_ne (by omega), am_up_ne (by omega)]
        · refine aw_aload_n dX8_row_27 rfl ?_
          refine aw_iconst dX8_row_28 (by decide) (by decide) ?_
          refine aw_v1i dX8_row_29 vl_RX8_81 (by first | rfl | assumption) (Nat.le_of_ble_eq_true rfl) (Nat.le_of_ble_eq_true rfl) (Nat.le_of_ble_eq_true rfl) (Nat.le_refl _) (Nat.le_refl _) (c_X8_found (by decide) (by decide)) ?_
          refine aw_ireturn dX8_row_32 rfl (Nat.le_refl _) (Nat.le_refl _) ?_
          unfold sp_row
          rw [if_neg (by omega), if_pos (by omega)]
          exact ⟨rfl, rfl, hC.upF, fun c hc => am_up_ne (by omega)⟩
      · refine aw_ldc (n := -1000001) dX8_row_20 kc_RX8_80 (by decide) ?_
        refine aw_ireturn dX8_row_22 rfl (Nat.le_refl _) (Nat.le_refl _) ?_
        unfold sp_row
        rw [if_pos (by omega)]
        exact ⟨rfl, rfl, hC, fun _ _ => rfl⟩
theorem c_X8_set {r i v : Int} (hC : CS h σ) (hW : WFst σ) : Sem M_X8_set [vR 0, vI r, vI i, vI v] (TT e q n L) h 0 0 (PC (sp_set σ r i v) h (TT e q n L)) := by
  have hr : 0 ≤ r ∧ r < 8 → h 2 r = s_lan σ r ∧ h 3 r = s_siz σ r ∧ 0 ≤ s_siz σ r ∧ s_siz σ r ≤ 40 := fun z => ⟨(hC.1 r z.1 z.2).1, (hC.1 r z.1 z.2).2.1, (hW.1 r z.1 z.2).2.2⟩
  refine sem_intro (by decide) rfl (Nat.le_of_ble_eq_true rfl) rfl ?_
  refine aw_iload_n dX8_set_0 rfl ?_
  refine aw_s1i dX8_set_1 sl_RX8_73 (Nat.le_of_ble_eq_true rfl) (Nat.le_of_ble_eq_true rfl) (Nat.le_of_ble_eq_true rfl) (Nat.le_refl _) (Nat.le_refl _) (c_X5_isNumber) ?_
  refine aw_ifB_ne 10 dX8_set_4 rfl (fun c4 => ?_) (fun c4 => ?_)
  · refine aw_aload_n dX8_set_10 rfl ?_
    refine aw_getR1 dX8_set_11 fx_RX8_10 (by first | rfl | assumption) (by first | rfl | assumption) ?_
    refine aw_iload_n dX8_set_14 rfl ?_
    refine aw_v1i dX8_set_15 vl_RX8_92 (by first | rfl | assumption) (Nat.le_of_ble_eq_true rfl) (Nat.le_of_ble_eq_true rfl) (Nat.le_of_ble_eq_true rfl) (Nat.le_refl _) (Nat.le_refl _) (c_X5_isMissing (by omega) (by omega)) ?_
    refine aw_ifB_eq 27 dX8_set_18 rfl (fun c18 => ?_) (fun c18 => ?_)
    · have hr2 := hr c4
      refine aw_aload_n dX8_set_27 rfl ?_
      refine aw_getR1 dX8_set_28 fx_RX8_10 (by first | rfl | assumption) (by first | rfl | assumption) ?_
      refine aw_iload_n dX8_set_31 rfl ?_
      refine aw_iload_n dX8_set_32 rfl ?_
      refine aw_iconst dX8_set_33 (by decide) (by decide) ?_
      refine aw_v3i dX8_set_34 vl_RX8_95 (by first | rfl | assumption) (Nat.le_of_ble_eq_true rfl) (Nat.le_of_ble_eq_true rfl) (Nat.le_of_ble_eq_true rfl) (Nat.le_refl _) (Nat.le_refl _) (c_X5_hasPlaces (by omega) (by omega) (by omega) (by omega)) ?_
      refine aw_ifB_ne 46 dX8_set_37 rfl (fun c37 => ?_) (fun c37 => ?_)
      · refine aw_aload_n dX8_set_46 rfl ?_
        refine aw_aload_n dX8_set_47 rfl ?_
        refine aw_getR1 dX8_set_48 fx_RX8_10 (by first | rfl | assumption) (by first | rfl | assumption) ?_
        refine aw_iload_n dX8_set_51 rfl ?_
        refine aw_iload_n dX8_set_52 rfl ?_
        refine aw_iload_n dX8_set_53 rfl ?_
        refine aw_v3i dX8_set_54 vl_RX8_99 (by first | rfl | assumption) (Nat.le_of_ble_eq_true rfl) (Nat.le_of_ble_eq_true rfl) (Nat.le_of_ble_eq_true rfl) (Nat.le_refl _) (Nat.le_refl _) (c_X5_put (by omega) (by omega) (by omega) (by omega)) ?_
        refine aw_v1i dX8_set_57 vl_RX8_89 (by first | rfl | assumption) (Nat.le_of_ble_eq_true rfl) (Nat.le_of_ble_eq_true rfl) (Nat.le_of_ble_eq_true rfl) (Nat.le_refl _) (Nat.le_refl _) (c_X8_sound) ?_
        refine aw_ireturn dX8_set_60 rfl (Nat.le_refl _) (Nat.le_refl _) ?_
        unfold sp_set
        rw [if_neg (by omega), if_neg (by omega), if_neg (by omega)]
        refine ⟨by rw [hr2.1], rfl, hC.mkR (fun c d0 d1 => by rw [am_up_ne d0, am_up_ne (by omega)]) (fun j hj => by simp [am_up, hj, show ¬ 0 = 5 + r.toNat by omega]) (by simp [am_up]) (fun x x0 x1 => ?_), fun c hc => by rw [am_up_ne (by omega), am_up_ne (by omega)]⟩
        obtain ⟨a, b, c⟩ := hC.1 x x0 x1
        refine ⟨by rw [am_up_ne (by omega), am_up_ne (by omega)]; exact a, by rw [am_up_ne (by omega), am_up_ne (by omega)]; exact b, fun j j0 j1 => ?_⟩
        rw [am_up_ne (by omega)]
        unfold up2 up1 am_up
        by_cases ei : x = r
        · rw [if_pos ei]
          by_cases ej : j = i
          · rw [if_pos ⟨by rw [ei], ej⟩, if_pos ej, hr2.1]
          · rw [if_neg (by omega), if_neg ej, ← ei]; exact c j j0 j1
        · rw [if_neg ei, if_neg (by omega)]; exact c j j0 j1
      · refine aw_aload_n dX8_set_40 rfl ?_
        refine aw_iconst dX8_set_41 (by decide) (by decide) ?_
        refine aw_v1i dX8_set_42 vl_RX8_81 (by first | rfl | assumption) (Nat.le_of_ble_eq_true rfl) (Nat.le_of_ble_eq_true rfl) (Nat.le_of_ble_eq_true rfl) (Nat.le_refl _) (Nat.le_refl _) (c_X8_found (by decide) (by decide)) ?_
        refine aw_ireturn dX8_set_45 rfl (Nat.le_refl _) (Nat.le_refl _) ?_
        have hr2 := hr c4
        unfold sp_set
        rw [if_neg (by omega), if_neg (by omega), if_pos (by omega)]
        exact ⟨rfl, rfl, hC.upF, fun c hc => am_up_ne (by omega)⟩
    · refine aw_aload_n dX8_set_21 rfl ?_
      refine aw_iconst dX8_set_22 (by decide) (by decide) ?_
      refine aw_v1i dX8_set_23 vl_RX8_81 (by first | rfl | assumption) (Nat.le_of_ble_eq_true rfl) (Nat.le_of_ble_eq_true rfl) (Nat.le_of_ble_eq_true rfl) (Nat.le_refl _) (Nat.le_refl _) (c_X8_found (by decide) (by decide)) ?_
      refine aw_ireturn dX8_set_26 rfl (Nat.le_refl _) (Nat.le_refl _) ?_
      have hr2 := hr c4
      unfold sp_set
      rw [if_neg (by omega), if_pos (by omega)]
      exact ⟨rfl, rfl, hC.upF, fun c hc => am_up_ne (by omega)⟩
  · refine aw_ldc (n := -1000001) dX8_set_7 kc_RX8_80 (by decide) ?_
    refine aw_ireturn dX8_set_9 rfl (Nat.le_refl _) (Nat.le_refl _) ?_
    unfold sp_set
    rw [if_pos c4]
    exact ⟨rfl, rfl, hC, fun _ _ => rfl⟩
set_option maxHeartbeats 1000000 in
theorem c_X8_copy {a i b j k : Int} (hC : CS h σ) (hW : WFst σ) : Sem M_X8_copy [vR 0, vI a, vI i, vI b, vI j, vI k] (TT e q n L) h 0 0 (PC (sp_copy σ a i b j k) h (TT e q n L)) := by
  have hr : ∀ r, 0 ≤ r ∧ r < 8 → h 2 r = s_lan σ r ∧ h 3 r = s_siz σ r ∧ 0 ≤ s_siz σ r ∧ s_siz σ r ≤ 40 := fun r z => ⟨(hC.1 r z.1 z.2).1, (hC.1 r z.1 z.2).2.1, (hW.1 r z.1 z.2).2.2⟩
  refine sem_intro (by decide) rfl (Nat.le_of_ble_eq_true rfl) rfl ?_
  refine aw_iload_n dX8_copy_0 rfl ?_
  refine aw_s1i dX8_copy_1 sl_RX8_73 (Nat.le_of_ble_eq_true rfl) (Nat.le_of_ble_eq_true rfl) (Nat.le_of_ble_eq_true rfl) (Nat.le_refl _) (Nat.le_refl _) (c_X5_isNumber) ?_
  refine aw_ifB_eq 14 dX8_copy_4 rfl (fun c4 => ?_) (fun c4 => ?_)
  · refine aw_ldc (n := -1000001) dX8_copy_14 kc_RX8_80 (by decide) ?_
    refine aw_ireturn dX8_copy_16 rfl (Nat.le_refl _) (Nat.le_refl _) ?_
    unfold sp_copy
    rw [if_pos (by omega)]
    exact ⟨rfl, rfl, hC, fun _ _ => rfl⟩
  · refine aw_iload_n dX8_copy_7 rfl ?_
    refine aw_s1i dX8_copy_8 sl_RX8_73 (Nat.le_of_ble_eq_true rfl) (Nat.le_of_ble_eq_true rfl) (Nat.le_of_ble_eq_true rfl) (Nat.le_refl _) (Nat.le_refl _) (c_X5_isNumber) ?_
    refine aw_ifB_ne 17 dX8_copy_11 rfl (fun c11 => ?_) (fun c11 => ?_)
    · have ha := hr a (by omega)
      have hb := hr b (by omega)
      refine aw_aload_n dX8_copy_17 rfl ?_
      refine aw_getR1 dX8_copy_18 fx_RX8_10 (by first | rfl | assumption) (by first | rfl | assumption) ?_
      refine aw_iload_n dX8_copy_21 rfl ?_
      refine aw_v1i dX8_copy_22 vl_RX8_92 (by first | rfl | assumption) (Nat.le_of_ble_eq_true rfl) (Nat.le_of_ble_eq_true rfl) (Nat.le_of_ble_eq_true rfl) (Nat.le_refl _) (Nat.le_refl _) (c_X5_isMissing (by omega) (by omega)) ?_
      refine aw_ifB_ne 39 dX8_copy_25 rfl (fun c25 => ?_) (fun c25 => ?_)
      · refine aw_aload_n dX8_copy_39 rfl ?_
        refine aw_iconst dX8_copy_40 (by decide) (by decide) ?_
        refine aw_v1i dX8_copy_41 vl_RX8_81 (by first | rfl | assumption) (Nat.le_of_ble_eq_true rfl) (Nat.le_of_ble_eq_true rfl) (Nat.le_of_ble_eq_true rfl) (Nat.le_refl _) (Nat.le_refl _) (c_X8_found (by decide) (by decide)) ?_
        refine aw_ireturn dX8_copy_44 rfl (Nat.le_refl _) (Nat.le_refl _) ?_
        unfold sp_copy
        rw [if_neg (by omega), if_pos (by omega)]
        exact ⟨rfl, rfl, hC.upF, fun c hc => am_up_ne (by omega)⟩
      · refine aw_aload_n dX8_copy_28 rfl ?_
        refine aw_getR1 dX8_copy_29 fx_RX8_10 (by first | rfl | assumption) (by first | rfl | assumption) ?_
        refine aw_iload_n dX8_copy_32 rfl ?_
        refine aw_v1i dX8_copy_33 vl_RX8_92 (by first | rfl | assumption) (Nat.le_of_ble_eq_true rfl) (Nat.le_of_ble_eq_true rfl) (Nat.le_of_ble_eq_true rfl) (Nat.le_refl _) (Nat.le_refl _) (c_X5_isMissing (by omega) (by omega)) ?_
        refine aw_ifB_eq 45 dX8_copy_36 rfl (fun c36 => ?_) (fun c36 => ?_)
        · refine aw_aload_n dX8_copy_45 rfl ?_
          refine aw_getR1 dX8_copy_46 fx_RX8_10 (by first | rfl | assumption) (by first | rfl | assumption) ?_
          refine aw_iload_n dX8_copy_49 rfl ?_
          refine aw_iload_n dX8_copy_50 rfl ?_
          refine aw_v2i dX8_copy_51 vl_RX8_103 (by first | rfl | assumption) (Nat.le_of_ble_eq_true rfl) (Nat.le_of_ble_eq_true rfl) (Nat.le_of_ble_eq_true rfl) (Nat.le_refl _) (Nat.le_refl _) (c_X5_areOfOneLane (by omega) (by omega) (by omega) (by omega)) ?_
          refine aw_ifB_ne 63 dX8_copy_54 rfl (fun c54 => ?_) (fun c54 => ?_)
          · refine aw_aload_n dX8_copy_63 rfl ?_
            refine aw_getR1 dX8_copy_64 fx_RX8_10 (by first | rfl | assumption) (by first | rfl | assumption) ?_
            refine aw_iload_n dX8_copy_67 rfl ?_
            refine aw_iload_n dX8_copy_68 rfl ?_
            refine aw_iload dX8_copy_69 rfl ?_
            refine aw_v3i dX8_copy_71 vl_RX8_95 (by first | rfl | assumption) (Nat.le_of_ble_eq_true rfl) (Nat.le_of_ble_eq_true rfl) (Nat.le_of_ble_eq_true rfl) (Nat.le_refl _) (Nat.le_refl _) (c_X5_hasPlaces (by omega) (by omega) (by omega) (by omega)) ?_
            refine aw_ifB_eq 92 dX8_copy_74 rfl (fun c74 => ?_) (fun c74 => ?_)
            · refine aw_aload_n dX8_copy_92 rfl ?_
              refine aw_iconst dX8_copy_93 (by decide) (by decide) ?_
              refine aw_v1i dX8_copy_94 vl_RX8_81 (by first | rfl | assumption) (Nat.le_of_ble_eq_true rfl) (Nat.le_of_ble_eq_true rfl) (Nat.le_of_ble_eq_true rfl) (Nat.le_refl _) (Nat.le_refl _) (c_X8_found (by decide) (by decide)) ?_
              refine aw_ireturn dX8_copy_97 rfl (Nat.le_refl _) (Nat.le_refl _) ?_
              unfold sp_copy
              rw [if_neg (by omega), if_neg (by omega), if_neg (by omega), if_pos (by omega)]
              exact ⟨rfl, rfl, hC.upF, fun c hc => am_up_ne (by omega)⟩
            · refine aw_aload_n dX8_copy_77 rfl ?_
              refine aw_getR1 dX8_copy_78 fx_RX8_10 (by first | rfl | assumption) (by first | rfl | assumption) ?_
              refine aw_iload_n dX8_copy_81 rfl ?_
              refine aw_iload dX8_copy_82 rfl ?_
              refine aw_iload dX8_copy_84 rfl ?_
              refine aw_v3i dX8_copy_86 vl_RX8_95 (by first | rfl | assumption) (Nat.le_of_ble_eq_true rfl) (Nat.le_of_ble_eq_true rfl) (Nat.le_of_ble_eq_true rfl) (Nat.le_refl _) (Nat.le_refl _) (c_X5_hasPlaces (by omega) (by omega) (by omega) (by omega)) ?_
              refine aw_ifB_ne 98 dX8_copy_89 rfl (fun c89 => ?_) (fun c89 => ?_)
              · refine aw_aload_n dX8_copy_98 rfl ?_
                refine aw_getR1 dX8_copy_99 fx_RX8_10 (by first | rfl | assumption) (by first | rfl | assumption) ?_
                refine aw_iload_n dX8_copy_102 rfl ?_
                refine aw_iload_n dX8_copy_103 rfl ?_
                refine aw_iload_n dX8_copy_104 rfl ?_
                refine aw_iload dX8_copy_105 rfl ?_
                refine aw_iload dX8_copy_107 rfl ?_
                refine aw_v5v dX8_copy_109 vl_RX8_107 (by first | rfl | assumption) (Nat.le_of_ble_eq_true rfl) (Nat.le_of_ble_eq_true rfl) (Nat.le_of_ble_eq_true rfl) (Nat.le_refl _) (Nat.le_refl _) (c_X5_carry (by omega) (by omega) (by omega) (by omega) (by omega) (by omega) (by omega) (by omega) (by omega)) ?_
                refine aw_aload_n dX8_copy_112 rfl ?_
                refine aw_iload dX8_copy_113 rfl ?_
                refine aw_v1i dX8_copy_115 vl_RX8_89 (by first | rfl | assumption) (Nat.le_of_ble_eq_true rfl) (Nat.le_of_ble_eq_true rfl) (Nat.le_of_ble_eq_true rfl) (Nat.le_refl _) (Nat.le_refl _) (c_X8_sound) ?_
                refine aw_ireturn dX8_copy_118 rfl (Nat.le_refl _) (Nat.le_refl _) ?_
                unfold sp_copy
                rw [if_neg (by omega), if_neg (by omega), if_neg (by omega), if_neg (by omega)]
                refine ⟨rfl, rfl, hC.mkR (fun c d0 d1 => by rw [am_up_ne d0, am_cpy_ne (by omega)]) (fun x hx => by simp [am_up, hx, am_cpy, show ¬ 0 = 5 + b.toNat by omega]) (by simp [am_up]) (fun x x0 x1 => ?_), fun c hc => by rw [am_up_ne (by omega), am_cpy_ne (by omega)]⟩
                obtain ⟨u, v, w⟩ := hC.1 x x0 x1
                refine ⟨by rw [am_up_ne (by omega), am_cpy_ne (by omega)]; exact u, by rw [am_up_ne (by omega), am_cpy_ne (by omega)]; exact v, fun y y0 y1 => ?_⟩
                rw [am_up_ne (by omega)]
                unfold up2 am_cpy
                by_cases ei : x = b
                · rw [if_pos ei]
                  by_cases ej : j ≤ y ∧ y < j + k
                  · rw [if_pos ⟨by rw [ei], ej⟩]
                    show _ = (if j ≤ y ∧ y < j + k then _ else _)
                    rw [if_pos ej]
                    exact (hC.1 a (by omega) (by omega)).2.2 _ (by omega) (by omega)
                  · rw [if_neg (by omega)]
                    show _ = (if j ≤ y ∧ y < j + k then _ else _)
                    rw [if_neg ej, ← ei]
                    exact w y y0 y1
                · rw [if_neg ei, if_neg (by omega)]; exact w y y0 y1
              · refine aw_aload_n dX8_copy_92 rfl ?_
                refine aw_iconst dX8_copy_93 (by decide) (by decide) ?_
                refine aw_v1i dX8_copy_94 vl_RX8_81 (by first | rfl | assumption) (Nat.le_of_ble_eq_true rfl) (Nat.le_of_ble_eq_true rfl) (Nat.le_of_ble_eq_true rfl) (Nat.le_refl _) (Nat.le_refl _) (c_X8_found (by decide) (by decide)) ?_
                refine aw_ireturn dX8_copy_97 rfl (Nat.le_refl _) (Nat.le_refl _) ?_
                unfold sp_copy
                rw [if_neg (by omega), if_neg (by omega), if_neg (by omega), if_pos (by omega)]
                exact ⟨rfl, rfl, hC.upF, fun c hc => am_up_ne (by omega)⟩
          · refine aw_aload_n dX8_copy_57 rfl ?_
            refine aw_iconst dX8_copy_58 (by decide) (by decide) ?_
            refine aw_v1i dX8_copy_59 vl_RX8_81 (by first | rfl | assumption) (Nat.le_of_ble_eq_true rfl) (Nat.le_of_ble_eq_true rfl) (Nat.le_of_ble_eq_true rfl) (Nat.le_refl _) (Nat.le_refl _) (c_X8_found (by decide) (by decide)) ?_
            refine aw_ireturn dX8_copy_62 rfl (Nat.le_refl _) (Nat.le_refl _) ?_
            unfold sp_copy
            rw [if_neg (by omega), if_neg (by omega), if_pos (by omega)]
            exact ⟨rfl, rfl, hC.upF, fun c hc => am_up_ne (by omega)⟩
        · refine aw_aload_n dX8_copy_39 rfl ?_
          refine aw_iconst dX8_copy_40 (by decide) (by decide) ?_
          refine aw_v1i dX8_copy_41 vl_RX8_81 (by first | rfl | assumption) (Nat.le_of_ble_eq_true rfl) (Nat.le_of_ble_eq_true rfl) (Nat.le_of_ble_eq_true rfl) (Nat.le_refl _) (Nat.le_refl _) (c_X8_found (by decide) (by decide)) ?_
          refine aw_ireturn dX8_copy_44 rfl (Nat.le_refl _) (Nat.le_refl _) ?_
          unfold sp_copy
          rw [if_neg (by omega), if_pos (by omega)]
          exact ⟨rfl, rfl, hC.upF, fun c hc => am_up_ne (by omega)⟩
    · refine aw_ldc (n := -1000001) dX8_copy_14 kc_RX8_80 (by decide) ?_
      refine aw_ireturn dX8_copy_16 rfl (Nat.le_refl _) (Nat.le_refl _) ?_
      unfold sp_copy
      rw [if_pos (by omega)]
      exact ⟨rfl, rfl, hC, fun _ _ => rfl⟩
theorem c_X8_drop {r : Int} (hC : CS h σ) (hW : WFst σ) : Sem M_X8_drop [vR 0, vI r] (TT e q n L) h 0 0 (PC (sp_drop σ r) h (TT e q n L)) := by
  have hr : 0 ≤ r ∧ r < 8 → h 2 r = s_lan σ r ∧ h 3 r = s_siz σ r ∧ 0 ≤ s_siz σ r ∧ s_siz σ r ≤ 40 := fun z => ⟨(hC.1 r z.1 z.2).1, (hC.1 r z.1 z.2).2.1, (hW.1 r z.1 z.2).2.2⟩
  refine sem_intro (by decide) rfl (Nat.le_of_ble_eq_true rfl) rfl ?_
  refine aw_iload_n dX8_drop_0 rfl ?_
  refine aw_s1i dX8_drop_1 sl_RX8_73 (Nat.le_of_ble_eq_true rfl) (Nat.le_of_ble_eq_true rfl) (Nat.le_of_ble_eq_true rfl) (Nat.le_refl _) (Nat.le_refl _) (c_X5_isNumber) ?_
  refine aw_ifB_ne 10 dX8_drop_4 rfl (fun c4 => ?_) (fun c4 => ?_)
  · refine aw_aload_n dX8_drop_10 rfl ?_
    refine aw_getR1 dX8_drop_11 fx_RX8_10 (by first | rfl | assumption) (by first | rfl | assumption) ?_
    refine aw_iload_n dX8_drop_14 rfl ?_
    refine aw_v1i dX8_drop_15 vl_RX8_92 (by first | rfl | assumption) (Nat.le_of_ble_eq_true rfl) (Nat.le_of_ble_eq_true rfl) (Nat.le_of_ble_eq_true rfl) (Nat.le_refl _) (Nat.le_refl _) (c_X5_isMissing (by omega) (by omega)) ?_
    refine aw_ifB_eq 27 dX8_drop_18 rfl (fun c18 => ?_) (fun c18 => ?_)
    · refine aw_aload_n dX8_drop_27 rfl ?_
      refine aw_aload_n dX8_drop_28 rfl ?_
      refine aw_getR1 dX8_drop_29 fx_RX8_10 (by first | rfl | assumption) (by first | rfl | assumption) ?_
      refine aw_iload_n dX8_drop_32 rfl ?_
      refine aw_v1i dX8_drop_33 vl_RX8_111 (by first | rfl | assumption) (Nat.le_of_ble_eq_true rfl) (Nat.le_of_ble_eq_true rfl) (Nat.le_of_ble_eq_true rfl) (Nat.le_refl _) (Nat.le_refl _) (c_X5_lose (by omega) (by omega)) ?_
      refine aw_v1i dX8_drop_36 vl_RX8_89 (by first | rfl | assumption) (Nat.le_of_ble_eq_true rfl) (Nat.le_of_ble_eq_true rfl) (Nat.le_of_ble_eq_true rfl) (Nat.le_refl _) (Nat.le_refl _) (c_X8_sound) ?_
      refine aw_ireturn dX8_drop_39 rfl (Nat.le_refl _) (Nat.le_refl _) ?_
      have hr2 := hr c4
      unfold sp_drop
      rw [if_neg (by omega), if_neg (by omega)]
      refine ⟨by rw [hr2.2.1], rfl, hC.mkR (fun c d0 d1 => by rw [am_up_ne d0, am_up_ne (by omega)]) (fun x hx => by simp [am_up, hx]) (by simp [am_up]) (fun x x0 x1 => ?_), fun c hc => by rw [am_up_ne (by omega), am_up_ne (by omega)]⟩
      obtain ⟨u, v, w⟩ := hC.1 x x0 x1
      refine ⟨?_, by rw [am_up_ne (by omega), am_up_ne (by omega)]; exact v, fun y y0 y1 => by rw [am_up_ne (by omega), am_up_ne (by omega)]; exact w y y0 y1⟩
      rw [am_up_ne (by omega)]
      unfold up1 am_up
      by_cases ei : x = r
      · rw [if_pos ⟨rfl, ei⟩, if_pos ei]
      · rw [if_neg (by omega), if_neg ei]; exact u
    · refine aw_aload_n dX8_drop_21 rfl ?_
      refine aw_iconst dX8_drop_22 (by decide) (by decide) ?_
      refine aw_v1i dX8_drop_23 vl_RX8_81 (by first | rfl | assumption) (Nat.le_of_ble_eq_true rfl) (Nat.le_of_ble_eq_true rfl) (Nat.le_of_ble_eq_true rfl) (Nat.le_refl _) (Nat.le_refl _) (c_X8_found (by decide) (by decide)) ?_
      refine aw_ireturn dX8_drop_26 rfl (Nat.le_refl _) (Nat.le_refl _) ?_
      have hr2 := hr c4
      unfold sp_drop
      rw [if_neg (by omega), if_pos (by omega)]
      exact ⟨rfl, rfl, hC.upF, fun c hc => am_up_ne (by omega)⟩
  · refine aw_ldc (n := -1000001) dX8_drop_7 kc_RX8_80 (by decide) ?_
    refine aw_ireturn dX8_drop_9 rfl (Nat.le_refl _) (Nat.le_refl _) ?_
    unfold sp_drop
    rw [if_pos c4]
    exact ⟨rfl, rfl, hC, fun _ _ => rfl⟩
theorem CS.mkT {h h' : Mem} {σ : ST} {T : Int × (Int → Int)} (hC : CS h σ) (fr : ∀ c, c ≠ 0 → c ≠ 13 → h' c = h c) (f0 : ∀ j, j ≠ 2 → h' 0 j = h 0 j) (ff : h' 0 2 = T.1) (hr : ∀ j, 0 ≤ j → j < T.1 → h' 13 j = T.2 j) : CS h' (σ.1, σ.2.1, σ.2.2.1, σ.2.2.2.1, T, σ.2.2.2.2.2) := by
  obtain ⟨a1, a2, -, a4, a5, a6, a7, a8⟩ := hC
  refine ⟨CSr.fr (fun c _ _ => fr c (by omega) (by omega)) a1, by rw [f0 12 (by decide)]; exact a2, ⟨ff, hr⟩, by rw [f0 11 (by decide)]; exact a4, ?_, a6.fr (fun c _ _ => fr c (by omega) (by omega)), fun k k0 k1 => ?_, ⟨by rw [fr 371 (by decide) (by decide)]; exact a8.1, fun j j0 j1 => by rw [fr 372 (by decide) (by decide)]; exact a8.2 j j0 j1⟩⟩
  · rw [show s_liv (σ.1, σ.2.1, σ.2.2.1, σ.2.2.2.1, T, σ.2.2.2.2.2) = s_liv σ from rfl, ← a5]
    exact cV_congr (fun k _ _ => by rw [fr _ (by omega) (by omega)]) (fun j k _ _ _ _ => by rw [fr _ (by omega) (by omega)])
  · rw [show s_img (σ.1, σ.2.1, σ.2.2.1, σ.2.2.2.1, T, σ.2.2.2.2.2) k = s_img σ k from rfl, ← a7 k k0 k1]
    exact cV_congr (fun k _ _ => by rw [fr _ (by omega) (by omega)]) (fun j k _ _ _ _ => by rw [fr _ (by omega) (by omega)])
theorem c_X8_feed {x : Int} (hC : CS h σ) (hW : WFst σ) : Sem M_X8_feed [vR 0, vI x] (TT e q n L) h 0 0 (PC (sp_feed σ x) h (TT e q n L)) := by
  have ht := hC.2.2.1.1
  have hw := hW.2.1
  refine sem_intro (by decide) rfl (Nat.le_of_ble_eq_true rfl) rfl ?_
  refine aw_iload_n dX8_feed_0 rfl ?_
  refine aw_if_lt 11 dX8_feed_1 rfl (fun c1 => ?_) (fun c1 => ?_)
  · refine aw_ldc (n := -1000001) dX8_feed_11 kc_RX8_80 (by decide) ?_
    refine aw_ireturn dX8_feed_13 rfl (Nat.le_refl _) (Nat.le_refl _) ?_
    unfold sp_feed
    rw [if_pos (by omega)]
    exact ⟨rfl, rfl, hC, fun _ _ => rfl⟩
  · refine aw_iload_n dX8_feed_4 rfl ?_
    refine aw_sipush dX8_feed_5 (by decide) (by decide) ?_
    refine aw_icmp_le 14 dX8_feed_8 rfl (fun c8 => ?_) (fun c8 => ?_)
    · refine aw_aload_n dX8_feed_14 rfl ?_
      refine aw_getI dX8_feed_15 fx_RX8_114 (by first | rfl | assumption) ?_
      refine aw_bipush dX8_feed_18 (by decide) (by decide) ?_
      refine aw_icmp_lt 26 dX8_feed_20 rfl (fun c20 => ?_) (fun c20 => ?_)
      · refine aw_aload_n dX8_feed_26 rfl ?_
        refine aw_getR1 dX8_feed_27 fx_RX8_16 (by first | rfl | assumption) (by first | rfl | assumption) ?_
        refine aw_aload_n dX8_feed_30 rfl ?_
        refine aw_getI dX8_feed_31 fx_RX8_114 (by first | rfl | assumption) ?_
        refine aw_iload_n dX8_feed_34 rfl ?_
        refine aw_iastore dX8_feed_35 (by first | rfl | assumption) (by omega) (by omega) (by omega) ?_
        refine aw_aload_n dX8_feed_36 rfl ?_
        refine aw_dup dX8_feed_37 rfl ?_
        refine aw_getI dX8_feed_38 fx_RX8_114 (by first | rfl | assumption) ?_
        refine aw_iconst dX8_feed_41 (by decide) (by decide) ?_
        rw [show am_up h 13 (h 0 2) x 0 2 = h 0 2 by simp [am_up]]
        refine aw_iadd dX8_feed_42 (by omega) (by omega) ?_
        refine aw_putI dX8_feed_43 fp_RX8_114 (by first | rfl | assumption) ?_
        refine aw_aload_n dX8_feed_46 rfl ?_
        refine aw_getI dX8_feed_47 fx_RX8_114 (by first | rfl | assumption) ?_
        refine aw_ireturn dX8_feed_50 rfl (Nat.le_refl _) (Nat.le_refl _) ?_
        unfold sp_feed
        rw [if_neg (by omega), if_neg (by omega)]
        refine ⟨am_ri (by simp [am_up, ht]), rfl, hC.mkT (T := ((s_tap σ).1 + 1, up1 (s_tap σ).2 (s_tap σ).1 x)) (fun c d0 d1 => by rw [am_up_ne d0, am_up_ne d1]) (fun j hj => by simp [am_up, hj]) (by simp [am_up, ht]) (fun j j0 j1 => ?_), fun c hc => by rw [am_up_ne (by omega), am_up_ne (by omega)]⟩
        have j2 : j < (s_tap σ).1 + 1 := j1
        rw [am_up_ne (by decide)]
        show _ = up1 (s_tap σ).2 (s_tap σ).1 x j
        unfold up1 am_up
        by_cases ej : j = (s_tap σ).1
        · rw [if_pos ⟨rfl, by omega⟩, if_pos ej]
        · rw [if_neg (by omega), if_neg ej]; exact hC.2.2.1.2 j j0 (by omega)
      · refine aw_ldc (n := -1000003) dX8_feed_23 kc_RX8_118 (by decide) ?_
        refine aw_ireturn dX8_feed_25 rfl (Nat.le_refl _) (Nat.le_refl _) ?_
        unfold sp_feed
        rw [if_neg (by omega), if_pos (by omega)]
        exact ⟨rfl, rfl, hC, fun _ _ => rfl⟩
    · refine aw_ldc (n := -1000001) dX8_feed_11 kc_RX8_80 (by decide) ?_
      refine aw_ireturn dX8_feed_13 rfl (Nat.le_refl _) (Nat.le_refl _) ?_
      unfold sp_feed
      rw [if_pos (by omega)]
      exact ⟨rfl, rfl, hC, fun _ _ => rfl⟩
theorem c_X8_fault (hC : CS h σ) : Sem M_X8_fault [vR 0] (TT e q n L) h 0 0 (PC (s_flt σ, σ) h (TT e q n L)) := by
  refine sem_intro (by decide) rfl (Nat.le_of_ble_eq_true rfl) rfl ?_
  refine aw_aload_n dX8_fault_0 rfl ?_
  refine aw_getI dX8_fault_1 fx_RX8_126 (by first | rfl | assumption) ?_
  refine aw_ireturn dX8_fault_4 rfl (Nat.le_refl _) (Nat.le_refl _) ?_
  exact ⟨am_ri hC.2.2.2.1, rfl, hC, fun _ _ => rfl⟩
theorem c_X8_status (hC : CS h σ) : Sem M_X8_status [vR 0] (TT e q n L) h 0 0 (PC (s_fnd σ, σ) h (TT e q n L)) := by
  refine sem_intro (by decide) rfl (Nat.le_of_ble_eq_true rfl) rfl ?_
  refine aw_aload_n dX8_status_0 rfl ?_
  refine aw_getI dX8_status_1 fx_RX8_335 (by first | rfl | assumption) ?_
  refine aw_ireturn dX8_status_4 rfl (Nat.le_refl _) (Nat.le_refl _) ?_
  exact ⟨am_ri hC.2.1, rfl, hC, fun _ _ => rfl⟩
end ROP
