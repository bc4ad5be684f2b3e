def fzs (V : VW) : Int := bset (fun i => decide (0 < V 4 i)) (V 0 0).toNat
def lastG (V : VW) : Int := V 3 (V 0 0 - 1)
def sp_anew (σ : ST) : Int × ST := if s_liv σ 0 0 = 0 then (-1000002, σ) else (onesN (fzs (s_liv σ)) 12, wLP σ (bgn (s_liv σ)) (pushP (s_pas σ) (s_liv σ)))
def sp_item (σ : ST) (i w : Int) : Int × ST := if ¬ (0 ≤ i ∧ i < s_liv σ 0 0) then (-1000001, σ) else (if w = 0 then s_liv σ 2 i else if w = 1 then s_liv σ 3 i else if w = 2 then s_liv σ 4 i else if w = 3 then wd (s_liv σ) i else if w = 4 then (stand (s_liv σ) zz i).1 else if w = 5 then (stand (s_liv σ) zz i).2.1 else if w = 6 then (stand (s_liv σ) zz i).2.2 else -1000001, σ)
def stdv (V : VW) (w : Int) : Int := if w = 0 then (settles false V).2.1 else if w = 1 then (settles false V).2.2.1 else if w = 2 then (settles false V).2.2.2.1 else if w = 3 then fzs (settles false V).1 else if w = 4 then lastG (settles false V).1 else if (settles false V).2.2.2.2 = true then 1 else 0
def sp_settled (σ : ST) (w : Int) : Int × ST := if s_liv σ 0 0 = 0 then (-1000002, σ) else if w < 0 ∨ 5 < w then (-1000001, σ) else (stdv (s_liv σ) w, σ)
def sp_ends (σ : ST) (i : Int) : Int × ST := if ¬ (0 ≤ i ∧ i < s_liv σ 0 0) then (-1000001, σ) else ((settles false (s_liv σ)).1 3 i, σ)
def wImg (σ : ST) (f : Int → VW) : ST := (σ.1, σ.2.1, σ.2.2.1, σ.2.2.2.1, σ.2.2.2.2.1, σ.2.2.2.2.2.1, σ.2.2.2.2.2.2.1, σ.2.2.2.2.2.2.2.1, f, σ.2.2.2.2.2.2.2.2.2)
def wTrc (σ : ST) (T : TR) : ST := (σ.1, σ.2.1, σ.2.2.1, σ.2.2.2.1, σ.2.2.2.2.1, σ.2.2.2.2.2.1, σ.2.2.2.2.2.2.1, σ.2.2.2.2.2.2.2.1, σ.2.2.2.2.2.2.2.2.1, T)
def sp_image (σ : ST) (k : Int) : Int × ST := if ¬ (0 ≤ k ∧ k < 2) then (-1000001, σ) else if s_liv σ 0 0 = 0 then (-1000002, σ) else (1, wImg σ (fun j => if j = k then s_liv σ else s_img σ j))
def sp_restore (σ : ST) (k : Int) : Int × ST := if ¬ (0 ≤ k ∧ k < 2) then (-1000001, σ) else if s_img σ k 0 0 = 0 then (-1000002, σ) else (1, wLP σ (s_img σ k) (0, (s_pas σ).2))
def sp_kind (σ : ST) (i : Int) : Int × ST := if ¬ (0 ≤ i ∧ i < s_liv σ 0 0) then (-1000001, σ) else (s_liv σ 1 i, σ)
def sp_as (σ : ST) (i k : Int) : Int × ST := if ¬ (0 ≤ i ∧ i < s_liv σ 0 0) ∨ k < 0 ∨ 5 < k then (-1000001, σ) else if k = 0 ∨ k = s_liv σ 1 i ∨ (k = 1 ∧ 1 ≤ s_liv σ 1 i ∧ s_liv σ 1 i ≤ 3) ∨ (k = 4 ∧ s_liv σ 1 i = 5) then (i, wFnd σ 0) else (-1000013, wFnd σ 3)
def askv (V : VW) (i w : Int) : Int := if 1 ≤ V 1 i ∧ V 1 i ≤ 3 then (if w = 0 then szR V i else mkR V i) else (if w = 0 then szW V i else mkW V i)
def askb (V : VW) (i w : Int) : List Int := if 1 ≤ V 1 i ∧ V 1 i ≤ 3 then (if w = 0 then szRb V i else mkRb V i) else (if w = 0 then szWb V i else mkWb V i)
def sp_ask (σ : ST) (i w : Int) : Int × ST := if ¬ (0 ≤ i ∧ i < s_liv σ 0 0) ∨ w < 0 ∨ 1 < w then (-1000001, σ) else (askv (s_liv σ) i w, wTrc σ (trs (0, (s_trc σ).2) (askb (s_liv σ) i w)))
def sp_trace (σ : ST) (i : Int) : Int × ST := if 0 ≤ i ∧ i < (s_trc σ).1 then ((s_trc σ).2 i, σ) else (-1000000, σ)
def sp_count (σ : ST) (w : Int) : Int × ST := (if w = 0 then cntR (s_lan σ) 8 else if w = 1 then s_liv σ 0 0 else if w = 2 then s_liv σ 0 1 else if w = 3 then s_liv σ 0 2 else if w = 4 then s_liv σ 0 3 else if w = 5 then fzs (s_liv σ) else if w = 6 then s_liv σ 0 4 else if w = 7 then ((s_pas σ).1 : Int) else if w = 8 then (s_tap σ).1 else -1000001, σ)
theorem cntR_congr {f g : Int → Int} : ∀ n : Nat, (∀ i : Nat, i < n → f i = g i) → cntR f n = cntR g n
  | 0, _ => rfl
  | n + 1, h => by unfold cntR; rw [h n (by omega), cntR_congr n (fun i hi => h i (by omega))]
theorem fzs_cV {h : Mem} {a : Nat} (h0 : 0 ≤ h a 0) : bset (fun i => decide (0 < h (a + 4) i)) (h a 0).toNat = fzs (cV h a) := by
  unfold fzs
  rw [cVc]
  exact bset_congr _ (fun i hi => by rw [cV4 (by omega) (by omega)])
theorem CS.mkM {h h' : Mem} {σ : ST} {f : Int → VW} (hC : CS h σ) (fr : ∀ c, (c ≤ 360 ∨ (371 ≤ c ∧ c ≤ 372)) → h' c = h c) (hm : ∀ k, 0 ≤ k → k < 2 → cV h' (361 + 5 * k.toNat) = f k) : CS h' (wImg σ f) := by
  obtain ⟨a1, a2, a3, a4, a5, a6, -, a8⟩ := hC
  refine ⟨CSr.fr (fun c _ _ => fr c (by omega)) a1, by rw [fr 0 (by omega)]; exact a2, ⟨by rw [fr 0 (by omega)]; exact a3.1, fun j j0 j1 => by rw [fr 13 (by omega)]; exact a3.2 j j0 j1⟩, by rw [fr 0 (by omega)]; exact a4, ?_, a6.fr (fun c _ _ => fr c (by omega)), hm, ⟨by rw [fr 371 (by omega)]; exact a8.1, fun j j0 j1 => by rw [fr 372 (by omega)]; exact a8.2 j j0 j1⟩⟩
  show _ = s_liv σ
  rw [← a5]
  exact cV_congr (fun k _ _ => by rw [fr _ (by omega)]) (fun j k _ _ _ _ => by rw [fr _ (by omega)])
theorem CS.mkQ {h h' : Mem} {σ : ST} {T : TR} (hC : CS h σ) (fr : ∀ c, c ≤ 370 → h' c = h c) (ht : CSt h' T) : CS h' (wTrc σ T) := by
  obtain ⟨a1, a2, a3, a4, a5, a6, a7, -⟩ := hC
  refine ⟨CSr.fr (fun c _ _ => fr c (by omega)) a1, by rw [fr 0 (by omega)]; exact a2, ⟨by rw [fr 0 (by omega)]; exact a3.1, fun j j0 j1 => by rw [fr 13 (by omega)]; exact a3.2 j j0 j1⟩, by rw [fr 0 (by omega)]; exact a4, ?_, a6.fr (fun c _ _ => fr c (by omega)), fun k k0 k1 => ?_, ⟨ht.1, ht.2.2.2⟩⟩
  · show _ = s_liv σ
    rw [← a5]
    exact cV_congr (fun k _ _ => by rw [fr _ (by omega)]) (fun j k _ _ _ _ => by rw [fr _ (by omega)])
  · show _ = s_img σ k
    rw [← a7 k k0 k1]
    exact cV_congr (fun k _ _ => by rw [fr _ (by omega)]) (fun j k _ _ _ _ => by rw [fr _ (by omega)])
section ASKD
variable {e q n L : Nat} {h : Mem} {σ : ST}
set_option maxHeartbeats 1000000 in
theorem c_X8_anew (hC : CS h σ) (hW : WFst σ) : Sem M_X8_anew [vR 0] (TT e q n L) h 0 0 (PC (sp_anew σ) h (TT e q n L)) := by
  have eV : cV h 16 = s_liv σ := hC.2.2.2.2.1
  have e0 : h 16 0 = s_liv σ 0 0 := by rw [← eV, cVc]
  have hcn := wf_cnt hW.2.2.2.1
  unfold sp_anew
  refine sem_intro (by decide) rfl (Nat.le_of_ble_eq_true rfl) rfl ?_
  refine aw_aload_n dX8_anew_0 rfl ?_
  refine aw_v0i dX8_anew_1 vl_RX8_142 (by first | rfl | assumption) (Nat.le_of_ble_eq_true rfl) (Nat.le_of_ble_eq_true rfl) (Nat.le_of_ble_eq_true rfl) (Nat.le_refl _) (Nat.le_refl _) (c_X8_isWithoutSheet) ?_
  refine aw_ifB_eq 10 dX8_anew_4 rfl (fun c4 => ?_) (fun c4 => ?_)
  · refine aw_aload_n dX8_anew_10 rfl ?_
    refine aw_getR1 dX8_anew_11 fx_RX8_56 (by first | rfl | assumption) (by first | rfl | assumption) ?_
    refine aw_aload_n dX8_anew_14 rfl ?_
    refine aw_getR1 dX8_anew_15 fx_RX8_30 (by first | rfl | assumption) (by first | rfl | assumption) ?_
    refine aw_v1q dX8_anew_18 vl_RX8_150 (by first | rfl | assumption) (Nat.le_of_ble_eq_true rfl) (Nat.le_of_ble_eq_true rfl) (Nat.le_of_ble_eq_true rfl) (Nat.le_refl _) (Nat.le_refl _) (c_X3_remember hC.2.2.2.2.2.1 (by omega)) ?_
    intro v t' h1 hq
    obtain ⟨rfl, rfl, f1, f2⟩ := hq
    rw [eV] at f1
    have g0 : h1 16 0 = s_liv σ 0 0 := by rw [f2 16 (by omega)]; exact e0
    have eV1 : cV h1 16 = s_liv σ := by rw [← eV]; exact cV_congr (fun k _ _ => by rw [f2 _ (by omega)]) (fun j k _ _ _ _ => by rw [f2 _ (by omega)])
    have efz : bset (fun i => decide (0 < h1 (16 + 4) i)) (h1 16 0).toNat = fzs (s_liv σ) := by rw [← eV1]; exact fzs_cV (by omega)
    have ebc : bcx (fzs (s_liv σ)) = onesN (fzs (s_liv σ)) 12 := by
      obtain ⟨b, hb, hb2⟩ := bset_12 (P := fun i => decide (0 < s_liv σ 4 i)) (n := (s_liv σ 0 0).toNat) (by omega)
      unfold fzs
      rw [hb]
      exact bc_eq b hb2
    refine aw_aload_n dX8_anew_21 rfl ?_
    refine aw_getR1 dX8_anew_22 fx_RX8_30 (by first | rfl | assumption) (by first | rfl | assumption) ?_
    refine aw_v0i dX8_anew_25 vl_RX8_183 (by first | rfl | assumption) (Nat.le_of_ble_eq_true rfl) (Nat.le_of_ble_eq_true rfl) (Nat.le_of_ble_eq_true rfl) (Nat.le_refl _) (Nat.le_refl _) (c_X7_frozenBits sh_16 (by omega) (by omega)) ?_
    rw [efz]
    refine aw_s1i dX8_anew_28 sl_RX8_187 (Nat.le_of_ble_eq_true rfl) (Nat.le_of_ble_eq_true rfl) (Nat.le_of_ble_eq_true rfl) (Nat.le_refl _) (Nat.le_refl _) (c_bitCount) ?_
    rw [ebc]
    refine aw_istore_n (ls' := [_, _]) dX8_anew_31 (by decide) rfl ?_
    refine aw_aload_n dX8_anew_32 rfl ?_
    refine aw_getR1 dX8_anew_33 fx_RX8_30 (by first | rfl | assumption) (by first | rfl | assumption) ?_
    refine aw_v0q dX8_anew_36 vl_RX8_192 (by first | rfl | assumption) (Nat.le_of_ble_eq_true rfl) (Nat.le_of_ble_eq_true rfl) (Nat.le_of_ble_eq_true rfl) (Nat.le_refl _) (Nat.le_refl _) (c_X7_beginAnew sh_16 (by omega)) ?_
    intro v t' h3 hq
    obtain ⟨rfl, rfl, f3, f4⟩ := hq
    rw [eV1] at f3
    refine aw_iload_n dX8_anew_39 rfl ?_
    refine aw_ireturn dX8_anew_40 rfl (Nat.le_refl _) (Nat.le_refl _) ?_
    rw [if_neg (by omega)]
    exact ⟨rfl, rfl, hC.mkI (fun c hc => by rw [f4 c (by omega), f2 c (by omega)]) f3 (f1.fr (fun c d0 d1 => f4 c (by omega))), fun c hc => by rw [f4 c (by omega), f2 c (by omega)]⟩
  · refine aw_ldc (n := -1000002) dX8_anew_7 kc_RX8_146 (by decide) ?_
    refine aw_ireturn dX8_anew_9 rfl (Nat.le_refl _) (Nat.le_refl _) ?_
    rw [if_pos (by omega)]
    exact ⟨rfl, rfl, hC, fun _ _ => rfl⟩
set_option maxHeartbeats 1000000 in
theorem c_X8_item {i w : Int} (hC : CS h σ) (hW : WFst σ) (hro : RO h) : Sem M_X8_item [vR 0, vI i, vI w] (TT e q n L) h 0 0 (PC (sp_item σ i w) h (TT e q n L)) := by
  have eV : cV h 16 = s_liv σ := hC.2.2.2.2.1
  have e0 : h 16 0 = s_liv σ 0 0 := by rw [← eV, cVc]
  have hcn := wf_cnt hW.2.2.2.1
  have k1 : 0 ≤ i ∧ i < h 16 0 → h (16 + 2) i = s_liv σ 2 i ∧ h (16 + 3) i = s_liv σ 3 i ∧ h (16 + 4) i = s_liv σ 4 i ∧ WFv (s_liv σ) := fun z => ⟨by rw [← eV, cV2 z.1 z.2], by rw [← eV, cV3 z.1 z.2], by rw [← eV, cV4 z.1 z.2], (wf_liv hW.2.2.2.1 (by omega)).1⟩
  have fin : ∀ h1 : Mem, FR h h1 28 30 → CS h1 σ ∧ ∀ c, 373 ≤ c → h1 c = h c := fun h1 f => ⟨hC.fr (fun c hc => f c (by unfold KC at hc; omega)), fun c hc => f c (by omega)⟩
  unfold sp_item
  refine sem_intro (by decide) rfl (Nat.le_of_ble_eq_true rfl) rfl ?_
  refine aw_aload_n dX8_item_0 rfl ?_
  refine aw_getR1 dX8_item_1 fx_RX8_30 (by first | rfl | assumption) (by first | rfl | assumption) ?_
  refine aw_iload_n dX8_item_4 rfl ?_
  refine aw_v1i dX8_item_5 vl_RX8_162 (by first | rfl | assumption) (Nat.le_of_ble_eq_true rfl) (Nat.le_of_ble_eq_true rfl) (Nat.le_of_ble_eq_true rfl) (Nat.le_refl _) (Nat.le_refl _) (c_X7_holds (by first | assumption | exact sh_16 | exact sh_21)) ?_
  refine aw_ifB_ne 14 dX8_item_8 rfl (fun c8 => ?_) (fun c8 => ?_)
  · have k2 := k1 c8
    rw [if_neg (by omega)]
    refine aw_iload_n dX8_item_14 rfl ?_
    refine aw_table 153 dX8_item_15 rfl (fun c15 => ?_) (fun g15a g15b => ?_)
    · refine aw_ldc (n := -1000001) dX8_item_153 kc_RX8_80 (by decide) ?_
      refine aw_ireturn dX8_item_155 rfl (Nat.le_refl _) (Nat.le_refl _) ?_
      exact ⟨am_ri (by show _ = (if _ then _ else _); rw [if_neg (by omega), if_neg (by omega), if_neg (by omega), if_neg (by omega), if_neg (by omega), if_neg (by omega), if_neg (by omega)]), rfl, hC, fun _ _ => rfl⟩
    · rcases tcs_0_6 g15a g15b with c15 | c15 | c15 | c15 | c15 | c15 | c15
      · refine aw_tableIn 56 dX8_item_15 g15a g15b (by rw [c15]; rfl) rfl ?_
        refine aw_aload_n dX8_item_56 rfl ?_
        refine aw_getR1 dX8_item_57 fx_RX8_30 (by first | rfl | assumption) (by first | rfl | assumption) ?_
        refine aw_getR1 dX8_item_60 fx_RX8_171 (by first | rfl | assumption) (by first | rfl | assumption) ?_
        refine aw_iload_n dX8_item_63 rfl ?_
        refine aw_iaload dX8_item_64 (by first | rfl | assumption) (by omega) (by omega) ?_
        refine aw_ireturn dX8_item_65 rfl (Nat.le_refl _) (Nat.le_refl _) ?_
        exact ⟨am_ri (by show _ = (if _ then _ else _); rw [if_pos c15]; exact k2.1), rfl, hC, fun _ _ => rfl⟩
      · refine aw_tableIn 66 dX8_item_15 g15a g15b (by rw [c15]; rfl) rfl ?_
        refine aw_aload_n dX8_item_66 rfl ?_
        refine aw_getR1 dX8_item_67 fx_RX8_30 (by first | rfl | assumption) (by first | rfl | assumption) ?_
        refine aw_getR1 dX8_item_70 fx_RX8_201 (by first | rfl | assumption) (by first | rfl | assumption) ?_
        refine aw_iload_n dX8_item_73 rfl ?_
        refine aw_iaload dX8_item_74 (by first | rfl | assumption) (by omega) (by omega) ?_
        refine aw_ireturn dX8_item_75 rfl (Nat.le_refl _) (Nat.le_refl _) ?_
        exact ⟨am_ri (by show _ = (if _ then _ else _); rw [if_neg (by omega), if_pos c15]; exact k2.2.1), rfl, hC, fun _ _ => rfl⟩
      · refine aw_tableIn 76 dX8_item_15 g15a g15b (by rw [c15]; rfl) rfl ?_
        refine aw_aload_n dX8_item_76 rfl ?_
        refine aw_getR1 dX8_item_77 fx_RX8_30 (by first | rfl | assumption) (by first | rfl | assumption) ?_
        refine aw_getR1 dX8_item_80 fx_RX8_204 (by first | rfl | assumption) (by first | rfl | assumption) ?_
        refine aw_iload_n dX8_item_83 rfl ?_
        refine aw_iaload dX8_item_84 (by first | rfl | assumption) (by omega) (by omega) ?_
        refine aw_ireturn dX8_item_85 rfl (Nat.le_refl _) (Nat.le_refl _) ?_
        exact ⟨am_ri (by show _ = (if _ then _ else _); rw [if_neg (by omega), if_neg (by omega), if_pos c15]; exact k2.2.2.1), rfl, hC, fun _ _ => rfl⟩
      · refine aw_tableIn 86 dX8_item_15 g15a g15b (by rw [c15]; rfl) rfl ?_
        refine aw_aload_n dX8_item_86 rfl ?_
        refine aw_getR1 dX8_item_87 fx_RX8_30 (by first | rfl | assumption) (by first | rfl | assumption) ?_
        refine aw_aload_n dX8_item_90 rfl ?_
        refine aw_getR1 dX8_item_91 fx_RX8_30 (by first | rfl | assumption) (by first | rfl | assumption) ?_
        refine aw_getR1 dX8_item_94 fx_RX8_201 (by first | rfl | assumption) (by first | rfl | assumption) ?_
        refine aw_iload_n dX8_item_97 rfl ?_
        refine aw_v2i dX8_item_98 vl_RX8_207 (by first | rfl | assumption) (Nat.le_of_ble_eq_true rfl) (Nat.le_of_ble_eq_true rfl) (Nat.le_of_ble_eq_true rfl) (Nat.le_refl _) (Nat.le_refl _) (c_wide16 hro (by rw [eV]; exact k2.2.2.2) c8.1 c8.2) ?_
        refine aw_ireturn dX8_item_101 rfl (Nat.le_refl _) (Nat.le_refl _) ?_
        exact ⟨am_ri (by show _ = (if _ then _ else _); rw [if_neg (by omega), if_neg (by omega), if_neg (by omega), if_pos c15, eV]), rfl, hC, fun _ _ => rfl⟩
      · refine aw_tableIn 102 dX8_item_15 g15a g15b (by rw [c15]; rfl) rfl ?_
        refine aw_aload_n dX8_item_102 rfl ?_
        refine aw_getR1 dX8_item_103 fx_RX8_40 (by first | rfl | assumption) (by first | rfl | assumption) ?_
        refine aw_aload_n dX8_item_106 rfl ?_
        refine aw_getR1 dX8_item_107 fx_RX8_30 (by first | rfl | assumption) (by first | rfl | assumption) ?_
        refine aw_v1q dX8_item_110 vl_RX8_211 (by first | rfl | assumption) (Nat.le_of_ble_eq_true rfl) (Nat.le_of_ble_eq_true rfl) (Nat.le_of_ble_eq_true rfl) (Nat.le_refl _) (Nat.le_refl _) (c_X6_outlined sh_16 isSe (by decide) hro (by rw [eV]; exact k2.2.2.2)) ?_
        intro v t' h1 hq
        obtain ⟨rfl, rfl, f1, f2⟩ := hq
        rw [eV, e0] at f2
        have f3 := f2 i.toNat (by omega)
        rw [am_nat c8.1] at f3
        refine aw_getR1 dX8_item_113 fx_RX8_215 (by first | rfl | assumption) (by first | rfl | assumption) ?_
        refine aw_iload_n dX8_item_116 rfl ?_
        refine aw_iaload dX8_item_117 (by first | rfl | assumption) (by omega) (by omega) ?_
        refine aw_ireturn dX8_item_118 rfl (Nat.le_refl _) (Nat.le_refl _) ?_
        exact ⟨am_ri (by show _ = (if _ then _ else _); rw [if_neg (by omega), if_neg (by omega), if_neg (by omega), if_neg (by omega), if_pos c15]; exact f3.1), rfl, fin h1 f1⟩
      · refine aw_tableIn 119 dX8_item_15 g15a g15b (by rw [c15]; rfl) rfl ?_
        refine aw_aload_n dX8_item_119 rfl ?_
        refine aw_getR1 dX8_item_120 fx_RX8_40 (by first | rfl | assumption) (by first | rfl | assumption) ?_
        refine aw_aload_n dX8_item_123 rfl ?_
        refine aw_getR1 dX8_item_124 fx_RX8_30 (by first | rfl | assumption) (by first | rfl | assumption) ?_
        refine aw_v1q dX8_item_127 vl_RX8_211 (by first | rfl | assumption) (Nat.le_of_ble_eq_true rfl) (Nat.le_of_ble_eq_true rfl) (Nat.le_of_ble_eq_true rfl) (Nat.le_refl _) (Nat.le_refl _) (c_X6_outlined sh_16 isSe (by decide) hro (by rw [eV]; exact k2.2.2.2)) ?_
        intro v t' h1 hq
        obtain ⟨rfl, rfl, f1, f2⟩ := hq
        rw [eV, e0] at f2
        have f3 := f2 i.toNat (by omega)
        rw [am_nat c8.1] at f3
        refine aw_getR1 dX8_item_130 fx_RX8_220 (by first | rfl | assumption) (by first | rfl | assumption) ?_
        refine aw_iload_n dX8_item_133 rfl ?_
        refine aw_iaload dX8_item_134 (by first | rfl | assumption) (by omega) (by omega) ?_
        refine aw_ireturn dX8_item_135 rfl (Nat.le_refl _) (Nat.le_refl _) ?_
        exact ⟨am_ri (by show _ = (if _ then _ else _); rw [if_neg (by omega), if_neg (by omega), if_neg (by omega), if_neg (by omega), if_neg (by omega), if_pos c15]; exact f3.2.1), rfl, fin h1 f1⟩
      · refine aw_tableIn 136 dX8_item_15 g15a g15b (by rw [c15]; rfl) rfl ?_
        refine aw_aload_n dX8_item_136 rfl ?_
        refine aw_getR1 dX8_item_137 fx_RX8_40 (by first | rfl | assumption) (by first | rfl | assumption) ?_
        refine aw_aload_n dX8_item_140 rfl ?_
        refine aw_getR1 dX8_item_141 fx_RX8_30 (by first | rfl | assumption) (by first | rfl | assumption) ?_
        refine aw_v1q dX8_item_144 vl_RX8_211 (by first | rfl | assumption) (Nat.le_of_ble_eq_true rfl) (Nat.le_of_ble_eq_true rfl) (Nat.le_of_ble_eq_true rfl) (Nat.le_refl _) (Nat.le_refl _) (c_X6_outlined sh_16 isSe (by decide) hro (by rw [eV]; exact k2.2.2.2)) ?_
        intro v t' h1 hq
        obtain ⟨rfl, rfl, f1, f2⟩ := hq
        rw [eV, e0] at f2
        have f3 := f2 i.toNat (by omega)
        rw [am_nat c8.1] at f3
        refine aw_getR1 dX8_item_147 fx_RX8_223 (by first | rfl | assumption) (by first | rfl | assumption) ?_
        refine aw_iload_n dX8_item_150 rfl ?_
        refine aw_iaload dX8_item_151 (by first | rfl | assumption) (by omega) (by omega) ?_
        refine aw_ireturn dX8_item_152 rfl (Nat.le_refl _) (Nat.le_refl _) ?_
        exact ⟨am_ri (by show _ = (if _ then _ else _); rw [if_neg (by omega), if_neg (by omega), if_neg (by omega), if_neg (by omega), if_neg (by omega), if_neg (by omega), if_pos c15]; exact f3.2.2), rfl, fin h1 f1⟩
  · refine aw_ldc (n := -1000001) dX8_item_11 kc_RX8_80 (by decide) ?_
    refine aw_ireturn dX8_item_13 rfl (Nat.le_refl _) (Nat.le_refl _) ?_
    rw [if_pos (by omega)]
    exact ⟨rfl, rfl, hC, fun _ _ => rfl⟩
end ASKD
