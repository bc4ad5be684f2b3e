/-! the law's loop, and its start -/
def σ0 : ST := (fun _ => -1, fun _ => 0, fun _ _ => 0, 0, (0, fun _ => 0), 0, ZV, (0, fun _ => ZV), fun _ => ZV, (0, fun _ => 0))
theorem wf_0 : WFst σ0 := ⟨fun i _ _ => ⟨(by decide : (-1 : Int) ≤ -1), (by decide : (-1 : Int) ≤ 2), (by decide : (0 : Int) ≤ 0), (by decide : (0 : Int) ≤ 40)⟩, ⟨by decide, by decide⟩, fun j j0 j1 => absurd j1 (by show ¬ j < 0; omega), Or.inl rfl, ⟨by decide, fun j j1 => absurd j1 (by show ¬ j < 0; omega)⟩, fun _ _ _ => Or.inl rfl, ⟨by decide, by decide⟩⟩
section LW2
variable {L i n e q ck sk : Nat} {h hh : Mem} {σ : ST}
theorem lA_0 {c : Nat} (hc : c < 389) (h2 : c ≠ 2) (h3 : c ≠ 374) (j : Int) : lA 8 hh c j = 0 := by
  unfold lA am_fill
  rw [if_neg (fun w => h3 w.1)]
  unfold zA am_fill
  rw [if_neg (fun w => h2 w.1)]
  unfold zH
  rw [if_pos hc]
theorem lA_2 {j : Int} (j0 : 0 ≤ j) (j1 : j < 8) : lA 8 hh 2 j = -1 := by
  unfold lA am_fill
  rw [if_neg (by omega)]
  unfold zA am_fill
  rw [if_pos ⟨rfl, j0, j1⟩]
theorem lA_4 {j : Int} (j0 : 0 ≤ j) (j1 : j < 8) : lA 8 hh 374 j = -1000000 := by
  unfold lA am_fill
  rw [if_pos ⟨rfl, j0, j1⟩]
theorem lA_h {c : Nat} (hc : 389 ≤ c) : lA 8 hh c = hh c := by
  funext j
  unfold lA am_fill
  rw [if_neg (by omega)]
  unfold zA am_fill
  rw [if_neg (by omega)]
  unfold zH
  rw [if_neg (by omega)]
theorem cut_Z {V : VW} (hV : ∀ j k, j < 5 → V j k = 0) : cut V = ZV := by
  funext j k
  unfold cut
  by_cases z : j = 0
  · rw [if_pos z]
    by_cases y : 0 ≤ k ∧ k < 5
    · rw [if_pos y, hV 0 k (by decide)]; rfl
    · rw [if_neg y]; rfl
  · rw [if_neg z]
    by_cases y : j < 5 ∧ 0 ≤ k ∧ k < V 0 0
    · rw [if_pos y, hV j k y.1]; rfl
    · rw [if_neg y]; rfl
theorem cs_0 : CS (lA 8 hh) σ0 := by
  refine ⟨fun i i0 i1 => ⟨lA_2 i0 i1, lA_0 (by decide) (by decide) (by decide) i, fun j j0 j1 => lA_0 (by omega) (by omega) (by omega) j⟩, lA_0 (by decide) (by decide) (by decide) _, ⟨lA_0 (by decide) (by decide) (by decide) _, fun j j0 j1 => absurd j1 (by show ¬ j < 0; omega)⟩, lA_0 (by decide) (by decide) (by decide) _, cut_Z (fun j k hj => lA_0 (by omega) (by omega) (by omega) k), ⟨lA_0 (by decide) (by decide) (by decide) _, by decide, ?_, ?_, fun j j1 => absurd j1 (by show ¬ j < 0; omega)⟩, fun k k0 k1 => cut_Z (fun j k hj => lA_0 (by omega) (by omega) (by omega) k), ⟨lA_0 (by decide) (by decide) (by decide) _, fun j j0 j1 => absurd j1 (by show ¬ j < 0; omega)⟩⟩
  · rw [lA_0 (by decide) (by decide) (by decide)]; decide
  · rw [lA_0 (by decide) (by decide) (by decide)]; decide
theorem mV_0 {a : Nat} {o : Int} (ha : a < 389) (h2 : a ≠ 2) (h3 : a ≠ 374) : mV (lA 8 hh) a o = ZV := by
  unfold mV
  refine cut_Z (fun j k hj => ?_)
  unfold mS
  simp only [lA_0 ha h2 h3, ite_self]
theorem ms_0 : MS (lA 8 hh) σ0 := by
  refine ⟨fun i i0 i1 => ⟨lA_4 i0 i1, lA_0 (by decide) (by decide) (by decide) i, fun j j0 j1 => lA_0 (by decide) (by decide) (by decide) _⟩, lA_0 (by decide) (by decide) (by decide) _, ⟨lA_0 (by decide) (by decide) (by decide) _, fun j j0 j1 => absurd j1 (by show ¬ j < 0; omega)⟩, lA_0 (by decide) (by decide) (by decide) _, mV_0 (by decide) (by decide) (by decide), ⟨lA_0 (by decide) (by decide) (by decide) _, by decide, fun j j1 => absurd j1 (by show ¬ j < 0; omega)⟩, fun k k0 k1 => ⟨lA_0 (by decide) (by decide) (by decide) _, mV_0 (by decide) (by decide) (by decide)⟩, ⟨lA_0 (by decide) (by decide) (by decide) _, fun j j0 j1 => absurd j1 (by show ¬ j < 0; omega)⟩⟩
theorem li_0 (hr : RO hh) (hd : DG hh) : LI (lA 8 hh) σ0 := ⟨cs_0, ms_0, wf_0, fun i i0 i1 => by rw [lA_h (by decide)]; exact hr i i0 i1, fun j j0 j1 => by rw [lA_h (by decide), lA_h (by decide)]; exact hd j j0 j1⟩
theorem l_law (hL : L ≤ 3072) : ∀ (m i e q n ck sk : Nat) (σ : ST) (h : Mem), LI h σ → L < i + 6 * m + 6 → i ≤ 3072 → 389 ≤ n → n % 2 = 1 → n + 2 * m ≤ 1500 → ck + 2 * m ≤ 1500 → sk + 20 * m ≤ 30000 → AW M_L_law 1500 30000 QL 18 [some (vR 1000000), some (vR 0), some (vR 373), some (vI i)] [] (TT e q n L) h ck sk := by
  intro m
  induction m with
  | zero =>
    intro i e q n ck sk σ h hI hm hi n1 n2 n3 hc hs
    refine aw_iload_n dL_law_18 rfl ?_
    refine aw_aload_n dL_law_19 rfl ?_
    refine aw_arraylength dL_law_20 rfl rfl (by omega) ?_
    refine aw_bipush dL_law_21 (by decide) (by decide) ?_
    refine aw_isub dL_law_23 (by omega) (by omega) ?_
    refine aw_icmp_gt 1076 dL_law_24 rfl (fun c24 => ?_) (fun c24 => ?_)
    · refine aw_iconst dL_law_1076 (by decide) (by decide) ?_
      refine aw_zreturn dL_law_1077 rfl (by omega) (by omega) (by first | decide | omega) (by first | decide | omega) ?_
      rfl
    · exfalso; omega
  | succ m ih =>
    intro i e q n ck sk σ h hI hm hi n1 n2 n3 hc hs
    have hk : i + 6 ≤ L → KL L i (n + 2) (ck + 2) (sk + 20) := fun x e1 q1 m1 c1 s1 σ1 h1 I1 a1 a2 a3 a4 a5 => by
      have z := ih (i + 6) e1 q1 m1 c1 s1 σ1 h1 I1 (by omega) (by omega) a1 a2 (by omega) (by omega) (by omega)
      refine aw_iinc (ls' := [_, _, _, _]) dL_law_1070 (by decide) rfl (by omega) (by omega) rfl ?_
      refine aw_goto 18 dL_law_1073 rfl ?_
      exact z
    by_cases y : i + 6 ≤ L
    · have hk := hk y
      refine aw_iload_n dL_law_18 rfl ?_
      refine aw_aload_n dL_law_19 rfl ?_
      refine aw_arraylength dL_law_20 rfl rfl (by omega) ?_
      refine aw_bipush dL_law_21 (by decide) (by decide) ?_
      refine aw_isub dL_law_23 (by omega) (by omega) ?_
      refine aw_icmp_gt 1076 dL_law_24 rfl (fun c24 => ?_) (fun c24 => ?_)
      · exfalso; omega
      · refine aw_aload_n dL_law_27 rfl ?_
        refine aw_iload_n dL_law_28 rfl ?_
        refine aw_iaload dL_law_29 (by first | rfl | assumption) (by omega) (by omega) ?_
        refine aw_bipush dL_law_30 (by decide) (by decide) ?_
        refine aw_iandw dL_law_32 ?_
        refine aw_table 1070 dL_law_33 rfl (fun c33 => ?_) (fun g33a g33b => ?_)
        · exact hk _ _ _ _ _ _ _ hI n1 n2 (by omega) (by omega) (by omega)
        · rcases tcs_0_32 g33a g33b with c33 | c33 | c33 | c33 | c33 | c33 | c33 | c33 | c33 | c33 | c33 | c33 | c33 | c33 | c33 | c33 | c33 | c33 | c33 | c33 | c33 | c33 | c33 | c33 | c33 | c33 | c33 | c33 | c33 | c33 | c33 | c33 | c33
          · refine aw_tableIn 180 dL_law_33 g33a g33b (by rw [c33]; rfl) rfl ?_
            exact lw_row hk hI hL y n1 n2 (by omega) (by omega) (by omega)
          · refine aw_tableIn 223 dL_law_33 g33a g33b (by rw [c33]; rfl) rfl ?_
            exact lw_set hk hI hL y n1 n2 (by omega) (by omega) (by omega)
          · refine aw_tableIn 266 dL_law_33 g33a g33b (by rw [c33]; rfl) rfl ?_
            exact lw_copy hk hI hL y n1 n2 (by omega) (by omega) (by omega)
          · refine aw_tableIn 329 dL_law_33 g33a g33b (by rw [c33]; rfl) rfl ?_
            exact lw_drop hk hI hL y n1 n2 (by omega) (by omega) (by omega)
          · refine aw_tableIn 352 dL_law_33 g33a g33b (by rw [c33]; rfl) rfl ?_
            exact lw_feed hk hI hL y n1 n2 (by omega) (by omega) (by omega)
          · refine aw_tableIn 375 dL_law_33 g33a g33b (by rw [c33]; rfl) rfl ?_
            exact lw_sheet hk hI hL y n1 n2 (by omega) (by omega) (by omega)
          · refine aw_tableIn 388 dL_law_33 g33a g33b (by rw [c33]; rfl) rfl ?_
            exact lw_fault hk hI hL y n1 n2 (by omega) (by omega) (by omega)
          · refine aw_tableIn 401 dL_law_33 g33a g33b (by rw [c33]; rfl) rfl ?_
            exact lw_round hk hI hL y n1 n2 (by omega) (by omega) (by omega)
          · refine aw_tableIn 414 dL_law_33 g33a g33b (by rw [c33]; rfl) rfl ?_
            exact lw_settle hk hI hL y n1 n2 (by omega) (by omega) (by omega)
          · refine aw_tableIn 427 dL_law_33 g33a g33b (by rw [c33]; rfl) rfl ?_
            exact lw_number hk hI hL y n1 n2 (by omega) (by omega) (by omega)
          · refine aw_tableIn 460 dL_law_33 g33a g33b (by rw [c33]; rfl) rfl ?_
            exact lw_rule hk hI hL y n1 n2 (by omega) (by omega) (by omega)
          · refine aw_tableIn 493 dL_law_33 g33a g33b (by rw [c33]; rfl) rfl ?_
            exact lw_anew hk hI hL y n1 n2 (by omega) (by omega) (by omega)
          · refine aw_tableIn 506 dL_law_33 g33a g33b (by rw [c33]; rfl) rfl ?_
            exact lw_undo hk hI hL y n1 n2 (by omega) (by omega) (by omega)
          · refine aw_tableIn 519 dL_law_33 g33a g33b (by rw [c33]; rfl) rfl ?_
            exact lw_item hk hI hL y n1 n2 (by omega) (by omega) (by omega)
          · refine aw_tableIn 552 dL_law_33 g33a g33b (by rw [c33]; rfl) rfl ?_
            exact lw_print hk hI hL y n1 n2 (by omega) (by omega) (by omega)
          · refine aw_tableIn 585 dL_law_33 g33a g33b (by rw [c33]; rfl) rfl ?_
            exact lw_behind hk hI hL y n1 n2 (by omega) (by omega) (by omega)
          · refine aw_tableIn 618 dL_law_33 g33a g33b (by rw [c33]; rfl) rfl ?_
            exact lw_lies hk hI hL y n1 n2 (by omega) (by omega) (by omega)
          · refine aw_tableIn 631 dL_law_33 g33a g33b (by rw [c33]; rfl) rfl ?_
            exact lw_settled hk hI hL y n1 n2 (by omega) (by omega) (by omega)
          · refine aw_tableIn 654 dL_law_33 g33a g33b (by rw [c33]; rfl) rfl ?_
            exact lw_ends hk hI hL y n1 n2 (by omega) (by omega) (by omega)
          · refine aw_tableIn 677 dL_law_33 g33a g33b (by rw [c33]; rfl) rfl ?_
            exact lw_moves hk hI hL y n1 n2 (by omega) (by omega) (by omega)
          · refine aw_tableIn 700 dL_law_33 g33a g33b (by rw [c33]; rfl) rfl ?_
            exact lw_room hk hI hL y n1 n2 (by omega) (by omega) (by omega)
          · refine aw_tableIn 723 dL_law_33 g33a g33b (by rw [c33]; rfl) rfl ?_
            exact lw_restless hk hI hL y n1 n2 (by omega) (by omega) (by omega)
          · refine aw_tableIn 736 dL_law_33 g33a g33b (by rw [c33]; rfl) rfl ?_
            exact lw_fits hk hI hL y n1 n2 (by omega) (by omega) (by omega)
          · refine aw_tableIn 799 dL_law_33 g33a g33b (by rw [c33]; rfl) rfl ?_
            exact lw_chance hk hI hL y n1 n2 (by omega) (by omega) (by omega)
          · refine aw_tableIn 833 dL_law_33 g33a g33b (by rw [c33]; rfl) rfl ?_
            exact lw_drawn hk hI hL y n1 n2 (by omega) (by omega) (by omega)
          · refine aw_tableIn 876 dL_law_33 g33a g33b (by rw [c33]; rfl) rfl ?_
            exact lw_image hk hI hL y n1 n2 (by omega) (by omega) (by omega)
          · refine aw_tableIn 899 dL_law_33 g33a g33b (by rw [c33]; rfl) rfl ?_
            exact lw_restore hk hI hL y n1 n2 (by omega) (by omega) (by omega)
          · refine aw_tableIn 922 dL_law_33 g33a g33b (by rw [c33]; rfl) rfl ?_
            exact lw_kind hk hI hL y n1 n2 (by omega) (by omega) (by omega)
          · refine aw_tableIn 945 dL_law_33 g33a g33b (by rw [c33]; rfl) rfl ?_
            exact lw_as hk hI hL y n1 n2 (by omega) (by omega) (by omega)
          · refine aw_tableIn 978 dL_law_33 g33a g33b (by rw [c33]; rfl) rfl ?_
            exact lw_ask hk hI hL y n1 n2 (by omega) (by omega) (by omega)
          · refine aw_tableIn 1011 dL_law_33 g33a g33b (by rw [c33]; rfl) rfl ?_
            exact lw_trace hk hI hL y n1 n2 (by omega) (by omega) (by omega)
          · refine aw_tableIn 1034 dL_law_33 g33a g33b (by rw [c33]; rfl) rfl ?_
            exact lw_count hk hI hL y n1 n2 (by omega) (by omega) (by omega)
          · refine aw_tableIn 1057 dL_law_33 g33a g33b (by rw [c33]; rfl) rfl ?_
            exact lw_status hk hI hL y n1 n2 (by omega) (by omega) (by omega)
    · have y2 : ¬ i + 6 ≤ L := y
      refine aw_iload_n dL_law_18 rfl ?_
      refine aw_aload_n dL_law_19 rfl ?_
      refine aw_arraylength dL_law_20 rfl rfl (by omega) ?_
      refine aw_bipush dL_law_21 (by decide) (by decide) ?_
      refine aw_isub dL_law_23 (by omega) (by omega) ?_
      refine aw_icmp_gt 1076 dL_law_24 rfl (fun c24 => ?_) (fun c24 => ?_)
      · refine aw_iconst dL_law_1076 (by decide) (by decide) ?_
        refine aw_zreturn dL_law_1077 rfl (by omega) (by omega) (by first | decide | omega) (by first | decide | omega) ?_
        rfl
      · exfalso; omega
/-- the machine at the law's start: no cell of its own, the given rows -/
def T0 (L : Nat) : Tp := (0, fun b => if 1000000 ≤ b then sh_a 389 L b else (99, 0), rf_a 237 15)
theorem stg_0 : pT (T0 L) 9 13 = stg 1 0 (fun _ => none) g36 L := by
  refine Prod.ext rfl (Prod.ext ?_ ?_)
  · funext b
    show (if b = 0 then (9, 13) else if 1000000 ≤ b then sh_a 389 L b else (99, 0)) = if b < 1 ∨ 1000000 ≤ b then sh_a 389 L b else (99, 0)
    by_cases y : b = 0
    · subst y; rfl
    · rw [if_neg y]
      by_cases z : 1000000 ≤ b
      · rw [if_pos z, if_pos (Or.inr z)]
      · rw [if_neg z, if_neg (by omega)]
  · funext b j
    show (if b = 0 then none else rf_a 237 15 b j) = if b = 0 then none else if b = 360 then g36 j else rf_a 237 15 b j
    by_cases y : b = 0
    · rw [if_pos y, if_pos y]
    · rw [if_neg y, if_neg y]
      by_cases z : b = 360
      · subst z; rfl
      · rw [if_neg z]
theorem zH_0 : pH (T0 L) hh = zH 1 hh := by
  funext b
  show (if b = 0 then (fun _ => (0 : Int)) else hh b) = if b < 1 then (fun _ => 0) else hh b
  by_cases y : b = 0
  · rw [if_pos y, if_pos (by omega)]
  · rw [if_neg y, if_neg (by omega)]
theorem s_law (hL : L ≤ 3072) (hr : RO hh) (hd : DG hh) : AW M_L_law 1500 30000 QL 0 [some (vR 1000000), none, none, none] [] (T0 L) hh 0 0 := by
  have z := fun ck sk a b => l_law hL 512 0 237 15 389 ck sk σ0 (lA 8 hh) (li_0 hr hd) (by omega) (by omega) (by omega) (by omega) (by omega) a b
  refine aw_new dL_law_0 nl_RL_7 (Nat.le_of_ble_eq_true rfl) (by omega) (by omega) ?_
  refine aw_to stg_0 zH_0 ?_
  refine aw_dup dL_law_3 rfl ?_
  refine aw_callI dL_law_4 il_RL_9 (c_X8_init (L := L) (hh := hh)) rfl rfl (Nat.le_of_ble_eq_true rfl) (Nat.le_of_ble_eq_true rfl) (Nat.le_of_ble_eq_true rfl) (by omega) (by omega) ?_
  intro v_ t_ h_ hq_
  obtain ⟨rfl, rfl, rfl⟩ := hq_
  refine aw_astore_n (ls' := [_, _, _, _]) dL_law_7 (by decide) rfl ?_
  refine aw_new dL_law_8 nl_RL_10 (Nat.le_of_ble_eq_true rfl) (by omega) (by omega) ?_
  refine aw_to stg_m (zA_p (by decide)) ?_
  refine aw_dup dL_law_11 rfl ?_
  refine aw_callI dL_law_12 il_RL_12 (c_X9_init (L := L) (hh := hh)) rfl rfl (Nat.le_of_ble_eq_true rfl) (Nat.le_of_ble_eq_true rfl) (Nat.le_of_ble_eq_true rfl) (by omega) (by omega) ?_
  intro v_ t_ h_ hq_
  obtain ⟨rfl, rfl, rfl⟩ := hq_
  refine aw_astore_n (ls' := [_, _, _, _]) dL_law_15 (by decide) rfl ?_
  refine aw_iconst dL_law_16 (by decide) (by decide) ?_
  refine aw_istore_n (ls' := [_, _, _, _]) dL_law_17 (by decide) rfl ?_
  exact z _ _ (by omega) (by omega)
end LW2
