/-! every call keeps what an object is -/
section WFK
variable {σ : ST}
theorem wf_row {la si : Int → Int} {va : Int → Int → Int} {fn : Int} (hW : WFst σ) (h : ∀ i, 0 ≤ i → i < 8 → -1 ≤ la i ∧ la i ≤ 2 ∧ 0 ≤ si i ∧ si i ≤ 40) : WFst (la, si, va, fn, σ.2.2.2.2) := ⟨h, hW.2⟩
theorem wf_fnd {x : Int} (hW : WFst σ) : WFst (wFnd σ x) := ⟨hW.1, hW.2⟩
theorem k_row {r l k : Int} (hW : WFst σ) : WFst (sp_row σ r l k).2 := by
  unfold sp_row
  split
  · exact hW
  · split
    · exact wf_fnd hW
    · refine wf_row hW (fun i i0 i1 => ?_)
      have := hW.1 i i0 i1
      unfold up1
      by_cases y : i = r
      · rw [if_pos y, if_pos y]; omega
      · rw [if_neg y, if_neg y]; exact this
theorem k_set {r i v : Int} (hW : WFst σ) : WFst (sp_set σ r i v).2 := by
  unfold sp_set
  split
  · exact hW
  · split
    · exact wf_fnd hW
    · split
      · exact wf_fnd hW
      · exact wf_row hW hW.1
theorem k_copy {a i b j k : Int} (hW : WFst σ) : WFst (sp_copy σ a i b j k).2 := by
  unfold sp_copy
  split
  · exact hW
  · split
    · exact wf_fnd hW
    · split
      · exact wf_fnd hW
      · split
        · exact wf_fnd hW
        · exact wf_row hW hW.1
theorem k_drop {r : Int} (hW : WFst σ) : WFst (sp_drop σ r).2 := by
  unfold sp_drop
  split
  · exact hW
  · split
    · exact wf_fnd hW
    · refine wf_row hW (fun i i0 i1 => ?_)
      have := hW.1 i i0 i1
      unfold up1
      by_cases y : i = r
      · rw [if_pos y]; exact ⟨by omega, by omega, this.2.2⟩
      · rw [if_neg y]; exact this
theorem k_feed {x : Int} (hW : WFst σ) : WFst (sp_feed σ x).2 := by
  unfold sp_feed
  split
  · exact hW
  · split
    · exact hW
    · obtain ⟨w1, w2, w3, w4⟩ := hW
      refine ⟨w1, ⟨by show 0 ≤ (s_tap σ).1 + 1; omega, by show (s_tap σ).1 + 1 ≤ 80; omega⟩, fun j j0 j1 => ?_, w4⟩
      have j2 : j < (s_tap σ).1 + 1 := j1
      show 0 ≤ up1 (s_tap σ).2 (s_tap σ).1 x j ∧ up1 (s_tap σ).2 (s_tap σ).1 x j ≤ 255
      unfold up1
      by_cases y : j = (s_tap σ).1
      · rw [if_pos y]; omega
      · rw [if_neg y]; exact w3 j j0 (by omega)
def okP (p : Nat × (Nat → VW)) : Prop := p.1 ≤ 24 ∧ ∀ j, j < p.1 → WFs (p.2 j) ∧ p.2 j ≠ ZV
theorem wf_LP {V : VW} {p : Nat × (Nat → VW)} (hW : WFst σ) (hV : WFs V) (hp : okP p) : WFst (wLP σ V p) := ⟨hW.1, hW.2.1, hW.2.2.1, hV, hp, hW.2.2.2.2.2⟩
theorem ne_ZV {V : VW} (h : V 0 0 ≠ 0) : V ≠ ZV := fun z => h (by rw [z]; rfl)
theorem ok_push {V : VW} {p : Nat × (Nat → VW)} (hp : okP p) (hV : WFs V) (hn : V 0 0 ≠ 0) : okP (pushP p V) := by
  unfold pushP
  by_cases y : p.1 < 24
  · rw [if_pos y]
    refine ⟨by show p.1 + 1 ≤ 24; omega, fun j hj => ?_⟩
    have hj2 : j < p.1 + 1 := hj
    show WFs (if j = p.1 then V else p.2 j) ∧ (if j = p.1 then V else p.2 j) ≠ ZV
    by_cases w : j = p.1
    · rw [if_pos w]; exact ⟨hV, ne_ZV hn⟩
    · rw [if_neg w]; exact hp.2 j (by omega)
  · rw [if_neg y]
    refine ⟨Nat.le_refl 24, fun j hj => ?_⟩
    have hj2 : j < 24 := hj
    show WFs (if j = 23 then V else p.2 (j + 1)) ∧ (if j = 23 then V else p.2 (j + 1)) ≠ ZV
    by_cases w : j = 23
    · rw [if_pos w]; exact ⟨hV, ne_ZV hn⟩
    · rw [if_neg w]; exact hp.2 (j + 1) (by omega)
theorem strun_cut {stop : Bool} : ∀ (n : Nat) (V : VW) (H : Nat → Int → Int) (kp : Nat) (r f g : Int), cut V = V → cut (strun stop n V H kp r f g).1 = (strun stop n V H kp r f g).1
  | 0, _, _, _, _, _, _, hc => hc
  | n + 1, V, H, kp, r, f, g, hc => by
    unfold strun
    by_cases hst : stl V = true
    · rw [if_pos hst]; exact hc
    · rw [if_neg hst]
      by_cases hs : find (rnd V 3) (hup H kp (V 3)) (V 0 0).toNat kp = -1
      · rw [if_pos hs]; exact strun_cut n _ _ _ _ _ _ (cut_rnd hc)
      · rw [if_neg hs]
        by_cases hp : stop = true
        · rw [if_pos hp]; exact cut_frz (cut_rnd hc)
        · rw [if_neg hp]; exact strun_cut n _ _ _ _ _ _ (cut_frz (cut_rnd hc))
theorem k_round (hW : WFst σ) : WFst (sp_round σ).2 := by
  unfold sp_round
  by_cases a : s_liv σ 0 0 = 0
  · rw [if_pos a]; exact hW
  · rw [if_neg a]
    by_cases b : 9999 ≤ s_liv σ 0 4
    · rw [if_pos b]; exact hW
    · rw [if_neg b]
      have hL := wf_liv hW.2.2.2.1 a
      refine wf_LP hW (Or.inr ⟨addR_wf (rnd_wf hL.1), ?_, ?_, cut_addR (cut_rnd hL.2.2.2)⟩) (ok_push hW.2.2.2.2.1 hW.2.2.2.1 a)
      · rw [addR_4, rnd_0]; omega
      · rw [addR_4, rnd_0]; omega
theorem k_settle (hW : WFst σ) : WFst (sp_settle σ).2 := by
  unfold sp_settle
  by_cases a : s_liv σ 0 0 = 0
  · rw [if_pos a]; exact hW
  · rw [if_neg a]
    by_cases b : 9999 < s_liv σ 0 4 + (settles false (s_liv σ)).2.1
    · rw [if_pos b]; exact hW
    · rw [if_neg b]
      have hL := wf_liv hW.2.2.2.1 a
      have hok := settles_ok (stop := false) hL.1
      refine wf_LP hW (Or.inr ⟨addR_wf hok.1, ?_, ?_, cut_addR (strun_cut 200 _ _ _ _ _ _ hL.2.2.2)⟩) (ok_push hW.2.2.2.2.1 hW.2.2.2.1 a)
      · rw [addR_4, hok.2.2.2.2.2]; omega
      · rw [addR_4, hok.2.2.2.2.2]; omega
theorem k_number {i k : Int} (hW : WFst σ) : WFst (sp_number σ i k).2 := by
  unfold sp_number
  split
  · exact hW
  · rename_i a
    have hL := wf_liv hW.2.2.2.1 (by omega)
    exact wf_LP hW (Or.inr ⟨setV2_wf hL.1 (fun z => by omega) (fun z => by omega), by rw [setV_ne (by omega)]; exact hL.2.1, by rw [setV_ne (by omega)]; exact hL.2.2.1, cut_setV hL.2.2.2 (Or.inr ⟨by omega, by omega, by omega, by omega⟩)⟩) (ok_push hW.2.2.2.2.1 hW.2.2.2.1 (by omega))
theorem k_rule {w v : Int} (hW : WFst σ) : WFst (sp_rule σ w v).2 := by
  unfold sp_rule
  by_cases a : s_liv σ 0 0 = 0
  · rw [if_pos a]; exact hW
  · rw [if_neg a]
    split
    · rename_i b
      have hL := wf_liv hW.2.2.2.1 a
      refine wf_LP hW (Or.inr ⟨?_, by rw [setV_ne (by omega)]; exact hL.2.1, by rw [setV_ne (by omega)]; exact hL.2.2.1, cut_setV hL.2.2.2 (Or.inl ⟨rfl, by omega, by omega⟩)⟩) (ok_push hW.2.2.2.2.1 hW.2.2.2.1 a)
      obtain ⟨c1, c2, c3, c4, c5, c6, c7, c8, hi⟩ := hL.1
      have e : ∀ k : Int, setV (s_liv σ) 0 (w + 1) v 0 k = if k = w + 1 then v else s_liv σ 0 k := fun k => by
        by_cases y : k = w + 1
        · rw [if_pos y, y]; exact setV_at
        · rw [if_neg y]; exact setV_ne (by omega)
      have ej : ∀ j : Nat, j ≠ 0 → setV (s_liv σ) 0 (w + 1) v j = s_liv σ j := fun j hj => by funext k; exact setV_ne (by omega)
      unfold WFv
      rw [ej 1 (by decide), ej 2 (by decide), ej 3 (by decide), ej 4 (by decide), e, e, e, e, if_neg (by omega)]
      refine ⟨c1, c2, ?_, ?_, ?_, ?_, ?_, ?_, hi⟩ <;> (split <;> omega)
    · exact hW
theorem k_anew (hW : WFst σ) : WFst (sp_anew σ).2 := by
  unfold sp_anew
  by_cases a : s_liv σ 0 0 = 0
  · rw [if_pos a]; exact hW
  · rw [if_neg a]
    have hL := wf_liv hW.2.2.2.1 a
    exact wf_LP hW (Or.inr ⟨bgn_wf hL.1, by rw [bgn_0 (by decide) (by decide)]; exact hL.2.1, by rw [bgn_0 (by decide) (by decide)]; exact hL.2.2.1, cut_cut _⟩) (ok_push hW.2.2.2.2.1 hW.2.2.2.1 a)
theorem k_undo (hW : WFst σ) : WFst (sp_undo σ).2 := by
  unfold sp_undo
  by_cases a : (s_pas σ).1 = 0
  · rw [if_pos a]; exact hW
  · rw [if_neg a]
    have hp := hW.2.2.2.2.1
    exact wf_LP hW (hp.2 _ (by omega)).1 ⟨by show (s_pas σ).1 - 1 ≤ 24; omega, fun j hj => hp.2 j (by have : j < (s_pas σ).1 - 1 := hj; omega)⟩
theorem k_image {k : Int} (hW : WFst σ) : WFst (sp_image σ k).2 := by
  unfold sp_image
  split
  · exact hW
  · split
    · exact hW
    · refine ⟨hW.1, hW.2.1, hW.2.2.1, hW.2.2.2.1, hW.2.2.2.2.1, fun j j0 j1 => ?_, hW.2.2.2.2.2.2⟩
      show WFs (if j = k then s_liv σ else s_img σ j)
      by_cases y : j = k
      · rw [if_pos y]; exact hW.2.2.2.1
      · rw [if_neg y]; exact hW.2.2.2.2.2.1 j j0 j1
theorem k_restore {k : Int} (hW : WFst σ) : WFst (sp_restore σ k).2 := by
  unfold sp_restore
  split
  · exact hW
  · split
    · exact hW
    · exact wf_LP hW (hW.2.2.2.2.2.1 k (by omega) (by omega)) ⟨by show 0 ≤ 24; omega, fun j hj => absurd hj (Nat.not_lt_zero j)⟩
theorem pushT_b {T : TR} {b : Int} (h : 0 ≤ T.1 ∧ T.1 ≤ 16) : 0 ≤ (pushT T b).1 ∧ (pushT T b).1 ≤ 16 := by
  unfold pushT
  by_cases y : T.1 < 16
  · rw [if_pos y]; show 0 ≤ T.1 + 1 ∧ T.1 + 1 ≤ 16; omega
  · rw [if_neg y]; exact h
theorem trs_b : ∀ (bs : List Int) {T : TR}, 0 ≤ T.1 ∧ T.1 ≤ 16 → 0 ≤ (trs T bs).1 ∧ (trs T bs).1 ≤ 16
  | [], _, h => h
  | b :: bs, _, h => trs_b bs (pushT_b h)
theorem k_ask {i w : Int} (hW : WFst σ) : WFst (sp_ask σ i w).2 := by
  unfold sp_ask
  split
  · exact hW
  · exact ⟨hW.1, hW.2.1, hW.2.2.1, hW.2.2.2.1, hW.2.2.2.2.1, hW.2.2.2.2.2.1, trs_b _ (by show (0 : Int) ≤ 0 ∧ (0 : Int) ≤ 16; omega)⟩
theorem k_as {i k : Int} (hW : WFst σ) : WFst (sp_as σ i k).2 := by
  unfold sp_as
  split
  · exact hW
  · split <;> exact wf_fnd hW
theorem k_fits {it r i k w : Int} (hW : WFst σ) : WFst (sp_fits σ it r i k w).2 := by
  unfold sp_fits
  split
  · exact hW
  · split
    · exact wf_fnd hW
    · split <;> exact wf_fnd hW
theorem k_sheet (hW : WFst σ) : WFst (sp_sheet σ).2 := by
  unfold sp_sheet
  have tb := hW.2.1
  by_cases a : psF (s_tap σ).2 (s_tap σ).1 = 0
  · rw [if_pos a]
    have w := ps_wf tb.1 a
    exact ⟨hW.1, ⟨by show (0 : Int) ≤ 0; omega, by show (0 : Int) ≤ 80; omega⟩, fun j j0 j1 => absurd (show j < 0 from j1) (by omega), w.1, ⟨by show 0 ≤ 24; omega, fun j hj => absurd hj (Nat.not_lt_zero j)⟩, hW.2.2.2.2.2⟩
  · rw [if_neg a]
    exact ⟨hW.1, ⟨by show (0 : Int) ≤ 0; omega, by show (0 : Int) ≤ 80; omega⟩, fun j j0 j1 => absurd (show j < 0 from j1) (by omega), hW.2.2.2⟩
theorem sn_ite {c : Prop} [Decidable c] {a b : Int × ST} (h1 : a.2 = σ) (h2 : b.2 = σ) : (if c then a else b).2 = σ := by split <;> assumption
theorem s_item {i w : Int} : (sp_item σ i w).2 = σ := sn_ite rfl rfl
theorem s_behind {i w : Int} : (sp_behind σ i w).2 = σ := sn_ite rfl rfl
theorem s_lies : (sp_lies σ).2 = σ := sn_ite rfl rfl
theorem s_settled {w : Int} : (sp_settled σ w).2 = σ := sn_ite rfl (sn_ite rfl rfl)
theorem s_ends {w : Int} : (sp_ends σ w).2 = σ := sn_ite rfl rfl
theorem s_moves {w : Int} : (sp_moves σ w).2 = σ := sn_ite rfl rfl
theorem s_room {w : Int} : (sp_room σ w).2 = σ := sn_ite rfl rfl
theorem s_restless : (sp_restless σ).2 = σ := sn_ite rfl rfl
theorem s_chance {c w : Int} : (sp_chance σ c w).2 = σ := sn_ite rfl (sn_ite rfl rfl)
theorem s_drawn {k s w : Int} : (sp_drawn σ k s w).2 = σ := sn_ite rfl (sn_ite rfl rfl)
theorem s_kind {i : Int} : (sp_kind σ i).2 = σ := sn_ite rfl rfl
theorem s_trace {i : Int} : (sp_trace σ i).2 = σ := sn_ite rfl rfl
theorem s_count {i : Int} : (sp_count σ i).2 = σ := rfl
end WFK
