/-! PUBLIC METHODS: field, the pair -/
section P98wf
variable {I C J K V : pI} {L : pL} {N S : Nat}

/-- another fault on both sides -/
theorem RR_flt (h : RR I L) (x : Int32) : RR (mg (mm_u I 0 13 x) (mm_u I 108 9 x)) L := by
  have e : ∀ k j, ¬ (k = 0 ∧ j = 13) → ¬ (k = 108 ∧ j = 9) → mg (mm_u I 0 13 x) (mm_u I 108 9 x) k j = I k j := fun k j a b => by
    by_cases q : k < 108
    · rw [mg_c _ _ q, mm_u_i, if_neg a]
    · rw [mg_r _ _ (by omega), mm_u_i, if_neg b]
  obtain ⟨N, S, hb, hS, hL, hK, hT, hW, hE⟩ := h
  refine ⟨N, S, ⟨hb.1.cg (fun k j z => e k j (by rcases z with z | z <;> omega) (by rcases z with z | z <;> omega)), hb.2.cg (fun k a b j => e k j (by omega) (by omega)) (fun k j z => e k j (by rcases z with z | z <;> omega) (by rcases z with z | z <;> omega))⟩, fun q hq => (hS q hq).cg (fun j => e _ j (by omega) (by omega)) (e _ _ (by omega) (by omega)) (e _ _ (by omega) (by omega)) (e _ _ (by omega) (by omega)) (e _ _ (by omega) (by omega)) (e _ _ (by omega) (by omega)), hL, hK.cg (e _ _ (by omega) (by omega)) (e _ _ (by omega) (by omega)) (fun k a b j => e k j (by omega) (by omega)) (fun j => e _ j (by omega) (by omega)), hT.cg (e _ _ (by omega) (by omega)) (e _ _ (by omega) (by omega)) (fun j => e _ j (by omega) (by omega)) (fun j => e _ j (by omega) (by omega)), hW.cg (fun j => e _ j (by omega) (by omega)) (fun j => e _ j (by omega) (by omega)), ?_, fun n hn => ?_⟩
  · rw [mg_c _ _ (by omega : 0 < 108), mg_r _ _ (by omega : 108 ≤ 108), mm_u_s, mm_u_s]
  · rw [e 75 n (by omega) (by omega), e 109 n (by omega) (by omega)]; exact hE.2 n hn
theorem RR_fno (h : RR I L) (x : Int32) {w : Int32} (hw : isW w) : RR (mg (rI (mm_u I 0 13 x) w) (rM (mm_u I 108 9 x) w)) L := by
  have := (RR_flt h x).no w (Or.inr hw)
  have e : mg (rI (mg (mm_u I 0 13 x) (mm_u I 108 9 x)) w) (rM (mg (mm_u I 0 13 x) (mm_u I 108 9 x)) w) = mg (rI (mm_u I 0 13 x) w) (rM (mm_u I 108 9 x) w) := by
    funext k
    by_cases q : k < 108
    · rw [mg_c _ _ q, mg_c _ _ q]
      funext j
      unfold rI
      rw [if_neg hw.ne, if_neg hw.ne, mm_u_i, mm_u_i, mg_c _ _ q, mg_c _ _ (by omega : 75 < 108)]
    · rw [mg_r _ _ (by omega), mg_r _ _ (by omega)]
      funext j
      unfold rM
      rw [if_neg hw.ne, if_neg hw.ne, mm_u_i, mm_u_i, mg_r _ _ (by omega : 108 ≤ k), mg_r _ _ (by omega : 108 ≤ 109)]
  rw [e] at this
  exact this

set_option maxHeartbeats 400000 in
theorem cf_no (d : Nat) (hb : bR I N S) (hS : ∀ s, s < 8 → rSh I s) {s : Int32} (h : ¬ m_want I s = 0) (hw : isW (m_want I s)) : cP (d + 9) 75 [.ref 0, .int s] (mm_sh, mm_R, I, L) (pX (some (.int (m_want I s))) L (sc (rI I (m_want I s)))) := by
  refine cP.of_gP (d := d + 8) me_75 ⟨Nat.le_of_ble_eq_true rfl, rfl⟩ ?_
  show gP mm_cs0 _ _ _ _ _ _ [some (.ref _), some (.int _), none, none] [] _ _
  refine gp_aload_n dX8_field_0 rfl ?_
  refine gp_iload_n dX8_field_1 rfl ?_
  refine gp_callX (kind := 1) (args := [.ref _, .int _]) (rest := _) dX8_field_2 (Or.inr (Or.inl ⟨rfl, rfl⟩)) mk_8_87 (by decide) me_107 rfl rfl rfl rfl rfl (mm_rc_of (by first | rfl | assumption | (simp only [*]; done))) (ct_why _ hb hS) ?_
  intro K1 zqk1
  rw [zqk1]
  refine gp_istore_n (ls' := [some (.ref _), some (.int _), some (.int _), none]) dX8_field_5 rfl (Nat.le_of_ble_eq_true rfl) ?_
  refine gp_iload_n dX8_field_6 rfl ?_
  refine gp_ifc (t := 16) dX8_field_7 (by decide) c1_eq (fun h1 => ?_) (fun h1 => ?_)
  · exact absurd h1 h
  · refine gp_aload_n dX8_field_10 rfl ?_
    refine gp_iload_n dX8_field_11 rfl ?_
    refine gp_call (kind := 1) (args := [.ref _, .int _]) (rest := _) dX8_field_12 (Or.inr (Or.inl ⟨rfl, rfl⟩)) mk_8_79 (by decide) me_100 rfl rfl rfl rfl rfl (mm_rc_of (by first | rfl | assumption | (simp only [*]; done))) (ok_X8_refuse _ _ _ _) rfl ?_
    refine gp_iret dX8_field_15 rfl ?_
    exact pX.mk rfl (by rw [x_ref_w _ hw]; exact sc.rf _)

set_option maxHeartbeats 400000 in
theorem mf_no (d : Nat) (v : vN I N S) (hs : mR I C J) {s : Int32} (h : ¬ m_want I s = 0) (hw : isW (m_want I s)) : cP (d + 4) 164 [.ref 108, .int s] (mm_sh, mm_R, J, L) (pX (some (.int (m_want I s))) L (mR (rM I (m_want I s)) C)) := by
  refine cP.of_gP (d := d + 3) me_164 ⟨Nat.le_of_ble_eq_true rfl, rfl⟩ ?_
  show gP mm_cs0 _ _ _ _ _ _ [some (.ref _), some (.int _), none, none, none] [] _ _
  refine gp_aload_n dX9_field_0 rfl ?_
  refine gp_iload_n dX9_field_1 rfl ?_
  refine gp_callX (kind := 1) (args := [.ref _, .int _]) (rest := _) dX9_field_2 (Or.inr (Or.inl ⟨rfl, rfl⟩)) mk_9_214 (by decide) me_140 rfl rfl rfl rfl rfl (mm_rc_of (by first | rfl | assumption | (simp only [*]; done))) (ml_wanted _ v hs) ?_
  intro K1 zqk1
  refine gp_istore_n (ls' := [some (.ref _), some (.int _), some (.int _), none, none]) dX9_field_5 rfl (Nat.le_of_ble_eq_true rfl) ?_
  refine gp_iload_n dX9_field_6 rfl ?_
  refine gp_ifc (t := 16) dX9_field_7 (by decide) c1_eq (fun h1 => ?_) (fun h1 => ?_)
  · exact absurd h1 h
  · refine gp_aload_n dX9_field_10 rfl ?_
    refine gp_iload_n dX9_field_11 rfl ?_
    refine gp_call (kind := 1) (args := [.ref _, .int _]) (rest := _) dX9_field_12 (Or.inr (Or.inl ⟨rfl, rfl⟩)) mk_9_127 (by decide) me_127 rfl rfl rfl rfl rfl (mm_rc_of (by first | rfl | assumption | (simp only [*]; done))) (ok_X9_no _ _ _ _ hw.inn) rfl ?_
    refine gp_iret dX9_field_15 rfl ?_
    exact pX.mk rfl (zqk1.no hw)

theorem eq_field (s : Int32) : eqc 75 164 [.int s] := by
  refine eqc_of fun I L hR => ?_
  have hR0 := hR
  obtain ⟨N, S, hb, hS, hL, hK, hT, hW, hE⟩ := hR
  by_cases h : m_want I s = 0
  · have r6 := (want_0 hS h).2.2.2.2.2
    have hEe : I 120 s.toNatClampNeg = nI (I 120 s.toNatClampNeg).toNatClampNeg := (nI_cl (by rw [ti_le, ti_0]; exact r6.1)).symm
    have htx := txM_s (L := L) hS h
    have hq := y_rd_q htx.2.2.2 160 1 0 (mm_u I 108 9 (-1)) N S (Nat.zero_le _) (vN_9 hb.1 (-1))
    cases hF : y_fd I L s.toNatClampNeg with
    | inl q =>
      obtain ⟨e, k⟩ := q
      refine ⟨.int (-6), L, rI (mm_u I 0 13 (nI e)) (-6), rM (mm_u I 108 9 (nI e)) (-6), L, cf_e 31 hb hS hL h hF, fun k hk => ?_, fun C J hs => ?_, RR_fno hR0 (nI e) (by unfold isW; decide)⟩
      · rw [rI_o _ _ (by omega), mm_u_k _ _ _ (by omega)]
      · refine (ml_field 36 hb.1 hs hS hW h htx hEe).mono ?_
        rintro r M ⟨v, K, rfl, rfl, a1, a2⟩
        obtain ⟨b1, b2⟩ := a1 e k hF
        exact pX.mk (by rw [b1]) b2
    | inr q =>
      obtain ⟨k, V1⟩ := q
      have hF2 : y_rd (y_tx L s.toNatClampNeg (I 120 s.toNatClampNeg).toNatClampNeg) (I 120 s.toNatClampNeg).toNatClampNeg 160 1 0 (mm_u I 108 9 (-1)) = .inr (k, V1) := hF
      rw [hF2] at hq
      obtain ⟨⟨N1, S1, v1⟩, hV, hm⟩ := hq
      have hV : ∀ k j, ¬ fK8 k j → V1 k j = mm_u I 108 9 (-1) k j := hV
      have hm : mm_u I 108 9 (-1) 108 0 ≤ V1 108 0 := hm
      refine ⟨.int (nI k), L, mm_u (fC I V1) 0 13 (-1), V1, L, cf_k 31 hb hS hL h hF v1.2.2.2.2.2.2.2.2.1, fun k hk => ?_, fun C J hs => ?_, ?_⟩
      · rw [mm_u_k _ _ _ (by omega), fC_o _ _ (by omega)]
      · refine (ml_field 36 hb.1 hs hS hW h htx hEe).mono ?_
        rintro r M ⟨v, K, rfl, rfl, a1, a2⟩
        obtain ⟨b1, b2⟩ := a2 k V1 hF
        exact pX.mk (by rw [b1]) b2
      · refine (RR_flt hR0 (-1)).now2 v1 ((fC_F I V1).cg (fun k a b j => by rw [mm_u_o _ _ _ _ (by omega)]) (fun _ _ _ => rfl)) ?_ (fun k a b => ?_) (fun k a b => ?_) ?_ ?_ ?_
        · rw [mg_r _ _ (by omega : 108 ≤ 108)]; exact hm
        · rw [mg_c _ _ a]
          funext j
          rw [mm_u_i, mm_u_i, fC_o _ _ b]
        · rw [mg_r _ _ (by omega : 108 ≤ k)]
          funext j
          exact hV k j (by rintro (y | y) <;> omega)
        · rw [mg_r _ _ (by omega : 108 ≤ 108)]; exact hV 108 9 (by rintro (y | y) <;> omega)
        · rw [mg_r _ _ (by omega : 108 ≤ 108)]; exact hV 108 57 (by rintro (y | y) <;> omega)
        · rw [mg_r _ _ (by omega : 108 ≤ 108)]; exact hV 108 58 (by rintro (y | y) <;> omega)
  · have hw := (m_want_w I s).resolve_left h
    exact ⟨_, L, rI I (m_want I s), rM I (m_want I s), L, cf_no 31 hb hS h hw, fun k hk => rI_o _ _ (by omega), fun C J hs => mf_no 36 hb.1 hs h hw, hR0.no _ (Or.inr hw)⟩
end P98wf
