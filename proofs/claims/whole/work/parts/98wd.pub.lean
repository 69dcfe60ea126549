/-! PUBLIC METHODS: field: the reference -/
section P98wd
variable {I C J K V : pI} {L : pL} {N S : Nat} {t : Nat → Int32} {z E w : Nat} {f : Nat → Int32} {T : Nat → Int32}

/-- the rest of the text, item k read up to q -/
def y_rt (t : Nat → Int32) (E n k q : Nat) (V : pI) : (Nat × Nat) ⊕ (Nat × pI) := if E ≤ q then .inr (k, V) else if t q = 59 then y_rd t E n (k + 1) (q + 1) V else .inl (q, k)
theorem y_rd_rt {n k p q : Nat} {V V1 : pI} (h : y_im t V p = .inr (q, V1)) : y_rd t E (n + 1) k p V = y_rt t E n k q V1 := by rw [y_rd, h]; rfl

theorem dn_mf62 (d : Nat) {zs : Int32} {k : Nat} {Q : Option Value → mm_M → Prop} (hq : gP mm_cs0 (d + 3) 9 false (some .int) cX9_field 133 [some (.ref 108), some (.int zs), some (.int 0), some (.int (nI k)), some (.int 0)] [] (mm_sh, mm_R, K, L) Q) : gP mm_cs0 (d + 3) 9 false (some .int) cX9_field 62 [some (.ref 108), some (.int zs), some (.int 0), some (.int (nI k)), some (.int 0)] [] (mm_sh, mm_R, K, L) Q := by
  refine gp_iload dX9_field_62 rfl ?_
  refine gp_ifc (t := 133) dX9_field_64 (by decide) c1_eq (fun h1 => ?_) (fun h1 => ?_)
  · exact hq
  · exact absurd rfl h1

set_option maxHeartbeats 800000 in
theorem lp_mf (d : Nat) (htx : txM z t E L) {zs : Int32} {R : (Nat × Nat) ⊕ (Nat × pI)} {Q : Option Value → mm_M → Prop} (n : Nat) : ∀ (k q : Nat) (V K : pI) (N S : Nat), E ≤ q + 2 * n → q ≤ E → vN V N S → wnV V → mR V C K → mst z E q K → K 127 = T → y_rt t E n k q V = R → (∀ e k1 K1 V1, R = .inl (e, k1) → (∀ k j, ¬ fK8 k j → V1 k j = V k j) → mR V1 C K1 → K1 127 = T → K1 108 32 = nI e → gP mm_cs0 (d + 3) 9 false (some .int) cX9_field 133 [some (.ref 108), some (.int zs), some (.int 0), some (.int (nI k1)), some (.int 0)] [] (mm_sh, mm_R, K1, L) Q) → (∀ k1 V1 K1, R = .inr (k1, V1) → mR V1 C K1 → gP mm_cs0 (d + 3) 9 false (some .int) cX9_field 133 [some (.ref 108), some (.int zs), some (.int 0), some (.int (nI k1)), some (.int 1)] [] (mm_sh, mm_R, K1, L) Q) → gP mm_cs0 (d + 3) 9 false (some .int) cX9_field 62 [some (.ref 108), some (.int zs), some (.int 0), some (.int (nI k)), some (.int 1)] [] (mm_sh, mm_R, K, L) Q := by
  induction n with
  | zero =>
    intro k q V K N S hqn hqE0 v hwn hs hm hT hR he hk
    have hE := htx.2.1
    have zqo : nI E ≤ nI q → E ≤ q := fun y => by
      by_cases x : E ≤ q
      · exact x
      · exact absurd y (nI_ge (by omega) (by omega))
    have zqp : ¬ nI E ≤ nI q → q < E := fun y => by
      by_cases x : q < E
      · exact x
      · exact absurd (nI_le (by omega) (by omega)) y
    refine gp_iload dX9_field_62 rfl ?_
    refine gp_ifc (t := 133) dX9_field_64 (by decide) c1_eq (fun h1 => ?_) (fun h1 => ?_)
    · exact absurd h1 (by decide)
    · (try simp only [Classical.not_not] at h1)
      refine gp_aload_n dX9_field_67 rfl ?_
      refine gp_giv dX9_field_68 mf_9_176 (by decide) (by first | rfl | assumption | (simp only [*]; done)) (by first | exact hm.2.1 | exact hm.2.2 | exact hm.1 | exact rfl) ?_
      refine gp_aload_n dX9_field_71 rfl ?_
      refine gp_giv dX9_field_72 mf_9_179 (by decide) (by first | rfl | assumption | (simp only [*]; done)) (by first | exact hm.2.1 | exact hm.2.2 | exact hm.1 | exact rfl) ?_
      refine gp_icc (t := 133) dX9_field_75 (by decide) c2_ge (fun h2 => ?_) (fun h2 => ?_)
      · have h2' := Int32.not_lt.mpr h2
        (try simp only [Classical.not_not] at h2)
        exact hk k V K (by rw [← hR]; exact if_pos (zqo h2)) hs
      · have h2' := Int32.not_le.mp h2
        (try simp only [Classical.not_not] at h2)
        refine gp_aload_n dX9_field_78 rfl ?_
        refine gp_gr dX9_field_79 mf_9_68 rfl (by first | rfl | assumption | (simp only [*]; done)) (by first | rfl | assumption | (simp only [*]; done)) ?_
        refine gp_aload_n dX9_field_82 rfl ?_
        refine gp_giv dX9_field_83 mf_9_182 (by decide) (by first | rfl | assumption | (simp only [*]; done)) (by first | exact hm.2.1 | exact hm.2.2 | exact hm.1 | exact rfl) ?_
        refine gp_aload_n dX9_field_86 rfl ?_
        refine gp_giv dX9_field_87 mf_9_176 (by decide) (by first | rfl | assumption | (simp only [*]; done)) (by first | exact hm.2.1 | exact hm.2.2 | exact hm.1 | exact rfl) ?_
        refine gp_pu (st' := .int _ :: _) dX9_field_90 rfl ?_
        refine gp_lal dX9_field_91 (by first | rfl | assumption | (simp only [*]; done)) (tx_i htx (zqp h2) rfl rfl).1 ?_
        refine gp_pu (st' := .int _ :: _) dX9_field_92 rfl ?_
        rw [(tx_i htx (zqp h2) rfl rfl).2]
        refine gp_pu (st' := .int (59) :: _) dX9_field_93 rfl ?_
        refine gp_icc (t := 111) dX9_field_95 (by decide) c2_eq (fun h3 => ?_) (fun h3 => ?_)
        · exact absurd (zqp h2) (by omega)
        · (try simp only [Classical.not_not] at h3)
          refine gp_aload_n dX9_field_98 rfl ?_
          refine gp_aload_n dX9_field_99 rfl ?_
          refine gp_giv dX9_field_100 mf_9_176 (by decide) (by first | rfl | assumption | (simp only [*]; done)) (by first | exact hm.2.1 | exact hm.2.2 | exact hm.1 | exact rfl) ?_
          refine gp_call (kind := 1) (args := [.ref _, .int _]) (rest := _) dX9_field_103 (Or.inr (Or.inl ⟨rfl, rfl⟩)) mk_9_192 (by decide) me_155 rfl rfl rfl rfl rfl (mm_rc_of (by first | rfl | assumption | (simp only [*]; done))) (ok_wrong _ _ _ _) rfl ?_
          refine gp_istore (ls' := [some (.ref _), some (.int _), some (.int _), some (.int _), some (.int _)]) dX9_field_106 rfl (Nat.le_of_ble_eq_true rfl) ?_
          refine gp_goto (t := 62) dX9_field_108 (by decide) ?_
          exact dn_mf62 d (he q k _ V (by rw [← hR]; exact (if_neg (by have := zqp h2; omega)).trans (if_neg h3)) (fun _ _ _ => rfl) (hs.u (by decide) rfl) ((mm_u_k _ _ _ (by decide)).trans hT) (mm_u_s _ _ _ _))
  | succ n ih =>
    intro k q V K N S hqn hqE0 v hwn hs hm hT hR he hk
    have hE := htx.2.1
    have zqo : nI E ≤ nI q → E ≤ q := fun y => by
      by_cases x : E ≤ q
      · exact x
      · exact absurd y (nI_ge (by omega) (by omega))
    have zqp : ¬ nI E ≤ nI q → q < E := fun y => by
      by_cases x : q < E
      · exact x
      · exact absurd (nI_le (by omega) (by omega)) y
    have zqE1' : True := trivial
    refine gp_iload dX9_field_62 rfl ?_
    refine gp_ifc (t := 133) dX9_field_64 (by decide) c1_eq (fun h1 => ?_) (fun h1 => ?_)
    · exact absurd h1 (by decide)
    · (try simp only [Classical.not_not] at h1)
      refine gp_aload_n dX9_field_67 rfl ?_
      refine gp_giv dX9_field_68 mf_9_176 (by decide) (by first | rfl | assumption | (simp only [*]; done)) (by first | exact hm.2.1 | exact hm.2.2 | exact hm.1 | exact rfl) ?_
      refine gp_aload_n dX9_field_71 rfl ?_
      refine gp_giv dX9_field_72 mf_9_179 (by decide) (by first | rfl | assumption | (simp only [*]; done)) (by first | exact hm.2.1 | exact hm.2.2 | exact hm.1 | exact rfl) ?_
      refine gp_icc (t := 133) dX9_field_75 (by decide) c2_ge (fun h2 => ?_) (fun h2 => ?_)
      · have h2' := Int32.not_lt.mpr h2
        (try simp only [Classical.not_not] at h2)
        exact hk k V K (by rw [← hR]; exact if_pos (zqo h2)) hs
      · have h2' := Int32.not_le.mp h2
        (try simp only [Classical.not_not] at h2)
        refine gp_aload_n dX9_field_78 rfl ?_
        refine gp_gr dX9_field_79 mf_9_68 rfl (by first | rfl | assumption | (simp only [*]; done)) (by first | rfl | assumption | (simp only [*]; done)) ?_
        refine gp_aload_n dX9_field_82 rfl ?_
        refine gp_giv dX9_field_83 mf_9_182 (by decide) (by first | rfl | assumption | (simp only [*]; done)) (by first | exact hm.2.1 | exact hm.2.2 | exact hm.1 | exact rfl) ?_
        refine gp_aload_n dX9_field_86 rfl ?_
        refine gp_giv dX9_field_87 mf_9_176 (by decide) (by first | rfl | assumption | (simp only [*]; done)) (by first | exact hm.2.1 | exact hm.2.2 | exact hm.1 | exact rfl) ?_
        refine gp_pu (st' := .int _ :: _) dX9_field_90 rfl ?_
        refine gp_lal dX9_field_91 (by first | rfl | assumption | (simp only [*]; done)) (tx_i htx (zqp h2) rfl rfl).1 ?_
        refine gp_pu (st' := .int _ :: _) dX9_field_92 rfl ?_
        rw [(tx_i htx (zqp h2) rfl rfl).2]
        refine gp_pu (st' := .int (59) :: _) dX9_field_93 rfl ?_
        refine gp_icc (t := 111) dX9_field_95 (by decide) c2_eq (fun h3 => ?_) (fun h3 => ?_)
        · (try simp only [Classical.not_not] at h3)
          refine gp_aload_n dX9_field_111 rfl ?_
          refine gp_pu dX9_field_112 rfl ?_
          refine gp_giv dX9_field_113 mf_9_176 (by decide) (by first | rfl | assumption | (simp only [*]; done)) (by first | exact hm.2.1 | exact hm.2.2 | exact hm.1 | exact rfl) ?_
          refine gp_pu (st' := .int (1) :: _) dX9_field_116 rfl ?_
          refine gp_pu (st' := .int _ :: _) dX9_field_117 rfl ?_
          refine gp_pi dX9_field_118 mf_9_176 rfl rfl (by first | rfl | assumption | (simp only [*]; done)) ?_
          refine gp_iinc (v := (1)) (ls' := [some (.ref _), some (.int _), some (.int _), some (.int _), some (.int _)]) dX9_field_121 rfl (by decide) rfl ?_
          rw [nI_1, nI_1]
          refine gp_aload_n dX9_field_124 rfl ?_
          refine gp_callX (kind := 1) (args := [.ref _]) (rest := _) dX9_field_125 (Or.inr (Or.inl ⟨rfl, rfl⟩)) mk_9_221 (by decide) me_161 rfl rfl rfl rfl rfl (mm_rc_of (by first | rfl | assumption | (simp only [*]; done))) (mt_item d htx v hwn (hs.u (by decide) rfl) ⟨(mm_u_j _ _ (by decide)).trans hm.1, mm_u_s _ _ _ _, (mm_u_j _ _ (by decide)).trans hm.2.2⟩ (by have := zqp h2; omega : q + 1 ≤ E) ((mm_u_k _ _ _ (by decide)).trans hT)) ?_
          intro K1 zqk1
          refine gp_istore (ls' := [some (.ref _), some (.int _), some (.int _), some (.int _), some (.int _)]) dX9_field_128 rfl (Nat.le_of_ble_eq_true rfl) ?_
          refine gp_goto (t := 62) dX9_field_130 (by decide) ?_
          (have hqE := zqp h2
           have hq0 := y_im_q htx.2.2.2 v (show q + 1 ≤ E by have := zqp h2; omega)
           have hRR : y_rd t E (n + 1) (k + 1) (q + 1) V = R := by rw [← hR]; exact ((if_neg (by omega)).trans (if_pos h3)).symm
           unfold itX at zqk1
           cases hI : y_im t V (q + 1) with
           | inl e =>
            rw [hI] at zqk1
            obtain ⟨a1, a2, a3⟩ := zqk1
            exact dn_mf62 d (he e (k + 1) K1 V (by rw [← hRR]; exact y_rd_e hI) (fun _ _ _ => rfl) a1 a2 a3)
           | inr r =>
            obtain ⟨q1, V1⟩ := r
            rw [hI] at zqk1 hq0
            obtain ⟨a1, a2, a3⟩ := zqk1
            obtain ⟨b1, b2, ⟨N1, S1, b3⟩, b4, b5⟩ := hq0
            have hwn1 : wnV V1 := ⟨fun j hj => (b4 124 j (by rintro (y | y) <;> omega)).trans (hwn.1 j hj), fun j hj => (b4 125 j (by rintro (y | y) <;> omega)).trans (hwn.2 j hj)⟩
            refine ih (k + 1) q1 V1 K1 N1 S1 (by omega) b2 b3 hwn1 a1 a3 a2 (by rw [← hRR]; exact (y_rd_rt hI).symm) (fun e k1 K2 V2 c1 c2 => he e k1 K2 V2 c1 (fun k j hkj => (c2 k j hkj).trans (b4 k j hkj))) (fun k1 V2 K2 c1 => hk k1 V2 K2 c1))
        · (try simp only [Classical.not_not] at h3)
          refine gp_aload_n dX9_field_98 rfl ?_
          refine gp_aload_n dX9_field_99 rfl ?_
          refine gp_giv dX9_field_100 mf_9_176 (by decide) (by first | rfl | assumption | (simp only [*]; done)) (by first | exact hm.2.1 | exact hm.2.2 | exact hm.1 | exact rfl) ?_
          refine gp_call (kind := 1) (args := [.ref _, .int _]) (rest := _) dX9_field_103 (Or.inr (Or.inl ⟨rfl, rfl⟩)) mk_9_192 (by decide) me_155 rfl rfl rfl rfl rfl (mm_rc_of (by first | rfl | assumption | (simp only [*]; done))) (ok_wrong _ _ _ _) rfl ?_
          refine gp_istore (ls' := [some (.ref _), some (.int _), some (.int _), some (.int _), some (.int _)]) dX9_field_106 rfl (Nat.le_of_ble_eq_true rfl) ?_
          refine gp_goto (t := 62) dX9_field_108 (by decide) ?_
          exact dn_mf62 d (he q k _ V (by rw [← hR]; exact (if_neg (by have := zqp h2; omega)).trans (if_neg h3)) (fun _ _ _ => rfl) (hs.u (by decide) rfl) ((mm_u_k _ _ _ (by decide)).trans hT) (mm_u_s _ _ _ _))
end P98wd
