/-! THE LAW: its loop, and what holds at the start -/

set_option maxRecDepth 100000 in
theorem rr_start : RR mm_I0 mm_L0 := by
  refine ⟨0, 0, ⟨?_, ?_⟩, ?_, ?_, ?_, ?_, ?_, ?_⟩
  · unfold vN wi; decide +kernel
  · unfold rF; decide +kernel
  · unfold rSh wi; decide +kernel
  · intro s hs j hj; rfl
  · exact ⟨by decide +kernel, Or.inl (by decide +kernel)⟩
  · unfold rT; decide +kernel
  · unfold rW; decide +kernel
  · unfold rE; decide +kernel
theorem lw_in {n k j : Nat} {v : Int32} (hv : v = nI j) (h : k + j < n) (hn : n ≤ 3072) : mm_in (nI k + v) n = true := by
  rw [hv, nI_add]
  exact (mm_in_i (by omega)).mpr ⟨nI_pos' (by omega), nI_lt (by omega) (by omega)⟩

set_option maxHeartbeats 2000000 in
theorem lw_loop {n : Nat} (hn : n ≤ 3072) (xs : Nat → Int32) : ∀ (f k : Nat) (I : pI) (L : pL), n + 6 ≤ k + f → k ≤ n → RR I L → gP (lw_cs n xs) 40 10 false (some .boolean) code 18 [some (.ref 1004), some (.ref 0), some (.ref 108), some (.int (nI k))] [] (mm_sh, mm_R, I, L) (fun r M => r = some (.int 1) ∧ M.1 = mm_sh) := by
  intro f
  induction f with
  | zero => intro k I L h1 h2 hR; omega
  | succ f ih =>
    intro k I L h1 h2 hR
    have tk : (nI k).toInt = k := nI_toInt (by omega)
    have tn : (nI n).toInt = n := nI_toInt (by omega)
    have t6 : (6 : Int32).toInt = 6 := by decide
    have tm : (nI n - 6).toInt = (n : Int) - 6 := by rw [ti_sub (by rw [tn, t6]; omega) (by rw [tn, t6]; omega), tn, t6]
    refine gp_iload_n dL_18 rfl ?_
    refine gp_aload_n dL_19 rfl ?_
    refine gp_lens dL_20 ?_
    refine gp_pu (st' := .int (6) :: _) dL_21 rfl ?_
    refine gp_pu (st' := .int _ :: _) dL_23 rfl ?_
    refine gp_icc (t := 1461) dL_24 (by decide) c2_gt (fun hg => ?_) (fun hg => ?_)
    · refine gp_pu (st' := .int (1) :: _) dL_1461 rfl ?_
      exact gp_zret dL_1462 rfl (Or.inr rfl) ⟨rfl, rfl⟩
    · rw [ti_lt, tk, tm] at hg
      have hk6 : k + 6 ≤ n := by omega
      have hend : ∀ J K, RR J K → gP (lw_cs n xs) 40 10 false (some .boolean) code 1455 [some (.ref 1004), some (.ref 0), some (.ref 108), some (.int (nI k))] [] (mm_sh, mm_R, J, K) (fun r M => r = some (.int 1) ∧ M.1 = mm_sh) := by
        intro J K hJ
        refine gp_iinc (v := (6)) (ls' := [some (.ref 1004), some (.ref 0), some (.ref 108), some (.int (nI (k + 6)))]) dL_1455 rfl (by decide) (by rw [← nI_add]; rfl) ?_
        refine gp_goto (t := 18) dL_1458 (by decide) ?_
        exact ih (k + 6) J K (by omega) hk6 hJ
      have hin : mm_in (nI k) n = true := (mm_in_i (by omega)).mpr ⟨nI_pos' (by omega), nI_lt (by omega) (by omega)⟩
      refine gp_aload_n dL_27 rfl ?_
      refine gp_iload_n dL_28 rfl ?_
      refine gp_iac dL_29 rfl hin ?_
      refine gp_pu (st' := .int (63) :: _) dL_30 rfl ?_
      refine gp_pu (st' := .int (xs (nI k).toNatClampNeg &&& 63) :: _) dL_32 rfl ?_
      generalize xs (nI k).toNatClampNeg &&& 63 = z
      by_cases h0 : z.toInt < 0 ∨ 39 < z.toInt
      · exact gp_ts (t := 1455) dL_33 (by unfold mm_ts; rw [if_pos h0]) (by decide) (hend _ _ hR)
      · have hz : z.toInt = 0 ∨ z.toInt = 1 ∨ z.toInt = 2 ∨ z.toInt = 3 ∨ z.toInt = 4 ∨ z.toInt = 5 ∨ z.toInt = 6 ∨ z.toInt = 7 ∨ z.toInt = 8 ∨ z.toInt = 9 ∨ z.toInt = 10 ∨ z.toInt = 11 ∨ z.toInt = 12 ∨ z.toInt = 13 ∨ z.toInt = 14 ∨ z.toInt = 15 ∨ z.toInt = 16 ∨ z.toInt = 17 ∨ z.toInt = 18 ∨ z.toInt = 19 ∨ z.toInt = 20 ∨ z.toInt = 21 ∨ z.toInt = 22 ∨ z.toInt = 23 ∨ z.toInt = 24 ∨ z.toInt = 25 ∨ z.toInt = 26 ∨ z.toInt = 27 ∨ z.toInt = 28 ∨ z.toInt = 29 ∨ z.toInt = 30 ∨ z.toInt = 31 ∨ z.toInt = 32 ∨ z.toInt = 33 ∨ z.toInt = 34 ∨ z.toInt = 35 ∨ z.toInt = 36 ∨ z.toInt = 37 ∨ z.toInt = 38 ∨ z.toInt = 39 := by omega
        rcases hz with hz | hz | hz | hz | hz | hz | hz | hz | hz | hz | hz | hz | hz | hz | hz | hz | hz | hz | hz | hz | hz | hz | hz | hz | hz | hz | hz | hz | hz | hz | hz | hz | hz | hz | hz | hz | hz | hz | hz | hz
        · exact gp_ts (t := 208) dL_33 (by rw [hz]; rfl) (by decide) (lw_c0 n xs (lw_in (j := 1) rfl (by omega) hn) (lw_in (j := 2) rfl (by omega) hn) (lw_in (j := 3) rfl (by omega) hn) (lw_in (j := 4) rfl (by omega) hn) (lw_in (j := 5) rfl (by omega) hn) hR hend)
        · exact gp_ts (t := 251) dL_33 (by rw [hz]; rfl) (by decide) (lw_c1 n xs (lw_in (j := 1) rfl (by omega) hn) (lw_in (j := 2) rfl (by omega) hn) (lw_in (j := 3) rfl (by omega) hn) (lw_in (j := 4) rfl (by omega) hn) (lw_in (j := 5) rfl (by omega) hn) hR hend)
        · exact gp_ts (t := 324) dL_33 (by rw [hz]; rfl) (by decide) (lw_c2 n xs (lw_in (j := 1) rfl (by omega) hn) (lw_in (j := 2) rfl (by omega) hn) (lw_in (j := 3) rfl (by omega) hn) (lw_in (j := 4) rfl (by omega) hn) (lw_in (j := 5) rfl (by omega) hn) hR hend)
        · exact gp_ts (t := 387) dL_33 (by rw [hz]; rfl) (by decide) (lw_c3 n xs (lw_in (j := 1) rfl (by omega) hn) (lw_in (j := 2) rfl (by omega) hn) (lw_in (j := 3) rfl (by omega) hn) (lw_in (j := 4) rfl (by omega) hn) (lw_in (j := 5) rfl (by omega) hn) hR hend)
        · exact gp_ts (t := 421) dL_33 (by rw [hz]; rfl) (by decide) (lw_c4 n xs (lw_in (j := 1) rfl (by omega) hn) (lw_in (j := 2) rfl (by omega) hn) (lw_in (j := 3) rfl (by omega) hn) (lw_in (j := 4) rfl (by omega) hn) (lw_in (j := 5) rfl (by omega) hn) hR hend)
        · exact gp_ts (t := 454) dL_33 (by rw [hz]; rfl) (by decide) (lw_c5 n xs (lw_in (j := 1) rfl (by omega) hn) (lw_in (j := 2) rfl (by omega) hn) (lw_in (j := 3) rfl (by omega) hn) (lw_in (j := 4) rfl (by omega) hn) (lw_in (j := 5) rfl (by omega) hn) hR hend)
        · exact gp_ts (t := 477) dL_33 (by rw [hz]; rfl) (by decide) (lw_c6 n xs (lw_in (j := 1) rfl (by omega) hn) (lw_in (j := 2) rfl (by omega) hn) (lw_in (j := 3) rfl (by omega) hn) (lw_in (j := 4) rfl (by omega) hn) (lw_in (j := 5) rfl (by omega) hn) hR hend)
        · exact gp_ts (t := 510) dL_33 (by rw [hz]; rfl) (by decide) (lw_c7 n xs (lw_in (j := 1) rfl (by omega) hn) (lw_in (j := 2) rfl (by omega) hn) (lw_in (j := 3) rfl (by omega) hn) (lw_in (j := 4) rfl (by omega) hn) (lw_in (j := 5) rfl (by omega) hn) hR hend)
        · exact gp_ts (t := 553) dL_33 (by rw [hz]; rfl) (by decide) (lw_c8 n xs (lw_in (j := 1) rfl (by omega) hn) (lw_in (j := 2) rfl (by omega) hn) (lw_in (j := 3) rfl (by omega) hn) (lw_in (j := 4) rfl (by omega) hn) (lw_in (j := 5) rfl (by omega) hn) hR hend)
        · exact gp_ts (t := 586) dL_33 (by rw [hz]; rfl) (by decide) (lw_c9 n xs (lw_in (j := 1) rfl (by omega) hn) (lw_in (j := 2) rfl (by omega) hn) (lw_in (j := 3) rfl (by omega) hn) (lw_in (j := 4) rfl (by omega) hn) (lw_in (j := 5) rfl (by omega) hn) hR hend)
        · exact gp_ts (t := 619) dL_33 (by rw [hz]; rfl) (by decide) (lw_c10 n xs (lw_in (j := 1) rfl (by omega) hn) (lw_in (j := 2) rfl (by omega) hn) (lw_in (j := 3) rfl (by omega) hn) (lw_in (j := 4) rfl (by omega) hn) (lw_in (j := 5) rfl (by omega) hn) hR hend)
        · exact gp_ts (t := 652) dL_33 (by rw [hz]; rfl) (by decide) (lw_c11 n xs (lw_in (j := 1) rfl (by omega) hn) (lw_in (j := 2) rfl (by omega) hn) (lw_in (j := 3) rfl (by omega) hn) (lw_in (j := 4) rfl (by omega) hn) (lw_in (j := 5) rfl (by omega) hn) hR hend)
        · exact gp_ts (t := 685) dL_33 (by rw [hz]; rfl) (by decide) (lw_c12 n xs (lw_in (j := 1) rfl (by omega) hn) (lw_in (j := 2) rfl (by omega) hn) (lw_in (j := 3) rfl (by omega) hn) (lw_in (j := 4) rfl (by omega) hn) (lw_in (j := 5) rfl (by omega) hn) hR hend)
        · exact gp_ts (t := 718) dL_33 (by rw [hz]; rfl) (by decide) (lw_c13 n xs (lw_in (j := 1) rfl (by omega) hn) (lw_in (j := 2) rfl (by omega) hn) (lw_in (j := 3) rfl (by omega) hn) (lw_in (j := 4) rfl (by omega) hn) (lw_in (j := 5) rfl (by omega) hn) hR hend)
        · refine gp_ts (t := 751) dL_33 (by rw [hz]; rfl) (by decide) ?_
          by_cases hz1 : xs (nI k + 1).toNatClampNeg = 0
          · exact lw_c14z n xs hz1 (lw_in (j := 1) rfl (by omega) hn) (lw_in (j := 2) rfl (by omega) hn) (lw_in (j := 3) rfl (by omega) hn) (lw_in (j := 4) rfl (by omega) hn) (lw_in (j := 5) rfl (by omega) hn) hR hend
          · exact lw_c14n n xs hz1 (lw_in (j := 1) rfl (by omega) hn) (lw_in (j := 2) rfl (by omega) hn) (lw_in (j := 3) rfl (by omega) hn) (lw_in (j := 4) rfl (by omega) hn) (lw_in (j := 5) rfl (by omega) hn) hR hend
        · exact gp_ts (t := 790) dL_33 (by rw [hz]; rfl) (by decide) (lw_c15 n xs (lw_in (j := 1) rfl (by omega) hn) (lw_in (j := 2) rfl (by omega) hn) (lw_in (j := 3) rfl (by omega) hn) (lw_in (j := 4) rfl (by omega) hn) (lw_in (j := 5) rfl (by omega) hn) hR hend)
        · exact gp_ts (t := 813) dL_33 (by rw [hz]; rfl) (by decide) (lw_c16 n xs (lw_in (j := 1) rfl (by omega) hn) (lw_in (j := 2) rfl (by omega) hn) (lw_in (j := 3) rfl (by omega) hn) (lw_in (j := 4) rfl (by omega) hn) (lw_in (j := 5) rfl (by omega) hn) hR hend)
        · exact gp_ts (t := 826) dL_33 (by rw [hz]; rfl) (by decide) (lw_c17 n xs (lw_in (j := 1) rfl (by omega) hn) (lw_in (j := 2) rfl (by omega) hn) (lw_in (j := 3) rfl (by omega) hn) (lw_in (j := 4) rfl (by omega) hn) (lw_in (j := 5) rfl (by omega) hn) hR hend)
        · exact gp_ts (t := 869) dL_33 (by rw [hz]; rfl) (by decide) (lw_c18 n xs (lw_in (j := 1) rfl (by omega) hn) (lw_in (j := 2) rfl (by omega) hn) (lw_in (j := 3) rfl (by omega) hn) (lw_in (j := 4) rfl (by omega) hn) (lw_in (j := 5) rfl (by omega) hn) hR hend)
        · exact gp_ts (t := 892) dL_33 (by rw [hz]; rfl) (by decide) (lw_c19 n xs (lw_in (j := 1) rfl (by omega) hn) (lw_in (j := 2) rfl (by omega) hn) (lw_in (j := 3) rfl (by omega) hn) (lw_in (j := 4) rfl (by omega) hn) (lw_in (j := 5) rfl (by omega) hn) hR hend)
        · exact gp_ts (t := 915) dL_33 (by rw [hz]; rfl) (by decide) (lw_c20 n xs (lw_in (j := 1) rfl (by omega) hn) (lw_in (j := 2) rfl (by omega) hn) (lw_in (j := 3) rfl (by omega) hn) (lw_in (j := 4) rfl (by omega) hn) (lw_in (j := 5) rfl (by omega) hn) hR hend)
        · exact gp_ts (t := 948) dL_33 (by rw [hz]; rfl) (by decide) (lw_c21 n xs (lw_in (j := 1) rfl (by omega) hn) (lw_in (j := 2) rfl (by omega) hn) (lw_in (j := 3) rfl (by omega) hn) (lw_in (j := 4) rfl (by omega) hn) (lw_in (j := 5) rfl (by omega) hn) hR hend)
        · exact gp_ts (t := 991) dL_33 (by rw [hz]; rfl) (by decide) (lw_c22 n xs (lw_in (j := 1) rfl (by omega) hn) (lw_in (j := 2) rfl (by omega) hn) (lw_in (j := 3) rfl (by omega) hn) (lw_in (j := 4) rfl (by omega) hn) (lw_in (j := 5) rfl (by omega) hn) hR hend)
        · exact gp_ts (t := 1034) dL_33 (by rw [hz]; rfl) (by decide) (lw_c23 n xs (lw_in (j := 1) rfl (by omega) hn) (lw_in (j := 2) rfl (by omega) hn) (lw_in (j := 3) rfl (by omega) hn) (lw_in (j := 4) rfl (by omega) hn) (lw_in (j := 5) rfl (by omega) hn) hR hend)
        · exact gp_ts (t := 1047) dL_33 (by rw [hz]; rfl) (by decide) (lw_c24 n xs (lw_in (j := 1) rfl (by omega) hn) (lw_in (j := 2) rfl (by omega) hn) (lw_in (j := 3) rfl (by omega) hn) (lw_in (j := 4) rfl (by omega) hn) (lw_in (j := 5) rfl (by omega) hn) hR hend)
        · exact gp_ts (t := 1080) dL_33 (by rw [hz]; rfl) (by decide) (lw_c25 n xs (lw_in (j := 1) rfl (by omega) hn) (lw_in (j := 2) rfl (by omega) hn) (lw_in (j := 3) rfl (by omega) hn) (lw_in (j := 4) rfl (by omega) hn) (lw_in (j := 5) rfl (by omega) hn) hR hend)
        · exact gp_ts (t := 1093) dL_33 (by rw [hz]; rfl) (by decide) (lw_c26 n xs (lw_in (j := 1) rfl (by omega) hn) (lw_in (j := 2) rfl (by omega) hn) (lw_in (j := 3) rfl (by omega) hn) (lw_in (j := 4) rfl (by omega) hn) (lw_in (j := 5) rfl (by omega) hn) hR hend)
        · exact gp_ts (t := 1126) dL_33 (by rw [hz]; rfl) (by decide) (lw_c27 n xs (lw_in (j := 1) rfl (by omega) hn) (lw_in (j := 2) rfl (by omega) hn) (lw_in (j := 3) rfl (by omega) hn) (lw_in (j := 4) rfl (by omega) hn) (lw_in (j := 5) rfl (by omega) hn) hR hend)
        · exact gp_ts (t := 1159) dL_33 (by rw [hz]; rfl) (by decide) (lw_c28 n xs (lw_in (j := 1) rfl (by omega) hn) (lw_in (j := 2) rfl (by omega) hn) (lw_in (j := 3) rfl (by omega) hn) (lw_in (j := 4) rfl (by omega) hn) (lw_in (j := 5) rfl (by omega) hn) hR hend)
        · exact gp_ts (t := 1182) dL_33 (by rw [hz]; rfl) (by decide) (lw_c29 n xs (lw_in (j := 1) rfl (by omega) hn) (lw_in (j := 2) rfl (by omega) hn) (lw_in (j := 3) rfl (by omega) hn) (lw_in (j := 4) rfl (by omega) hn) (lw_in (j := 5) rfl (by omega) hn) hR hend)
        · exact gp_ts (t := 1215) dL_33 (by rw [hz]; rfl) (by decide) (lw_c30 n xs (lw_in (j := 1) rfl (by omega) hn) (lw_in (j := 2) rfl (by omega) hn) (lw_in (j := 3) rfl (by omega) hn) (lw_in (j := 4) rfl (by omega) hn) (lw_in (j := 5) rfl (by omega) hn) hR hend)
        · exact gp_ts (t := 1238) dL_33 (by rw [hz]; rfl) (by decide) (lw_c31 n xs (lw_in (j := 1) rfl (by omega) hn) (lw_in (j := 2) rfl (by omega) hn) (lw_in (j := 3) rfl (by omega) hn) (lw_in (j := 4) rfl (by omega) hn) (lw_in (j := 5) rfl (by omega) hn) hR hend)
        · exact gp_ts (t := 1271) dL_33 (by rw [hz]; rfl) (by decide) (lw_c32 n xs (lw_in (j := 1) rfl (by omega) hn) (lw_in (j := 2) rfl (by omega) hn) (lw_in (j := 3) rfl (by omega) hn) (lw_in (j := 4) rfl (by omega) hn) (lw_in (j := 5) rfl (by omega) hn) hR hend)
        · exact gp_ts (t := 1284) dL_33 (by rw [hz]; rfl) (by decide) (lw_c33 n xs (lw_in (j := 1) rfl (by omega) hn) (lw_in (j := 2) rfl (by omega) hn) (lw_in (j := 3) rfl (by omega) hn) (lw_in (j := 4) rfl (by omega) hn) (lw_in (j := 5) rfl (by omega) hn) hR hend)
        · exact gp_ts (t := 1317) dL_33 (by rw [hz]; rfl) (by decide) (lw_c34 n xs (lw_in (j := 1) rfl (by omega) hn) (lw_in (j := 2) rfl (by omega) hn) (lw_in (j := 3) rfl (by omega) hn) (lw_in (j := 4) rfl (by omega) hn) (lw_in (j := 5) rfl (by omega) hn) hR hend)
        · exact gp_ts (t := 1340) dL_33 (by rw [hz]; rfl) (by decide) (lw_c35 n xs (lw_in (j := 1) rfl (by omega) hn) (lw_in (j := 2) rfl (by omega) hn) (lw_in (j := 3) rfl (by omega) hn) (lw_in (j := 4) rfl (by omega) hn) (lw_in (j := 5) rfl (by omega) hn) hR hend)
        · exact gp_ts (t := 1383) dL_33 (by rw [hz]; rfl) (by decide) (lw_c36 n xs (lw_in (j := 1) rfl (by omega) hn) (lw_in (j := 2) rfl (by omega) hn) (lw_in (j := 3) rfl (by omega) hn) (lw_in (j := 4) rfl (by omega) hn) (lw_in (j := 5) rfl (by omega) hn) hR hend)
        · exact gp_ts (t := 1406) dL_33 (by rw [hz]; rfl) (by decide) (lw_c37 n xs (lw_in (j := 1) rfl (by omega) hn) (lw_in (j := 2) rfl (by omega) hn) (lw_in (j := 3) rfl (by omega) hn) (lw_in (j := 4) rfl (by omega) hn) (lw_in (j := 5) rfl (by omega) hn) hR hend)
        · exact gp_ts (t := 1419) dL_33 (by rw [hz]; rfl) (by decide) (lw_c38 n xs (lw_in (j := 1) rfl (by omega) hn) (lw_in (j := 2) rfl (by omega) hn) (lw_in (j := 3) rfl (by omega) hn) (lw_in (j := 4) rfl (by omega) hn) (lw_in (j := 5) rfl (by omega) hn) hR hend)
        · exact gp_ts (t := 1432) dL_33 (by rw [hz]; rfl) (by decide) (lw_c39 n xs (lw_in (j := 1) rfl (by omega) hn) (lw_in (j := 2) rfl (by omega) hn) (lw_in (j := 3) rfl (by omega) hn) (lw_in (j := 4) rfl (by omega) hn) (lw_in (j := 5) rfl (by omega) hn) hR hend)
