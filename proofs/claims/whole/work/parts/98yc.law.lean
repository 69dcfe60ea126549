/-! THE LAW: its cases -/
set_option maxHeartbeats 400000 in
theorem lw_c19 (n : Nat) (xs : Nat → Int32) {i : Int32} {I : pI} {L : pL} (hn1 : mm_in (i + 1) n = true) (hn2 : mm_in (i + 2) n = true) (hn3 : mm_in (i + 3) n = true) (hn4 : mm_in (i + 4) n = true) (hn5 : mm_in (i + 5) n = true) (hR : RR I L) {Q : Option Value → mm_M → Prop} (hk : ∀ J K, RR J K → gP (lw_cs n xs) 40 10 false (some .boolean) code 1455 [some (.ref 1004), some (.ref 0), some (.ref 108), some (.int i)] [] (mm_sh, mm_R, J, K) Q) : gP (lw_cs n xs) 40 10 false (some .boolean) code 892 [some (.ref 1004), some (.ref 0), some (.ref 108), some (.int i)] [] (mm_sh, mm_R, I, L) Q := by
  obtain ⟨zv, J, L1, J2, L2, zqc, zqm, zqR⟩ := eq_wins (xs (i + 1).toNatClampNeg) I L hR
  obtain ⟨zx, rfl⟩ := call_int me_79 rfl zqc
  refine gp_aload_n dL_892 rfl ?_
  refine gp_aload_n dL_893 rfl ?_
  refine gp_iload_n dL_894 rfl ?_
  refine gp_pu (st' := .int (1) :: _) dL_895 rfl ?_
  refine gp_pu (st' := .int _ :: _) dL_896 rfl ?_
  refine gp_iac dL_897 rfl hn1 ?_
  refine gp_call (kind := 1) (args := [.ref _, .int _]) (rest := _) dL_898 (Or.inr (Or.inl ⟨rfl, rfl⟩)) mk_10_99 (by decide) me_79 rfl rfl rfl rfl rfl (mm_rc_of (by first | rfl | assumption | (simp only [*]; done))) zqc rfl ?_
  refine gp_aload_n dL_901 rfl ?_
  refine gp_aload_n dL_902 rfl ?_
  refine gp_iload_n dL_903 rfl ?_
  refine gp_pu (st' := .int (1) :: _) dL_904 rfl ?_
  refine gp_pu (st' := .int _ :: _) dL_905 rfl ?_
  refine gp_iac dL_906 rfl hn1 ?_
  refine gp_call (kind := 1) (args := [.ref _, .int _]) (rest := _) dL_907 (Or.inr (Or.inl ⟨rfl, rfl⟩)) mk_10_102 (by decide) me_188 rfl rfl rfl rfl rfl (mm_rc_of (by first | rfl | assumption | (simp only [*]; done))) zqm rfl ?_
  refine gp_icc (t := 1455) dL_910 (by decide) c2_eq (fun h1 => ?_) (fun h1 => ?_)
  · exact hk _ _ zqR
  · exact absurd rfl h1

set_option maxHeartbeats 400000 in
theorem lw_c20 (n : Nat) (xs : Nat → Int32) {i : Int32} {I : pI} {L : pL} (hn1 : mm_in (i + 1) n = true) (hn2 : mm_in (i + 2) n = true) (hn3 : mm_in (i + 3) n = true) (hn4 : mm_in (i + 4) n = true) (hn5 : mm_in (i + 5) n = true) (hR : RR I L) {Q : Option Value → mm_M → Prop} (hk : ∀ J K, RR J K → gP (lw_cs n xs) 40 10 false (some .boolean) code 1455 [some (.ref 1004), some (.ref 0), some (.ref 108), some (.int i)] [] (mm_sh, mm_R, J, K) Q) : gP (lw_cs n xs) 40 10 false (some .boolean) code 915 [some (.ref 1004), some (.ref 0), some (.ref 108), some (.int i)] [] (mm_sh, mm_R, I, L) Q := by
  obtain ⟨zv, J, L1, J2, L2, zqc, zqm, zqR⟩ := eq_best (xs (i + 1).toNatClampNeg) (xs (i + 2).toNatClampNeg) I L hR
  obtain ⟨zx, rfl⟩ := call_int me_80 rfl zqc
  refine gp_aload_n dL_915 rfl ?_
  refine gp_aload_n dL_916 rfl ?_
  refine gp_iload_n dL_917 rfl ?_
  refine gp_pu (st' := .int (1) :: _) dL_918 rfl ?_
  refine gp_pu (st' := .int _ :: _) dL_919 rfl ?_
  refine gp_iac dL_920 rfl hn1 ?_
  refine gp_aload_n dL_921 rfl ?_
  refine gp_iload_n dL_922 rfl ?_
  refine gp_pu (st' := .int (2) :: _) dL_923 rfl ?_
  refine gp_pu (st' := .int _ :: _) dL_924 rfl ?_
  refine gp_iac dL_925 rfl hn2 ?_
  refine gp_call (kind := 1) (args := [.ref _, .int _, .int _]) (rest := _) dL_926 (Or.inr (Or.inl ⟨rfl, rfl⟩)) mk_10_103 (by decide) me_80 rfl rfl rfl rfl rfl (mm_rc_of (by first | rfl | assumption | (simp only [*]; done))) zqc rfl ?_
  refine gp_aload_n dL_929 rfl ?_
  refine gp_aload_n dL_930 rfl ?_
  refine gp_iload_n dL_931 rfl ?_
  refine gp_pu (st' := .int (1) :: _) dL_932 rfl ?_
  refine gp_pu (st' := .int _ :: _) dL_933 rfl ?_
  refine gp_iac dL_934 rfl hn1 ?_
  refine gp_aload_n dL_935 rfl ?_
  refine gp_iload_n dL_936 rfl ?_
  refine gp_pu (st' := .int (2) :: _) dL_937 rfl ?_
  refine gp_pu (st' := .int _ :: _) dL_938 rfl ?_
  refine gp_iac dL_939 rfl hn2 ?_
  refine gp_call (kind := 1) (args := [.ref _, .int _, .int _]) (rest := _) dL_940 (Or.inr (Or.inl ⟨rfl, rfl⟩)) mk_10_106 (by decide) me_191 rfl rfl rfl rfl rfl (mm_rc_of (by first | rfl | assumption | (simp only [*]; done))) zqm rfl ?_
  refine gp_icc (t := 1455) dL_943 (by decide) c2_eq (fun h1 => ?_) (fun h1 => ?_)
  · exact hk _ _ zqR
  · exact absurd rfl h1

set_option maxHeartbeats 400000 in
theorem lw_c21 (n : Nat) (xs : Nat → Int32) {i : Int32} {I : pI} {L : pL} (hn1 : mm_in (i + 1) n = true) (hn2 : mm_in (i + 2) n = true) (hn3 : mm_in (i + 3) n = true) (hn4 : mm_in (i + 4) n = true) (hn5 : mm_in (i + 5) n = true) (hR : RR I L) {Q : Option Value → mm_M → Prop} (hk : ∀ J K, RR J K → gP (lw_cs n xs) 40 10 false (some .boolean) code 1455 [some (.ref 1004), some (.ref 0), some (.ref 108), some (.int i)] [] (mm_sh, mm_R, J, K) Q) : gP (lw_cs n xs) 40 10 false (some .boolean) code 948 [some (.ref 1004), some (.ref 0), some (.ref 108), some (.int i)] [] (mm_sh, mm_R, I, L) Q := by
  obtain ⟨zv, J, L1, J2, L2, zqc, zqm, zqR⟩ := eq_given (xs (i + 1).toNatClampNeg) (xs (i + 2).toNatClampNeg) (xs (i + 3).toNatClampNeg) I L hR
  obtain ⟨zx, rfl⟩ := call_int me_81 rfl zqc
  refine gp_aload_n dL_948 rfl ?_
  refine gp_aload_n dL_949 rfl ?_
  refine gp_iload_n dL_950 rfl ?_
  refine gp_pu (st' := .int (1) :: _) dL_951 rfl ?_
  refine gp_pu (st' := .int _ :: _) dL_952 rfl ?_
  refine gp_iac dL_953 rfl hn1 ?_
  refine gp_aload_n dL_954 rfl ?_
  refine gp_iload_n dL_955 rfl ?_
  refine gp_pu (st' := .int (2) :: _) dL_956 rfl ?_
  refine gp_pu (st' := .int _ :: _) dL_957 rfl ?_
  refine gp_iac dL_958 rfl hn2 ?_
  refine gp_aload_n dL_959 rfl ?_
  refine gp_iload_n dL_960 rfl ?_
  refine gp_pu (st' := .int (3) :: _) dL_961 rfl ?_
  refine gp_pu (st' := .int _ :: _) dL_962 rfl ?_
  refine gp_iac dL_963 rfl hn3 ?_
  refine gp_call (kind := 1) (args := [.ref _, .int _, .int _, .int _]) (rest := _) dL_964 (Or.inr (Or.inl ⟨rfl, rfl⟩)) mk_10_107 (by decide) me_81 rfl rfl rfl rfl rfl (mm_rc_of (by first | rfl | assumption | (simp only [*]; done))) zqc rfl ?_
  refine gp_aload_n dL_967 rfl ?_
  refine gp_aload_n dL_968 rfl ?_
  refine gp_iload_n dL_969 rfl ?_
  refine gp_pu (st' := .int (1) :: _) dL_970 rfl ?_
  refine gp_pu (st' := .int _ :: _) dL_971 rfl ?_
  refine gp_iac dL_972 rfl hn1 ?_
  refine gp_aload_n dL_973 rfl ?_
  refine gp_iload_n dL_974 rfl ?_
  refine gp_pu (st' := .int (2) :: _) dL_975 rfl ?_
  refine gp_pu (st' := .int _ :: _) dL_976 rfl ?_
  refine gp_iac dL_977 rfl hn2 ?_
  refine gp_aload_n dL_978 rfl ?_
  refine gp_iload_n dL_979 rfl ?_
  refine gp_pu (st' := .int (3) :: _) dL_980 rfl ?_
  refine gp_pu (st' := .int _ :: _) dL_981 rfl ?_
  refine gp_iac dL_982 rfl hn3 ?_
  refine gp_call (kind := 1) (args := [.ref _, .int _, .int _, .int _]) (rest := _) dL_983 (Or.inr (Or.inl ⟨rfl, rfl⟩)) mk_10_110 (by decide) me_193 rfl rfl rfl rfl rfl (mm_rc_of (by first | rfl | assumption | (simp only [*]; done))) zqm rfl ?_
  refine gp_icc (t := 1455) dL_986 (by decide) c2_eq (fun h1 => ?_) (fun h1 => ?_)
  · exact hk _ _ zqR
  · exact absurd rfl h1

set_option maxHeartbeats 400000 in
theorem lw_c22 (n : Nat) (xs : Nat → Int32) {i : Int32} {I : pI} {L : pL} (hn1 : mm_in (i + 1) n = true) (hn2 : mm_in (i + 2) n = true) (hn3 : mm_in (i + 3) n = true) (hn4 : mm_in (i + 4) n = true) (hn5 : mm_in (i + 5) n = true) (hR : RR I L) {Q : Option Value → mm_M → Prop} (hk : ∀ J K, RR J K → gP (lw_cs n xs) 40 10 false (some .boolean) code 1455 [some (.ref 1004), some (.ref 0), some (.ref 108), some (.int i)] [] (mm_sh, mm_R, J, K) Q) : gP (lw_cs n xs) 40 10 false (some .boolean) code 991 [some (.ref 1004), some (.ref 0), some (.ref 108), some (.int i)] [] (mm_sh, mm_R, I, L) Q := by
  obtain ⟨zv, J, L1, J2, L2, zqc, zqm, zqR⟩ := eq_two (xs (i + 1).toNatClampNeg) (xs (i + 2).toNatClampNeg) (xs (i + 3).toNatClampNeg) I L hR
  obtain ⟨zx, rfl⟩ := call_int me_82 rfl zqc
  refine gp_aload_n dL_991 rfl ?_
  refine gp_aload_n dL_992 rfl ?_
  refine gp_iload_n dL_993 rfl ?_
  refine gp_pu (st' := .int (1) :: _) dL_994 rfl ?_
  refine gp_pu (st' := .int _ :: _) dL_995 rfl ?_
  refine gp_iac dL_996 rfl hn1 ?_
  refine gp_aload_n dL_997 rfl ?_
  refine gp_iload_n dL_998 rfl ?_
  refine gp_pu (st' := .int (2) :: _) dL_999 rfl ?_
  refine gp_pu (st' := .int _ :: _) dL_1000 rfl ?_
  refine gp_iac dL_1001 rfl hn2 ?_
  refine gp_aload_n dL_1002 rfl ?_
  refine gp_iload_n dL_1003 rfl ?_
  refine gp_pu (st' := .int (3) :: _) dL_1004 rfl ?_
  refine gp_pu (st' := .int _ :: _) dL_1005 rfl ?_
  refine gp_iac dL_1006 rfl hn3 ?_
  refine gp_call (kind := 1) (args := [.ref _, .int _, .int _, .int _]) (rest := _) dL_1007 (Or.inr (Or.inl ⟨rfl, rfl⟩)) mk_10_111 (by decide) me_82 rfl rfl rfl rfl rfl (mm_rc_of (by first | rfl | assumption | (simp only [*]; done))) zqc rfl ?_
  refine gp_aload_n dL_1010 rfl ?_
  refine gp_aload_n dL_1011 rfl ?_
  refine gp_iload_n dL_1012 rfl ?_
  refine gp_pu (st' := .int (1) :: _) dL_1013 rfl ?_
  refine gp_pu (st' := .int _ :: _) dL_1014 rfl ?_
  refine gp_iac dL_1015 rfl hn1 ?_
  refine gp_aload_n dL_1016 rfl ?_
  refine gp_iload_n dL_1017 rfl ?_
  refine gp_pu (st' := .int (2) :: _) dL_1018 rfl ?_
  refine gp_pu (st' := .int _ :: _) dL_1019 rfl ?_
  refine gp_iac dL_1020 rfl hn2 ?_
  refine gp_aload_n dL_1021 rfl ?_
  refine gp_iload_n dL_1022 rfl ?_
  refine gp_pu (st' := .int (3) :: _) dL_1023 rfl ?_
  refine gp_pu (st' := .int _ :: _) dL_1024 rfl ?_
  refine gp_iac dL_1025 rfl hn3 ?_
  refine gp_call (kind := 1) (args := [.ref _, .int _, .int _, .int _]) (rest := _) dL_1026 (Or.inr (Or.inl ⟨rfl, rfl⟩)) mk_10_114 (by decide) me_195 rfl rfl rfl rfl rfl (mm_rc_of (by first | rfl | assumption | (simp only [*]; done))) zqm rfl ?_
  refine gp_icc (t := 1455) dL_1029 (by decide) c2_eq (fun h1 => ?_) (fun h1 => ?_)
  · exact hk _ _ zqR
  · exact absurd rfl h1

set_option maxHeartbeats 400000 in
theorem lw_c23 (n : Nat) (xs : Nat → Int32) {i : Int32} {I : pI} {L : pL} (hn1 : mm_in (i + 1) n = true) (hn2 : mm_in (i + 2) n = true) (hn3 : mm_in (i + 3) n = true) (hn4 : mm_in (i + 4) n = true) (hn5 : mm_in (i + 5) n = true) (hR : RR I L) {Q : Option Value → mm_M → Prop} (hk : ∀ J K, RR J K → gP (lw_cs n xs) 40 10 false (some .boolean) code 1455 [some (.ref 1004), some (.ref 0), some (.ref 108), some (.int i)] [] (mm_sh, mm_R, J, K) Q) : gP (lw_cs n xs) 40 10 false (some .boolean) code 1034 [some (.ref 1004), some (.ref 0), some (.ref 108), some (.int i)] [] (mm_sh, mm_R, I, L) Q := by
  obtain ⟨zv, J, L1, J2, L2, zqc, zqm, zqR⟩ := eq_pair I L hR
  obtain ⟨zx, rfl⟩ := call_int me_83 rfl zqc
  refine gp_aload_n dL_1034 rfl ?_
  refine gp_call (kind := 1) (args := [.ref _]) (rest := _) dL_1035 (Or.inr (Or.inl ⟨rfl, rfl⟩)) mk_10_115 (by decide) me_83 rfl rfl rfl rfl rfl (mm_rc_of (by first | rfl | assumption | (simp only [*]; done))) zqc rfl ?_
  refine gp_aload_n dL_1038 rfl ?_
  refine gp_call (kind := 1) (args := [.ref _]) (rest := _) dL_1039 (Or.inr (Or.inl ⟨rfl, rfl⟩)) mk_10_118 (by decide) me_196 rfl rfl rfl rfl rfl (mm_rc_of (by first | rfl | assumption | (simp only [*]; done))) zqm rfl ?_
  refine gp_icc (t := 1455) dL_1042 (by decide) c2_eq (fun h1 => ?_) (fun h1 => ?_)
  · exact hk _ _ zqR
  · exact absurd rfl h1

set_option maxHeartbeats 400000 in
theorem lw_c24 (n : Nat) (xs : Nat → Int32) {i : Int32} {I : pI} {L : pL} (hn1 : mm_in (i + 1) n = true) (hn2 : mm_in (i + 2) n = true) (hn3 : mm_in (i + 3) n = true) (hn4 : mm_in (i + 4) n = true) (hn5 : mm_in (i + 5) n = true) (hR : RR I L) {Q : Option Value → mm_M → Prop} (hk : ∀ J K, RR J K → gP (lw_cs n xs) 40 10 false (some .boolean) code 1455 [some (.ref 1004), some (.ref 0), some (.ref 108), some (.int i)] [] (mm_sh, mm_R, J, K) Q) : gP (lw_cs n xs) 40 10 false (some .boolean) code 1047 [some (.ref 1004), some (.ref 0), some (.ref 108), some (.int i)] [] (mm_sh, mm_R, I, L) Q := by
  obtain ⟨zv, J, L1, J2, L2, zqc, zqm, zqR⟩ := eq_start (xs (i + 1).toNatClampNeg) (xs (i + 2).toNatClampNeg) I L hR
  obtain ⟨zx, rfl⟩ := call_int me_84 rfl zqc
  refine gp_aload_n dL_1047 rfl ?_
  refine gp_aload_n dL_1048 rfl ?_
  refine gp_iload_n dL_1049 rfl ?_
  refine gp_pu (st' := .int (1) :: _) dL_1050 rfl ?_
  refine gp_pu (st' := .int _ :: _) dL_1051 rfl ?_
  refine gp_iac dL_1052 rfl hn1 ?_
  refine gp_aload_n dL_1053 rfl ?_
  refine gp_iload_n dL_1054 rfl ?_
  refine gp_pu (st' := .int (2) :: _) dL_1055 rfl ?_
  refine gp_pu (st' := .int _ :: _) dL_1056 rfl ?_
  refine gp_iac dL_1057 rfl hn2 ?_
  refine gp_call (kind := 1) (args := [.ref _, .int _, .int _]) (rest := _) dL_1058 (Or.inr (Or.inl ⟨rfl, rfl⟩)) mk_10_119 (by decide) me_84 rfl rfl rfl rfl rfl (mm_rc_of (by first | rfl | assumption | (simp only [*]; done))) zqc rfl ?_
  refine gp_aload_n dL_1061 rfl ?_
  refine gp_aload_n dL_1062 rfl ?_
  refine gp_iload_n dL_1063 rfl ?_
  refine gp_pu (st' := .int (1) :: _) dL_1064 rfl ?_
  refine gp_pu (st' := .int _ :: _) dL_1065 rfl ?_
  refine gp_iac dL_1066 rfl hn1 ?_
  refine gp_aload_n dL_1067 rfl ?_
  refine gp_iload_n dL_1068 rfl ?_
  refine gp_pu (st' := .int (2) :: _) dL_1069 rfl ?_
  refine gp_pu (st' := .int _ :: _) dL_1070 rfl ?_
  refine gp_iac dL_1071 rfl hn2 ?_
  refine gp_call (kind := 1) (args := [.ref _, .int _, .int _]) (rest := _) dL_1072 (Or.inr (Or.inl ⟨rfl, rfl⟩)) mk_10_122 (by decide) me_198 rfl rfl rfl rfl rfl (mm_rc_of (by first | rfl | assumption | (simp only [*]; done))) zqm rfl ?_
  refine gp_icc (t := 1455) dL_1075 (by decide) c2_eq (fun h1 => ?_) (fun h1 => ?_)
  · exact hk _ _ zqR
  · exact absurd rfl h1

set_option maxHeartbeats 400000 in
theorem lw_c25 (n : Nat) (xs : Nat → Int32) {i : Int32} {I : pI} {L : pL} (hn1 : mm_in (i + 1) n = true) (hn2 : mm_in (i + 2) n = true) (hn3 : mm_in (i + 3) n = true) (hn4 : mm_in (i + 4) n = true) (hn5 : mm_in (i + 5) n = true) (hR : RR I L) {Q : Option Value → mm_M → Prop} (hk : ∀ J K, RR J K → gP (lw_cs n xs) 40 10 false (some .boolean) code 1455 [some (.ref 1004), some (.ref 0), some (.ref 108), some (.int i)] [] (mm_sh, mm_R, J, K) Q) : gP (lw_cs n xs) 40 10 false (some .boolean) code 1080 [some (.ref 1004), some (.ref 0), some (.ref 108), some (.int i)] [] (mm_sh, mm_R, I, L) Q := by
  obtain ⟨zv, J, L1, J2, L2, zqc, zqm, zqR⟩ := eq_atOnce I L hR
  obtain ⟨zx, rfl⟩ := call_int me_85 rfl zqc
  refine gp_aload_n dL_1080 rfl ?_
  refine gp_call (kind := 1) (args := [.ref _]) (rest := _) dL_1081 (Or.inr (Or.inl ⟨rfl, rfl⟩)) mk_10_123 (by decide) me_85 rfl rfl rfl rfl rfl (mm_rc_of (by first | rfl | assumption | (simp only [*]; done))) zqc rfl ?_
  refine gp_aload_n dL_1084 rfl ?_
  refine gp_call (kind := 1) (args := [.ref _]) (rest := _) dL_1085 (Or.inr (Or.inl ⟨rfl, rfl⟩)) mk_10_126 (by decide) me_199 rfl rfl rfl rfl rfl (mm_rc_of (by first | rfl | assumption | (simp only [*]; done))) zqm rfl ?_
  refine gp_icc (t := 1455) dL_1088 (by decide) c2_eq (fun h1 => ?_) (fun h1 => ?_)
  · exact hk _ _ zqR
  · exact absurd rfl h1

set_option maxHeartbeats 400000 in
theorem lw_c26 (n : Nat) (xs : Nat → Int32) {i : Int32} {I : pI} {L : pL} (hn1 : mm_in (i + 1) n = true) (hn2 : mm_in (i + 2) n = true) (hn3 : mm_in (i + 3) n = true) (hn4 : mm_in (i + 4) n = true) (hn5 : mm_in (i + 5) n = true) (hR : RR I L) {Q : Option Value → mm_M → Prop} (hk : ∀ J K, RR J K → gP (lw_cs n xs) 40 10 false (some .boolean) code 1455 [some (.ref 1004), some (.ref 0), some (.ref 108), some (.int i)] [] (mm_sh, mm_R, J, K) Q) : gP (lw_cs n xs) 40 10 false (some .boolean) code 1093 [some (.ref 1004), some (.ref 0), some (.ref 108), some (.int i)] [] (mm_sh, mm_R, I, L) Q := by
  obtain ⟨zv, J, L1, J2, L2, zqc, zqm, zqR⟩ := eq_heats (xs (i + 1).toNatClampNeg) (xs (i + 2).toNatClampNeg) I L hR
  obtain ⟨zx, rfl⟩ := call_int me_86 rfl zqc
  refine gp_aload_n dL_1093 rfl ?_
  refine gp_aload_n dL_1094 rfl ?_
  refine gp_iload_n dL_1095 rfl ?_
  refine gp_pu (st' := .int (1) :: _) dL_1096 rfl ?_
  refine gp_pu (st' := .int _ :: _) dL_1097 rfl ?_
  refine gp_iac dL_1098 rfl hn1 ?_
  refine gp_aload_n dL_1099 rfl ?_
  refine gp_iload_n dL_1100 rfl ?_
  refine gp_pu (st' := .int (2) :: _) dL_1101 rfl ?_
  refine gp_pu (st' := .int _ :: _) dL_1102 rfl ?_
  refine gp_iac dL_1103 rfl hn2 ?_
  refine gp_call (kind := 1) (args := [.ref _, .int _, .int _]) (rest := _) dL_1104 (Or.inr (Or.inl ⟨rfl, rfl⟩)) mk_10_127 (by decide) me_86 rfl rfl rfl rfl rfl (mm_rc_of (by first | rfl | assumption | (simp only [*]; done))) zqc rfl ?_
  refine gp_aload_n dL_1107 rfl ?_
  refine gp_aload_n dL_1108 rfl ?_
  refine gp_iload_n dL_1109 rfl ?_
  refine gp_pu (st' := .int (1) :: _) dL_1110 rfl ?_
  refine gp_pu (st' := .int _ :: _) dL_1111 rfl ?_
  refine gp_iac dL_1112 rfl hn1 ?_
  refine gp_aload_n dL_1113 rfl ?_
  refine gp_iload_n dL_1114 rfl ?_
  refine gp_pu (st' := .int (2) :: _) dL_1115 rfl ?_
  refine gp_pu (st' := .int _ :: _) dL_1116 rfl ?_
  refine gp_iac dL_1117 rfl hn2 ?_
  refine gp_call (kind := 1) (args := [.ref _, .int _, .int _]) (rest := _) dL_1118 (Or.inr (Or.inl ⟨rfl, rfl⟩)) mk_10_130 (by decide) me_200 rfl rfl rfl rfl rfl (mm_rc_of (by first | rfl | assumption | (simp only [*]; done))) zqm rfl ?_
  refine gp_icc (t := 1455) dL_1121 (by decide) c2_eq (fun h1 => ?_) (fun h1 => ?_)
  · exact hk _ _ zqR
  · exact absurd rfl h1

set_option maxHeartbeats 400000 in
theorem lw_c27 (n : Nat) (xs : Nat → Int32) {i : Int32} {I : pI} {L : pL} (hn1 : mm_in (i + 1) n = true) (hn2 : mm_in (i + 2) n = true) (hn3 : mm_in (i + 3) n = true) (hn4 : mm_in (i + 4) n = true) (hn5 : mm_in (i + 5) n = true) (hR : RR I L) {Q : Option Value → mm_M → Prop} (hk : ∀ J K, RR J K → gP (lw_cs n xs) 40 10 false (some .boolean) code 1455 [some (.ref 1004), some (.ref 0), some (.ref 108), some (.int i)] [] (mm_sh, mm_R, J, K) Q) : gP (lw_cs n xs) 40 10 false (some .boolean) code 1126 [some (.ref 1004), some (.ref 0), some (.ref 108), some (.int i)] [] (mm_sh, mm_R, I, L) Q := by
  obtain ⟨zv, J, L1, J2, L2, zqc, zqm, zqR⟩ := eq_legs (xs (i + 1).toNatClampNeg) (xs (i + 2).toNatClampNeg) I L hR
  obtain ⟨zx, rfl⟩ := call_int me_87 rfl zqc
  refine gp_aload_n dL_1126 rfl ?_
  refine gp_aload_n dL_1127 rfl ?_
  refine gp_iload_n dL_1128 rfl ?_
  refine gp_pu (st' := .int (1) :: _) dL_1129 rfl ?_
  refine gp_pu (st' := .int _ :: _) dL_1130 rfl ?_
  refine gp_iac dL_1131 rfl hn1 ?_
  refine gp_aload_n dL_1132 rfl ?_
  refine gp_iload_n dL_1133 rfl ?_
  refine gp_pu (st' := .int (2) :: _) dL_1134 rfl ?_
  refine gp_pu (st' := .int _ :: _) dL_1135 rfl ?_
  refine gp_iac dL_1136 rfl hn2 ?_
  refine gp_call (kind := 1) (args := [.ref _, .int _, .int _]) (rest := _) dL_1137 (Or.inr (Or.inl ⟨rfl, rfl⟩)) mk_10_131 (by decide) me_87 rfl rfl rfl rfl rfl (mm_rc_of (by first | rfl | assumption | (simp only [*]; done))) zqc rfl ?_
  refine gp_aload_n dL_1140 rfl ?_
  refine gp_aload_n dL_1141 rfl ?_
  refine gp_iload_n dL_1142 rfl ?_
  refine gp_pu (st' := .int (1) :: _) dL_1143 rfl ?_
  refine gp_pu (st' := .int _ :: _) dL_1144 rfl ?_
  refine gp_iac dL_1145 rfl hn1 ?_
  refine gp_aload_n dL_1146 rfl ?_
  refine gp_iload_n dL_1147 rfl ?_
  refine gp_pu (st' := .int (2) :: _) dL_1148 rfl ?_
  refine gp_pu (st' := .int _ :: _) dL_1149 rfl ?_
  refine gp_iac dL_1150 rfl hn2 ?_
  refine gp_call (kind := 1) (args := [.ref _, .int _, .int _]) (rest := _) dL_1151 (Or.inr (Or.inl ⟨rfl, rfl⟩)) mk_10_134 (by decide) me_201 rfl rfl rfl rfl rfl (mm_rc_of (by first | rfl | assumption | (simp only [*]; done))) zqm rfl ?_
  refine gp_icc (t := 1455) dL_1154 (by decide) c2_eq (fun h1 => ?_) (fun h1 => ?_)
  · exact hk _ _ zqR
  · exact absurd rfl h1

set_option maxHeartbeats 400000 in
theorem lw_c28 (n : Nat) (xs : Nat → Int32) {i : Int32} {I : pI} {L : pL} (hn1 : mm_in (i + 1) n = true) (hn2 : mm_in (i + 2) n = true) (hn3 : mm_in (i + 3) n = true) (hn4 : mm_in (i + 4) n = true) (hn5 : mm_in (i + 5) n = true) (hR : RR I L) {Q : Option Value → mm_M → Prop} (hk : ∀ J K, RR J K → gP (lw_cs n xs) 40 10 false (some .boolean) code 1455 [some (.ref 1004), some (.ref 0), some (.ref 108), some (.int i)] [] (mm_sh, mm_R, J, K) Q) : gP (lw_cs n xs) 40 10 false (some .boolean) code 1159 [some (.ref 1004), some (.ref 0), some (.ref 108), some (.int i)] [] (mm_sh, mm_R, I, L) Q := by
  obtain ⟨zv, J, L1, J2, L2, zqc, zqm, zqR⟩ := eq_wall (xs (i + 1).toNatClampNeg) I L hR
  obtain ⟨zx, rfl⟩ := call_int me_88 rfl zqc
  refine gp_aload_n dL_1159 rfl ?_
  refine gp_aload_n dL_1160 rfl ?_
  refine gp_iload_n dL_1161 rfl ?_
  refine gp_pu (st' := .int (1) :: _) dL_1162 rfl ?_
  refine gp_pu (st' := .int _ :: _) dL_1163 rfl ?_
  refine gp_iac dL_1164 rfl hn1 ?_
  refine gp_call (kind := 1) (args := [.ref _, .int _]) (rest := _) dL_1165 (Or.inr (Or.inl ⟨rfl, rfl⟩)) mk_10_135 (by decide) me_88 rfl rfl rfl rfl rfl (mm_rc_of (by first | rfl | assumption | (simp only [*]; done))) zqc rfl ?_
  refine gp_aload_n dL_1168 rfl ?_
  refine gp_aload_n dL_1169 rfl ?_
  refine gp_iload_n dL_1170 rfl ?_
  refine gp_pu (st' := .int (1) :: _) dL_1171 rfl ?_
  refine gp_pu (st' := .int _ :: _) dL_1172 rfl ?_
  refine gp_iac dL_1173 rfl hn1 ?_
  refine gp_call (kind := 1) (args := [.ref _, .int _]) (rest := _) dL_1174 (Or.inr (Or.inl ⟨rfl, rfl⟩)) mk_10_138 (by decide) me_202 rfl rfl rfl rfl rfl (mm_rc_of (by first | rfl | assumption | (simp only [*]; done))) zqm rfl ?_
  refine gp_icc (t := 1455) dL_1177 (by decide) c2_eq (fun h1 => ?_) (fun h1 => ?_)
  · exact hk _ _ zqR
  · exact absurd rfl h1

set_option maxHeartbeats 400000 in
theorem lw_c29 (n : Nat) (xs : Nat → Int32) {i : Int32} {I : pI} {L : pL} (hn1 : mm_in (i + 1) n = true) (hn2 : mm_in (i + 2) n = true) (hn3 : mm_in (i + 3) n = true) (hn4 : mm_in (i + 4) n = true) (hn5 : mm_in (i + 5) n = true) (hR : RR I L) {Q : Option Value → mm_M → Prop} (hk : ∀ J K, RR J K → gP (lw_cs n xs) 40 10 false (some .boolean) code 1455 [some (.ref 1004), some (.ref 0), some (.ref 108), some (.int i)] [] (mm_sh, mm_R, J, K) Q) : gP (lw_cs n xs) 40 10 false (some .boolean) code 1182 [some (.ref 1004), some (.ref 0), some (.ref 108), some (.int i)] [] (mm_sh, mm_R, I, L) Q := by
  obtain ⟨zv, J, L1, J2, L2, zqc, zqm, zqR⟩ := eq_judge (xs (i + 1).toNatClampNeg) (xs (i + 2).toNatClampNeg) I L hR
  obtain ⟨zx, rfl⟩ := call_int me_89 rfl zqc
  refine gp_aload_n dL_1182 rfl ?_
  refine gp_aload_n dL_1183 rfl ?_
  refine gp_iload_n dL_1184 rfl ?_
  refine gp_pu (st' := .int (1) :: _) dL_1185 rfl ?_
  refine gp_pu (st' := .int _ :: _) dL_1186 rfl ?_
  refine gp_iac dL_1187 rfl hn1 ?_
  refine gp_aload_n dL_1188 rfl ?_
  refine gp_iload_n dL_1189 rfl ?_
  refine gp_pu (st' := .int (2) :: _) dL_1190 rfl ?_
  refine gp_pu (st' := .int _ :: _) dL_1191 rfl ?_
  refine gp_iac dL_1192 rfl hn2 ?_
  refine gp_call (kind := 1) (args := [.ref _, .int _, .int _]) (rest := _) dL_1193 (Or.inr (Or.inl ⟨rfl, rfl⟩)) mk_10_139 (by decide) me_89 rfl rfl rfl rfl rfl (mm_rc_of (by first | rfl | assumption | (simp only [*]; done))) zqc rfl ?_
  refine gp_aload_n dL_1196 rfl ?_
  refine gp_aload_n dL_1197 rfl ?_
  refine gp_iload_n dL_1198 rfl ?_
  refine gp_pu (st' := .int (1) :: _) dL_1199 rfl ?_
  refine gp_pu (st' := .int _ :: _) dL_1200 rfl ?_
  refine gp_iac dL_1201 rfl hn1 ?_
  refine gp_aload_n dL_1202 rfl ?_
  refine gp_iload_n dL_1203 rfl ?_
  refine gp_pu (st' := .int (2) :: _) dL_1204 rfl ?_
  refine gp_pu (st' := .int _ :: _) dL_1205 rfl ?_
  refine gp_iac dL_1206 rfl hn2 ?_
  refine gp_call (kind := 1) (args := [.ref _, .int _, .int _]) (rest := _) dL_1207 (Or.inr (Or.inl ⟨rfl, rfl⟩)) mk_10_142 (by decide) me_203 rfl rfl rfl rfl rfl (mm_rc_of (by first | rfl | assumption | (simp only [*]; done))) zqm rfl ?_
  refine gp_icc (t := 1455) dL_1210 (by decide) c2_eq (fun h1 => ?_) (fun h1 => ?_)
  · exact hk _ _ zqR
  · exact absurd rfl h1

set_option maxHeartbeats 400000 in
theorem lw_c30 (n : Nat) (xs : Nat → Int32) {i : Int32} {I : pI} {L : pL} (hn1 : mm_in (i + 1) n = true) (hn2 : mm_in (i + 2) n = true) (hn3 : mm_in (i + 3) n = true) (hn4 : mm_in (i + 4) n = true) (hn5 : mm_in (i + 5) n = true) (hR : RR I L) {Q : Option Value → mm_M → Prop} (hk : ∀ J K, RR J K → gP (lw_cs n xs) 40 10 false (some .boolean) code 1455 [some (.ref 1004), some (.ref 0), some (.ref 108), some (.int i)] [] (mm_sh, mm_R, J, K) Q) : gP (lw_cs n xs) 40 10 false (some .boolean) code 1215 [some (.ref 1004), some (.ref 0), some (.ref 108), some (.int i)] [] (mm_sh, mm_R, I, L) Q := by
  obtain ⟨zv, J, L1, J2, L2, zqc, zqm, zqR⟩ := eq_meant (xs (i + 1).toNatClampNeg) I L hR
  obtain ⟨zx, rfl⟩ := call_int me_90 rfl zqc
  refine gp_aload_n dL_1215 rfl ?_
  refine gp_aload_n dL_1216 rfl ?_
  refine gp_iload_n dL_1217 rfl ?_
  refine gp_pu (st' := .int (1) :: _) dL_1218 rfl ?_
  refine gp_pu (st' := .int _ :: _) dL_1219 rfl ?_
  refine gp_iac dL_1220 rfl hn1 ?_
  refine gp_call (kind := 1) (args := [.ref _, .int _]) (rest := _) dL_1221 (Or.inr (Or.inl ⟨rfl, rfl⟩)) mk_10_143 (by decide) me_90 rfl rfl rfl rfl rfl (mm_rc_of (by first | rfl | assumption | (simp only [*]; done))) zqc rfl ?_
  refine gp_aload_n dL_1224 rfl ?_
  refine gp_aload_n dL_1225 rfl ?_
  refine gp_iload_n dL_1226 rfl ?_
  refine gp_pu (st' := .int (1) :: _) dL_1227 rfl ?_
  refine gp_pu (st' := .int _ :: _) dL_1228 rfl ?_
  refine gp_iac dL_1229 rfl hn1 ?_
  refine gp_call (kind := 1) (args := [.ref _, .int _]) (rest := _) dL_1230 (Or.inr (Or.inl ⟨rfl, rfl⟩)) mk_10_146 (by decide) me_204 rfl rfl rfl rfl rfl (mm_rc_of (by first | rfl | assumption | (simp only [*]; done))) zqm rfl ?_
  refine gp_icc (t := 1455) dL_1233 (by decide) c2_eq (fun h1 => ?_) (fun h1 => ?_)
  · exact hk _ _ zqR
  · exact absurd rfl h1

set_option maxHeartbeats 400000 in
theorem lw_c31 (n : Nat) (xs : Nat → Int32) {i : Int32} {I : pI} {L : pL} (hn1 : mm_in (i + 1) n = true) (hn2 : mm_in (i + 2) n = true) (hn3 : mm_in (i + 3) n = true) (hn4 : mm_in (i + 4) n = true) (hn5 : mm_in (i + 5) n = true) (hR : RR I L) {Q : Option Value → mm_M → Prop} (hk : ∀ J K, RR J K → gP (lw_cs n xs) 40 10 false (some .boolean) code 1455 [some (.ref 1004), some (.ref 0), some (.ref 108), some (.int i)] [] (mm_sh, mm_R, J, K) Q) : gP (lw_cs n xs) 40 10 false (some .boolean) code 1238 [some (.ref 1004), some (.ref 0), some (.ref 108), some (.int i)] [] (mm_sh, mm_R, I, L) Q := by
  obtain ⟨zv, J, L1, J2, L2, zqc, zqm, zqR⟩ := eq_worn (xs (i + 1).toNatClampNeg) (xs (i + 2).toNatClampNeg) I L hR
  obtain ⟨zx, rfl⟩ := call_int me_91 rfl zqc
  refine gp_aload_n dL_1238 rfl ?_
  refine gp_aload_n dL_1239 rfl ?_
  refine gp_iload_n dL_1240 rfl ?_
  refine gp_pu (st' := .int (1) :: _) dL_1241 rfl ?_
  refine gp_pu (st' := .int _ :: _) dL_1242 rfl ?_
  refine gp_iac dL_1243 rfl hn1 ?_
  refine gp_aload_n dL_1244 rfl ?_
  refine gp_iload_n dL_1245 rfl ?_
  refine gp_pu (st' := .int (2) :: _) dL_1246 rfl ?_
  refine gp_pu (st' := .int _ :: _) dL_1247 rfl ?_
  refine gp_iac dL_1248 rfl hn2 ?_
  refine gp_call (kind := 1) (args := [.ref _, .int _, .int _]) (rest := _) dL_1249 (Or.inr (Or.inl ⟨rfl, rfl⟩)) mk_10_147 (by decide) me_91 rfl rfl rfl rfl rfl (mm_rc_of (by first | rfl | assumption | (simp only [*]; done))) zqc rfl ?_
  refine gp_aload_n dL_1252 rfl ?_
  refine gp_aload_n dL_1253 rfl ?_
  refine gp_iload_n dL_1254 rfl ?_
  refine gp_pu (st' := .int (1) :: _) dL_1255 rfl ?_
  refine gp_pu (st' := .int _ :: _) dL_1256 rfl ?_
  refine gp_iac dL_1257 rfl hn1 ?_
  refine gp_aload_n dL_1258 rfl ?_
  refine gp_iload_n dL_1259 rfl ?_
  refine gp_pu (st' := .int (2) :: _) dL_1260 rfl ?_
  refine gp_pu (st' := .int _ :: _) dL_1261 rfl ?_
  refine gp_iac dL_1262 rfl hn2 ?_
  refine gp_call (kind := 1) (args := [.ref _, .int _, .int _]) (rest := _) dL_1263 (Or.inr (Or.inl ⟨rfl, rfl⟩)) mk_10_150 (by decide) me_205 rfl rfl rfl rfl rfl (mm_rc_of (by first | rfl | assumption | (simp only [*]; done))) zqm rfl ?_
  refine gp_icc (t := 1455) dL_1266 (by decide) c2_eq (fun h1 => ?_) (fun h1 => ?_)
  · exact hk _ _ zqR
  · exact absurd rfl h1

set_option maxHeartbeats 400000 in
theorem lw_c32 (n : Nat) (xs : Nat → Int32) {i : Int32} {I : pI} {L : pL} (hn1 : mm_in (i + 1) n = true) (hn2 : mm_in (i + 2) n = true) (hn3 : mm_in (i + 3) n = true) (hn4 : mm_in (i + 4) n = true) (hn5 : mm_in (i + 5) n = true) (hR : RR I L) {Q : Option Value → mm_M → Prop} (hk : ∀ J K, RR J K → gP (lw_cs n xs) 40 10 false (some .boolean) code 1455 [some (.ref 1004), some (.ref 0), some (.ref 108), some (.int i)] [] (mm_sh, mm_R, J, K) Q) : gP (lw_cs n xs) 40 10 false (some .boolean) code 1271 [some (.ref 1004), some (.ref 0), some (.ref 108), some (.int i)] [] (mm_sh, mm_R, I, L) Q := by
  obtain ⟨zv, J, L1, J2, L2, zqc, zqm, zqR⟩ := eq_race I L hR
  obtain ⟨zx, rfl⟩ := call_int me_92 rfl zqc
  refine gp_aload_n dL_1271 rfl ?_
  refine gp_call (kind := 1) (args := [.ref _]) (rest := _) dL_1272 (Or.inr (Or.inl ⟨rfl, rfl⟩)) mk_10_151 (by decide) me_92 rfl rfl rfl rfl rfl (mm_rc_of (by first | rfl | assumption | (simp only [*]; done))) zqc rfl ?_
  refine gp_aload_n dL_1275 rfl ?_
  refine gp_call (kind := 1) (args := [.ref _]) (rest := _) dL_1276 (Or.inr (Or.inl ⟨rfl, rfl⟩)) mk_10_154 (by decide) me_209 rfl rfl rfl rfl rfl (mm_rc_of (by first | rfl | assumption | (simp only [*]; done))) zqm rfl ?_
  refine gp_icc (t := 1455) dL_1279 (by decide) c2_eq (fun h1 => ?_) (fun h1 => ?_)
  · exact hk _ _ zqR
  · exact absurd rfl h1

set_option maxHeartbeats 400000 in
theorem lw_c33 (n : Nat) (xs : Nat → Int32) {i : Int32} {I : pI} {L : pL} (hn1 : mm_in (i + 1) n = true) (hn2 : mm_in (i + 2) n = true) (hn3 : mm_in (i + 3) n = true) (hn4 : mm_in (i + 4) n = true) (hn5 : mm_in (i + 5) n = true) (hR : RR I L) {Q : Option Value → mm_M → Prop} (hk : ∀ J K, RR J K → gP (lw_cs n xs) 40 10 false (some .boolean) code 1455 [some (.ref 1004), some (.ref 0), some (.ref 108), some (.int i)] [] (mm_sh, mm_R, J, K) Q) : gP (lw_cs n xs) 40 10 false (some .boolean) code 1284 [some (.ref 1004), some (.ref 0), some (.ref 108), some (.int i)] [] (mm_sh, mm_R, I, L) Q := by
  obtain ⟨zv, J, L1, J2, L2, zqc, zqm, zqR⟩ := eq_summer (xs (i + 1).toNatClampNeg) (xs (i + 2).toNatClampNeg) I L hR
  obtain ⟨zx, rfl⟩ := call_int me_93 rfl zqc
  refine gp_aload_n dL_1284 rfl ?_
  refine gp_aload_n dL_1285 rfl ?_
  refine gp_iload_n dL_1286 rfl ?_
  refine gp_pu (st' := .int (1) :: _) dL_1287 rfl ?_
  refine gp_pu (st' := .int _ :: _) dL_1288 rfl ?_
  refine gp_iac dL_1289 rfl hn1 ?_
  refine gp_aload_n dL_1290 rfl ?_
  refine gp_iload_n dL_1291 rfl ?_
  refine gp_pu (st' := .int (2) :: _) dL_1292 rfl ?_
  refine gp_pu (st' := .int _ :: _) dL_1293 rfl ?_
  refine gp_iac dL_1294 rfl hn2 ?_
  refine gp_call (kind := 1) (args := [.ref _, .int _, .int _]) (rest := _) dL_1295 (Or.inr (Or.inl ⟨rfl, rfl⟩)) mk_10_155 (by decide) me_93 rfl rfl rfl rfl rfl (mm_rc_of (by first | rfl | assumption | (simp only [*]; done))) zqc rfl ?_
  refine gp_aload_n dL_1298 rfl ?_
  refine gp_aload_n dL_1299 rfl ?_
  refine gp_iload_n dL_1300 rfl ?_
  refine gp_pu (st' := .int (1) :: _) dL_1301 rfl ?_
  refine gp_pu (st' := .int _ :: _) dL_1302 rfl ?_
  refine gp_iac dL_1303 rfl hn1 ?_
  refine gp_aload_n dL_1304 rfl ?_
  refine gp_iload_n dL_1305 rfl ?_
  refine gp_pu (st' := .int (2) :: _) dL_1306 rfl ?_
  refine gp_pu (st' := .int _ :: _) dL_1307 rfl ?_
  refine gp_iac dL_1308 rfl hn2 ?_
  refine gp_call (kind := 1) (args := [.ref _, .int _, .int _]) (rest := _) dL_1309 (Or.inr (Or.inl ⟨rfl, rfl⟩)) mk_10_158 (by decide) me_210 rfl rfl rfl rfl rfl (mm_rc_of (by first | rfl | assumption | (simp only [*]; done))) zqm rfl ?_
  refine gp_icc (t := 1455) dL_1312 (by decide) c2_eq (fun h1 => ?_) (fun h1 => ?_)
  · exact hk _ _ zqR
  · exact absurd rfl h1

set_option maxHeartbeats 400000 in
theorem lw_c34 (n : Nat) (xs : Nat → Int32) {i : Int32} {I : pI} {L : pL} (hn1 : mm_in (i + 1) n = true) (hn2 : mm_in (i + 2) n = true) (hn3 : mm_in (i + 3) n = true) (hn4 : mm_in (i + 4) n = true) (hn5 : mm_in (i + 5) n = true) (hR : RR I L) {Q : Option Value → mm_M → Prop} (hk : ∀ J K, RR J K → gP (lw_cs n xs) 40 10 false (some .boolean) code 1455 [some (.ref 1004), some (.ref 0), some (.ref 108), some (.int i)] [] (mm_sh, mm_R, J, K) Q) : gP (lw_cs n xs) 40 10 false (some .boolean) code 1317 [some (.ref 1004), some (.ref 0), some (.ref 108), some (.int i)] [] (mm_sh, mm_R, I, L) Q := by
  obtain ⟨zv, J, L1, J2, L2, zqc, zqm, zqR⟩ := eq_seed (xs (i + 1).toNatClampNeg) I L hR
  obtain ⟨zx, rfl⟩ := call_int me_94 rfl zqc
  refine gp_aload_n dL_1317 rfl ?_
  refine gp_aload_n dL_1318 rfl ?_
  refine gp_iload_n dL_1319 rfl ?_
  refine gp_pu (st' := .int (1) :: _) dL_1320 rfl ?_
  refine gp_pu (st' := .int _ :: _) dL_1321 rfl ?_
  refine gp_iac dL_1322 rfl hn1 ?_
  refine gp_call (kind := 1) (args := [.ref _, .int _]) (rest := _) dL_1323 (Or.inr (Or.inl ⟨rfl, rfl⟩)) mk_10_159 (by decide) me_94 rfl rfl rfl rfl rfl (mm_rc_of (by first | rfl | assumption | (simp only [*]; done))) zqc rfl ?_
  refine gp_aload_n dL_1326 rfl ?_
  refine gp_aload_n dL_1327 rfl ?_
  refine gp_iload_n dL_1328 rfl ?_
  refine gp_pu (st' := .int (1) :: _) dL_1329 rfl ?_
  refine gp_pu (st' := .int _ :: _) dL_1330 rfl ?_
  refine gp_iac dL_1331 rfl hn1 ?_
  refine gp_call (kind := 1) (args := [.ref _, .int _]) (rest := _) dL_1332 (Or.inr (Or.inl ⟨rfl, rfl⟩)) mk_10_162 (by decide) me_211 rfl rfl rfl rfl rfl (mm_rc_of (by first | rfl | assumption | (simp only [*]; done))) zqm rfl ?_
  refine gp_icc (t := 1455) dL_1335 (by decide) c2_eq (fun h1 => ?_) (fun h1 => ?_)
  · exact hk _ _ zqR
  · exact absurd rfl h1

set_option maxHeartbeats 400000 in
theorem lw_c35 (n : Nat) (xs : Nat → Int32) {i : Int32} {I : pI} {L : pL} (hn1 : mm_in (i + 1) n = true) (hn2 : mm_in (i + 2) n = true) (hn3 : mm_in (i + 3) n = true) (hn4 : mm_in (i + 4) n = true) (hn5 : mm_in (i + 5) n = true) (hR : RR I L) {Q : Option Value → mm_M → Prop} (hk : ∀ J K, RR J K → gP (lw_cs n xs) 40 10 false (some .boolean) code 1455 [some (.ref 1004), some (.ref 0), some (.ref 108), some (.int i)] [] (mm_sh, mm_R, J, K) Q) : gP (lw_cs n xs) 40 10 false (some .boolean) code 1340 [some (.ref 1004), some (.ref 0), some (.ref 108), some (.int i)] [] (mm_sh, mm_R, I, L) Q := by
  obtain ⟨zv, J, L1, J2, L2, zqc, zqm, zqR⟩ := eq_act (xs (i + 1).toNatClampNeg) (xs (i + 2).toNatClampNeg) (xs (i + 3).toNatClampNeg) I L hR
  obtain ⟨zx, rfl⟩ := call_int me_95 rfl zqc
  refine gp_aload_n dL_1340 rfl ?_
  refine gp_aload_n dL_1341 rfl ?_
  refine gp_iload_n dL_1342 rfl ?_
  refine gp_pu (st' := .int (1) :: _) dL_1343 rfl ?_
  refine gp_pu (st' := .int _ :: _) dL_1344 rfl ?_
  refine gp_iac dL_1345 rfl hn1 ?_
  refine gp_aload_n dL_1346 rfl ?_
  refine gp_iload_n dL_1347 rfl ?_
  refine gp_pu (st' := .int (2) :: _) dL_1348 rfl ?_
  refine gp_pu (st' := .int _ :: _) dL_1349 rfl ?_
  refine gp_iac dL_1350 rfl hn2 ?_
  refine gp_aload_n dL_1351 rfl ?_
  refine gp_iload_n dL_1352 rfl ?_
  refine gp_pu (st' := .int (3) :: _) dL_1353 rfl ?_
  refine gp_pu (st' := .int _ :: _) dL_1354 rfl ?_
  refine gp_iac dL_1355 rfl hn3 ?_
  refine gp_call (kind := 1) (args := [.ref _, .int _, .int _, .int _]) (rest := _) dL_1356 (Or.inr (Or.inl ⟨rfl, rfl⟩)) mk_10_163 (by decide) me_95 rfl rfl rfl rfl rfl (mm_rc_of (by first | rfl | assumption | (simp only [*]; done))) zqc rfl ?_
  refine gp_aload_n dL_1359 rfl ?_
  refine gp_aload_n dL_1360 rfl ?_
  refine gp_iload_n dL_1361 rfl ?_
  refine gp_pu (st' := .int (1) :: _) dL_1362 rfl ?_
  refine gp_pu (st' := .int _ :: _) dL_1363 rfl ?_
  refine gp_iac dL_1364 rfl hn1 ?_
  refine gp_aload_n dL_1365 rfl ?_
  refine gp_iload_n dL_1366 rfl ?_
  refine gp_pu (st' := .int (2) :: _) dL_1367 rfl ?_
  refine gp_pu (st' := .int _ :: _) dL_1368 rfl ?_
  refine gp_iac dL_1369 rfl hn2 ?_
  refine gp_aload_n dL_1370 rfl ?_
  refine gp_iload_n dL_1371 rfl ?_
  refine gp_pu (st' := .int (3) :: _) dL_1372 rfl ?_
  refine gp_pu (st' := .int _ :: _) dL_1373 rfl ?_
  refine gp_iac dL_1374 rfl hn3 ?_
  refine gp_call (kind := 1) (args := [.ref _, .int _, .int _, .int _]) (rest := _) dL_1375 (Or.inr (Or.inl ⟨rfl, rfl⟩)) mk_10_166 (by decide) me_216 rfl rfl rfl rfl rfl (mm_rc_of (by first | rfl | assumption | (simp only [*]; done))) zqm rfl ?_
  refine gp_icc (t := 1455) dL_1378 (by decide) c2_eq (fun h1 => ?_) (fun h1 => ?_)
  · exact hk _ _ zqR
  · exact absurd rfl h1

set_option maxHeartbeats 400000 in
theorem lw_c36 (n : Nat) (xs : Nat → Int32) {i : Int32} {I : pI} {L : pL} (hn1 : mm_in (i + 1) n = true) (hn2 : mm_in (i + 2) n = true) (hn3 : mm_in (i + 3) n = true) (hn4 : mm_in (i + 4) n = true) (hn5 : mm_in (i + 5) n = true) (hR : RR I L) {Q : Option Value → mm_M → Prop} (hk : ∀ J K, RR J K → gP (lw_cs n xs) 40 10 false (some .boolean) code 1455 [some (.ref 1004), some (.ref 0), some (.ref 108), some (.int i)] [] (mm_sh, mm_R, J, K) Q) : gP (lw_cs n xs) 40 10 false (some .boolean) code 1383 [some (.ref 1004), some (.ref 0), some (.ref 108), some (.int i)] [] (mm_sh, mm_R, I, L) Q := by
  obtain ⟨zv, J, L1, J2, L2, zqc, zqm, zqR⟩ := eq_trace (xs (i + 1).toNatClampNeg) I L hR
  obtain ⟨zx, rfl⟩ := call_int me_96 rfl zqc
  refine gp_aload_n dL_1383 rfl ?_
  refine gp_aload_n dL_1384 rfl ?_
  refine gp_iload_n dL_1385 rfl ?_
  refine gp_pu (st' := .int (1) :: _) dL_1386 rfl ?_
  refine gp_pu (st' := .int _ :: _) dL_1387 rfl ?_
  refine gp_iac dL_1388 rfl hn1 ?_
  refine gp_call (kind := 1) (args := [.ref _, .int _]) (rest := _) dL_1389 (Or.inr (Or.inl ⟨rfl, rfl⟩)) mk_10_167 (by decide) me_96 rfl rfl rfl rfl rfl (mm_rc_of (by first | rfl | assumption | (simp only [*]; done))) zqc rfl ?_
  refine gp_aload_n dL_1392 rfl ?_
  refine gp_aload_n dL_1393 rfl ?_
  refine gp_iload_n dL_1394 rfl ?_
  refine gp_pu (st' := .int (1) :: _) dL_1395 rfl ?_
  refine gp_pu (st' := .int _ :: _) dL_1396 rfl ?_
  refine gp_iac dL_1397 rfl hn1 ?_
  refine gp_call (kind := 1) (args := [.ref _, .int _]) (rest := _) dL_1398 (Or.inr (Or.inl ⟨rfl, rfl⟩)) mk_10_170 (by decide) me_217 rfl rfl rfl rfl rfl (mm_rc_of (by first | rfl | assumption | (simp only [*]; done))) zqm rfl ?_
  refine gp_icc (t := 1455) dL_1401 (by decide) c2_eq (fun h1 => ?_) (fun h1 => ?_)
  · exact hk _ _ zqR
  · exact absurd rfl h1

set_option maxHeartbeats 400000 in
theorem lw_c37 (n : Nat) (xs : Nat → Int32) {i : Int32} {I : pI} {L : pL} (hn1 : mm_in (i + 1) n = true) (hn2 : mm_in (i + 2) n = true) (hn3 : mm_in (i + 3) n = true) (hn4 : mm_in (i + 4) n = true) (hn5 : mm_in (i + 5) n = true) (hR : RR I L) {Q : Option Value → mm_M → Prop} (hk : ∀ J K, RR J K → gP (lw_cs n xs) 40 10 false (some .boolean) code 1455 [some (.ref 1004), some (.ref 0), some (.ref 108), some (.int i)] [] (mm_sh, mm_R, J, K) Q) : gP (lw_cs n xs) 40 10 false (some .boolean) code 1406 [some (.ref 1004), some (.ref 0), some (.ref 108), some (.int i)] [] (mm_sh, mm_R, I, L) Q := by
  obtain ⟨zv, J, L1, J2, L2, zqc, zqm, zqR⟩ := eq_image I L hR
  obtain ⟨zx, rfl⟩ := call_int me_97 rfl zqc
  refine gp_aload_n dL_1406 rfl ?_
  refine gp_call (kind := 1) (args := [.ref _]) (rest := _) dL_1407 (Or.inr (Or.inl ⟨rfl, rfl⟩)) mk_10_171 (by decide) me_97 rfl rfl rfl rfl rfl (mm_rc_of (by first | rfl | assumption | (simp only [*]; done))) zqc rfl ?_
  refine gp_aload_n dL_1410 rfl ?_
  refine gp_call (kind := 1) (args := [.ref _]) (rest := _) dL_1411 (Or.inr (Or.inl ⟨rfl, rfl⟩)) mk_10_174 (by decide) me_218 rfl rfl rfl rfl rfl (mm_rc_of (by first | rfl | assumption | (simp only [*]; done))) zqm rfl ?_
  refine gp_icc (t := 1455) dL_1414 (by decide) c2_eq (fun h1 => ?_) (fun h1 => ?_)
  · exact hk _ _ zqR
  · exact absurd rfl h1

set_option maxHeartbeats 400000 in
theorem lw_c38 (n : Nat) (xs : Nat → Int32) {i : Int32} {I : pI} {L : pL} (hn1 : mm_in (i + 1) n = true) (hn2 : mm_in (i + 2) n = true) (hn3 : mm_in (i + 3) n = true) (hn4 : mm_in (i + 4) n = true) (hn5 : mm_in (i + 5) n = true) (hR : RR I L) {Q : Option Value → mm_M → Prop} (hk : ∀ J K, RR J K → gP (lw_cs n xs) 40 10 false (some .boolean) code 1455 [some (.ref 1004), some (.ref 0), some (.ref 108), some (.int i)] [] (mm_sh, mm_R, J, K) Q) : gP (lw_cs n xs) 40 10 false (some .boolean) code 1419 [some (.ref 1004), some (.ref 0), some (.ref 108), some (.int i)] [] (mm_sh, mm_R, I, L) Q := by
  obtain ⟨zv, J, L1, J2, L2, zqc, zqm, zqR⟩ := eq_restore I L hR
  obtain ⟨zx, rfl⟩ := call_int me_98 rfl zqc
  refine gp_aload_n dL_1419 rfl ?_
  refine gp_call (kind := 1) (args := [.ref _]) (rest := _) dL_1420 (Or.inr (Or.inl ⟨rfl, rfl⟩)) mk_10_175 (by decide) me_98 rfl rfl rfl rfl rfl (mm_rc_of (by first | rfl | assumption | (simp only [*]; done))) zqc rfl ?_
  refine gp_aload_n dL_1423 rfl ?_
  refine gp_call (kind := 1) (args := [.ref _]) (rest := _) dL_1424 (Or.inr (Or.inl ⟨rfl, rfl⟩)) mk_10_178 (by decide) me_219 rfl rfl rfl rfl rfl (mm_rc_of (by first | rfl | assumption | (simp only [*]; done))) zqm rfl ?_
  refine gp_icc (t := 1455) dL_1427 (by decide) c2_eq (fun h1 => ?_) (fun h1 => ?_)
  · exact hk _ _ zqR
  · exact absurd rfl h1

set_option maxHeartbeats 400000 in
theorem lw_c39 (n : Nat) (xs : Nat → Int32) {i : Int32} {I : pI} {L : pL} (hn1 : mm_in (i + 1) n = true) (hn2 : mm_in (i + 2) n = true) (hn3 : mm_in (i + 3) n = true) (hn4 : mm_in (i + 4) n = true) (hn5 : mm_in (i + 5) n = true) (hR : RR I L) {Q : Option Value → mm_M → Prop} (hk : ∀ J K, RR J K → gP (lw_cs n xs) 40 10 false (some .boolean) code 1455 [some (.ref 1004), some (.ref 0), some (.ref 108), some (.int i)] [] (mm_sh, mm_R, J, K) Q) : gP (lw_cs n xs) 40 10 false (some .boolean) code 1432 [some (.ref 1004), some (.ref 0), some (.ref 108), some (.int i)] [] (mm_sh, mm_R, I, L) Q := by
  obtain ⟨zv, J, L1, J2, L2, zqc, zqm, zqR⟩ := eq_status (xs (i + 1).toNatClampNeg) I L hR
  obtain ⟨zx, rfl⟩ := call_int me_99 rfl zqc
  refine gp_aload_n dL_1432 rfl ?_
  refine gp_aload_n dL_1433 rfl ?_
  refine gp_iload_n dL_1434 rfl ?_
  refine gp_pu (st' := .int (1) :: _) dL_1435 rfl ?_
  refine gp_pu (st' := .int _ :: _) dL_1436 rfl ?_
  refine gp_iac dL_1437 rfl hn1 ?_
  refine gp_call (kind := 1) (args := [.ref _, .int _]) (rest := _) dL_1438 (Or.inr (Or.inl ⟨rfl, rfl⟩)) mk_10_179 (by decide) me_99 rfl rfl rfl rfl rfl (mm_rc_of (by first | rfl | assumption | (simp only [*]; done))) zqc rfl ?_
  refine gp_aload_n dL_1441 rfl ?_
  refine gp_aload_n dL_1442 rfl ?_
  refine gp_iload_n dL_1443 rfl ?_
  refine gp_pu (st' := .int (1) :: _) dL_1444 rfl ?_
  refine gp_pu (st' := .int _ :: _) dL_1445 rfl ?_
  refine gp_iac dL_1446 rfl hn1 ?_
  refine gp_call (kind := 1) (args := [.ref _, .int _]) (rest := _) dL_1447 (Or.inr (Or.inl ⟨rfl, rfl⟩)) mk_10_182 (by decide) me_220 rfl rfl rfl rfl rfl (mm_rc_of (by first | rfl | assumption | (simp only [*]; done))) zqm rfl ?_
  refine gp_icc (t := 1455) dL_1450 (by decide) c2_eq (fun h1 => ?_) (fun h1 => ?_)
  · exact hk _ _ zqR
  · exact absurd rfl h1
