/-! PUBLIC METHODS: race, summer: one racer of the reference -/
section P98c
variable {I C J : pI} {L : pL} {N S : Nat}

/-- the arrays after a racer's second -/
def k3 (K : pI) (c : Nat) (p b w : Int32) : pI := mm_u (mm_u (mm_u K 133 c p) 134 c b) 135 c w
theorem k3_o (K : pI) (c : Nat) (p b w : Int32) {k : Nat} (h : k < 133 ∨ 135 < k) : k3 K c p b w k = K k := by
  unfold k3
  rw [mm_u_k _ _ _ (by omega), mm_u_k _ _ _ (by omega), mm_u_k _ _ _ (by omega)]

set_option maxHeartbeats 400000 in
theorem dn_rc2 (d : Nat) {K : pI} {s c p b w W R : Int32} (hc8 : mm_in c 8 = true) (e42 : K 108 42 = p) (e43 : K 108 43 = b) (e45 : K 108 45 = w) (e2 : K 108 2 = W) (eR : m_rope (K 108) s = R) {Q : Option Value → mm_M → Prop} (hk1 : p < W → gP mm_cs0 (d + 7) 9 false (some .int) cX9_raced 216 [some (.ref 108), some (.int s), some (.int c)] [] (mm_sh, mm_R, k3 K c.toNatClampNeg p b w, L) Q) (hk2 : ¬ p < W → gP mm_cs0 (d + 7) 9 false (some .int) cX9_raced 216 [some (.ref 108), some (.int s), some (.int c)] [] (mm_sh, mm_R, mm_u (k3 K c.toNatClampNeg p b w) 136 c.toNatClampNeg R, L) Q) : gP mm_cs0 (d + 7) 9 false (some .int) cX9_raced 164 [some (.ref 108), some (.int s), some (.int c)] [] (mm_sh, mm_R, K, L) Q := by
  have f43 : mm_u K 133 c.toNatClampNeg p 108 43 = b := by rw [mm_u_o _ _ _ _ (by decide)]; exact e43
  have f45 : mm_u (mm_u K 133 c.toNatClampNeg p) 134 c.toNatClampNeg b 108 45 = w := by rw [mm_u_o _ _ _ _ (by decide), mm_u_o _ _ _ _ (by decide)]; exact e45
  have f108 : k3 K c.toNatClampNeg p b w 108 = K 108 := k3_o _ _ _ _ _ (by omega)
  have f42 : k3 K c.toNatClampNeg p b w 108 42 = p := by rw [f108]; exact e42
  have f2 : k3 K c.toNatClampNeg p b w 108 2 = W := by rw [f108]; exact e2
  refine gp_aload_n dX9_raced_164 rfl ?_
  refine gp_gr dX9_raced_165 mf_9_102 rfl (by first | rfl | assumption | (simp only [*]; done)) (by first | rfl | assumption | (simp only [*]; done)) ?_
  refine gp_iload_n dX9_raced_168 rfl ?_
  refine gp_aload_n dX9_raced_169 rfl ?_
  refine gp_giv dX9_raced_170 mf_9_257 (by decide) (by first | rfl | assumption | (simp only [*]; done)) (by first | exact e42 | exact e43 | exact f43 | exact e45 | exact f45 | exact f42 | exact f2 | exact rfl) ?_
  refine gp_ias dX9_raced_173 rfl hc8 ?_
  refine gp_aload_n dX9_raced_174 rfl ?_
  refine gp_gr dX9_raced_175 mf_9_105 rfl (by first | rfl | assumption | (simp only [*]; done)) (by first | rfl | assumption | (simp only [*]; done)) ?_
  refine gp_iload_n dX9_raced_178 rfl ?_
  refine gp_aload_n dX9_raced_179 rfl ?_
  refine gp_giv dX9_raced_180 mf_9_254 (by decide) (by first | rfl | assumption | (simp only [*]; done)) (by first | exact e42 | exact e43 | exact f43 | exact e45 | exact f45 | exact f42 | exact f2 | exact rfl) ?_
  refine gp_ias dX9_raced_183 rfl hc8 ?_
  refine gp_aload_n dX9_raced_184 rfl ?_
  refine gp_gr dX9_raced_185 mf_9_108 rfl (by first | rfl | assumption | (simp only [*]; done)) (by first | rfl | assumption | (simp only [*]; done)) ?_
  refine gp_iload_n dX9_raced_188 rfl ?_
  refine gp_aload_n dX9_raced_189 rfl ?_
  refine gp_giv dX9_raced_190 mf_9_263 (by decide) (by first | rfl | assumption | (simp only [*]; done)) (by first | exact e42 | exact e43 | exact f43 | exact e45 | exact f45 | exact f42 | exact f2 | exact rfl) ?_
  refine gp_ias dX9_raced_193 rfl hc8 ?_
  refine gp_aload_n dX9_raced_194 rfl ?_
  refine gp_giv dX9_raced_195 mf_9_257 (by decide) (by first | rfl | assumption | (simp only [*]; done)) (by first | exact e42 | exact e43 | exact f43 | exact e45 | exact f45 | exact f42 | exact f2 | exact rfl) ?_
  refine gp_aload_n dX9_raced_198 rfl ?_
  refine gp_giv dX9_raced_199 mf_9_7 (by decide) (by first | rfl | assumption | (simp only [*]; done)) (by first | exact e42 | exact e43 | exact f43 | exact e45 | exact f45 | exact f42 | exact f2 | exact rfl) ?_
  refine gp_icc (t := 216) dX9_raced_202 (by decide) c2_lt (fun h1 => ?_) (fun h1 => ?_)
  · have h1' := Int32.not_le.mpr h1
    first | exact hk1 (by assumption) | exact hk2 (by assumption)
  · have h1' := Int32.not_lt.mp h1
    refine gp_aload_n dX9_raced_205 rfl ?_
    refine gp_gr dX9_raced_206 mf_9_111 rfl (by first | rfl | assumption | (simp only [*]; done)) (by first | rfl | assumption | (simp only [*]; done)) ?_
    refine gp_iload_n dX9_raced_209 rfl ?_
    refine gp_aload_n dX9_raced_210 rfl ?_
    refine gp_iload_n dX9_raced_211 rfl ?_
    refine gp_call (kind := 1) (args := [.ref _, .int _]) (rest := _) dX9_raced_212 (Or.inr (Or.inl ⟨rfl, rfl⟩)) mk_9_287 (by decide) me_178 rfl rfl rfl rfl rfl (mm_rc_of (by first | rfl | assumption | (simp only [*]; done))) (by have zq := ok_X9_withRope (d + 6) (k3 K c.toNatClampNeg p b w) L s; rw [f108, eR] at zq; exact zq) rfl ?_
    refine gp_ias dX9_raced_215 rfl hc8 ?_
    first | exact hk1 (by assumption) | exact hk2 (by assumption)
end P98c
