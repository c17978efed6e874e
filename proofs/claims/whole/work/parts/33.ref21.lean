/-! ===== the reference: digest ===== -/
/-- h = 31 h + v, one behind the other -/
def dgF (f : Nat → Int32) (h : Int64) : Nat → Int64
  | 0 => h
  | i + 1 => 31 * dgF f h i + (f i).toInt64
def dgLn (kc : Nat → Prop) [DecidablePred kc] (tf rf : Nat → Nat → Int32) (h : Int64) : Nat → Int64
  | 0 => h
  | l + 1 => if kc l then dgF (rf l) (dgF (tf l) (dgLn kc tf rf h l) 6) 24 else dgF (tf l) (dgLn kc tf rf h l) 6
def dgPb (N a : Nat) (me ba : Nat → Int32) (h : Int64) : Nat → Int64
  | 0 => h
  | b + 1 => if a = b then dgPb N a me ba h b else 31 * (31 * dgPb N a me ba h b + (me (N * a + b)).toInt64) + (ba (N * a + b)).toInt64
def dgPa (N : Nat) (me ba : Nat → Int32) (h : Int64) : Nat → Int64
  | 0 => h
  | a + 1 => dgPb N a me ba (dgPa N me ba h a) N
def dgSh (sz : Nat → Int32) (by_ : Nat → Nat → Int32) (h : Int64) : Nat → Int64
  | 0 => h
  | s + 1 => dgF (by_ s) (31 * dgSh sz by_ h s + (if 0 ≤ sz s then sz s else -1).toInt64) (sz s).toNatClampNeg
def dgR (I : am_I) (N n : Nat) (rb : Nat → Option Nat) : Int64 := dgSh (I 91) (fun s k => I 92 (24 * s + k)) (dgPa N (I 72) (I 73) (dgLn (fun l => I 65 l = nI 1 ∨ I 65 l = nI 2) (tlR I) (fun l h => I 71 (24 * l + h)) (dgF (tcR I N n rb) 17 5) n) N) 4
set_option maxHeartbeats 4000000 in
set_option maxRecDepth 100000 in
theorem lp_d6 {G : am_G} {d : Nat} {I0 : am_I} {J : am_J} {Ex : am_Ex} {s z : Nat} {h0 : Int64} (hs : s < 4) (hz : z ≤ 24) (hsz : 0 < z → I0 91 s = nI z) (hsz2 : z = 0 → I0 91 s ≤ 0) (kx : ∀ v4, AW G cX12_digest 5 RX12 d Ex 276 [some (.ref 63), some (.long (dgF (fun k => I0 92 (24 * s + k)) h0 z)), none, some (.int (nI s)), v4] [] I0 J) : ∀ k, k ≤ z → AW G cX12_digest 5 RX12 d Ex 239 [some (.ref 63), some (.long (dgF (fun k => I0 92 (24 * s + k)) h0 k)), none, some (.int (nI s)), some (.int (nI k))] [] I0 J := by
  refine am_dn z (fun k hk ih => ?_)
  refine a_iload dX12_digest_239 rfl ?_
  refine a_aload_n dX12_digest_241 rfl ?_
  refine a_getr dX12_digest_242 kf_X12_96 ⟨by decide, _, rfl, rfl⟩ ?_
  refine a_iload_n dX12_digest_245 rfl ?_
  refine a_iald dX12_digest_246 ⟨by decide, rfl⟩ (by omega) rfl ?_
  refine a_icmp_ge (tgt := 276) dX12_digest_247 (by decide) (fun h => ?_) (fun h => ?_)
  · have e : k = z := by
      rcases Nat.eq_zero_or_pos z with q | q
      · omega
      · rw [hsz q] at h; have := (nI_leI (by omega) (by omega)).mp h; omega
    subst e
    exact kx _
  · have h2 : k < z := by
      rcases Nat.eq_zero_or_pos z with q | q
      · exact absurd (Int32.le_trans (hsz2 q) (nI_pos' (by omega))) h
      · rw [hsz q] at h; have := mt (nI_leI (show z < 2 ^ 31 by omega) (show k < 2 ^ 31 by omega)).mpr h; omega
    refine a_ldc2 dX12_digest_250 kk_X12_244 rfl ?_
    refine a_lload_n dX12_digest_253 rfl ?_
    refine a_lmul dX12_digest_254 rfl ?_
    refine a_aload_n dX12_digest_255 rfl ?_
    refine a_getr dX12_digest_256 kf_X12_99 ⟨by decide, _, rfl, rfl⟩ ?_
    refine a_bipush (v := nI 24) dX12_digest_259 (by decide) ?_
    refine a_iload_n dX12_digest_261 rfl ?_
    refine a_imul dX12_digest_262 (by first | exact pk_mul _ _ | rfl) ?_
    refine a_iload dX12_digest_263 rfl ?_
    refine a_iadd dX12_digest_265 (by first | exact nI_add _ _ | rfl) ?_
    refine a_iald dX12_digest_266 ⟨by decide, rfl⟩ (by omega) rfl ?_
    refine a_i2l dX12_digest_267 rfl ?_
    refine a_ladd dX12_digest_268 (show _ = dgF (fun k => I0 92 (24 * s + k)) h0 (k + 1) from rfl) ?_
    refine a_lstore_n (L' := [_, _, _, _, _]) dX12_digest_269 (Nat.le_of_ble_eq_true rfl) rfl ?_
    refine a_iinc (L' := [_, _, _, _, _]) dX12_digest_270 rfl (nI_inc _) rfl ?_
    refine a_goto (tgt := 239) dX12_digest_273 (by decide) ?_
    exact ih (k + 1) (by omega) (by omega)

set_option maxHeartbeats 4000000 in
set_option maxRecDepth 100000 in
theorem lp_d5 {G : am_G} {d : Nat} {I0 : am_I} {J : am_J} {K : Int64 → am_I → am_J → Prop} {h0 : Int64} (hsz : ∀ s, s < 4 → I0 91 s = -9 ∨ ∃ n, n ≤ 24 ∧ I0 91 s = nI n) (hK : K (dgSh (I0 91) (fun s k => I0 92 (24 * s + k)) h0 4) I0 J) : ∀ s, s ≤ 4 → ∀ v4, AW G cX12_digest 5 RX12 d (am_ex G (some .long) (fun r I J => ∃ x, r = some (.long x) ∧ K x I J)) 204 [some (.ref 63), some (.long (dgSh (I0 91) (fun s k => I0 92 (24 * s + k)) h0 s)), none, some (.int (nI s)), v4] [] I0 J := by
  refine am_dn 4 (fun s hs ih => ?_)
  intro v4
  refine a_iload_n dX12_digest_204 rfl ?_
  refine a_iconst (v := nI 4) dX12_digest_205 (by decide) ?_
  refine a_icmp_geN (tgt := 282) dX12_digest_206 (by decide) (by omega) (by omega) (fun h => ?_) (fun h => ?_)
  · obtain rfl : s = 4 := by omega
    refine a_lload_n dX12_digest_282 rfl ?_
    exact a_lreturn dX12_digest_283 ⟨_, rfl, hK⟩
  · refine a_ldc2 dX12_digest_209 kk_X12_244 rfl ?_
    refine a_lload_n dX12_digest_212 rfl ?_
    refine a_lmul dX12_digest_213 rfl ?_
    refine a_aload_n dX12_digest_214 rfl ?_
    refine a_getr dX12_digest_215 kf_X12_96 ⟨by decide, _, rfl, rfl⟩ ?_
    refine a_iload_n dX12_digest_218 rfl ?_
    refine a_iald dX12_digest_219 ⟨by decide, rfl⟩ (by omega) rfl ?_
    refine a_tif_ge (tgt := 227) (pj := 233) (a := (I0 91 s)) (b := (-1)) dX12_digest_220 (by decide) (fun kj => ?_) (fun kj => ?_) ?_
    · refine a_aload_n dX12_digest_227 rfl ?_
      refine a_getr dX12_digest_228 kf_X12_96 ⟨by decide, _, rfl, rfl⟩ ?_
      refine a_iload_n dX12_digest_231 rfl ?_
      refine a_iald dX12_digest_232 ⟨by decide, rfl⟩ (by omega) rfl ?_
      exact kj
    · refine a_iconst (v := (-1)) dX12_digest_223 (by decide) ?_
      refine a_goto (tgt := 233) dX12_digest_224 (by decide) ?_
      exact kj
    refine a_i2l dX12_digest_233 rfl ?_
    refine a_ladd dX12_digest_234 rfl ?_
    refine a_lstore_n (L' := [_, _, _, _, _]) dX12_digest_235 (Nat.le_of_ble_eq_true rfl) rfl ?_
    refine a_iconst (v := nI 0) dX12_digest_236 (by decide) ?_
    refine a_istore (L' := [_, _, _, _, _]) dX12_digest_237 (Nat.le_of_ble_eq_true rfl) rfl ?_
    have hcl : (I0 91 s).toNatClampNeg ≤ 24 ∧ (0 < (I0 91 s).toNatClampNeg → I0 91 s = nI (I0 91 s).toNatClampNeg) ∧ ((I0 91 s).toNatClampNeg = 0 → I0 91 s ≤ 0) := by
      rcases hsz s h with e | ⟨n, hn, e⟩
      · rw [e]; exact ⟨by decide, fun q => absurd q (by decide), fun _ => by decide⟩
      · rw [e, nI_clamp (by omega)]; exact ⟨hn, fun _ => rfl, fun q => by rw [q]; decide⟩
    refine lp_d6 h hcl.1 hcl.2.1 hcl.2.2 (fun v4 => ?_) 0 (by omega)
    refine a_iinc (L' := [_, _, _, _, _]) dX12_digest_276 rfl (nI_inc _) rfl ?_
    refine a_goto (tgt := 204) dX12_digest_279 (by decide) ?_
    exact ih (s + 1) (by omega) (by omega) _

set_option maxHeartbeats 4000000 in
set_option maxRecDepth 100000 in
theorem lp_d4 {G : am_G} {d : Nat} {I0 : am_I} {J : am_J} {Ex : am_Ex} {N a : Nat} {h0 : Int64} (hN : I0 63 3 = nI N) (hN6 : N ≤ 6) (ha : a < N) (kx : ∀ v4, AW G cX12_digest 5 RX12 d Ex 196 [some (.ref 63), some (.long (dgPb N a (I0 72) (I0 73) h0 N)), none, some (.int (nI a)), v4] [] I0 J) : ∀ b, b ≤ N → AW G cX12_digest 5 RX12 d Ex 133 [some (.ref 63), some (.long (dgPb N a (I0 72) (I0 73) h0 b)), none, some (.int (nI a)), some (.int (nI b))] [] I0 J := by
  refine am_dn N (fun b hb ih => ?_)
  refine a_iload dX12_digest_133 rfl ?_
  refine a_aload_n dX12_digest_135 rfl ?_
  refine a_geti dX12_digest_136 kf_X12_13 ⟨by decide, _, rfl, rfl⟩ hN ?_
  refine a_icmp_geN (tgt := 196) dX12_digest_139 (by decide) (by omega) (by omega) (fun h => ?_) (fun h => ?_)
  · obtain rfl : b = N := by omega
    exact kx _
  · refine a_iload_n dX12_digest_142 rfl ?_
    refine a_iload dX12_digest_143 rfl ?_
    refine a_icmp_eqN (tgt := 190) dX12_digest_145 (by decide) (by omega) (by omega) (fun h145 => ?_) (fun h145 => ?_)
    · refine a_iinc (L' := [_, _, _, _, _]) dX12_digest_190 rfl (nI_inc _) rfl ?_
      refine a_goto (tgt := 133) dX12_digest_193 (by decide) ?_
      have z := ih (b + 1) (by omega) (by omega)
      rw [dgPb, if_pos h145] at z
      exact z
    · refine a_ldc2 dX12_digest_148 kk_X12_244 rfl ?_
      refine a_ldc2 dX12_digest_151 kk_X12_244 rfl ?_
      refine a_lload_n dX12_digest_154 rfl ?_
      refine a_lmul dX12_digest_155 rfl ?_
      refine a_aload_n dX12_digest_156 rfl ?_
      refine a_getr dX12_digest_157 kf_X12_39 ⟨by decide, _, rfl, rfl⟩ ?_
      refine a_aload_n dX12_digest_160 rfl ?_
      refine a_geti dX12_digest_161 kf_X12_13 ⟨by decide, _, rfl, rfl⟩ hN ?_
      refine a_iload_n dX12_digest_164 rfl ?_
      refine a_imul dX12_digest_165 (by first | exact pk_mul _ _ | rfl) ?_
      refine a_iload dX12_digest_166 rfl ?_
      refine a_iadd dX12_digest_168 (by first | exact nI_add _ _ | rfl) ?_
      refine a_iald dX12_digest_169 ⟨by decide, rfl⟩ (ix_lt hN6 ha h) rfl ?_
      refine a_i2l dX12_digest_170 rfl ?_
      refine a_ladd dX12_digest_171 rfl ?_
      refine a_lmul dX12_digest_172 rfl ?_
      refine a_aload_n dX12_digest_173 rfl ?_
      refine a_getr dX12_digest_174 kf_X12_42 ⟨by decide, _, rfl, rfl⟩ ?_
      refine a_aload_n dX12_digest_177 rfl ?_
      refine a_geti dX12_digest_178 kf_X12_13 ⟨by decide, _, rfl, rfl⟩ hN ?_
      refine a_iload_n dX12_digest_181 rfl ?_
      refine a_imul dX12_digest_182 (by first | exact pk_mul _ _ | rfl) ?_
      refine a_iload dX12_digest_183 rfl ?_
      refine a_iadd dX12_digest_185 (by first | exact nI_add _ _ | rfl) ?_
      refine a_iald dX12_digest_186 ⟨by decide, rfl⟩ (ix_lt hN6 ha h) rfl ?_
      refine a_i2l dX12_digest_187 rfl ?_
      refine a_ladd dX12_digest_188 rfl ?_
      refine a_lstore_n (L' := [_, _, _, _, _]) dX12_digest_189 (Nat.le_of_ble_eq_true rfl) rfl ?_
      refine a_iinc (L' := [_, _, _, _, _]) dX12_digest_190 rfl (nI_inc _) rfl ?_
      refine a_goto (tgt := 133) dX12_digest_193 (by decide) ?_
      have z := ih (b + 1) (by omega) (by omega)
      rw [dgPb, if_neg h145] at z
      exact z

set_option maxHeartbeats 4000000 in
set_option maxRecDepth 100000 in
theorem lp_d3 {G : am_G} {d : Nat} {I0 : am_I} {J : am_J} {Ex : am_Ex} {N : Nat} {h0 : Int64} (hN : I0 63 3 = nI N) (hN6 : N ≤ 6) (kx : ∀ v4, AW G cX12_digest 5 RX12 d Ex 202 [some (.ref 63), some (.long (dgPa N (I0 72) (I0 73) h0 N)), none, some (.int (nI N)), v4] [] I0 J) : ∀ a, a ≤ N → ∀ v4, AW G cX12_digest 5 RX12 d Ex 122 [some (.ref 63), some (.long (dgPa N (I0 72) (I0 73) h0 a)), none, some (.int (nI a)), v4] [] I0 J := by
  refine am_dn N (fun a ha ih => ?_)
  intro v4
  refine a_iload_n dX12_digest_122 rfl ?_
  refine a_aload_n dX12_digest_123 rfl ?_
  refine a_geti dX12_digest_124 kf_X12_13 ⟨by decide, _, rfl, rfl⟩ hN ?_
  refine a_icmp_geN (tgt := 202) dX12_digest_127 (by decide) (by omega) (by omega) (fun h => ?_) (fun h => ?_)
  · obtain rfl : a = N := by omega
    exact kx _
  · refine a_iconst (v := nI 0) dX12_digest_130 (by decide) ?_
    refine a_istore (L' := [_, _, _, _, _]) dX12_digest_131 (Nat.le_of_ble_eq_true rfl) rfl ?_
    refine lp_d4 hN hN6 h (fun v4 => ?_) 0 (by omega)
    refine a_iinc (L' := [_, _, _, _, _]) dX12_digest_196 rfl (nI_inc _) rfl ?_
    refine a_goto (tgt := 122) dX12_digest_199 (by decide) ?_
    exact ih (a + 1) (by omega) (by omega) _

set_option maxHeartbeats 4000000 in
set_option maxRecDepth 100000 in
theorem lp_d2a {G : am_G} {d : Nat} {I0 : am_I} {J : am_J} {Ex : am_Ex} {l : Nat} {h0 : Int64} (hl : l < 12) (hd : I0 68 l = 0 ∨ I0 68 l = 1) (kx : ∀ v4, AW G cX12_digest 5 RX12 (d + 1) Ex 70 [some (.ref 63), some (.long (dgF (tlR I0 l) h0 6)), none, some (.int (nI l)), v4] [] I0 J) : ∀ k, k ≤ 6 → AW G cX12_digest 5 RX12 (d + 1) Ex 43 [some (.ref 63), some (.long (dgF (tlR I0 l) h0 k)), none, some (.int (nI l)), some (.int (nI k))] [] I0 J := by
  refine am_dn 6 (fun k hk ih => ?_)
  refine a_iload dX12_digest_43 rfl ?_
  refine a_iconst (v := nI 5) dX12_digest_45 (by decide) ?_
  refine a_icmp_gtN (tgt := 70) dX12_digest_46 (by decide) (by omega) (by omega) (fun h => ?_) (fun h => ?_)
  · obtain rfl : k = 6 := by omega
    exact kx _
  · refine a_ldc2 dX12_digest_49 kk_X12_244 rfl ?_
    refine a_lload_n dX12_digest_52 rfl ?_
    refine a_lmul dX12_digest_53 rfl ?_
    refine a_aload_n dX12_digest_54 rfl ?_
    refine a_iload_n dX12_digest_55 rfl ?_
    refine a_iload dX12_digest_56 rfl ?_
    refine a_callVi (As := [_, _]) dX12_digest_58 km_X12_133 ⟨by decide, _, _, _, rfl, rfl⟩ rfl rfl (Nat.le_of_ble_eq_true rfl) ?_
    refine c_tells hl h hd ?_
    refine a_i2l dX12_digest_61 rfl ?_
    refine a_ladd dX12_digest_62 (show _ = dgF (tlR I0 l) h0 (k + 1) from rfl) ?_
    refine a_lstore_n (L' := [_, _, _, _, _]) dX12_digest_63 (Nat.le_of_ble_eq_true rfl) rfl ?_
    refine a_iinc (L' := [_, _, _, _, _]) dX12_digest_64 rfl (nI_inc _) rfl ?_
    refine a_goto (tgt := 43) dX12_digest_67 (by decide) ?_
    exact ih (k + 1) (by omega) (by omega)

set_option maxHeartbeats 4000000 in
set_option maxRecDepth 100000 in
theorem lp_d2b {G : am_G} {d : Nat} {I0 : am_I} {J : am_J} {Ex : am_Ex} {l : Nat} {h0 : Int64} (hl : l < 12) (hc : I0 65 l = nI 1 ∨ I0 65 l = nI 2) (kx : ∀ v4, AW G cX12_digest 5 RX12 (d + 1) Ex 114 [some (.ref 63), some (.long (dgF (fun h => I0 71 (24 * l + h)) h0 24)), none, some (.int (nI l)), v4] [] I0 J) : ∀ k, k ≤ 24 → AW G cX12_digest 5 RX12 (d + 1) Ex 73 [some (.ref 63), some (.long (dgF (fun h => I0 71 (24 * l + h)) h0 k)), none, some (.int (nI l)), some (.int (nI k))] [] I0 J := by
  refine am_dn 24 (fun k hk ih => ?_)
  refine a_iload dX12_digest_73 rfl ?_
  refine a_bipush (v := nI 24) dX12_digest_75 (by decide) ?_
  refine a_icmp_geN (tgt := 114) dX12_digest_77 (by decide) (by omega) (by omega) (fun h => ?_) (fun h => ?_)
  · obtain rfl : k = 24 := by omega
    exact kx _
  · refine a_aload_n dX12_digest_80 rfl ?_
    refine a_iload_n dX12_digest_81 rfl ?_
    refine a_callVi (As := [_]) dX12_digest_82 km_X12_153 ⟨by decide, _, _, _, rfl, rfl⟩ rfl rfl (Nat.le_of_ble_eq_true rfl) ?_
    refine c_counts hl (fun ec => ?_) (fun ec => absurd hc ec)
    · refine a_if_eq (tgt := 114) dX12_digest_85 (by decide) (fun h85 => ?_) (fun h85 => ?_)
      · exact absurd h85 (by decide)
      · refine a_ldc2 dX12_digest_88 kk_X12_244 rfl ?_
        refine a_lload_n dX12_digest_91 rfl ?_
        refine a_lmul dX12_digest_92 rfl ?_
        refine a_aload_n dX12_digest_93 rfl ?_
        refine a_getr dX12_digest_94 kf_X12_36 ⟨by decide, _, rfl, rfl⟩ ?_
        refine a_bipush (v := nI 24) dX12_digest_97 (by decide) ?_
        refine a_iload_n dX12_digest_99 rfl ?_
        refine a_imul dX12_digest_100 (by first | exact pk_mul _ _ | rfl) ?_
        refine a_iload dX12_digest_101 rfl ?_
        refine a_iadd dX12_digest_103 (by first | exact nI_add _ _ | rfl) ?_
        refine a_iald dX12_digest_104 ⟨by decide, rfl⟩ (by omega) rfl ?_
        refine a_i2l dX12_digest_105 rfl ?_
        refine a_ladd dX12_digest_106 (show _ = dgF (fun h => I0 71 (24 * l + h)) h0 (k + 1) from rfl) ?_
        refine a_lstore_n (L' := [_, _, _, _, _]) dX12_digest_107 (Nat.le_of_ble_eq_true rfl) rfl ?_
        refine a_iinc (L' := [_, _, _, _, _]) dX12_digest_108 rfl (nI_inc _) rfl ?_
        refine a_goto (tgt := 73) dX12_digest_111 (by decide) ?_
        exact ih (k + 1) (by omega) (by omega)

set_option maxHeartbeats 4000000 in
set_option maxRecDepth 100000 in
theorem lp_d2 {G : am_G} {d : Nat} {I0 : am_I} {J : am_J} {Ex : am_Ex} {n : Nat} {h0 : Int64} (hn : I0 63 4 = nI n) (hn12 : n ≤ 12) (hd : ∀ l, l < n → I0 68 l = 0 ∨ I0 68 l = 1) (kx : ∀ v4, AW G cX12_digest 5 RX12 (d + 1) Ex 120 [some (.ref 63), some (.long (dgLn (fun l => I0 65 l = nI 1 ∨ I0 65 l = nI 2) (tlR I0) (fun l h => I0 71 (24 * l + h)) h0 n)), none, some (.int (nI n)), v4] [] I0 J) : ∀ l, l ≤ n → ∀ v4, AW G cX12_digest 5 RX12 (d + 1) Ex 32 [some (.ref 63), some (.long (dgLn (fun l => I0 65 l = nI 1 ∨ I0 65 l = nI 2) (tlR I0) (fun l h => I0 71 (24 * l + h)) h0 l)), none, some (.int (nI l)), v4] [] I0 J := by
  refine am_dn n (fun l hl ih => ?_)
  intro v4
  refine a_iload_n dX12_digest_32 rfl ?_
  refine a_aload_n dX12_digest_33 rfl ?_
  refine a_geti dX12_digest_34 kf_X12_115 ⟨by decide, _, rfl, rfl⟩ hn ?_
  refine a_icmp_geN (tgt := 120) dX12_digest_37 (by decide) (by omega) (by omega) (fun h => ?_) (fun h => ?_)
  · obtain rfl : l = n := by omega
    exact kx _
  · refine a_iconst (v := nI 0) dX12_digest_40 (by decide) ?_
    refine a_istore (L' := [_, _, _, _, _]) dX12_digest_41 (Nat.le_of_ble_eq_true rfl) rfl ?_
    refine lp_d2a (by omega) (hd l h) (fun v4 => ?_) 0 (by omega)
    by_cases hc : I0 65 l = nI 1 ∨ I0 65 l = nI 2
    · refine a_iconst (v := nI 0) dX12_digest_70 (by decide) ?_
      refine a_istore (L' := [_, _, _, _, _]) dX12_digest_71 (Nat.le_of_ble_eq_true rfl) rfl ?_
      refine lp_d2b (by omega) hc (fun v4 => ?_) 0 (by omega)
      refine a_iinc (L' := [_, _, _, _, _]) dX12_digest_114 rfl (nI_inc _) rfl ?_
      refine a_goto (tgt := 32) dX12_digest_117 (by decide) ?_
      have z := ih (l + 1) (by omega) (by omega) v4
      rw [dgLn, if_pos hc] at z
      exact z
    · refine a_iconst (v := nI 0) dX12_digest_70 (by decide) ?_
      refine a_istore (L' := [_, _, _, _, _]) dX12_digest_71 (Nat.le_of_ble_eq_true rfl) rfl ?_
      refine a_iload dX12_digest_73 rfl ?_
      refine a_bipush (v := nI 24) dX12_digest_75 (by decide) ?_
      refine a_icmp_geN (tgt := 114) dX12_digest_77 (by decide) (by omega) (by omega) (fun h77 => ?_) (fun h77 => ?_)
      · exact absurd h77 (by decide)
      · refine a_aload_n dX12_digest_80 rfl ?_
        refine a_iload_n dX12_digest_81 rfl ?_
        refine a_callVi (As := [_]) dX12_digest_82 km_X12_153 ⟨by decide, _, _, _, rfl, rfl⟩ rfl rfl (Nat.le_of_ble_eq_true rfl) ?_
        refine c_counts (by omega) (fun ec => absurd ec hc) (fun ec => ?_)
        · refine a_if_eq (tgt := 114) dX12_digest_85 (by decide) (fun h85 => ?_) (fun h85 => ?_)
          · refine a_iinc (L' := [_, _, _, _, _]) dX12_digest_114 rfl (nI_inc _) rfl ?_
            refine a_goto (tgt := 32) dX12_digest_117 (by decide) ?_
            have z := ih (l + 1) (by omega) (by omega) (some (.int (nI 0)))
            rw [dgLn, if_neg hc] at z
            exact z
          · exact absurd h85 (by decide)

theorem tcR_fr {I1 I : am_I} (h : frR I1 I) (N n : Nat) (rb : Nat → Option Nat) (w : Nat) : tcR I1 N n rb w = tcR I N n rb w := by
  unfold tcR tlI
  rw [frR_row h (k := 70) (by decide) (by decide) (by decide), frR_row h (k := 72) (by decide) (by decide) (by decide)]
theorem frR_tr {I1 I2 I3 : am_I} (h : frR I1 I2) (h' : frR I2 I3) : frR I1 I3 := fun k j a b c => (h k j a b c).trans (h' k j a b c)
theorem dgR_fr {I1 I : am_I} (h : frR I1 I) (N n : Nat) (rb : Nat → Option Nat) : dgR I1 N n rb = dgR I N n rb := by
  have e (k : Nat) (a : k ≠ 75 := by decide) (b : k ≠ 76 := by decide) (c : k ≠ 63 := by decide) : I1 k = I k := frR_row h a b c
  have e2 : tcR I1 N n rb = tcR I N n rb := funext (tcR_fr h N n rb)
  have e3 : tlR I1 = tlR I := by funext l j; unfold tlR; rw [e 65, e 66, e 67, e 68, e 70, e 69]
  unfold dgR
  rw [e2, e3]
  simp only [e 91, e 92, e 72, e 73, e 65, e 71]
set_option maxHeartbeats 4000000 in
set_option maxRecDepth 100000 in
theorem lp_d1 {G : am_G} {d : Nat} {I0 : am_I} {J : am_J} {Ex : am_Ex} {N n : Nat} {F T : Nat → Nat} {S : Nat → Bool} (hR : rwR I0 (-9) N n F T S) (kx : ∀ I, frR I I0 → AW G cX12_digest 5 RX12 (d + 3) Ex 30 [some (.ref 63), some (.long (dgF (tcR I0 N n (rbO F T S n N)) 17 5)), none, some (.int (nI 5)), none] [] I J) : ∀ w, w ≤ 5 → ∀ I, frR I I0 → AW G cX12_digest 5 RX12 (d + 3) Ex 6 [some (.ref 63), some (.long (dgF (tcR I0 N n (rbO F T S n N)) 17 w)), none, some (.int (nI w)), none] [] I J := by
  refine am_dn 5 (fun w hw ih => ?_)
  intro I hf
  refine a_iload_n dX12_digest_6 rfl ?_
  refine a_iconst (v := nI 4) dX12_digest_7 (by decide) ?_
  refine a_icmp_gtN (tgt := 30) dX12_digest_8 (by decide) (by omega) (by omega) (fun h => ?_) (fun h => ?_)
  · obtain rfl : w = 5 := by omega
    exact kx I hf
  · refine a_ldc2 dX12_digest_11 kk_X12_244 rfl ?_
    refine a_lload_n dX12_digest_14 rfl ?_
    refine a_lmul dX12_digest_15 rfl ?_
    refine a_aload_n dX12_digest_16 rfl ?_
    refine a_iload_n dX12_digest_17 rfl ?_
    refine a_callVi (As := [_]) dX12_digest_18 km_X12_239 ⟨by decide, _, _, _, rfl, rfl⟩ rfl rfl (Nat.le_of_ble_eq_true rfl) ?_
    refine c_tc h (rwR_fr hR hf) (fun I1 hf1 => ?_)
    rw [tcR_fr hf]
    refine a_i2l dX12_digest_21 rfl ?_
    refine a_ladd dX12_digest_22 (show _ = dgF (tcR I0 N n (rbO F T S n N)) 17 (w + 1) from rfl) ?_
    refine a_lstore_n (L' := [_, _, _, _, _]) dX12_digest_23 (Nat.le_of_ble_eq_true rfl) rfl ?_
    refine a_iinc (L' := [_, _, _, _, _]) dX12_digest_24 rfl (nI_inc _) rfl ?_
    refine a_goto (tgt := 6) dX12_digest_27 (by decide) ?_
    exact ih (w + 1) (by omega) (by omega) I1 (frR_tr hf1 hf)

set_option maxHeartbeats 4000000 in
set_option maxRecDepth 100000 in
theorem c_digest {G : am_G} {d : Nat} {I : am_I} {J : am_J} {K : Int64 → am_I → am_J → Prop} {N n : Nat} {F T : Nat → Nat} {S : Nat → Bool} (hR : rwR I (-9) N n F T S) (hd : ∀ l, l < n → I 68 l = 0 ∨ I 68 l = 1) (hsz : ∀ s, s < 4 → I 91 s = -9 ∨ ∃ n, n ≤ 24 ∧ I 91 s = nI n) (hK : ∀ I1, frR I1 I → K (dgR I N n (rbO F T S n N)) I1 J) : CMl G (d + 3) yX12_digest [.ref 63] I J K := by
  refine CM.of (L0 := [_, _, _, _, _]) cX12_digest 5 (some .long) (by decide) (by decide) kcX12_digest (Nat.le_of_ble_eq_true rfl) rfl ?_
  refine a_ldc2 dX12_digest_0 kk_X12_242 rfl ?_
  refine a_lstore_n (L' := [_, _, _, _, _]) dX12_digest_3 (Nat.le_of_ble_eq_true rfl) rfl ?_
  refine a_iconst (v := nI 0) dX12_digest_4 (by decide) ?_
  refine a_istore_n (L' := [_, _, _, _, _]) dX12_digest_5 (Nat.le_of_ble_eq_true rfl) rfl ?_
  refine lp_d1 hR (fun I1 hf => ?_) 0 (by omega) I (fun _ _ _ _ _ => rfl)
  have hd1 : ∀ l, l < n → I1 68 l = 0 ∨ I1 68 l = 1 := fun l hl => by rw [frR_row hf (by decide) (by decide) (by decide)]; exact hd l hl
  have hsz1 : ∀ s, s < 4 → I1 91 s = -9 ∨ ∃ n, n ≤ 24 ∧ I1 91 s = nI n := fun s hs => by rw [frR_row hf (by decide) (by decide) (by decide)]; exact hsz s hs
  obtain ⟨hN, hN2, hb, hn, hn12, r6, r7⟩ := rwR_fr hR hf
  have hk := hK I1 hf
  rw [← dgR_fr hf] at hk
  rw [show dgF (tcR I N n (rbO F T S n N)) 17 5 = dgF (tcR I1 N n (rbO F T S n N)) 17 5 by rw [show tcR I1 N n (rbO F T S n N) = tcR I N n (rbO F T S n N) from funext (tcR_fr hf N n _)]]
  refine a_iconst (v := nI 0) dX12_digest_30 (by decide) ?_
  refine a_istore_n (L' := [_, _, _, _, _]) dX12_digest_31 (Nat.le_of_ble_eq_true rfl) rfl ?_
  refine lp_d2 hn hn12 hd1 (fun v4 => ?_) 0 (by omega) _
  refine a_iconst (v := nI 0) dX12_digest_120 (by decide) ?_
  refine a_istore_n (L' := [_, _, _, _, _]) dX12_digest_121 (Nat.le_of_ble_eq_true rfl) rfl ?_
  refine lp_d3 hN hb (fun v4 => ?_) 0 (by omega) _
  refine a_iconst (v := nI 0) dX12_digest_202 (by decide) ?_
  refine a_istore_n (L' := [_, _, _, _, _]) dX12_digest_203 (Nat.le_of_ble_eq_true rfl) rfl ?_
  exact lp_d5 hsz1 hk 0 (by omega) _

