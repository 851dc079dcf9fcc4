/-! the law: its cases, its loop; by program (wip/whole/gen/law.py) -/
def ixA : List Nat := [0, 1, 2, 3, 4, 5, 6, 7, 8, 9, 10, 11, 12, 13, 14, 15, 16, 17, 18, 19, 20, 21, 22, 23, 24, 25, 26, 27, 28, 29, 30, 31, 32, 33, 34, 35, 36, 37, 38]
def ixB : List Nat := [39, 40, 41, 42, 43, 44, 45, 46, 47, 48]
def ixC : List Nat := [0, 1, 2, 3, 4, 5, 6, 7, 8, 9]
def ixD : List Nat := [10, 11, 12, 13, 14, 15, 16, 17, 18, 19, 20, 21, 22, 23, 24, 25, 26, 27, 28, 29, 30, 31, 32, 33, 34, 35, 36, 37, 38, 39, 40, 41, 42, 43, 44, 45, 46, 47, 48]
theorem la_1 {a b : Nat → Nat} {cI cZ : ClassId} {f g : Sg} : ixA.map (fun i => (cw a cI f ++ rw b cI cZ g)[i]?) = (cw a cI f).map some := rfl
theorem la_2 {a b : Nat → Nat} {cI cZ : ClassId} {f g : Sg} : ixA.filterMap (fun i => (cw a cI f ++ rw b cI cZ g)[i]?) = cw a cI f := rfl
theorem la_3 {a b : Nat → Nat} {cI cZ : ClassId} {f g : Sg} : ixB.map (fun i => (cw a cI f ++ rw b cI cZ g)[i]?) = (rw b cI cZ g).map some := rfl
theorem lb_1 {a b : Nat → Nat} {cI cZ : ClassId} {f g : Sg} : ixC.map (fun i => (rw b cI cZ g ++ cw a cI f)[i]?) = (rw b cI cZ g).map some := rfl
theorem lb_2 {a b : Nat → Nat} {cI cZ : ClassId} {f g : Sg} : ixC.filterMap (fun i => (rw b cI cZ g ++ cw a cI f)[i]?) = rw b cI cZ g := rfl
theorem lb_3 {a b : Nat → Nat} {cI cZ : ClassId} {f g : Sg} : ixD.map (fun i => (rw b cI cZ g ++ cw a cI f)[i]?) = (cw a cI f).map some := rfl
theorem la_4 : va_nd ixA = true := by decide
theorem la_5 : va_nd ixB = true := by decide
theorem la_6 : ∀ i ∈ ixB, i ∉ ixA := by decide
theorem lb_4 : va_nd ixC = true := by decide
theorem lb_5 : va_nd ixD = true := by decide
theorem lb_6 : ∀ i ∈ ixD, i ∉ ixC := by decide
theorem in_sc {i L : Nat} (h : i + 4 ≤ L) (hL : L ≤ 2048) (k : Nat) (hk : k < 4) : vp_in (nI i + nI k) L := by rw [nI_add]; exact vp_in_nI (by omega) (by omega)
theorem in_s0 {i L : Nat} (h : i + 4 ≤ L) (hL : L ≤ 2048) : vp_in (nI i) L := vp_in_nI (by omega) (by omega)
theorem clw_13 : CwV RL 13 yX9_option cX9_option 5 (some .int) 3 RX9 := ⟨⟨tb_282, tb_285, tb_1, by decide +kernel, by decide⟩, tb_283, tb_284⟩
theorem clw_17 : CwV RL 17 yX10_option cX10_option 5 (some .int) 3 RX10 := ⟨⟨tb_670, tb_673, tb_11, by decide +kernel, by decide⟩, tb_671, tb_672⟩
set_option maxHeartbeats 4000000 in
theorem law_option {o : Om} {D : va_G} {cI cZ : ClassId} {k nc ns mc ms : Nat} (C1 : Cn o D [(cI, .int)] RL cL_law k 4 mc ms) (C2 : Cn o D [(cI, .int), (cZ, .boolean)] RL cL_law k 4 mc ms) (hk : 40 ≤ k) (hc : nc ≤ mc) (hs : ns ≤ ms) {s L : Nat} {xs : Nat → Int32} (X : Sx o s L xs) {a b : Nat → Nat} {i : Nat} (hi : i + 4 ≤ L) (hL : L ≤ 2048) {f g : Sg} (I : Inv f g) (K : ∀ f g : Sg, Inv f g → Gn o D nc ns (cw a cI f ++ rw b cI cZ g) 628 [(0, .ref s), (1, .ref (a 0)), (2, .ref (b 0)), (3, .int (nI i))] []) : Gn o D nc ns (cw a cI f ++ rw b cI cZ g) 128 [(0, .ref s), (1, .ref (a 0)), (2, .ref (b 0)), (3, .int (nI i))] [] := by
  refine n_aload_n C1 1 dL_law_128 rfl ?_
  refine n_aload_n C1 0 dL_law_129 rfl ?_
  refine n_iload_n C1 3 dL_law_130 rfl ?_
  refine n_iconst C1 1 dL_law_131 (by decide) ?_
  refine n_iadd C1 dL_law_132 ?_
  refine n_sld C1 X (in_sc hi hL 1 (by decide)) dL_law_133 ?_
  refine n_aload_n C1 0 dL_law_134 rfl ?_
  refine n_iload_n C1 3 dL_law_135 rfl ?_
  refine n_iconst C1 2 dL_law_136 (by decide) ?_
  refine n_iadd C1 dL_law_137 ?_
  refine n_sld C1 X (in_sc hi hL 2 (by decide)) dL_law_138 ?_
  refine n_aload_n C1 0 dL_law_139 rfl ?_
  refine n_iload_n C1 3 dL_law_140 rfl ?_
  refine n_iconst C1 3 dL_law_141 (by decide) ?_
  refine n_iadd C1 dL_law_142 ?_
  refine n_sld C1 X (in_sc hi hL 3 (by decide)) dL_law_143 ?_
  refine n_callVi C1 (cw_fix a cI) (As := [.int (xs (nI i + 1).toNatClampNeg), .int (xs (nI i + 2).toNatClampNeg), .int (xs (nI i + 3).toNatClampNeg)]) (st := []) (wr := rw b cI cZ g) (fun l => c_X9_option_0 l D a cI (st_option I (xs (nI i + 1).toNatClampNeg) (xs (nI i + 2).toNatClampNeg) (xs (nI i + 3).toNatClampNeg))) clw_13 rfl ce_0 ixA ixB la_1 la_2 la_4 la_3 la_5 la_6 (Nat.le_trans (by decide) hk) hc hs rfl (Nat.le_of_ble_eq_true rfl) dL_law_144 (fun r f' h => ?_)
  refine n_aload_n C1 2 dL_law_147 rfl ?_
  refine n_aload_n C1 0 dL_law_148 rfl ?_
  refine n_iload_n C1 3 dL_law_149 rfl ?_
  refine n_iconst C1 1 dL_law_150 (by decide) ?_
  refine n_iadd C1 dL_law_151 ?_
  refine n_sld C1 X (in_sc hi hL 1 (by decide)) dL_law_152 ?_
  refine n_aload_n C1 0 dL_law_153 rfl ?_
  refine n_iload_n C1 3 dL_law_154 rfl ?_
  refine n_iconst C1 2 dL_law_155 (by decide) ?_
  refine n_iadd C1 dL_law_156 ?_
  refine n_sld C1 X (in_sc hi hL 2 (by decide)) dL_law_157 ?_
  refine n_aload_n C1 0 dL_law_158 rfl ?_
  refine n_iload_n C1 3 dL_law_159 rfl ?_
  refine n_iconst C1 3 dL_law_160 (by decide) ?_
  refine n_iadd C1 dL_law_161 ?_
  refine n_sld C1 X (in_sc hi hL 3 (by decide)) dL_law_162 ?_
  refine n_callVi C2 (rw_fix b cI cZ) (As := [.int (xs (nI i + 1).toNatClampNeg), .int (xs (nI i + 2).toNatClampNeg), .int (xs (nI i + 3).toNatClampNeg)]) (st := [.int r]) (wr := cw a cI f') (fun l => c_X10_option_0 l D b cI cZ h) clw_17 rfl re_0 ixC ixD lb_1 lb_2 lb_4 lb_3 lb_5 lb_6 (Nat.le_trans (by decide) hk) hc hs rfl (Nat.le_of_ble_eq_true rfl) dL_law_163 (fun r' g' h => ?_)
  exact n_icmp_eq C1 628 dL_law_166 (by decide) (fun _ => K f' g' h.2) (fun z => absurd h.1 z)
theorem clw_18 : CwV RL 18 yX9_options cX9_options 4 (some .int) 2 RX9 := ⟨⟨tb_309, tb_312, tb_1, by decide +kernel, by decide⟩, tb_310, tb_311⟩
theorem clw_22 : CwV RL 22 yX10_options cX10_options 4 (some .int) 2 RX10 := ⟨⟨tb_680, tb_683, tb_11, by decide +kernel, by decide⟩, tb_681, tb_682⟩
set_option maxHeartbeats 4000000 in
theorem law_options {o : Om} {D : va_G} {cI cZ : ClassId} {k nc ns mc ms : Nat} (C1 : Cn o D [(cI, .int)] RL cL_law k 4 mc ms) (C2 : Cn o D [(cI, .int), (cZ, .boolean)] RL cL_law k 4 mc ms) (hk : 40 ≤ k) (hc : nc ≤ mc) (hs : ns ≤ ms) {s L : Nat} {xs : Nat → Int32} (X : Sx o s L xs) {a b : Nat → Nat} {i : Nat} (hi : i + 4 ≤ L) (hL : L ≤ 2048) {f g : Sg} (I : Inv f g) (K : ∀ f g : Sg, Inv f g → Gn o D nc ns (cw a cI f ++ rw b cI cZ g) 628 [(0, .ref s), (1, .ref (a 0)), (2, .ref (b 0)), (3, .int (nI i))] []) : Gn o D nc ns (cw a cI f ++ rw b cI cZ g) 171 [(0, .ref s), (1, .ref (a 0)), (2, .ref (b 0)), (3, .int (nI i))] [] := by
  refine n_aload_n C1 1 dL_law_171 rfl ?_
  refine n_aload_n C1 0 dL_law_172 rfl ?_
  refine n_iload_n C1 3 dL_law_173 rfl ?_
  refine n_iconst C1 1 dL_law_174 (by decide) ?_
  refine n_iadd C1 dL_law_175 ?_
  refine n_sld C1 X (in_sc hi hL 1 (by decide)) dL_law_176 ?_
  refine n_aload_n C1 0 dL_law_177 rfl ?_
  refine n_iload_n C1 3 dL_law_178 rfl ?_
  refine n_iconst C1 2 dL_law_179 (by decide) ?_
  refine n_iadd C1 dL_law_180 ?_
  refine n_sld C1 X (in_sc hi hL 2 (by decide)) dL_law_181 ?_
  refine n_callVi C1 (cw_fix a cI) (As := [.int (xs (nI i + 1).toNatClampNeg), .int (xs (nI i + 2).toNatClampNeg)]) (st := []) (wr := rw b cI cZ g) (fun l => c_X9_options_0 l D a cI (st_options I (xs (nI i + 1).toNatClampNeg) (xs (nI i + 2).toNatClampNeg))) clw_18 rfl ce_0 ixA ixB la_1 la_2 la_4 la_3 la_5 la_6 (Nat.le_trans (by decide) hk) hc hs rfl (Nat.le_of_ble_eq_true rfl) dL_law_182 (fun r f' h => ?_)
  refine n_aload_n C1 2 dL_law_185 rfl ?_
  refine n_aload_n C1 0 dL_law_186 rfl ?_
  refine n_iload_n C1 3 dL_law_187 rfl ?_
  refine n_iconst C1 1 dL_law_188 (by decide) ?_
  refine n_iadd C1 dL_law_189 ?_
  refine n_sld C1 X (in_sc hi hL 1 (by decide)) dL_law_190 ?_
  refine n_aload_n C1 0 dL_law_191 rfl ?_
  refine n_iload_n C1 3 dL_law_192 rfl ?_
  refine n_iconst C1 2 dL_law_193 (by decide) ?_
  refine n_iadd C1 dL_law_194 ?_
  refine n_sld C1 X (in_sc hi hL 2 (by decide)) dL_law_195 ?_
  refine n_callVi C2 (rw_fix b cI cZ) (As := [.int (xs (nI i + 1).toNatClampNeg), .int (xs (nI i + 2).toNatClampNeg)]) (st := [.int r]) (wr := cw a cI f') (fun l => c_X10_options_0 l D b cI cZ h) clw_22 rfl re_0 ixC ixD lb_1 lb_2 lb_4 lb_3 lb_5 lb_6 (Nat.le_trans (by decide) hk) hc hs rfl (Nat.le_of_ble_eq_true rfl) dL_law_196 (fun r' g' h => ?_)
  exact n_icmp_eq C1 628 dL_law_199 (by decide) (fun _ => K f' g' h.2) (fun z => absurd h.1 z)
theorem clw_23 : CwV RL 23 yX9_demand cX9_demand 4 (some .int) 2 RX9 := ⟨⟨tb_316, tb_319, tb_1, by decide +kernel, by decide⟩, tb_317, tb_318⟩
theorem clw_26 : CwV RL 26 yX10_demand cX10_demand 3 (some .int) 2 RX10 := ⟨⟨tb_687, tb_690, tb_11, by decide +kernel, by decide⟩, tb_688, tb_689⟩
set_option maxHeartbeats 4000000 in
theorem law_demand {o : Om} {D : va_G} {cI cZ : ClassId} {k nc ns mc ms : Nat} (C1 : Cn o D [(cI, .int)] RL cL_law k 4 mc ms) (C2 : Cn o D [(cI, .int), (cZ, .boolean)] RL cL_law k 4 mc ms) (hk : 40 ≤ k) (hc : nc ≤ mc) (hs : ns ≤ ms) {s L : Nat} {xs : Nat → Int32} (X : Sx o s L xs) {a b : Nat → Nat} {i : Nat} (hi : i + 4 ≤ L) (hL : L ≤ 2048) {f g : Sg} (I : Inv f g) (K : ∀ f g : Sg, Inv f g → Gn o D nc ns (cw a cI f ++ rw b cI cZ g) 628 [(0, .ref s), (1, .ref (a 0)), (2, .ref (b 0)), (3, .int (nI i))] []) : Gn o D nc ns (cw a cI f ++ rw b cI cZ g) 204 [(0, .ref s), (1, .ref (a 0)), (2, .ref (b 0)), (3, .int (nI i))] [] := by
  refine n_aload_n C1 1 dL_law_204 rfl ?_
  refine n_aload_n C1 0 dL_law_205 rfl ?_
  refine n_iload_n C1 3 dL_law_206 rfl ?_
  refine n_iconst C1 1 dL_law_207 (by decide) ?_
  refine n_iadd C1 dL_law_208 ?_
  refine n_sld C1 X (in_sc hi hL 1 (by decide)) dL_law_209 ?_
  refine n_aload_n C1 0 dL_law_210 rfl ?_
  refine n_iload_n C1 3 dL_law_211 rfl ?_
  refine n_iconst C1 2 dL_law_212 (by decide) ?_
  refine n_iadd C1 dL_law_213 ?_
  refine n_sld C1 X (in_sc hi hL 2 (by decide)) dL_law_214 ?_
  refine n_callVi C1 (cw_fix a cI) (As := [.int (xs (nI i + 1).toNatClampNeg), .int (xs (nI i + 2).toNatClampNeg)]) (st := []) (wr := rw b cI cZ g) (fun l => c_X9_demand_0 l D a cI (st_demand I (xs (nI i + 1).toNatClampNeg) (xs (nI i + 2).toNatClampNeg))) clw_23 rfl ce_0 ixA ixB la_1 la_2 la_4 la_3 la_5 la_6 (Nat.le_trans (by decide) hk) hc hs rfl (Nat.le_of_ble_eq_true rfl) dL_law_215 (fun r f' h => ?_)
  refine n_aload_n C1 2 dL_law_218 rfl ?_
  refine n_aload_n C1 0 dL_law_219 rfl ?_
  refine n_iload_n C1 3 dL_law_220 rfl ?_
  refine n_iconst C1 1 dL_law_221 (by decide) ?_
  refine n_iadd C1 dL_law_222 ?_
  refine n_sld C1 X (in_sc hi hL 1 (by decide)) dL_law_223 ?_
  refine n_aload_n C1 0 dL_law_224 rfl ?_
  refine n_iload_n C1 3 dL_law_225 rfl ?_
  refine n_iconst C1 2 dL_law_226 (by decide) ?_
  refine n_iadd C1 dL_law_227 ?_
  refine n_sld C1 X (in_sc hi hL 2 (by decide)) dL_law_228 ?_
  refine n_callVi C2 (rw_fix b cI cZ) (As := [.int (xs (nI i + 1).toNatClampNeg), .int (xs (nI i + 2).toNatClampNeg)]) (st := [.int r]) (wr := cw a cI f') (fun l => c_X10_demand_0 l D b cI cZ h) clw_26 rfl re_0 ixC ixD lb_1 lb_2 lb_4 lb_3 lb_5 lb_6 (Nat.le_trans (by decide) hk) hc hs rfl (Nat.le_of_ble_eq_true rfl) dL_law_229 (fun r' g' h => ?_)
  exact n_icmp_eq C1 628 dL_law_232 (by decide) (fun _ => K f' g' h.2) (fun z => absurd h.1 z)
theorem clw_27 : CwV RL 27 yX9_told cX9_told 3 (some .int) 2 RX9 := ⟨⟨tb_324, tb_327, tb_1, by decide +kernel, by decide⟩, tb_325, tb_326⟩
theorem clw_30 : CwV RL 30 yX10_told cX10_told 3 (some .int) 2 RX10 := ⟨⟨tb_695, tb_698, tb_11, by decide +kernel, by decide⟩, tb_696, tb_697⟩
set_option maxHeartbeats 4000000 in
theorem law_told {o : Om} {D : va_G} {cI cZ : ClassId} {k nc ns mc ms : Nat} (C1 : Cn o D [(cI, .int)] RL cL_law k 4 mc ms) (C2 : Cn o D [(cI, .int), (cZ, .boolean)] RL cL_law k 4 mc ms) (hk : 40 ≤ k) (hc : nc ≤ mc) (hs : ns ≤ ms) {s L : Nat} {xs : Nat → Int32} (X : Sx o s L xs) {a b : Nat → Nat} {i : Nat} (hi : i + 4 ≤ L) (hL : L ≤ 2048) {f g : Sg} (I : Inv f g) (K : ∀ f g : Sg, Inv f g → Gn o D nc ns (cw a cI f ++ rw b cI cZ g) 628 [(0, .ref s), (1, .ref (a 0)), (2, .ref (b 0)), (3, .int (nI i))] []) : Gn o D nc ns (cw a cI f ++ rw b cI cZ g) 237 [(0, .ref s), (1, .ref (a 0)), (2, .ref (b 0)), (3, .int (nI i))] [] := by
  refine n_aload_n C1 1 dL_law_237 rfl ?_
  refine n_aload_n C1 0 dL_law_238 rfl ?_
  refine n_iload_n C1 3 dL_law_239 rfl ?_
  refine n_iconst C1 1 dL_law_240 (by decide) ?_
  refine n_iadd C1 dL_law_241 ?_
  refine n_sld C1 X (in_sc hi hL 1 (by decide)) dL_law_242 ?_
  refine n_aload_n C1 0 dL_law_243 rfl ?_
  refine n_iload_n C1 3 dL_law_244 rfl ?_
  refine n_iconst C1 2 dL_law_245 (by decide) ?_
  refine n_iadd C1 dL_law_246 ?_
  refine n_sld C1 X (in_sc hi hL 2 (by decide)) dL_law_247 ?_
  refine n_callVi C1 (cw_fix a cI) (As := [.int (xs (nI i + 1).toNatClampNeg), .int (xs (nI i + 2).toNatClampNeg)]) (st := []) (wr := rw b cI cZ g) (fun l => c_X9_told_0 l D a cI (st_told I (xs (nI i + 1).toNatClampNeg) (xs (nI i + 2).toNatClampNeg))) clw_27 rfl ce_0 ixA ixB la_1 la_2 la_4 la_3 la_5 la_6 (Nat.le_trans (by decide) hk) hc hs rfl (Nat.le_of_ble_eq_true rfl) dL_law_248 (fun r f' h => ?_)
  refine n_aload_n C1 2 dL_law_251 rfl ?_
  refine n_aload_n C1 0 dL_law_252 rfl ?_
  refine n_iload_n C1 3 dL_law_253 rfl ?_
  refine n_iconst C1 1 dL_law_254 (by decide) ?_
  refine n_iadd C1 dL_law_255 ?_
  refine n_sld C1 X (in_sc hi hL 1 (by decide)) dL_law_256 ?_
  refine n_aload_n C1 0 dL_law_257 rfl ?_
  refine n_iload_n C1 3 dL_law_258 rfl ?_
  refine n_iconst C1 2 dL_law_259 (by decide) ?_
  refine n_iadd C1 dL_law_260 ?_
  refine n_sld C1 X (in_sc hi hL 2 (by decide)) dL_law_261 ?_
  refine n_callVi C2 (rw_fix b cI cZ) (As := [.int (xs (nI i + 1).toNatClampNeg), .int (xs (nI i + 2).toNatClampNeg)]) (st := [.int r]) (wr := cw a cI f') (fun l => c_X10_told_0 l D b cI cZ h) clw_30 rfl re_0 ixC ixD lb_1 lb_2 lb_4 lb_3 lb_5 lb_6 (Nat.le_trans (by decide) hk) hc hs rfl (Nat.le_of_ble_eq_true rfl) dL_law_262 (fun r' g' h => ?_)
  exact n_icmp_eq C1 628 dL_law_265 (by decide) (fun _ => K f' g' h.2) (fun z => absurd h.1 z)
theorem clw_31 : CwV RL 31 yX9_of cX9_of 3 (some .int) 2 RX9 := ⟨⟨tb_328, tb_331, tb_1, by decide +kernel, by decide⟩, tb_329, tb_330⟩
theorem clw_34 : CwV RL 34 yX10_of cX10_of 3 (some .int) 2 RX10 := ⟨⟨tb_699, tb_702, tb_11, by decide +kernel, by decide⟩, tb_700, tb_701⟩
set_option maxHeartbeats 4000000 in
theorem law_of {o : Om} {D : va_G} {cI cZ : ClassId} {k nc ns mc ms : Nat} (C1 : Cn o D [(cI, .int)] RL cL_law k 4 mc ms) (C2 : Cn o D [(cI, .int), (cZ, .boolean)] RL cL_law k 4 mc ms) (hk : 40 ≤ k) (hc : nc ≤ mc) (hs : ns ≤ ms) {s L : Nat} {xs : Nat → Int32} (X : Sx o s L xs) {a b : Nat → Nat} {i : Nat} (hi : i + 4 ≤ L) (hL : L ≤ 2048) {f g : Sg} (I : Inv f g) (K : ∀ f g : Sg, Inv f g → Gn o D nc ns (cw a cI f ++ rw b cI cZ g) 628 [(0, .ref s), (1, .ref (a 0)), (2, .ref (b 0)), (3, .int (nI i))] []) : Gn o D nc ns (cw a cI f ++ rw b cI cZ g) 270 [(0, .ref s), (1, .ref (a 0)), (2, .ref (b 0)), (3, .int (nI i))] [] := by
  refine n_aload_n C1 1 dL_law_270 rfl ?_
  refine n_aload_n C1 0 dL_law_271 rfl ?_
  refine n_iload_n C1 3 dL_law_272 rfl ?_
  refine n_iconst C1 1 dL_law_273 (by decide) ?_
  refine n_iadd C1 dL_law_274 ?_
  refine n_sld C1 X (in_sc hi hL 1 (by decide)) dL_law_275 ?_
  refine n_aload_n C1 0 dL_law_276 rfl ?_
  refine n_iload_n C1 3 dL_law_277 rfl ?_
  refine n_iconst C1 2 dL_law_278 (by decide) ?_
  refine n_iadd C1 dL_law_279 ?_
  refine n_sld C1 X (in_sc hi hL 2 (by decide)) dL_law_280 ?_
  refine n_callVi C1 (cw_fix a cI) (As := [.int (xs (nI i + 1).toNatClampNeg), .int (xs (nI i + 2).toNatClampNeg)]) (st := []) (wr := rw b cI cZ g) (fun l => c_X9_of_0 l D a cI (st_of I (xs (nI i + 1).toNatClampNeg) (xs (nI i + 2).toNatClampNeg))) clw_31 rfl ce_0 ixA ixB la_1 la_2 la_4 la_3 la_5 la_6 (Nat.le_trans (by decide) hk) hc hs rfl (Nat.le_of_ble_eq_true rfl) dL_law_281 (fun r f' h => ?_)
  refine n_aload_n C1 2 dL_law_284 rfl ?_
  refine n_aload_n C1 0 dL_law_285 rfl ?_
  refine n_iload_n C1 3 dL_law_286 rfl ?_
  refine n_iconst C1 1 dL_law_287 (by decide) ?_
  refine n_iadd C1 dL_law_288 ?_
  refine n_sld C1 X (in_sc hi hL 1 (by decide)) dL_law_289 ?_
  refine n_aload_n C1 0 dL_law_290 rfl ?_
  refine n_iload_n C1 3 dL_law_291 rfl ?_
  refine n_iconst C1 2 dL_law_292 (by decide) ?_
  refine n_iadd C1 dL_law_293 ?_
  refine n_sld C1 X (in_sc hi hL 2 (by decide)) dL_law_294 ?_
  refine n_callVi C2 (rw_fix b cI cZ) (As := [.int (xs (nI i + 1).toNatClampNeg), .int (xs (nI i + 2).toNatClampNeg)]) (st := [.int r]) (wr := cw a cI f') (fun l => c_X10_of_0 l D b cI cZ h) clw_34 rfl re_0 ixC ixD lb_1 lb_2 lb_4 lb_3 lb_5 lb_6 (Nat.le_trans (by decide) hk) hc hs rfl (Nat.le_of_ble_eq_true rfl) dL_law_295 (fun r' g' h => ?_)
  exact n_icmp_eq C1 628 dL_law_298 (by decide) (fun _ => K f' g' h.2) (fun z => absurd h.1 z)
theorem clw_35 : CwV RL 35 yX9_fits cX9_fits 2 (some .int) 1 RX9 := ⟨⟨tb_344, tb_347, tb_1, by decide +kernel, by decide⟩, tb_345, tb_346⟩
theorem clw_39 : CwV RL 39 yX10_fits cX10_fits 2 (some .int) 1 RX10 := ⟨⟨tb_722, tb_725, tb_11, by decide +kernel, by decide⟩, tb_723, tb_724⟩
set_option maxHeartbeats 4000000 in
theorem law_fits {o : Om} {D : va_G} {cI cZ : ClassId} {k nc ns mc ms : Nat} (C1 : Cn o D [(cI, .int)] RL cL_law k 4 mc ms) (C2 : Cn o D [(cI, .int), (cZ, .boolean)] RL cL_law k 4 mc ms) (hk : 40 ≤ k) (hc : nc ≤ mc) (hs : ns ≤ ms) {s L : Nat} {xs : Nat → Int32} (X : Sx o s L xs) {a b : Nat → Nat} {i : Nat} (hi : i + 4 ≤ L) (hL : L ≤ 2048) {f g : Sg} (I : Inv f g) (K : ∀ f g : Sg, Inv f g → Gn o D nc ns (cw a cI f ++ rw b cI cZ g) 628 [(0, .ref s), (1, .ref (a 0)), (2, .ref (b 0)), (3, .int (nI i))] []) : Gn o D nc ns (cw a cI f ++ rw b cI cZ g) 303 [(0, .ref s), (1, .ref (a 0)), (2, .ref (b 0)), (3, .int (nI i))] [] := by
  refine n_aload_n C1 1 dL_law_303 rfl ?_
  refine n_aload_n C1 0 dL_law_304 rfl ?_
  refine n_iload_n C1 3 dL_law_305 rfl ?_
  refine n_iconst C1 1 dL_law_306 (by decide) ?_
  refine n_iadd C1 dL_law_307 ?_
  refine n_sld C1 X (in_sc hi hL 1 (by decide)) dL_law_308 ?_
  refine n_callVi C1 (cw_fix a cI) (As := [.int (xs (nI i + 1).toNatClampNeg)]) (st := []) (wr := rw b cI cZ g) (fun l => c_X9_fits_0 l D a cI (st_fits I (xs (nI i + 1).toNatClampNeg))) clw_35 rfl ce_0 ixA ixB la_1 la_2 la_4 la_3 la_5 la_6 (Nat.le_trans (by decide) hk) hc hs rfl (Nat.le_of_ble_eq_true rfl) dL_law_309 (fun r f' h => ?_)
  refine n_aload_n C1 2 dL_law_312 rfl ?_
  refine n_aload_n C1 0 dL_law_313 rfl ?_
  refine n_iload_n C1 3 dL_law_314 rfl ?_
  refine n_iconst C1 1 dL_law_315 (by decide) ?_
  refine n_iadd C1 dL_law_316 ?_
  refine n_sld C1 X (in_sc hi hL 1 (by decide)) dL_law_317 ?_
  refine n_callVi C2 (rw_fix b cI cZ) (As := [.int (xs (nI i + 1).toNatClampNeg)]) (st := [.int r]) (wr := cw a cI f') (fun l => c_X10_fits_0 l D b cI cZ h) clw_39 rfl re_0 ixC ixD lb_1 lb_2 lb_4 lb_3 lb_5 lb_6 (Nat.le_trans (by decide) hk) hc hs rfl (Nat.le_of_ble_eq_true rfl) dL_law_318 (fun r' g' h => ?_)
  exact n_icmp_eq C1 628 dL_law_321 (by decide) (fun _ => K f' g' h.2) (fun z => absurd h.1 z)
theorem clw_40 : CwV RL 40 yX9_least cX9_least 2 (some .int) 1 RX9 := ⟨⟨tb_486, tb_489, tb_1, by decide +kernel, by decide⟩, tb_487, tb_488⟩
theorem clw_43 : CwV RL 43 yX10_least cX10_least 2 (some .int) 1 RX10 := ⟨⟨tb_766, tb_769, tb_11, by decide +kernel, by decide⟩, tb_767, tb_768⟩
set_option maxHeartbeats 4000000 in
theorem law_least {o : Om} {D : va_G} {cI cZ : ClassId} {k nc ns mc ms : Nat} (C1 : Cn o D [(cI, .int)] RL cL_law k 4 mc ms) (C2 : Cn o D [(cI, .int), (cZ, .boolean)] RL cL_law k 4 mc ms) (hk : 40 ≤ k) (hc : nc ≤ mc) (hs : ns ≤ ms) {s L : Nat} {xs : Nat → Int32} (X : Sx o s L xs) {a b : Nat → Nat} {i : Nat} (hi : i + 4 ≤ L) (hL : L ≤ 2048) {f g : Sg} (I : Inv f g) (K : ∀ f g : Sg, Inv f g → Gn o D nc ns (cw a cI f ++ rw b cI cZ g) 628 [(0, .ref s), (1, .ref (a 0)), (2, .ref (b 0)), (3, .int (nI i))] []) : Gn o D nc ns (cw a cI f ++ rw b cI cZ g) 326 [(0, .ref s), (1, .ref (a 0)), (2, .ref (b 0)), (3, .int (nI i))] [] := by
  refine n_aload_n C1 1 dL_law_326 rfl ?_
  refine n_aload_n C1 0 dL_law_327 rfl ?_
  refine n_iload_n C1 3 dL_law_328 rfl ?_
  refine n_iconst C1 1 dL_law_329 (by decide) ?_
  refine n_iadd C1 dL_law_330 ?_
  refine n_sld C1 X (in_sc hi hL 1 (by decide)) dL_law_331 ?_
  refine n_callVi C1 (cw_fix a cI) (As := [.int (xs (nI i + 1).toNatClampNeg)]) (st := []) (wr := rw b cI cZ g) (fun l => c_X9_least_0 l D a cI (st_least I (xs (nI i + 1).toNatClampNeg))) clw_40 rfl ce_0 ixA ixB la_1 la_2 la_4 la_3 la_5 la_6 (Nat.le_trans (by decide) hk) hc hs rfl (Nat.le_of_ble_eq_true rfl) dL_law_332 (fun r f' h => ?_)
  refine n_aload_n C1 2 dL_law_335 rfl ?_
  refine n_aload_n C1 0 dL_law_336 rfl ?_
  refine n_iload_n C1 3 dL_law_337 rfl ?_
  refine n_iconst C1 1 dL_law_338 (by decide) ?_
  refine n_iadd C1 dL_law_339 ?_
  refine n_sld C1 X (in_sc hi hL 1 (by decide)) dL_law_340 ?_
  refine n_callVi C2 (rw_fix b cI cZ) (As := [.int (xs (nI i + 1).toNatClampNeg)]) (st := [.int r]) (wr := cw a cI f') (fun l => c_X10_least_0 l D b cI cZ h) clw_43 rfl re_0 ixC ixD lb_1 lb_2 lb_4 lb_3 lb_5 lb_6 (Nat.le_trans (by decide) hk) hc hs rfl (Nat.le_of_ble_eq_true rfl) dL_law_341 (fun r' g' h => ?_)
  exact n_icmp_eq C1 628 dL_law_344 (by decide) (fun _ => K f' g' h.2) (fun z => absurd h.1 z)
theorem clw_44 : CwV RL 44 yX9_clash cX9_clash 3 (some .int) 0 RX9 := ⟨⟨tb_493, tb_496, tb_1, by decide +kernel, by decide⟩, tb_494, tb_495⟩
theorem clw_48 : CwV RL 48 yX10_clash cX10_clash 3 (some .int) 0 RX10 := ⟨⟨tb_718, tb_721, tb_11, by decide +kernel, by decide⟩, tb_719, tb_720⟩
set_option maxHeartbeats 4000000 in
theorem law_clash {o : Om} {D : va_G} {cI cZ : ClassId} {k nc ns mc ms : Nat} (C1 : Cn o D [(cI, .int)] RL cL_law k 4 mc ms) (C2 : Cn o D [(cI, .int), (cZ, .boolean)] RL cL_law k 4 mc ms) (hk : 40 ≤ k) (hc : nc ≤ mc) (hs : ns ≤ ms) {s L : Nat} {xs : Nat → Int32} (X : Sx o s L xs) {a b : Nat → Nat} {i : Nat} (hi : i + 4 ≤ L) (hL : L ≤ 2048) {f g : Sg} (I : Inv f g) (K : ∀ f g : Sg, Inv f g → Gn o D nc ns (cw a cI f ++ rw b cI cZ g) 628 [(0, .ref s), (1, .ref (a 0)), (2, .ref (b 0)), (3, .int (nI i))] []) : Gn o D nc ns (cw a cI f ++ rw b cI cZ g) 349 [(0, .ref s), (1, .ref (a 0)), (2, .ref (b 0)), (3, .int (nI i))] [] := by
  refine n_aload_n C1 1 dL_law_349 rfl ?_
  refine n_callVi C1 (cw_fix a cI) (As := []) (st := []) (wr := rw b cI cZ g) (fun l => c_X9_clash_0 l D a cI (st_clash I)) clw_44 rfl ce_0 ixA ixB la_1 la_2 la_4 la_3 la_5 la_6 (Nat.le_trans (by decide) hk) hc hs rfl (Nat.le_of_ble_eq_true rfl) dL_law_350 (fun r f' h => ?_)
  refine n_aload_n C1 2 dL_law_353 rfl ?_
  refine n_callVi C2 (rw_fix b cI cZ) (As := []) (st := [.int r]) (wr := cw a cI f') (fun l => c_X10_clash_0 l D b cI cZ h) clw_48 rfl re_0 ixC ixD lb_1 lb_2 lb_4 lb_3 lb_5 lb_6 (Nat.le_trans (by decide) hk) hc hs rfl (Nat.le_of_ble_eq_true rfl) dL_law_354 (fun r' g' h => ?_)
  exact n_icmp_eq C1 628 dL_law_357 (by decide) (fun _ => K f' g' h.2) (fun z => absurd h.1 z)
theorem clw_49 : CwV RL 49 yX9_orders cX9_orders 2 (some .int) 1 RX9 := ⟨⟨tb_497, tb_500, tb_1, by decide +kernel, by decide⟩, tb_498, tb_499⟩
theorem clw_52 : CwV RL 52 yX10_orders cX10_orders 2 (some .int) 1 RX10 := ⟨⟨tb_774, tb_777, tb_11, by decide +kernel, by decide⟩, tb_775, tb_776⟩
set_option maxHeartbeats 4000000 in
theorem law_orders {o : Om} {D : va_G} {cI cZ : ClassId} {k nc ns mc ms : Nat} (C1 : Cn o D [(cI, .int)] RL cL_law k 4 mc ms) (C2 : Cn o D [(cI, .int), (cZ, .boolean)] RL cL_law k 4 mc ms) (hk : 40 ≤ k) (hc : nc ≤ mc) (hs : ns ≤ ms) {s L : Nat} {xs : Nat → Int32} (X : Sx o s L xs) {a b : Nat → Nat} {i : Nat} (hi : i + 4 ≤ L) (hL : L ≤ 2048) {f g : Sg} (I : Inv f g) (K : ∀ f g : Sg, Inv f g → Gn o D nc ns (cw a cI f ++ rw b cI cZ g) 628 [(0, .ref s), (1, .ref (a 0)), (2, .ref (b 0)), (3, .int (nI i))] []) : Gn o D nc ns (cw a cI f ++ rw b cI cZ g) 362 [(0, .ref s), (1, .ref (a 0)), (2, .ref (b 0)), (3, .int (nI i))] [] := by
  refine n_aload_n C1 1 dL_law_362 rfl ?_
  refine n_aload_n C1 0 dL_law_363 rfl ?_
  refine n_iload_n C1 3 dL_law_364 rfl ?_
  refine n_iconst C1 1 dL_law_365 (by decide) ?_
  refine n_iadd C1 dL_law_366 ?_
  refine n_sld C1 X (in_sc hi hL 1 (by decide)) dL_law_367 ?_
  refine n_callVi C1 (cw_fix a cI) (As := [.int (xs (nI i + 1).toNatClampNeg)]) (st := []) (wr := rw b cI cZ g) (fun l => c_X9_orders_0 l D a cI (st_orders I (xs (nI i + 1).toNatClampNeg))) clw_49 rfl ce_0 ixA ixB la_1 la_2 la_4 la_3 la_5 la_6 (Nat.le_trans (by decide) hk) hc hs rfl (Nat.le_of_ble_eq_true rfl) dL_law_368 (fun r f' h => ?_)
  refine n_aload_n C1 2 dL_law_371 rfl ?_
  refine n_aload_n C1 0 dL_law_372 rfl ?_
  refine n_iload_n C1 3 dL_law_373 rfl ?_
  refine n_iconst C1 1 dL_law_374 (by decide) ?_
  refine n_iadd C1 dL_law_375 ?_
  refine n_sld C1 X (in_sc hi hL 1 (by decide)) dL_law_376 ?_
  refine n_callVi C2 (rw_fix b cI cZ) (As := [.int (xs (nI i + 1).toNatClampNeg)]) (st := [.int r]) (wr := cw a cI f') (fun l => c_X10_orders_0 l D b cI cZ h) clw_52 rfl re_0 ixC ixD lb_1 lb_2 lb_4 lb_3 lb_5 lb_6 (Nat.le_trans (by decide) hk) hc hs rfl (Nat.le_of_ble_eq_true rfl) dL_law_377 (fun r' g' h => ?_)
  exact n_icmp_eq C1 628 dL_law_380 (by decide) (fun _ => K f' g' h.2) (fun z => absurd h.1 z)
theorem clw_53 : CwV RL 53 yX9_at cX9_at 2 (some .int) 1 RX9 := ⟨⟨tb_508, tb_511, tb_1, by decide +kernel, by decide⟩, tb_509, tb_510⟩
theorem clw_56 : CwV RL 56 yX10_at cX10_at 2 (some .int) 1 RX10 := ⟨⟨tb_762, tb_765, tb_11, by decide +kernel, by decide⟩, tb_763, tb_764⟩
set_option maxHeartbeats 4000000 in
theorem law_at {o : Om} {D : va_G} {cI cZ : ClassId} {k nc ns mc ms : Nat} (C1 : Cn o D [(cI, .int)] RL cL_law k 4 mc ms) (C2 : Cn o D [(cI, .int), (cZ, .boolean)] RL cL_law k 4 mc ms) (hk : 40 ≤ k) (hc : nc ≤ mc) (hs : ns ≤ ms) {s L : Nat} {xs : Nat → Int32} (X : Sx o s L xs) {a b : Nat → Nat} {i : Nat} (hi : i + 4 ≤ L) (hL : L ≤ 2048) {f g : Sg} (I : Inv f g) (K : ∀ f g : Sg, Inv f g → Gn o D nc ns (cw a cI f ++ rw b cI cZ g) 628 [(0, .ref s), (1, .ref (a 0)), (2, .ref (b 0)), (3, .int (nI i))] []) : Gn o D nc ns (cw a cI f ++ rw b cI cZ g) 385 [(0, .ref s), (1, .ref (a 0)), (2, .ref (b 0)), (3, .int (nI i))] [] := by
  refine n_aload_n C1 1 dL_law_385 rfl ?_
  refine n_aload_n C1 0 dL_law_386 rfl ?_
  refine n_iload_n C1 3 dL_law_387 rfl ?_
  refine n_iconst C1 1 dL_law_388 (by decide) ?_
  refine n_iadd C1 dL_law_389 ?_
  refine n_sld C1 X (in_sc hi hL 1 (by decide)) dL_law_390 ?_
  refine n_callVi C1 (cw_fix a cI) (As := [.int (xs (nI i + 1).toNatClampNeg)]) (st := []) (wr := rw b cI cZ g) (fun l => c_X9_at_0 l D a cI (st_at I (xs (nI i + 1).toNatClampNeg))) clw_53 rfl ce_0 ixA ixB la_1 la_2 la_4 la_3 la_5 la_6 (Nat.le_trans (by decide) hk) hc hs rfl (Nat.le_of_ble_eq_true rfl) dL_law_391 (fun r f' h => ?_)
  refine n_aload_n C1 2 dL_law_394 rfl ?_
  refine n_aload_n C1 0 dL_law_395 rfl ?_
  refine n_iload_n C1 3 dL_law_396 rfl ?_
  refine n_iconst C1 1 dL_law_397 (by decide) ?_
  refine n_iadd C1 dL_law_398 ?_
  refine n_sld C1 X (in_sc hi hL 1 (by decide)) dL_law_399 ?_
  refine n_callVi C2 (rw_fix b cI cZ) (As := [.int (xs (nI i + 1).toNatClampNeg)]) (st := [.int r]) (wr := cw a cI f') (fun l => c_X10_at_0 l D b cI cZ h) clw_56 rfl re_0 ixC ixD lb_1 lb_2 lb_4 lb_3 lb_5 lb_6 (Nat.le_trans (by decide) hk) hc hs rfl (Nat.le_of_ble_eq_true rfl) dL_law_400 (fun r' g' h => ?_)
  exact n_icmp_eq C1 628 dL_law_403 (by decide) (fun _ => K f' g' h.2) (fun z => absurd h.1 z)
theorem clw_57 : CwV RL 57 yX9_rule cX9_rule 2 (some .int) 1 RX9 := ⟨⟨tb_512, tb_515, tb_1, by decide +kernel, by decide⟩, tb_513, tb_514⟩
theorem clw_60 : CwV RL 60 yX10_rule cX10_rule 2 (some .int) 1 RX10 := ⟨⟨tb_778, tb_781, tb_11, by decide +kernel, by decide⟩, tb_779, tb_780⟩
set_option maxHeartbeats 4000000 in
theorem law_rule {o : Om} {D : va_G} {cI cZ : ClassId} {k nc ns mc ms : Nat} (C1 : Cn o D [(cI, .int)] RL cL_law k 4 mc ms) (C2 : Cn o D [(cI, .int), (cZ, .boolean)] RL cL_law k 4 mc ms) (hk : 40 ≤ k) (hc : nc ≤ mc) (hs : ns ≤ ms) {s L : Nat} {xs : Nat → Int32} (X : Sx o s L xs) {a b : Nat → Nat} {i : Nat} (hi : i + 4 ≤ L) (hL : L ≤ 2048) {f g : Sg} (I : Inv f g) (K : ∀ f g : Sg, Inv f g → Gn o D nc ns (cw a cI f ++ rw b cI cZ g) 628 [(0, .ref s), (1, .ref (a 0)), (2, .ref (b 0)), (3, .int (nI i))] []) : Gn o D nc ns (cw a cI f ++ rw b cI cZ g) 408 [(0, .ref s), (1, .ref (a 0)), (2, .ref (b 0)), (3, .int (nI i))] [] := by
  refine n_aload_n C1 1 dL_law_408 rfl ?_
  refine n_aload_n C1 0 dL_law_409 rfl ?_
  refine n_iload_n C1 3 dL_law_410 rfl ?_
  refine n_iconst C1 1 dL_law_411 (by decide) ?_
  refine n_iadd C1 dL_law_412 ?_
  refine n_sld C1 X (in_sc hi hL 1 (by decide)) dL_law_413 ?_
  refine n_callVi C1 (cw_fix a cI) (As := [.int (xs (nI i + 1).toNatClampNeg)]) (st := []) (wr := rw b cI cZ g) (fun l => c_X9_rule_0 l D a cI (st_rule I (xs (nI i + 1).toNatClampNeg))) clw_57 rfl ce_0 ixA ixB la_1 la_2 la_4 la_3 la_5 la_6 (Nat.le_trans (by decide) hk) hc hs rfl (Nat.le_of_ble_eq_true rfl) dL_law_414 (fun r f' h => ?_)
  refine n_aload_n C1 2 dL_law_417 rfl ?_
  refine n_aload_n C1 0 dL_law_418 rfl ?_
  refine n_iload_n C1 3 dL_law_419 rfl ?_
  refine n_iconst C1 1 dL_law_420 (by decide) ?_
  refine n_iadd C1 dL_law_421 ?_
  refine n_sld C1 X (in_sc hi hL 1 (by decide)) dL_law_422 ?_
  refine n_callVi C2 (rw_fix b cI cZ) (As := [.int (xs (nI i + 1).toNatClampNeg)]) (st := [.int r]) (wr := cw a cI f') (fun l => c_X10_rule_0 l D b cI cZ h) clw_60 rfl re_0 ixC ixD lb_1 lb_2 lb_4 lb_3 lb_5 lb_6 (Nat.le_trans (by decide) hk) hc hs rfl (Nat.le_of_ble_eq_true rfl) dL_law_423 (fun r' g' h => ?_)
  exact n_icmp_eq C1 628 dL_law_426 (by decide) (fun _ => K f' g' h.2) (fun z => absurd h.1 z)
theorem clw_61 : CwV RL 61 yX9_near cX9_near 2 (some .int) 1 RX9 := ⟨⟨tb_518, tb_521, tb_1, by decide +kernel, by decide⟩, tb_519, tb_520⟩
theorem clw_64 : CwV RL 64 yX10_near cX10_near 5 (some .int) 1 RX10 := ⟨⟨tb_801, tb_804, tb_11, by decide +kernel, by decide⟩, tb_802, tb_803⟩
set_option maxHeartbeats 4000000 in
theorem law_near {o : Om} {D : va_G} {cI cZ : ClassId} {k nc ns mc ms : Nat} (C1 : Cn o D [(cI, .int)] RL cL_law k 4 mc ms) (C2 : Cn o D [(cI, .int), (cZ, .boolean)] RL cL_law k 4 mc ms) (hk : 40 ≤ k) (hc : nc ≤ mc) (hs : ns ≤ ms) {s L : Nat} {xs : Nat → Int32} (X : Sx o s L xs) {a b : Nat → Nat} {i : Nat} (hi : i + 4 ≤ L) (hL : L ≤ 2048) {f g : Sg} (I : Inv f g) (K : ∀ f g : Sg, Inv f g → Gn o D nc ns (cw a cI f ++ rw b cI cZ g) 628 [(0, .ref s), (1, .ref (a 0)), (2, .ref (b 0)), (3, .int (nI i))] []) : Gn o D nc ns (cw a cI f ++ rw b cI cZ g) 431 [(0, .ref s), (1, .ref (a 0)), (2, .ref (b 0)), (3, .int (nI i))] [] := by
  refine n_aload_n C1 1 dL_law_431 rfl ?_
  refine n_aload_n C1 0 dL_law_432 rfl ?_
  refine n_iload_n C1 3 dL_law_433 rfl ?_
  refine n_iconst C1 1 dL_law_434 (by decide) ?_
  refine n_iadd C1 dL_law_435 ?_
  refine n_sld C1 X (in_sc hi hL 1 (by decide)) dL_law_436 ?_
  refine n_callVi C1 (cw_fix a cI) (As := [.int (xs (nI i + 1).toNatClampNeg)]) (st := []) (wr := rw b cI cZ g) (fun l => c_X9_near_0 l D a cI (st_near I (xs (nI i + 1).toNatClampNeg))) clw_61 rfl ce_0 ixA ixB la_1 la_2 la_4 la_3 la_5 la_6 (Nat.le_trans (by decide) hk) hc hs rfl (Nat.le_of_ble_eq_true rfl) dL_law_437 (fun r f' h => ?_)
  refine n_aload_n C1 2 dL_law_440 rfl ?_
  refine n_aload_n C1 0 dL_law_441 rfl ?_
  refine n_iload_n C1 3 dL_law_442 rfl ?_
  refine n_iconst C1 1 dL_law_443 (by decide) ?_
  refine n_iadd C1 dL_law_444 ?_
  refine n_sld C1 X (in_sc hi hL 1 (by decide)) dL_law_445 ?_
  refine n_callVi C2 (rw_fix b cI cZ) (As := [.int (xs (nI i + 1).toNatClampNeg)]) (st := [.int r]) (wr := cw a cI f') (fun l => c_X10_near_0 l D b cI cZ h) clw_64 rfl re_0 ixC ixD lb_1 lb_2 lb_4 lb_3 lb_5 lb_6 (Nat.le_trans (by decide) hk) hc hs rfl (Nat.le_of_ble_eq_true rfl) dL_law_446 (fun r' g' h => ?_)
  exact n_icmp_eq C1 628 dL_law_449 (by decide) (fun _ => K f' g' h.2) (fun z => absurd h.1 z)
theorem clw_65 : CwV RL 65 yX9_say cX9_say 2 (some .int) 1 RX9 := ⟨⟨tb_522, tb_525, tb_1, by decide +kernel, by decide⟩, tb_523, tb_524⟩
theorem clw_68 : CwV RL 68 yX10_say cX10_say 2 (some .int) 1 RX10 := ⟨⟨tb_809, tb_812, tb_11, by decide +kernel, by decide⟩, tb_810, tb_811⟩
set_option maxHeartbeats 4000000 in
theorem law_say {o : Om} {D : va_G} {cI cZ : ClassId} {k nc ns mc ms : Nat} (C1 : Cn o D [(cI, .int)] RL cL_law k 4 mc ms) (C2 : Cn o D [(cI, .int), (cZ, .boolean)] RL cL_law k 4 mc ms) (hk : 40 ≤ k) (hc : nc ≤ mc) (hs : ns ≤ ms) {s L : Nat} {xs : Nat → Int32} (X : Sx o s L xs) {a b : Nat → Nat} {i : Nat} (hi : i + 4 ≤ L) (hL : L ≤ 2048) {f g : Sg} (I : Inv f g) (K : ∀ f g : Sg, Inv f g → Gn o D nc ns (cw a cI f ++ rw b cI cZ g) 628 [(0, .ref s), (1, .ref (a 0)), (2, .ref (b 0)), (3, .int (nI i))] []) : Gn o D nc ns (cw a cI f ++ rw b cI cZ g) 454 [(0, .ref s), (1, .ref (a 0)), (2, .ref (b 0)), (3, .int (nI i))] [] := by
  refine n_aload_n C1 1 dL_law_454 rfl ?_
  refine n_aload_n C1 0 dL_law_455 rfl ?_
  refine n_iload_n C1 3 dL_law_456 rfl ?_
  refine n_iconst C1 1 dL_law_457 (by decide) ?_
  refine n_iadd C1 dL_law_458 ?_
  refine n_sld C1 X (in_sc hi hL 1 (by decide)) dL_law_459 ?_
  refine n_callVi C1 (cw_fix a cI) (As := [.int (xs (nI i + 1).toNatClampNeg)]) (st := []) (wr := rw b cI cZ g) (fun l => c_X9_say_0 l D a cI (st_say I (xs (nI i + 1).toNatClampNeg))) clw_65 rfl ce_0 ixA ixB la_1 la_2 la_4 la_3 la_5 la_6 (Nat.le_trans (by decide) hk) hc hs rfl (Nat.le_of_ble_eq_true rfl) dL_law_460 (fun r f' h => ?_)
  refine n_aload_n C1 2 dL_law_463 rfl ?_
  refine n_aload_n C1 0 dL_law_464 rfl ?_
  refine n_iload_n C1 3 dL_law_465 rfl ?_
  refine n_iconst C1 1 dL_law_466 (by decide) ?_
  refine n_iadd C1 dL_law_467 ?_
  refine n_sld C1 X (in_sc hi hL 1 (by decide)) dL_law_468 ?_
  refine n_callVi C2 (rw_fix b cI cZ) (As := [.int (xs (nI i + 1).toNatClampNeg)]) (st := [.int r]) (wr := cw a cI f') (fun l => c_X10_say_0 l D b cI cZ h) clw_68 rfl re_0 ixC ixD lb_1 lb_2 lb_4 lb_3 lb_5 lb_6 (Nat.le_trans (by decide) hk) hc hs rfl (Nat.le_of_ble_eq_true rfl) dL_law_469 (fun r' g' h => ?_)
  exact n_icmp_eq C1 628 dL_law_472 (by decide) (fun _ => K f' g' h.2) (fun z => absurd h.1 z)
theorem clw_69 : CwV RL 69 yX9_wipe cX9_wipe 2 (some .int) 0 RX9 := ⟨⟨tb_530, tb_533, tb_1, by decide +kernel, by decide⟩, tb_531, tb_532⟩
theorem clw_72 : CwV RL 72 yX10_wipe cX10_wipe 2 (some .int) 0 RX10 := ⟨⟨tb_813, tb_816, tb_11, by decide +kernel, by decide⟩, tb_814, tb_815⟩
set_option maxHeartbeats 4000000 in
theorem law_wipe {o : Om} {D : va_G} {cI cZ : ClassId} {k nc ns mc ms : Nat} (C1 : Cn o D [(cI, .int)] RL cL_law k 4 mc ms) (C2 : Cn o D [(cI, .int), (cZ, .boolean)] RL cL_law k 4 mc ms) (hk : 40 ≤ k) (hc : nc ≤ mc) (hs : ns ≤ ms) {s L : Nat} {xs : Nat → Int32} (X : Sx o s L xs) {a b : Nat → Nat} {i : Nat} (hi : i + 4 ≤ L) (hL : L ≤ 2048) {f g : Sg} (I : Inv f g) (K : ∀ f g : Sg, Inv f g → Gn o D nc ns (cw a cI f ++ rw b cI cZ g) 628 [(0, .ref s), (1, .ref (a 0)), (2, .ref (b 0)), (3, .int (nI i))] []) : Gn o D nc ns (cw a cI f ++ rw b cI cZ g) 477 [(0, .ref s), (1, .ref (a 0)), (2, .ref (b 0)), (3, .int (nI i))] [] := by
  refine n_aload_n C1 1 dL_law_477 rfl ?_
  refine n_callVi C1 (cw_fix a cI) (As := []) (st := []) (wr := rw b cI cZ g) (fun l => c_X9_wipe_0 l D a cI (st_wipe I)) clw_69 rfl ce_0 ixA ixB la_1 la_2 la_4 la_3 la_5 la_6 (Nat.le_trans (by decide) hk) hc hs rfl (Nat.le_of_ble_eq_true rfl) dL_law_478 (fun r f' h => ?_)
  refine n_aload_n C1 2 dL_law_481 rfl ?_
  refine n_callVi C2 (rw_fix b cI cZ) (As := []) (st := [.int r]) (wr := cw a cI f') (fun l => c_X10_wipe_0 l D b cI cZ h) clw_72 rfl re_0 ixC ixD lb_1 lb_2 lb_4 lb_3 lb_5 lb_6 (Nat.le_trans (by decide) hk) hc hs rfl (Nat.le_of_ble_eq_true rfl) dL_law_482 (fun r' g' h => ?_)
  exact n_icmp_eq C1 628 dL_law_485 (by decide) (fun _ => K f' g' h.2) (fun z => absurd h.1 z)
theorem clw_73 : CwV RL 73 yX9_row cX9_row 3 (some .int) 1 RX9 := ⟨⟨tb_534, tb_537, tb_1, by decide +kernel, by decide⟩, tb_535, tb_536⟩
theorem clw_76 : CwV RL 76 yX10_row cX10_row 2 (some .int) 1 RX10 := ⟨⟨tb_817, tb_820, tb_11, by decide +kernel, by decide⟩, tb_818, tb_819⟩
set_option maxHeartbeats 4000000 in
theorem law_row {o : Om} {D : va_G} {cI cZ : ClassId} {k nc ns mc ms : Nat} (C1 : Cn o D [(cI, .int)] RL cL_law k 4 mc ms) (C2 : Cn o D [(cI, .int), (cZ, .boolean)] RL cL_law k 4 mc ms) (hk : 40 ≤ k) (hc : nc ≤ mc) (hs : ns ≤ ms) {s L : Nat} {xs : Nat → Int32} (X : Sx o s L xs) {a b : Nat → Nat} {i : Nat} (hi : i + 4 ≤ L) (hL : L ≤ 2048) {f g : Sg} (I : Inv f g) (K : ∀ f g : Sg, Inv f g → Gn o D nc ns (cw a cI f ++ rw b cI cZ g) 628 [(0, .ref s), (1, .ref (a 0)), (2, .ref (b 0)), (3, .int (nI i))] []) : Gn o D nc ns (cw a cI f ++ rw b cI cZ g) 490 [(0, .ref s), (1, .ref (a 0)), (2, .ref (b 0)), (3, .int (nI i))] [] := by
  refine n_aload_n C1 1 dL_law_490 rfl ?_
  refine n_aload_n C1 0 dL_law_491 rfl ?_
  refine n_iload_n C1 3 dL_law_492 rfl ?_
  refine n_iconst C1 1 dL_law_493 (by decide) ?_
  refine n_iadd C1 dL_law_494 ?_
  refine n_sld C1 X (in_sc hi hL 1 (by decide)) dL_law_495 ?_
  refine n_callVi C1 (cw_fix a cI) (As := [.int (xs (nI i + 1).toNatClampNeg)]) (st := []) (wr := rw b cI cZ g) (fun l => c_X9_row_0 l D a cI (st_row I (xs (nI i + 1).toNatClampNeg))) clw_73 rfl ce_0 ixA ixB la_1 la_2 la_4 la_3 la_5 la_6 (Nat.le_trans (by decide) hk) hc hs rfl (Nat.le_of_ble_eq_true rfl) dL_law_496 (fun r f' h => ?_)
  refine n_aload_n C1 2 dL_law_499 rfl ?_
  refine n_aload_n C1 0 dL_law_500 rfl ?_
  refine n_iload_n C1 3 dL_law_501 rfl ?_
  refine n_iconst C1 1 dL_law_502 (by decide) ?_
  refine n_iadd C1 dL_law_503 ?_
  refine n_sld C1 X (in_sc hi hL 1 (by decide)) dL_law_504 ?_
  refine n_callVi C2 (rw_fix b cI cZ) (As := [.int (xs (nI i + 1).toNatClampNeg)]) (st := [.int r]) (wr := cw a cI f') (fun l => c_X10_row_0 l D b cI cZ h) clw_76 rfl re_0 ixC ixD lb_1 lb_2 lb_4 lb_3 lb_5 lb_6 (Nat.le_trans (by decide) hk) hc hs rfl (Nat.le_of_ble_eq_true rfl) dL_law_505 (fun r' g' h => ?_)
  exact n_icmp_eq C1 628 dL_law_508 (by decide) (fun _ => K f' g' h.2) (fun z => absurd h.1 z)
theorem clw_77 : CwV RL 77 yX9_filled cX9_filled 2 (some .int) 1 RX9 := ⟨⟨tb_558, tb_561, tb_1, by decide +kernel, by decide⟩, tb_559, tb_560⟩
theorem clw_80 : CwV RL 80 yX10_filled cX10_filled 3 (some .int) 1 RX10 := ⟨⟨tb_841, tb_844, tb_11, by decide +kernel, by decide⟩, tb_842, tb_843⟩
set_option maxHeartbeats 4000000 in
theorem law_filled {o : Om} {D : va_G} {cI cZ : ClassId} {k nc ns mc ms : Nat} (C1 : Cn o D [(cI, .int)] RL cL_law k 4 mc ms) (C2 : Cn o D [(cI, .int), (cZ, .boolean)] RL cL_law k 4 mc ms) (hk : 40 ≤ k) (hc : nc ≤ mc) (hs : ns ≤ ms) {s L : Nat} {xs : Nat → Int32} (X : Sx o s L xs) {a b : Nat → Nat} {i : Nat} (hi : i + 4 ≤ L) (hL : L ≤ 2048) {f g : Sg} (I : Inv f g) (K : ∀ f g : Sg, Inv f g → Gn o D nc ns (cw a cI f ++ rw b cI cZ g) 628 [(0, .ref s), (1, .ref (a 0)), (2, .ref (b 0)), (3, .int (nI i))] []) : Gn o D nc ns (cw a cI f ++ rw b cI cZ g) 513 [(0, .ref s), (1, .ref (a 0)), (2, .ref (b 0)), (3, .int (nI i))] [] := by
  refine n_aload_n C1 1 dL_law_513 rfl ?_
  refine n_aload_n C1 0 dL_law_514 rfl ?_
  refine n_iload_n C1 3 dL_law_515 rfl ?_
  refine n_iconst C1 1 dL_law_516 (by decide) ?_
  refine n_iadd C1 dL_law_517 ?_
  refine n_sld C1 X (in_sc hi hL 1 (by decide)) dL_law_518 ?_
  refine n_callVi C1 (cw_fix a cI) (As := [.int (xs (nI i + 1).toNatClampNeg)]) (st := []) (wr := rw b cI cZ g) (fun l => c_X9_filled_0 l D a cI (st_filled I (xs (nI i + 1).toNatClampNeg))) clw_77 rfl ce_0 ixA ixB la_1 la_2 la_4 la_3 la_5 la_6 (Nat.le_trans (by decide) hk) hc hs rfl (Nat.le_of_ble_eq_true rfl) dL_law_519 (fun r f' h => ?_)
  refine n_aload_n C1 2 dL_law_522 rfl ?_
  refine n_aload_n C1 0 dL_law_523 rfl ?_
  refine n_iload_n C1 3 dL_law_524 rfl ?_
  refine n_iconst C1 1 dL_law_525 (by decide) ?_
  refine n_iadd C1 dL_law_526 ?_
  refine n_sld C1 X (in_sc hi hL 1 (by decide)) dL_law_527 ?_
  refine n_callVi C2 (rw_fix b cI cZ) (As := [.int (xs (nI i + 1).toNatClampNeg)]) (st := [.int r]) (wr := cw a cI f') (fun l => c_X10_filled_0 l D b cI cZ h) clw_80 rfl re_0 ixC ixD lb_1 lb_2 lb_4 lb_3 lb_5 lb_6 (Nat.le_trans (by decide) hk) hc hs rfl (Nat.le_of_ble_eq_true rfl) dL_law_528 (fun r' g' h => ?_)
  exact n_icmp_eq C1 628 dL_law_531 (by decide) (fun _ => K f' g' h.2) (fun z => absurd h.1 z)
theorem clw_81 : CwV RL 81 yX9_lane cX9_lane 2 (some .int) 1 RX9 := ⟨⟨tb_565, tb_568, tb_1, by decide +kernel, by decide⟩, tb_566, tb_567⟩
theorem clw_84 : CwV RL 84 yX10_lane cX10_lane 5 (some .int) 1 RX10 := ⟨⟨tb_849, tb_852, tb_11, by decide +kernel, by decide⟩, tb_850, tb_851⟩
set_option maxHeartbeats 4000000 in
theorem law_lane {o : Om} {D : va_G} {cI cZ : ClassId} {k nc ns mc ms : Nat} (C1 : Cn o D [(cI, .int)] RL cL_law k 4 mc ms) (C2 : Cn o D [(cI, .int), (cZ, .boolean)] RL cL_law k 4 mc ms) (hk : 40 ≤ k) (hc : nc ≤ mc) (hs : ns ≤ ms) {s L : Nat} {xs : Nat → Int32} (X : Sx o s L xs) {a b : Nat → Nat} {i : Nat} (hi : i + 4 ≤ L) (hL : L ≤ 2048) {f g : Sg} (I : Inv f g) (K : ∀ f g : Sg, Inv f g → Gn o D nc ns (cw a cI f ++ rw b cI cZ g) 628 [(0, .ref s), (1, .ref (a 0)), (2, .ref (b 0)), (3, .int (nI i))] []) : Gn o D nc ns (cw a cI f ++ rw b cI cZ g) 536 [(0, .ref s), (1, .ref (a 0)), (2, .ref (b 0)), (3, .int (nI i))] [] := by
  refine n_aload_n C1 1 dL_law_536 rfl ?_
  refine n_aload_n C1 0 dL_law_537 rfl ?_
  refine n_iload_n C1 3 dL_law_538 rfl ?_
  refine n_iconst C1 1 dL_law_539 (by decide) ?_
  refine n_iadd C1 dL_law_540 ?_
  refine n_sld C1 X (in_sc hi hL 1 (by decide)) dL_law_541 ?_
  refine n_callVi C1 (cw_fix a cI) (As := [.int (xs (nI i + 1).toNatClampNeg)]) (st := []) (wr := rw b cI cZ g) (fun l => c_X9_lane_0 l D a cI (st_lane I (xs (nI i + 1).toNatClampNeg))) clw_81 rfl ce_0 ixA ixB la_1 la_2 la_4 la_3 la_5 la_6 (Nat.le_trans (by decide) hk) hc hs rfl (Nat.le_of_ble_eq_true rfl) dL_law_542 (fun r f' h => ?_)
  refine n_aload_n C1 2 dL_law_545 rfl ?_
  refine n_aload_n C1 0 dL_law_546 rfl ?_
  refine n_iload_n C1 3 dL_law_547 rfl ?_
  refine n_iconst C1 1 dL_law_548 (by decide) ?_
  refine n_iadd C1 dL_law_549 ?_
  refine n_sld C1 X (in_sc hi hL 1 (by decide)) dL_law_550 ?_
  refine n_callVi C2 (rw_fix b cI cZ) (As := [.int (xs (nI i + 1).toNatClampNeg)]) (st := [.int r]) (wr := cw a cI f') (fun l => c_X10_lane_0 l D b cI cZ h) clw_84 rfl re_0 ixC ixD lb_1 lb_2 lb_4 lb_3 lb_5 lb_6 (Nat.le_trans (by decide) hk) hc hs rfl (Nat.le_of_ble_eq_true rfl) dL_law_551 (fun r' g' h => ?_)
  exact n_icmp_eq C1 628 dL_law_554 (by decide) (fun _ => K f' g' h.2) (fun z => absurd h.1 z)
theorem clw_85 : CwV RL 85 yX9_image cX9_image 2 (some .int) 1 RX9 := ⟨⟨tb_582, tb_585, tb_1, by decide +kernel, by decide⟩, tb_583, tb_584⟩
theorem clw_88 : CwV RL 88 yX10_image cX10_image 3 (some .int) 1 RX10 := ⟨⟨tb_857, tb_860, tb_11, by decide +kernel, by decide⟩, tb_858, tb_859⟩
set_option maxHeartbeats 4000000 in
theorem law_image {o : Om} {D : va_G} {cI cZ : ClassId} {k nc ns mc ms : Nat} (C1 : Cn o D [(cI, .int)] RL cL_law k 4 mc ms) (C2 : Cn o D [(cI, .int), (cZ, .boolean)] RL cL_law k 4 mc ms) (hk : 40 ≤ k) (hc : nc ≤ mc) (hs : ns ≤ ms) {s L : Nat} {xs : Nat → Int32} (X : Sx o s L xs) {a b : Nat → Nat} {i : Nat} (hi : i + 4 ≤ L) (hL : L ≤ 2048) {f g : Sg} (I : Inv f g) (K : ∀ f g : Sg, Inv f g → Gn o D nc ns (cw a cI f ++ rw b cI cZ g) 628 [(0, .ref s), (1, .ref (a 0)), (2, .ref (b 0)), (3, .int (nI i))] []) : Gn o D nc ns (cw a cI f ++ rw b cI cZ g) 559 [(0, .ref s), (1, .ref (a 0)), (2, .ref (b 0)), (3, .int (nI i))] [] := by
  refine n_aload_n C1 1 dL_law_559 rfl ?_
  refine n_aload_n C1 0 dL_law_560 rfl ?_
  refine n_iload_n C1 3 dL_law_561 rfl ?_
  refine n_iconst C1 1 dL_law_562 (by decide) ?_
  refine n_iadd C1 dL_law_563 ?_
  refine n_sld C1 X (in_sc hi hL 1 (by decide)) dL_law_564 ?_
  refine n_callVi C1 (cw_fix a cI) (As := [.int (xs (nI i + 1).toNatClampNeg)]) (st := []) (wr := rw b cI cZ g) (fun l => c_X9_image_0 l D a cI (st_image I (xs (nI i + 1).toNatClampNeg))) clw_85 rfl ce_0 ixA ixB la_1 la_2 la_4 la_3 la_5 la_6 (Nat.le_trans (by decide) hk) hc hs rfl (Nat.le_of_ble_eq_true rfl) dL_law_565 (fun r f' h => ?_)
  refine n_aload_n C1 2 dL_law_568 rfl ?_
  refine n_aload_n C1 0 dL_law_569 rfl ?_
  refine n_iload_n C1 3 dL_law_570 rfl ?_
  refine n_iconst C1 1 dL_law_571 (by decide) ?_
  refine n_iadd C1 dL_law_572 ?_
  refine n_sld C1 X (in_sc hi hL 1 (by decide)) dL_law_573 ?_
  refine n_callVi C2 (rw_fix b cI cZ) (As := [.int (xs (nI i + 1).toNatClampNeg)]) (st := [.int r]) (wr := cw a cI f') (fun l => c_X10_image_0 l D b cI cZ h) clw_88 rfl re_0 ixC ixD lb_1 lb_2 lb_4 lb_3 lb_5 lb_6 (Nat.le_trans (by decide) hk) hc hs rfl (Nat.le_of_ble_eq_true rfl) dL_law_574 (fun r' g' h => ?_)
  exact n_icmp_eq C1 628 dL_law_577 (by decide) (fun _ => K f' g' h.2) (fun z => absurd h.1 z)
theorem clw_89 : CwV RL 89 yX9_restore cX9_restore 2 (some .int) 1 RX9 := ⟨⟨tb_598, tb_601, tb_1, by decide +kernel, by decide⟩, tb_599, tb_600⟩
theorem clw_92 : CwV RL 92 yX10_restore cX10_restore 3 (some .int) 1 RX10 := ⟨⟨tb_861, tb_864, tb_11, by decide +kernel, by decide⟩, tb_862, tb_863⟩
set_option maxHeartbeats 4000000 in
theorem law_restore {o : Om} {D : va_G} {cI cZ : ClassId} {k nc ns mc ms : Nat} (C1 : Cn o D [(cI, .int)] RL cL_law k 4 mc ms) (C2 : Cn o D [(cI, .int), (cZ, .boolean)] RL cL_law k 4 mc ms) (hk : 40 ≤ k) (hc : nc ≤ mc) (hs : ns ≤ ms) {s L : Nat} {xs : Nat → Int32} (X : Sx o s L xs) {a b : Nat → Nat} {i : Nat} (hi : i + 4 ≤ L) (hL : L ≤ 2048) {f g : Sg} (I : Inv f g) (K : ∀ f g : Sg, Inv f g → Gn o D nc ns (cw a cI f ++ rw b cI cZ g) 628 [(0, .ref s), (1, .ref (a 0)), (2, .ref (b 0)), (3, .int (nI i))] []) : Gn o D nc ns (cw a cI f ++ rw b cI cZ g) 582 [(0, .ref s), (1, .ref (a 0)), (2, .ref (b 0)), (3, .int (nI i))] [] := by
  refine n_aload_n C1 1 dL_law_582 rfl ?_
  refine n_aload_n C1 0 dL_law_583 rfl ?_
  refine n_iload_n C1 3 dL_law_584 rfl ?_
  refine n_iconst C1 1 dL_law_585 (by decide) ?_
  refine n_iadd C1 dL_law_586 ?_
  refine n_sld C1 X (in_sc hi hL 1 (by decide)) dL_law_587 ?_
  refine n_callVi C1 (cw_fix a cI) (As := [.int (xs (nI i + 1).toNatClampNeg)]) (st := []) (wr := rw b cI cZ g) (fun l => c_X9_restore_0 l D a cI (st_restore I (xs (nI i + 1).toNatClampNeg))) clw_89 rfl ce_0 ixA ixB la_1 la_2 la_4 la_3 la_5 la_6 (Nat.le_trans (by decide) hk) hc hs rfl (Nat.le_of_ble_eq_true rfl) dL_law_588 (fun r f' h => ?_)
  refine n_aload_n C1 2 dL_law_591 rfl ?_
  refine n_aload_n C1 0 dL_law_592 rfl ?_
  refine n_iload_n C1 3 dL_law_593 rfl ?_
  refine n_iconst C1 1 dL_law_594 (by decide) ?_
  refine n_iadd C1 dL_law_595 ?_
  refine n_sld C1 X (in_sc hi hL 1 (by decide)) dL_law_596 ?_
  refine n_callVi C2 (rw_fix b cI cZ) (As := [.int (xs (nI i + 1).toNatClampNeg)]) (st := [.int r]) (wr := cw a cI f') (fun l => c_X10_restore_0 l D b cI cZ h) clw_92 rfl re_0 ixC ixD lb_1 lb_2 lb_4 lb_3 lb_5 lb_6 (Nat.le_trans (by decide) hk) hc hs rfl (Nat.le_of_ble_eq_true rfl) dL_law_597 (fun r' g' h => ?_)
  exact n_icmp_eq C1 628 dL_law_600 (by decide) (fun _ => K f' g' h.2) (fun z => absurd h.1 z)
theorem clw_93 : CwV RL 93 yX9_count cX9_count 2 (some .int) 1 RX9 := ⟨⟨tb_602, tb_605, tb_1, by decide +kernel, by decide⟩, tb_603, tb_604⟩
theorem clw_96 : CwV RL 96 yX10_count cX10_count 2 (some .int) 1 RX10 := ⟨⟨tb_865, tb_868, tb_11, by decide +kernel, by decide⟩, tb_866, tb_867⟩
set_option maxHeartbeats 4000000 in
theorem law_count {o : Om} {D : va_G} {cI cZ : ClassId} {k nc ns mc ms : Nat} (C1 : Cn o D [(cI, .int)] RL cL_law k 4 mc ms) (C2 : Cn o D [(cI, .int), (cZ, .boolean)] RL cL_law k 4 mc ms) (hk : 40 ≤ k) (hc : nc ≤ mc) (hs : ns ≤ ms) {s L : Nat} {xs : Nat → Int32} (X : Sx o s L xs) {a b : Nat → Nat} {i : Nat} (hi : i + 4 ≤ L) (hL : L ≤ 2048) {f g : Sg} (I : Inv f g) (K : ∀ f g : Sg, Inv f g → Gn o D nc ns (cw a cI f ++ rw b cI cZ g) 628 [(0, .ref s), (1, .ref (a 0)), (2, .ref (b 0)), (3, .int (nI i))] []) : Gn o D nc ns (cw a cI f ++ rw b cI cZ g) 605 [(0, .ref s), (1, .ref (a 0)), (2, .ref (b 0)), (3, .int (nI i))] [] := by
  refine n_aload_n C1 1 dL_law_605 rfl ?_
  refine n_aload_n C1 0 dL_law_606 rfl ?_
  refine n_iload_n C1 3 dL_law_607 rfl ?_
  refine n_iconst C1 1 dL_law_608 (by decide) ?_
  refine n_iadd C1 dL_law_609 ?_
  refine n_sld C1 X (in_sc hi hL 1 (by decide)) dL_law_610 ?_
  refine n_callVi C1 (cw_fix a cI) (As := [.int (xs (nI i + 1).toNatClampNeg)]) (st := []) (wr := rw b cI cZ g) (fun l => c_X9_count_0 l D a cI (st_count I (xs (nI i + 1).toNatClampNeg))) clw_93 rfl ce_0 ixA ixB la_1 la_2 la_4 la_3 la_5 la_6 (Nat.le_trans (by decide) hk) hc hs rfl (Nat.le_of_ble_eq_true rfl) dL_law_611 (fun r f' h => ?_)
  refine n_aload_n C1 2 dL_law_614 rfl ?_
  refine n_aload_n C1 0 dL_law_615 rfl ?_
  refine n_iload_n C1 3 dL_law_616 rfl ?_
  refine n_iconst C1 1 dL_law_617 (by decide) ?_
  refine n_iadd C1 dL_law_618 ?_
  refine n_sld C1 X (in_sc hi hL 1 (by decide)) dL_law_619 ?_
  refine n_callVi C2 (rw_fix b cI cZ) (As := [.int (xs (nI i + 1).toNatClampNeg)]) (st := [.int r]) (wr := cw a cI f') (fun l => c_X10_count_0 l D b cI cZ h) clw_96 rfl re_0 ixC ixD lb_1 lb_2 lb_4 lb_3 lb_5 lb_6 (Nat.le_trans (by decide) hk) hc hs rfl (Nat.le_of_ble_eq_true rfl) dL_law_620 (fun r' g' h => ?_)
  exact n_icmp_eq C1 628 dL_law_623 (by decide) (fun _ => K f' g' h.2) (fun z => absurd h.1 z)
set_option maxHeartbeats 4000000 in
theorem law_step {o : Om} {D : va_G} {cI cZ : ClassId} {k nc ns mc ms : Nat} (C1 : Cn o D [(cI, .int)] RL cL_law k 4 mc ms) (C2 : Cn o D [(cI, .int), (cZ, .boolean)] RL cL_law k 4 mc ms) (hk : 40 ≤ k) (hc : nc ≤ mc) (hs : ns ≤ ms) {s L : Nat} {xs : Nat → Int32} (X : Sx o s L xs) {a b : Nat → Nat} {i : Nat} (hi : i + 4 ≤ L) (hL : L ≤ 2048) {f g : Sg} (I : Inv f g) (K : ∀ f g : Sg, Inv f g → Gn o D nc ns (cw a cI f ++ rw b cI cZ g) 628 [(0, .ref s), (1, .ref (a 0)), (2, .ref (b 0)), (3, .int (nI i))] []) {x : Int32} : Gn o D nc ns (cw a cI f ++ rw b cI cZ g) 32 [(0, .ref s), (1, .ref (a 0)), (2, .ref (b 0)), (3, .int (nI i))] [.int x] := by
  by_cases e0 : x = 0
  · refine n_tsIn C1 128 dL_law_32 (by rw [e0] <;> decide) (by rw [e0] <;> decide) (by rw [e0] <;> rfl) (by decide) ?_
    exact law_option C1 C2 hk hc hs X hi hL I K
  by_cases e1 : x = 1
  · refine n_tsIn C1 171 dL_law_32 (by rw [e1] <;> decide) (by rw [e1] <;> decide) (by rw [e1] <;> rfl) (by decide) ?_
    exact law_options C1 C2 hk hc hs X hi hL I K
  by_cases e2 : x = 2
  · refine n_tsIn C1 204 dL_law_32 (by rw [e2] <;> decide) (by rw [e2] <;> decide) (by rw [e2] <;> rfl) (by decide) ?_
    exact law_demand C1 C2 hk hc hs X hi hL I K
  by_cases e3 : x = 3
  · refine n_tsIn C1 237 dL_law_32 (by rw [e3] <;> decide) (by rw [e3] <;> decide) (by rw [e3] <;> rfl) (by decide) ?_
    exact law_told C1 C2 hk hc hs X hi hL I K
  by_cases e4 : x = 4
  · refine n_tsIn C1 270 dL_law_32 (by rw [e4] <;> decide) (by rw [e4] <;> decide) (by rw [e4] <;> rfl) (by decide) ?_
    exact law_of C1 C2 hk hc hs X hi hL I K
  by_cases e5 : x = 5
  · refine n_tsIn C1 303 dL_law_32 (by rw [e5] <;> decide) (by rw [e5] <;> decide) (by rw [e5] <;> rfl) (by decide) ?_
    exact law_fits C1 C2 hk hc hs X hi hL I K
  by_cases e6 : x = 6
  · refine n_tsIn C1 326 dL_law_32 (by rw [e6] <;> decide) (by rw [e6] <;> decide) (by rw [e6] <;> rfl) (by decide) ?_
    exact law_least C1 C2 hk hc hs X hi hL I K
  by_cases e7 : x = 7
  · refine n_tsIn C1 349 dL_law_32 (by rw [e7] <;> decide) (by rw [e7] <;> decide) (by rw [e7] <;> rfl) (by decide) ?_
    exact law_clash C1 C2 hk hc hs X hi hL I K
  by_cases e8 : x = 8
  · refine n_tsIn C1 362 dL_law_32 (by rw [e8] <;> decide) (by rw [e8] <;> decide) (by rw [e8] <;> rfl) (by decide) ?_
    exact law_orders C1 C2 hk hc hs X hi hL I K
  by_cases e9 : x = 9
  · refine n_tsIn C1 385 dL_law_32 (by rw [e9] <;> decide) (by rw [e9] <;> decide) (by rw [e9] <;> rfl) (by decide) ?_
    exact law_at C1 C2 hk hc hs X hi hL I K
  by_cases e10 : x = 10
  · refine n_tsIn C1 408 dL_law_32 (by rw [e10] <;> decide) (by rw [e10] <;> decide) (by rw [e10] <;> rfl) (by decide) ?_
    exact law_rule C1 C2 hk hc hs X hi hL I K
  by_cases e11 : x = 11
  · refine n_tsIn C1 431 dL_law_32 (by rw [e11] <;> decide) (by rw [e11] <;> decide) (by rw [e11] <;> rfl) (by decide) ?_
    exact law_near C1 C2 hk hc hs X hi hL I K
  by_cases e12 : x = 12
  · refine n_tsIn C1 454 dL_law_32 (by rw [e12] <;> decide) (by rw [e12] <;> decide) (by rw [e12] <;> rfl) (by decide) ?_
    exact law_say C1 C2 hk hc hs X hi hL I K
  by_cases e13 : x = 13
  · refine n_tsIn C1 477 dL_law_32 (by rw [e13] <;> decide) (by rw [e13] <;> decide) (by rw [e13] <;> rfl) (by decide) ?_
    exact law_wipe C1 C2 hk hc hs X hi hL I K
  by_cases e14 : x = 14
  · refine n_tsIn C1 490 dL_law_32 (by rw [e14] <;> decide) (by rw [e14] <;> decide) (by rw [e14] <;> rfl) (by decide) ?_
    exact law_row C1 C2 hk hc hs X hi hL I K
  by_cases e15 : x = 15
  · refine n_tsIn C1 513 dL_law_32 (by rw [e15] <;> decide) (by rw [e15] <;> decide) (by rw [e15] <;> rfl) (by decide) ?_
    exact law_filled C1 C2 hk hc hs X hi hL I K
  by_cases e16 : x = 16
  · refine n_tsIn C1 536 dL_law_32 (by rw [e16] <;> decide) (by rw [e16] <;> decide) (by rw [e16] <;> rfl) (by decide) ?_
    exact law_lane C1 C2 hk hc hs X hi hL I K
  by_cases e17 : x = 17
  · refine n_tsIn C1 559 dL_law_32 (by rw [e17] <;> decide) (by rw [e17] <;> decide) (by rw [e17] <;> rfl) (by decide) ?_
    exact law_image C1 C2 hk hc hs X hi hL I K
  by_cases e18 : x = 18
  · refine n_tsIn C1 582 dL_law_32 (by rw [e18] <;> decide) (by rw [e18] <;> decide) (by rw [e18] <;> rfl) (by decide) ?_
    exact law_restore C1 C2 hk hc hs X hi hL I K
  by_cases e19 : x = 19
  · refine n_tsIn C1 605 dL_law_32 (by rw [e19] <;> decide) (by rw [e19] <;> decide) (by rw [e19] <;> rfl) (by decide) ?_
    exact law_count C1 C2 hk hc hs X hi hL I K
  have q0 : ¬ (x : Int32).toInt = 0 := i32_ne_toInt (c := 0) (by decide) e0
  have q1 : ¬ (x : Int32).toInt = 1 := i32_ne_toInt (c := 1) (by decide) e1
  have q2 : ¬ (x : Int32).toInt = 2 := i32_ne_toInt (c := 2) (by decide) e2
  have q3 : ¬ (x : Int32).toInt = 3 := i32_ne_toInt (c := 3) (by decide) e3
  have q4 : ¬ (x : Int32).toInt = 4 := i32_ne_toInt (c := 4) (by decide) e4
  have q5 : ¬ (x : Int32).toInt = 5 := i32_ne_toInt (c := 5) (by decide) e5
  have q6 : ¬ (x : Int32).toInt = 6 := i32_ne_toInt (c := 6) (by decide) e6
  have q7 : ¬ (x : Int32).toInt = 7 := i32_ne_toInt (c := 7) (by decide) e7
  have q8 : ¬ (x : Int32).toInt = 8 := i32_ne_toInt (c := 8) (by decide) e8
  have q9 : ¬ (x : Int32).toInt = 9 := i32_ne_toInt (c := 9) (by decide) e9
  have q10 : ¬ (x : Int32).toInt = 10 := i32_ne_toInt (c := 10) (by decide) e10
  have q11 : ¬ (x : Int32).toInt = 11 := i32_ne_toInt (c := 11) (by decide) e11
  have q12 : ¬ (x : Int32).toInt = 12 := i32_ne_toInt (c := 12) (by decide) e12
  have q13 : ¬ (x : Int32).toInt = 13 := i32_ne_toInt (c := 13) (by decide) e13
  have q14 : ¬ (x : Int32).toInt = 14 := i32_ne_toInt (c := 14) (by decide) e14
  have q15 : ¬ (x : Int32).toInt = 15 := i32_ne_toInt (c := 15) (by decide) e15
  have q16 : ¬ (x : Int32).toInt = 16 := i32_ne_toInt (c := 16) (by decide) e16
  have q17 : ¬ (x : Int32).toInt = 17 := i32_ne_toInt (c := 17) (by decide) e17
  have q18 : ¬ (x : Int32).toInt = 18 := i32_ne_toInt (c := 18) (by decide) e18
  have q19 : ¬ (x : Int32).toInt = 19 := i32_ne_toInt (c := 19) (by decide) e19
  exact n_tsOut C1 628 dL_law_32 (by omega) (by decide) (K f g I)
theorem sc_end {i L : Nat} (hL : L ≤ 2048) (hi : i ≤ L) (h : ¬ Int32.ofNat L - 4 < nI i) : i + 4 ≤ L := by
  have e1 : Int32.ofNat L - 4 = iI ((L : Int) - 4) := by
    rw [show (4 : Int32) = iI 4 from rfl, show Int32.ofNat L = iI L from rfl, iI_sub]
  rw [e1, iI_nI] at h
  have h2 := Int32.not_lt.mp h
  have h3 := (iI_le (by omega) (by omega) (by omega) (by omega)).mp h2
  omega
set_option maxHeartbeats 4000000 in
theorem law_loop {o : Om} {D : va_G} {cI cZ : ClassId} {k nc ns mc ms : Nat} (C1 : Cn o D [(cI, .int)] RL cL_law k 4 mc ms) (C2 : Cn o D [(cI, .int), (cZ, .boolean)] RL cL_law k 4 mc ms) (hk : 40 ≤ k) (hc : nc ≤ mc) (hs : ns ≤ ms) {s L : Nat} {xs : Nat → Int32} (X : Sx o s L xs) {a b : Nat → Nat} (hL : L ≤ 2048) (E : ∀ (w : va_W) (lv : List (Nat × Value)), Gn o D nc ns w 634 lv []) :
    ∀ (n i : Nat) (f g : Sg), i ≤ L → L + 1 ≤ i + n → Inv f g → Gn o D nc ns (cw a cI f ++ rw b cI cZ g) 18 [(0, .ref s), (1, .ref (a 0)), (2, .ref (b 0)), (3, .int (nI i))] [] := by
  intro n
  induction n with
  | zero => intro i f g h1 h2; exact absurd h2 (by omega)
  | succ n ih =>
    intro i f g hi hin I
    refine n_iload_n C1 3 dL_law_18 rfl ?_
    refine n_aload_n C1 0 dL_law_19 rfl ?_
    refine n_slen C1 X dL_law_20 ?_
    refine n_iconst C1 4 dL_law_21 (by decide) ?_
    refine n_isub C1 dL_law_22 ?_
    refine n_icmp_gt C1 634 dL_law_23 (by decide) (fun _ => E _ _) (fun c => ?_)
    have h4 := sc_end hL hi c
    refine n_aload_n C1 0 dL_law_26 rfl ?_
    refine n_iload_n C1 3 dL_law_27 rfl ?_
    refine n_sld C1 X (in_s0 h4 hL) dL_law_28 ?_
    refine n_bipush C1 31 dL_law_29 (by decide) ?_
    refine n_iand C1 dL_law_31 ?_
    refine law_step C1 C2 hk hc hs X h4 hL I (fun f g I => ?_)
    refine n_iinc (v := nI (i + 4)) (lv' := [(3, .int (nI (i + 4))), (0, .ref s), (1, .ref (a 0)), (2, .ref (b 0))]) C1 3 dL_law_628 rfl (by rw [← nI_add i 4]; rfl) (by decide) rfl ?_
    refine n_goto C1 18 dL_law_631 (by decide) ?_
    exact n_sub [1, 2, 3, 0] rfl (ih (i + 4) f g h4 (by omega) I)
