/-! the law: one call of both -/
section LC
variable {P : kt_P} {np ty : Nat} {PX : Nat → kt_X} {X : kt_X} {tx : Nat → Nat} {I : kt_I} {J : kt_J} {R : kt_R} {Q : Option Value → kt_I → kt_J → kt_R → Prop}
theorem s_law_0 (hLI : kt_LI P np PX X ty tx I J R) {i : Nat} (hi : i + 5 ≤ kt_L P) (hL : kt_L P ≤ 2560) (next : ∀ np PX X ty tx I J R, kt_LI P np PX X ty tx I J R → KW P i_law_law 125 846 [some (.ref (kt_b P)), some (.ref (kt_z P)), some (.ref (kt_z P + 113)), some (.int (nI i))] [] 125 I J R Q) :
    KW P i_law_law 125 144 [some (.ref (kt_b P)), some (.ref (kt_z P)), some (.ref (kt_z P + 113)), some (.int (nI i))] [] 125 I J R Q := by
  obtain ⟨hKS, hMS0, hW, hP⟩ := hLI
  have hn := hW.2.2.1
  have hT5 := hW.2.1
  have hr3 := hW.1
  have hty := hMS0.2.2.2.2.2.1
  refine kw_ald_n x_law_law_144 rfl ?_
  refine c_law_law_145 (by exact kt_kdo (k := 0) rfl (by decide)) (Nat.le_of_ble_eq_true rfl) ?_
  refine s_K_town hKS hW (fun h5 I1 J1 R1 h3 => ?_) (fun h5 I1 J1 R1 h3 => ?_)
  · have hMS := hMS0.up h3.2.1 h3.2.2.2
    obtain ⟨hM, hE, hpa, hbo, hx⟩ := id hMS
    have hnp4 := hpa.2.1
    refine kw_ald_n x_law_law_148 rfl ?_
    refine c_law_law_149 (by exact kt_kdo (k := 113) rfl (by decide)) (Nat.le_of_ble_eq_true rfl) ?_
    refine s_M_town hM hE hW hpa hbo (fun q5 => ?_) (fun q5 I2 hc => ?_)
    · refine kw_ic_eq x_law_law_152 (fun _ => ?_) (fun h => absurd rfl h)
      exact next _ _ _ _ _ _ _ _ (kt_LI.same h3 hMS hW hP)
    · omega
  · have hMS := hMS0.up h3.2.1 h3.2.2.2
    obtain ⟨hM, hE, hpa, hbo, hx⟩ := id hMS
    have hnp4 := hpa.2.1
    refine kw_ald_n x_law_law_148 rfl ?_
    refine c_law_law_149 (by exact kt_kdo (k := 113) rfl (by decide)) (Nat.le_of_ble_eq_true rfl) ?_
    refine s_M_town hM hE hW hpa hbo (fun q5 => ?_) (fun q5 I2 hc => ?_)
    · omega
    · refine kw_ic_eq x_law_law_152 (fun _ => ?_) (fun h => absurd rfl h)
      exact next _ _ _ _ _ _ _ _ (kt_LI.change h3 hMS hc hW hP (kt_wf_town hW h5))
theorem s_law_1 (hLI : kt_LI P np PX X ty tx I J R) {i : Nat} (hi : i + 5 ≤ kt_L P) (hL : kt_L P ≤ 2560) (next : ∀ np PX X ty tx I J R, kt_LI P np PX X ty tx I J R → KW P i_law_law 125 846 [some (.ref (kt_b P)), some (.ref (kt_z P)), some (.ref (kt_z P + 113)), some (.int (nI i))] [] 125 I J R Q) :
    KW P i_law_law 125 157 [some (.ref (kt_b P)), some (.ref (kt_z P)), some (.ref (kt_z P + 113)), some (.int (nI i))] [] 125 I J R Q := by
  obtain ⟨hKS, hMS0, hW, hP⟩ := hLI
  have hn := hW.2.2.1
  have hT5 := hW.2.1
  have hr3 := hW.1
  have hty := hMS0.2.2.2.2.2.1
  refine kw_ald_n x_law_law_157 rfl ?_
  refine kw_ald_n x_law_law_158 rfl ?_
  refine kw_ild_n x_law_law_159 rfl ?_
  refine kw_icon x_law_law_160 ?_
  first | refine kw_iadd_n x_law_law_161 ?_ | refine kw_iadd x_law_law_161 ?_
  refine kw_sld_n x_law_law_162 (by omega) (by omega) ?_
  refine kw_ald_n x_law_law_163 rfl ?_
  refine kw_ild_n x_law_law_164 rfl ?_
  refine kw_icon x_law_law_165 ?_
  first | refine kw_iadd_n x_law_law_166 ?_ | refine kw_iadd x_law_law_166 ?_
  refine kw_sld_n x_law_law_167 (by omega) (by omega) ?_
  refine kw_ald_n x_law_law_168 rfl ?_
  refine kw_ild_n x_law_law_169 rfl ?_
  refine kw_icon x_law_law_170 ?_
  first | refine kw_iadd_n x_law_law_171 ?_ | refine kw_iadd x_law_law_171 ?_
  refine kw_sld_n x_law_law_172 (by omega) (by omega) ?_
  refine c_law_law_173 (by exact kt_kdo (k := 0) rfl (by decide)) (Nat.le_of_ble_eq_true rfl) ?_
  refine s_K_deliver hKS hW (fun hf I1 J1 R1 h3 => ?_) (fun hf h60 I1 J1 R1 h3 => ?_) (fun t g p e1 e2 e3 b1 b2 b3 b4 b5 I1 J1 R1 h3 => ?_)
  · have hMS := hMS0.up h3.2.1 h3.2.2.2
    obtain ⟨hM, hE, hpa, hbo, hx⟩ := id hMS
    have hnp4 := hpa.2.1
    refine kw_ald_n x_law_law_176 rfl ?_
    refine kw_ald_n x_law_law_177 rfl ?_
    refine kw_ild_n x_law_law_178 rfl ?_
    refine kw_icon x_law_law_179 ?_
    first | refine kw_iadd_n x_law_law_180 ?_ | refine kw_iadd x_law_law_180 ?_
    refine kw_sld_n x_law_law_181 (by omega) (by omega) ?_
    refine kw_ald_n x_law_law_182 rfl ?_
    refine kw_ild_n x_law_law_183 rfl ?_
    refine kw_icon x_law_law_184 ?_
    first | refine kw_iadd_n x_law_law_185 ?_ | refine kw_iadd x_law_law_185 ?_
    refine kw_sld_n x_law_law_186 (by omega) (by omega) ?_
    refine kw_ald_n x_law_law_187 rfl ?_
    refine kw_ild_n x_law_law_188 rfl ?_
    refine kw_icon x_law_law_189 ?_
    first | refine kw_iadd_n x_law_law_190 ?_ | refine kw_iadd x_law_law_190 ?_
    refine kw_sld_n x_law_law_191 (by omega) (by omega) ?_
    refine c_law_law_192 (by exact kt_kdo (k := 113) rfl (by decide)) (Nat.le_of_ble_eq_true rfl) ?_
    refine s_M_deliver hM hE hW hpa hbo (fun hfq => ?_) (fun hfq h60q => ?_) (fun tq gq pq e1q e2q e3q b1q b2q b3q b4q b5q I2 hc => ?_)
    · refine kw_ic_eq x_law_law_195 (fun _ => ?_) (fun h => absurd rfl h)
      exact next _ _ _ _ _ _ _ _ (kt_LI.same h3 hMS hW hP)
    · exact absurd hfq hf
    · exact absurd ⟨⟨tq, b1q, e1q⟩, ⟨gq, Nat.zero_le _, b2q, e2q⟩, ⟨pq, b3q, b4q, e3q⟩⟩ hf
  · have hMS := hMS0.up h3.2.1 h3.2.2.2
    obtain ⟨hM, hE, hpa, hbo, hx⟩ := id hMS
    have hnp4 := hpa.2.1
    refine kw_ald_n x_law_law_176 rfl ?_
    refine kw_ald_n x_law_law_177 rfl ?_
    refine kw_ild_n x_law_law_178 rfl ?_
    refine kw_icon x_law_law_179 ?_
    first | refine kw_iadd_n x_law_law_180 ?_ | refine kw_iadd x_law_law_180 ?_
    refine kw_sld_n x_law_law_181 (by omega) (by omega) ?_
    refine kw_ald_n x_law_law_182 rfl ?_
    refine kw_ild_n x_law_law_183 rfl ?_
    refine kw_icon x_law_law_184 ?_
    first | refine kw_iadd_n x_law_law_185 ?_ | refine kw_iadd x_law_law_185 ?_
    refine kw_sld_n x_law_law_186 (by omega) (by omega) ?_
    refine kw_ald_n x_law_law_187 rfl ?_
    refine kw_ild_n x_law_law_188 rfl ?_
    refine kw_icon x_law_law_189 ?_
    first | refine kw_iadd_n x_law_law_190 ?_ | refine kw_iadd x_law_law_190 ?_
    refine kw_sld_n x_law_law_191 (by omega) (by omega) ?_
    refine c_law_law_192 (by exact kt_kdo (k := 113) rfl (by decide)) (Nat.le_of_ble_eq_true rfl) ?_
    refine s_M_deliver hM hE hW hpa hbo (fun hfq => ?_) (fun hfq h60q => ?_) (fun tq gq pq e1q e2q e3q b1q b2q b3q b4q b5q I2 hc => ?_)
    · exact absurd hf hfq
    · refine kw_ic_eq x_law_law_195 (fun _ => ?_) (fun h => absurd rfl h)
      exact next _ _ _ _ _ _ _ _ (kt_LI.same h3 hMS hW hP)
    · omega
  · have hMS := hMS0.up h3.2.1 h3.2.2.2
    obtain ⟨hM, hE, hpa, hbo, hx⟩ := id hMS
    have hnp4 := hpa.2.1
    refine kw_ald_n x_law_law_176 rfl ?_
    refine kw_ald_n x_law_law_177 rfl ?_
    refine kw_ild_n x_law_law_178 rfl ?_
    refine kw_icon x_law_law_179 ?_
    first | refine kw_iadd_n x_law_law_180 ?_ | refine kw_iadd x_law_law_180 ?_
    refine kw_sld_n x_law_law_181 (by omega) (by omega) ?_
    refine kw_ald_n x_law_law_182 rfl ?_
    refine kw_ild_n x_law_law_183 rfl ?_
    refine kw_icon x_law_law_184 ?_
    first | refine kw_iadd_n x_law_law_185 ?_ | refine kw_iadd x_law_law_185 ?_
    refine kw_sld_n x_law_law_186 (by omega) (by omega) ?_
    refine kw_ald_n x_law_law_187 rfl ?_
    refine kw_ild_n x_law_law_188 rfl ?_
    refine kw_icon x_law_law_189 ?_
    first | refine kw_iadd_n x_law_law_190 ?_ | refine kw_iadd x_law_law_190 ?_
    refine kw_sld_n x_law_law_191 (by omega) (by omega) ?_
    refine c_law_law_192 (by exact kt_kdo (k := 113) rfl (by decide)) (Nat.le_of_ble_eq_true rfl) ?_
    refine s_M_deliver hM hE hW hpa hbo (fun hfq => ?_) (fun hfq h60q => ?_) (fun tq gq pq e1q e2q e3q b1q b2q b3q b4q b5q I2 hc => ?_)
    · exact absurd ⟨⟨t, b1, e1⟩, ⟨g, Nat.zero_le _, b2, e2⟩, ⟨p, b3, b4, e3⟩⟩ hfq
    · omega
    · obtain rfl : tq = t := kt_inj (e1.symm.trans e1q) (by omega) (by omega)
      obtain rfl : gq = g := kt_inj (e2.symm.trans e2q) (by omega) (by omega)
      obtain rfl : pq = p := kt_inj (e3.symm.trans e3q) (by omega) (by omega)
      refine kw_ic_eq x_law_law_195 (fun _ => ?_) (fun h => absurd rfl h)
      exact next _ _ _ _ _ _ _ _ (kt_LI.change h3 hMS hc hW hP (kt_wf_apo (kt_wf_new_d hW b1 b2 ⟨b3, b4⟩ (by omega))))
theorem s_law_2 (hLI : kt_LI P np PX X ty tx I J R) {i : Nat} (hi : i + 5 ≤ kt_L P) (hL : kt_L P ≤ 2560) (next : ∀ np PX X ty tx I J R, kt_LI P np PX X ty tx I J R → KW P i_law_law 125 846 [some (.ref (kt_b P)), some (.ref (kt_z P)), some (.ref (kt_z P + 113)), some (.int (nI i))] [] 125 I J R Q) :
    KW P i_law_law 125 200 [some (.ref (kt_b P)), some (.ref (kt_z P)), some (.ref (kt_z P + 113)), some (.int (nI i))] [] 125 I J R Q := by
  obtain ⟨hKS, hMS0, hW, hP⟩ := hLI
  have hn := hW.2.2.1
  have hT5 := hW.2.1
  have hr3 := hW.1
  have hty := hMS0.2.2.2.2.2.1
  refine kw_ald_n x_law_law_200 rfl ?_
  refine kw_ald_n x_law_law_201 rfl ?_
  refine kw_ild_n x_law_law_202 rfl ?_
  refine kw_icon x_law_law_203 ?_
  first | refine kw_iadd_n x_law_law_204 ?_ | refine kw_iadd x_law_law_204 ?_
  refine kw_sld_n x_law_law_205 (by omega) (by omega) ?_
  refine kw_ald_n x_law_law_206 rfl ?_
  refine kw_ild_n x_law_law_207 rfl ?_
  refine kw_icon x_law_law_208 ?_
  first | refine kw_iadd_n x_law_law_209 ?_ | refine kw_iadd x_law_law_209 ?_
  refine kw_sld_n x_law_law_210 (by omega) (by omega) ?_
  refine kw_ald_n x_law_law_211 rfl ?_
  refine kw_ild_n x_law_law_212 rfl ?_
  refine kw_icon x_law_law_213 ?_
  first | refine kw_iadd_n x_law_law_214 ?_ | refine kw_iadd x_law_law_214 ?_
  refine kw_sld_n x_law_law_215 (by omega) (by omega) ?_
  refine kw_ald_n x_law_law_216 rfl ?_
  refine kw_ild_n x_law_law_217 rfl ?_
  refine kw_icon x_law_law_218 ?_
  first | refine kw_iadd_n x_law_law_219 ?_ | refine kw_iadd x_law_law_219 ?_
  refine kw_sld_n x_law_law_220 (by omega) (by omega) ?_
  refine c_law_law_221 (by exact kt_kdo (k := 0) rfl (by decide)) (Nat.le_of_ble_eq_true rfl) ?_
  refine s_K_order hKS hW (fun hf I1 J1 R1 h3 => ?_) (fun hf h60 I1 J1 R1 h3 => ?_) (fun t r g p e1 e0 e2 e3 b1 b0 b2 b3 b4 b5 I1 J1 R1 h3 => ?_)
  · have hMS := hMS0.up h3.2.1 h3.2.2.2
    obtain ⟨hM, hE, hpa, hbo, hx⟩ := id hMS
    have hnp4 := hpa.2.1
    refine kw_ald_n x_law_law_224 rfl ?_
    refine kw_ald_n x_law_law_225 rfl ?_
    refine kw_ild_n x_law_law_226 rfl ?_
    refine kw_icon x_law_law_227 ?_
    first | refine kw_iadd_n x_law_law_228 ?_ | refine kw_iadd x_law_law_228 ?_
    refine kw_sld_n x_law_law_229 (by omega) (by omega) ?_
    refine kw_ald_n x_law_law_230 rfl ?_
    refine kw_ild_n x_law_law_231 rfl ?_
    refine kw_icon x_law_law_232 ?_
    first | refine kw_iadd_n x_law_law_233 ?_ | refine kw_iadd x_law_law_233 ?_
    refine kw_sld_n x_law_law_234 (by omega) (by omega) ?_
    refine kw_ald_n x_law_law_235 rfl ?_
    refine kw_ild_n x_law_law_236 rfl ?_
    refine kw_icon x_law_law_237 ?_
    first | refine kw_iadd_n x_law_law_238 ?_ | refine kw_iadd x_law_law_238 ?_
    refine kw_sld_n x_law_law_239 (by omega) (by omega) ?_
    refine kw_ald_n x_law_law_240 rfl ?_
    refine kw_ild_n x_law_law_241 rfl ?_
    refine kw_icon x_law_law_242 ?_
    first | refine kw_iadd_n x_law_law_243 ?_ | refine kw_iadd x_law_law_243 ?_
    refine kw_sld_n x_law_law_244 (by omega) (by omega) ?_
    refine c_law_law_245 (by exact kt_kdo (k := 113) rfl (by decide)) (Nat.le_of_ble_eq_true rfl) ?_
    refine s_M_order hM hE hW hpa hbo (fun hfq => ?_) (fun hfq h60q => ?_) (fun tq rq gq pq e1q e0q e2q e3q b1q b0q b2q b3q b4q b5q I2 hc => ?_)
    · refine kw_ic_eq x_law_law_248 (fun _ => ?_) (fun h => absurd rfl h)
      exact next _ _ _ _ _ _ _ _ (kt_LI.same h3 hMS hW hP)
    · exact absurd hfq hf
    · exact absurd ⟨⟨tq, b1q, e1q⟩, ⟨rq, Nat.zero_le _, b0q, e0q⟩, ⟨gq, Nat.zero_le _, b2q, e2q⟩, ⟨pq, b3q, b4q, e3q⟩⟩ hf
  · have hMS := hMS0.up h3.2.1 h3.2.2.2
    obtain ⟨hM, hE, hpa, hbo, hx⟩ := id hMS
    have hnp4 := hpa.2.1
    refine kw_ald_n x_law_law_224 rfl ?_
    refine kw_ald_n x_law_law_225 rfl ?_
    refine kw_ild_n x_law_law_226 rfl ?_
    refine kw_icon x_law_law_227 ?_
    first | refine kw_iadd_n x_law_law_228 ?_ | refine kw_iadd x_law_law_228 ?_
    refine kw_sld_n x_law_law_229 (by omega) (by omega) ?_
    refine kw_ald_n x_law_law_230 rfl ?_
    refine kw_ild_n x_law_law_231 rfl ?_
    refine kw_icon x_law_law_232 ?_
    first | refine kw_iadd_n x_law_law_233 ?_ | refine kw_iadd x_law_law_233 ?_
    refine kw_sld_n x_law_law_234 (by omega) (by omega) ?_
    refine kw_ald_n x_law_law_235 rfl ?_
    refine kw_ild_n x_law_law_236 rfl ?_
    refine kw_icon x_law_law_237 ?_
    first | refine kw_iadd_n x_law_law_238 ?_ | refine kw_iadd x_law_law_238 ?_
    refine kw_sld_n x_law_law_239 (by omega) (by omega) ?_
    refine kw_ald_n x_law_law_240 rfl ?_
    refine kw_ild_n x_law_law_241 rfl ?_
    refine kw_icon x_law_law_242 ?_
    first | refine kw_iadd_n x_law_law_243 ?_ | refine kw_iadd x_law_law_243 ?_
    refine kw_sld_n x_law_law_244 (by omega) (by omega) ?_
    refine c_law_law_245 (by exact kt_kdo (k := 113) rfl (by decide)) (Nat.le_of_ble_eq_true rfl) ?_
    refine s_M_order hM hE hW hpa hbo (fun hfq => ?_) (fun hfq h60q => ?_) (fun tq rq gq pq e1q e0q e2q e3q b1q b0q b2q b3q b4q b5q I2 hc => ?_)
    · exact absurd hf hfq
    · refine kw_ic_eq x_law_law_248 (fun _ => ?_) (fun h => absurd rfl h)
      exact next _ _ _ _ _ _ _ _ (kt_LI.same h3 hMS hW hP)
    · omega
  · have hMS := hMS0.up h3.2.1 h3.2.2.2
    obtain ⟨hM, hE, hpa, hbo, hx⟩ := id hMS
    have hnp4 := hpa.2.1
    refine kw_ald_n x_law_law_224 rfl ?_
    refine kw_ald_n x_law_law_225 rfl ?_
    refine kw_ild_n x_law_law_226 rfl ?_
    refine kw_icon x_law_law_227 ?_
    first | refine kw_iadd_n x_law_law_228 ?_ | refine kw_iadd x_law_law_228 ?_
    refine kw_sld_n x_law_law_229 (by omega) (by omega) ?_
    refine kw_ald_n x_law_law_230 rfl ?_
    refine kw_ild_n x_law_law_231 rfl ?_
    refine kw_icon x_law_law_232 ?_
    first | refine kw_iadd_n x_law_law_233 ?_ | refine kw_iadd x_law_law_233 ?_
    refine kw_sld_n x_law_law_234 (by omega) (by omega) ?_
    refine kw_ald_n x_law_law_235 rfl ?_
    refine kw_ild_n x_law_law_236 rfl ?_
    refine kw_icon x_law_law_237 ?_
    first | refine kw_iadd_n x_law_law_238 ?_ | refine kw_iadd x_law_law_238 ?_
    refine kw_sld_n x_law_law_239 (by omega) (by omega) ?_
    refine kw_ald_n x_law_law_240 rfl ?_
    refine kw_ild_n x_law_law_241 rfl ?_
    refine kw_icon x_law_law_242 ?_
    first | refine kw_iadd_n x_law_law_243 ?_ | refine kw_iadd x_law_law_243 ?_
    refine kw_sld_n x_law_law_244 (by omega) (by omega) ?_
    refine c_law_law_245 (by exact kt_kdo (k := 113) rfl (by decide)) (Nat.le_of_ble_eq_true rfl) ?_
    refine s_M_order hM hE hW hpa hbo (fun hfq => ?_) (fun hfq h60q => ?_) (fun tq rq gq pq e1q e0q e2q e3q b1q b0q b2q b3q b4q b5q I2 hc => ?_)
    · exact absurd ⟨⟨t, b1, e1⟩, ⟨r, Nat.zero_le _, b0, e0⟩, ⟨g, Nat.zero_le _, b2, e2⟩, ⟨p, b3, b4, e3⟩⟩ hfq
    · omega
    · obtain rfl : tq = t := kt_inj (e1.symm.trans e1q) (by omega) (by omega)
      obtain rfl : rq = r := kt_inj (e0.symm.trans e0q) (by omega) (by omega)
      obtain rfl : gq = g := kt_inj (e2.symm.trans e2q) (by omega) (by omega)
      obtain rfl : pq = p := kt_inj (e3.symm.trans e3q) (by omega) (by omega)
      refine kw_ic_eq x_law_law_248 (fun _ => ?_) (fun h => absurd rfl h)
      exact next _ _ _ _ _ _ _ _ (kt_LI.change h3 hMS hc hW hP (kt_wf_apo (kt_wf_new_o hW b1 b2 ⟨b3, b4⟩ b0 (by omega))))
theorem s_law_3 (hLI : kt_LI P np PX X ty tx I J R) {i : Nat} (hi : i + 5 ≤ kt_L P) (hL : kt_L P ≤ 2560) (next : ∀ np PX X ty tx I J R, kt_LI P np PX X ty tx I J R → KW P i_law_law 125 846 [some (.ref (kt_b P)), some (.ref (kt_z P)), some (.ref (kt_z P + 113)), some (.int (nI i))] [] 125 I J R Q) :
    KW P i_law_law 125 253 [some (.ref (kt_b P)), some (.ref (kt_z P)), some (.ref (kt_z P + 113)), some (.int (nI i))] [] 125 I J R Q := by
  obtain ⟨hKS, hMS0, hW, hP⟩ := hLI
  have hn := hW.2.2.1
  have hT5 := hW.2.1
  have hr3 := hW.1
  have hty := hMS0.2.2.2.2.2.1
  refine kw_ald_n x_law_law_253 rfl ?_
  refine kw_ald_n x_law_law_254 rfl ?_
  refine kw_ild_n x_law_law_255 rfl ?_
  refine kw_icon x_law_law_256 ?_
  first | refine kw_iadd_n x_law_law_257 ?_ | refine kw_iadd x_law_law_257 ?_
  refine kw_sld_n x_law_law_258 (by omega) (by omega) ?_
  refine kw_ald_n x_law_law_259 rfl ?_
  refine kw_ild_n x_law_law_260 rfl ?_
  refine kw_icon x_law_law_261 ?_
  first | refine kw_iadd_n x_law_law_262 ?_ | refine kw_iadd x_law_law_262 ?_
  refine kw_sld_n x_law_law_263 (by omega) (by omega) ?_
  refine c_law_law_264 (by exact kt_kdo (k := 0) rfl (by decide)) (Nat.le_of_ble_eq_true rfl) ?_
  refine s_K_cancel hKS hW (fun hf I1 J1 R1 h3 => ?_) (fun t e e1 e2 b1 b2 hx0 I1 J1 R1 h3 => ?_) (fun t e e1 e2 b1 b2 hx0 h60 I1 J1 R1 h3 => ?_) (fun t e e1 e2 b1 b2 hx0 h60 I1 J1 R1 h3 => ?_)
  · have hMS := hMS0.up h3.2.1 h3.2.2.2
    obtain ⟨hM, hE, hpa, hbo, hx⟩ := id hMS
    have hnp4 := hpa.2.1
    refine kw_ald_n x_law_law_267 rfl ?_
    refine kw_ald_n x_law_law_268 rfl ?_
    refine kw_ild_n x_law_law_269 rfl ?_
    refine kw_icon x_law_law_270 ?_
    first | refine kw_iadd_n x_law_law_271 ?_ | refine kw_iadd x_law_law_271 ?_
    refine kw_sld_n x_law_law_272 (by omega) (by omega) ?_
    refine kw_ald_n x_law_law_273 rfl ?_
    refine kw_ild_n x_law_law_274 rfl ?_
    refine kw_icon x_law_law_275 ?_
    first | refine kw_iadd_n x_law_law_276 ?_ | refine kw_iadd x_law_law_276 ?_
    refine kw_sld_n x_law_law_277 (by omega) (by omega) ?_
    refine c_law_law_278 (by exact kt_kdo (k := 113) rfl (by decide)) (Nat.le_of_ble_eq_true rfl) ?_
    refine s_M_cancel hM hE hW hpa hbo (fun hfq => ?_) (fun tq eq e1q e2q b1q b2q hx0q => ?_) (fun tq eq e1q e2q b1q b2q hx0q h60q => ?_) (fun tq eq e1q e2q b1q b2q hx0q h60q I2 hc => ?_)
    · refine kw_ic_eq x_law_law_281 (fun _ => ?_) (fun h => absurd rfl h)
      exact next _ _ _ _ _ _ _ _ (kt_LI.same h3 hMS hW hP)
    · exact absurd ⟨⟨tq, b1q, e1q⟩, ⟨eq, b2q, e2q⟩⟩ hf
    · exact absurd ⟨⟨tq, b1q, e1q⟩, ⟨eq, b2q, e2q⟩⟩ hf
    · exact absurd ⟨⟨tq, b1q, e1q⟩, ⟨eq, b2q, e2q⟩⟩ hf
  · have hMS := hMS0.up h3.2.1 h3.2.2.2
    obtain ⟨hM, hE, hpa, hbo, hx⟩ := id hMS
    have hnp4 := hpa.2.1
    refine kw_ald_n x_law_law_267 rfl ?_
    refine kw_ald_n x_law_law_268 rfl ?_
    refine kw_ild_n x_law_law_269 rfl ?_
    refine kw_icon x_law_law_270 ?_
    first | refine kw_iadd_n x_law_law_271 ?_ | refine kw_iadd x_law_law_271 ?_
    refine kw_sld_n x_law_law_272 (by omega) (by omega) ?_
    refine kw_ald_n x_law_law_273 rfl ?_
    refine kw_ild_n x_law_law_274 rfl ?_
    refine kw_icon x_law_law_275 ?_
    first | refine kw_iadd_n x_law_law_276 ?_ | refine kw_iadd x_law_law_276 ?_
    refine kw_sld_n x_law_law_277 (by omega) (by omega) ?_
    refine c_law_law_278 (by exact kt_kdo (k := 113) rfl (by decide)) (Nat.le_of_ble_eq_true rfl) ?_
    refine s_M_cancel hM hE hW hpa hbo (fun hfq => ?_) (fun tq eq e1q e2q b1q b2q hx0q => ?_) (fun tq eq e1q e2q b1q b2q hx0q h60q => ?_) (fun tq eq e1q e2q b1q b2q hx0q h60q I2 hc => ?_)
    · exact absurd ⟨⟨t, b1, e1⟩, ⟨e, b2, e2⟩⟩ hfq
    · obtain rfl : tq = t := kt_inj (e1.symm.trans e1q) (by omega) (by omega)
      obtain rfl : eq = e := kt_inj (e2.symm.trans e2q) (by omega) (by omega)
      refine kw_ic_eq x_law_law_281 (fun _ => ?_) (fun h => absurd rfl h)
      exact next _ _ _ _ _ _ _ _ (kt_LI.same h3 hMS hW hP)
    · obtain rfl : tq = t := kt_inj (e1.symm.trans e1q) (by omega) (by omega)
      obtain rfl : eq = e := kt_inj (e2.symm.trans e2q) (by omega) (by omega)
      exact absurd hx0q hx0
    · obtain rfl : tq = t := kt_inj (e1.symm.trans e1q) (by omega) (by omega)
      obtain rfl : eq = e := kt_inj (e2.symm.trans e2q) (by omega) (by omega)
      exact absurd hx0q hx0
  · have hMS := hMS0.up h3.2.1 h3.2.2.2
    obtain ⟨hM, hE, hpa, hbo, hx⟩ := id hMS
    have hnp4 := hpa.2.1
    refine kw_ald_n x_law_law_267 rfl ?_
    refine kw_ald_n x_law_law_268 rfl ?_
    refine kw_ild_n x_law_law_269 rfl ?_
    refine kw_icon x_law_law_270 ?_
    first | refine kw_iadd_n x_law_law_271 ?_ | refine kw_iadd x_law_law_271 ?_
    refine kw_sld_n x_law_law_272 (by omega) (by omega) ?_
    refine kw_ald_n x_law_law_273 rfl ?_
    refine kw_ild_n x_law_law_274 rfl ?_
    refine kw_icon x_law_law_275 ?_
    first | refine kw_iadd_n x_law_law_276 ?_ | refine kw_iadd x_law_law_276 ?_
    refine kw_sld_n x_law_law_277 (by omega) (by omega) ?_
    refine c_law_law_278 (by exact kt_kdo (k := 113) rfl (by decide)) (Nat.le_of_ble_eq_true rfl) ?_
    refine s_M_cancel hM hE hW hpa hbo (fun hfq => ?_) (fun tq eq e1q e2q b1q b2q hx0q => ?_) (fun tq eq e1q e2q b1q b2q hx0q h60q => ?_) (fun tq eq e1q e2q b1q b2q hx0q h60q I2 hc => ?_)
    · exact absurd ⟨⟨t, b1, e1⟩, ⟨e, b2, e2⟩⟩ hfq
    · obtain rfl : tq = t := kt_inj (e1.symm.trans e1q) (by omega) (by omega)
      obtain rfl : eq = e := kt_inj (e2.symm.trans e2q) (by omega) (by omega)
      exact absurd hx0 hx0q
    · obtain rfl : tq = t := kt_inj (e1.symm.trans e1q) (by omega) (by omega)
      obtain rfl : eq = e := kt_inj (e2.symm.trans e2q) (by omega) (by omega)
      refine kw_ic_eq x_law_law_281 (fun _ => ?_) (fun h => absurd rfl h)
      exact next _ _ _ _ _ _ _ _ (kt_LI.same h3 hMS hW hP)
    · omega
  · have hMS := hMS0.up h3.2.1 h3.2.2.2
    obtain ⟨hM, hE, hpa, hbo, hx⟩ := id hMS
    have hnp4 := hpa.2.1
    refine kw_ald_n x_law_law_267 rfl ?_
    refine kw_ald_n x_law_law_268 rfl ?_
    refine kw_ild_n x_law_law_269 rfl ?_
    refine kw_icon x_law_law_270 ?_
    first | refine kw_iadd_n x_law_law_271 ?_ | refine kw_iadd x_law_law_271 ?_
    refine kw_sld_n x_law_law_272 (by omega) (by omega) ?_
    refine kw_ald_n x_law_law_273 rfl ?_
    refine kw_ild_n x_law_law_274 rfl ?_
    refine kw_icon x_law_law_275 ?_
    first | refine kw_iadd_n x_law_law_276 ?_ | refine kw_iadd x_law_law_276 ?_
    refine kw_sld_n x_law_law_277 (by omega) (by omega) ?_
    refine c_law_law_278 (by exact kt_kdo (k := 113) rfl (by decide)) (Nat.le_of_ble_eq_true rfl) ?_
    refine s_M_cancel hM hE hW hpa hbo (fun hfq => ?_) (fun tq eq e1q e2q b1q b2q hx0q => ?_) (fun tq eq e1q e2q b1q b2q hx0q h60q => ?_) (fun tq eq e1q e2q b1q b2q hx0q h60q I2 hc => ?_)
    · exact absurd ⟨⟨t, b1, e1⟩, ⟨e, b2, e2⟩⟩ hfq
    · obtain rfl : tq = t := kt_inj (e1.symm.trans e1q) (by omega) (by omega)
      obtain rfl : eq = e := kt_inj (e2.symm.trans e2q) (by omega) (by omega)
      exact absurd hx0 hx0q
    · omega
    · obtain rfl : tq = t := kt_inj (e1.symm.trans e1q) (by omega) (by omega)
      obtain rfl : eq = e := kt_inj (e2.symm.trans e2q) (by omega) (by omega)
      refine kw_ic_eq x_law_law_281 (fun _ => ?_) (fun h => absurd rfl h)
      exact next _ _ _ _ _ _ _ _ (kt_LI.change h3 hMS hc hW hP (kt_wf_apo (kt_wf_new_c hW b1 b2 hx0.1 hx0.2.1 (by omega))))
theorem s_law_4 (hLI : kt_LI P np PX X ty tx I J R) {i : Nat} (hi : i + 5 ≤ kt_L P) (hL : kt_L P ≤ 2560) (next : ∀ np PX X ty tx I J R, kt_LI P np PX X ty tx I J R → KW P i_law_law 125 846 [some (.ref (kt_b P)), some (.ref (kt_z P)), some (.ref (kt_z P + 113)), some (.int (nI i))] [] 125 I J R Q) :
    KW P i_law_law 125 286 [some (.ref (kt_b P)), some (.ref (kt_z P)), some (.ref (kt_z P + 113)), some (.int (nI i))] [] 125 I J R Q := by
  obtain ⟨hKS, hMS0, hW, hP⟩ := hLI
  have hn := hW.2.2.1
  have hT5 := hW.2.1
  have hr3 := hW.1
  have hty := hMS0.2.2.2.2.2.1
  refine kw_ald_n x_law_law_286 rfl ?_
  refine kw_ald_n x_law_law_287 rfl ?_
  refine kw_ild_n x_law_law_288 rfl ?_
  refine kw_icon x_law_law_289 ?_
  first | refine kw_iadd_n x_law_law_290 ?_ | refine kw_iadd x_law_law_290 ?_
  refine kw_sld_n x_law_law_291 (by omega) (by omega) ?_
  refine kw_ald_n x_law_law_292 rfl ?_
  refine kw_ild_n x_law_law_293 rfl ?_
  refine kw_icon x_law_law_294 ?_
  first | refine kw_iadd_n x_law_law_295 ?_ | refine kw_iadd x_law_law_295 ?_
  refine kw_sld_n x_law_law_296 (by omega) (by omega) ?_
  refine c_law_law_297 (by exact kt_kdo (k := 0) rfl (by decide)) (Nat.le_of_ble_eq_true rfl) ?_
  refine s_K_meet hKS hW (fun hf I1 J1 R1 h3 => ?_) (fun t w e1 e2 b1 b2 b3 I1 J1 R1 h3 => ?_)
  · have hMS := hMS0.up h3.2.1 h3.2.2.2
    obtain ⟨hM, hE, hpa, hbo, hx⟩ := id hMS
    have hnp4 := hpa.2.1
    refine kw_ald_n x_law_law_300 rfl ?_
    refine kw_ald_n x_law_law_301 rfl ?_
    refine kw_ild_n x_law_law_302 rfl ?_
    refine kw_icon x_law_law_303 ?_
    first | refine kw_iadd_n x_law_law_304 ?_ | refine kw_iadd x_law_law_304 ?_
    refine kw_sld_n x_law_law_305 (by omega) (by omega) ?_
    refine kw_ald_n x_law_law_306 rfl ?_
    refine kw_ild_n x_law_law_307 rfl ?_
    refine kw_icon x_law_law_308 ?_
    first | refine kw_iadd_n x_law_law_309 ?_ | refine kw_iadd x_law_law_309 ?_
    refine kw_sld_n x_law_law_310 (by omega) (by omega) ?_
    refine c_law_law_311 (by exact kt_kdo (k := 113) rfl (by decide)) (Nat.le_of_ble_eq_true rfl) ?_
    refine s_M_meet hM hE hW hpa hbo (fun hfq => ?_) (fun tq wq e1q e2q b1q b2q b3q I2 hc => ?_)
    · refine kw_ic_eq x_law_law_314 (fun _ => ?_) (fun h => absurd rfl h)
      exact next _ _ _ _ _ _ _ _ (kt_LI.same h3 hMS hW hP)
    · exact absurd ⟨⟨tq, b1q, e1q⟩, ⟨wq, b2q, e2q⟩, fun z => b3q (by rw [e1q, e2q] at z; exact (kt_inj z (by omega) (by omega)).symm)⟩ hf
  · have hMS := hMS0.up h3.2.1 h3.2.2.2
    obtain ⟨hM, hE, hpa, hbo, hx⟩ := id hMS
    have hnp4 := hpa.2.1
    refine kw_ald_n x_law_law_300 rfl ?_
    refine kw_ald_n x_law_law_301 rfl ?_
    refine kw_ild_n x_law_law_302 rfl ?_
    refine kw_icon x_law_law_303 ?_
    first | refine kw_iadd_n x_law_law_304 ?_ | refine kw_iadd x_law_law_304 ?_
    refine kw_sld_n x_law_law_305 (by omega) (by omega) ?_
    refine kw_ald_n x_law_law_306 rfl ?_
    refine kw_ild_n x_law_law_307 rfl ?_
    refine kw_icon x_law_law_308 ?_
    first | refine kw_iadd_n x_law_law_309 ?_ | refine kw_iadd x_law_law_309 ?_
    refine kw_sld_n x_law_law_310 (by omega) (by omega) ?_
    refine c_law_law_311 (by exact kt_kdo (k := 113) rfl (by decide)) (Nat.le_of_ble_eq_true rfl) ?_
    refine s_M_meet hM hE hW hpa hbo (fun hfq => ?_) (fun tq wq e1q e2q b1q b2q b3q I2 hc => ?_)
    · exact absurd ⟨⟨t, b1, e1⟩, ⟨w, b2, e2⟩, fun z => b3 (by rw [e1, e2] at z; exact (kt_inj z (by omega) (by omega)).symm)⟩ hfq
    · obtain rfl : tq = t := kt_inj (e1.symm.trans e1q) (by omega) (by omega)
      obtain rfl : wq = w := kt_inj (e2.symm.trans e2q) (by omega) (by omega)
      refine kw_ic_eq x_law_law_314 (fun _ => ?_) (fun h => absurd rfl h)
      exact next _ _ _ _ _ _ _ _ (kt_LI.change h3 hMS hc hW hP (kt_wf_apo (kt_wf_hear hW true b1 b2)))
theorem s_law_5 (hLI : kt_LI P np PX X ty tx I J R) {i : Nat} (hi : i + 5 ≤ kt_L P) (hL : kt_L P ≤ 2560) (next : ∀ np PX X ty tx I J R, kt_LI P np PX X ty tx I J R → KW P i_law_law 125 846 [some (.ref (kt_b P)), some (.ref (kt_z P)), some (.ref (kt_z P + 113)), some (.int (nI i))] [] 125 I J R Q) :
    KW P i_law_law 125 319 [some (.ref (kt_b P)), some (.ref (kt_z P)), some (.ref (kt_z P + 113)), some (.int (nI i))] [] 125 I J R Q := by
  obtain ⟨hKS, hMS0, hW, hP⟩ := hLI
  have hn := hW.2.2.1
  have hT5 := hW.2.1
  have hr3 := hW.1
  have hty := hMS0.2.2.2.2.2.1
  refine kw_ald_n x_law_law_319 rfl ?_
  refine kw_ald_n x_law_law_320 rfl ?_
  refine kw_ild_n x_law_law_321 rfl ?_
  refine kw_icon x_law_law_322 ?_
  first | refine kw_iadd_n x_law_law_323 ?_ | refine kw_iadd x_law_law_323 ?_
  refine kw_sld_n x_law_law_324 (by omega) (by omega) ?_
  refine kw_ald_n x_law_law_325 rfl ?_
  refine kw_ild_n x_law_law_326 rfl ?_
  refine kw_icon x_law_law_327 ?_
  first | refine kw_iadd_n x_law_law_328 ?_ | refine kw_iadd x_law_law_328 ?_
  refine kw_sld_n x_law_law_329 (by omega) (by omega) ?_
  refine c_law_law_330 (by exact kt_kdo (k := 0) rfl (by decide)) (Nat.le_of_ble_eq_true rfl) ?_
  refine s_K_hear hKS hW (fun hf I1 J1 R1 h3 => ?_) (fun t w e1 e2 b1 b2 b3 I1 J1 R1 h3 => ?_)
  · have hMS := hMS0.up h3.2.1 h3.2.2.2
    obtain ⟨hM, hE, hpa, hbo, hx⟩ := id hMS
    have hnp4 := hpa.2.1
    refine kw_ald_n x_law_law_333 rfl ?_
    refine kw_ald_n x_law_law_334 rfl ?_
    refine kw_ild_n x_law_law_335 rfl ?_
    refine kw_icon x_law_law_336 ?_
    first | refine kw_iadd_n x_law_law_337 ?_ | refine kw_iadd x_law_law_337 ?_
    refine kw_sld_n x_law_law_338 (by omega) (by omega) ?_
    refine kw_ald_n x_law_law_339 rfl ?_
    refine kw_ild_n x_law_law_340 rfl ?_
    refine kw_icon x_law_law_341 ?_
    first | refine kw_iadd_n x_law_law_342 ?_ | refine kw_iadd x_law_law_342 ?_
    refine kw_sld_n x_law_law_343 (by omega) (by omega) ?_
    refine c_law_law_344 (by exact kt_kdo (k := 113) rfl (by decide)) (Nat.le_of_ble_eq_true rfl) ?_
    refine s_M_hear hM hE hW hpa hbo (fun hfq => ?_) (fun tq wq e1q e2q b1q b2q b3q I2 hc => ?_)
    · refine kw_ic_eq x_law_law_347 (fun _ => ?_) (fun h => absurd rfl h)
      exact next _ _ _ _ _ _ _ _ (kt_LI.same h3 hMS hW hP)
    · exact absurd ⟨⟨tq, b1q, e1q⟩, ⟨wq, b2q, e2q⟩, fun z => b3q (by rw [e1q, e2q] at z; exact (kt_inj z (by omega) (by omega)).symm)⟩ hf
  · have hMS := hMS0.up h3.2.1 h3.2.2.2
    obtain ⟨hM, hE, hpa, hbo, hx⟩ := id hMS
    have hnp4 := hpa.2.1
    refine kw_ald_n x_law_law_333 rfl ?_
    refine kw_ald_n x_law_law_334 rfl ?_
    refine kw_ild_n x_law_law_335 rfl ?_
    refine kw_icon x_law_law_336 ?_
    first | refine kw_iadd_n x_law_law_337 ?_ | refine kw_iadd x_law_law_337 ?_
    refine kw_sld_n x_law_law_338 (by omega) (by omega) ?_
    refine kw_ald_n x_law_law_339 rfl ?_
    refine kw_ild_n x_law_law_340 rfl ?_
    refine kw_icon x_law_law_341 ?_
    first | refine kw_iadd_n x_law_law_342 ?_ | refine kw_iadd x_law_law_342 ?_
    refine kw_sld_n x_law_law_343 (by omega) (by omega) ?_
    refine c_law_law_344 (by exact kt_kdo (k := 113) rfl (by decide)) (Nat.le_of_ble_eq_true rfl) ?_
    refine s_M_hear hM hE hW hpa hbo (fun hfq => ?_) (fun tq wq e1q e2q b1q b2q b3q I2 hc => ?_)
    · exact absurd ⟨⟨t, b1, e1⟩, ⟨w, b2, e2⟩, fun z => b3 (by rw [e1, e2] at z; exact (kt_inj z (by omega) (by omega)).symm)⟩ hfq
    · obtain rfl : tq = t := kt_inj (e1.symm.trans e1q) (by omega) (by omega)
      obtain rfl : wq = w := kt_inj (e2.symm.trans e2q) (by omega) (by omega)
      refine kw_ic_eq x_law_law_347 (fun _ => ?_) (fun h => absurd rfl h)
      exact next _ _ _ _ _ _ _ _ (kt_LI.change h3 hMS hc hW hP (kt_wf_apo (kt_wf_hear hW false b1 b2)))
theorem s_law_6 (hLI : kt_LI P np PX X ty tx I J R) {i : Nat} (hi : i + 5 ≤ kt_L P) (hL : kt_L P ≤ 2560) (next : ∀ np PX X ty tx I J R, kt_LI P np PX X ty tx I J R → KW P i_law_law 125 846 [some (.ref (kt_b P)), some (.ref (kt_z P)), some (.ref (kt_z P + 113)), some (.int (nI i))] [] 125 I J R Q) :
    KW P i_law_law 125 352 [some (.ref (kt_b P)), some (.ref (kt_z P)), some (.ref (kt_z P + 113)), some (.int (nI i))] [] 125 I J R Q := by
  obtain ⟨hKS, hMS0, hW, hP⟩ := hLI
  have hn := hW.2.2.1
  have hT5 := hW.2.1
  have hr3 := hW.1
  have hty := hMS0.2.2.2.2.2.1
  refine kw_ald_n x_law_law_352 rfl ?_
  refine kw_ald_n x_law_law_353 rfl ?_
  refine kw_ild_n x_law_law_354 rfl ?_
  refine kw_icon x_law_law_355 ?_
  first | refine kw_iadd_n x_law_law_356 ?_ | refine kw_iadd x_law_law_356 ?_
  refine kw_sld_n x_law_law_357 (by omega) (by omega) ?_
  refine c_law_law_358 (by exact kt_kdo (k := 0) rfl (by decide)) (Nat.le_of_ble_eq_true rfl) ?_
  refine s_K_rule hKS hW (fun hf I1 J1 R1 h3 => ?_) (fun r e1 b1 I1 J1 R1 h3 => ?_)
  · have hMS := hMS0.up h3.2.1 h3.2.2.2
    obtain ⟨hM, hE, hpa, hbo, hx⟩ := id hMS
    have hnp4 := hpa.2.1
    refine kw_ald_n x_law_law_361 rfl ?_
    refine kw_ald_n x_law_law_362 rfl ?_
    refine kw_ild_n x_law_law_363 rfl ?_
    refine kw_icon x_law_law_364 ?_
    first | refine kw_iadd_n x_law_law_365 ?_ | refine kw_iadd x_law_law_365 ?_
    refine kw_sld_n x_law_law_366 (by omega) (by omega) ?_
    refine c_law_law_367 (by exact kt_kdo (k := 113) rfl (by decide)) (Nat.le_of_ble_eq_true rfl) ?_
    refine s_M_rule hM hE hW hpa hbo (fun hfq => ?_) (fun rq e1q b1q I2 hc => ?_)
    · refine kw_ic_eq x_law_law_370 (fun _ => ?_) (fun h => absurd rfl h)
      exact next _ _ _ _ _ _ _ _ (kt_LI.same h3 hMS hW hP)
    · exact absurd ⟨rq, Nat.zero_le _, b1q, e1q⟩ hf
  · have hMS := hMS0.up h3.2.1 h3.2.2.2
    obtain ⟨hM, hE, hpa, hbo, hx⟩ := id hMS
    have hnp4 := hpa.2.1
    refine kw_ald_n x_law_law_361 rfl ?_
    refine kw_ald_n x_law_law_362 rfl ?_
    refine kw_ild_n x_law_law_363 rfl ?_
    refine kw_icon x_law_law_364 ?_
    first | refine kw_iadd_n x_law_law_365 ?_ | refine kw_iadd x_law_law_365 ?_
    refine kw_sld_n x_law_law_366 (by omega) (by omega) ?_
    refine c_law_law_367 (by exact kt_kdo (k := 113) rfl (by decide)) (Nat.le_of_ble_eq_true rfl) ?_
    refine s_M_rule hM hE hW hpa hbo (fun hfq => ?_) (fun rq e1q b1q I2 hc => ?_)
    · exact absurd ⟨r, Nat.zero_le _, b1, e1⟩ hfq
    · obtain rfl : rq = r := kt_inj (e1.symm.trans e1q) (by omega) (by omega)
      refine kw_ic_eq x_law_law_370 (fun _ => ?_) (fun h => absurd rfl h)
      exact next _ _ _ _ _ _ _ _ (kt_LI.change h3 hMS hc hW hP (kt_wf_apo (kt_wf_rule hW (by omega))))
theorem s_law_7 (hLI : kt_LI P np PX X ty tx I J R) {i : Nat} (hi : i + 5 ≤ kt_L P) (hL : kt_L P ≤ 2560) (next : ∀ np PX X ty tx I J R, kt_LI P np PX X ty tx I J R → KW P i_law_law 125 846 [some (.ref (kt_b P)), some (.ref (kt_z P)), some (.ref (kt_z P + 113)), some (.int (nI i))] [] 125 I J R Q) :
    KW P i_law_law 125 375 [some (.ref (kt_b P)), some (.ref (kt_z P)), some (.ref (kt_z P + 113)), some (.int (nI i))] [] 125 I J R Q := by
  obtain ⟨hKS, hMS0, hW, hP⟩ := hLI
  have hn := hW.2.2.1
  have hT5 := hW.2.1
  have hr3 := hW.1
  have hty := hMS0.2.2.2.2.2.1
  refine kw_ald_n x_law_law_375 rfl ?_
  refine kw_ald_n x_law_law_376 rfl ?_
  refine kw_ild_n x_law_law_377 rfl ?_
  refine kw_icon x_law_law_378 ?_
  first | refine kw_iadd_n x_law_law_379 ?_ | refine kw_iadd x_law_law_379 ?_
  refine kw_sld_n x_law_law_380 (by omega) (by omega) ?_
  refine kw_ald_n x_law_law_381 rfl ?_
  refine kw_ild_n x_law_law_382 rfl ?_
  refine kw_icon x_law_law_383 ?_
  first | refine kw_iadd_n x_law_law_384 ?_ | refine kw_iadd x_law_law_384 ?_
  refine kw_sld_n x_law_law_385 (by omega) (by omega) ?_
  refine c_law_law_386 (by exact kt_kdo (k := 0) rfl (by decide)) (Nat.le_of_ble_eq_true rfl) ?_
  refine s_K_eventOf hKS hW (fun hf => ?_) (fun e f e1 e2 b1 b2 => ?_)
  · have h3 := kt_ok.rf hKS
    have hMS := hMS0.up h3.2.1 h3.2.2.2
    obtain ⟨hM, hE, hpa, hbo, hx⟩ := id hMS
    have hnp4 := hpa.2.1
    refine kw_ald_n x_law_law_389 rfl ?_
    refine kw_ald_n x_law_law_390 rfl ?_
    refine kw_ild_n x_law_law_391 rfl ?_
    refine kw_icon x_law_law_392 ?_
    first | refine kw_iadd_n x_law_law_393 ?_ | refine kw_iadd x_law_law_393 ?_
    refine kw_sld_n x_law_law_394 (by omega) (by omega) ?_
    refine kw_ald_n x_law_law_395 rfl ?_
    refine kw_ild_n x_law_law_396 rfl ?_
    refine kw_icon x_law_law_397 ?_
    first | refine kw_iadd_n x_law_law_398 ?_ | refine kw_iadd x_law_law_398 ?_
    refine kw_sld_n x_law_law_399 (by omega) (by omega) ?_
    refine c_law_law_400 (by exact kt_kdo (k := 113) rfl (by decide)) (Nat.le_of_ble_eq_true rfl) ?_
    refine s_M_eventOf hM hE hW (fun hfq => ?_) (fun eq fq e1q e2q b1q b2q => ?_)
    · refine kw_ic_eq x_law_law_403 (fun _ => ?_) (fun h => absurd rfl h)
      exact next _ _ _ _ _ _ _ _ (kt_LI.same h3 hMS hW hP)
    · exact absurd ⟨⟨eq, b1q, e1q⟩, ⟨fq, Nat.zero_le _, b2q, e2q⟩⟩ hf
  · have h3 := kt_ok.rf hKS
    have hMS := hMS0.up h3.2.1 h3.2.2.2
    obtain ⟨hM, hE, hpa, hbo, hx⟩ := id hMS
    have hnp4 := hpa.2.1
    refine kw_ald_n x_law_law_389 rfl ?_
    refine kw_ald_n x_law_law_390 rfl ?_
    refine kw_ild_n x_law_law_391 rfl ?_
    refine kw_icon x_law_law_392 ?_
    first | refine kw_iadd_n x_law_law_393 ?_ | refine kw_iadd x_law_law_393 ?_
    refine kw_sld_n x_law_law_394 (by omega) (by omega) ?_
    refine kw_ald_n x_law_law_395 rfl ?_
    refine kw_ild_n x_law_law_396 rfl ?_
    refine kw_icon x_law_law_397 ?_
    first | refine kw_iadd_n x_law_law_398 ?_ | refine kw_iadd x_law_law_398 ?_
    refine kw_sld_n x_law_law_399 (by omega) (by omega) ?_
    refine c_law_law_400 (by exact kt_kdo (k := 113) rfl (by decide)) (Nat.le_of_ble_eq_true rfl) ?_
    refine s_M_eventOf hM hE hW (fun hfq => ?_) (fun eq fq e1q e2q b1q b2q => ?_)
    · exact absurd ⟨⟨e, b1, e1⟩, ⟨f, Nat.zero_le _, b2, e2⟩⟩ hfq
    · obtain rfl : eq = e := kt_inj (e1.symm.trans e1q) (by omega) (by omega)
      obtain rfl : fq = f := kt_inj (e2.symm.trans e2q) (by omega) (by omega)
      refine kw_ic_eq x_law_law_403 (fun _ => ?_) (fun h => absurd rfl h)
      exact next _ _ _ _ _ _ _ _ (kt_LI.same h3 hMS hW hP)
theorem s_law_8 (hLI : kt_LI P np PX X ty tx I J R) {i : Nat} (hi : i + 5 ≤ kt_L P) (hL : kt_L P ≤ 2560) (next : ∀ np PX X ty tx I J R, kt_LI P np PX X ty tx I J R → KW P i_law_law 125 846 [some (.ref (kt_b P)), some (.ref (kt_z P)), some (.ref (kt_z P + 113)), some (.int (nI i))] [] 125 I J R Q) :
    KW P i_law_law 125 408 [some (.ref (kt_b P)), some (.ref (kt_z P)), some (.ref (kt_z P + 113)), some (.int (nI i))] [] 125 I J R Q := by
  obtain ⟨hKS, hMS0, hW, hP⟩ := hLI
  have hn := hW.2.2.1
  have hT5 := hW.2.1
  have hr3 := hW.1
  have hty := hMS0.2.2.2.2.2.1
  refine kw_ald_n x_law_law_408 rfl ?_
  refine kw_ald_n x_law_law_409 rfl ?_
  refine kw_ild_n x_law_law_410 rfl ?_
  refine kw_icon x_law_law_411 ?_
  first | refine kw_iadd_n x_law_law_412 ?_ | refine kw_iadd x_law_law_412 ?_
  refine kw_sld_n x_law_law_413 (by omega) (by omega) ?_
  refine kw_ald_n x_law_law_414 rfl ?_
  refine kw_ild_n x_law_law_415 rfl ?_
  refine kw_icon x_law_law_416 ?_
  first | refine kw_iadd_n x_law_law_417 ?_ | refine kw_iadd x_law_law_417 ?_
  refine kw_sld_n x_law_law_418 (by omega) (by omega) ?_
  refine c_law_law_419 (by exact kt_kdo (k := 0) rfl (by decide)) (Nat.le_of_ble_eq_true rfl) ?_
  refine s_K_thinks hKS hW (fun hf => ?_) (fun t e e1 e2 b1 b2 hx0 => ?_) (fun t e e1 e2 b1 b2 hx0 => ?_)
  · have h3 := kt_ok.rf hKS
    have hMS := hMS0.up h3.2.1 h3.2.2.2
    obtain ⟨hM, hE, hpa, hbo, hx⟩ := id hMS
    have hnp4 := hpa.2.1
    refine kw_ald_n x_law_law_422 rfl ?_
    refine kw_ald_n x_law_law_423 rfl ?_
    refine kw_ild_n x_law_law_424 rfl ?_
    refine kw_icon x_law_law_425 ?_
    first | refine kw_iadd_n x_law_law_426 ?_ | refine kw_iadd x_law_law_426 ?_
    refine kw_sld_n x_law_law_427 (by omega) (by omega) ?_
    refine kw_ald_n x_law_law_428 rfl ?_
    refine kw_ild_n x_law_law_429 rfl ?_
    refine kw_icon x_law_law_430 ?_
    first | refine kw_iadd_n x_law_law_431 ?_ | refine kw_iadd x_law_law_431 ?_
    refine kw_sld_n x_law_law_432 (by omega) (by omega) ?_
    refine c_law_law_433 (by exact kt_kdo (k := 113) rfl (by decide)) (Nat.le_of_ble_eq_true rfl) ?_
    refine s_M_thinks hM hE hW (fun hfq => ?_) (fun tq eq e1q e2q b1q b2q hx0q => ?_) (fun tq eq e1q e2q b1q b2q hx0q I2 hl => ?_)
    · refine kw_ic_eq x_law_law_436 (fun _ => ?_) (fun h => absurd rfl h)
      exact next _ _ _ _ _ _ _ _ (kt_LI.same h3 hMS hW hP)
    · exact absurd ⟨⟨tq, b1q, e1q⟩, ⟨eq, b2q, e2q⟩⟩ hf
    · exact absurd ⟨⟨tq, b1q, e1q⟩, ⟨eq, b2q, e2q⟩⟩ hf
  · have h3 := kt_ok.rf hKS
    have hMS := hMS0.up h3.2.1 h3.2.2.2
    obtain ⟨hM, hE, hpa, hbo, hx⟩ := id hMS
    have hnp4 := hpa.2.1
    refine kw_ald_n x_law_law_422 rfl ?_
    refine kw_ald_n x_law_law_423 rfl ?_
    refine kw_ild_n x_law_law_424 rfl ?_
    refine kw_icon x_law_law_425 ?_
    first | refine kw_iadd_n x_law_law_426 ?_ | refine kw_iadd x_law_law_426 ?_
    refine kw_sld_n x_law_law_427 (by omega) (by omega) ?_
    refine kw_ald_n x_law_law_428 rfl ?_
    refine kw_ild_n x_law_law_429 rfl ?_
    refine kw_icon x_law_law_430 ?_
    first | refine kw_iadd_n x_law_law_431 ?_ | refine kw_iadd x_law_law_431 ?_
    refine kw_sld_n x_law_law_432 (by omega) (by omega) ?_
    refine c_law_law_433 (by exact kt_kdo (k := 113) rfl (by decide)) (Nat.le_of_ble_eq_true rfl) ?_
    refine s_M_thinks hM hE hW (fun hfq => ?_) (fun tq eq e1q e2q b1q b2q hx0q => ?_) (fun tq eq e1q e2q b1q b2q hx0q I2 hl => ?_)
    · exact absurd ⟨⟨t, b1, e1⟩, ⟨e, b2, e2⟩⟩ hfq
    · obtain rfl : tq = t := kt_inj (e1.symm.trans e1q) (by omega) (by omega)
      obtain rfl : eq = e := kt_inj (e2.symm.trans e2q) (by omega) (by omega)
      refine kw_ic_eq x_law_law_436 (fun _ => ?_) (fun h => absurd rfl h)
      exact next _ _ _ _ _ _ _ _ (kt_LI.same h3 hMS hW hP)
    · obtain rfl : tq = t := kt_inj (e1.symm.trans e1q) (by omega) (by omega)
      obtain rfl : eq = e := kt_inj (e2.symm.trans e2q) (by omega) (by omega)
      exact absurd hx0q hx0
  · have h3 := kt_ok.rf hKS
    have hMS := hMS0.up h3.2.1 h3.2.2.2
    obtain ⟨hM, hE, hpa, hbo, hx⟩ := id hMS
    have hnp4 := hpa.2.1
    refine kw_ald_n x_law_law_422 rfl ?_
    refine kw_ald_n x_law_law_423 rfl ?_
    refine kw_ild_n x_law_law_424 rfl ?_
    refine kw_icon x_law_law_425 ?_
    first | refine kw_iadd_n x_law_law_426 ?_ | refine kw_iadd x_law_law_426 ?_
    refine kw_sld_n x_law_law_427 (by omega) (by omega) ?_
    refine kw_ald_n x_law_law_428 rfl ?_
    refine kw_ild_n x_law_law_429 rfl ?_
    refine kw_icon x_law_law_430 ?_
    first | refine kw_iadd_n x_law_law_431 ?_ | refine kw_iadd x_law_law_431 ?_
    refine kw_sld_n x_law_law_432 (by omega) (by omega) ?_
    refine c_law_law_433 (by exact kt_kdo (k := 113) rfl (by decide)) (Nat.le_of_ble_eq_true rfl) ?_
    refine s_M_thinks hM hE hW (fun hfq => ?_) (fun tq eq e1q e2q b1q b2q hx0q => ?_) (fun tq eq e1q e2q b1q b2q hx0q I2 hl => ?_)
    · exact absurd ⟨⟨t, b1, e1⟩, ⟨e, b2, e2⟩⟩ hfq
    · obtain rfl : tq = t := kt_inj (e1.symm.trans e1q) (by omega) (by omega)
      obtain rfl : eq = e := kt_inj (e2.symm.trans e2q) (by omega) (by omega)
      exact absurd hx0 hx0q
    · obtain rfl : tq = t := kt_inj (e1.symm.trans e1q) (by omega) (by omega)
      obtain rfl : eq = e := kt_inj (e2.symm.trans e2q) (by omega) (by omega)
      refine kw_ic_eq x_law_law_436 (fun _ => ?_) (fun h => absurd rfl h)
      exact next _ _ _ _ _ _ _ _ (kt_LI.lm h3 hMS hl hW hP)
theorem s_law_9 (hLI : kt_LI P np PX X ty tx I J R) {i : Nat} (hi : i + 5 ≤ kt_L P) (hL : kt_L P ≤ 2560) (next : ∀ np PX X ty tx I J R, kt_LI P np PX X ty tx I J R → KW P i_law_law 125 846 [some (.ref (kt_b P)), some (.ref (kt_z P)), some (.ref (kt_z P + 113)), some (.int (nI i))] [] 125 I J R Q) :
    KW P i_law_law 125 441 [some (.ref (kt_b P)), some (.ref (kt_z P)), some (.ref (kt_z P + 113)), some (.int (nI i))] [] 125 I J R Q := by
  obtain ⟨hKS, hMS0, hW, hP⟩ := hLI
  have hn := hW.2.2.1
  have hT5 := hW.2.1
  have hr3 := hW.1
  have hty := hMS0.2.2.2.2.2.1
  refine kw_ald_n x_law_law_441 rfl ?_
  refine kw_ald_n x_law_law_442 rfl ?_
  refine kw_ild_n x_law_law_443 rfl ?_
  refine kw_icon x_law_law_444 ?_
  first | refine kw_iadd_n x_law_law_445 ?_ | refine kw_iadd x_law_law_445 ?_
  refine kw_sld_n x_law_law_446 (by omega) (by omega) ?_
  refine kw_ald_n x_law_law_447 rfl ?_
  refine kw_ild_n x_law_law_448 rfl ?_
  refine kw_icon x_law_law_449 ?_
  first | refine kw_iadd_n x_law_law_450 ?_ | refine kw_iadd x_law_law_450 ?_
  refine kw_sld_n x_law_law_451 (by omega) (by omega) ?_
  refine c_law_law_452 (by exact kt_kdo (k := 0) rfl (by decide)) (Nat.le_of_ble_eq_true rfl) ?_
  refine s_K_townOf hKS hW (fun hf => ?_) (fun t f e1 e2 b1 b2 => ?_)
  · have h3 := kt_ok.rf hKS
    have hMS := hMS0.up h3.2.1 h3.2.2.2
    obtain ⟨hM, hE, hpa, hbo, hx⟩ := id hMS
    have hnp4 := hpa.2.1
    refine kw_ald_n x_law_law_455 rfl ?_
    refine kw_ald_n x_law_law_456 rfl ?_
    refine kw_ild_n x_law_law_457 rfl ?_
    refine kw_icon x_law_law_458 ?_
    first | refine kw_iadd_n x_law_law_459 ?_ | refine kw_iadd x_law_law_459 ?_
    refine kw_sld_n x_law_law_460 (by omega) (by omega) ?_
    refine kw_ald_n x_law_law_461 rfl ?_
    refine kw_ild_n x_law_law_462 rfl ?_
    refine kw_icon x_law_law_463 ?_
    first | refine kw_iadd_n x_law_law_464 ?_ | refine kw_iadd x_law_law_464 ?_
    refine kw_sld_n x_law_law_465 (by omega) (by omega) ?_
    refine c_law_law_466 (by exact kt_kdo (k := 113) rfl (by decide)) (Nat.le_of_ble_eq_true rfl) ?_
    refine s_M_townOf hM hE hW (fun hfq => ?_) (fun tq fq e1q e2q b1q b2q I2 hl => ?_)
    · refine kw_ic_eq x_law_law_469 (fun _ => ?_) (fun h => absurd rfl h)
      exact next _ _ _ _ _ _ _ _ (kt_LI.same h3 hMS hW hP)
    · exact absurd ⟨⟨tq, b1q, e1q⟩, ⟨fq, Nat.zero_le _, b2q, e2q⟩⟩ hf
  · have h3 := kt_ok.rf hKS
    have hMS := hMS0.up h3.2.1 h3.2.2.2
    obtain ⟨hM, hE, hpa, hbo, hx⟩ := id hMS
    have hnp4 := hpa.2.1
    refine kw_ald_n x_law_law_455 rfl ?_
    refine kw_ald_n x_law_law_456 rfl ?_
    refine kw_ild_n x_law_law_457 rfl ?_
    refine kw_icon x_law_law_458 ?_
    first | refine kw_iadd_n x_law_law_459 ?_ | refine kw_iadd x_law_law_459 ?_
    refine kw_sld_n x_law_law_460 (by omega) (by omega) ?_
    refine kw_ald_n x_law_law_461 rfl ?_
    refine kw_ild_n x_law_law_462 rfl ?_
    refine kw_icon x_law_law_463 ?_
    first | refine kw_iadd_n x_law_law_464 ?_ | refine kw_iadd x_law_law_464 ?_
    refine kw_sld_n x_law_law_465 (by omega) (by omega) ?_
    refine c_law_law_466 (by exact kt_kdo (k := 113) rfl (by decide)) (Nat.le_of_ble_eq_true rfl) ?_
    refine s_M_townOf hM hE hW (fun hfq => ?_) (fun tq fq e1q e2q b1q b2q I2 hl => ?_)
    · exact absurd ⟨⟨t, b1, e1⟩, ⟨f, Nat.zero_le _, b2, e2⟩⟩ hfq
    · obtain rfl : tq = t := kt_inj (e1.symm.trans e1q) (by omega) (by omega)
      obtain rfl : fq = f := kt_inj (e2.symm.trans e2q) (by omega) (by omega)
      refine kw_ic_eq x_law_law_469 (fun _ => ?_) (fun h => absurd rfl h)
      exact next _ _ _ _ _ _ _ _ (kt_LI.lm h3 hMS hl hW hP)
theorem s_law_10 (hLI : kt_LI P np PX X ty tx I J R) {i : Nat} (hi : i + 5 ≤ kt_L P) (hL : kt_L P ≤ 2560) (next : ∀ np PX X ty tx I J R, kt_LI P np PX X ty tx I J R → KW P i_law_law 125 846 [some (.ref (kt_b P)), some (.ref (kt_z P)), some (.ref (kt_z P + 113)), some (.int (nI i))] [] 125 I J R Q) :
    KW P i_law_law 125 474 [some (.ref (kt_b P)), some (.ref (kt_z P)), some (.ref (kt_z P + 113)), some (.int (nI i))] [] 125 I J R Q := by
  obtain ⟨hKS, hMS0, hW, hP⟩ := hLI
  have hn := hW.2.2.1
  have hT5 := hW.2.1
  have hr3 := hW.1
  have hty := hMS0.2.2.2.2.2.1
  refine kw_ald_n x_law_law_474 rfl ?_
  refine kw_ald_n x_law_law_475 rfl ?_
  refine kw_ild_n x_law_law_476 rfl ?_
  refine kw_icon x_law_law_477 ?_
  first | refine kw_iadd_n x_law_law_478 ?_ | refine kw_iadd x_law_law_478 ?_
  refine kw_sld_n x_law_law_479 (by omega) (by omega) ?_
  refine kw_ald_n x_law_law_480 rfl ?_
  refine kw_ild_n x_law_law_481 rfl ?_
  refine kw_icon x_law_law_482 ?_
  first | refine kw_iadd_n x_law_law_483 ?_ | refine kw_iadd x_law_law_483 ?_
  refine kw_sld_n x_law_law_484 (by omega) (by omega) ?_
  refine kw_ald_n x_law_law_485 rfl ?_
  refine kw_ild_n x_law_law_486 rfl ?_
  refine kw_icon x_law_law_487 ?_
  first | refine kw_iadd_n x_law_law_488 ?_ | refine kw_iadd x_law_law_488 ?_
  refine kw_sld_n x_law_law_489 (by omega) (by omega) ?_
  refine c_law_law_490 (by exact kt_kdo (k := 0) rfl (by decide)) (Nat.le_of_ble_eq_true rfl) ?_
  refine s_K_goodOf hKS hW (fun hf => ?_) (fun t g w e1 e2 e3 b1 b2 b3 => ?_)
  · have h3 := kt_ok.rf hKS
    have hMS := hMS0.up h3.2.1 h3.2.2.2
    obtain ⟨hM, hE, hpa, hbo, hx⟩ := id hMS
    have hnp4 := hpa.2.1
    refine kw_ald_n x_law_law_493 rfl ?_
    refine kw_ald_n x_law_law_494 rfl ?_
    refine kw_ild_n x_law_law_495 rfl ?_
    refine kw_icon x_law_law_496 ?_
    first | refine kw_iadd_n x_law_law_497 ?_ | refine kw_iadd x_law_law_497 ?_
    refine kw_sld_n x_law_law_498 (by omega) (by omega) ?_
    refine kw_ald_n x_law_law_499 rfl ?_
    refine kw_ild_n x_law_law_500 rfl ?_
    refine kw_icon x_law_law_501 ?_
    first | refine kw_iadd_n x_law_law_502 ?_ | refine kw_iadd x_law_law_502 ?_
    refine kw_sld_n x_law_law_503 (by omega) (by omega) ?_
    refine kw_ald_n x_law_law_504 rfl ?_
    refine kw_ild_n x_law_law_505 rfl ?_
    refine kw_icon x_law_law_506 ?_
    first | refine kw_iadd_n x_law_law_507 ?_ | refine kw_iadd x_law_law_507 ?_
    refine kw_sld_n x_law_law_508 (by omega) (by omega) ?_
    refine c_law_law_509 (by exact kt_kdo (k := 113) rfl (by decide)) (Nat.le_of_ble_eq_true rfl) ?_
    refine s_M_goodOf hM hE hW (fun hfq => ?_) (fun tq gq wq e1q e2q e3q b1q b2q b3q I2 hl => ?_)
    · refine kw_ic_eq x_law_law_512 (fun _ => ?_) (fun h => absurd rfl h)
      exact next _ _ _ _ _ _ _ _ (kt_LI.same h3 hMS hW hP)
    · exact absurd ⟨⟨tq, b1q, e1q⟩, ⟨gq, Nat.zero_le _, b2q, e2q⟩, ⟨wq, Nat.zero_le _, b3q, e3q⟩⟩ hf
  · have h3 := kt_ok.rf hKS
    have hMS := hMS0.up h3.2.1 h3.2.2.2
    obtain ⟨hM, hE, hpa, hbo, hx⟩ := id hMS
    have hnp4 := hpa.2.1
    refine kw_ald_n x_law_law_493 rfl ?_
    refine kw_ald_n x_law_law_494 rfl ?_
    refine kw_ild_n x_law_law_495 rfl ?_
    refine kw_icon x_law_law_496 ?_
    first | refine kw_iadd_n x_law_law_497 ?_ | refine kw_iadd x_law_law_497 ?_
    refine kw_sld_n x_law_law_498 (by omega) (by omega) ?_
    refine kw_ald_n x_law_law_499 rfl ?_
    refine kw_ild_n x_law_law_500 rfl ?_
    refine kw_icon x_law_law_501 ?_
    first | refine kw_iadd_n x_law_law_502 ?_ | refine kw_iadd x_law_law_502 ?_
    refine kw_sld_n x_law_law_503 (by omega) (by omega) ?_
    refine kw_ald_n x_law_law_504 rfl ?_
    refine kw_ild_n x_law_law_505 rfl ?_
    refine kw_icon x_law_law_506 ?_
    first | refine kw_iadd_n x_law_law_507 ?_ | refine kw_iadd x_law_law_507 ?_
    refine kw_sld_n x_law_law_508 (by omega) (by omega) ?_
    refine c_law_law_509 (by exact kt_kdo (k := 113) rfl (by decide)) (Nat.le_of_ble_eq_true rfl) ?_
    refine s_M_goodOf hM hE hW (fun hfq => ?_) (fun tq gq wq e1q e2q e3q b1q b2q b3q I2 hl => ?_)
    · exact absurd ⟨⟨t, b1, e1⟩, ⟨g, Nat.zero_le _, b2, e2⟩, ⟨w, Nat.zero_le _, b3, e3⟩⟩ hfq
    · obtain rfl : tq = t := kt_inj (e1.symm.trans e1q) (by omega) (by omega)
      obtain rfl : gq = g := kt_inj (e2.symm.trans e2q) (by omega) (by omega)
      obtain rfl : wq = w := kt_inj (e3.symm.trans e3q) (by omega) (by omega)
      refine kw_ic_eq x_law_law_512 (fun _ => ?_) (fun h => absurd rfl h)
      exact next _ _ _ _ _ _ _ _ (kt_LI.lm h3 hMS hl hW hP)
theorem s_law_11 (hLI : kt_LI P np PX X ty tx I J R) {i : Nat} (hi : i + 5 ≤ kt_L P) (hL : kt_L P ≤ 2560) (next : ∀ np PX X ty tx I J R, kt_LI P np PX X ty tx I J R → KW P i_law_law 125 846 [some (.ref (kt_b P)), some (.ref (kt_z P)), some (.ref (kt_z P + 113)), some (.int (nI i))] [] 125 I J R Q) :
    KW P i_law_law 125 517 [some (.ref (kt_b P)), some (.ref (kt_z P)), some (.ref (kt_z P + 113)), some (.int (nI i))] [] 125 I J R Q := by
  obtain ⟨hKS, hMS0, hW, hP⟩ := hLI
  have hn := hW.2.2.1
  have hT5 := hW.2.1
  have hr3 := hW.1
  have hty := hMS0.2.2.2.2.2.1
  refine kw_ald_n x_law_law_517 rfl ?_
  refine kw_ald_n x_law_law_518 rfl ?_
  refine kw_ild_n x_law_law_519 rfl ?_
  refine kw_icon x_law_law_520 ?_
  first | refine kw_iadd_n x_law_law_521 ?_ | refine kw_iadd x_law_law_521 ?_
  refine kw_sld_n x_law_law_522 (by omega) (by omega) ?_
  refine kw_ald_n x_law_law_523 rfl ?_
  refine kw_ild_n x_law_law_524 rfl ?_
  refine kw_icon x_law_law_525 ?_
  first | refine kw_iadd_n x_law_law_526 ?_ | refine kw_iadd x_law_law_526 ?_
  refine kw_sld_n x_law_law_527 (by omega) (by omega) ?_
  refine kw_ald_n x_law_law_528 rfl ?_
  refine kw_ild_n x_law_law_529 rfl ?_
  refine kw_icon x_law_law_530 ?_
  first | refine kw_iadd_n x_law_law_531 ?_ | refine kw_iadd x_law_law_531 ?_
  refine kw_sld_n x_law_law_532 (by omega) (by omega) ?_
  refine c_law_law_533 (by exact kt_kdo (k := 0) rfl (by decide)) (Nat.le_of_ble_eq_true rfl) ?_
  refine s_K_lookedAt hKS hW (fun hf => ?_) (fun t g w e1 e2 e3 b1 b2 b3 I1 J1 R1 h3 => ?_)
  · have h3 := kt_ok.rf hKS
    have hMS := hMS0.up h3.2.1 h3.2.2.2
    obtain ⟨hM, hE, hpa, hbo, hx⟩ := id hMS
    have hnp4 := hpa.2.1
    refine kw_ald_n x_law_law_536 rfl ?_
    refine kw_ald_n x_law_law_537 rfl ?_
    refine kw_ild_n x_law_law_538 rfl ?_
    refine kw_icon x_law_law_539 ?_
    first | refine kw_iadd_n x_law_law_540 ?_ | refine kw_iadd x_law_law_540 ?_
    refine kw_sld_n x_law_law_541 (by omega) (by omega) ?_
    refine kw_ald_n x_law_law_542 rfl ?_
    refine kw_ild_n x_law_law_543 rfl ?_
    refine kw_icon x_law_law_544 ?_
    first | refine kw_iadd_n x_law_law_545 ?_ | refine kw_iadd x_law_law_545 ?_
    refine kw_sld_n x_law_law_546 (by omega) (by omega) ?_
    refine kw_ald_n x_law_law_547 rfl ?_
    refine kw_ild_n x_law_law_548 rfl ?_
    refine kw_icon x_law_law_549 ?_
    first | refine kw_iadd_n x_law_law_550 ?_ | refine kw_iadd x_law_law_550 ?_
    refine kw_sld_n x_law_law_551 (by omega) (by omega) ?_
    refine c_law_law_552 (by exact kt_kdo (k := 113) rfl (by decide)) (Nat.le_of_ble_eq_true rfl) ?_
    refine s_M_lookedAt hM hE hW (fun hfq => ?_) (fun tq gq wq e1q e2q e3q b1q b2q b3q I2 hl => ?_)
    · refine kw_ic_eq x_law_law_555 (fun _ => ?_) (fun h => absurd rfl h)
      exact next _ _ _ _ _ _ _ _ (kt_LI.same h3 hMS hW hP)
    · exact absurd ⟨⟨tq, b1q, e1q⟩, ⟨gq, Nat.zero_le _, b2q, e2q⟩, by rw [e3q]; exact nI_pos (kt_p31 b3q)⟩ hf
  · have hMS := hMS0.up h3.2.1 h3.2.2.2
    obtain ⟨hM, hE, hpa, hbo, hx⟩ := id hMS
    have hnp4 := hpa.2.1
    refine kw_ald_n x_law_law_536 rfl ?_
    refine kw_ald_n x_law_law_537 rfl ?_
    refine kw_ild_n x_law_law_538 rfl ?_
    refine kw_icon x_law_law_539 ?_
    first | refine kw_iadd_n x_law_law_540 ?_ | refine kw_iadd x_law_law_540 ?_
    refine kw_sld_n x_law_law_541 (by omega) (by omega) ?_
    refine kw_ald_n x_law_law_542 rfl ?_
    refine kw_ild_n x_law_law_543 rfl ?_
    refine kw_icon x_law_law_544 ?_
    first | refine kw_iadd_n x_law_law_545 ?_ | refine kw_iadd x_law_law_545 ?_
    refine kw_sld_n x_law_law_546 (by omega) (by omega) ?_
    refine kw_ald_n x_law_law_547 rfl ?_
    refine kw_ild_n x_law_law_548 rfl ?_
    refine kw_icon x_law_law_549 ?_
    first | refine kw_iadd_n x_law_law_550 ?_ | refine kw_iadd x_law_law_550 ?_
    refine kw_sld_n x_law_law_551 (by omega) (by omega) ?_
    refine c_law_law_552 (by exact kt_kdo (k := 113) rfl (by decide)) (Nat.le_of_ble_eq_true rfl) ?_
    refine s_M_lookedAt hM hE hW (fun hfq => ?_) (fun tq gq wq e1q e2q e3q b1q b2q b3q I2 hl => ?_)
    · exact absurd ⟨⟨t, b1, e1⟩, ⟨g, Nat.zero_le _, b2, e2⟩, by rw [e3]; exact nI_pos (kt_p31 b3)⟩ hfq
    · obtain rfl : tq = t := kt_inj (e1.symm.trans e1q) (by omega) (by omega)
      obtain rfl : gq = g := kt_inj (e2.symm.trans e2q) (by omega) (by omega)
      obtain rfl : wq = w := kt_inj (e3.symm.trans e3q) (by omega) (by omega)
      refine kw_ic_eq x_law_law_555 (fun _ => ?_) (fun h => absurd rfl h)
      exact next _ _ _ _ _ _ _ _ (kt_LI.lm h3 hMS hl hW hP)
theorem s_law_12 (hLI : kt_LI P np PX X ty tx I J R) {i : Nat} (hi : i + 5 ≤ kt_L P) (hL : kt_L P ≤ 2560) (next : ∀ np PX X ty tx I J R, kt_LI P np PX X ty tx I J R → KW P i_law_law 125 846 [some (.ref (kt_b P)), some (.ref (kt_z P)), some (.ref (kt_z P + 113)), some (.int (nI i))] [] 125 I J R Q) :
    KW P i_law_law 125 560 [some (.ref (kt_b P)), some (.ref (kt_z P)), some (.ref (kt_z P + 113)), some (.int (nI i))] [] 125 I J R Q := by
  obtain ⟨hKS, hMS0, hW, hP⟩ := hLI
  have hn := hW.2.2.1
  have hT5 := hW.2.1
  have hr3 := hW.1
  have hty := hMS0.2.2.2.2.2.1
  refine kw_ald_n x_law_law_560 rfl ?_
  refine kw_ald_n x_law_law_561 rfl ?_
  refine kw_ild_n x_law_law_562 rfl ?_
  refine kw_icon x_law_law_563 ?_
  first | refine kw_iadd_n x_law_law_564 ?_ | refine kw_iadd x_law_law_564 ?_
  refine kw_sld_n x_law_law_565 (by omega) (by omega) ?_
  refine kw_ald_n x_law_law_566 rfl ?_
  refine kw_ild_n x_law_law_567 rfl ?_
  refine kw_icon x_law_law_568 ?_
  first | refine kw_iadd_n x_law_law_569 ?_ | refine kw_iadd x_law_law_569 ?_
  refine kw_sld_n x_law_law_570 (by omega) (by omega) ?_
  refine kw_ald_n x_law_law_571 rfl ?_
  refine kw_ild_n x_law_law_572 rfl ?_
  refine kw_icon x_law_law_573 ?_
  first | refine kw_iadd_n x_law_law_574 ?_ | refine kw_iadd x_law_law_574 ?_
  refine kw_sld_n x_law_law_575 (by omega) (by omega) ?_
  refine c_law_law_576 (by exact kt_kdo (k := 0) rfl (by decide)) (Nat.le_of_ble_eq_true rfl) ?_
  refine s_K_personOf hKS hW (fun hf => ?_) (fun t g w e1 e2 e3 b1 b2 b3 => ?_)
  · have h3 := kt_ok.rf hKS
    have hMS := hMS0.up h3.2.1 h3.2.2.2
    obtain ⟨hM, hE, hpa, hbo, hx⟩ := id hMS
    have hnp4 := hpa.2.1
    refine kw_ald_n x_law_law_579 rfl ?_
    refine kw_ald_n x_law_law_580 rfl ?_
    refine kw_ild_n x_law_law_581 rfl ?_
    refine kw_icon x_law_law_582 ?_
    first | refine kw_iadd_n x_law_law_583 ?_ | refine kw_iadd x_law_law_583 ?_
    refine kw_sld_n x_law_law_584 (by omega) (by omega) ?_
    refine kw_ald_n x_law_law_585 rfl ?_
    refine kw_ild_n x_law_law_586 rfl ?_
    refine kw_icon x_law_law_587 ?_
    first | refine kw_iadd_n x_law_law_588 ?_ | refine kw_iadd x_law_law_588 ?_
    refine kw_sld_n x_law_law_589 (by omega) (by omega) ?_
    refine kw_ald_n x_law_law_590 rfl ?_
    refine kw_ild_n x_law_law_591 rfl ?_
    refine kw_icon x_law_law_592 ?_
    first | refine kw_iadd_n x_law_law_593 ?_ | refine kw_iadd x_law_law_593 ?_
    refine kw_sld_n x_law_law_594 (by omega) (by omega) ?_
    refine c_law_law_595 (by exact kt_kdo (k := 113) rfl (by decide)) (Nat.le_of_ble_eq_true rfl) ?_
    refine s_M_personOf hM hE hW (fun hfq => ?_) (fun tq gq wq e1q e2q e3q b1q b2q b3q I2 hl => ?_)
    · refine kw_ic_eq x_law_law_598 (fun _ => ?_) (fun h => absurd rfl h)
      exact next _ _ _ _ _ _ _ _ (kt_LI.same h3 hMS hW hP)
    · exact absurd ⟨⟨tq, b1q, e1q⟩, ⟨gq, Nat.zero_le _, b2q, e2q⟩, ⟨wq, Nat.zero_le _, b3q, e3q⟩⟩ hf
  · have h3 := kt_ok.rf hKS
    have hMS := hMS0.up h3.2.1 h3.2.2.2
    obtain ⟨hM, hE, hpa, hbo, hx⟩ := id hMS
    have hnp4 := hpa.2.1
    refine kw_ald_n x_law_law_579 rfl ?_
    refine kw_ald_n x_law_law_580 rfl ?_
    refine kw_ild_n x_law_law_581 rfl ?_
    refine kw_icon x_law_law_582 ?_
    first | refine kw_iadd_n x_law_law_583 ?_ | refine kw_iadd x_law_law_583 ?_
    refine kw_sld_n x_law_law_584 (by omega) (by omega) ?_
    refine kw_ald_n x_law_law_585 rfl ?_
    refine kw_ild_n x_law_law_586 rfl ?_
    refine kw_icon x_law_law_587 ?_
    first | refine kw_iadd_n x_law_law_588 ?_ | refine kw_iadd x_law_law_588 ?_
    refine kw_sld_n x_law_law_589 (by omega) (by omega) ?_
    refine kw_ald_n x_law_law_590 rfl ?_
    refine kw_ild_n x_law_law_591 rfl ?_
    refine kw_icon x_law_law_592 ?_
    first | refine kw_iadd_n x_law_law_593 ?_ | refine kw_iadd x_law_law_593 ?_
    refine kw_sld_n x_law_law_594 (by omega) (by omega) ?_
    refine c_law_law_595 (by exact kt_kdo (k := 113) rfl (by decide)) (Nat.le_of_ble_eq_true rfl) ?_
    refine s_M_personOf hM hE hW (fun hfq => ?_) (fun tq gq wq e1q e2q e3q b1q b2q b3q I2 hl => ?_)
    · exact absurd ⟨⟨t, b1, e1⟩, ⟨g, Nat.zero_le _, b2, e2⟩, ⟨w, Nat.zero_le _, b3, e3⟩⟩ hfq
    · obtain rfl : tq = t := kt_inj (e1.symm.trans e1q) (by omega) (by omega)
      obtain rfl : gq = g := kt_inj (e2.symm.trans e2q) (by omega) (by omega)
      obtain rfl : wq = w := kt_inj (e3.symm.trans e3q) (by omega) (by omega)
      refine kw_ic_eq x_law_law_598 (fun _ => ?_) (fun h => absurd rfl h)
      exact next _ _ _ _ _ _ _ _ (kt_LI.lm h3 hMS hl hW hP)
theorem s_law_13 (hLI : kt_LI P np PX X ty tx I J R) {i : Nat} (hi : i + 5 ≤ kt_L P) (hL : kt_L P ≤ 2560) (next : ∀ np PX X ty tx I J R, kt_LI P np PX X ty tx I J R → KW P i_law_law 125 846 [some (.ref (kt_b P)), some (.ref (kt_z P)), some (.ref (kt_z P + 113)), some (.int (nI i))] [] 125 I J R Q) :
    KW P i_law_law 125 603 [some (.ref (kt_b P)), some (.ref (kt_z P)), some (.ref (kt_z P + 113)), some (.int (nI i))] [] 125 I J R Q := by
  obtain ⟨hKS, hMS0, hW, hP⟩ := hLI
  have hn := hW.2.2.1
  have hT5 := hW.2.1
  have hr3 := hW.1
  have hty := hMS0.2.2.2.2.2.1
  refine kw_ald_n x_law_law_603 rfl ?_
  refine kw_ald_n x_law_law_604 rfl ?_
  refine kw_ild_n x_law_law_605 rfl ?_
  refine kw_icon x_law_law_606 ?_
  first | refine kw_iadd_n x_law_law_607 ?_ | refine kw_iadd x_law_law_607 ?_
  refine kw_sld_n x_law_law_608 (by omega) (by omega) ?_
  refine kw_ald_n x_law_law_609 rfl ?_
  refine kw_ild_n x_law_law_610 rfl ?_
  refine kw_icon x_law_law_611 ?_
  first | refine kw_iadd_n x_law_law_612 ?_ | refine kw_iadd x_law_law_612 ?_
  refine kw_sld_n x_law_law_613 (by omega) (by omega) ?_
  refine c_law_law_614 (by exact kt_kdo (k := 0) rfl (by decide)) (Nat.le_of_ble_eq_true rfl) ?_
  refine s_K_unheard hKS hW (fun hf => ?_) (fun t w e1 e2 b1 b2 => ?_)
  · have h3 := kt_ok.rf hKS
    have hMS := hMS0.up h3.2.1 h3.2.2.2
    obtain ⟨hM, hE, hpa, hbo, hx⟩ := id hMS
    have hnp4 := hpa.2.1
    refine kw_ald_n x_law_law_617 rfl ?_
    refine kw_ald_n x_law_law_618 rfl ?_
    refine kw_ild_n x_law_law_619 rfl ?_
    refine kw_icon x_law_law_620 ?_
    first | refine kw_iadd_n x_law_law_621 ?_ | refine kw_iadd x_law_law_621 ?_
    refine kw_sld_n x_law_law_622 (by omega) (by omega) ?_
    refine kw_ald_n x_law_law_623 rfl ?_
    refine kw_ild_n x_law_law_624 rfl ?_
    refine kw_icon x_law_law_625 ?_
    first | refine kw_iadd_n x_law_law_626 ?_ | refine kw_iadd x_law_law_626 ?_
    refine kw_sld_n x_law_law_627 (by omega) (by omega) ?_
    refine c_law_law_628 (by exact kt_kdo (k := 113) rfl (by decide)) (Nat.le_of_ble_eq_true rfl) ?_
    refine s_M_unheard hM hE hW (fun hfq => ?_) (fun tq wq e1q e2q b1q b2q => ?_)
    · refine kw_ic_eq x_law_law_631 (fun _ => ?_) (fun h => absurd rfl h)
      exact next _ _ _ _ _ _ _ _ (kt_LI.same h3 hMS hW hP)
    · exact absurd ⟨⟨tq, b1q, e1q⟩, ⟨wq, b2q, e2q⟩⟩ hf
  · have h3 := kt_ok.rf hKS
    have hMS := hMS0.up h3.2.1 h3.2.2.2
    obtain ⟨hM, hE, hpa, hbo, hx⟩ := id hMS
    have hnp4 := hpa.2.1
    refine kw_ald_n x_law_law_617 rfl ?_
    refine kw_ald_n x_law_law_618 rfl ?_
    refine kw_ild_n x_law_law_619 rfl ?_
    refine kw_icon x_law_law_620 ?_
    first | refine kw_iadd_n x_law_law_621 ?_ | refine kw_iadd x_law_law_621 ?_
    refine kw_sld_n x_law_law_622 (by omega) (by omega) ?_
    refine kw_ald_n x_law_law_623 rfl ?_
    refine kw_ild_n x_law_law_624 rfl ?_
    refine kw_icon x_law_law_625 ?_
    first | refine kw_iadd_n x_law_law_626 ?_ | refine kw_iadd x_law_law_626 ?_
    refine kw_sld_n x_law_law_627 (by omega) (by omega) ?_
    refine c_law_law_628 (by exact kt_kdo (k := 113) rfl (by decide)) (Nat.le_of_ble_eq_true rfl) ?_
    refine s_M_unheard hM hE hW (fun hfq => ?_) (fun tq wq e1q e2q b1q b2q => ?_)
    · exact absurd ⟨⟨t, b1, e1⟩, ⟨w, b2, e2⟩⟩ hfq
    · obtain rfl : tq = t := kt_inj (e1.symm.trans e1q) (by omega) (by omega)
      obtain rfl : wq = w := kt_inj (e2.symm.trans e2q) (by omega) (by omega)
      refine kw_ic_eq x_law_law_631 (fun _ => ?_) (fun h => absurd rfl h)
      exact next _ _ _ _ _ _ _ _ (kt_LI.same h3 hMS hW hP)
theorem s_law_14 (hLI : kt_LI P np PX X ty tx I J R) {i : Nat} (hi : i + 5 ≤ kt_L P) (hL : kt_L P ≤ 2560) (next : ∀ np PX X ty tx I J R, kt_LI P np PX X ty tx I J R → KW P i_law_law 125 846 [some (.ref (kt_b P)), some (.ref (kt_z P)), some (.ref (kt_z P + 113)), some (.int (nI i))] [] 125 I J R Q) :
    KW P i_law_law 125 636 [some (.ref (kt_b P)), some (.ref (kt_z P)), some (.ref (kt_z P + 113)), some (.int (nI i))] [] 125 I J R Q := by
  obtain ⟨hKS, hMS0, hW, hP⟩ := hLI
  have hn := hW.2.2.1
  have hT5 := hW.2.1
  have hr3 := hW.1
  have hty := hMS0.2.2.2.2.2.1
  refine kw_ald_n x_law_law_636 rfl ?_
  refine kw_ald_n x_law_law_637 rfl ?_
  refine kw_ild_n x_law_law_638 rfl ?_
  refine kw_icon x_law_law_639 ?_
  first | refine kw_iadd_n x_law_law_640 ?_ | refine kw_iadd x_law_law_640 ?_
  refine kw_sld_n x_law_law_641 (by omega) (by omega) ?_
  refine c_law_law_642 (by exact kt_kdo (k := 0) rfl (by decide)) (Nat.le_of_ble_eq_true rfl) ?_
  refine s_K_count hKS hW (fun hf => ?_) (fun f e1 b1 => ?_)
  · have h3 := kt_ok.rf hKS
    have hMS := hMS0.up h3.2.1 h3.2.2.2
    obtain ⟨hM, hE, hpa, hbo, hx⟩ := id hMS
    have hnp4 := hpa.2.1
    refine kw_ald_n x_law_law_645 rfl ?_
    refine kw_ald_n x_law_law_646 rfl ?_
    refine kw_ild_n x_law_law_647 rfl ?_
    refine kw_icon x_law_law_648 ?_
    first | refine kw_iadd_n x_law_law_649 ?_ | refine kw_iadd x_law_law_649 ?_
    refine kw_sld_n x_law_law_650 (by omega) (by omega) ?_
    refine c_law_law_651 (by exact kt_kdo (k := 113) rfl (by decide)) (Nat.le_of_ble_eq_true rfl) ?_
    refine s_M_count hM hE hW hpa.1 hx.1 (fun hfq => ?_) (fun fq e1q b1q => ?_)
    · refine kw_ic_eq x_law_law_654 (fun _ => ?_) (fun h => absurd rfl h)
      exact next _ _ _ _ _ _ _ _ (kt_LI.same h3 hMS hW hP)
    · exact absurd ⟨fq, Nat.zero_le _, b1q, e1q⟩ hf
  · have h3 := kt_ok.rf hKS
    have hMS := hMS0.up h3.2.1 h3.2.2.2
    obtain ⟨hM, hE, hpa, hbo, hx⟩ := id hMS
    have hnp4 := hpa.2.1
    refine kw_ald_n x_law_law_645 rfl ?_
    refine kw_ald_n x_law_law_646 rfl ?_
    refine kw_ild_n x_law_law_647 rfl ?_
    refine kw_icon x_law_law_648 ?_
    first | refine kw_iadd_n x_law_law_649 ?_ | refine kw_iadd x_law_law_649 ?_
    refine kw_sld_n x_law_law_650 (by omega) (by omega) ?_
    refine c_law_law_651 (by exact kt_kdo (k := 113) rfl (by decide)) (Nat.le_of_ble_eq_true rfl) ?_
    refine s_M_count hM hE hW hpa.1 hx.1 (fun hfq => ?_) (fun fq e1q b1q => ?_)
    · exact absurd ⟨f, Nat.zero_le _, b1, e1⟩ hfq
    · obtain rfl : fq = f := kt_inj (e1.symm.trans e1q) (by omega) (by omega)
      refine kw_ic_eq x_law_law_654 (fun _ => ?_) (fun h => absurd rfl h)
      exact next _ _ _ _ _ _ _ _ (kt_LI.same h3 hMS hW hP)
theorem s_law_15 (hLI : kt_LI P np PX X ty tx I J R) {i : Nat} (hi : i + 5 ≤ kt_L P) (hL : kt_L P ≤ 2560) (next : ∀ np PX X ty tx I J R, kt_LI P np PX X ty tx I J R → KW P i_law_law 125 846 [some (.ref (kt_b P)), some (.ref (kt_z P)), some (.ref (kt_z P + 113)), some (.int (nI i))] [] 125 I J R Q) :
    KW P i_law_law 125 659 [some (.ref (kt_b P)), some (.ref (kt_z P)), some (.ref (kt_z P + 113)), some (.int (nI i))] [] 125 I J R Q := by
  obtain ⟨hKS, hMS0, hW, hP⟩ := hLI
  have hn := hW.2.2.1
  have hT5 := hW.2.1
  have hr3 := hW.1
  have hty := hMS0.2.2.2.2.2.1
  refine kw_ald_n x_law_law_659 rfl ?_
  refine kw_ald_n x_law_law_660 rfl ?_
  refine kw_ild_n x_law_law_661 rfl ?_
  refine kw_icon x_law_law_662 ?_
  first | refine kw_iadd_n x_law_law_663 ?_ | refine kw_iadd x_law_law_663 ?_
  refine kw_sld_n x_law_law_664 (by omega) (by omega) ?_
  refine kw_ald_n x_law_law_665 rfl ?_
  refine kw_ild_n x_law_law_666 rfl ?_
  refine kw_icon x_law_law_667 ?_
  first | refine kw_iadd_n x_law_law_668 ?_ | refine kw_iadd x_law_law_668 ?_
  refine kw_sld_n x_law_law_669 (by omega) (by omega) ?_
  refine kw_ald_n x_law_law_670 rfl ?_
  refine kw_ild_n x_law_law_671 rfl ?_
  refine kw_icon x_law_law_672 ?_
  first | refine kw_iadd_n x_law_law_673 ?_ | refine kw_iadd x_law_law_673 ?_
  refine kw_sld_n x_law_law_674 (by omega) (by omega) ?_
  refine c_law_law_675 (by exact kt_kdo (k := 0) rfl (by decide)) (Nat.le_of_ble_eq_true rfl) ?_
  refine s_K_would hKS hW (fun hf I1 J1 R1 h3 => ?_) (fun t g w e1 e2 e3 b1 b2 b3 b4 I1 J1 R1 h3 => ?_)
  · have hMS := hMS0.up h3.2.1 h3.2.2.2
    obtain ⟨hM, hE, hpa, hbo, hx⟩ := id hMS
    have hnp4 := hpa.2.1
    refine kw_ald_n x_law_law_678 rfl ?_
    refine kw_ald_n x_law_law_679 rfl ?_
    refine kw_ild_n x_law_law_680 rfl ?_
    refine kw_icon x_law_law_681 ?_
    first | refine kw_iadd_n x_law_law_682 ?_ | refine kw_iadd x_law_law_682 ?_
    refine kw_sld_n x_law_law_683 (by omega) (by omega) ?_
    refine kw_ald_n x_law_law_684 rfl ?_
    refine kw_ild_n x_law_law_685 rfl ?_
    refine kw_icon x_law_law_686 ?_
    first | refine kw_iadd_n x_law_law_687 ?_ | refine kw_iadd x_law_law_687 ?_
    refine kw_sld_n x_law_law_688 (by omega) (by omega) ?_
    refine kw_ald_n x_law_law_689 rfl ?_
    refine kw_ild_n x_law_law_690 rfl ?_
    refine kw_icon x_law_law_691 ?_
    first | refine kw_iadd_n x_law_law_692 ?_ | refine kw_iadd x_law_law_692 ?_
    refine kw_sld_n x_law_law_693 (by omega) (by omega) ?_
    refine c_law_law_694 (by exact kt_kdo (k := 113) rfl (by decide)) (Nat.le_of_ble_eq_true rfl) ?_
    refine s_M_would hM hE hW (fun hfq => ?_) (fun tq gq wq e1q e2q e3q b1q b2q b3q b4q I2 hl hEq => ?_)
    · refine kw_ic_eq x_law_law_697 (fun _ => ?_) (fun h => absurd rfl h)
      exact next _ _ _ _ _ _ _ _ (kt_LI.same h3 hMS hW hP)
    · exact absurd ⟨⟨tq, b1q, e1q⟩, ⟨gq, b2q, e2q⟩, (fun z => b3q (by rw [e1q, e2q] at z; exact (kt_inj z (by omega) (by omega)).symm)), ⟨wq, Nat.zero_le _, b4q, e3q⟩⟩ hf
  · have hMS := hMS0.up h3.2.1 h3.2.2.2
    obtain ⟨hM, hE, hpa, hbo, hx⟩ := id hMS
    have hnp4 := hpa.2.1
    refine kw_ald_n x_law_law_678 rfl ?_
    refine kw_ald_n x_law_law_679 rfl ?_
    refine kw_ild_n x_law_law_680 rfl ?_
    refine kw_icon x_law_law_681 ?_
    first | refine kw_iadd_n x_law_law_682 ?_ | refine kw_iadd x_law_law_682 ?_
    refine kw_sld_n x_law_law_683 (by omega) (by omega) ?_
    refine kw_ald_n x_law_law_684 rfl ?_
    refine kw_ild_n x_law_law_685 rfl ?_
    refine kw_icon x_law_law_686 ?_
    first | refine kw_iadd_n x_law_law_687 ?_ | refine kw_iadd x_law_law_687 ?_
    refine kw_sld_n x_law_law_688 (by omega) (by omega) ?_
    refine kw_ald_n x_law_law_689 rfl ?_
    refine kw_ild_n x_law_law_690 rfl ?_
    refine kw_icon x_law_law_691 ?_
    first | refine kw_iadd_n x_law_law_692 ?_ | refine kw_iadd x_law_law_692 ?_
    refine kw_sld_n x_law_law_693 (by omega) (by omega) ?_
    refine c_law_law_694 (by exact kt_kdo (k := 113) rfl (by decide)) (Nat.le_of_ble_eq_true rfl) ?_
    refine s_M_would hM hE hW (fun hfq => ?_) (fun tq gq wq e1q e2q e3q b1q b2q b3q b4q I2 hl hEq => ?_)
    · exact absurd ⟨⟨t, b1, e1⟩, ⟨g, b2, e2⟩, (fun z => b3 (by rw [e1, e2] at z; exact (kt_inj z (by omega) (by omega)).symm)), ⟨w, Nat.zero_le _, b4, e3⟩⟩ hfq
    · obtain rfl : tq = t := kt_inj (e1.symm.trans e1q) (by omega) (by omega)
      obtain rfl : gq = g := kt_inj (e2.symm.trans e2q) (by omega) (by omega)
      obtain rfl : wq = w := kt_inj (e3.symm.trans e3q) (by omega) (by omega)
      refine kw_ic_eq x_law_law_697 (fun _ => ?_) (fun h => absurd rfl h)
      exact next _ _ _ _ _ _ _ _ (kt_LI.ly h3 hMS hl hEq hW hP)
theorem s_law_16 (hLI : kt_LI P np PX X ty tx I J R) {i : Nat} (hi : i + 5 ≤ kt_L P) (hL : kt_L P ≤ 2560) (next : ∀ np PX X ty tx I J R, kt_LI P np PX X ty tx I J R → KW P i_law_law 125 846 [some (.ref (kt_b P)), some (.ref (kt_z P)), some (.ref (kt_z P + 113)), some (.int (nI i))] [] 125 I J R Q) :
    KW P i_law_law 125 702 [some (.ref (kt_b P)), some (.ref (kt_z P)), some (.ref (kt_z P + 113)), some (.int (nI i))] [] 125 I J R Q := by
  obtain ⟨hKS, hMS0, hW, hP⟩ := hLI
  have hn := hW.2.2.1
  have hT5 := hW.2.1
  have hr3 := hW.1
  have hty := hMS0.2.2.2.2.2.1
  refine kw_ald_n x_law_law_702 rfl ?_
  refine kw_ald_n x_law_law_703 rfl ?_
  refine kw_ild_n x_law_law_704 rfl ?_
  refine kw_icon x_law_law_705 ?_
  first | refine kw_iadd_n x_law_law_706 ?_ | refine kw_iadd x_law_law_706 ?_
  refine kw_sld_n x_law_law_707 (by omega) (by omega) ?_
  refine c_law_law_708 (by exact kt_kdo (k := 0) rfl (by decide)) (Nat.le_of_ble_eq_true rfl) ?_
  refine s_K_wouldRule hKS hW (fun hf I1 J1 R1 h3 => ?_) (fun r e1 b1 I1 J1 R1 h3 => ?_)
  · have hMS := hMS0.up h3.2.1 h3.2.2.2
    obtain ⟨hM, hE, hpa, hbo, hx⟩ := id hMS
    have hnp4 := hpa.2.1
    refine kw_ald_n x_law_law_711 rfl ?_
    refine kw_ald_n x_law_law_712 rfl ?_
    refine kw_ild_n x_law_law_713 rfl ?_
    refine kw_icon x_law_law_714 ?_
    first | refine kw_iadd_n x_law_law_715 ?_ | refine kw_iadd x_law_law_715 ?_
    refine kw_sld_n x_law_law_716 (by omega) (by omega) ?_
    refine c_law_law_717 (by exact kt_kdo (k := 113) rfl (by decide)) (Nat.le_of_ble_eq_true rfl) ?_
    refine s_M_wouldRule hM hE hW (fun hfq => ?_) (fun rq e1q b1q I2 hl hEq => ?_)
    · refine kw_ic_eq x_law_law_720 (fun _ => ?_) (fun h => absurd rfl h)
      exact next _ _ _ _ _ _ _ _ (kt_LI.same h3 hMS hW hP)
    · exact absurd ⟨rq, Nat.zero_le _, b1q, e1q⟩ hf
  · have hMS := hMS0.up h3.2.1 h3.2.2.2
    obtain ⟨hM, hE, hpa, hbo, hx⟩ := id hMS
    have hnp4 := hpa.2.1
    refine kw_ald_n x_law_law_711 rfl ?_
    refine kw_ald_n x_law_law_712 rfl ?_
    refine kw_ild_n x_law_law_713 rfl ?_
    refine kw_icon x_law_law_714 ?_
    first | refine kw_iadd_n x_law_law_715 ?_ | refine kw_iadd x_law_law_715 ?_
    refine kw_sld_n x_law_law_716 (by omega) (by omega) ?_
    refine c_law_law_717 (by exact kt_kdo (k := 113) rfl (by decide)) (Nat.le_of_ble_eq_true rfl) ?_
    refine s_M_wouldRule hM hE hW (fun hfq => ?_) (fun rq e1q b1q I2 hl hEq => ?_)
    · exact absurd ⟨r, Nat.zero_le _, b1, e1⟩ hfq
    · obtain rfl : rq = r := kt_inj (e1.symm.trans e1q) (by omega) (by omega)
      refine kw_ic_eq x_law_law_720 (fun _ => ?_) (fun h => absurd rfl h)
      exact next _ _ _ _ _ _ _ _ (kt_LI.ly h3 hMS hl hEq hW hP)
theorem s_law_17 (hLI : kt_LI P np PX X ty tx I J R) {i : Nat} (hi : i + 5 ≤ kt_L P) (hL : kt_L P ≤ 2560) (next : ∀ np PX X ty tx I J R, kt_LI P np PX X ty tx I J R → KW P i_law_law 125 846 [some (.ref (kt_b P)), some (.ref (kt_z P)), some (.ref (kt_z P + 113)), some (.int (nI i))] [] 125 I J R Q) :
    KW P i_law_law 125 725 [some (.ref (kt_b P)), some (.ref (kt_z P)), some (.ref (kt_z P + 113)), some (.int (nI i))] [] 125 I J R Q := by
  obtain ⟨hKS, hMS0, hW, hP⟩ := hLI
  have hn := hW.2.2.1
  have hT5 := hW.2.1
  have hr3 := hW.1
  have hty := hMS0.2.2.2.2.2.1
  refine kw_ald_n x_law_law_725 rfl ?_
  refine kw_ald_n x_law_law_726 rfl ?_
  refine kw_ild_n x_law_law_727 rfl ?_
  refine kw_icon x_law_law_728 ?_
  first | refine kw_iadd_n x_law_law_729 ?_ | refine kw_iadd x_law_law_729 ?_
  refine kw_sld_n x_law_law_730 (by omega) (by omega) ?_
  refine c_law_law_731 (by exact kt_kdo (k := 0) rfl (by decide)) (Nat.le_of_ble_eq_true rfl) ?_
  refine s_K_kindest hKS hW (fun hf => ?_) (fun r e1 b1 I1 J1 R1 h3 => ?_)
  · have h3 := kt_ok.rf hKS
    have hMS := hMS0.up h3.2.1 h3.2.2.2
    obtain ⟨hM, hE, hpa, hbo, hx⟩ := id hMS
    have hnp4 := hpa.2.1
    refine kw_ald_n x_law_law_734 rfl ?_
    refine kw_ald_n x_law_law_735 rfl ?_
    refine kw_ild_n x_law_law_736 rfl ?_
    refine kw_icon x_law_law_737 ?_
    first | refine kw_iadd_n x_law_law_738 ?_ | refine kw_iadd x_law_law_738 ?_
    refine kw_sld_n x_law_law_739 (by omega) (by omega) ?_
    refine c_law_law_740 (by exact kt_kdo (k := 113) rfl (by decide)) (Nat.le_of_ble_eq_true rfl) ?_
    refine s_M_kindest hM hE hW (fun hfq => ?_) (fun rq e1q b1q I2 hl hEq => ?_)
    · refine kw_ic_eq x_law_law_743 (fun _ => ?_) (fun h => absurd rfl h)
      exact next _ _ _ _ _ _ _ _ (kt_LI.same h3 hMS hW hP)
    · exact absurd ⟨rq, Nat.zero_le _, b1q, e1q⟩ hf
  · have hMS := hMS0.up h3.2.1 h3.2.2.2
    obtain ⟨hM, hE, hpa, hbo, hx⟩ := id hMS
    have hnp4 := hpa.2.1
    refine kw_ald_n x_law_law_734 rfl ?_
    refine kw_ald_n x_law_law_735 rfl ?_
    refine kw_ild_n x_law_law_736 rfl ?_
    refine kw_icon x_law_law_737 ?_
    first | refine kw_iadd_n x_law_law_738 ?_ | refine kw_iadd x_law_law_738 ?_
    refine kw_sld_n x_law_law_739 (by omega) (by omega) ?_
    refine c_law_law_740 (by exact kt_kdo (k := 113) rfl (by decide)) (Nat.le_of_ble_eq_true rfl) ?_
    refine s_M_kindest hM hE hW (fun hfq => ?_) (fun rq e1q b1q I2 hl hEq => ?_)
    · exact absurd ⟨r, Nat.zero_le _, b1, e1⟩ hfq
    · obtain rfl : rq = r := kt_inj (e1.symm.trans e1q) (by omega) (by omega)
      refine kw_ic_eq x_law_law_743 (fun _ => ?_) (fun h => absurd rfl h)
      exact next _ _ _ _ _ _ _ _ (kt_LI.ly h3 hMS hl hEq hW hP)
theorem s_law_18 (hLI : kt_LI P np PX X ty tx I J R) {i : Nat} (hi : i + 5 ≤ kt_L P) (hL : kt_L P ≤ 2560) (next : ∀ np PX X ty tx I J R, kt_LI P np PX X ty tx I J R → KW P i_law_law 125 846 [some (.ref (kt_b P)), some (.ref (kt_z P)), some (.ref (kt_z P + 113)), some (.int (nI i))] [] 125 I J R Q) :
    KW P i_law_law 125 748 [some (.ref (kt_b P)), some (.ref (kt_z P)), some (.ref (kt_z P + 113)), some (.int (nI i))] [] 125 I J R Q := by
  obtain ⟨hKS, hMS0, hW, hP⟩ := hLI
  have hn := hW.2.2.1
  have hT5 := hW.2.1
  have hr3 := hW.1
  have hty := hMS0.2.2.2.2.2.1
  refine kw_ald_n x_law_law_748 rfl ?_
  refine c_law_law_749 (by exact kt_kdo (k := 0) rfl (by decide)) (Nat.le_of_ble_eq_true rfl) ?_
  refine s_K_rounds hKS hW (fun I1 J1 R1 h3 => ?_)
  · have hMS := hMS0.up h3.2.1 h3.2.2.2
    obtain ⟨hM, hE, hpa, hbo, hx⟩ := id hMS
    have hnp4 := hpa.2.1
    refine kw_ald_n x_law_law_752 rfl ?_
    refine c_law_law_753 (by exact kt_kdo (k := 113) rfl (by decide)) (Nat.le_of_ble_eq_true rfl) ?_
    refine s_M_rounds hM hE hW (fun I2 hl hEq => ?_)
    · refine kw_ic_eq x_law_law_756 (fun _ => ?_) (fun h => absurd rfl h)
      exact next _ _ _ _ _ _ _ _ (kt_LI.ly h3 hMS hl hEq hW hP)
theorem s_law_19 (hLI : kt_LI P np PX X ty tx I J R) {i : Nat} (hi : i + 5 ≤ kt_L P) (hL : kt_L P ≤ 2560) (next : ∀ np PX X ty tx I J R, kt_LI P np PX X ty tx I J R → KW P i_law_law 125 846 [some (.ref (kt_b P)), some (.ref (kt_z P)), some (.ref (kt_z P + 113)), some (.int (nI i))] [] 125 I J R Q) :
    KW P i_law_law 125 761 [some (.ref (kt_b P)), some (.ref (kt_z P)), some (.ref (kt_z P + 113)), some (.int (nI i))] [] 125 I J R Q := by
  obtain ⟨hKS, hMS0, hW, hP⟩ := hLI
  have hn := hW.2.2.1
  have hT5 := hW.2.1
  have hr3 := hW.1
  have hty := hMS0.2.2.2.2.2.1
  refine kw_ald_n x_law_law_761 rfl ?_
  refine c_law_law_762 (by exact kt_kdo (k := 0) rfl (by decide)) (Nat.le_of_ble_eq_true rfl) ?_
  refine s_K_undo hKS hW (fun h0 I1 J1 R1 h3 => ?_) (fun w e1 I1 J1 R1 h3 => ?_)
  · have hMS := hMS0.up h3.2.1 h3.2.2.2
    obtain ⟨hM, hE, hpa, hbo, hx⟩ := id hMS
    have hnp4 := hpa.2.1
    refine kw_ald_n x_law_law_765 rfl ?_
    refine c_law_law_766 (by exact kt_kdo (k := 113) rfl (by decide)) (Nat.le_of_ble_eq_true rfl) ?_
    refine s_M_undo hM hE hW hpa (fun h0q => ?_) (fun wq e1q I2 hl hEq hpaq => ?_)
    · refine kw_ic_eq x_law_law_769 (fun _ => ?_) (fun h => absurd rfl h)
      exact next _ _ _ _ _ _ _ _ (kt_LI.same h3 hMS hW hP)
    · omega
  · have hMS := hMS0.up h3.2.1 h3.2.2.2
    obtain ⟨hM, hE, hpa, hbo, hx⟩ := id hMS
    have hnp4 := hpa.2.1
    refine kw_ald_n x_law_law_765 rfl ?_
    refine c_law_law_766 (by exact kt_kdo (k := 113) rfl (by decide)) (Nat.le_of_ble_eq_true rfl) ?_
    refine s_M_undo hM hE hW hpa (fun h0q => ?_) (fun wq e1q I2 hl hEq hpaq => ?_)
    · omega
    · obtain rfl : wq = w := (by omega)
      refine kw_ic_eq x_law_law_769 (fun _ => ?_) (fun h => absurd rfl h)
      exact next _ _ _ _ _ _ _ _ (kt_LI.lc h3 hMS hl hEq hpaq (hP _ (by omega)) (fun j hj => hP j (by omega)))
theorem s_law_20 (hLI : kt_LI P np PX X ty tx I J R) {i : Nat} (hi : i + 5 ≤ kt_L P) (hL : kt_L P ≤ 2560) (next : ∀ np PX X ty tx I J R, kt_LI P np PX X ty tx I J R → KW P i_law_law 125 846 [some (.ref (kt_b P)), some (.ref (kt_z P)), some (.ref (kt_z P + 113)), some (.int (nI i))] [] 125 I J R Q) :
    KW P i_law_law 125 774 [some (.ref (kt_b P)), some (.ref (kt_z P)), some (.ref (kt_z P + 113)), some (.int (nI i))] [] 125 I J R Q := by
  obtain ⟨hKS, hMS0, hW, hP⟩ := hLI
  have hn := hW.2.2.1
  have hT5 := hW.2.1
  have hr3 := hW.1
  have hty := hMS0.2.2.2.2.2.1
  refine kw_ald_n x_law_law_774 rfl ?_
  refine kw_ald_n x_law_law_775 rfl ?_
  refine kw_ild_n x_law_law_776 rfl ?_
  refine kw_icon x_law_law_777 ?_
  first | refine kw_iadd_n x_law_law_778 ?_ | refine kw_iadd x_law_law_778 ?_
  refine kw_sld_n x_law_law_779 (by omega) (by omega) ?_
  refine c_law_law_780 (by exact kt_kdo (k := 0) rfl (by decide)) (Nat.le_of_ble_eq_true rfl) ?_
  refine s_K_type hKS hW (fun hf I1 J1 R1 h3 => ?_) (fun hf h80 I1 J1 R1 h3 => ?_) (fun v e1 b1 b2 b3 I1 J1 R1 h3 => ?_)
  · have hMS := hMS0.up h3.2.1 h3.2.2.2
    obtain ⟨hM, hE, hpa, hbo, hx⟩ := id hMS
    have hnp4 := hpa.2.1
    refine kw_ald_n x_law_law_783 rfl ?_
    refine kw_ald_n x_law_law_784 rfl ?_
    refine kw_ild_n x_law_law_785 rfl ?_
    refine kw_icon x_law_law_786 ?_
    first | refine kw_iadd_n x_law_law_787 ?_ | refine kw_iadd x_law_law_787 ?_
    refine kw_sld_n x_law_law_788 (by omega) (by omega) ?_
    refine c_law_law_789 (by exact kt_kdo (k := 113) rfl (by decide)) (Nat.le_of_ble_eq_true rfl) ?_
    refine s_M_type hM hx.1 hty (fun hfq => ?_) (fun hfq h80q => ?_) (fun vq e1q b1q b2q b3q => ?_)
    · refine kw_ic_eq x_law_law_792 (fun _ => ?_) (fun h => absurd rfl h)
      exact next _ _ _ _ _ _ _ _ (kt_LI.same h3 hMS hW hP)
    · exact absurd hfq hf
    · exact absurd ⟨vq, b1q, b2q, e1q⟩ hf
  · have hMS := hMS0.up h3.2.1 h3.2.2.2
    obtain ⟨hM, hE, hpa, hbo, hx⟩ := id hMS
    have hnp4 := hpa.2.1
    refine kw_ald_n x_law_law_783 rfl ?_
    refine kw_ald_n x_law_law_784 rfl ?_
    refine kw_ild_n x_law_law_785 rfl ?_
    refine kw_icon x_law_law_786 ?_
    first | refine kw_iadd_n x_law_law_787 ?_ | refine kw_iadd x_law_law_787 ?_
    refine kw_sld_n x_law_law_788 (by omega) (by omega) ?_
    refine c_law_law_789 (by exact kt_kdo (k := 113) rfl (by decide)) (Nat.le_of_ble_eq_true rfl) ?_
    refine s_M_type hM hx.1 hty (fun hfq => ?_) (fun hfq h80q => ?_) (fun vq e1q b1q b2q b3q => ?_)
    · exact absurd hf hfq
    · refine kw_ic_eq x_law_law_792 (fun _ => ?_) (fun h => absurd rfl h)
      exact next _ _ _ _ _ _ _ _ (kt_LI.same h3 hMS hW hP)
    · omega
  · have hMS := hMS0.up h3.2.1 h3.2.2.2
    obtain ⟨hM, hE, hpa, hbo, hx⟩ := id hMS
    have hnp4 := hpa.2.1
    refine kw_ald_n x_law_law_783 rfl ?_
    refine kw_ald_n x_law_law_784 rfl ?_
    refine kw_ild_n x_law_law_785 rfl ?_
    refine kw_icon x_law_law_786 ?_
    first | refine kw_iadd_n x_law_law_787 ?_ | refine kw_iadd x_law_law_787 ?_
    refine kw_sld_n x_law_law_788 (by omega) (by omega) ?_
    refine c_law_law_789 (by exact kt_kdo (k := 113) rfl (by decide)) (Nat.le_of_ble_eq_true rfl) ?_
    refine s_M_type hM hx.1 hty (fun hfq => ?_) (fun hfq h80q => ?_) (fun vq e1q b1q b2q b3q => ?_)
    · exact absurd ⟨v, b1, b2, e1⟩ hfq
    · omega
    · obtain rfl : vq = v := kt_inj (e1.symm.trans e1q) (by omega) (by omega)
      refine kw_ic_eq x_law_law_792 (fun _ => ?_) (fun h => absurd rfl h)
      exact next _ _ _ _ _ _ _ _ (kt_LI.tp h3 hMS ⟨by omega, by omega⟩ b3 hW hP)
theorem s_law_22 (hLI : kt_LI P np PX X ty tx I J R) {i : Nat} (hi : i + 5 ≤ kt_L P) (hL : kt_L P ≤ 2560) (next : ∀ np PX X ty tx I J R, kt_LI P np PX X ty tx I J R → KW P i_law_law 125 846 [some (.ref (kt_b P)), some (.ref (kt_z P)), some (.ref (kt_z P + 113)), some (.int (nI i))] [] 125 I J R Q) :
    KW P i_law_law 125 810 [some (.ref (kt_b P)), some (.ref (kt_z P)), some (.ref (kt_z P + 113)), some (.int (nI i))] [] 125 I J R Q := by
  obtain ⟨hKS, hMS0, hW, hP⟩ := hLI
  have hn := hW.2.2.1
  have hT5 := hW.2.1
  have hr3 := hW.1
  have hty := hMS0.2.2.2.2.2.1
  refine kw_ald_n x_law_law_810 rfl ?_
  refine kw_ald_n x_law_law_811 rfl ?_
  refine kw_ild_n x_law_law_812 rfl ?_
  refine kw_icon x_law_law_813 ?_
  first | refine kw_iadd_n x_law_law_814 ?_ | refine kw_iadd x_law_law_814 ?_
  refine kw_sld_n x_law_law_815 (by omega) (by omega) ?_
  refine c_law_law_816 (by exact kt_kdo (k := 0) rfl (by decide)) (Nat.le_of_ble_eq_true rfl) ?_
  refine s_K_fault hKS hW (fun hf I1 J1 R1 h3 => ?_) (fun r e1 b1 I1 J1 R1 h3 => ?_)
  · have hMS := hMS0.up h3.2.1 h3.2.2.2
    obtain ⟨hM, hE, hpa, hbo, hx⟩ := id hMS
    have hnp4 := hpa.2.1
    refine kw_ald_n x_law_law_819 rfl ?_
    refine kw_ald_n x_law_law_820 rfl ?_
    refine kw_ild_n x_law_law_821 rfl ?_
    refine kw_icon x_law_law_822 ?_
    first | refine kw_iadd_n x_law_law_823 ?_ | refine kw_iadd x_law_law_823 ?_
    refine kw_sld_n x_law_law_824 (by omega) (by omega) ?_
    refine c_law_law_825 (by exact kt_kdo (k := 113) rfl (by decide)) (Nat.le_of_ble_eq_true rfl) ?_
    refine s_M_fault hM hE hW hx hpa hbo (fun hfq => ?_) (fun rq e1q b1q I2 hl hEq hpaq hboq => ?_)
    · refine kw_ic_eq x_law_law_828 (fun _ => ?_) (fun h => absurd rfl h)
      exact next _ _ _ _ _ _ _ _ (kt_LI.same h3 hMS hW hP)
    · exact absurd ⟨rq, Nat.zero_le _, b1q, e1q⟩ hf
  · have hMS := hMS0.up h3.2.1 h3.2.2.2
    obtain ⟨hM, hE, hpa, hbo, hx⟩ := id hMS
    have hnp4 := hpa.2.1
    refine kw_ald_n x_law_law_819 rfl ?_
    refine kw_ald_n x_law_law_820 rfl ?_
    refine kw_ild_n x_law_law_821 rfl ?_
    refine kw_icon x_law_law_822 ?_
    first | refine kw_iadd_n x_law_law_823 ?_ | refine kw_iadd x_law_law_823 ?_
    refine kw_sld_n x_law_law_824 (by omega) (by omega) ?_
    refine c_law_law_825 (by exact kt_kdo (k := 113) rfl (by decide)) (Nat.le_of_ble_eq_true rfl) ?_
    refine s_M_fault hM hE hW hx hpa hbo (fun hfq => ?_) (fun rq e1q b1q I2 hl hEq hpaq hboq => ?_)
    · exact absurd ⟨r, Nat.zero_le _, b1, e1⟩ hfq
    · obtain rfl : rq = r := kt_inj (e1.symm.trans e1q) (by omega) (by omega)
      refine kw_ic_eq x_law_law_828 (fun _ => ?_) (fun h => absurd rfl h)
      exact next _ _ _ _ _ _ _ _ (kt_LI.lg h3 hMS hl hEq hpaq hboq hW hP)
theorem s_law_23 (hLI : kt_LI P np PX X ty tx I J R) {i : Nat} (hi : i + 5 ≤ kt_L P) (hL : kt_L P ≤ 2560) (next : ∀ np PX X ty tx I J R, kt_LI P np PX X ty tx I J R → KW P i_law_law 125 846 [some (.ref (kt_b P)), some (.ref (kt_z P)), some (.ref (kt_z P + 113)), some (.int (nI i))] [] 125 I J R Q) :
    KW P i_law_law 125 833 [some (.ref (kt_b P)), some (.ref (kt_z P)), some (.ref (kt_z P + 113)), some (.int (nI i))] [] 125 I J R Q := by
  obtain ⟨hKS, hMS0, hW, hP⟩ := hLI
  have hn := hW.2.2.1
  have hT5 := hW.2.1
  have hr3 := hW.1
  have hty := hMS0.2.2.2.2.2.1
  refine kw_ald_n x_law_law_833 rfl ?_
  refine c_law_law_834 (by exact kt_kdo (k := 0) rfl (by decide)) (Nat.le_of_ble_eq_true rfl) ?_
  refine s_K_play hKS hW (fun hz I1 J1 R1 h3 => ?_) (fun hz I1 J1 R1 h3 => ?_)
  · have hMS := hMS0.up h3.2.1 h3.2.2.2
    obtain ⟨hM, hE, hpa, hbo, hx⟩ := id hMS
    have hnp4 := hpa.2.1
    refine kw_ald_n x_law_law_837 rfl ?_
    refine c_law_law_838 (by exact kt_kdo (k := 113) rfl (by decide)) (Nat.le_of_ble_eq_true rfl) ?_
    refine s_M_play hM hE hW hx hpa hbo (fun hzq I2 hl hEq hpaq hboq => ?_) (fun hzq hwq I2 hl hEq hpaq hboq => ?_)
    · refine kw_ic_eq x_law_law_841 (fun _ => ?_) (fun h => absurd rfl h)
      exact next _ _ _ _ _ _ _ _ (kt_LI.lg h3 hMS hl hEq hpaq hboq hW hP)
    · exact absurd hzq hz
  · have hMS := hMS0.up h3.2.1 h3.2.2.2
    obtain ⟨hM, hE, hpa, hbo, hx⟩ := id hMS
    have hnp4 := hpa.2.1
    refine kw_ald_n x_law_law_837 rfl ?_
    refine c_law_law_838 (by exact kt_kdo (k := 113) rfl (by decide)) (Nat.le_of_ble_eq_true rfl) ?_
    refine s_M_play hM hE hW hx hpa hbo (fun hzq I2 hl hEq hpaq hboq => ?_) (fun hzq hwq I2 hl hEq hpaq hboq => ?_)
    · exact absurd hz hzq
    · refine kw_ic_eq x_law_law_841 (fun _ => ?_) (fun h => absurd rfl h)
      exact next _ _ _ _ _ _ _ _ (kt_LI.lg h3 hMS hl hEq hpaq hboq hwq (kt_wf_pp hW hP))
theorem s_law_21 (hLI : kt_LI P np PX X ty tx I J R) {i : Nat} (hi : i + 5 ≤ kt_L P) (hL : kt_L P ≤ 2560) (next : ∀ np PX X ty tx I J R, kt_LI P np PX X ty tx I J R → KW P i_law_law 125 846 [some (.ref (kt_b P)), some (.ref (kt_z P)), some (.ref (kt_z P + 113)), some (.int (nI i))] [] 125 I J R Q) :
    KW P i_law_law 125 797 [some (.ref (kt_b P)), some (.ref (kt_z P)), some (.ref (kt_z P + 113)), some (.int (nI i))] [] 125 I J R Q := by
  obtain ⟨hKS, hMS0, hW, hP⟩ := hLI
  refine kw_ald_n x_law_law_797 rfl ?_
  refine c_law_law_798 (by exact kt_kdo (k := 0) rfl (by decide)) (Nat.le_of_ble_eq_true rfl) ?_
  refine s_K_clearText hKS hW (fun I1 J1 R1 h3 => ?_)
  have hMS := hMS0.up h3.2.1 h3.2.2.2
  obtain ⟨hM, hE, hpa, hbo, hx⟩ := id hMS
  refine kw_ald_n x_law_law_801 rfl ?_
  refine c_law_law_802 (by exact kt_kdo (k := 113) rfl (by decide)) (Nat.le_of_ble_eq_true rfl) ?_
  refine s_M_clearText hM hx.1 ?_
  refine kw_ic_eq x_law_law_805 (fun _ => ?_) (fun h => absurd rfl h)
  exact next _ _ _ _ _ _ _ _ (kt_LI.cl h3 hMS hW hP)
end LC
