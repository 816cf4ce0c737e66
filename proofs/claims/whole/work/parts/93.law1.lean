/-! the law: its loop over a relation R of both states; each pair of calls is a hypothesis -/
abbrev xv_R : Type := xv_Gr → xv_I → xv_J → Prop
/-- the class's call answers v, and leaves a state from which the model's call answers v too, with R again -/
def PrI (R : xv_R) (l : Launch) (D : va_G) (m1 m2 : xv_MT) (a1 a2 : List (Option Value)) (G : xv_Gr) (I : xv_I) (J : xv_J) : Prop := ∀ Q1 : xv_Po, (∀ (v : Int32) (G2 : xv_Gr) (I2 : xv_I) (J2 : xv_J), xg_ok G2 → (∀ Q2 : xv_Po, (∀ G3 I3 J3, R G3 I3 J3 → Q2 (some (.int v)) G3 I3 J3) → xv_Ev l D 99 m2 none 0 a2 [] G2 I2 J2 0 0 Q2) → Q1 (some (.int v)) G2 I2 J2) → xv_Ev l D 99 m1 none 0 a1 [] G I J 0 0 Q1
def PrL (R : xv_R) (l : Launch) (D : va_G) (m1 m2 : xv_MT) (a1 a2 : List (Option Value)) (G : xv_Gr) (I : xv_I) (J : xv_J) : Prop := ∀ Q1 : xv_Po, (∀ (v : Int64) (G2 : xv_Gr) (I2 : xv_I) (J2 : xv_J), xg_ok G2 → (∀ Q2 : xv_Po, (∀ G3 I3 J3, R G3 I3 J3 → Q2 (some (.long v)) G3 I3 J3) → xv_Ev l D 99 m2 none 0 a2 [] G2 I2 J2 0 0 Q2) → Q1 (some (.long v)) G2 I2 J2) → xv_Ev l D 99 m1 none 0 a1 [] G I J 0 0 Q1
theorem lw_c0 {R : xv_R} {l : Launch} {D : va_G} {L i uc us : Nat} {xs : Nat → Int32} {Q : xv_Po} (hL : L ≤ 3072) (hok : ∀ G I J, R G I J → xg_ok G) (hk : ∀ (G : xv_Gr) (I : xv_I) (J : xv_J) (x : Int32), R G I J → PrI R l D mX10_width mX11_width [some (.ref 0), some (.int x), none] [some (.ref 40), some (.int x), none] G I J) (hi : i + 6 ≤ L) (hc1 : uc + 4 ≤ 600000) (hc2 : us + 1211 ≤ 7302250) {G : xv_Gr} {I : xv_I} {J : xv_J} (hR : R G I J) (kk : ∀ G2 I2 J2 uc2 us2, uc2 ≤ uc + 4 → us2 ≤ us + 1211 → R G2 I2 J2 → xv_Ev l D 100 mL_law (some (L, xs)) 1504 [some (.ref xv_SC), some (.ref 0), some (.ref 40), some (.int (nI i))] [] G2 I2 J2 uc2 us2 Q) : xv_Ev l D 100 mL_law (some (L, xs)) 216 [some (.ref xv_SC), some (.ref 0), some (.ref 40), some (.int (nI i))] [] G I J uc us Q := by
  have hG := hok G I J hR
  have hu1 : uc ≤ mL_law.2.2.2.2.1 := Nat.le_trans (Nat.le_add_right _ _) hc1
  have hu2 : us ≤ mL_law.2.2.2.2.2 := Nat.le_trans (Nat.le_add_right _ _) hc2
  refine xv_aload_n dL_law_216 rfl rfl ?_
  refine xv_aload_n dL_law_217 rfl rfl ?_
  refine xv_iload_n dL_law_218 rfl rfl ?_
  refine xv_iconst (v := nI 1) dL_law_219 rfl ?_
  refine xv_iadd dL_law_220 ?_
  refine xv_nmI (nI_add _ _) ?_
  refine xv_sld dL_law_221 (xv_ixn (by omega) (by omega)) ?_
  refine xv_callV0 (As := [_]) dL_law_222 cl_L_13 rfl rfl rfl rfl (go_0 hG) rfl rfl (Nat.le_of_ble_eq_true rfl) (Nat.le_of_ble_eq_true rfl) hu1 hu2 ?_
  refine hk G I J _ hR  _ (fun v G2 I2 J2 hg2 hm => ?_)
  · refine xv_aload_n dL_law_225 rfl rfl ?_
    refine xv_aload_n dL_law_226 rfl rfl ?_
    refine xv_iload_n dL_law_227 rfl rfl ?_
    refine xv_iconst (v := nI 1) dL_law_228 rfl ?_
    refine xv_iadd dL_law_229 ?_
    refine xv_nmI (nI_add _ _) ?_
    refine xv_sld dL_law_230 (xv_ixn (by omega) (by omega)) ?_
    refine xv_callV0 (As := [_]) dL_law_231 cl_L_17 rfl rfl rfl rfl (go_40 hg2) rfl rfl (Nat.le_of_ble_eq_true rfl) (Nat.le_of_ble_eq_true rfl) hu1 hu2 ?_
    refine hm _ (fun G3 I3 J3 hR3 => ?_)
    · refine xv_icmp_eq (tgt := 1504) dL_law_234 rfl (fun c_234 => ?_) (fun c_234 => absurd rfl c_234)
      exact kk G3 I3 J3 _ _ (Nat.le_add_right _ _) (Nat.le_add_right _ _) hR3

theorem lw_c1 {R : xv_R} {l : Launch} {D : va_G} {L i uc us : Nat} {xs : Nat → Int32} {Q : xv_Po} (hL : L ≤ 3072) (hok : ∀ G I J, R G I J → xg_ok G) (hk : ∀ (G : xv_Gr) (I : xv_I) (J : xv_J) (x : Int32) (y : Int32) (z : Int32) (w : Int32), R G I J → (w = 0 ∨ w = 1) → PrI R l D mX10_piece mX11_piece [some (.ref 0), some (.int x), some (.int y), some (.int z), some (.int w)] [some (.ref 40), some (.int x), some (.int y), some (.int z), some (.int w)] G I J) (hi : i + 6 ≤ L) (hc1 : uc + 4 ≤ 600000) (hc2 : us + 1211 ≤ 7302250) {G : xv_Gr} {I : xv_I} {J : xv_J} (hR : R G I J) (kk : ∀ G2 I2 J2 uc2 us2, uc2 ≤ uc + 4 → us2 ≤ us + 1211 → R G2 I2 J2 → xv_Ev l D 100 mL_law (some (L, xs)) 1504 [some (.ref xv_SC), some (.ref 0), some (.ref 40), some (.int (nI i))] [] G2 I2 J2 uc2 us2 Q) : xv_Ev l D 100 mL_law (some (L, xs)) 239 [some (.ref xv_SC), some (.ref 0), some (.ref 40), some (.int (nI i))] [] G I J uc us Q := by
  have hG := hok G I J hR
  have hu1 : uc ≤ mL_law.2.2.2.2.1 := Nat.le_trans (Nat.le_add_right _ _) hc1
  have hu2 : us ≤ mL_law.2.2.2.2.2 := Nat.le_trans (Nat.le_add_right _ _) hc2
  refine xv_aload_n dL_law_239 rfl rfl ?_
  refine xv_aload_n dL_law_240 rfl rfl ?_
  refine xv_iload_n dL_law_241 rfl rfl ?_
  refine xv_iconst (v := nI 1) dL_law_242 rfl ?_
  refine xv_iadd dL_law_243 ?_
  refine xv_nmI (nI_add _ _) ?_
  refine xv_sld dL_law_244 (xv_ixn (by omega) (by omega)) ?_
  refine xv_aload_n dL_law_245 rfl rfl ?_
  refine xv_iload_n dL_law_246 rfl rfl ?_
  refine xv_iconst (v := nI 2) dL_law_247 rfl ?_
  refine xv_iadd dL_law_248 ?_
  refine xv_nmI (nI_add _ _) ?_
  refine xv_sld dL_law_249 (xv_ixn (by omega) (by omega)) ?_
  refine xv_aload_n dL_law_250 rfl rfl ?_
  refine xv_iload_n dL_law_251 rfl rfl ?_
  refine xv_iconst (v := nI 3) dL_law_252 rfl ?_
  refine xv_iadd dL_law_253 ?_
  refine xv_nmI (nI_add _ _) ?_
  refine xv_sld dL_law_254 (xv_ixn (by omega) (by omega)) ?_
  refine xv_aload_n dL_law_255 rfl rfl ?_
  refine xv_iload_n dL_law_256 rfl rfl ?_
  refine xv_iconst (v := nI 4) dL_law_257 rfl ?_
  refine xv_iadd dL_law_258 ?_
  refine xv_nmI (nI_add _ _) ?_
  refine xv_sld dL_law_259 (xv_ixn (by omega) (by omega)) ?_
  refine xv_if_eq (tgt := 267) dL_law_260 rfl (fun c_260 => ?_) (fun c_260 => ?_)
  · refine xv_iconst (v := 0) dL_law_267 rfl ?_
    refine xv_callV0 (As := [_, _, _, _]) dL_law_268 cl_L_18 rfl rfl rfl rfl (go_0 hG) rfl rfl (Nat.le_of_ble_eq_true rfl) (Nat.le_of_ble_eq_true rfl) hu1 hu2 ?_
    refine hk G I J _ _ _ _ hR (Or.inl rfl) _ (fun v G2 I2 J2 hg2 hm => ?_)
    · refine xv_aload_n dL_law_271 rfl rfl ?_
      refine xv_aload_n dL_law_272 rfl rfl ?_
      refine xv_iload_n dL_law_273 rfl rfl ?_
      refine xv_iconst (v := nI 1) dL_law_274 rfl ?_
      refine xv_iadd dL_law_275 ?_
      refine xv_nmI (nI_add _ _) ?_
      refine xv_sld dL_law_276 (xv_ixn (by omega) (by omega)) ?_
      refine xv_aload_n dL_law_277 rfl rfl ?_
      refine xv_iload_n dL_law_278 rfl rfl ?_
      refine xv_iconst (v := nI 2) dL_law_279 rfl ?_
      refine xv_iadd dL_law_280 ?_
      refine xv_nmI (nI_add _ _) ?_
      refine xv_sld dL_law_281 (xv_ixn (by omega) (by omega)) ?_
      refine xv_aload_n dL_law_282 rfl rfl ?_
      refine xv_iload_n dL_law_283 rfl rfl ?_
      refine xv_iconst (v := nI 3) dL_law_284 rfl ?_
      refine xv_iadd dL_law_285 ?_
      refine xv_nmI (nI_add _ _) ?_
      refine xv_sld dL_law_286 (xv_ixn (by omega) (by omega)) ?_
      refine xv_aload_n dL_law_287 rfl rfl ?_
      refine xv_iload_n dL_law_288 rfl rfl ?_
      refine xv_iconst (v := nI 4) dL_law_289 rfl ?_
      refine xv_iadd dL_law_290 ?_
      refine xv_nmI (nI_add _ _) ?_
      refine xv_sld dL_law_291 (xv_ixn (by omega) (by omega)) ?_
      refine xv_if_eq (tgt := 299) dL_law_292 rfl (fun c_292 => ?_) (fun c_292 => absurd c_260 c_292)
      refine xv_iconst (v := 0) dL_law_299 rfl ?_
      refine xv_callV0 (As := [_, _, _, _]) dL_law_300 cl_L_22 rfl rfl rfl rfl (go_40 hg2) rfl rfl (Nat.le_of_ble_eq_true rfl) (Nat.le_of_ble_eq_true rfl) hu1 hu2 ?_
      refine hm _ (fun G3 I3 J3 hR3 => ?_)
      · refine xv_icmp_eq (tgt := 1504) dL_law_303 rfl (fun c_303 => ?_) (fun c_303 => absurd rfl c_303)
        exact kk G3 I3 J3 _ _ (Nat.le_add_right _ _) (Nat.le_add_right _ _) hR3
  · refine xv_iconst (v := 1) dL_law_263 rfl ?_
    refine xv_goto (tgt := 268) dL_law_264 rfl ?_
    refine xv_callV0 (As := [_, _, _, _]) dL_law_268 cl_L_18 rfl rfl rfl rfl (go_0 hG) rfl rfl (Nat.le_of_ble_eq_true rfl) (Nat.le_of_ble_eq_true rfl) hu1 hu2 ?_
    refine hk G I J _ _ _ _ hR (Or.inr rfl) _ (fun v G2 I2 J2 hg2 hm => ?_)
    · refine xv_aload_n dL_law_271 rfl rfl ?_
      refine xv_aload_n dL_law_272 rfl rfl ?_
      refine xv_iload_n dL_law_273 rfl rfl ?_
      refine xv_iconst (v := nI 1) dL_law_274 rfl ?_
      refine xv_iadd dL_law_275 ?_
      refine xv_nmI (nI_add _ _) ?_
      refine xv_sld dL_law_276 (xv_ixn (by omega) (by omega)) ?_
      refine xv_aload_n dL_law_277 rfl rfl ?_
      refine xv_iload_n dL_law_278 rfl rfl ?_
      refine xv_iconst (v := nI 2) dL_law_279 rfl ?_
      refine xv_iadd dL_law_280 ?_
      refine xv_nmI (nI_add _ _) ?_
      refine xv_sld dL_law_281 (xv_ixn (by omega) (by omega)) ?_
      refine xv_aload_n dL_law_282 rfl rfl ?_
      refine xv_iload_n dL_law_283 rfl rfl ?_
      refine xv_iconst (v := nI 3) dL_law_284 rfl ?_
      refine xv_iadd dL_law_285 ?_
      refine xv_nmI (nI_add _ _) ?_
      refine xv_sld dL_law_286 (xv_ixn (by omega) (by omega)) ?_
      refine xv_aload_n dL_law_287 rfl rfl ?_
      refine xv_iload_n dL_law_288 rfl rfl ?_
      refine xv_iconst (v := nI 4) dL_law_289 rfl ?_
      refine xv_iadd dL_law_290 ?_
      refine xv_nmI (nI_add _ _) ?_
      refine xv_sld dL_law_291 (xv_ixn (by omega) (by omega)) ?_
      refine xv_if_eq (tgt := 299) dL_law_292 rfl (fun c_292 => absurd c_292 c_260) (fun c_292 => ?_)
      refine xv_iconst (v := 1) dL_law_295 rfl ?_
      refine xv_goto (tgt := 300) dL_law_296 rfl ?_
      refine xv_callV0 (As := [_, _, _, _]) dL_law_300 cl_L_22 rfl rfl rfl rfl (go_40 hg2) rfl rfl (Nat.le_of_ble_eq_true rfl) (Nat.le_of_ble_eq_true rfl) hu1 hu2 ?_
      refine hm _ (fun G3 I3 J3 hR3 => ?_)
      · refine xv_icmp_eq (tgt := 1504) dL_law_303 rfl (fun c_303 => ?_) (fun c_303 => absurd rfl c_303)
        exact kk G3 I3 J3 _ _ (Nat.le_add_right _ _) (Nat.le_add_right _ _) hR3

theorem lw_c2 {R : xv_R} {l : Launch} {D : va_G} {L i uc us : Nat} {xs : Nat → Int32} {Q : xv_Po} (hL : L ≤ 3072) (hok : ∀ G I J, R G I J → xg_ok G) (hk : ∀ (G : xv_Gr) (I : xv_I) (J : xv_J) (x : Int32) (y : Int32), R G I J → PrI R l D mX10_about mX11_about [some (.ref 0), some (.int x), some (.int y)] [some (.ref 40), some (.int x), some (.int y)] G I J) (hi : i + 6 ≤ L) (hc1 : uc + 4 ≤ 600000) (hc2 : us + 1211 ≤ 7302250) {G : xv_Gr} {I : xv_I} {J : xv_J} (hR : R G I J) (kk : ∀ G2 I2 J2 uc2 us2, uc2 ≤ uc + 4 → us2 ≤ us + 1211 → R G2 I2 J2 → xv_Ev l D 100 mL_law (some (L, xs)) 1504 [some (.ref xv_SC), some (.ref 0), some (.ref 40), some (.int (nI i))] [] G2 I2 J2 uc2 us2 Q) : xv_Ev l D 100 mL_law (some (L, xs)) 308 [some (.ref xv_SC), some (.ref 0), some (.ref 40), some (.int (nI i))] [] G I J uc us Q := by
  have hG := hok G I J hR
  have hu1 : uc ≤ mL_law.2.2.2.2.1 := Nat.le_trans (Nat.le_add_right _ _) hc1
  have hu2 : us ≤ mL_law.2.2.2.2.2 := Nat.le_trans (Nat.le_add_right _ _) hc2
  refine xv_aload_n dL_law_308 rfl rfl ?_
  refine xv_aload_n dL_law_309 rfl rfl ?_
  refine xv_iload_n dL_law_310 rfl rfl ?_
  refine xv_iconst (v := nI 1) dL_law_311 rfl ?_
  refine xv_iadd dL_law_312 ?_
  refine xv_nmI (nI_add _ _) ?_
  refine xv_sld dL_law_313 (xv_ixn (by omega) (by omega)) ?_
  refine xv_aload_n dL_law_314 rfl rfl ?_
  refine xv_iload_n dL_law_315 rfl rfl ?_
  refine xv_iconst (v := nI 2) dL_law_316 rfl ?_
  refine xv_iadd dL_law_317 ?_
  refine xv_nmI (nI_add _ _) ?_
  refine xv_sld dL_law_318 (xv_ixn (by omega) (by omega)) ?_
  refine xv_callV0 (As := [_, _]) dL_law_319 cl_L_23 rfl rfl rfl rfl (go_0 hG) rfl rfl (Nat.le_of_ble_eq_true rfl) (Nat.le_of_ble_eq_true rfl) hu1 hu2 ?_
  refine hk G I J _ _ hR  _ (fun v G2 I2 J2 hg2 hm => ?_)
  · refine xv_aload_n dL_law_322 rfl rfl ?_
    refine xv_aload_n dL_law_323 rfl rfl ?_
    refine xv_iload_n dL_law_324 rfl rfl ?_
    refine xv_iconst (v := nI 1) dL_law_325 rfl ?_
    refine xv_iadd dL_law_326 ?_
    refine xv_nmI (nI_add _ _) ?_
    refine xv_sld dL_law_327 (xv_ixn (by omega) (by omega)) ?_
    refine xv_aload_n dL_law_328 rfl rfl ?_
    refine xv_iload_n dL_law_329 rfl rfl ?_
    refine xv_iconst (v := nI 2) dL_law_330 rfl ?_
    refine xv_iadd dL_law_331 ?_
    refine xv_nmI (nI_add _ _) ?_
    refine xv_sld dL_law_332 (xv_ixn (by omega) (by omega)) ?_
    refine xv_callV0 (As := [_, _]) dL_law_333 cl_L_27 rfl rfl rfl rfl (go_40 hg2) rfl rfl (Nat.le_of_ble_eq_true rfl) (Nat.le_of_ble_eq_true rfl) hu1 hu2 ?_
    refine hm _ (fun G3 I3 J3 hR3 => ?_)
    · refine xv_icmp_eq (tgt := 1504) dL_law_336 rfl (fun c_336 => ?_) (fun c_336 => absurd rfl c_336)
      exact kk G3 I3 J3 _ _ (Nat.le_add_right _ _) (Nat.le_add_right _ _) hR3

theorem lw_c3 {R : xv_R} {l : Launch} {D : va_G} {L i uc us : Nat} {xs : Nat → Int32} {Q : xv_Po} (hL : L ≤ 3072) (hok : ∀ G I J, R G I J → xg_ok G) (hk : ∀ (G : xv_Gr) (I : xv_I) (J : xv_J) (x : Int32) (y : Int32) (z : Int32) (w : Int32), R G I J → PrI R l D mX10_meet mX11_meet [some (.ref 0), some (.int x), some (.int y), some (.int z), some (.int w)] [some (.ref 40), some (.int x), some (.int y), some (.int z), some (.int w)] G I J) (hi : i + 6 ≤ L) (hc1 : uc + 4 ≤ 600000) (hc2 : us + 1211 ≤ 7302250) {G : xv_Gr} {I : xv_I} {J : xv_J} (hR : R G I J) (kk : ∀ G2 I2 J2 uc2 us2, uc2 ≤ uc + 4 → us2 ≤ us + 1211 → R G2 I2 J2 → xv_Ev l D 100 mL_law (some (L, xs)) 1504 [some (.ref xv_SC), some (.ref 0), some (.ref 40), some (.int (nI i))] [] G2 I2 J2 uc2 us2 Q) : xv_Ev l D 100 mL_law (some (L, xs)) 341 [some (.ref xv_SC), some (.ref 0), some (.ref 40), some (.int (nI i))] [] G I J uc us Q := by
  have hG := hok G I J hR
  have hu1 : uc ≤ mL_law.2.2.2.2.1 := Nat.le_trans (Nat.le_add_right _ _) hc1
  have hu2 : us ≤ mL_law.2.2.2.2.2 := Nat.le_trans (Nat.le_add_right _ _) hc2
  refine xv_aload_n dL_law_341 rfl rfl ?_
  refine xv_aload_n dL_law_342 rfl rfl ?_
  refine xv_iload_n dL_law_343 rfl rfl ?_
  refine xv_iconst (v := nI 1) dL_law_344 rfl ?_
  refine xv_iadd dL_law_345 ?_
  refine xv_nmI (nI_add _ _) ?_
  refine xv_sld dL_law_346 (xv_ixn (by omega) (by omega)) ?_
  refine xv_aload_n dL_law_347 rfl rfl ?_
  refine xv_iload_n dL_law_348 rfl rfl ?_
  refine xv_iconst (v := nI 2) dL_law_349 rfl ?_
  refine xv_iadd dL_law_350 ?_
  refine xv_nmI (nI_add _ _) ?_
  refine xv_sld dL_law_351 (xv_ixn (by omega) (by omega)) ?_
  refine xv_aload_n dL_law_352 rfl rfl ?_
  refine xv_iload_n dL_law_353 rfl rfl ?_
  refine xv_iconst (v := nI 3) dL_law_354 rfl ?_
  refine xv_iadd dL_law_355 ?_
  refine xv_nmI (nI_add _ _) ?_
  refine xv_sld dL_law_356 (xv_ixn (by omega) (by omega)) ?_
  refine xv_aload_n dL_law_357 rfl rfl ?_
  refine xv_iload_n dL_law_358 rfl rfl ?_
  refine xv_iconst (v := nI 4) dL_law_359 rfl ?_
  refine xv_iadd dL_law_360 ?_
  refine xv_nmI (nI_add _ _) ?_
  refine xv_sld dL_law_361 (xv_ixn (by omega) (by omega)) ?_
  refine xv_callV0 (As := [_, _, _, _]) dL_law_362 cl_L_28 rfl rfl rfl rfl (go_0 hG) rfl rfl (Nat.le_of_ble_eq_true rfl) (Nat.le_of_ble_eq_true rfl) hu1 hu2 ?_
  refine hk G I J _ _ _ _ hR  _ (fun v G2 I2 J2 hg2 hm => ?_)
  · refine xv_aload_n dL_law_365 rfl rfl ?_
    refine xv_aload_n dL_law_366 rfl rfl ?_
    refine xv_iload_n dL_law_367 rfl rfl ?_
    refine xv_iconst (v := nI 1) dL_law_368 rfl ?_
    refine xv_iadd dL_law_369 ?_
    refine xv_nmI (nI_add _ _) ?_
    refine xv_sld dL_law_370 (xv_ixn (by omega) (by omega)) ?_
    refine xv_aload_n dL_law_371 rfl rfl ?_
    refine xv_iload_n dL_law_372 rfl rfl ?_
    refine xv_iconst (v := nI 2) dL_law_373 rfl ?_
    refine xv_iadd dL_law_374 ?_
    refine xv_nmI (nI_add _ _) ?_
    refine xv_sld dL_law_375 (xv_ixn (by omega) (by omega)) ?_
    refine xv_aload_n dL_law_376 rfl rfl ?_
    refine xv_iload_n dL_law_377 rfl rfl ?_
    refine xv_iconst (v := nI 3) dL_law_378 rfl ?_
    refine xv_iadd dL_law_379 ?_
    refine xv_nmI (nI_add _ _) ?_
    refine xv_sld dL_law_380 (xv_ixn (by omega) (by omega)) ?_
    refine xv_aload_n dL_law_381 rfl rfl ?_
    refine xv_iload_n dL_law_382 rfl rfl ?_
    refine xv_iconst (v := nI 4) dL_law_383 rfl ?_
    refine xv_iadd dL_law_384 ?_
    refine xv_nmI (nI_add _ _) ?_
    refine xv_sld dL_law_385 (xv_ixn (by omega) (by omega)) ?_
    refine xv_callV0 (As := [_, _, _, _]) dL_law_386 cl_L_32 rfl rfl rfl rfl (go_40 hg2) rfl rfl (Nat.le_of_ble_eq_true rfl) (Nat.le_of_ble_eq_true rfl) hu1 hu2 ?_
    refine hm _ (fun G3 I3 J3 hR3 => ?_)
    · refine xv_icmp_eq (tgt := 1504) dL_law_389 rfl (fun c_389 => ?_) (fun c_389 => absurd rfl c_389)
      exact kk G3 I3 J3 _ _ (Nat.le_add_right _ _) (Nat.le_add_right _ _) hR3

theorem lw_c4 {R : xv_R} {l : Launch} {D : va_G} {L i uc us : Nat} {xs : Nat → Int32} {Q : xv_Po} (hL : L ≤ 3072) (hok : ∀ G I J, R G I J → xg_ok G) (hk : ∀ (G : xv_Gr) (I : xv_I) (J : xv_J), R G I J → PrI R l D mX10_apart mX11_apart [some (.ref 0), none] [some (.ref 40), none] G I J) (hi : i + 6 ≤ L) (hc1 : uc + 4 ≤ 600000) (hc2 : us + 1211 ≤ 7302250) {G : xv_Gr} {I : xv_I} {J : xv_J} (hR : R G I J) (kk : ∀ G2 I2 J2 uc2 us2, uc2 ≤ uc + 4 → us2 ≤ us + 1211 → R G2 I2 J2 → xv_Ev l D 100 mL_law (some (L, xs)) 1504 [some (.ref xv_SC), some (.ref 0), some (.ref 40), some (.int (nI i))] [] G2 I2 J2 uc2 us2 Q) : xv_Ev l D 100 mL_law (some (L, xs)) 394 [some (.ref xv_SC), some (.ref 0), some (.ref 40), some (.int (nI i))] [] G I J uc us Q := by
  have hG := hok G I J hR
  have hu1 : uc ≤ mL_law.2.2.2.2.1 := Nat.le_trans (Nat.le_add_right _ _) hc1
  have hu2 : us ≤ mL_law.2.2.2.2.2 := Nat.le_trans (Nat.le_add_right _ _) hc2
  refine xv_aload_n dL_law_394 rfl rfl ?_
  refine xv_callV0 (As := []) dL_law_395 cl_L_33 rfl rfl rfl rfl (go_0 hG) rfl rfl (Nat.le_of_ble_eq_true rfl) (Nat.le_of_ble_eq_true rfl) hu1 hu2 ?_
  refine hk G I J  hR  _ (fun v G2 I2 J2 hg2 hm => ?_)
  · refine xv_aload_n dL_law_398 rfl rfl ?_
    refine xv_callV0 (As := []) dL_law_399 cl_L_37 rfl rfl rfl rfl (go_40 hg2) rfl rfl (Nat.le_of_ble_eq_true rfl) (Nat.le_of_ble_eq_true rfl) hu1 hu2 ?_
    refine hm _ (fun G3 I3 J3 hR3 => ?_)
    · refine xv_icmp_eq (tgt := 1504) dL_law_402 rfl (fun c_402 => ?_) (fun c_402 => absurd rfl c_402)
      exact kk G3 I3 J3 _ _ (Nat.le_add_right _ _) (Nat.le_add_right _ _) hR3

theorem lw_c5 {R : xv_R} {l : Launch} {D : va_G} {L i uc us : Nat} {xs : Nat → Int32} {Q : xv_Po} (hL : L ≤ 3072) (hok : ∀ G I J, R G I J → xg_ok G) (hk : ∀ (G : xv_Gr) (I : xv_I) (J : xv_J), R G I J → PrI R l D mX10_mirror mX11_mirror [some (.ref 0)] [some (.ref 40), none, none, none] G I J) (hi : i + 6 ≤ L) (hc1 : uc + 4 ≤ 600000) (hc2 : us + 1211 ≤ 7302250) {G : xv_Gr} {I : xv_I} {J : xv_J} (hR : R G I J) (kk : ∀ G2 I2 J2 uc2 us2, uc2 ≤ uc + 4 → us2 ≤ us + 1211 → R G2 I2 J2 → xv_Ev l D 100 mL_law (some (L, xs)) 1504 [some (.ref xv_SC), some (.ref 0), some (.ref 40), some (.int (nI i))] [] G2 I2 J2 uc2 us2 Q) : xv_Ev l D 100 mL_law (some (L, xs)) 407 [some (.ref xv_SC), some (.ref 0), some (.ref 40), some (.int (nI i))] [] G I J uc us Q := by
  have hG := hok G I J hR
  have hu1 : uc ≤ mL_law.2.2.2.2.1 := Nat.le_trans (Nat.le_add_right _ _) hc1
  have hu2 : us ≤ mL_law.2.2.2.2.2 := Nat.le_trans (Nat.le_add_right _ _) hc2
  refine xv_aload_n dL_law_407 rfl rfl ?_
  refine xv_callV0 (As := []) dL_law_408 cl_L_38 rfl rfl rfl rfl (go_0 hG) rfl rfl (Nat.le_of_ble_eq_true rfl) (Nat.le_of_ble_eq_true rfl) hu1 hu2 ?_
  refine hk G I J  hR  _ (fun v G2 I2 J2 hg2 hm => ?_)
  · refine xv_aload_n dL_law_411 rfl rfl ?_
    refine xv_callV0 (As := []) dL_law_412 cl_L_41 rfl rfl rfl rfl (go_40 hg2) rfl rfl (Nat.le_of_ble_eq_true rfl) (Nat.le_of_ble_eq_true rfl) hu1 hu2 ?_
    refine hm _ (fun G3 I3 J3 hR3 => ?_)
    · refine xv_icmp_eq (tgt := 1504) dL_law_415 rfl (fun c_415 => ?_) (fun c_415 => absurd rfl c_415)
      exact kk G3 I3 J3 _ _ (Nat.le_add_right _ _) (Nat.le_add_right _ _) hR3

theorem lw_c6 {R : xv_R} {l : Launch} {D : va_G} {L i uc us : Nat} {xs : Nat → Int32} {Q : xv_Po} (hL : L ≤ 3072) (hok : ∀ G I J, R G I J → xg_ok G) (hk : ∀ (G : xv_Gr) (I : xv_I) (J : xv_J) (x : Int32) (y : Int32), R G I J → PrI R l D mX10_stretch mX11_stretch [some (.ref 0), some (.int x), some (.int y)] [some (.ref 40), some (.int x), some (.int y), none, none, none, none] G I J) (hi : i + 6 ≤ L) (hc1 : uc + 4 ≤ 600000) (hc2 : us + 1211 ≤ 7302250) {G : xv_Gr} {I : xv_I} {J : xv_J} (hR : R G I J) (kk : ∀ G2 I2 J2 uc2 us2, uc2 ≤ uc + 4 → us2 ≤ us + 1211 → R G2 I2 J2 → xv_Ev l D 100 mL_law (some (L, xs)) 1504 [some (.ref xv_SC), some (.ref 0), some (.ref 40), some (.int (nI i))] [] G2 I2 J2 uc2 us2 Q) : xv_Ev l D 100 mL_law (some (L, xs)) 420 [some (.ref xv_SC), some (.ref 0), some (.ref 40), some (.int (nI i))] [] G I J uc us Q := by
  have hG := hok G I J hR
  have hu1 : uc ≤ mL_law.2.2.2.2.1 := Nat.le_trans (Nat.le_add_right _ _) hc1
  have hu2 : us ≤ mL_law.2.2.2.2.2 := Nat.le_trans (Nat.le_add_right _ _) hc2
  refine xv_aload_n dL_law_420 rfl rfl ?_
  refine xv_aload_n dL_law_421 rfl rfl ?_
  refine xv_iload_n dL_law_422 rfl rfl ?_
  refine xv_iconst (v := nI 1) dL_law_423 rfl ?_
  refine xv_iadd dL_law_424 ?_
  refine xv_nmI (nI_add _ _) ?_
  refine xv_sld dL_law_425 (xv_ixn (by omega) (by omega)) ?_
  refine xv_aload_n dL_law_426 rfl rfl ?_
  refine xv_iload_n dL_law_427 rfl rfl ?_
  refine xv_iconst (v := nI 2) dL_law_428 rfl ?_
  refine xv_iadd dL_law_429 ?_
  refine xv_nmI (nI_add _ _) ?_
  refine xv_sld dL_law_430 (xv_ixn (by omega) (by omega)) ?_
  refine xv_callV0 (As := [_, _]) dL_law_431 cl_L_42 rfl rfl rfl rfl (go_0 hG) rfl rfl (Nat.le_of_ble_eq_true rfl) (Nat.le_of_ble_eq_true rfl) hu1 hu2 ?_
  refine hk G I J _ _ hR  _ (fun v G2 I2 J2 hg2 hm => ?_)
  · refine xv_aload_n dL_law_434 rfl rfl ?_
    refine xv_aload_n dL_law_435 rfl rfl ?_
    refine xv_iload_n dL_law_436 rfl rfl ?_
    refine xv_iconst (v := nI 1) dL_law_437 rfl ?_
    refine xv_iadd dL_law_438 ?_
    refine xv_nmI (nI_add _ _) ?_
    refine xv_sld dL_law_439 (xv_ixn (by omega) (by omega)) ?_
    refine xv_aload_n dL_law_440 rfl rfl ?_
    refine xv_iload_n dL_law_441 rfl rfl ?_
    refine xv_iconst (v := nI 2) dL_law_442 rfl ?_
    refine xv_iadd dL_law_443 ?_
    refine xv_nmI (nI_add _ _) ?_
    refine xv_sld dL_law_444 (xv_ixn (by omega) (by omega)) ?_
    refine xv_callV0 (As := [_, _]) dL_law_445 cl_L_45 rfl rfl rfl rfl (go_40 hg2) rfl rfl (Nat.le_of_ble_eq_true rfl) (Nat.le_of_ble_eq_true rfl) hu1 hu2 ?_
    refine hm _ (fun G3 I3 J3 hR3 => ?_)
    · refine xv_icmp_eq (tgt := 1504) dL_law_448 rfl (fun c_448 => ?_) (fun c_448 => absurd rfl c_448)
      exact kk G3 I3 J3 _ _ (Nat.le_add_right _ _) (Nat.le_add_right _ _) hR3

theorem lw_c7 {R : xv_R} {l : Launch} {D : va_G} {L i uc us : Nat} {xs : Nat → Int32} {Q : xv_Po} (hL : L ≤ 3072) (hok : ∀ G I J, R G I J → xg_ok G) (hk : ∀ (G : xv_Gr) (I : xv_I) (J : xv_J) (x : Int32) (y : Int32), R G I J → PrI R l D mX10_why mX11_why [some (.ref 0), some (.int x), some (.int y)] [some (.ref 40), some (.int x), some (.int y)] G I J) (hi : i + 6 ≤ L) (hc1 : uc + 4 ≤ 600000) (hc2 : us + 1211 ≤ 7302250) {G : xv_Gr} {I : xv_I} {J : xv_J} (hR : R G I J) (kk : ∀ G2 I2 J2 uc2 us2, uc2 ≤ uc + 4 → us2 ≤ us + 1211 → R G2 I2 J2 → xv_Ev l D 100 mL_law (some (L, xs)) 1504 [some (.ref xv_SC), some (.ref 0), some (.ref 40), some (.int (nI i))] [] G2 I2 J2 uc2 us2 Q) : xv_Ev l D 100 mL_law (some (L, xs)) 453 [some (.ref xv_SC), some (.ref 0), some (.ref 40), some (.int (nI i))] [] G I J uc us Q := by
  have hG := hok G I J hR
  have hu1 : uc ≤ mL_law.2.2.2.2.1 := Nat.le_trans (Nat.le_add_right _ _) hc1
  have hu2 : us ≤ mL_law.2.2.2.2.2 := Nat.le_trans (Nat.le_add_right _ _) hc2
  refine xv_aload_n dL_law_453 rfl rfl ?_
  refine xv_aload_n dL_law_454 rfl rfl ?_
  refine xv_iload_n dL_law_455 rfl rfl ?_
  refine xv_iconst (v := nI 1) dL_law_456 rfl ?_
  refine xv_iadd dL_law_457 ?_
  refine xv_nmI (nI_add _ _) ?_
  refine xv_sld dL_law_458 (xv_ixn (by omega) (by omega)) ?_
  refine xv_aload_n dL_law_459 rfl rfl ?_
  refine xv_iload_n dL_law_460 rfl rfl ?_
  refine xv_iconst (v := nI 2) dL_law_461 rfl ?_
  refine xv_iadd dL_law_462 ?_
  refine xv_nmI (nI_add _ _) ?_
  refine xv_sld dL_law_463 (xv_ixn (by omega) (by omega)) ?_
  refine xv_callV0 (As := [_, _]) dL_law_464 cl_L_46 rfl rfl rfl rfl (go_0 hG) rfl rfl (Nat.le_of_ble_eq_true rfl) (Nat.le_of_ble_eq_true rfl) hu1 hu2 ?_
  refine hk G I J _ _ hR  _ (fun v G2 I2 J2 hg2 hm => ?_)
  · refine xv_aload_n dL_law_467 rfl rfl ?_
    refine xv_aload_n dL_law_468 rfl rfl ?_
    refine xv_iload_n dL_law_469 rfl rfl ?_
    refine xv_iconst (v := nI 1) dL_law_470 rfl ?_
    refine xv_iadd dL_law_471 ?_
    refine xv_nmI (nI_add _ _) ?_
    refine xv_sld dL_law_472 (xv_ixn (by omega) (by omega)) ?_
    refine xv_aload_n dL_law_473 rfl rfl ?_
    refine xv_iload_n dL_law_474 rfl rfl ?_
    refine xv_iconst (v := nI 2) dL_law_475 rfl ?_
    refine xv_iadd dL_law_476 ?_
    refine xv_nmI (nI_add _ _) ?_
    refine xv_sld dL_law_477 (xv_ixn (by omega) (by omega)) ?_
    refine xv_callV0 (As := [_, _]) dL_law_478 cl_L_49 rfl rfl rfl rfl (go_40 hg2) rfl rfl (Nat.le_of_ble_eq_true rfl) (Nat.le_of_ble_eq_true rfl) hu1 hu2 ?_
    refine hm _ (fun G3 I3 J3 hR3 => ?_)
    · refine xv_icmp_eq (tgt := 1504) dL_law_481 rfl (fun c_481 => ?_) (fun c_481 => absurd rfl c_481)
      exact kk G3 I3 J3 _ _ (Nat.le_add_right _ _) (Nat.le_add_right _ _) hR3

theorem lw_c8 {R : xv_R} {l : Launch} {D : va_G} {L i uc us : Nat} {xs : Nat → Int32} {Q : xv_Po} (hL : L ≤ 3072) (hok : ∀ G I J, R G I J → xg_ok G) (hk : ∀ (G : xv_Gr) (I : xv_I) (J : xv_J) (x : Int32) (y : Int32) (z : Int32), R G I J → (z = 0 ∨ z = 1) → PrI R l D mX10_lean mX11_lean [some (.ref 0), some (.int x), some (.int y), some (.int z)] [some (.ref 40), some (.int x), some (.int y), some (.int z), none] G I J) (hi : i + 6 ≤ L) (hc1 : uc + 4 ≤ 600000) (hc2 : us + 1211 ≤ 7302250) {G : xv_Gr} {I : xv_I} {J : xv_J} (hR : R G I J) (kk : ∀ G2 I2 J2 uc2 us2, uc2 ≤ uc + 4 → us2 ≤ us + 1211 → R G2 I2 J2 → xv_Ev l D 100 mL_law (some (L, xs)) 1504 [some (.ref xv_SC), some (.ref 0), some (.ref 40), some (.int (nI i))] [] G2 I2 J2 uc2 us2 Q) : xv_Ev l D 100 mL_law (some (L, xs)) 486 [some (.ref xv_SC), some (.ref 0), some (.ref 40), some (.int (nI i))] [] G I J uc us Q := by
  have hG := hok G I J hR
  have hu1 : uc ≤ mL_law.2.2.2.2.1 := Nat.le_trans (Nat.le_add_right _ _) hc1
  have hu2 : us ≤ mL_law.2.2.2.2.2 := Nat.le_trans (Nat.le_add_right _ _) hc2
  refine xv_aload_n dL_law_486 rfl rfl ?_
  refine xv_aload_n dL_law_487 rfl rfl ?_
  refine xv_iload_n dL_law_488 rfl rfl ?_
  refine xv_iconst (v := nI 1) dL_law_489 rfl ?_
  refine xv_iadd dL_law_490 ?_
  refine xv_nmI (nI_add _ _) ?_
  refine xv_sld dL_law_491 (xv_ixn (by omega) (by omega)) ?_
  refine xv_aload_n dL_law_492 rfl rfl ?_
  refine xv_iload_n dL_law_493 rfl rfl ?_
  refine xv_iconst (v := nI 2) dL_law_494 rfl ?_
  refine xv_iadd dL_law_495 ?_
  refine xv_nmI (nI_add _ _) ?_
  refine xv_sld dL_law_496 (xv_ixn (by omega) (by omega)) ?_
  refine xv_aload_n dL_law_497 rfl rfl ?_
  refine xv_iload_n dL_law_498 rfl rfl ?_
  refine xv_iconst (v := nI 3) dL_law_499 rfl ?_
  refine xv_iadd dL_law_500 ?_
  refine xv_nmI (nI_add _ _) ?_
  refine xv_sld dL_law_501 (xv_ixn (by omega) (by omega)) ?_
  refine xv_if_eq (tgt := 509) dL_law_502 rfl (fun c_502 => ?_) (fun c_502 => ?_)
  · refine xv_iconst (v := 0) dL_law_509 rfl ?_
    refine xv_callV0 (As := [_, _, _]) dL_law_510 cl_L_50 rfl rfl rfl rfl (go_0 hG) rfl rfl (Nat.le_of_ble_eq_true rfl) (Nat.le_of_ble_eq_true rfl) hu1 hu2 ?_
    refine hk G I J _ _ _ hR (Or.inl rfl) _ (fun v G2 I2 J2 hg2 hm => ?_)
    · refine xv_aload_n dL_law_513 rfl rfl ?_
      refine xv_aload_n dL_law_514 rfl rfl ?_
      refine xv_iload_n dL_law_515 rfl rfl ?_
      refine xv_iconst (v := nI 1) dL_law_516 rfl ?_
      refine xv_iadd dL_law_517 ?_
      refine xv_nmI (nI_add _ _) ?_
      refine xv_sld dL_law_518 (xv_ixn (by omega) (by omega)) ?_
      refine xv_aload_n dL_law_519 rfl rfl ?_
      refine xv_iload_n dL_law_520 rfl rfl ?_
      refine xv_iconst (v := nI 2) dL_law_521 rfl ?_
      refine xv_iadd dL_law_522 ?_
      refine xv_nmI (nI_add _ _) ?_
      refine xv_sld dL_law_523 (xv_ixn (by omega) (by omega)) ?_
      refine xv_aload_n dL_law_524 rfl rfl ?_
      refine xv_iload_n dL_law_525 rfl rfl ?_
      refine xv_iconst (v := nI 3) dL_law_526 rfl ?_
      refine xv_iadd dL_law_527 ?_
      refine xv_nmI (nI_add _ _) ?_
      refine xv_sld dL_law_528 (xv_ixn (by omega) (by omega)) ?_
      refine xv_if_eq (tgt := 536) dL_law_529 rfl (fun c_529 => ?_) (fun c_529 => absurd c_502 c_529)
      refine xv_iconst (v := 0) dL_law_536 rfl ?_
      refine xv_callV0 (As := [_, _, _]) dL_law_537 cl_L_54 rfl rfl rfl rfl (go_40 hg2) rfl rfl (Nat.le_of_ble_eq_true rfl) (Nat.le_of_ble_eq_true rfl) hu1 hu2 ?_
      refine hm _ (fun G3 I3 J3 hR3 => ?_)
      · refine xv_icmp_eq (tgt := 1504) dL_law_540 rfl (fun c_540 => ?_) (fun c_540 => absurd rfl c_540)
        exact kk G3 I3 J3 _ _ (Nat.le_add_right _ _) (Nat.le_add_right _ _) hR3
  · refine xv_iconst (v := 1) dL_law_505 rfl ?_
    refine xv_goto (tgt := 510) dL_law_506 rfl ?_
    refine xv_callV0 (As := [_, _, _]) dL_law_510 cl_L_50 rfl rfl rfl rfl (go_0 hG) rfl rfl (Nat.le_of_ble_eq_true rfl) (Nat.le_of_ble_eq_true rfl) hu1 hu2 ?_
    refine hk G I J _ _ _ hR (Or.inr rfl) _ (fun v G2 I2 J2 hg2 hm => ?_)
    · refine xv_aload_n dL_law_513 rfl rfl ?_
      refine xv_aload_n dL_law_514 rfl rfl ?_
      refine xv_iload_n dL_law_515 rfl rfl ?_
      refine xv_iconst (v := nI 1) dL_law_516 rfl ?_
      refine xv_iadd dL_law_517 ?_
      refine xv_nmI (nI_add _ _) ?_
      refine xv_sld dL_law_518 (xv_ixn (by omega) (by omega)) ?_
      refine xv_aload_n dL_law_519 rfl rfl ?_
      refine xv_iload_n dL_law_520 rfl rfl ?_
      refine xv_iconst (v := nI 2) dL_law_521 rfl ?_
      refine xv_iadd dL_law_522 ?_
      refine xv_nmI (nI_add _ _) ?_
      refine xv_sld dL_law_523 (xv_ixn (by omega) (by omega)) ?_
      refine xv_aload_n dL_law_524 rfl rfl ?_
      refine xv_iload_n dL_law_525 rfl rfl ?_
      refine xv_iconst (v := nI 3) dL_law_526 rfl ?_
      refine xv_iadd dL_law_527 ?_
      refine xv_nmI (nI_add _ _) ?_
      refine xv_sld dL_law_528 (xv_ixn (by omega) (by omega)) ?_
      refine xv_if_eq (tgt := 536) dL_law_529 rfl (fun c_529 => absurd c_529 c_502) (fun c_529 => ?_)
      refine xv_iconst (v := 1) dL_law_532 rfl ?_
      refine xv_goto (tgt := 537) dL_law_533 rfl ?_
      refine xv_callV0 (As := [_, _, _]) dL_law_537 cl_L_54 rfl rfl rfl rfl (go_40 hg2) rfl rfl (Nat.le_of_ble_eq_true rfl) (Nat.le_of_ble_eq_true rfl) hu1 hu2 ?_
      refine hm _ (fun G3 I3 J3 hR3 => ?_)
      · refine xv_icmp_eq (tgt := 1504) dL_law_540 rfl (fun c_540 => ?_) (fun c_540 => absurd rfl c_540)
        exact kk G3 I3 J3 _ _ (Nat.le_add_right _ _) (Nat.le_add_right _ _) hR3

theorem lw_c9 {R : xv_R} {l : Launch} {D : va_G} {L i uc us : Nat} {xs : Nat → Int32} {Q : xv_Po} (hL : L ≤ 3072) (hok : ∀ G I J, R G I J → xg_ok G) (hk : ∀ (G : xv_Gr) (I : xv_I) (J : xv_J) (x : Int32), R G I J → PrI R l D mX10_order mX11_order [some (.ref 0), some (.int x)] [some (.ref 40), some (.int x)] G I J) (hi : i + 6 ≤ L) (hc1 : uc + 4 ≤ 600000) (hc2 : us + 1211 ≤ 7302250) {G : xv_Gr} {I : xv_I} {J : xv_J} (hR : R G I J) (kk : ∀ G2 I2 J2 uc2 us2, uc2 ≤ uc + 4 → us2 ≤ us + 1211 → R G2 I2 J2 → xv_Ev l D 100 mL_law (some (L, xs)) 1504 [some (.ref xv_SC), some (.ref 0), some (.ref 40), some (.int (nI i))] [] G2 I2 J2 uc2 us2 Q) : xv_Ev l D 100 mL_law (some (L, xs)) 545 [some (.ref xv_SC), some (.ref 0), some (.ref 40), some (.int (nI i))] [] G I J uc us Q := by
  have hG := hok G I J hR
  have hu1 : uc ≤ mL_law.2.2.2.2.1 := Nat.le_trans (Nat.le_add_right _ _) hc1
  have hu2 : us ≤ mL_law.2.2.2.2.2 := Nat.le_trans (Nat.le_add_right _ _) hc2
  refine xv_aload_n dL_law_545 rfl rfl ?_
  refine xv_aload_n dL_law_546 rfl rfl ?_
  refine xv_iload_n dL_law_547 rfl rfl ?_
  refine xv_iconst (v := nI 1) dL_law_548 rfl ?_
  refine xv_iadd dL_law_549 ?_
  refine xv_nmI (nI_add _ _) ?_
  refine xv_sld dL_law_550 (xv_ixn (by omega) (by omega)) ?_
  refine xv_callV0 (As := [_]) dL_law_551 cl_L_55 rfl rfl rfl rfl (go_0 hG) rfl rfl (Nat.le_of_ble_eq_true rfl) (Nat.le_of_ble_eq_true rfl) hu1 hu2 ?_
  refine hk G I J _ hR  _ (fun v G2 I2 J2 hg2 hm => ?_)
  · refine xv_aload_n dL_law_554 rfl rfl ?_
    refine xv_aload_n dL_law_555 rfl rfl ?_
    refine xv_iload_n dL_law_556 rfl rfl ?_
    refine xv_iconst (v := nI 1) dL_law_557 rfl ?_
    refine xv_iadd dL_law_558 ?_
    refine xv_nmI (nI_add _ _) ?_
    refine xv_sld dL_law_559 (xv_ixn (by omega) (by omega)) ?_
    refine xv_callV0 (As := [_]) dL_law_560 cl_L_58 rfl rfl rfl rfl (go_40 hg2) rfl rfl (Nat.le_of_ble_eq_true rfl) (Nat.le_of_ble_eq_true rfl) hu1 hu2 ?_
    refine hm _ (fun G3 I3 J3 hR3 => ?_)
    · refine xv_icmp_eq (tgt := 1504) dL_law_563 rfl (fun c_563 => ?_) (fun c_563 => absurd rfl c_563)
      exact kk G3 I3 J3 _ _ (Nat.le_add_right _ _) (Nat.le_add_right _ _) hR3

theorem lw_c10 {R : xv_R} {l : Launch} {D : va_G} {L i uc us : Nat} {xs : Nat → Int32} {Q : xv_Po} (hL : L ≤ 3072) (hok : ∀ G I J, R G I J → xg_ok G) (hk : ∀ (G : xv_Gr) (I : xv_I) (J : xv_J) (x : Int32), R G I J → PrI R l D mX10_below mX11_below [some (.ref 0), some (.int x)] [some (.ref 40), some (.int x)] G I J) (hi : i + 6 ≤ L) (hc1 : uc + 4 ≤ 600000) (hc2 : us + 1211 ≤ 7302250) {G : xv_Gr} {I : xv_I} {J : xv_J} (hR : R G I J) (kk : ∀ G2 I2 J2 uc2 us2, uc2 ≤ uc + 4 → us2 ≤ us + 1211 → R G2 I2 J2 → xv_Ev l D 100 mL_law (some (L, xs)) 1504 [some (.ref xv_SC), some (.ref 0), some (.ref 40), some (.int (nI i))] [] G2 I2 J2 uc2 us2 Q) : xv_Ev l D 100 mL_law (some (L, xs)) 568 [some (.ref xv_SC), some (.ref 0), some (.ref 40), some (.int (nI i))] [] G I J uc us Q := by
  have hG := hok G I J hR
  have hu1 : uc ≤ mL_law.2.2.2.2.1 := Nat.le_trans (Nat.le_add_right _ _) hc1
  have hu2 : us ≤ mL_law.2.2.2.2.2 := Nat.le_trans (Nat.le_add_right _ _) hc2
  refine xv_aload_n dL_law_568 rfl rfl ?_
  refine xv_aload_n dL_law_569 rfl rfl ?_
  refine xv_iload_n dL_law_570 rfl rfl ?_
  refine xv_iconst (v := nI 1) dL_law_571 rfl ?_
  refine xv_iadd dL_law_572 ?_
  refine xv_nmI (nI_add _ _) ?_
  refine xv_sld dL_law_573 (xv_ixn (by omega) (by omega)) ?_
  refine xv_callV0 (As := [_]) dL_law_574 cl_L_59 rfl rfl rfl rfl (go_0 hG) rfl rfl (Nat.le_of_ble_eq_true rfl) (Nat.le_of_ble_eq_true rfl) hu1 hu2 ?_
  refine hk G I J _ hR  _ (fun v G2 I2 J2 hg2 hm => ?_)
  · refine xv_aload_n dL_law_577 rfl rfl ?_
    refine xv_aload_n dL_law_578 rfl rfl ?_
    refine xv_iload_n dL_law_579 rfl rfl ?_
    refine xv_iconst (v := nI 1) dL_law_580 rfl ?_
    refine xv_iadd dL_law_581 ?_
    refine xv_nmI (nI_add _ _) ?_
    refine xv_sld dL_law_582 (xv_ixn (by omega) (by omega)) ?_
    refine xv_callV0 (As := [_]) dL_law_583 cl_L_62 rfl rfl rfl rfl (go_40 hg2) rfl rfl (Nat.le_of_ble_eq_true rfl) (Nat.le_of_ble_eq_true rfl) hu1 hu2 ?_
    refine hm _ (fun G3 I3 J3 hR3 => ?_)
    · refine xv_icmp_eq (tgt := 1504) dL_law_586 rfl (fun c_586 => ?_) (fun c_586 => absurd rfl c_586)
      exact kk G3 I3 J3 _ _ (Nat.le_add_right _ _) (Nat.le_add_right _ _) hR3

theorem lw_c11 {R : xv_R} {l : Launch} {D : va_G} {L i uc us : Nat} {xs : Nat → Int32} {Q : xv_Po} (hL : L ≤ 3072) (hok : ∀ G I J, R G I J → xg_ok G) (hk : ∀ (G : xv_Gr) (I : xv_I) (J : xv_J) (x : Int32) (y : Int32) (z : Int32), R G I J → PrI R l D mX10_sort mX11_sort [some (.ref 0), some (.int x), some (.int y), some (.int z), none] [some (.ref 40), some (.int x), some (.int y), some (.int z), none] G I J) (hi : i + 6 ≤ L) (hc1 : uc + 4 ≤ 600000) (hc2 : us + 1211 ≤ 7302250) {G : xv_Gr} {I : xv_I} {J : xv_J} (hR : R G I J) (kk : ∀ G2 I2 J2 uc2 us2, uc2 ≤ uc + 4 → us2 ≤ us + 1211 → R G2 I2 J2 → xv_Ev l D 100 mL_law (some (L, xs)) 1504 [some (.ref xv_SC), some (.ref 0), some (.ref 40), some (.int (nI i))] [] G2 I2 J2 uc2 us2 Q) : xv_Ev l D 100 mL_law (some (L, xs)) 591 [some (.ref xv_SC), some (.ref 0), some (.ref 40), some (.int (nI i))] [] G I J uc us Q := by
  have hG := hok G I J hR
  have hu1 : uc ≤ mL_law.2.2.2.2.1 := Nat.le_trans (Nat.le_add_right _ _) hc1
  have hu2 : us ≤ mL_law.2.2.2.2.2 := Nat.le_trans (Nat.le_add_right _ _) hc2
  refine xv_aload_n dL_law_591 rfl rfl ?_
  refine xv_aload_n dL_law_592 rfl rfl ?_
  refine xv_iload_n dL_law_593 rfl rfl ?_
  refine xv_iconst (v := nI 1) dL_law_594 rfl ?_
  refine xv_iadd dL_law_595 ?_
  refine xv_nmI (nI_add _ _) ?_
  refine xv_sld dL_law_596 (xv_ixn (by omega) (by omega)) ?_
  refine xv_aload_n dL_law_597 rfl rfl ?_
  refine xv_iload_n dL_law_598 rfl rfl ?_
  refine xv_iconst (v := nI 2) dL_law_599 rfl ?_
  refine xv_iadd dL_law_600 ?_
  refine xv_nmI (nI_add _ _) ?_
  refine xv_sld dL_law_601 (xv_ixn (by omega) (by omega)) ?_
  refine xv_aload_n dL_law_602 rfl rfl ?_
  refine xv_iload_n dL_law_603 rfl rfl ?_
  refine xv_iconst (v := nI 3) dL_law_604 rfl ?_
  refine xv_iadd dL_law_605 ?_
  refine xv_nmI (nI_add _ _) ?_
  refine xv_sld dL_law_606 (xv_ixn (by omega) (by omega)) ?_
  refine xv_callV0 (As := [_, _, _]) dL_law_607 cl_L_63 rfl rfl rfl rfl (go_0 hG) rfl rfl (Nat.le_of_ble_eq_true rfl) (Nat.le_of_ble_eq_true rfl) hu1 hu2 ?_
  refine hk G I J _ _ _ hR  _ (fun v G2 I2 J2 hg2 hm => ?_)
  · refine xv_aload_n dL_law_610 rfl rfl ?_
    refine xv_aload_n dL_law_611 rfl rfl ?_
    refine xv_iload_n dL_law_612 rfl rfl ?_
    refine xv_iconst (v := nI 1) dL_law_613 rfl ?_
    refine xv_iadd dL_law_614 ?_
    refine xv_nmI (nI_add _ _) ?_
    refine xv_sld dL_law_615 (xv_ixn (by omega) (by omega)) ?_
    refine xv_aload_n dL_law_616 rfl rfl ?_
    refine xv_iload_n dL_law_617 rfl rfl ?_
    refine xv_iconst (v := nI 2) dL_law_618 rfl ?_
    refine xv_iadd dL_law_619 ?_
    refine xv_nmI (nI_add _ _) ?_
    refine xv_sld dL_law_620 (xv_ixn (by omega) (by omega)) ?_
    refine xv_aload_n dL_law_621 rfl rfl ?_
    refine xv_iload_n dL_law_622 rfl rfl ?_
    refine xv_iconst (v := nI 3) dL_law_623 rfl ?_
    refine xv_iadd dL_law_624 ?_
    refine xv_nmI (nI_add _ _) ?_
    refine xv_sld dL_law_625 (xv_ixn (by omega) (by omega)) ?_
    refine xv_callV0 (As := [_, _, _]) dL_law_626 cl_L_67 rfl rfl rfl rfl (go_40 hg2) rfl rfl (Nat.le_of_ble_eq_true rfl) (Nat.le_of_ble_eq_true rfl) hu1 hu2 ?_
    refine hm _ (fun G3 I3 J3 hR3 => ?_)
    · refine xv_icmp_eq (tgt := 1504) dL_law_629 rfl (fun c_629 => ?_) (fun c_629 => absurd rfl c_629)
      exact kk G3 I3 J3 _ _ (Nat.le_add_right _ _) (Nat.le_add_right _ _) hR3

theorem lw_c12 {R : xv_R} {l : Launch} {D : va_G} {L i uc us : Nat} {xs : Nat → Int32} {Q : xv_Po} (hL : L ≤ 3072) (hok : ∀ G I J, R G I J → xg_ok G) (hk : ∀ (G : xv_Gr) (I : xv_I) (J : xv_J) (x : Int32), R G I J → PrI R l D mX10_saw mX11_saw [some (.ref 0), some (.int x), none] [some (.ref 40), some (.int x), none] G I J) (hi : i + 6 ≤ L) (hc1 : uc + 4 ≤ 600000) (hc2 : us + 1211 ≤ 7302250) {G : xv_Gr} {I : xv_I} {J : xv_J} (hR : R G I J) (kk : ∀ G2 I2 J2 uc2 us2, uc2 ≤ uc + 4 → us2 ≤ us + 1211 → R G2 I2 J2 → xv_Ev l D 100 mL_law (some (L, xs)) 1504 [some (.ref xv_SC), some (.ref 0), some (.ref 40), some (.int (nI i))] [] G2 I2 J2 uc2 us2 Q) : xv_Ev l D 100 mL_law (some (L, xs)) 634 [some (.ref xv_SC), some (.ref 0), some (.ref 40), some (.int (nI i))] [] G I J uc us Q := by
  have hG := hok G I J hR
  have hu1 : uc ≤ mL_law.2.2.2.2.1 := Nat.le_trans (Nat.le_add_right _ _) hc1
  have hu2 : us ≤ mL_law.2.2.2.2.2 := Nat.le_trans (Nat.le_add_right _ _) hc2
  refine xv_aload_n dL_law_634 rfl rfl ?_
  refine xv_aload_n dL_law_635 rfl rfl ?_
  refine xv_iload_n dL_law_636 rfl rfl ?_
  refine xv_iconst (v := nI 1) dL_law_637 rfl ?_
  refine xv_iadd dL_law_638 ?_
  refine xv_nmI (nI_add _ _) ?_
  refine xv_sld dL_law_639 (xv_ixn (by omega) (by omega)) ?_
  refine xv_callV0 (As := [_]) dL_law_640 cl_L_68 rfl rfl rfl rfl (go_0 hG) rfl rfl (Nat.le_of_ble_eq_true rfl) (Nat.le_of_ble_eq_true rfl) hu1 hu2 ?_
  refine hk G I J _ hR  _ (fun v G2 I2 J2 hg2 hm => ?_)
  · refine xv_aload_n dL_law_643 rfl rfl ?_
    refine xv_aload_n dL_law_644 rfl rfl ?_
    refine xv_iload_n dL_law_645 rfl rfl ?_
    refine xv_iconst (v := nI 1) dL_law_646 rfl ?_
    refine xv_iadd dL_law_647 ?_
    refine xv_nmI (nI_add _ _) ?_
    refine xv_sld dL_law_648 (xv_ixn (by omega) (by omega)) ?_
    refine xv_callV0 (As := [_]) dL_law_649 cl_L_71 rfl rfl rfl rfl (go_40 hg2) rfl rfl (Nat.le_of_ble_eq_true rfl) (Nat.le_of_ble_eq_true rfl) hu1 hu2 ?_
    refine hm _ (fun G3 I3 J3 hR3 => ?_)
    · refine xv_icmp_eq (tgt := 1504) dL_law_652 rfl (fun c_652 => ?_) (fun c_652 => absurd rfl c_652)
      exact kk G3 I3 J3 _ _ (Nat.le_add_right _ _) (Nat.le_add_right _ _) hR3

theorem lw_c13 {R : xv_R} {l : Launch} {D : va_G} {L i uc us : Nat} {xs : Nat → Int32} {Q : xv_Po} (hL : L ≤ 3072) (hok : ∀ G I J, R G I J → xg_ok G) (hk : ∀ (G : xv_Gr) (I : xv_I) (J : xv_J), R G I J → PrI R l D mX10_price mX11_price [some (.ref 0)] [some (.ref 40), none] G I J) (hi : i + 6 ≤ L) (hc1 : uc + 4 ≤ 600000) (hc2 : us + 1211 ≤ 7302250) {G : xv_Gr} {I : xv_I} {J : xv_J} (hR : R G I J) (kk : ∀ G2 I2 J2 uc2 us2, uc2 ≤ uc + 4 → us2 ≤ us + 1211 → R G2 I2 J2 → xv_Ev l D 100 mL_law (some (L, xs)) 1504 [some (.ref xv_SC), some (.ref 0), some (.ref 40), some (.int (nI i))] [] G2 I2 J2 uc2 us2 Q) : xv_Ev l D 100 mL_law (some (L, xs)) 657 [some (.ref xv_SC), some (.ref 0), some (.ref 40), some (.int (nI i))] [] G I J uc us Q := by
  have hG := hok G I J hR
  have hu1 : uc ≤ mL_law.2.2.2.2.1 := Nat.le_trans (Nat.le_add_right _ _) hc1
  have hu2 : us ≤ mL_law.2.2.2.2.2 := Nat.le_trans (Nat.le_add_right _ _) hc2
  refine xv_aload_n dL_law_657 rfl rfl ?_
  refine xv_callV0 (As := []) dL_law_658 cl_L_72 rfl rfl rfl rfl (go_0 hG) rfl rfl (Nat.le_of_ble_eq_true rfl) (Nat.le_of_ble_eq_true rfl) hu1 hu2 ?_
  refine hk G I J  hR  _ (fun v G2 I2 J2 hg2 hm => ?_)
  · refine xv_aload_n dL_law_661 rfl rfl ?_
    refine xv_callV0 (As := []) dL_law_662 cl_L_75 rfl rfl rfl rfl (go_40 hg2) rfl rfl (Nat.le_of_ble_eq_true rfl) (Nat.le_of_ble_eq_true rfl) hu1 hu2 ?_
    refine hm _ (fun G3 I3 J3 hR3 => ?_)
    · refine xv_icmp_eq (tgt := 1504) dL_law_665 rfl (fun c_665 => ?_) (fun c_665 => absurd rfl c_665)
      exact kk G3 I3 J3 _ _ (Nat.le_add_right _ _) (Nat.le_add_right _ _) hR3

theorem lw_c14 {R : xv_R} {l : Launch} {D : va_G} {L i uc us : Nat} {xs : Nat → Int32} {Q : xv_Po} (hL : L ≤ 3072) (hok : ∀ G I J, R G I J → xg_ok G) (hk : ∀ (G : xv_Gr) (I : xv_I) (J : xv_J), R G I J → PrI R l D mX10_boards mX11_boards [some (.ref 0)] [some (.ref 40), none] G I J) (hi : i + 6 ≤ L) (hc1 : uc + 4 ≤ 600000) (hc2 : us + 1211 ≤ 7302250) {G : xv_Gr} {I : xv_I} {J : xv_J} (hR : R G I J) (kk : ∀ G2 I2 J2 uc2 us2, uc2 ≤ uc + 4 → us2 ≤ us + 1211 → R G2 I2 J2 → xv_Ev l D 100 mL_law (some (L, xs)) 1504 [some (.ref xv_SC), some (.ref 0), some (.ref 40), some (.int (nI i))] [] G2 I2 J2 uc2 us2 Q) : xv_Ev l D 100 mL_law (some (L, xs)) 670 [some (.ref xv_SC), some (.ref 0), some (.ref 40), some (.int (nI i))] [] G I J uc us Q := by
  have hG := hok G I J hR
  have hu1 : uc ≤ mL_law.2.2.2.2.1 := Nat.le_trans (Nat.le_add_right _ _) hc1
  have hu2 : us ≤ mL_law.2.2.2.2.2 := Nat.le_trans (Nat.le_add_right _ _) hc2
  refine xv_aload_n dL_law_670 rfl rfl ?_
  refine xv_callV0 (As := []) dL_law_671 cl_L_76 rfl rfl rfl rfl (go_0 hG) rfl rfl (Nat.le_of_ble_eq_true rfl) (Nat.le_of_ble_eq_true rfl) hu1 hu2 ?_
  refine hk G I J  hR  _ (fun v G2 I2 J2 hg2 hm => ?_)
  · refine xv_aload_n dL_law_674 rfl rfl ?_
    refine xv_callV0 (As := []) dL_law_675 cl_L_79 rfl rfl rfl rfl (go_40 hg2) rfl rfl (Nat.le_of_ble_eq_true rfl) (Nat.le_of_ble_eq_true rfl) hu1 hu2 ?_
    refine hm _ (fun G3 I3 J3 hR3 => ?_)
    · refine xv_icmp_eq (tgt := 1504) dL_law_678 rfl (fun c_678 => ?_) (fun c_678 => absurd rfl c_678)
      exact kk G3 I3 J3 _ _ (Nat.le_add_right _ _) (Nat.le_add_right _ _) hR3

theorem lw_c15 {R : xv_R} {l : Launch} {D : va_G} {L i uc us : Nat} {xs : Nat → Int32} {Q : xv_Po} (hL : L ≤ 3072) (hok : ∀ G I J, R G I J → xg_ok G) (hk : ∀ (G : xv_Gr) (I : xv_I) (J : xv_J) (x : Int32), R G I J → PrI R l D mX10_board mX11_board [some (.ref 0), some (.int x)] [some (.ref 40), some (.int x)] G I J) (hi : i + 6 ≤ L) (hc1 : uc + 4 ≤ 600000) (hc2 : us + 1211 ≤ 7302250) {G : xv_Gr} {I : xv_I} {J : xv_J} (hR : R G I J) (kk : ∀ G2 I2 J2 uc2 us2, uc2 ≤ uc + 4 → us2 ≤ us + 1211 → R G2 I2 J2 → xv_Ev l D 100 mL_law (some (L, xs)) 1504 [some (.ref xv_SC), some (.ref 0), some (.ref 40), some (.int (nI i))] [] G2 I2 J2 uc2 us2 Q) : xv_Ev l D 100 mL_law (some (L, xs)) 683 [some (.ref xv_SC), some (.ref 0), some (.ref 40), some (.int (nI i))] [] G I J uc us Q := by
  have hG := hok G I J hR
  have hu1 : uc ≤ mL_law.2.2.2.2.1 := Nat.le_trans (Nat.le_add_right _ _) hc1
  have hu2 : us ≤ mL_law.2.2.2.2.2 := Nat.le_trans (Nat.le_add_right _ _) hc2
  refine xv_aload_n dL_law_683 rfl rfl ?_
  refine xv_aload_n dL_law_684 rfl rfl ?_
  refine xv_iload_n dL_law_685 rfl rfl ?_
  refine xv_iconst (v := nI 1) dL_law_686 rfl ?_
  refine xv_iadd dL_law_687 ?_
  refine xv_nmI (nI_add _ _) ?_
  refine xv_sld dL_law_688 (xv_ixn (by omega) (by omega)) ?_
  refine xv_callV0 (As := [_]) dL_law_689 cl_L_80 rfl rfl rfl rfl (go_0 hG) rfl rfl (Nat.le_of_ble_eq_true rfl) (Nat.le_of_ble_eq_true rfl) hu1 hu2 ?_
  refine hk G I J _ hR  _ (fun v G2 I2 J2 hg2 hm => ?_)
  · refine xv_aload_n dL_law_692 rfl rfl ?_
    refine xv_aload_n dL_law_693 rfl rfl ?_
    refine xv_iload_n dL_law_694 rfl rfl ?_
    refine xv_iconst (v := nI 1) dL_law_695 rfl ?_
    refine xv_iadd dL_law_696 ?_
    refine xv_nmI (nI_add _ _) ?_
    refine xv_sld dL_law_697 (xv_ixn (by omega) (by omega)) ?_
    refine xv_callV0 (As := [_]) dL_law_698 cl_L_83 rfl rfl rfl rfl (go_40 hg2) rfl rfl (Nat.le_of_ble_eq_true rfl) (Nat.le_of_ble_eq_true rfl) hu1 hu2 ?_
    refine hm _ (fun G3 I3 J3 hR3 => ?_)
    · refine xv_icmp_eq (tgt := 1504) dL_law_701 rfl (fun c_701 => ?_) (fun c_701 => absurd rfl c_701)
      exact kk G3 I3 J3 _ _ (Nat.le_add_right _ _) (Nat.le_add_right _ _) hR3

theorem lw_c16 {R : xv_R} {l : Launch} {D : va_G} {L i uc us : Nat} {xs : Nat → Int32} {Q : xv_Po} (hL : L ≤ 3072) (hok : ∀ G I J, R G I J → xg_ok G) (hk : ∀ (G : xv_Gr) (I : xv_I) (J : xv_J) (x : Int32) (y : Int32), R G I J → PrI R l D mX10_ofBoard mX11_ofBoard [some (.ref 0), some (.int x), some (.int y)] [some (.ref 40), some (.int x), some (.int y)] G I J) (hi : i + 6 ≤ L) (hc1 : uc + 4 ≤ 600000) (hc2 : us + 1211 ≤ 7302250) {G : xv_Gr} {I : xv_I} {J : xv_J} (hR : R G I J) (kk : ∀ G2 I2 J2 uc2 us2, uc2 ≤ uc + 4 → us2 ≤ us + 1211 → R G2 I2 J2 → xv_Ev l D 100 mL_law (some (L, xs)) 1504 [some (.ref xv_SC), some (.ref 0), some (.ref 40), some (.int (nI i))] [] G2 I2 J2 uc2 us2 Q) : xv_Ev l D 100 mL_law (some (L, xs)) 706 [some (.ref xv_SC), some (.ref 0), some (.ref 40), some (.int (nI i))] [] G I J uc us Q := by
  have hG := hok G I J hR
  have hu1 : uc ≤ mL_law.2.2.2.2.1 := Nat.le_trans (Nat.le_add_right _ _) hc1
  have hu2 : us ≤ mL_law.2.2.2.2.2 := Nat.le_trans (Nat.le_add_right _ _) hc2
  refine xv_aload_n dL_law_706 rfl rfl ?_
  refine xv_aload_n dL_law_707 rfl rfl ?_
  refine xv_iload_n dL_law_708 rfl rfl ?_
  refine xv_iconst (v := nI 1) dL_law_709 rfl ?_
  refine xv_iadd dL_law_710 ?_
  refine xv_nmI (nI_add _ _) ?_
  refine xv_sld dL_law_711 (xv_ixn (by omega) (by omega)) ?_
  refine xv_aload_n dL_law_712 rfl rfl ?_
  refine xv_iload_n dL_law_713 rfl rfl ?_
  refine xv_iconst (v := nI 2) dL_law_714 rfl ?_
  refine xv_iadd dL_law_715 ?_
  refine xv_nmI (nI_add _ _) ?_
  refine xv_sld dL_law_716 (xv_ixn (by omega) (by omega)) ?_
  refine xv_callV0 (As := [_, _]) dL_law_717 cl_L_84 rfl rfl rfl rfl (go_0 hG) rfl rfl (Nat.le_of_ble_eq_true rfl) (Nat.le_of_ble_eq_true rfl) hu1 hu2 ?_
  refine hk G I J _ _ hR  _ (fun v G2 I2 J2 hg2 hm => ?_)
  · refine xv_aload_n dL_law_720 rfl rfl ?_
    refine xv_aload_n dL_law_721 rfl rfl ?_
    refine xv_iload_n dL_law_722 rfl rfl ?_
    refine xv_iconst (v := nI 1) dL_law_723 rfl ?_
    refine xv_iadd dL_law_724 ?_
    refine xv_nmI (nI_add _ _) ?_
    refine xv_sld dL_law_725 (xv_ixn (by omega) (by omega)) ?_
    refine xv_aload_n dL_law_726 rfl rfl ?_
    refine xv_iload_n dL_law_727 rfl rfl ?_
    refine xv_iconst (v := nI 2) dL_law_728 rfl ?_
    refine xv_iadd dL_law_729 ?_
    refine xv_nmI (nI_add _ _) ?_
    refine xv_sld dL_law_730 (xv_ixn (by omega) (by omega)) ?_
    refine xv_callV0 (As := [_, _]) dL_law_731 cl_L_87 rfl rfl rfl rfl (go_40 hg2) rfl rfl (Nat.le_of_ble_eq_true rfl) (Nat.le_of_ble_eq_true rfl) hu1 hu2 ?_
    refine hm _ (fun G3 I3 J3 hR3 => ?_)
    · refine xv_icmp_eq (tgt := 1504) dL_law_734 rfl (fun c_734 => ?_) (fun c_734 => absurd rfl c_734)
      exact kk G3 I3 J3 _ _ (Nat.le_add_right _ _) (Nat.le_add_right _ _) hR3

theorem lw_c17 {R : xv_R} {l : Launch} {D : va_G} {L i uc us : Nat} {xs : Nat → Int32} {Q : xv_Po} (hL : L ≤ 3072) (hok : ∀ G I J, R G I J → xg_ok G) (hk : ∀ (G : xv_Gr) (I : xv_I) (J : xv_J) (x : Int32), R G I J → PrI R l D mX10_other mX11_other [some (.ref 0), some (.int x)] [some (.ref 40), some (.int x), none, none, none, none] G I J) (hi : i + 6 ≤ L) (hc1 : uc + 4 ≤ 600000) (hc2 : us + 1211 ≤ 7302250) {G : xv_Gr} {I : xv_I} {J : xv_J} (hR : R G I J) (kk : ∀ G2 I2 J2 uc2 us2, uc2 ≤ uc + 4 → us2 ≤ us + 1211 → R G2 I2 J2 → xv_Ev l D 100 mL_law (some (L, xs)) 1504 [some (.ref xv_SC), some (.ref 0), some (.ref 40), some (.int (nI i))] [] G2 I2 J2 uc2 us2 Q) : xv_Ev l D 100 mL_law (some (L, xs)) 739 [some (.ref xv_SC), some (.ref 0), some (.ref 40), some (.int (nI i))] [] G I J uc us Q := by
  have hG := hok G I J hR
  have hu1 : uc ≤ mL_law.2.2.2.2.1 := Nat.le_trans (Nat.le_add_right _ _) hc1
  have hu2 : us ≤ mL_law.2.2.2.2.2 := Nat.le_trans (Nat.le_add_right _ _) hc2
  refine xv_aload_n dL_law_739 rfl rfl ?_
  refine xv_aload_n dL_law_740 rfl rfl ?_
  refine xv_iload_n dL_law_741 rfl rfl ?_
  refine xv_iconst (v := nI 1) dL_law_742 rfl ?_
  refine xv_iadd dL_law_743 ?_
  refine xv_nmI (nI_add _ _) ?_
  refine xv_sld dL_law_744 (xv_ixn (by omega) (by omega)) ?_
  refine xv_callV0 (As := [_]) dL_law_745 cl_L_88 rfl rfl rfl rfl (go_0 hG) rfl rfl (Nat.le_of_ble_eq_true rfl) (Nat.le_of_ble_eq_true rfl) hu1 hu2 ?_
  refine hk G I J _ hR  _ (fun v G2 I2 J2 hg2 hm => ?_)
  · refine xv_aload_n dL_law_748 rfl rfl ?_
    refine xv_aload_n dL_law_749 rfl rfl ?_
    refine xv_iload_n dL_law_750 rfl rfl ?_
    refine xv_iconst (v := nI 1) dL_law_751 rfl ?_
    refine xv_iadd dL_law_752 ?_
    refine xv_nmI (nI_add _ _) ?_
    refine xv_sld dL_law_753 (xv_ixn (by omega) (by omega)) ?_
    refine xv_callV0 (As := [_]) dL_law_754 cl_L_91 rfl rfl rfl rfl (go_40 hg2) rfl rfl (Nat.le_of_ble_eq_true rfl) (Nat.le_of_ble_eq_true rfl) hu1 hu2 ?_
    refine hm _ (fun G3 I3 J3 hR3 => ?_)
    · refine xv_icmp_eq (tgt := 1504) dL_law_757 rfl (fun c_757 => ?_) (fun c_757 => absurd rfl c_757)
      exact kk G3 I3 J3 _ _ (Nat.le_add_right _ _) (Nat.le_add_right _ _) hR3

theorem lw_c18 {R : xv_R} {l : Launch} {D : va_G} {L i uc us : Nat} {xs : Nat → Int32} {Q : xv_Po} (hL : L ≤ 3072) (hok : ∀ G I J, R G I J → xg_ok G) (hk : ∀ (G : xv_Gr) (I : xv_I) (J : xv_J) (x : Int32) (y : Int32), R G I J → PrI R l D mX10_car mX11_car [some (.ref 0), some (.int x), some (.int y), none] [some (.ref 40), some (.int x), some (.int y), none] G I J) (hi : i + 6 ≤ L) (hc1 : uc + 4 ≤ 600000) (hc2 : us + 1211 ≤ 7302250) {G : xv_Gr} {I : xv_I} {J : xv_J} (hR : R G I J) (kk : ∀ G2 I2 J2 uc2 us2, uc2 ≤ uc + 4 → us2 ≤ us + 1211 → R G2 I2 J2 → xv_Ev l D 100 mL_law (some (L, xs)) 1504 [some (.ref xv_SC), some (.ref 0), some (.ref 40), some (.int (nI i))] [] G2 I2 J2 uc2 us2 Q) : xv_Ev l D 100 mL_law (some (L, xs)) 762 [some (.ref xv_SC), some (.ref 0), some (.ref 40), some (.int (nI i))] [] G I J uc us Q := by
  have hG := hok G I J hR
  have hu1 : uc ≤ mL_law.2.2.2.2.1 := Nat.le_trans (Nat.le_add_right _ _) hc1
  have hu2 : us ≤ mL_law.2.2.2.2.2 := Nat.le_trans (Nat.le_add_right _ _) hc2
  refine xv_aload_n dL_law_762 rfl rfl ?_
  refine xv_aload_n dL_law_763 rfl rfl ?_
  refine xv_iload_n dL_law_764 rfl rfl ?_
  refine xv_iconst (v := nI 1) dL_law_765 rfl ?_
  refine xv_iadd dL_law_766 ?_
  refine xv_nmI (nI_add _ _) ?_
  refine xv_sld dL_law_767 (xv_ixn (by omega) (by omega)) ?_
  refine xv_aload_n dL_law_768 rfl rfl ?_
  refine xv_iload_n dL_law_769 rfl rfl ?_
  refine xv_iconst (v := nI 2) dL_law_770 rfl ?_
  refine xv_iadd dL_law_771 ?_
  refine xv_nmI (nI_add _ _) ?_
  refine xv_sld dL_law_772 (xv_ixn (by omega) (by omega)) ?_
  refine xv_callV0 (As := [_, _]) dL_law_773 cl_L_92 rfl rfl rfl rfl (go_0 hG) rfl rfl (Nat.le_of_ble_eq_true rfl) (Nat.le_of_ble_eq_true rfl) hu1 hu2 ?_
  refine hk G I J _ _ hR  _ (fun v G2 I2 J2 hg2 hm => ?_)
  · refine xv_aload_n dL_law_776 rfl rfl ?_
    refine xv_aload_n dL_law_777 rfl rfl ?_
    refine xv_iload_n dL_law_778 rfl rfl ?_
    refine xv_iconst (v := nI 1) dL_law_779 rfl ?_
    refine xv_iadd dL_law_780 ?_
    refine xv_nmI (nI_add _ _) ?_
    refine xv_sld dL_law_781 (xv_ixn (by omega) (by omega)) ?_
    refine xv_aload_n dL_law_782 rfl rfl ?_
    refine xv_iload_n dL_law_783 rfl rfl ?_
    refine xv_iconst (v := nI 2) dL_law_784 rfl ?_
    refine xv_iadd dL_law_785 ?_
    refine xv_nmI (nI_add _ _) ?_
    refine xv_sld dL_law_786 (xv_ixn (by omega) (by omega)) ?_
    refine xv_callV0 (As := [_, _]) dL_law_787 cl_L_95 rfl rfl rfl rfl (go_40 hg2) rfl rfl (Nat.le_of_ble_eq_true rfl) (Nat.le_of_ble_eq_true rfl) hu1 hu2 ?_
    refine hm _ (fun G3 I3 J3 hR3 => ?_)
    · refine xv_icmp_eq (tgt := 1504) dL_law_790 rfl (fun c_790 => ?_) (fun c_790 => absurd rfl c_790)
      exact kk G3 I3 J3 _ _ (Nat.le_add_right _ _) (Nat.le_add_right _ _) hR3

theorem lw_c19 {R : xv_R} {l : Launch} {D : va_G} {L i uc us : Nat} {xs : Nat → Int32} {Q : xv_Po} (hL : L ≤ 3072) (hok : ∀ G I J, R G I J → xg_ok G) (hk : ∀ (G : xv_Gr) (I : xv_I) (J : xv_J), R G I J → PrI R l D mX10_packing mX11_packing [some (.ref 0)] [some (.ref 40), none] G I J) (hi : i + 6 ≤ L) (hc1 : uc + 4 ≤ 600000) (hc2 : us + 1211 ≤ 7302250) {G : xv_Gr} {I : xv_I} {J : xv_J} (hR : R G I J) (kk : ∀ G2 I2 J2 uc2 us2, uc2 ≤ uc + 4 → us2 ≤ us + 1211 → R G2 I2 J2 → xv_Ev l D 100 mL_law (some (L, xs)) 1504 [some (.ref xv_SC), some (.ref 0), some (.ref 40), some (.int (nI i))] [] G2 I2 J2 uc2 us2 Q) : xv_Ev l D 100 mL_law (some (L, xs)) 795 [some (.ref xv_SC), some (.ref 0), some (.ref 40), some (.int (nI i))] [] G I J uc us Q := by
  have hG := hok G I J hR
  have hu1 : uc ≤ mL_law.2.2.2.2.1 := Nat.le_trans (Nat.le_add_right _ _) hc1
  have hu2 : us ≤ mL_law.2.2.2.2.2 := Nat.le_trans (Nat.le_add_right _ _) hc2
  refine xv_aload_n dL_law_795 rfl rfl ?_
  refine xv_callV0 (As := []) dL_law_796 cl_L_96 rfl rfl rfl rfl (go_0 hG) rfl rfl (Nat.le_of_ble_eq_true rfl) (Nat.le_of_ble_eq_true rfl) hu1 hu2 ?_
  refine hk G I J  hR  _ (fun v G2 I2 J2 hg2 hm => ?_)
  · refine xv_aload_n dL_law_799 rfl rfl ?_
    refine xv_callV0 (As := []) dL_law_800 cl_L_99 rfl rfl rfl rfl (go_40 hg2) rfl rfl (Nat.le_of_ble_eq_true rfl) (Nat.le_of_ble_eq_true rfl) hu1 hu2 ?_
    refine hm _ (fun G3 I3 J3 hR3 => ?_)
    · refine xv_icmp_eq (tgt := 1504) dL_law_803 rfl (fun c_803 => ?_) (fun c_803 => absurd rfl c_803)
      exact kk G3 I3 J3 _ _ (Nat.le_add_right _ _) (Nat.le_add_right _ _) hR3

theorem lw_c20 {R : xv_R} {l : Launch} {D : va_G} {L i uc us : Nat} {xs : Nat → Int32} {Q : xv_Po} (hL : L ≤ 3072) (hok : ∀ G I J, R G I J → xg_ok G) (hk : ∀ (G : xv_Gr) (I : xv_I) (J : xv_J) (x : Int32), R G I J → PrI R l D mX10_carOf mX11_carOf [some (.ref 0), some (.int x)] [some (.ref 40), some (.int x), none] G I J) (hi : i + 6 ≤ L) (hc1 : uc + 4 ≤ 600000) (hc2 : us + 1211 ≤ 7302250) {G : xv_Gr} {I : xv_I} {J : xv_J} (hR : R G I J) (kk : ∀ G2 I2 J2 uc2 us2, uc2 ≤ uc + 4 → us2 ≤ us + 1211 → R G2 I2 J2 → xv_Ev l D 100 mL_law (some (L, xs)) 1504 [some (.ref xv_SC), some (.ref 0), some (.ref 40), some (.int (nI i))] [] G2 I2 J2 uc2 us2 Q) : xv_Ev l D 100 mL_law (some (L, xs)) 808 [some (.ref xv_SC), some (.ref 0), some (.ref 40), some (.int (nI i))] [] G I J uc us Q := by
  have hG := hok G I J hR
  have hu1 : uc ≤ mL_law.2.2.2.2.1 := Nat.le_trans (Nat.le_add_right _ _) hc1
  have hu2 : us ≤ mL_law.2.2.2.2.2 := Nat.le_trans (Nat.le_add_right _ _) hc2
  refine xv_aload_n dL_law_808 rfl rfl ?_
  refine xv_aload_n dL_law_809 rfl rfl ?_
  refine xv_iload_n dL_law_810 rfl rfl ?_
  refine xv_iconst (v := nI 1) dL_law_811 rfl ?_
  refine xv_iadd dL_law_812 ?_
  refine xv_nmI (nI_add _ _) ?_
  refine xv_sld dL_law_813 (xv_ixn (by omega) (by omega)) ?_
  refine xv_callV0 (As := [_]) dL_law_814 cl_L_100 rfl rfl rfl rfl (go_0 hG) rfl rfl (Nat.le_of_ble_eq_true rfl) (Nat.le_of_ble_eq_true rfl) hu1 hu2 ?_
  refine hk G I J _ hR  _ (fun v G2 I2 J2 hg2 hm => ?_)
  · refine xv_aload_n dL_law_817 rfl rfl ?_
    refine xv_aload_n dL_law_818 rfl rfl ?_
    refine xv_iload_n dL_law_819 rfl rfl ?_
    refine xv_iconst (v := nI 1) dL_law_820 rfl ?_
    refine xv_iadd dL_law_821 ?_
    refine xv_nmI (nI_add _ _) ?_
    refine xv_sld dL_law_822 (xv_ixn (by omega) (by omega)) ?_
    refine xv_callV0 (As := [_]) dL_law_823 cl_L_103 rfl rfl rfl rfl (go_40 hg2) rfl rfl (Nat.le_of_ble_eq_true rfl) (Nat.le_of_ble_eq_true rfl) hu1 hu2 ?_
    refine hm _ (fun G3 I3 J3 hR3 => ?_)
    · refine xv_icmp_eq (tgt := 1504) dL_law_826 rfl (fun c_826 => ?_) (fun c_826 => absurd rfl c_826)
      exact kk G3 I3 J3 _ _ (Nat.le_add_right _ _) (Nat.le_add_right _ _) hR3

theorem lw_c21 {R : xv_R} {l : Launch} {D : va_G} {L i uc us : Nat} {xs : Nat → Int32} {Q : xv_Po} (hL : L ≤ 3072) (hok : ∀ G I J, R G I J → xg_ok G) (hk : ∀ (G : xv_Gr) (I : xv_I) (J : xv_J) (x : Int32), R G I J → PrI R l D mX10_turned mX11_turned [some (.ref 0), some (.int x)] [some (.ref 40), some (.int x)] G I J) (hi : i + 6 ≤ L) (hc1 : uc + 4 ≤ 600000) (hc2 : us + 1211 ≤ 7302250) {G : xv_Gr} {I : xv_I} {J : xv_J} (hR : R G I J) (kk : ∀ G2 I2 J2 uc2 us2, uc2 ≤ uc + 4 → us2 ≤ us + 1211 → R G2 I2 J2 → xv_Ev l D 100 mL_law (some (L, xs)) 1504 [some (.ref xv_SC), some (.ref 0), some (.ref 40), some (.int (nI i))] [] G2 I2 J2 uc2 us2 Q) : xv_Ev l D 100 mL_law (some (L, xs)) 831 [some (.ref xv_SC), some (.ref 0), some (.ref 40), some (.int (nI i))] [] G I J uc us Q := by
  have hG := hok G I J hR
  have hu1 : uc ≤ mL_law.2.2.2.2.1 := Nat.le_trans (Nat.le_add_right _ _) hc1
  have hu2 : us ≤ mL_law.2.2.2.2.2 := Nat.le_trans (Nat.le_add_right _ _) hc2
  refine xv_aload_n dL_law_831 rfl rfl ?_
  refine xv_aload_n dL_law_832 rfl rfl ?_
  refine xv_iload_n dL_law_833 rfl rfl ?_
  refine xv_iconst (v := nI 1) dL_law_834 rfl ?_
  refine xv_iadd dL_law_835 ?_
  refine xv_nmI (nI_add _ _) ?_
  refine xv_sld dL_law_836 (xv_ixn (by omega) (by omega)) ?_
  refine xv_callV0 (As := [_]) dL_law_837 cl_L_104 rfl rfl rfl rfl (go_0 hG) rfl rfl (Nat.le_of_ble_eq_true rfl) (Nat.le_of_ble_eq_true rfl) hu1 hu2 ?_
  refine hk G I J _ hR  _ (fun v G2 I2 J2 hg2 hm => ?_)
  · refine xv_aload_n dL_law_840 rfl rfl ?_
    refine xv_aload_n dL_law_841 rfl rfl ?_
    refine xv_iload_n dL_law_842 rfl rfl ?_
    refine xv_iconst (v := nI 1) dL_law_843 rfl ?_
    refine xv_iadd dL_law_844 ?_
    refine xv_nmI (nI_add _ _) ?_
    refine xv_sld dL_law_845 (xv_ixn (by omega) (by omega)) ?_
    refine xv_callV0 (As := [_]) dL_law_846 cl_L_107 rfl rfl rfl rfl (go_40 hg2) rfl rfl (Nat.le_of_ble_eq_true rfl) (Nat.le_of_ble_eq_true rfl) hu1 hu2 ?_
    refine hm _ (fun G3 I3 J3 hR3 => ?_)
    · refine xv_icmp_eq (tgt := 1504) dL_law_849 rfl (fun c_849 => ?_) (fun c_849 => absurd rfl c_849)
      exact kk G3 I3 J3 _ _ (Nat.le_add_right _ _) (Nat.le_add_right _ _) hR3

theorem lw_c22 {R : xv_R} {l : Launch} {D : va_G} {L i uc us : Nat} {xs : Nat → Int32} {Q : xv_Po} (hL : L ≤ 3072) (hok : ∀ G I J, R G I J → xg_ok G) (hk : ∀ (G : xv_Gr) (I : xv_I) (J : xv_J) (x : Int32) (y : Int32) (z : Int32) (w : Int32) (u : Int32), R G I J → (u = 0 ∨ u = 1) → PrI R l D mX10_report mX11_report [some (.ref 0), some (.int x), some (.int y), some (.int z), some (.int w), some (.int u)] [some (.ref 40), some (.int x), some (.int y), some (.int z), some (.int w), some (.int u)] G I J) (hi : i + 6 ≤ L) (hc1 : uc + 4 ≤ 600000) (hc2 : us + 1211 ≤ 7302250) {G : xv_Gr} {I : xv_I} {J : xv_J} (hR : R G I J) (kk : ∀ G2 I2 J2 uc2 us2, uc2 ≤ uc + 4 → us2 ≤ us + 1211 → R G2 I2 J2 → xv_Ev l D 100 mL_law (some (L, xs)) 1504 [some (.ref xv_SC), some (.ref 0), some (.ref 40), some (.int (nI i))] [] G2 I2 J2 uc2 us2 Q) : xv_Ev l D 100 mL_law (some (L, xs)) 854 [some (.ref xv_SC), some (.ref 0), some (.ref 40), some (.int (nI i))] [] G I J uc us Q := by
  have hG := hok G I J hR
  have hu1 : uc ≤ mL_law.2.2.2.2.1 := Nat.le_trans (Nat.le_add_right _ _) hc1
  have hu2 : us ≤ mL_law.2.2.2.2.2 := Nat.le_trans (Nat.le_add_right _ _) hc2
  refine xv_aload_n dL_law_854 rfl rfl ?_
  refine xv_aload_n dL_law_855 rfl rfl ?_
  refine xv_iload_n dL_law_856 rfl rfl ?_
  refine xv_iconst (v := nI 1) dL_law_857 rfl ?_
  refine xv_iadd dL_law_858 ?_
  refine xv_nmI (nI_add _ _) ?_
  refine xv_sld dL_law_859 (xv_ixn (by omega) (by omega)) ?_
  refine xv_aload_n dL_law_860 rfl rfl ?_
  refine xv_iload_n dL_law_861 rfl rfl ?_
  refine xv_iconst (v := nI 2) dL_law_862 rfl ?_
  refine xv_iadd dL_law_863 ?_
  refine xv_nmI (nI_add _ _) ?_
  refine xv_sld dL_law_864 (xv_ixn (by omega) (by omega)) ?_
  refine xv_aload_n dL_law_865 rfl rfl ?_
  refine xv_iload_n dL_law_866 rfl rfl ?_
  refine xv_iconst (v := nI 3) dL_law_867 rfl ?_
  refine xv_iadd dL_law_868 ?_
  refine xv_nmI (nI_add _ _) ?_
  refine xv_sld dL_law_869 (xv_ixn (by omega) (by omega)) ?_
  refine xv_aload_n dL_law_870 rfl rfl ?_
  refine xv_iload_n dL_law_871 rfl rfl ?_
  refine xv_iconst (v := nI 4) dL_law_872 rfl ?_
  refine xv_iadd dL_law_873 ?_
  refine xv_nmI (nI_add _ _) ?_
  refine xv_sld dL_law_874 (xv_ixn (by omega) (by omega)) ?_
  refine xv_aload_n dL_law_875 rfl rfl ?_
  refine xv_iload_n dL_law_876 rfl rfl ?_
  refine xv_iconst (v := nI 5) dL_law_877 rfl ?_
  refine xv_iadd dL_law_878 ?_
  refine xv_nmI (nI_add _ _) ?_
  refine xv_sld dL_law_879 (xv_ixn (by omega) (by omega)) ?_
  refine xv_if_eq (tgt := 887) dL_law_880 rfl (fun c_880 => ?_) (fun c_880 => ?_)
  · refine xv_iconst (v := 0) dL_law_887 rfl ?_
    refine xv_callV0 (As := [_, _, _, _, _]) dL_law_888 cl_L_108 rfl rfl rfl rfl (go_0 hG) rfl rfl (Nat.le_of_ble_eq_true rfl) (Nat.le_of_ble_eq_true rfl) hu1 hu2 ?_
    refine hk G I J _ _ _ _ _ hR (Or.inl rfl) _ (fun v G2 I2 J2 hg2 hm => ?_)
    · refine xv_aload_n dL_law_891 rfl rfl ?_
      refine xv_aload_n dL_law_892 rfl rfl ?_
      refine xv_iload_n dL_law_893 rfl rfl ?_
      refine xv_iconst (v := nI 1) dL_law_894 rfl ?_
      refine xv_iadd dL_law_895 ?_
      refine xv_nmI (nI_add _ _) ?_
      refine xv_sld dL_law_896 (xv_ixn (by omega) (by omega)) ?_
      refine xv_aload_n dL_law_897 rfl rfl ?_
      refine xv_iload_n dL_law_898 rfl rfl ?_
      refine xv_iconst (v := nI 2) dL_law_899 rfl ?_
      refine xv_iadd dL_law_900 ?_
      refine xv_nmI (nI_add _ _) ?_
      refine xv_sld dL_law_901 (xv_ixn (by omega) (by omega)) ?_
      refine xv_aload_n dL_law_902 rfl rfl ?_
      refine xv_iload_n dL_law_903 rfl rfl ?_
      refine xv_iconst (v := nI 3) dL_law_904 rfl ?_
      refine xv_iadd dL_law_905 ?_
      refine xv_nmI (nI_add _ _) ?_
      refine xv_sld dL_law_906 (xv_ixn (by omega) (by omega)) ?_
      refine xv_aload_n dL_law_907 rfl rfl ?_
      refine xv_iload_n dL_law_908 rfl rfl ?_
      refine xv_iconst (v := nI 4) dL_law_909 rfl ?_
      refine xv_iadd dL_law_910 ?_
      refine xv_nmI (nI_add _ _) ?_
      refine xv_sld dL_law_911 (xv_ixn (by omega) (by omega)) ?_
      refine xv_aload_n dL_law_912 rfl rfl ?_
      refine xv_iload_n dL_law_913 rfl rfl ?_
      refine xv_iconst (v := nI 5) dL_law_914 rfl ?_
      refine xv_iadd dL_law_915 ?_
      refine xv_nmI (nI_add _ _) ?_
      refine xv_sld dL_law_916 (xv_ixn (by omega) (by omega)) ?_
      refine xv_if_eq (tgt := 924) dL_law_917 rfl (fun c_917 => ?_) (fun c_917 => absurd c_880 c_917)
      refine xv_iconst (v := 0) dL_law_924 rfl ?_
      refine xv_callV0 (As := [_, _, _, _, _]) dL_law_925 cl_L_112 rfl rfl rfl rfl (go_40 hg2) rfl rfl (Nat.le_of_ble_eq_true rfl) (Nat.le_of_ble_eq_true rfl) hu1 hu2 ?_
      refine hm _ (fun G3 I3 J3 hR3 => ?_)
      · refine xv_icmp_eq (tgt := 1504) dL_law_928 rfl (fun c_928 => ?_) (fun c_928 => absurd rfl c_928)
        exact kk G3 I3 J3 _ _ (Nat.le_add_right _ _) (Nat.le_add_right _ _) hR3
  · refine xv_iconst (v := 1) dL_law_883 rfl ?_
    refine xv_goto (tgt := 888) dL_law_884 rfl ?_
    refine xv_callV0 (As := [_, _, _, _, _]) dL_law_888 cl_L_108 rfl rfl rfl rfl (go_0 hG) rfl rfl (Nat.le_of_ble_eq_true rfl) (Nat.le_of_ble_eq_true rfl) hu1 hu2 ?_
    refine hk G I J _ _ _ _ _ hR (Or.inr rfl) _ (fun v G2 I2 J2 hg2 hm => ?_)
    · refine xv_aload_n dL_law_891 rfl rfl ?_
      refine xv_aload_n dL_law_892 rfl rfl ?_
      refine xv_iload_n dL_law_893 rfl rfl ?_
      refine xv_iconst (v := nI 1) dL_law_894 rfl ?_
      refine xv_iadd dL_law_895 ?_
      refine xv_nmI (nI_add _ _) ?_
      refine xv_sld dL_law_896 (xv_ixn (by omega) (by omega)) ?_
      refine xv_aload_n dL_law_897 rfl rfl ?_
      refine xv_iload_n dL_law_898 rfl rfl ?_
      refine xv_iconst (v := nI 2) dL_law_899 rfl ?_
      refine xv_iadd dL_law_900 ?_
      refine xv_nmI (nI_add _ _) ?_
      refine xv_sld dL_law_901 (xv_ixn (by omega) (by omega)) ?_
      refine xv_aload_n dL_law_902 rfl rfl ?_
      refine xv_iload_n dL_law_903 rfl rfl ?_
      refine xv_iconst (v := nI 3) dL_law_904 rfl ?_
      refine xv_iadd dL_law_905 ?_
      refine xv_nmI (nI_add _ _) ?_
      refine xv_sld dL_law_906 (xv_ixn (by omega) (by omega)) ?_
      refine xv_aload_n dL_law_907 rfl rfl ?_
      refine xv_iload_n dL_law_908 rfl rfl ?_
      refine xv_iconst (v := nI 4) dL_law_909 rfl ?_
      refine xv_iadd dL_law_910 ?_
      refine xv_nmI (nI_add _ _) ?_
      refine xv_sld dL_law_911 (xv_ixn (by omega) (by omega)) ?_
      refine xv_aload_n dL_law_912 rfl rfl ?_
      refine xv_iload_n dL_law_913 rfl rfl ?_
      refine xv_iconst (v := nI 5) dL_law_914 rfl ?_
      refine xv_iadd dL_law_915 ?_
      refine xv_nmI (nI_add _ _) ?_
      refine xv_sld dL_law_916 (xv_ixn (by omega) (by omega)) ?_
      refine xv_if_eq (tgt := 924) dL_law_917 rfl (fun c_917 => absurd c_917 c_880) (fun c_917 => ?_)
      refine xv_iconst (v := 1) dL_law_920 rfl ?_
      refine xv_goto (tgt := 925) dL_law_921 rfl ?_
      refine xv_callV0 (As := [_, _, _, _, _]) dL_law_925 cl_L_112 rfl rfl rfl rfl (go_40 hg2) rfl rfl (Nat.le_of_ble_eq_true rfl) (Nat.le_of_ble_eq_true rfl) hu1 hu2 ?_
      refine hm _ (fun G3 I3 J3 hR3 => ?_)
      · refine xv_icmp_eq (tgt := 1504) dL_law_928 rfl (fun c_928 => ?_) (fun c_928 => absurd rfl c_928)
        exact kk G3 I3 J3 _ _ (Nat.le_add_right _ _) (Nat.le_add_right _ _) hR3

theorem lw_c23 {R : xv_R} {l : Launch} {D : va_G} {L i uc us : Nat} {xs : Nat → Int32} {Q : xv_Po} (hL : L ≤ 3072) (hok : ∀ G I J, R G I J → xg_ok G) (hk : ∀ (G : xv_Gr) (I : xv_I) (J : xv_J) (x : Int32), R G I J → PrI R l D mX10_sure mX11_sure [some (.ref 0), some (.int x), none] [some (.ref 40), some (.int x), none] G I J) (hi : i + 6 ≤ L) (hc1 : uc + 4 ≤ 600000) (hc2 : us + 1211 ≤ 7302250) {G : xv_Gr} {I : xv_I} {J : xv_J} (hR : R G I J) (kk : ∀ G2 I2 J2 uc2 us2, uc2 ≤ uc + 4 → us2 ≤ us + 1211 → R G2 I2 J2 → xv_Ev l D 100 mL_law (some (L, xs)) 1504 [some (.ref xv_SC), some (.ref 0), some (.ref 40), some (.int (nI i))] [] G2 I2 J2 uc2 us2 Q) : xv_Ev l D 100 mL_law (some (L, xs)) 933 [some (.ref xv_SC), some (.ref 0), some (.ref 40), some (.int (nI i))] [] G I J uc us Q := by
  have hG := hok G I J hR
  have hu1 : uc ≤ mL_law.2.2.2.2.1 := Nat.le_trans (Nat.le_add_right _ _) hc1
  have hu2 : us ≤ mL_law.2.2.2.2.2 := Nat.le_trans (Nat.le_add_right _ _) hc2
  refine xv_aload_n dL_law_933 rfl rfl ?_
  refine xv_aload_n dL_law_934 rfl rfl ?_
  refine xv_iload_n dL_law_935 rfl rfl ?_
  refine xv_iconst (v := nI 1) dL_law_936 rfl ?_
  refine xv_iadd dL_law_937 ?_
  refine xv_nmI (nI_add _ _) ?_
  refine xv_sld dL_law_938 (xv_ixn (by omega) (by omega)) ?_
  refine xv_callV0 (As := [_]) dL_law_939 cl_L_113 rfl rfl rfl rfl (go_0 hG) rfl rfl (Nat.le_of_ble_eq_true rfl) (Nat.le_of_ble_eq_true rfl) hu1 hu2 ?_
  refine hk G I J _ hR  _ (fun v G2 I2 J2 hg2 hm => ?_)
  · refine xv_aload_n dL_law_942 rfl rfl ?_
    refine xv_aload_n dL_law_943 rfl rfl ?_
    refine xv_iload_n dL_law_944 rfl rfl ?_
    refine xv_iconst (v := nI 1) dL_law_945 rfl ?_
    refine xv_iadd dL_law_946 ?_
    refine xv_nmI (nI_add _ _) ?_
    refine xv_sld dL_law_947 (xv_ixn (by omega) (by omega)) ?_
    refine xv_callV0 (As := [_]) dL_law_948 cl_L_116 rfl rfl rfl rfl (go_40 hg2) rfl rfl (Nat.le_of_ble_eq_true rfl) (Nat.le_of_ble_eq_true rfl) hu1 hu2 ?_
    refine hm _ (fun G3 I3 J3 hR3 => ?_)
    · refine xv_icmp_eq (tgt := 1504) dL_law_951 rfl (fun c_951 => ?_) (fun c_951 => absurd rfl c_951)
      exact kk G3 I3 J3 _ _ (Nat.le_add_right _ _) (Nat.le_add_right _ _) hR3

theorem lw_c24 {R : xv_R} {l : Launch} {D : va_G} {L i uc us : Nat} {xs : Nat → Int32} {Q : xv_Po} (hL : L ≤ 3072) (hok : ∀ G I J, R G I J → xg_ok G) (hk : ∀ (G : xv_Gr) (I : xv_I) (J : xv_J) (x : Int32) (y : Int32), R G I J → (y = 0 ∨ y = 1) → PrI R l D mX10_explains mX11_explains [some (.ref 0), some (.int x), some (.int y)] [some (.ref 40), some (.int x), some (.int y)] G I J) (hi : i + 6 ≤ L) (hc1 : uc + 4 ≤ 600000) (hc2 : us + 1211 ≤ 7302250) {G : xv_Gr} {I : xv_I} {J : xv_J} (hR : R G I J) (kk : ∀ G2 I2 J2 uc2 us2, uc2 ≤ uc + 4 → us2 ≤ us + 1211 → R G2 I2 J2 → xv_Ev l D 100 mL_law (some (L, xs)) 1504 [some (.ref xv_SC), some (.ref 0), some (.ref 40), some (.int (nI i))] [] G2 I2 J2 uc2 us2 Q) : xv_Ev l D 100 mL_law (some (L, xs)) 956 [some (.ref xv_SC), some (.ref 0), some (.ref 40), some (.int (nI i))] [] G I J uc us Q := by
  have hG := hok G I J hR
  have hu1 : uc ≤ mL_law.2.2.2.2.1 := Nat.le_trans (Nat.le_add_right _ _) hc1
  have hu2 : us ≤ mL_law.2.2.2.2.2 := Nat.le_trans (Nat.le_add_right _ _) hc2
  refine xv_aload_n dL_law_956 rfl rfl ?_
  refine xv_aload_n dL_law_957 rfl rfl ?_
  refine xv_iload_n dL_law_958 rfl rfl ?_
  refine xv_iconst (v := nI 1) dL_law_959 rfl ?_
  refine xv_iadd dL_law_960 ?_
  refine xv_nmI (nI_add _ _) ?_
  refine xv_sld dL_law_961 (xv_ixn (by omega) (by omega)) ?_
  refine xv_aload_n dL_law_962 rfl rfl ?_
  refine xv_iload_n dL_law_963 rfl rfl ?_
  refine xv_iconst (v := nI 2) dL_law_964 rfl ?_
  refine xv_iadd dL_law_965 ?_
  refine xv_nmI (nI_add _ _) ?_
  refine xv_sld dL_law_966 (xv_ixn (by omega) (by omega)) ?_
  refine xv_if_eq (tgt := 974) dL_law_967 rfl (fun c_967 => ?_) (fun c_967 => ?_)
  · refine xv_iconst (v := 0) dL_law_974 rfl ?_
    refine xv_callV0 (As := [_, _]) dL_law_975 cl_L_117 rfl rfl rfl rfl (go_0 hG) rfl rfl (Nat.le_of_ble_eq_true rfl) (Nat.le_of_ble_eq_true rfl) hu1 hu2 ?_
    refine hk G I J _ _ hR (Or.inl rfl) _ (fun v G2 I2 J2 hg2 hm => ?_)
    · refine xv_aload_n dL_law_978 rfl rfl ?_
      refine xv_aload_n dL_law_979 rfl rfl ?_
      refine xv_iload_n dL_law_980 rfl rfl ?_
      refine xv_iconst (v := nI 1) dL_law_981 rfl ?_
      refine xv_iadd dL_law_982 ?_
      refine xv_nmI (nI_add _ _) ?_
      refine xv_sld dL_law_983 (xv_ixn (by omega) (by omega)) ?_
      refine xv_aload_n dL_law_984 rfl rfl ?_
      refine xv_iload_n dL_law_985 rfl rfl ?_
      refine xv_iconst (v := nI 2) dL_law_986 rfl ?_
      refine xv_iadd dL_law_987 ?_
      refine xv_nmI (nI_add _ _) ?_
      refine xv_sld dL_law_988 (xv_ixn (by omega) (by omega)) ?_
      refine xv_if_eq (tgt := 996) dL_law_989 rfl (fun c_989 => ?_) (fun c_989 => absurd c_967 c_989)
      refine xv_iconst (v := 0) dL_law_996 rfl ?_
      refine xv_callV0 (As := [_, _]) dL_law_997 cl_L_121 rfl rfl rfl rfl (go_40 hg2) rfl rfl (Nat.le_of_ble_eq_true rfl) (Nat.le_of_ble_eq_true rfl) hu1 hu2 ?_
      refine hm _ (fun G3 I3 J3 hR3 => ?_)
      · refine xv_icmp_eq (tgt := 1504) dL_law_1000 rfl (fun c_1000 => ?_) (fun c_1000 => absurd rfl c_1000)
        exact kk G3 I3 J3 _ _ (Nat.le_add_right _ _) (Nat.le_add_right _ _) hR3
  · refine xv_iconst (v := 1) dL_law_970 rfl ?_
    refine xv_goto (tgt := 975) dL_law_971 rfl ?_
    refine xv_callV0 (As := [_, _]) dL_law_975 cl_L_117 rfl rfl rfl rfl (go_0 hG) rfl rfl (Nat.le_of_ble_eq_true rfl) (Nat.le_of_ble_eq_true rfl) hu1 hu2 ?_
    refine hk G I J _ _ hR (Or.inr rfl) _ (fun v G2 I2 J2 hg2 hm => ?_)
    · refine xv_aload_n dL_law_978 rfl rfl ?_
      refine xv_aload_n dL_law_979 rfl rfl ?_
      refine xv_iload_n dL_law_980 rfl rfl ?_
      refine xv_iconst (v := nI 1) dL_law_981 rfl ?_
      refine xv_iadd dL_law_982 ?_
      refine xv_nmI (nI_add _ _) ?_
      refine xv_sld dL_law_983 (xv_ixn (by omega) (by omega)) ?_
      refine xv_aload_n dL_law_984 rfl rfl ?_
      refine xv_iload_n dL_law_985 rfl rfl ?_
      refine xv_iconst (v := nI 2) dL_law_986 rfl ?_
      refine xv_iadd dL_law_987 ?_
      refine xv_nmI (nI_add _ _) ?_
      refine xv_sld dL_law_988 (xv_ixn (by omega) (by omega)) ?_
      refine xv_if_eq (tgt := 996) dL_law_989 rfl (fun c_989 => absurd c_989 c_967) (fun c_989 => ?_)
      refine xv_iconst (v := 1) dL_law_992 rfl ?_
      refine xv_goto (tgt := 997) dL_law_993 rfl ?_
      refine xv_callV0 (As := [_, _]) dL_law_997 cl_L_121 rfl rfl rfl rfl (go_40 hg2) rfl rfl (Nat.le_of_ble_eq_true rfl) (Nat.le_of_ble_eq_true rfl) hu1 hu2 ?_
      refine hm _ (fun G3 I3 J3 hR3 => ?_)
      · refine xv_icmp_eq (tgt := 1504) dL_law_1000 rfl (fun c_1000 => ?_) (fun c_1000 => absurd rfl c_1000)
        exact kk G3 I3 J3 _ _ (Nat.le_add_right _ _) (Nat.le_add_right _ _) hR3

theorem lw_c25 {R : xv_R} {l : Launch} {D : va_G} {L i uc us : Nat} {xs : Nat → Int32} {Q : xv_Po} (hL : L ≤ 3072) (hok : ∀ G I J, R G I J → xg_ok G) (hk : ∀ (G : xv_Gr) (I : xv_I) (J : xv_J) (x : Int32), R G I J → PrI R l D mX10_likely mX11_likely [some (.ref 0), some (.int x)] [some (.ref 40), some (.int x)] G I J) (hi : i + 6 ≤ L) (hc1 : uc + 4 ≤ 600000) (hc2 : us + 1211 ≤ 7302250) {G : xv_Gr} {I : xv_I} {J : xv_J} (hR : R G I J) (kk : ∀ G2 I2 J2 uc2 us2, uc2 ≤ uc + 4 → us2 ≤ us + 1211 → R G2 I2 J2 → xv_Ev l D 100 mL_law (some (L, xs)) 1504 [some (.ref xv_SC), some (.ref 0), some (.ref 40), some (.int (nI i))] [] G2 I2 J2 uc2 us2 Q) : xv_Ev l D 100 mL_law (some (L, xs)) 1005 [some (.ref xv_SC), some (.ref 0), some (.ref 40), some (.int (nI i))] [] G I J uc us Q := by
  have hG := hok G I J hR
  have hu1 : uc ≤ mL_law.2.2.2.2.1 := Nat.le_trans (Nat.le_add_right _ _) hc1
  have hu2 : us ≤ mL_law.2.2.2.2.2 := Nat.le_trans (Nat.le_add_right _ _) hc2
  refine xv_aload_n dL_law_1005 rfl rfl ?_
  refine xv_aload_n dL_law_1006 rfl rfl ?_
  refine xv_iload_n dL_law_1007 rfl rfl ?_
  refine xv_iconst (v := nI 1) dL_law_1008 rfl ?_
  refine xv_iadd dL_law_1009 ?_
  refine xv_nmI (nI_add _ _) ?_
  refine xv_sld dL_law_1010 (xv_ixn (by omega) (by omega)) ?_
  refine xv_callV0 (As := [_]) dL_law_1011 cl_L_122 rfl rfl rfl rfl (go_0 hG) rfl rfl (Nat.le_of_ble_eq_true rfl) (Nat.le_of_ble_eq_true rfl) hu1 hu2 ?_
  refine hk G I J _ hR  _ (fun v G2 I2 J2 hg2 hm => ?_)
  · refine xv_aload_n dL_law_1014 rfl rfl ?_
    refine xv_aload_n dL_law_1015 rfl rfl ?_
    refine xv_iload_n dL_law_1016 rfl rfl ?_
    refine xv_iconst (v := nI 1) dL_law_1017 rfl ?_
    refine xv_iadd dL_law_1018 ?_
    refine xv_nmI (nI_add _ _) ?_
    refine xv_sld dL_law_1019 (xv_ixn (by omega) (by omega)) ?_
    refine xv_callV0 (As := [_]) dL_law_1020 cl_L_125 rfl rfl rfl rfl (go_40 hg2) rfl rfl (Nat.le_of_ble_eq_true rfl) (Nat.le_of_ble_eq_true rfl) hu1 hu2 ?_
    refine hm _ (fun G3 I3 J3 hR3 => ?_)
    · refine xv_icmp_eq (tgt := 1504) dL_law_1023 rfl (fun c_1023 => ?_) (fun c_1023 => absurd rfl c_1023)
      exact kk G3 I3 J3 _ _ (Nat.le_add_right _ _) (Nat.le_add_right _ _) hR3

theorem lw_c26 {R : xv_R} {l : Launch} {D : va_G} {L i uc us : Nat} {xs : Nat → Int32} {Q : xv_Po} (hL : L ≤ 3072) (hok : ∀ G I J, R G I J → xg_ok G) (hk : ∀ (G : xv_Gr) (I : xv_I) (J : xv_J), R G I J → PrI R l D mX10_causes mX11_causes [some (.ref 0)] [some (.ref 40), none] G I J) (hi : i + 6 ≤ L) (hc1 : uc + 4 ≤ 600000) (hc2 : us + 1211 ≤ 7302250) {G : xv_Gr} {I : xv_I} {J : xv_J} (hR : R G I J) (kk : ∀ G2 I2 J2 uc2 us2, uc2 ≤ uc + 4 → us2 ≤ us + 1211 → R G2 I2 J2 → xv_Ev l D 100 mL_law (some (L, xs)) 1504 [some (.ref xv_SC), some (.ref 0), some (.ref 40), some (.int (nI i))] [] G2 I2 J2 uc2 us2 Q) : xv_Ev l D 100 mL_law (some (L, xs)) 1028 [some (.ref xv_SC), some (.ref 0), some (.ref 40), some (.int (nI i))] [] G I J uc us Q := by
  have hG := hok G I J hR
  have hu1 : uc ≤ mL_law.2.2.2.2.1 := Nat.le_trans (Nat.le_add_right _ _) hc1
  have hu2 : us ≤ mL_law.2.2.2.2.2 := Nat.le_trans (Nat.le_add_right _ _) hc2
  refine xv_aload_n dL_law_1028 rfl rfl ?_
  refine xv_callV0 (As := []) dL_law_1029 cl_L_126 rfl rfl rfl rfl (go_0 hG) rfl rfl (Nat.le_of_ble_eq_true rfl) (Nat.le_of_ble_eq_true rfl) hu1 hu2 ?_
  refine hk G I J  hR  _ (fun v G2 I2 J2 hg2 hm => ?_)
  · refine xv_aload_n dL_law_1032 rfl rfl ?_
    refine xv_callV0 (As := []) dL_law_1033 cl_L_129 rfl rfl rfl rfl (go_40 hg2) rfl rfl (Nat.le_of_ble_eq_true rfl) (Nat.le_of_ble_eq_true rfl) hu1 hu2 ?_
    refine hm _ (fun G3 I3 J3 hR3 => ?_)
    · refine xv_icmp_eq (tgt := 1504) dL_law_1036 rfl (fun c_1036 => ?_) (fun c_1036 => absurd rfl c_1036)
      exact kk G3 I3 J3 _ _ (Nat.le_add_right _ _) (Nat.le_add_right _ _) hR3

theorem lw_c27 {R : xv_R} {l : Launch} {D : va_G} {L i uc us : Nat} {xs : Nat → Int32} {Q : xv_Po} (hL : L ≤ 3072) (hok : ∀ G I J, R G I J → xg_ok G) (hk : ∀ (G : xv_Gr) (I : xv_I) (J : xv_J) (x : Int32), R G I J → PrI R l D mX10_cause mX11_cause [some (.ref 0), some (.int x)] [some (.ref 40), some (.int x), none, none, none] G I J) (hi : i + 6 ≤ L) (hc1 : uc + 4 ≤ 600000) (hc2 : us + 1211 ≤ 7302250) {G : xv_Gr} {I : xv_I} {J : xv_J} (hR : R G I J) (kk : ∀ G2 I2 J2 uc2 us2, uc2 ≤ uc + 4 → us2 ≤ us + 1211 → R G2 I2 J2 → xv_Ev l D 100 mL_law (some (L, xs)) 1504 [some (.ref xv_SC), some (.ref 0), some (.ref 40), some (.int (nI i))] [] G2 I2 J2 uc2 us2 Q) : xv_Ev l D 100 mL_law (some (L, xs)) 1041 [some (.ref xv_SC), some (.ref 0), some (.ref 40), some (.int (nI i))] [] G I J uc us Q := by
  have hG := hok G I J hR
  have hu1 : uc ≤ mL_law.2.2.2.2.1 := Nat.le_trans (Nat.le_add_right _ _) hc1
  have hu2 : us ≤ mL_law.2.2.2.2.2 := Nat.le_trans (Nat.le_add_right _ _) hc2
  refine xv_aload_n dL_law_1041 rfl rfl ?_
  refine xv_aload_n dL_law_1042 rfl rfl ?_
  refine xv_iload_n dL_law_1043 rfl rfl ?_
  refine xv_iconst (v := nI 1) dL_law_1044 rfl ?_
  refine xv_iadd dL_law_1045 ?_
  refine xv_nmI (nI_add _ _) ?_
  refine xv_sld dL_law_1046 (xv_ixn (by omega) (by omega)) ?_
  refine xv_callV0 (As := [_]) dL_law_1047 cl_L_130 rfl rfl rfl rfl (go_0 hG) rfl rfl (Nat.le_of_ble_eq_true rfl) (Nat.le_of_ble_eq_true rfl) hu1 hu2 ?_
  refine hk G I J _ hR  _ (fun v G2 I2 J2 hg2 hm => ?_)
  · refine xv_aload_n dL_law_1050 rfl rfl ?_
    refine xv_aload_n dL_law_1051 rfl rfl ?_
    refine xv_iload_n dL_law_1052 rfl rfl ?_
    refine xv_iconst (v := nI 1) dL_law_1053 rfl ?_
    refine xv_iadd dL_law_1054 ?_
    refine xv_nmI (nI_add _ _) ?_
    refine xv_sld dL_law_1055 (xv_ixn (by omega) (by omega)) ?_
    refine xv_callV0 (As := [_]) dL_law_1056 cl_L_133 rfl rfl rfl rfl (go_40 hg2) rfl rfl (Nat.le_of_ble_eq_true rfl) (Nat.le_of_ble_eq_true rfl) hu1 hu2 ?_
    refine hm _ (fun G3 I3 J3 hR3 => ?_)
    · refine xv_icmp_eq (tgt := 1504) dL_law_1059 rfl (fun c_1059 => ?_) (fun c_1059 => absurd rfl c_1059)
      exact kk G3 I3 J3 _ _ (Nat.le_add_right _ _) (Nat.le_add_right _ _) hR3

theorem lw_c28 {R : xv_R} {l : Launch} {D : va_G} {L i uc us : Nat} {xs : Nat → Int32} {Q : xv_Po} (hL : L ≤ 3072) (hok : ∀ G I J, R G I J → xg_ok G) (hk : ∀ (G : xv_Gr) (I : xv_I) (J : xv_J) (x : Int32), R G I J → PrI R l D mX10_pass mX11_pass [some (.ref 0), some (.int x), none] [some (.ref 40), some (.int x), none, none, none] G I J) (hi : i + 6 ≤ L) (hc1 : uc + 4 ≤ 600000) (hc2 : us + 1211 ≤ 7302250) {G : xv_Gr} {I : xv_I} {J : xv_J} (hR : R G I J) (kk : ∀ G2 I2 J2 uc2 us2, uc2 ≤ uc + 4 → us2 ≤ us + 1211 → R G2 I2 J2 → xv_Ev l D 100 mL_law (some (L, xs)) 1504 [some (.ref xv_SC), some (.ref 0), some (.ref 40), some (.int (nI i))] [] G2 I2 J2 uc2 us2 Q) : xv_Ev l D 100 mL_law (some (L, xs)) 1064 [some (.ref xv_SC), some (.ref 0), some (.ref 40), some (.int (nI i))] [] G I J uc us Q := by
  have hG := hok G I J hR
  have hu1 : uc ≤ mL_law.2.2.2.2.1 := Nat.le_trans (Nat.le_add_right _ _) hc1
  have hu2 : us ≤ mL_law.2.2.2.2.2 := Nat.le_trans (Nat.le_add_right _ _) hc2
  refine xv_aload_n dL_law_1064 rfl rfl ?_
  refine xv_aload_n dL_law_1065 rfl rfl ?_
  refine xv_iload_n dL_law_1066 rfl rfl ?_
  refine xv_iconst (v := nI 1) dL_law_1067 rfl ?_
  refine xv_iadd dL_law_1068 ?_
  refine xv_nmI (nI_add _ _) ?_
  refine xv_sld dL_law_1069 (xv_ixn (by omega) (by omega)) ?_
  refine xv_callV0 (As := [_]) dL_law_1070 cl_L_134 rfl rfl rfl rfl (go_0 hG) rfl rfl (Nat.le_of_ble_eq_true rfl) (Nat.le_of_ble_eq_true rfl) hu1 hu2 ?_
  refine hk G I J _ hR  _ (fun v G2 I2 J2 hg2 hm => ?_)
  · refine xv_aload_n dL_law_1073 rfl rfl ?_
    refine xv_aload_n dL_law_1074 rfl rfl ?_
    refine xv_iload_n dL_law_1075 rfl rfl ?_
    refine xv_iconst (v := nI 1) dL_law_1076 rfl ?_
    refine xv_iadd dL_law_1077 ?_
    refine xv_nmI (nI_add _ _) ?_
    refine xv_sld dL_law_1078 (xv_ixn (by omega) (by omega)) ?_
    refine xv_callV0 (As := [_]) dL_law_1079 cl_L_137 rfl rfl rfl rfl (go_40 hg2) rfl rfl (Nat.le_of_ble_eq_true rfl) (Nat.le_of_ble_eq_true rfl) hu1 hu2 ?_
    refine hm _ (fun G3 I3 J3 hR3 => ?_)
    · refine xv_icmp_eq (tgt := 1504) dL_law_1082 rfl (fun c_1082 => ?_) (fun c_1082 => absurd rfl c_1082)
      exact kk G3 I3 J3 _ _ (Nat.le_add_right _ _) (Nat.le_add_right _ _) hR3

theorem lw_c29 {R : xv_R} {l : Launch} {D : va_G} {L i uc us : Nat} {xs : Nat → Int32} {Q : xv_Po} (hL : L ≤ 3072) (hok : ∀ G I J, R G I J → xg_ok G) (hk : ∀ (G : xv_Gr) (I : xv_I) (J : xv_J) (x : Int32) (y : Int32) (z : Int32), R G I J → PrI R l D mX10_loan mX11_loan [some (.ref 0), some (.int x), some (.int y), some (.int z)] [some (.ref 40), some (.int x), some (.int y), some (.int z)] G I J) (hi : i + 6 ≤ L) (hc1 : uc + 4 ≤ 600000) (hc2 : us + 1211 ≤ 7302250) {G : xv_Gr} {I : xv_I} {J : xv_J} (hR : R G I J) (kk : ∀ G2 I2 J2 uc2 us2, uc2 ≤ uc + 4 → us2 ≤ us + 1211 → R G2 I2 J2 → xv_Ev l D 100 mL_law (some (L, xs)) 1504 [some (.ref xv_SC), some (.ref 0), some (.ref 40), some (.int (nI i))] [] G2 I2 J2 uc2 us2 Q) : xv_Ev l D 100 mL_law (some (L, xs)) 1087 [some (.ref xv_SC), some (.ref 0), some (.ref 40), some (.int (nI i))] [] G I J uc us Q := by
  have hG := hok G I J hR
  have hu1 : uc ≤ mL_law.2.2.2.2.1 := Nat.le_trans (Nat.le_add_right _ _) hc1
  have hu2 : us ≤ mL_law.2.2.2.2.2 := Nat.le_trans (Nat.le_add_right _ _) hc2
  have hu3 : uc + 4 ≤ mL_law.2.2.2.2.1 := Nat.le_trans (Nat.add_le_add_left (by decide) _) hc1
  have hu4 : us + 1211 ≤ mL_law.2.2.2.2.2 := Nat.le_trans (Nat.add_le_add_left (by decide) _) hc2
  refine xv_aload_n dL_law_1087 rfl rfl ?_
  refine xv_aload_n dL_law_1088 rfl rfl ?_
  refine xv_iload_n dL_law_1089 rfl rfl ?_
  refine xv_iconst (v := nI 1) dL_law_1090 rfl ?_
  refine xv_iadd dL_law_1091 ?_
  refine xv_nmI (nI_add _ _) ?_
  refine xv_sld dL_law_1092 (xv_ixn (by omega) (by omega)) ?_
  refine xv_aload_n dL_law_1093 rfl rfl ?_
  refine xv_iload_n dL_law_1094 rfl rfl ?_
  refine xv_iconst (v := nI 2) dL_law_1095 rfl ?_
  refine xv_iadd dL_law_1096 ?_
  refine xv_nmI (nI_add _ _) ?_
  refine xv_sld dL_law_1097 (xv_ixn (by omega) (by omega)) ?_
  refine xv_aload_n dL_law_1098 rfl rfl ?_
  refine xv_iload_n dL_law_1099 rfl rfl ?_
  refine xv_iconst (v := nI 3) dL_law_1100 rfl ?_
  refine xv_iadd dL_law_1101 ?_
  refine xv_nmI (nI_add _ _) ?_
  refine xv_sld dL_law_1102 (xv_ixn (by omega) (by omega)) ?_
  refine xv_callV (As := [_, _, _]) dL_law_1103 cl_L_138 rfl rfl (go_0 hG) rfl rfl (Nat.le_of_ble_eq_true rfl) (Nat.le_of_ble_eq_true rfl) hu3 hu4 ?_
  refine hk G I J _ _ _ hR  _ (fun v G2 I2 J2 hg2 hm => ?_)
  · refine xv_aload_n dL_law_1106 rfl rfl ?_
    refine xv_aload_n dL_law_1107 rfl rfl ?_
    refine xv_iload_n dL_law_1108 rfl rfl ?_
    refine xv_iconst (v := nI 1) dL_law_1109 rfl ?_
    refine xv_iadd dL_law_1110 ?_
    refine xv_nmI (nI_add _ _) ?_
    refine xv_sld dL_law_1111 (xv_ixn (by omega) (by omega)) ?_
    refine xv_aload_n dL_law_1112 rfl rfl ?_
    refine xv_iload_n dL_law_1113 rfl rfl ?_
    refine xv_iconst (v := nI 2) dL_law_1114 rfl ?_
    refine xv_iadd dL_law_1115 ?_
    refine xv_nmI (nI_add _ _) ?_
    refine xv_sld dL_law_1116 (xv_ixn (by omega) (by omega)) ?_
    refine xv_aload_n dL_law_1117 rfl rfl ?_
    refine xv_iload_n dL_law_1118 rfl rfl ?_
    refine xv_iconst (v := nI 3) dL_law_1119 rfl ?_
    refine xv_iadd dL_law_1120 ?_
    refine xv_nmI (nI_add _ _) ?_
    refine xv_sld dL_law_1121 (xv_ixn (by omega) (by omega)) ?_
    refine xv_callV0 (As := [_, _, _]) dL_law_1122 cl_L_141 rfl rfl rfl rfl (go_40 hg2) rfl rfl (Nat.le_of_ble_eq_true rfl) (Nat.le_of_ble_eq_true rfl) hu3 hu4 ?_
    refine hm _ (fun G3 I3 J3 hR3 => ?_)
    · refine xv_icmp_eq (tgt := 1504) dL_law_1125 rfl (fun c_1125 => ?_) (fun c_1125 => absurd rfl c_1125)
      exact kk G3 I3 J3 _ _ (show uc + 4 ≤ uc + 4 from Nat.le_refl _) (show us + 1211 ≤ us + 1211 from Nat.le_refl _) hR3

theorem lw_c30 {R : xv_R} {l : Launch} {D : va_G} {L i uc us : Nat} {xs : Nat → Int32} {Q : xv_Po} (hL : L ≤ 3072) (hok : ∀ G I J, R G I J → xg_ok G) (hk : ∀ (G : xv_Gr) (I : xv_I) (J : xv_J) (x : Int32) (y : Int32), R G I J → PrI R l D mX10_pay mX11_pay [some (.ref 0), some (.int x), some (.int y), none] [some (.ref 40), some (.int x), some (.int y), none, none] G I J) (hi : i + 6 ≤ L) (hc1 : uc + 4 ≤ 600000) (hc2 : us + 1211 ≤ 7302250) {G : xv_Gr} {I : xv_I} {J : xv_J} (hR : R G I J) (kk : ∀ G2 I2 J2 uc2 us2, uc2 ≤ uc + 4 → us2 ≤ us + 1211 → R G2 I2 J2 → xv_Ev l D 100 mL_law (some (L, xs)) 1504 [some (.ref xv_SC), some (.ref 0), some (.ref 40), some (.int (nI i))] [] G2 I2 J2 uc2 us2 Q) : xv_Ev l D 100 mL_law (some (L, xs)) 1130 [some (.ref xv_SC), some (.ref 0), some (.ref 40), some (.int (nI i))] [] G I J uc us Q := by
  have hG := hok G I J hR
  have hu1 : uc ≤ mL_law.2.2.2.2.1 := Nat.le_trans (Nat.le_add_right _ _) hc1
  have hu2 : us ≤ mL_law.2.2.2.2.2 := Nat.le_trans (Nat.le_add_right _ _) hc2
  refine xv_aload_n dL_law_1130 rfl rfl ?_
  refine xv_aload_n dL_law_1131 rfl rfl ?_
  refine xv_iload_n dL_law_1132 rfl rfl ?_
  refine xv_iconst (v := nI 1) dL_law_1133 rfl ?_
  refine xv_iadd dL_law_1134 ?_
  refine xv_nmI (nI_add _ _) ?_
  refine xv_sld dL_law_1135 (xv_ixn (by omega) (by omega)) ?_
  refine xv_aload_n dL_law_1136 rfl rfl ?_
  refine xv_iload_n dL_law_1137 rfl rfl ?_
  refine xv_iconst (v := nI 2) dL_law_1138 rfl ?_
  refine xv_iadd dL_law_1139 ?_
  refine xv_nmI (nI_add _ _) ?_
  refine xv_sld dL_law_1140 (xv_ixn (by omega) (by omega)) ?_
  refine xv_callV0 (As := [_, _]) dL_law_1141 cl_L_142 rfl rfl rfl rfl (go_0 hG) rfl rfl (Nat.le_of_ble_eq_true rfl) (Nat.le_of_ble_eq_true rfl) hu1 hu2 ?_
  refine hk G I J _ _ hR  _ (fun v G2 I2 J2 hg2 hm => ?_)
  · refine xv_aload_n dL_law_1144 rfl rfl ?_
    refine xv_aload_n dL_law_1145 rfl rfl ?_
    refine xv_iload_n dL_law_1146 rfl rfl ?_
    refine xv_iconst (v := nI 1) dL_law_1147 rfl ?_
    refine xv_iadd dL_law_1148 ?_
    refine xv_nmI (nI_add _ _) ?_
    refine xv_sld dL_law_1149 (xv_ixn (by omega) (by omega)) ?_
    refine xv_aload_n dL_law_1150 rfl rfl ?_
    refine xv_iload_n dL_law_1151 rfl rfl ?_
    refine xv_iconst (v := nI 2) dL_law_1152 rfl ?_
    refine xv_iadd dL_law_1153 ?_
    refine xv_nmI (nI_add _ _) ?_
    refine xv_sld dL_law_1154 (xv_ixn (by omega) (by omega)) ?_
    refine xv_callV0 (As := [_, _]) dL_law_1155 cl_L_145 rfl rfl rfl rfl (go_40 hg2) rfl rfl (Nat.le_of_ble_eq_true rfl) (Nat.le_of_ble_eq_true rfl) hu1 hu2 ?_
    refine hm _ (fun G3 I3 J3 hR3 => ?_)
    · refine xv_icmp_eq (tgt := 1504) dL_law_1158 rfl (fun c_1158 => ?_) (fun c_1158 => absurd rfl c_1158)
      exact kk G3 I3 J3 _ _ (Nat.le_add_right _ _) (Nat.le_add_right _ _) hR3

theorem lw_c31 {R : xv_R} {l : Launch} {D : va_G} {L i uc us : Nat} {xs : Nat → Int32} {Q : xv_Po} (hL : L ≤ 3072) (hok : ∀ G I J, R G I J → xg_ok G) (hk : ∀ (G : xv_Gr) (I : xv_I) (J : xv_J) (x : Int32) (y : Int32), R G I J → (y = 0 ∨ y = 1) → PrI R l D mX10_work mX11_work [some (.ref 0), some (.int x), some (.int y), none, none] [some (.ref 40), some (.int x), some (.int y), none] G I J) (hi : i + 6 ≤ L) (hc1 : uc + 4 ≤ 600000) (hc2 : us + 1211 ≤ 7302250) {G : xv_Gr} {I : xv_I} {J : xv_J} (hR : R G I J) (kk : ∀ G2 I2 J2 uc2 us2, uc2 ≤ uc + 4 → us2 ≤ us + 1211 → R G2 I2 J2 → xv_Ev l D 100 mL_law (some (L, xs)) 1504 [some (.ref xv_SC), some (.ref 0), some (.ref 40), some (.int (nI i))] [] G2 I2 J2 uc2 us2 Q) : xv_Ev l D 100 mL_law (some (L, xs)) 1163 [some (.ref xv_SC), some (.ref 0), some (.ref 40), some (.int (nI i))] [] G I J uc us Q := by
  have hG := hok G I J hR
  have hu1 : uc ≤ mL_law.2.2.2.2.1 := Nat.le_trans (Nat.le_add_right _ _) hc1
  have hu2 : us ≤ mL_law.2.2.2.2.2 := Nat.le_trans (Nat.le_add_right _ _) hc2
  refine xv_aload_n dL_law_1163 rfl rfl ?_
  refine xv_aload_n dL_law_1164 rfl rfl ?_
  refine xv_iload_n dL_law_1165 rfl rfl ?_
  refine xv_iconst (v := nI 1) dL_law_1166 rfl ?_
  refine xv_iadd dL_law_1167 ?_
  refine xv_nmI (nI_add _ _) ?_
  refine xv_sld dL_law_1168 (xv_ixn (by omega) (by omega)) ?_
  refine xv_aload_n dL_law_1169 rfl rfl ?_
  refine xv_iload_n dL_law_1170 rfl rfl ?_
  refine xv_iconst (v := nI 2) dL_law_1171 rfl ?_
  refine xv_iadd dL_law_1172 ?_
  refine xv_nmI (nI_add _ _) ?_
  refine xv_sld dL_law_1173 (xv_ixn (by omega) (by omega)) ?_
  refine xv_if_eq (tgt := 1181) dL_law_1174 rfl (fun c_1174 => ?_) (fun c_1174 => ?_)
  · refine xv_iconst (v := 0) dL_law_1181 rfl ?_
    refine xv_callV0 (As := [_, _]) dL_law_1182 cl_L_146 rfl rfl rfl rfl (go_0 hG) rfl rfl (Nat.le_of_ble_eq_true rfl) (Nat.le_of_ble_eq_true rfl) hu1 hu2 ?_
    refine hk G I J _ _ hR (Or.inl rfl) _ (fun v G2 I2 J2 hg2 hm => ?_)
    · refine xv_aload_n dL_law_1185 rfl rfl ?_
      refine xv_aload_n dL_law_1186 rfl rfl ?_
      refine xv_iload_n dL_law_1187 rfl rfl ?_
      refine xv_iconst (v := nI 1) dL_law_1188 rfl ?_
      refine xv_iadd dL_law_1189 ?_
      refine xv_nmI (nI_add _ _) ?_
      refine xv_sld dL_law_1190 (xv_ixn (by omega) (by omega)) ?_
      refine xv_aload_n dL_law_1191 rfl rfl ?_
      refine xv_iload_n dL_law_1192 rfl rfl ?_
      refine xv_iconst (v := nI 2) dL_law_1193 rfl ?_
      refine xv_iadd dL_law_1194 ?_
      refine xv_nmI (nI_add _ _) ?_
      refine xv_sld dL_law_1195 (xv_ixn (by omega) (by omega)) ?_
      refine xv_if_eq (tgt := 1203) dL_law_1196 rfl (fun c_1196 => ?_) (fun c_1196 => absurd c_1174 c_1196)
      refine xv_iconst (v := 0) dL_law_1203 rfl ?_
      refine xv_callV0 (As := [_, _]) dL_law_1204 cl_L_149 rfl rfl rfl rfl (go_40 hg2) rfl rfl (Nat.le_of_ble_eq_true rfl) (Nat.le_of_ble_eq_true rfl) hu1 hu2 ?_
      refine hm _ (fun G3 I3 J3 hR3 => ?_)
      · refine xv_icmp_eq (tgt := 1504) dL_law_1207 rfl (fun c_1207 => ?_) (fun c_1207 => absurd rfl c_1207)
        exact kk G3 I3 J3 _ _ (Nat.le_add_right _ _) (Nat.le_add_right _ _) hR3
  · refine xv_iconst (v := 1) dL_law_1177 rfl ?_
    refine xv_goto (tgt := 1182) dL_law_1178 rfl ?_
    refine xv_callV0 (As := [_, _]) dL_law_1182 cl_L_146 rfl rfl rfl rfl (go_0 hG) rfl rfl (Nat.le_of_ble_eq_true rfl) (Nat.le_of_ble_eq_true rfl) hu1 hu2 ?_
    refine hk G I J _ _ hR (Or.inr rfl) _ (fun v G2 I2 J2 hg2 hm => ?_)
    · refine xv_aload_n dL_law_1185 rfl rfl ?_
      refine xv_aload_n dL_law_1186 rfl rfl ?_
      refine xv_iload_n dL_law_1187 rfl rfl ?_
      refine xv_iconst (v := nI 1) dL_law_1188 rfl ?_
      refine xv_iadd dL_law_1189 ?_
      refine xv_nmI (nI_add _ _) ?_
      refine xv_sld dL_law_1190 (xv_ixn (by omega) (by omega)) ?_
      refine xv_aload_n dL_law_1191 rfl rfl ?_
      refine xv_iload_n dL_law_1192 rfl rfl ?_
      refine xv_iconst (v := nI 2) dL_law_1193 rfl ?_
      refine xv_iadd dL_law_1194 ?_
      refine xv_nmI (nI_add _ _) ?_
      refine xv_sld dL_law_1195 (xv_ixn (by omega) (by omega)) ?_
      refine xv_if_eq (tgt := 1203) dL_law_1196 rfl (fun c_1196 => absurd c_1196 c_1174) (fun c_1196 => ?_)
      refine xv_iconst (v := 1) dL_law_1199 rfl ?_
      refine xv_goto (tgt := 1204) dL_law_1200 rfl ?_
      refine xv_callV0 (As := [_, _]) dL_law_1204 cl_L_149 rfl rfl rfl rfl (go_40 hg2) rfl rfl (Nat.le_of_ble_eq_true rfl) (Nat.le_of_ble_eq_true rfl) hu1 hu2 ?_
      refine hm _ (fun G3 I3 J3 hR3 => ?_)
      · refine xv_icmp_eq (tgt := 1504) dL_law_1207 rfl (fun c_1207 => ?_) (fun c_1207 => absurd rfl c_1207)
        exact kk G3 I3 J3 _ _ (Nat.le_add_right _ _) (Nat.le_add_right _ _) hR3

theorem lw_c32 {R : xv_R} {l : Launch} {D : va_G} {L i uc us : Nat} {xs : Nat → Int32} {Q : xv_Po} (hL : L ≤ 3072) (hok : ∀ G I J, R G I J → xg_ok G) (hk : ∀ (G : xv_Gr) (I : xv_I) (J : xv_J) (x : Int32) (y : Int32) (z : Int32), R G I J → PrL R l D mX10_as mX11_as [some (.ref 0), some (.int x), some (.int y), some (.int z), none] [some (.ref 40), some (.int x), some (.int y), some (.int z), none] G I J) (hi : i + 6 ≤ L) (hc1 : uc + 4 ≤ 600000) (hc2 : us + 1211 ≤ 7302250) {G : xv_Gr} {I : xv_I} {J : xv_J} (hR : R G I J) (kk : ∀ G2 I2 J2 uc2 us2, uc2 ≤ uc + 4 → us2 ≤ us + 1211 → R G2 I2 J2 → xv_Ev l D 100 mL_law (some (L, xs)) 1504 [some (.ref xv_SC), some (.ref 0), some (.ref 40), some (.int (nI i))] [] G2 I2 J2 uc2 us2 Q) : xv_Ev l D 100 mL_law (some (L, xs)) 1212 [some (.ref xv_SC), some (.ref 0), some (.ref 40), some (.int (nI i))] [] G I J uc us Q := by
  have hG := hok G I J hR
  have hu1 : uc ≤ mL_law.2.2.2.2.1 := Nat.le_trans (Nat.le_add_right _ _) hc1
  have hu2 : us ≤ mL_law.2.2.2.2.2 := Nat.le_trans (Nat.le_add_right _ _) hc2
  refine xv_aload_n dL_law_1212 rfl rfl ?_
  refine xv_aload_n dL_law_1213 rfl rfl ?_
  refine xv_iload_n dL_law_1214 rfl rfl ?_
  refine xv_iconst (v := nI 1) dL_law_1215 rfl ?_
  refine xv_iadd dL_law_1216 ?_
  refine xv_nmI (nI_add _ _) ?_
  refine xv_sld dL_law_1217 (xv_ixn (by omega) (by omega)) ?_
  refine xv_aload_n dL_law_1218 rfl rfl ?_
  refine xv_iload_n dL_law_1219 rfl rfl ?_
  refine xv_iconst (v := nI 2) dL_law_1220 rfl ?_
  refine xv_iadd dL_law_1221 ?_
  refine xv_nmI (nI_add _ _) ?_
  refine xv_sld dL_law_1222 (xv_ixn (by omega) (by omega)) ?_
  refine xv_aload_n dL_law_1223 rfl rfl ?_
  refine xv_iload_n dL_law_1224 rfl rfl ?_
  refine xv_iconst (v := nI 3) dL_law_1225 rfl ?_
  refine xv_iadd dL_law_1226 ?_
  refine xv_nmI (nI_add _ _) ?_
  refine xv_sld dL_law_1227 (xv_ixn (by omega) (by omega)) ?_
  refine xv_callV0 (As := [_, _, _]) dL_law_1228 cl_L_150 rfl rfl rfl rfl (go_0 hG) rfl rfl (Nat.le_of_ble_eq_true rfl) (Nat.le_of_ble_eq_true rfl) hu1 hu2 ?_
  refine hk G I J _ _ _ hR  _ (fun v G2 I2 J2 hg2 hm => ?_)
  · refine xv_aload_n dL_law_1231 rfl rfl ?_
    refine xv_aload_n dL_law_1232 rfl rfl ?_
    refine xv_iload_n dL_law_1233 rfl rfl ?_
    refine xv_iconst (v := nI 1) dL_law_1234 rfl ?_
    refine xv_iadd dL_law_1235 ?_
    refine xv_nmI (nI_add _ _) ?_
    refine xv_sld dL_law_1236 (xv_ixn (by omega) (by omega)) ?_
    refine xv_aload_n dL_law_1237 rfl rfl ?_
    refine xv_iload_n dL_law_1238 rfl rfl ?_
    refine xv_iconst (v := nI 2) dL_law_1239 rfl ?_
    refine xv_iadd dL_law_1240 ?_
    refine xv_nmI (nI_add _ _) ?_
    refine xv_sld dL_law_1241 (xv_ixn (by omega) (by omega)) ?_
    refine xv_aload_n dL_law_1242 rfl rfl ?_
    refine xv_iload_n dL_law_1243 rfl rfl ?_
    refine xv_iconst (v := nI 3) dL_law_1244 rfl ?_
    refine xv_iadd dL_law_1245 ?_
    refine xv_nmI (nI_add _ _) ?_
    refine xv_sld dL_law_1246 (xv_ixn (by omega) (by omega)) ?_
    refine xv_callV0 (As := [_, _, _]) dL_law_1247 cl_L_154 rfl rfl rfl rfl (go_40 hg2) rfl rfl (Nat.le_of_ble_eq_true rfl) (Nat.le_of_ble_eq_true rfl) hu1 hu2 ?_
    refine hm _ (fun G3 I3 J3 hR3 => ?_)
    · refine xv_lcmp dL_law_1250 ?_
      refine xv_if_eq (tgt := 1504) dL_law_1251 rfl (fun c_1251 => ?_) (fun c_1251 => absurd ((xn_cmp_eq _ _).mpr rfl) c_1251)
      exact kk G3 I3 J3 _ _ (Nat.le_add_right _ _) (Nat.le_add_right _ _) hR3

theorem lw_c33 {R : xv_R} {l : Launch} {D : va_G} {L i uc us : Nat} {xs : Nat → Int32} {Q : xv_Po} (hL : L ≤ 3072) (hok : ∀ G I J, R G I J → xg_ok G) (hk : ∀ (G : xv_Gr) (I : xv_I) (J : xv_J) (x : Int32), R G I J → PrI R l D mX10_arrears mX11_arrears [some (.ref 0), some (.int x), none] [some (.ref 40), some (.int x)] G I J) (hi : i + 6 ≤ L) (hc1 : uc + 4 ≤ 600000) (hc2 : us + 1211 ≤ 7302250) {G : xv_Gr} {I : xv_I} {J : xv_J} (hR : R G I J) (kk : ∀ G2 I2 J2 uc2 us2, uc2 ≤ uc + 4 → us2 ≤ us + 1211 → R G2 I2 J2 → xv_Ev l D 100 mL_law (some (L, xs)) 1504 [some (.ref xv_SC), some (.ref 0), some (.ref 40), some (.int (nI i))] [] G2 I2 J2 uc2 us2 Q) : xv_Ev l D 100 mL_law (some (L, xs)) 1256 [some (.ref xv_SC), some (.ref 0), some (.ref 40), some (.int (nI i))] [] G I J uc us Q := by
  have hG := hok G I J hR
  have hu1 : uc ≤ mL_law.2.2.2.2.1 := Nat.le_trans (Nat.le_add_right _ _) hc1
  have hu2 : us ≤ mL_law.2.2.2.2.2 := Nat.le_trans (Nat.le_add_right _ _) hc2
  refine xv_aload_n dL_law_1256 rfl rfl ?_
  refine xv_aload_n dL_law_1257 rfl rfl ?_
  refine xv_iload_n dL_law_1258 rfl rfl ?_
  refine xv_iconst (v := nI 1) dL_law_1259 rfl ?_
  refine xv_iadd dL_law_1260 ?_
  refine xv_nmI (nI_add _ _) ?_
  refine xv_sld dL_law_1261 (xv_ixn (by omega) (by omega)) ?_
  refine xv_callV0 (As := [_]) dL_law_1262 cl_L_155 rfl rfl rfl rfl (go_0 hG) rfl rfl (Nat.le_of_ble_eq_true rfl) (Nat.le_of_ble_eq_true rfl) hu1 hu2 ?_
  refine hk G I J _ hR  _ (fun v G2 I2 J2 hg2 hm => ?_)
  · refine xv_aload_n dL_law_1265 rfl rfl ?_
    refine xv_aload_n dL_law_1266 rfl rfl ?_
    refine xv_iload_n dL_law_1267 rfl rfl ?_
    refine xv_iconst (v := nI 1) dL_law_1268 rfl ?_
    refine xv_iadd dL_law_1269 ?_
    refine xv_nmI (nI_add _ _) ?_
    refine xv_sld dL_law_1270 (xv_ixn (by omega) (by omega)) ?_
    refine xv_callV0 (As := [_]) dL_law_1271 cl_L_158 rfl rfl rfl rfl (go_40 hg2) rfl rfl (Nat.le_of_ble_eq_true rfl) (Nat.le_of_ble_eq_true rfl) hu1 hu2 ?_
    refine hm _ (fun G3 I3 J3 hR3 => ?_)
    · refine xv_icmp_eq (tgt := 1504) dL_law_1274 rfl (fun c_1274 => ?_) (fun c_1274 => absurd rfl c_1274)
      exact kk G3 I3 J3 _ _ (Nat.le_add_right _ _) (Nat.le_add_right _ _) hR3

theorem lw_c34 {R : xv_R} {l : Launch} {D : va_G} {L i uc us : Nat} {xs : Nat → Int32} {Q : xv_Po} (hL : L ≤ 3072) (hok : ∀ G I J, R G I J → xg_ok G) (hk : ∀ (G : xv_Gr) (I : xv_I) (J : xv_J) (x : Int32), R G I J → PrI R l D mX10_term mX11_term [some (.ref 0), some (.int x)] [some (.ref 40), some (.int x)] G I J) (hi : i + 6 ≤ L) (hc1 : uc + 4 ≤ 600000) (hc2 : us + 1211 ≤ 7302250) {G : xv_Gr} {I : xv_I} {J : xv_J} (hR : R G I J) (kk : ∀ G2 I2 J2 uc2 us2, uc2 ≤ uc + 4 → us2 ≤ us + 1211 → R G2 I2 J2 → xv_Ev l D 100 mL_law (some (L, xs)) 1504 [some (.ref xv_SC), some (.ref 0), some (.ref 40), some (.int (nI i))] [] G2 I2 J2 uc2 us2 Q) : xv_Ev l D 100 mL_law (some (L, xs)) 1279 [some (.ref xv_SC), some (.ref 0), some (.ref 40), some (.int (nI i))] [] G I J uc us Q := by
  have hG := hok G I J hR
  have hu1 : uc ≤ mL_law.2.2.2.2.1 := Nat.le_trans (Nat.le_add_right _ _) hc1
  have hu2 : us ≤ mL_law.2.2.2.2.2 := Nat.le_trans (Nat.le_add_right _ _) hc2
  have hu3 : uc + 2 ≤ mL_law.2.2.2.2.1 := Nat.le_trans (Nat.add_le_add_left (by decide) _) hc1
  have hu4 : us + 66 ≤ mL_law.2.2.2.2.2 := Nat.le_trans (Nat.add_le_add_left (by decide) _) hc2
  refine xv_aload_n dL_law_1279 rfl rfl ?_
  refine xv_aload_n dL_law_1280 rfl rfl ?_
  refine xv_iload_n dL_law_1281 rfl rfl ?_
  refine xv_iconst (v := nI 1) dL_law_1282 rfl ?_
  refine xv_iadd dL_law_1283 ?_
  refine xv_nmI (nI_add _ _) ?_
  refine xv_sld dL_law_1284 (xv_ixn (by omega) (by omega)) ?_
  refine xv_callV (As := [_]) dL_law_1285 cl_L_159 rfl rfl (go_0 hG) rfl rfl (Nat.le_of_ble_eq_true rfl) (Nat.le_of_ble_eq_true rfl) hu3 hu4 ?_
  refine hk G I J _ hR  _ (fun v G2 I2 J2 hg2 hm => ?_)
  · refine xv_aload_n dL_law_1288 rfl rfl ?_
    refine xv_aload_n dL_law_1289 rfl rfl ?_
    refine xv_iload_n dL_law_1290 rfl rfl ?_
    refine xv_iconst (v := nI 1) dL_law_1291 rfl ?_
    refine xv_iadd dL_law_1292 ?_
    refine xv_nmI (nI_add _ _) ?_
    refine xv_sld dL_law_1293 (xv_ixn (by omega) (by omega)) ?_
    refine xv_callV0 (As := [_]) dL_law_1294 cl_L_162 rfl rfl rfl rfl (go_40 hg2) rfl rfl (Nat.le_of_ble_eq_true rfl) (Nat.le_of_ble_eq_true rfl) hu3 hu4 ?_
    refine hm _ (fun G3 I3 J3 hR3 => ?_)
    · refine xv_icmp_eq (tgt := 1504) dL_law_1297 rfl (fun c_1297 => ?_) (fun c_1297 => absurd rfl c_1297)
      exact kk G3 I3 J3 _ _ (show uc + 2 ≤ uc + 4 by omega) (show us + 66 ≤ us + 1211 by omega) hR3

theorem lw_c35 {R : xv_R} {l : Launch} {D : va_G} {L i uc us : Nat} {xs : Nat → Int32} {Q : xv_Po} (hL : L ≤ 3072) (hok : ∀ G I J, R G I J → xg_ok G) (hk : ∀ (G : xv_Gr) (I : xv_I) (J : xv_J) (x : Int32) (y : Int64), R G I J → PrI R l D mX10_feed mX11_feed [some (.ref 0), some (.int x), some (.long y), none, none] [some (.ref 40), some (.int x), some (.long y), none, none, none] G I J) (hi : i + 6 ≤ L) (hc1 : uc + 4 ≤ 600000) (hc2 : us + 1211 ≤ 7302250) {G : xv_Gr} {I : xv_I} {J : xv_J} (hR : R G I J) (kk : ∀ G2 I2 J2 uc2 us2, uc2 ≤ uc + 4 → us2 ≤ us + 1211 → R G2 I2 J2 → xv_Ev l D 100 mL_law (some (L, xs)) 1504 [some (.ref xv_SC), some (.ref 0), some (.ref 40), some (.int (nI i))] [] G2 I2 J2 uc2 us2 Q) : xv_Ev l D 100 mL_law (some (L, xs)) 1302 [some (.ref xv_SC), some (.ref 0), some (.ref 40), some (.int (nI i))] [] G I J uc us Q := by
  have hG := hok G I J hR
  have hu1 : uc ≤ mL_law.2.2.2.2.1 := Nat.le_trans (Nat.le_add_right _ _) hc1
  have hu2 : us ≤ mL_law.2.2.2.2.2 := Nat.le_trans (Nat.le_add_right _ _) hc2
  refine xv_aload_n dL_law_1302 rfl rfl ?_
  refine xv_aload_n dL_law_1303 rfl rfl ?_
  refine xv_iload_n dL_law_1304 rfl rfl ?_
  refine xv_iconst (v := nI 1) dL_law_1305 rfl ?_
  refine xv_iadd dL_law_1306 ?_
  refine xv_nmI (nI_add _ _) ?_
  refine xv_sld dL_law_1307 (xv_ixn (by omega) (by omega)) ?_
  refine xv_aload_n dL_law_1308 rfl rfl ?_
  refine xv_iload_n dL_law_1309 rfl rfl ?_
  refine xv_iconst (v := nI 2) dL_law_1310 rfl ?_
  refine xv_iadd dL_law_1311 ?_
  refine xv_nmI (nI_add _ _) ?_
  refine xv_sld dL_law_1312 (xv_ixn (by omega) (by omega)) ?_
  refine xv_i2l dL_law_1313 ?_
  refine xv_bipush (v := 32) dL_law_1314 rfl ?_
  refine xv_lshl dL_law_1316 ?_
  refine xv_aload_n dL_law_1317 rfl rfl ?_
  refine xv_iload_n dL_law_1318 rfl rfl ?_
  refine xv_iconst (v := nI 3) dL_law_1319 rfl ?_
  refine xv_iadd dL_law_1320 ?_
  refine xv_nmI (nI_add _ _) ?_
  refine xv_sld dL_law_1321 (xv_ixn (by omega) (by omega)) ?_
  refine xv_i2l dL_law_1322 ?_
  refine xv_ldc2 dL_law_1323 ld_L_163 ?_
  refine xv_land dL_law_1326 ?_
  refine xv_lor dL_law_1327 ?_
  refine xv_callV0 (As := [_, _]) dL_law_1328 cl_L_165 rfl rfl rfl rfl (go_0 hG) rfl rfl (Nat.le_of_ble_eq_true rfl) (Nat.le_of_ble_eq_true rfl) hu1 hu2 ?_
  refine hk G I J _ _ hR  _ (fun v G2 I2 J2 hg2 hm => ?_)
  · refine xv_aload_n dL_law_1331 rfl rfl ?_
    refine xv_aload_n dL_law_1332 rfl rfl ?_
    refine xv_iload_n dL_law_1333 rfl rfl ?_
    refine xv_iconst (v := nI 1) dL_law_1334 rfl ?_
    refine xv_iadd dL_law_1335 ?_
    refine xv_nmI (nI_add _ _) ?_
    refine xv_sld dL_law_1336 (xv_ixn (by omega) (by omega)) ?_
    refine xv_aload_n dL_law_1337 rfl rfl ?_
    refine xv_iload_n dL_law_1338 rfl rfl ?_
    refine xv_iconst (v := nI 2) dL_law_1339 rfl ?_
    refine xv_iadd dL_law_1340 ?_
    refine xv_nmI (nI_add _ _) ?_
    refine xv_sld dL_law_1341 (xv_ixn (by omega) (by omega)) ?_
    refine xv_i2l dL_law_1342 ?_
    refine xv_bipush (v := 32) dL_law_1343 rfl ?_
    refine xv_lshl dL_law_1345 ?_
    refine xv_aload_n dL_law_1346 rfl rfl ?_
    refine xv_iload_n dL_law_1347 rfl rfl ?_
    refine xv_iconst (v := nI 3) dL_law_1348 rfl ?_
    refine xv_iadd dL_law_1349 ?_
    refine xv_nmI (nI_add _ _) ?_
    refine xv_sld dL_law_1350 (xv_ixn (by omega) (by omega)) ?_
    refine xv_i2l dL_law_1351 ?_
    refine xv_ldc2 dL_law_1352 ld_L_163 ?_
    refine xv_land dL_law_1355 ?_
    refine xv_lor dL_law_1356 ?_
    refine xv_callV0 (As := [_, _]) dL_law_1357 cl_L_169 rfl rfl rfl rfl (go_40 hg2) rfl rfl (Nat.le_of_ble_eq_true rfl) (Nat.le_of_ble_eq_true rfl) hu1 hu2 ?_
    refine hm _ (fun G3 I3 J3 hR3 => ?_)
    · refine xv_icmp_eq (tgt := 1504) dL_law_1360 rfl (fun c_1360 => ?_) (fun c_1360 => absurd rfl c_1360)
      exact kk G3 I3 J3 _ _ (Nat.le_add_right _ _) (Nat.le_add_right _ _) hR3

theorem lw_c36 {R : xv_R} {l : Launch} {D : va_G} {L i uc us : Nat} {xs : Nat → Int32} {Q : xv_Po} (hL : L ≤ 3072) (hok : ∀ G I J, R G I J → xg_ok G) (hk : ∀ (G : xv_Gr) (I : xv_I) (J : xv_J) (x : Int32), R G I J → PrI R l D mX10_fault mX11_fault [some (.ref 0), some (.int x), none] [some (.ref 40), some (.int x)] G I J) (hi : i + 6 ≤ L) (hc1 : uc + 4 ≤ 600000) (hc2 : us + 1211 ≤ 7302250) {G : xv_Gr} {I : xv_I} {J : xv_J} (hR : R G I J) (kk : ∀ G2 I2 J2 uc2 us2, uc2 ≤ uc + 4 → us2 ≤ us + 1211 → R G2 I2 J2 → xv_Ev l D 100 mL_law (some (L, xs)) 1504 [some (.ref xv_SC), some (.ref 0), some (.ref 40), some (.int (nI i))] [] G2 I2 J2 uc2 us2 Q) : xv_Ev l D 100 mL_law (some (L, xs)) 1365 [some (.ref xv_SC), some (.ref 0), some (.ref 40), some (.int (nI i))] [] G I J uc us Q := by
  have hG := hok G I J hR
  have hu1 : uc ≤ mL_law.2.2.2.2.1 := Nat.le_trans (Nat.le_add_right _ _) hc1
  have hu2 : us ≤ mL_law.2.2.2.2.2 := Nat.le_trans (Nat.le_add_right _ _) hc2
  refine xv_aload_n dL_law_1365 rfl rfl ?_
  refine xv_aload_n dL_law_1366 rfl rfl ?_
  refine xv_iload_n dL_law_1367 rfl rfl ?_
  refine xv_iconst (v := nI 1) dL_law_1368 rfl ?_
  refine xv_iadd dL_law_1369 ?_
  refine xv_nmI (nI_add _ _) ?_
  refine xv_sld dL_law_1370 (xv_ixn (by omega) (by omega)) ?_
  refine xv_callV0 (As := [_]) dL_law_1371 cl_L_170 rfl rfl rfl rfl (go_0 hG) rfl rfl (Nat.le_of_ble_eq_true rfl) (Nat.le_of_ble_eq_true rfl) hu1 hu2 ?_
  refine hk G I J _ hR  _ (fun v G2 I2 J2 hg2 hm => ?_)
  · refine xv_aload_n dL_law_1374 rfl rfl ?_
    refine xv_aload_n dL_law_1375 rfl rfl ?_
    refine xv_iload_n dL_law_1376 rfl rfl ?_
    refine xv_iconst (v := nI 1) dL_law_1377 rfl ?_
    refine xv_iadd dL_law_1378 ?_
    refine xv_nmI (nI_add _ _) ?_
    refine xv_sld dL_law_1379 (xv_ixn (by omega) (by omega)) ?_
    refine xv_callV0 (As := [_]) dL_law_1380 cl_L_173 rfl rfl rfl rfl (go_40 hg2) rfl rfl (Nat.le_of_ble_eq_true rfl) (Nat.le_of_ble_eq_true rfl) hu1 hu2 ?_
    refine hm _ (fun G3 I3 J3 hR3 => ?_)
    · refine xv_icmp_eq (tgt := 1504) dL_law_1383 rfl (fun c_1383 => ?_) (fun c_1383 => absurd rfl c_1383)
      exact kk G3 I3 J3 _ _ (Nat.le_add_right _ _) (Nat.le_add_right _ _) hR3

theorem lw_c37 {R : xv_R} {l : Launch} {D : va_G} {L i uc us : Nat} {xs : Nat → Int32} {Q : xv_Po} (hL : L ≤ 3072) (hok : ∀ G I J, R G I J → xg_ok G) (hk : ∀ (G : xv_Gr) (I : xv_I) (J : xv_J) (x : Int32), R G I J → PrI R l D mX10_force mX11_force [some (.ref 0), some (.int x)] [some (.ref 40), some (.int x)] G I J) (hi : i + 6 ≤ L) (hc1 : uc + 4 ≤ 600000) (hc2 : us + 1211 ≤ 7302250) {G : xv_Gr} {I : xv_I} {J : xv_J} (hR : R G I J) (kk : ∀ G2 I2 J2 uc2 us2, uc2 ≤ uc + 4 → us2 ≤ us + 1211 → R G2 I2 J2 → xv_Ev l D 100 mL_law (some (L, xs)) 1504 [some (.ref xv_SC), some (.ref 0), some (.ref 40), some (.int (nI i))] [] G2 I2 J2 uc2 us2 Q) : xv_Ev l D 100 mL_law (some (L, xs)) 1388 [some (.ref xv_SC), some (.ref 0), some (.ref 40), some (.int (nI i))] [] G I J uc us Q := by
  have hG := hok G I J hR
  have hu1 : uc ≤ mL_law.2.2.2.2.1 := Nat.le_trans (Nat.le_add_right _ _) hc1
  have hu2 : us ≤ mL_law.2.2.2.2.2 := Nat.le_trans (Nat.le_add_right _ _) hc2
  refine xv_aload_n dL_law_1388 rfl rfl ?_
  refine xv_aload_n dL_law_1389 rfl rfl ?_
  refine xv_iload_n dL_law_1390 rfl rfl ?_
  refine xv_iconst (v := nI 1) dL_law_1391 rfl ?_
  refine xv_iadd dL_law_1392 ?_
  refine xv_nmI (nI_add _ _) ?_
  refine xv_sld dL_law_1393 (xv_ixn (by omega) (by omega)) ?_
  refine xv_callV0 (As := [_]) dL_law_1394 cl_L_174 rfl rfl rfl rfl (go_0 hG) rfl rfl (Nat.le_of_ble_eq_true rfl) (Nat.le_of_ble_eq_true rfl) hu1 hu2 ?_
  refine hk G I J _ hR  _ (fun v G2 I2 J2 hg2 hm => ?_)
  · refine xv_aload_n dL_law_1397 rfl rfl ?_
    refine xv_aload_n dL_law_1398 rfl rfl ?_
    refine xv_iload_n dL_law_1399 rfl rfl ?_
    refine xv_iconst (v := nI 1) dL_law_1400 rfl ?_
    refine xv_iadd dL_law_1401 ?_
    refine xv_nmI (nI_add _ _) ?_
    refine xv_sld dL_law_1402 (xv_ixn (by omega) (by omega)) ?_
    refine xv_callV0 (As := [_]) dL_law_1403 cl_L_177 rfl rfl rfl rfl (go_40 hg2) rfl rfl (Nat.le_of_ble_eq_true rfl) (Nat.le_of_ble_eq_true rfl) hu1 hu2 ?_
    refine hm _ (fun G3 I3 J3 hR3 => ?_)
    · refine xv_icmp_eq (tgt := 1504) dL_law_1406 rfl (fun c_1406 => ?_) (fun c_1406 => absurd rfl c_1406)
      exact kk G3 I3 J3 _ _ (Nat.le_add_right _ _) (Nat.le_add_right _ _) hR3

theorem lw_c38 {R : xv_R} {l : Launch} {D : va_G} {L i uc us : Nat} {xs : Nat → Int32} {Q : xv_Po} (hL : L ≤ 3072) (hok : ∀ G I J, R G I J → xg_ok G) (hk : ∀ (G : xv_Gr) (I : xv_I) (J : xv_J) (x : Int32), R G I J → PrI R l D mX10_may mX11_may [some (.ref 0), some (.int x), none] [some (.ref 40), some (.int x)] G I J) (hi : i + 6 ≤ L) (hc1 : uc + 4 ≤ 600000) (hc2 : us + 1211 ≤ 7302250) {G : xv_Gr} {I : xv_I} {J : xv_J} (hR : R G I J) (kk : ∀ G2 I2 J2 uc2 us2, uc2 ≤ uc + 4 → us2 ≤ us + 1211 → R G2 I2 J2 → xv_Ev l D 100 mL_law (some (L, xs)) 1504 [some (.ref xv_SC), some (.ref 0), some (.ref 40), some (.int (nI i))] [] G2 I2 J2 uc2 us2 Q) : xv_Ev l D 100 mL_law (some (L, xs)) 1411 [some (.ref xv_SC), some (.ref 0), some (.ref 40), some (.int (nI i))] [] G I J uc us Q := by
  have hG := hok G I J hR
  have hu1 : uc ≤ mL_law.2.2.2.2.1 := Nat.le_trans (Nat.le_add_right _ _) hc1
  have hu2 : us ≤ mL_law.2.2.2.2.2 := Nat.le_trans (Nat.le_add_right _ _) hc2
  refine xv_aload_n dL_law_1411 rfl rfl ?_
  refine xv_aload_n dL_law_1412 rfl rfl ?_
  refine xv_iload_n dL_law_1413 rfl rfl ?_
  refine xv_iconst (v := nI 1) dL_law_1414 rfl ?_
  refine xv_iadd dL_law_1415 ?_
  refine xv_nmI (nI_add _ _) ?_
  refine xv_sld dL_law_1416 (xv_ixn (by omega) (by omega)) ?_
  refine xv_callV0 (As := [_]) dL_law_1417 cl_L_178 rfl rfl rfl rfl (go_0 hG) rfl rfl (Nat.le_of_ble_eq_true rfl) (Nat.le_of_ble_eq_true rfl) hu1 hu2 ?_
  refine hk G I J _ hR  _ (fun v G2 I2 J2 hg2 hm => ?_)
  · refine xv_aload_n dL_law_1420 rfl rfl ?_
    refine xv_aload_n dL_law_1421 rfl rfl ?_
    refine xv_iload_n dL_law_1422 rfl rfl ?_
    refine xv_iconst (v := nI 1) dL_law_1423 rfl ?_
    refine xv_iadd dL_law_1424 ?_
    refine xv_nmI (nI_add _ _) ?_
    refine xv_sld dL_law_1425 (xv_ixn (by omega) (by omega)) ?_
    refine xv_callV0 (As := [_]) dL_law_1426 cl_L_181 rfl rfl rfl rfl (go_40 hg2) rfl rfl (Nat.le_of_ble_eq_true rfl) (Nat.le_of_ble_eq_true rfl) hu1 hu2 ?_
    refine hm _ (fun G3 I3 J3 hR3 => ?_)
    · refine xv_icmp_eq (tgt := 1504) dL_law_1429 rfl (fun c_1429 => ?_) (fun c_1429 => absurd rfl c_1429)
      exact kk G3 I3 J3 _ _ (Nat.le_add_right _ _) (Nat.le_add_right _ _) hR3

theorem lw_c39 {R : xv_R} {l : Launch} {D : va_G} {L i uc us : Nat} {xs : Nat → Int32} {Q : xv_Po} (hL : L ≤ 3072) (hok : ∀ G I J, R G I J → xg_ok G) (hk : ∀ (G : xv_Gr) (I : xv_I) (J : xv_J) (x : Int32), R G I J → PrL R l D mX10_takeBack mX11_takeBack [some (.ref 0), some (.int x), none] [some (.ref 40), some (.int x)] G I J) (hi : i + 6 ≤ L) (hc1 : uc + 4 ≤ 600000) (hc2 : us + 1211 ≤ 7302250) {G : xv_Gr} {I : xv_I} {J : xv_J} (hR : R G I J) (kk : ∀ G2 I2 J2 uc2 us2, uc2 ≤ uc + 4 → us2 ≤ us + 1211 → R G2 I2 J2 → xv_Ev l D 100 mL_law (some (L, xs)) 1504 [some (.ref xv_SC), some (.ref 0), some (.ref 40), some (.int (nI i))] [] G2 I2 J2 uc2 us2 Q) : xv_Ev l D 100 mL_law (some (L, xs)) 1434 [some (.ref xv_SC), some (.ref 0), some (.ref 40), some (.int (nI i))] [] G I J uc us Q := by
  have hG := hok G I J hR
  have hu1 : uc ≤ mL_law.2.2.2.2.1 := Nat.le_trans (Nat.le_add_right _ _) hc1
  have hu2 : us ≤ mL_law.2.2.2.2.2 := Nat.le_trans (Nat.le_add_right _ _) hc2
  refine xv_aload_n dL_law_1434 rfl rfl ?_
  refine xv_aload_n dL_law_1435 rfl rfl ?_
  refine xv_iload_n dL_law_1436 rfl rfl ?_
  refine xv_iconst (v := nI 1) dL_law_1437 rfl ?_
  refine xv_iadd dL_law_1438 ?_
  refine xv_nmI (nI_add _ _) ?_
  refine xv_sld dL_law_1439 (xv_ixn (by omega) (by omega)) ?_
  refine xv_callV0 (As := [_]) dL_law_1440 cl_L_182 rfl rfl rfl rfl (go_0 hG) rfl rfl (Nat.le_of_ble_eq_true rfl) (Nat.le_of_ble_eq_true rfl) hu1 hu2 ?_
  refine hk G I J _ hR  _ (fun v G2 I2 J2 hg2 hm => ?_)
  · refine xv_aload_n dL_law_1443 rfl rfl ?_
    refine xv_aload_n dL_law_1444 rfl rfl ?_
    refine xv_iload_n dL_law_1445 rfl rfl ?_
    refine xv_iconst (v := nI 1) dL_law_1446 rfl ?_
    refine xv_iadd dL_law_1447 ?_
    refine xv_nmI (nI_add _ _) ?_
    refine xv_sld dL_law_1448 (xv_ixn (by omega) (by omega)) ?_
    refine xv_callV0 (As := [_]) dL_law_1449 cl_L_186 rfl rfl rfl rfl (go_40 hg2) rfl rfl (Nat.le_of_ble_eq_true rfl) (Nat.le_of_ble_eq_true rfl) hu1 hu2 ?_
    refine hm _ (fun G3 I3 J3 hR3 => ?_)
    · refine xv_lcmp dL_law_1452 ?_
      refine xv_if_eq (tgt := 1504) dL_law_1453 rfl (fun c_1453 => ?_) (fun c_1453 => absurd ((xn_cmp_eq _ _).mpr rfl) c_1453)
      exact kk G3 I3 J3 _ _ (Nat.le_add_right _ _) (Nat.le_add_right _ _) hR3

theorem lw_c40 {R : xv_R} {l : Launch} {D : va_G} {L i uc us : Nat} {xs : Nat → Int32} {Q : xv_Po} (hL : L ≤ 3072) (hok : ∀ G I J, R G I J → xg_ok G) (hk : ∀ (G : xv_Gr) (I : xv_I) (J : xv_J) (x : Int32), R G I J → PrI R l D mX10_soon mX11_soon [some (.ref 0), some (.int x), none] [some (.ref 40), some (.int x), none] G I J) (hi : i + 6 ≤ L) (hc1 : uc + 4 ≤ 600000) (hc2 : us + 1211 ≤ 7302250) {G : xv_Gr} {I : xv_I} {J : xv_J} (hR : R G I J) (kk : ∀ G2 I2 J2 uc2 us2, uc2 ≤ uc + 4 → us2 ≤ us + 1211 → R G2 I2 J2 → xv_Ev l D 100 mL_law (some (L, xs)) 1504 [some (.ref xv_SC), some (.ref 0), some (.ref 40), some (.int (nI i))] [] G2 I2 J2 uc2 us2 Q) : xv_Ev l D 100 mL_law (some (L, xs)) 1458 [some (.ref xv_SC), some (.ref 0), some (.ref 40), some (.int (nI i))] [] G I J uc us Q := by
  have hG := hok G I J hR
  have hu1 : uc ≤ mL_law.2.2.2.2.1 := Nat.le_trans (Nat.le_add_right _ _) hc1
  have hu2 : us ≤ mL_law.2.2.2.2.2 := Nat.le_trans (Nat.le_add_right _ _) hc2
  refine xv_aload_n dL_law_1458 rfl rfl ?_
  refine xv_aload_n dL_law_1459 rfl rfl ?_
  refine xv_iload_n dL_law_1460 rfl rfl ?_
  refine xv_iconst (v := nI 1) dL_law_1461 rfl ?_
  refine xv_iadd dL_law_1462 ?_
  refine xv_nmI (nI_add _ _) ?_
  refine xv_sld dL_law_1463 (xv_ixn (by omega) (by omega)) ?_
  refine xv_callV0 (As := [_]) dL_law_1464 cl_L_187 rfl rfl rfl rfl (go_0 hG) rfl rfl (Nat.le_of_ble_eq_true rfl) (Nat.le_of_ble_eq_true rfl) hu1 hu2 ?_
  refine hk G I J _ hR  _ (fun v G2 I2 J2 hg2 hm => ?_)
  · refine xv_aload_n dL_law_1467 rfl rfl ?_
    refine xv_aload_n dL_law_1468 rfl rfl ?_
    refine xv_iload_n dL_law_1469 rfl rfl ?_
    refine xv_iconst (v := nI 1) dL_law_1470 rfl ?_
    refine xv_iadd dL_law_1471 ?_
    refine xv_nmI (nI_add _ _) ?_
    refine xv_sld dL_law_1472 (xv_ixn (by omega) (by omega)) ?_
    refine xv_callV0 (As := [_]) dL_law_1473 cl_L_190 rfl rfl rfl rfl (go_40 hg2) rfl rfl (Nat.le_of_ble_eq_true rfl) (Nat.le_of_ble_eq_true rfl) hu1 hu2 ?_
    refine hm _ (fun G3 I3 J3 hR3 => ?_)
    · refine xv_icmp_eq (tgt := 1504) dL_law_1476 rfl (fun c_1476 => ?_) (fun c_1476 => absurd rfl c_1476)
      exact kk G3 I3 J3 _ _ (Nat.le_add_right _ _) (Nat.le_add_right _ _) hR3

theorem lw_c41 {R : xv_R} {l : Launch} {D : va_G} {L i uc us : Nat} {xs : Nat → Int32} {Q : xv_Po} (hL : L ≤ 3072) (hok : ∀ G I J, R G I J → xg_ok G) (hk : ∀ (G : xv_Gr) (I : xv_I) (J : xv_J) (x : Int32), R G I J → PrI R l D mX10_count mX11_count [some (.ref 0), some (.int x)] [some (.ref 40), some (.int x), none, none] G I J) (hi : i + 6 ≤ L) (hc1 : uc + 4 ≤ 600000) (hc2 : us + 1211 ≤ 7302250) {G : xv_Gr} {I : xv_I} {J : xv_J} (hR : R G I J) (kk : ∀ G2 I2 J2 uc2 us2, uc2 ≤ uc + 4 → us2 ≤ us + 1211 → R G2 I2 J2 → xv_Ev l D 100 mL_law (some (L, xs)) 1504 [some (.ref xv_SC), some (.ref 0), some (.ref 40), some (.int (nI i))] [] G2 I2 J2 uc2 us2 Q) : xv_Ev l D 100 mL_law (some (L, xs)) 1481 [some (.ref xv_SC), some (.ref 0), some (.ref 40), some (.int (nI i))] [] G I J uc us Q := by
  have hG := hok G I J hR
  have hu1 : uc ≤ mL_law.2.2.2.2.1 := Nat.le_trans (Nat.le_add_right _ _) hc1
  have hu2 : us ≤ mL_law.2.2.2.2.2 := Nat.le_trans (Nat.le_add_right _ _) hc2
  refine xv_aload_n dL_law_1481 rfl rfl ?_
  refine xv_aload_n dL_law_1482 rfl rfl ?_
  refine xv_iload_n dL_law_1483 rfl rfl ?_
  refine xv_iconst (v := nI 1) dL_law_1484 rfl ?_
  refine xv_iadd dL_law_1485 ?_
  refine xv_nmI (nI_add _ _) ?_
  refine xv_sld dL_law_1486 (xv_ixn (by omega) (by omega)) ?_
  refine xv_callV0 (As := [_]) dL_law_1487 cl_L_191 rfl rfl rfl rfl (go_0 hG) rfl rfl (Nat.le_of_ble_eq_true rfl) (Nat.le_of_ble_eq_true rfl) hu1 hu2 ?_
  refine hk G I J _ hR  _ (fun v G2 I2 J2 hg2 hm => ?_)
  · refine xv_aload_n dL_law_1490 rfl rfl ?_
    refine xv_aload_n dL_law_1491 rfl rfl ?_
    refine xv_iload_n dL_law_1492 rfl rfl ?_
    refine xv_iconst (v := nI 1) dL_law_1493 rfl ?_
    refine xv_iadd dL_law_1494 ?_
    refine xv_nmI (nI_add _ _) ?_
    refine xv_sld dL_law_1495 (xv_ixn (by omega) (by omega)) ?_
    refine xv_callV0 (As := [_]) dL_law_1496 cl_L_194 rfl rfl rfl rfl (go_40 hg2) rfl rfl (Nat.le_of_ble_eq_true rfl) (Nat.le_of_ble_eq_true rfl) hu1 hu2 ?_
    refine hm _ (fun G3 I3 J3 hR3 => ?_)
    · refine xv_icmp_eq (tgt := 1504) dL_law_1499 rfl (fun c_1499 => ?_) (fun c_1499 => absurd rfl c_1499)
      exact kk G3 I3 J3 _ _ (Nat.le_add_right _ _) (Nat.le_add_right _ _) hR3

def lw_K (R : xv_R) (l : Launch) (D : va_G) : Prop := (∀ (G : xv_Gr) (I : xv_I) (J : xv_J) (x : Int32), R G I J → PrI R l D mX10_width mX11_width [some (.ref 0), some (.int x), none] [some (.ref 40), some (.int x), none] G I J) ∧ (∀ (G : xv_Gr) (I : xv_I) (J : xv_J) (x : Int32) (y : Int32) (z : Int32) (w : Int32), R G I J → (w = 0 ∨ w = 1) → PrI R l D mX10_piece mX11_piece [some (.ref 0), some (.int x), some (.int y), some (.int z), some (.int w)] [some (.ref 40), some (.int x), some (.int y), some (.int z), some (.int w)] G I J) ∧ (∀ (G : xv_Gr) (I : xv_I) (J : xv_J) (x : Int32) (y : Int32), R G I J → PrI R l D mX10_about mX11_about [some (.ref 0), some (.int x), some (.int y)] [some (.ref 40), some (.int x), some (.int y)] G I J) ∧ (∀ (G : xv_Gr) (I : xv_I) (J : xv_J) (x : Int32) (y : Int32) (z : Int32) (w : Int32), R G I J → PrI R l D mX10_meet mX11_meet [some (.ref 0), some (.int x), some (.int y), some (.int z), some (.int w)] [some (.ref 40), some (.int x), some (.int y), some (.int z), some (.int w)] G I J) ∧ (∀ (G : xv_Gr) (I : xv_I) (J : xv_J), R G I J → PrI R l D mX10_apart mX11_apart [some (.ref 0), none] [some (.ref 40), none] G I J) ∧ (∀ (G : xv_Gr) (I : xv_I) (J : xv_J), R G I J → PrI R l D mX10_mirror mX11_mirror [some (.ref 0)] [some (.ref 40), none, none, none] G I J) ∧ (∀ (G : xv_Gr) (I : xv_I) (J : xv_J) (x : Int32) (y : Int32), R G I J → PrI R l D mX10_stretch mX11_stretch [some (.ref 0), some (.int x), some (.int y)] [some (.ref 40), some (.int x), some (.int y), none, none, none, none] G I J) ∧ (∀ (G : xv_Gr) (I : xv_I) (J : xv_J) (x : Int32) (y : Int32), R G I J → PrI R l D mX10_why mX11_why [some (.ref 0), some (.int x), some (.int y)] [some (.ref 40), some (.int x), some (.int y)] G I J) ∧ (∀ (G : xv_Gr) (I : xv_I) (J : xv_J) (x : Int32) (y : Int32) (z : Int32), R G I J → (z = 0 ∨ z = 1) → PrI R l D mX10_lean mX11_lean [some (.ref 0), some (.int x), some (.int y), some (.int z)] [some (.ref 40), some (.int x), some (.int y), some (.int z), none] G I J) ∧ (∀ (G : xv_Gr) (I : xv_I) (J : xv_J) (x : Int32), R G I J → PrI R l D mX10_order mX11_order [some (.ref 0), some (.int x)] [some (.ref 40), some (.int x)] G I J) ∧ (∀ (G : xv_Gr) (I : xv_I) (J : xv_J) (x : Int32), R G I J → PrI R l D mX10_below mX11_below [some (.ref 0), some (.int x)] [some (.ref 40), some (.int x)] G I J) ∧ (∀ (G : xv_Gr) (I : xv_I) (J : xv_J) (x : Int32) (y : Int32) (z : Int32), R G I J → PrI R l D mX10_sort mX11_sort [some (.ref 0), some (.int x), some (.int y), some (.int z), none] [some (.ref 40), some (.int x), some (.int y), some (.int z), none] G I J) ∧ (∀ (G : xv_Gr) (I : xv_I) (J : xv_J) (x : Int32), R G I J → PrI R l D mX10_saw mX11_saw [some (.ref 0), some (.int x), none] [some (.ref 40), some (.int x), none] G I J) ∧ (∀ (G : xv_Gr) (I : xv_I) (J : xv_J), R G I J → PrI R l D mX10_price mX11_price [some (.ref 0)] [some (.ref 40), none] G I J) ∧ (∀ (G : xv_Gr) (I : xv_I) (J : xv_J), R G I J → PrI R l D mX10_boards mX11_boards [some (.ref 0)] [some (.ref 40), none] G I J) ∧ (∀ (G : xv_Gr) (I : xv_I) (J : xv_J) (x : Int32), R G I J → PrI R l D mX10_board mX11_board [some (.ref 0), some (.int x)] [some (.ref 40), some (.int x)] G I J) ∧ (∀ (G : xv_Gr) (I : xv_I) (J : xv_J) (x : Int32) (y : Int32), R G I J → PrI R l D mX10_ofBoard mX11_ofBoard [some (.ref 0), some (.int x), some (.int y)] [some (.ref 40), some (.int x), some (.int y)] G I J) ∧ (∀ (G : xv_Gr) (I : xv_I) (J : xv_J) (x : Int32), R G I J → PrI R l D mX10_other mX11_other [some (.ref 0), some (.int x)] [some (.ref 40), some (.int x), none, none, none, none] G I J) ∧ (∀ (G : xv_Gr) (I : xv_I) (J : xv_J) (x : Int32) (y : Int32), R G I J → PrI R l D mX10_car mX11_car [some (.ref 0), some (.int x), some (.int y), none] [some (.ref 40), some (.int x), some (.int y), none] G I J) ∧ (∀ (G : xv_Gr) (I : xv_I) (J : xv_J), R G I J → PrI R l D mX10_packing mX11_packing [some (.ref 0)] [some (.ref 40), none] G I J) ∧ (∀ (G : xv_Gr) (I : xv_I) (J : xv_J) (x : Int32), R G I J → PrI R l D mX10_carOf mX11_carOf [some (.ref 0), some (.int x)] [some (.ref 40), some (.int x), none] G I J) ∧ (∀ (G : xv_Gr) (I : xv_I) (J : xv_J) (x : Int32), R G I J → PrI R l D mX10_turned mX11_turned [some (.ref 0), some (.int x)] [some (.ref 40), some (.int x)] G I J) ∧ (∀ (G : xv_Gr) (I : xv_I) (J : xv_J) (x : Int32) (y : Int32) (z : Int32) (w : Int32) (u : Int32), R G I J → (u = 0 ∨ u = 1) → PrI R l D mX10_report mX11_report [some (.ref 0), some (.int x), some (.int y), some (.int z), some (.int w), some (.int u)] [some (.ref 40), some (.int x), some (.int y), some (.int z), some (.int w), some (.int u)] G I J) ∧ (∀ (G : xv_Gr) (I : xv_I) (J : xv_J) (x : Int32), R G I J → PrI R l D mX10_sure mX11_sure [some (.ref 0), some (.int x), none] [some (.ref 40), some (.int x), none] G I J) ∧ (∀ (G : xv_Gr) (I : xv_I) (J : xv_J) (x : Int32) (y : Int32), R G I J → (y = 0 ∨ y = 1) → PrI R l D mX10_explains mX11_explains [some (.ref 0), some (.int x), some (.int y)] [some (.ref 40), some (.int x), some (.int y)] G I J) ∧ (∀ (G : xv_Gr) (I : xv_I) (J : xv_J) (x : Int32), R G I J → PrI R l D mX10_likely mX11_likely [some (.ref 0), some (.int x)] [some (.ref 40), some (.int x)] G I J) ∧ (∀ (G : xv_Gr) (I : xv_I) (J : xv_J), R G I J → PrI R l D mX10_causes mX11_causes [some (.ref 0)] [some (.ref 40), none] G I J) ∧ (∀ (G : xv_Gr) (I : xv_I) (J : xv_J) (x : Int32), R G I J → PrI R l D mX10_cause mX11_cause [some (.ref 0), some (.int x)] [some (.ref 40), some (.int x), none, none, none] G I J) ∧ (∀ (G : xv_Gr) (I : xv_I) (J : xv_J) (x : Int32), R G I J → PrI R l D mX10_pass mX11_pass [some (.ref 0), some (.int x), none] [some (.ref 40), some (.int x), none, none, none] G I J) ∧ (∀ (G : xv_Gr) (I : xv_I) (J : xv_J) (x : Int32) (y : Int32) (z : Int32), R G I J → PrI R l D mX10_loan mX11_loan [some (.ref 0), some (.int x), some (.int y), some (.int z)] [some (.ref 40), some (.int x), some (.int y), some (.int z)] G I J) ∧ (∀ (G : xv_Gr) (I : xv_I) (J : xv_J) (x : Int32) (y : Int32), R G I J → PrI R l D mX10_pay mX11_pay [some (.ref 0), some (.int x), some (.int y), none] [some (.ref 40), some (.int x), some (.int y), none, none] G I J) ∧ (∀ (G : xv_Gr) (I : xv_I) (J : xv_J) (x : Int32) (y : Int32), R G I J → (y = 0 ∨ y = 1) → PrI R l D mX10_work mX11_work [some (.ref 0), some (.int x), some (.int y), none, none] [some (.ref 40), some (.int x), some (.int y), none] G I J) ∧ (∀ (G : xv_Gr) (I : xv_I) (J : xv_J) (x : Int32) (y : Int32) (z : Int32), R G I J → PrL R l D mX10_as mX11_as [some (.ref 0), some (.int x), some (.int y), some (.int z), none] [some (.ref 40), some (.int x), some (.int y), some (.int z), none] G I J) ∧ (∀ (G : xv_Gr) (I : xv_I) (J : xv_J) (x : Int32), R G I J → PrI R l D mX10_arrears mX11_arrears [some (.ref 0), some (.int x), none] [some (.ref 40), some (.int x)] G I J) ∧ (∀ (G : xv_Gr) (I : xv_I) (J : xv_J) (x : Int32), R G I J → PrI R l D mX10_term mX11_term [some (.ref 0), some (.int x)] [some (.ref 40), some (.int x)] G I J) ∧ (∀ (G : xv_Gr) (I : xv_I) (J : xv_J) (x : Int32) (y : Int64), R G I J → PrI R l D mX10_feed mX11_feed [some (.ref 0), some (.int x), some (.long y), none, none] [some (.ref 40), some (.int x), some (.long y), none, none, none] G I J) ∧ (∀ (G : xv_Gr) (I : xv_I) (J : xv_J) (x : Int32), R G I J → PrI R l D mX10_fault mX11_fault [some (.ref 0), some (.int x), none] [some (.ref 40), some (.int x)] G I J) ∧ (∀ (G : xv_Gr) (I : xv_I) (J : xv_J) (x : Int32), R G I J → PrI R l D mX10_force mX11_force [some (.ref 0), some (.int x)] [some (.ref 40), some (.int x)] G I J) ∧ (∀ (G : xv_Gr) (I : xv_I) (J : xv_J) (x : Int32), R G I J → PrI R l D mX10_may mX11_may [some (.ref 0), some (.int x), none] [some (.ref 40), some (.int x)] G I J) ∧ (∀ (G : xv_Gr) (I : xv_I) (J : xv_J) (x : Int32), R G I J → PrL R l D mX10_takeBack mX11_takeBack [some (.ref 0), some (.int x), none] [some (.ref 40), some (.int x)] G I J) ∧ (∀ (G : xv_Gr) (I : xv_I) (J : xv_J) (x : Int32), R G I J → PrI R l D mX10_soon mX11_soon [some (.ref 0), some (.int x), none] [some (.ref 40), some (.int x), none] G I J) ∧ (∀ (G : xv_Gr) (I : xv_I) (J : xv_J) (x : Int32), R G I J → PrI R l D mX10_count mX11_count [some (.ref 0), some (.int x)] [some (.ref 40), some (.int x), none, none] G I J)
theorem lw_sw (x : Int32) : ∃ j : Nat, j < 64 ∧ x &&& 63 = nI j := by
  obtain ⟨n, hn, rfl⟩ := xi_of x
  have e : nI n &&& 63 = nI (n % 64) := by
    have h := xi_and n 63
    rw [show n &&& 63 = n % 64 from Nat.and_two_pow_sub_one_eq_mod n 6] at h
    exact h
  exact ⟨n % 64, Nat.mod_lt _ (by decide), e⟩
theorem lw_loop {R : xv_R} {l : Launch} {D : va_G} {L : Nat} {xs : Nat → Int32} {Q : xv_Po} (hL : L ≤ 3072) (hok : ∀ G I J, R G I J → xg_ok G) (hK : lw_K R l D) (hQ : ∀ G I J, Q (some (.int 1)) G I J) : ∀ (n i uc us : Nat) (G : xv_Gr) (I : xv_I) (J : xv_J), L < i + 6 * (n + 1) → i ≤ 6 * 513 → i % 6 = 0 → uc ≤ 100 + 4 * (i / 6) → us ≤ 50000 + 1211 * (i / 6) → R G I J → xv_Ev l D 100 mL_law (some (L, xs)) 18 [some (.ref xv_SC), some (.ref 0), some (.ref 40), some (.int (nI i))] [] G I J uc us Q := by
  intro n
  induction n with
  | zero =>
    intro i uc us G I J hn hi hm hc hs hR
    have hil : (nI L - nI 6).toInt = (L : Int) - 6 := pk_sub_toInt (by omega) (by omega)
    have hii : (nI i).toInt = (i : Int) := nI_toInt (by omega)
    refine xv_iload_n dL_law_18 rfl rfl ?_
    refine xv_aload_n dL_law_19 rfl rfl ?_
    refine xv_slen dL_law_20 ?_
    refine xv_bipush (v := nI 6) dL_law_21 rfl ?_
    refine xv_isub dL_law_23 ?_
    refine xv_icmp_gt (tgt := 1510) dL_law_24 rfl (fun c_24 => ?_) (fun c_24 => absurd (show nI i > nI L - nI 6 from by simp only [GT.gt, xn_lt, hil, hii]; omega) c_24)
    refine xv_iconst (v := 1) dL_law_1510 rfl ?_
    exact xv_zret dL_law_1511 rfl rfl (show uc ≤ 600000 by omega) (show us ≤ 7302250 by omega) (hQ G I J)
  | succ n ih =>
    intro i uc us G I J hn hi hm hc hs hR
    have hil : (nI L - nI 6).toInt = (L : Int) - 6 := pk_sub_toInt (by omega) (by omega)
    have hii : (nI i).toInt = (i : Int) := nI_toInt (by omega)
    refine xv_iload_n dL_law_18 rfl rfl ?_
    refine xv_aload_n dL_law_19 rfl rfl ?_
    refine xv_slen dL_law_20 ?_
    refine xv_bipush (v := nI 6) dL_law_21 rfl ?_
    refine xv_isub dL_law_23 ?_
    refine xv_icmp_gt (tgt := 1510) dL_law_24 rfl (fun c_24 => ?_) (fun c_24 => ?_)
    · refine xv_iconst (v := 1) dL_law_1510 rfl ?_
      exact xv_zret dL_law_1511 rfl rfl (show uc ≤ 600000 by omega) (show us ≤ 7302250 by omega) (hQ G I J)
    · have hiL : i + 6 ≤ L := by
        have q : ¬ (nI i > nI L - nI 6) := c_24
        simp only [GT.gt, xn_lt, hil, hii] at q
        omega
      have kk : ∀ G2 I2 J2 uc2 us2, uc2 ≤ uc + 4 → us2 ≤ us + 1211 → R G2 I2 J2 → xv_Ev l D 100 mL_law (some (L, xs)) 1504 [some (.ref xv_SC), some (.ref 0), some (.ref 40), some (.int (nI i))] [] G2 I2 J2 uc2 us2 Q := by
        intro G2 I2 J2 uc2 us2 h1 h2 hR2
        refine xv_iinc dL_law_1504 rfl (show nI i + Int32.ofInt 6 = nI (i + 6) from nI_add i 6) (Nat.le_of_ble_eq_true rfl) rfl ?_
        refine xv_goto (tgt := 18) dL_law_1507 rfl ?_
        exact ih (i + 6) uc2 us2 G2 I2 J2 (by omega) (by omega) (by omega) (by omega) (by omega) hR2
      refine xv_aload_n dL_law_27 rfl rfl ?_
      refine xv_iload_n dL_law_28 rfl rfl ?_
      refine xv_sld dL_law_29 (xv_ixn (by omega) (by omega)) ?_
      refine xv_bipush (v := 63) dL_law_30 rfl ?_
      refine xv_iand dL_law_32 ?_
      obtain ⟨j, hj, ej⟩ := lw_sw (xs i)
      refine xv_nmI ej ?_
      have hjt : (nI j).toInt = (j : Int) := nI_toInt (by omega)
      by_cases hd : 41 < j
      · refine xv_tabOut (tgt := 1504) dL_law_33 (Or.inr (by omega)) rfl ?_
        exact kk G I J uc us (by omega) (by omega) hR
      · match j, hd, hjt with
        | 0, hd, hjt => exact xv_tabIn (tgt := 216) dL_law_33 (by decide) (by decide) rfl rfl (lw_c0 hL hok hK.1 hiL (by omega) (by omega) hR kk)
        | 1, hd, hjt => exact xv_tabIn (tgt := 239) dL_law_33 (by decide) (by decide) rfl rfl (lw_c1 hL hok hK.2.1 hiL (by omega) (by omega) hR kk)
        | 2, hd, hjt => exact xv_tabIn (tgt := 308) dL_law_33 (by decide) (by decide) rfl rfl (lw_c2 hL hok hK.2.2.1 hiL (by omega) (by omega) hR kk)
        | 3, hd, hjt => exact xv_tabIn (tgt := 341) dL_law_33 (by decide) (by decide) rfl rfl (lw_c3 hL hok hK.2.2.2.1 hiL (by omega) (by omega) hR kk)
        | 4, hd, hjt => exact xv_tabIn (tgt := 394) dL_law_33 (by decide) (by decide) rfl rfl (lw_c4 hL hok hK.2.2.2.2.1 hiL (by omega) (by omega) hR kk)
        | 5, hd, hjt => exact xv_tabIn (tgt := 407) dL_law_33 (by decide) (by decide) rfl rfl (lw_c5 hL hok hK.2.2.2.2.2.1 hiL (by omega) (by omega) hR kk)
        | 6, hd, hjt => exact xv_tabIn (tgt := 420) dL_law_33 (by decide) (by decide) rfl rfl (lw_c6 hL hok hK.2.2.2.2.2.2.1 hiL (by omega) (by omega) hR kk)
        | 7, hd, hjt => exact xv_tabIn (tgt := 453) dL_law_33 (by decide) (by decide) rfl rfl (lw_c7 hL hok hK.2.2.2.2.2.2.2.1 hiL (by omega) (by omega) hR kk)
        | 8, hd, hjt => exact xv_tabIn (tgt := 486) dL_law_33 (by decide) (by decide) rfl rfl (lw_c8 hL hok hK.2.2.2.2.2.2.2.2.1 hiL (by omega) (by omega) hR kk)
        | 9, hd, hjt => exact xv_tabIn (tgt := 545) dL_law_33 (by decide) (by decide) rfl rfl (lw_c9 hL hok hK.2.2.2.2.2.2.2.2.2.1 hiL (by omega) (by omega) hR kk)
        | 10, hd, hjt => exact xv_tabIn (tgt := 568) dL_law_33 (by decide) (by decide) rfl rfl (lw_c10 hL hok hK.2.2.2.2.2.2.2.2.2.2.1 hiL (by omega) (by omega) hR kk)
        | 11, hd, hjt => exact xv_tabIn (tgt := 591) dL_law_33 (by decide) (by decide) rfl rfl (lw_c11 hL hok hK.2.2.2.2.2.2.2.2.2.2.2.1 hiL (by omega) (by omega) hR kk)
        | 12, hd, hjt => exact xv_tabIn (tgt := 634) dL_law_33 (by decide) (by decide) rfl rfl (lw_c12 hL hok hK.2.2.2.2.2.2.2.2.2.2.2.2.1 hiL (by omega) (by omega) hR kk)
        | 13, hd, hjt => exact xv_tabIn (tgt := 657) dL_law_33 (by decide) (by decide) rfl rfl (lw_c13 hL hok hK.2.2.2.2.2.2.2.2.2.2.2.2.2.1 hiL (by omega) (by omega) hR kk)
        | 14, hd, hjt => exact xv_tabIn (tgt := 670) dL_law_33 (by decide) (by decide) rfl rfl (lw_c14 hL hok hK.2.2.2.2.2.2.2.2.2.2.2.2.2.2.1 hiL (by omega) (by omega) hR kk)
        | 15, hd, hjt => exact xv_tabIn (tgt := 683) dL_law_33 (by decide) (by decide) rfl rfl (lw_c15 hL hok hK.2.2.2.2.2.2.2.2.2.2.2.2.2.2.2.1 hiL (by omega) (by omega) hR kk)
        | 16, hd, hjt => exact xv_tabIn (tgt := 706) dL_law_33 (by decide) (by decide) rfl rfl (lw_c16 hL hok hK.2.2.2.2.2.2.2.2.2.2.2.2.2.2.2.2.1 hiL (by omega) (by omega) hR kk)
        | 17, hd, hjt => exact xv_tabIn (tgt := 739) dL_law_33 (by decide) (by decide) rfl rfl (lw_c17 hL hok hK.2.2.2.2.2.2.2.2.2.2.2.2.2.2.2.2.2.1 hiL (by omega) (by omega) hR kk)
        | 18, hd, hjt => exact xv_tabIn (tgt := 762) dL_law_33 (by decide) (by decide) rfl rfl (lw_c18 hL hok hK.2.2.2.2.2.2.2.2.2.2.2.2.2.2.2.2.2.2.1 hiL (by omega) (by omega) hR kk)
        | 19, hd, hjt => exact xv_tabIn (tgt := 795) dL_law_33 (by decide) (by decide) rfl rfl (lw_c19 hL hok hK.2.2.2.2.2.2.2.2.2.2.2.2.2.2.2.2.2.2.2.1 hiL (by omega) (by omega) hR kk)
        | 20, hd, hjt => exact xv_tabIn (tgt := 808) dL_law_33 (by decide) (by decide) rfl rfl (lw_c20 hL hok hK.2.2.2.2.2.2.2.2.2.2.2.2.2.2.2.2.2.2.2.2.1 hiL (by omega) (by omega) hR kk)
        | 21, hd, hjt => exact xv_tabIn (tgt := 831) dL_law_33 (by decide) (by decide) rfl rfl (lw_c21 hL hok hK.2.2.2.2.2.2.2.2.2.2.2.2.2.2.2.2.2.2.2.2.2.1 hiL (by omega) (by omega) hR kk)
        | 22, hd, hjt => exact xv_tabIn (tgt := 854) dL_law_33 (by decide) (by decide) rfl rfl (lw_c22 hL hok hK.2.2.2.2.2.2.2.2.2.2.2.2.2.2.2.2.2.2.2.2.2.2.1 hiL (by omega) (by omega) hR kk)
        | 23, hd, hjt => exact xv_tabIn (tgt := 933) dL_law_33 (by decide) (by decide) rfl rfl (lw_c23 hL hok hK.2.2.2.2.2.2.2.2.2.2.2.2.2.2.2.2.2.2.2.2.2.2.2.1 hiL (by omega) (by omega) hR kk)
        | 24, hd, hjt => exact xv_tabIn (tgt := 956) dL_law_33 (by decide) (by decide) rfl rfl (lw_c24 hL hok hK.2.2.2.2.2.2.2.2.2.2.2.2.2.2.2.2.2.2.2.2.2.2.2.2.1 hiL (by omega) (by omega) hR kk)
        | 25, hd, hjt => exact xv_tabIn (tgt := 1005) dL_law_33 (by decide) (by decide) rfl rfl (lw_c25 hL hok hK.2.2.2.2.2.2.2.2.2.2.2.2.2.2.2.2.2.2.2.2.2.2.2.2.2.1 hiL (by omega) (by omega) hR kk)
        | 26, hd, hjt => exact xv_tabIn (tgt := 1028) dL_law_33 (by decide) (by decide) rfl rfl (lw_c26 hL hok hK.2.2.2.2.2.2.2.2.2.2.2.2.2.2.2.2.2.2.2.2.2.2.2.2.2.2.1 hiL (by omega) (by omega) hR kk)
        | 27, hd, hjt => exact xv_tabIn (tgt := 1041) dL_law_33 (by decide) (by decide) rfl rfl (lw_c27 hL hok hK.2.2.2.2.2.2.2.2.2.2.2.2.2.2.2.2.2.2.2.2.2.2.2.2.2.2.2.1 hiL (by omega) (by omega) hR kk)
        | 28, hd, hjt => exact xv_tabIn (tgt := 1064) dL_law_33 (by decide) (by decide) rfl rfl (lw_c28 hL hok hK.2.2.2.2.2.2.2.2.2.2.2.2.2.2.2.2.2.2.2.2.2.2.2.2.2.2.2.2.1 hiL (by omega) (by omega) hR kk)
        | 29, hd, hjt => exact xv_tabIn (tgt := 1087) dL_law_33 (by decide) (by decide) rfl rfl (lw_c29 hL hok hK.2.2.2.2.2.2.2.2.2.2.2.2.2.2.2.2.2.2.2.2.2.2.2.2.2.2.2.2.2.1 hiL (by omega) (by omega) hR kk)
        | 30, hd, hjt => exact xv_tabIn (tgt := 1130) dL_law_33 (by decide) (by decide) rfl rfl (lw_c30 hL hok hK.2.2.2.2.2.2.2.2.2.2.2.2.2.2.2.2.2.2.2.2.2.2.2.2.2.2.2.2.2.2.1 hiL (by omega) (by omega) hR kk)
        | 31, hd, hjt => exact xv_tabIn (tgt := 1163) dL_law_33 (by decide) (by decide) rfl rfl (lw_c31 hL hok hK.2.2.2.2.2.2.2.2.2.2.2.2.2.2.2.2.2.2.2.2.2.2.2.2.2.2.2.2.2.2.2.1 hiL (by omega) (by omega) hR kk)
        | 32, hd, hjt => exact xv_tabIn (tgt := 1212) dL_law_33 (by decide) (by decide) rfl rfl (lw_c32 hL hok hK.2.2.2.2.2.2.2.2.2.2.2.2.2.2.2.2.2.2.2.2.2.2.2.2.2.2.2.2.2.2.2.2.1 hiL (by omega) (by omega) hR kk)
        | 33, hd, hjt => exact xv_tabIn (tgt := 1256) dL_law_33 (by decide) (by decide) rfl rfl (lw_c33 hL hok hK.2.2.2.2.2.2.2.2.2.2.2.2.2.2.2.2.2.2.2.2.2.2.2.2.2.2.2.2.2.2.2.2.2.1 hiL (by omega) (by omega) hR kk)
        | 34, hd, hjt => exact xv_tabIn (tgt := 1279) dL_law_33 (by decide) (by decide) rfl rfl (lw_c34 hL hok hK.2.2.2.2.2.2.2.2.2.2.2.2.2.2.2.2.2.2.2.2.2.2.2.2.2.2.2.2.2.2.2.2.2.2.1 hiL (by omega) (by omega) hR kk)
        | 35, hd, hjt => exact xv_tabIn (tgt := 1302) dL_law_33 (by decide) (by decide) rfl rfl (lw_c35 hL hok hK.2.2.2.2.2.2.2.2.2.2.2.2.2.2.2.2.2.2.2.2.2.2.2.2.2.2.2.2.2.2.2.2.2.2.2.1 hiL (by omega) (by omega) hR kk)
        | 36, hd, hjt => exact xv_tabIn (tgt := 1365) dL_law_33 (by decide) (by decide) rfl rfl (lw_c36 hL hok hK.2.2.2.2.2.2.2.2.2.2.2.2.2.2.2.2.2.2.2.2.2.2.2.2.2.2.2.2.2.2.2.2.2.2.2.2.1 hiL (by omega) (by omega) hR kk)
        | 37, hd, hjt => exact xv_tabIn (tgt := 1388) dL_law_33 (by decide) (by decide) rfl rfl (lw_c37 hL hok hK.2.2.2.2.2.2.2.2.2.2.2.2.2.2.2.2.2.2.2.2.2.2.2.2.2.2.2.2.2.2.2.2.2.2.2.2.2.1 hiL (by omega) (by omega) hR kk)
        | 38, hd, hjt => exact xv_tabIn (tgt := 1411) dL_law_33 (by decide) (by decide) rfl rfl (lw_c38 hL hok hK.2.2.2.2.2.2.2.2.2.2.2.2.2.2.2.2.2.2.2.2.2.2.2.2.2.2.2.2.2.2.2.2.2.2.2.2.2.2.1 hiL (by omega) (by omega) hR kk)
        | 39, hd, hjt => exact xv_tabIn (tgt := 1434) dL_law_33 (by decide) (by decide) rfl rfl (lw_c39 hL hok hK.2.2.2.2.2.2.2.2.2.2.2.2.2.2.2.2.2.2.2.2.2.2.2.2.2.2.2.2.2.2.2.2.2.2.2.2.2.2.2.1 hiL (by omega) (by omega) hR kk)
        | 40, hd, hjt => exact xv_tabIn (tgt := 1458) dL_law_33 (by decide) (by decide) rfl rfl (lw_c40 hL hok hK.2.2.2.2.2.2.2.2.2.2.2.2.2.2.2.2.2.2.2.2.2.2.2.2.2.2.2.2.2.2.2.2.2.2.2.2.2.2.2.2.1 hiL (by omega) (by omega) hR kk)
        | 41, hd, hjt => exact xv_tabIn (tgt := 1481) dL_law_33 (by decide) (by decide) rfl rfl (lw_c41 hL hok hK.2.2.2.2.2.2.2.2.2.2.2.2.2.2.2.2.2.2.2.2.2.2.2.2.2.2.2.2.2.2.2.2.2.2.2.2.2.2.2.2.2 hiL (by omega) (by omega) hR kk)
        | k + 42, hd, hjt => exact absurd hd (by omega)
theorem lw_top {R : xv_R} (hok : ∀ G I J, R G I J → xg_ok G) (h0 : R st_G st_I st_J) {l : Launch} {D : va_G} (hK : lw_K R l D) : xv_top l D := by
  intro L xs hL
  refine xv_new (a := 0) dL_law_0 nl_L_7 rfl (by decide) (Nat.le_of_ble_eq_true rfl) (Nat.le_of_ble_eq_true rfl) ?_
  refine xv_dup dL_law_3 rfl ?_
  refine xv_callI (As := []) dL_law_4 cl_L_9 rfl rfl (Nat.le_of_ble_eq_true rfl) (Nat.le_of_ble_eq_true rfl) (Nat.le_of_ble_eq_true rfl) (Nat.le_of_ble_eq_true rfl) ?_
  refine s10_init (d := 97) gn_eq (fun a h1 h2 => (gn_ne (by omega)).trans rfl) ?_
  refine xv_astore_n dL_law_7 rfl (Nat.le_of_ble_eq_true rfl) rfl ?_
  refine xv_new (a := 40) dL_law_8 nl_L_10 (by decide +kernel) (by decide) (Nat.le_of_ble_eq_true rfl) (Nat.le_of_ble_eq_true rfl) ?_
  refine xv_dup dL_law_11 rfl ?_
  refine xv_callI (As := []) dL_law_12 cl_L_12 rfl rfl (Nat.le_of_ble_eq_true rfl) (Nat.le_of_ble_eq_true rfl) (Nat.le_of_ble_eq_true rfl) (Nat.le_of_ble_eq_true rfl) ?_
  refine s11_init (d := 99) gn_eq (fun a h1 h2 => (gn_ne (by omega)).trans ?_) ?_
  · exact ((k_X0_f (by omega)).trans ((gn_ne (by omega)).trans ((k_X6_f (by omega)).trans ((gn_ne (by omega)).trans ((k_X1_f (by omega)).trans ((gn_ne (by omega)).trans ((k_X2_f (by omega)).trans ((gn_ne (by omega)).trans ((k_X3_f (by omega)).trans ((gn_ne (by omega)).trans ((k_X5_f (by omega)).trans ((gn_ne (by omega)).trans (gn_ne (by omega))))))))))))))
  refine xv_astore_n dL_law_15 rfl (Nat.le_of_ble_eq_true rfl) rfl ?_
  refine xv_iconst (v := nI 0) dL_law_16 rfl ?_
  refine xv_istore_n dL_law_17 rfl (Nat.le_of_ble_eq_true rfl) rfl ?_
  exact lw_loop hL hok hK (fun _ _ _ => rfl) 512 0 _ _ st_G st_I st_J (by omega) (by omega) rfl (by decide) (by decide) h0