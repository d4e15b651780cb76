set_option maxHeartbeats 4000000 in
set_option maxRecDepth 100000 in
theorem kL_found (l : Launch) (g : qG) {ad : Nat → Nat} (z : zS) (hj : adInj 15 ad) (hI : qInv z) (hn : ¬ inH z = -9) (v : Int32) (hv : inR v (-3000) 3000 = true) : qMi l yL_found wsL_found 7 g (WX g ad) (adOf 15 ad) z [.ref (ad 0), .int v] 1 z := by
  refine qStart (cc := cL_found) (maxL := 12) (ret := (some .boolean)) (plainFor_of_name (by decide)) rfl (Nat.le_of_ble_eq_true rfl) ?_
  intro p e s m args below meth c hx hb hml hown hts hr hlk hP hK ls hl
  have hl : lv_has ls 12 [(0, .ref (ad 0)), (1, .int v)] := hl
  have hS : va_S (adOf 15 ad) s.heap s.heap [] := va_S.rf
  have hih := inH_lt hn
  have hi4 := hih.2.1
  have hp := pOk_inH hn
  have hs := uF_sgn (z := z) (p := (10 + ix (inH z))) hv
  have hNK := uN_le (z := z) (p := (10 + ix (inH z))) (v := v)
  obtain ⟨hs1, hs2, hs3, hs4, hK3⟩ := hs
  have hru := ru_0 (z := z) (p := (10 + ix (inH z))) (u := uF z (10 + ix (inH z)) v) (v := v)
  have hnx := aw_next (z := z) (p := (10 + ix (inH z))) (v := v)
  have hrn := ru_next (z := z) (p := (10 + ix (inH z))) hv
  have huN : uF z (10 + ix (inH z)) v = sgn v * nI (uN z (10 + ix (inH z)) v) := rfl
  obtain ⟨u, hu⟩ : ∃ u, u = uF z (10 + ix (inH z)) v := ⟨_, rfl⟩
  obtain ⟨N, hN⟩ : ∃ N, N = uN z (10 + ix (inH z)) v := ⟨_, rfl⟩
  obtain ⟨am, ham⟩ : ∃ am, am = ampF z (10 + ix (inH z)) (uF z (10 + ix (inH z)) v) := ⟨_, rfl⟩
  obtain ⟨ru, hrue⟩ : ∃ ru, ru = ruF z (10 + ix (inH z)) (uF z (10 + ix (inH z)) v) v := ⟨_, rfl⟩
  rw [← hrue] at hru hrn
  rw [← hu] at hs1 hs2 hs3 hru huN ham
  rw [← hN] at hNK hs3 hnx hrn huN
  have hs5 : ¬ absI v < absI u := fun q => by rw [hs3, hs4] at q; have := nI_gtt (by omega) (by omega) q; omega
  have hvK : absI v = nI (ix (absI v)) := hs4
  have loop : ∀ (k : Nat) (j : Nat), j + k = 4000 → ∀ (H : Heap) (locs : List Loc), va_P g.1 vwCl ((WX g ad) z) H → va_S (adOf 15 ad) s.heap H locs → ∀ ls : Array Slot, lv_has ls 12 [(0, .ref (ad 0)), (1, .int v), (2, .int (inH z)), (3, .int (bI (fwdB z (10 + ix (inH z))))), (4, .int u), (5, .int am), (6, .int ru), (7, .int (sgn v)), (8, .int (sgn v * nI j))] → W p l e (rmL 7) s m args below meth c H locs 0 0 (MQ below (va_Qi (fun q9 u9 => q9 = 1 ∧ u9 = z) (qU g (WX g ad)) (adOf 15 ad)) args s 0 0 (adOf 15 ad)) (F0 m 135 ls []) := by
    intro k
    induction k with
    | zero =>
      intro j hj2 H locs hP hS ls hl
      refine lv_iload hx hb dL_found_135 (lv_at hl 8 rfl) ?_
      refine qSi (As := [.int (sgn v * nI j)]) (rest := []) hx hb hml hown hts (kL_size l g (Wd := (WX g ad)) (A := (adOf 15 ad)) z (sgn v * nI j)) gL_found_L_size rfl 1 hdL_size rfl ⟨Nat.le_of_ble_eq_true rfl, Nat.le_of_ble_eq_true rfl⟩ ⟨Nat.zero_le _, Nat.zero_le _⟩ hK hP hS (fun _ h => h) hl.1 rfl (Nat.le_of_ble_eq_true rfl) dL_found_137 (fun H locs hP hS => ?_)
      refine lv_nm (y := nI j) (abs_sg (by omega)) ?_
      refine lv_iload hx hb dL_found_140 (lv_at hl 4 rfl) ?_
      refine qSi (As := [.int u]) (rest := [.int (nI j)]) hx hb hml hown hts (kL_size l g (Wd := (WX g ad)) (A := (adOf 15 ad)) z u) gL_found_L_size rfl 1 hdL_size rfl ⟨Nat.le_of_ble_eq_true rfl, Nat.le_of_ble_eq_true rfl⟩ ⟨Nat.zero_le _, Nat.zero_le _⟩ hK hP hS (fun _ h => h) hl.1 rfl (Nat.le_of_ble_eq_true rfl) dL_found_142 (fun H locs hP hS => ?_)
      refine lv_nm (y := nI N) hs3 ?_
      refine lv_iconst (v := 1) hx hb dL_found_145 rfl ?_
      refine lv_iadd hx hb dL_found_146 ?_
      refine lv_nm (y := nI (N + 1)) (nI_1 N) ?_
      refine lv_icmp_gt (tgt := 334) hx hb dL_found_147 (by decide) (fun c_147 => ?_) (fun c_147 => ?_)
      · -- 147 taken
        have c_147n := i_lt_t c_147
        refine lv_iconst (v := 1) hx hb dL_found_334 rfl ?_
        exact qRz hx hb hr hlk rfl hP hK hS dL_found_335 rfl rfl
      · -- 147 not taken
        have c_147n := i_lt_f c_147
        exact absurd (nI_gtf (by omega) (by omega) c_147) (by omega)
    | succ k ih =>
      intro j hj2 H locs hP hS ls hl
      refine lv_iload hx hb dL_found_135 (lv_at hl 8 rfl) ?_
      refine qSi (As := [.int (sgn v * nI j)]) (rest := []) hx hb hml hown hts (kL_size l g (Wd := (WX g ad)) (A := (adOf 15 ad)) z (sgn v * nI j)) gL_found_L_size rfl 1 hdL_size rfl ⟨Nat.le_of_ble_eq_true rfl, Nat.le_of_ble_eq_true rfl⟩ ⟨Nat.zero_le _, Nat.zero_le _⟩ hK hP hS (fun _ h => h) hl.1 rfl (Nat.le_of_ble_eq_true rfl) dL_found_137 (fun H locs hP hS => ?_)
      refine lv_nm (y := nI j) (abs_sg (by omega)) ?_
      refine lv_iload hx hb dL_found_140 (lv_at hl 4 rfl) ?_
      refine qSi (As := [.int u]) (rest := [.int (nI j)]) hx hb hml hown hts (kL_size l g (Wd := (WX g ad)) (A := (adOf 15 ad)) z u) gL_found_L_size rfl 1 hdL_size rfl ⟨Nat.le_of_ble_eq_true rfl, Nat.le_of_ble_eq_true rfl⟩ ⟨Nat.zero_le _, Nat.zero_le _⟩ hK hP hS (fun _ h => h) hl.1 rfl (Nat.le_of_ble_eq_true rfl) dL_found_142 (fun H locs hP hS => ?_)
      refine lv_nm (y := nI N) hs3 ?_
      refine lv_iconst (v := 1) hx hb dL_found_145 rfl ?_
      refine lv_iadd hx hb dL_found_146 ?_
      refine lv_nm (y := nI (N + 1)) (nI_1 N) ?_
      refine lv_icmp_gt (tgt := 334) hx hb dL_found_147 (by decide) (fun c_147 => ?_) (fun c_147 => ?_)
      · -- 147 taken
        have c_147n := i_lt_t c_147
        refine lv_iconst (v := 1) hx hb dL_found_334 rfl ?_
        exact qRz hx hb hr hlk rfl hP hK hS dL_found_335 rfl rfl
      · -- 147 not taken
        have c_147n := i_lt_f c_147
        have hj1 : j ≤ N + 1 := nI_gtf (by omega) (by omega) c_147
        refine lv_iload hx hb dL_found_150 (lv_at hl 8 rfl) ?_
        refine qSi (As := [.int (sgn v * nI j)]) (rest := []) hx hb hml hown hts (kL_size l g (Wd := (WX g ad)) (A := (adOf 15 ad)) z (sgn v * nI j)) gL_found_L_size rfl 1 hdL_size rfl ⟨Nat.le_of_ble_eq_true rfl, Nat.le_of_ble_eq_true rfl⟩ ⟨Nat.zero_le _, Nat.zero_le _⟩ hK hP hS (fun _ h => h) hl.1 rfl (Nat.le_of_ble_eq_true rfl) dL_found_152 (fun H locs hP hS => ?_)
        refine lv_nm (y := nI j) (abs_sg (by omega)) ?_
        refine lv_iload_n hx hb dL_found_155 rfl (lv_at hl 1 rfl) ?_
        refine qSi (As := [.int v]) (rest := [.int (nI j)]) hx hb hml hown hts (kL_size l g (Wd := (WX g ad)) (A := (adOf 15 ad)) z v) gL_found_L_size rfl 1 hdL_size rfl ⟨Nat.le_of_ble_eq_true rfl, Nat.le_of_ble_eq_true rfl⟩ ⟨Nat.zero_le _, Nat.zero_le _⟩ hK hP hS (fun _ h => h) hl.1 rfl (Nat.le_of_ble_eq_true rfl) dL_found_156 (fun H locs hP hS => ?_)
        refine lv_nm (y := nI (ix (absI v))) hs4 ?_
        refine lv_icmp_gt (tgt := 334) hx hb dL_found_159 (by decide) (fun c_159 => ?_) (fun c_159 => ?_)
        · -- 159 taken
          have c_159n := i_lt_t c_159
          refine lv_iconst (v := 1) hx hb dL_found_334 rfl ?_
          exact qRz hx hb hr hlk rfl hP hK hS dL_found_335 rfl rfl
        · -- 159 not taken
          have c_159n := i_lt_f c_159
          have hjK : j ≤ ix (absI v) := nI_gtf (by omega) (by omega) c_159
          have hat := sg_in hv hjK
          refine lv_iload_n hx hb dL_found_162 rfl (lv_at hl 3 rfl) ?_
          refine lv_if_eq (tgt := 179) hx hb dL_found_163 (by decide) (fun c_163 => ?_) (fun c_163 => ?_)
          · -- 163 taken
            have c_163 := bI_0 c_163
            refine lv_ldc (v := 50000) hx hb hown (hts (.constant RL 25 (50000)) (by decide +kernel)) dL_found_179 ?_
            refine lv_aload_n hx hb dL_found_181 rfl (lv_at hl 0 rfl) ?_
            refine lv_iload_n hx hb dL_found_182 rfl (lv_at hl 2 rfl) ?_
            refine lv_iload hx hb dL_found_183 (lv_at hl 8 rfl) ?_
            refine lv_ineg hx hb dL_found_185 ?_
            refine qVi (As := [.int (inH z), .int (-(sgn v * nI j))]) (rest := [.int 50000]) hx hb hml hown hts (kX3_amps l g z hj (inH z) (-(sgn v * nI j))) gL_found_X3_amps rfl 2 hdX3_amps rfl ⟨Nat.le_of_ble_eq_true rfl, Nat.le_of_ble_eq_true rfl⟩ ⟨Nat.zero_le _, Nat.zero_le _⟩ hK hP hS (fun _ h => h) 0 3 rfl rfl rfl hl.1 rfl (Nat.le_of_ble_eq_true rfl) dL_found_186 (fun H locs hP hS => ?_)
            refine lv_isub hx hb dL_found_189 ?_
            refine lv_nm (y := ampF z (10 + ix (inH z)) (sgn v * nI j)) (amps_b hI hn hat (fwd_f c_163)) ?_
            refine lv_istore (lv' := [(9, .int (ampF z (10 + ix (inH z)) (sgn v * nI j))), (0, .ref (ad 0)), (1, .int v), (2, .int (inH z)), (3, .int (bI (fwdB z (10 + ix (inH z))))), (4, .int u), (5, .int am), (6, .int ru), (7, .int (sgn v)), (8, .int (sgn v * nI j))]) hx hb dL_found_190 hl (by decide) rfl (fun ls hl => ?_)
            refine lv_iload hx hb dL_found_192 (lv_at hl 0 rfl) ?_
            refine qSi (As := [.int (ampF z (10 + ix (inH z)) (sgn v * nI j))]) (rest := []) hx hb hml hown hts (kL_size l g (Wd := (WX g ad)) (A := (adOf 15 ad)) z (ampF z (10 + ix (inH z)) (sgn v * nI j))) gL_found_L_size rfl 1 hdL_size rfl ⟨Nat.le_of_ble_eq_true rfl, Nat.le_of_ble_eq_true rfl⟩ ⟨Nat.zero_le _, Nat.zero_le _⟩ hK hP hS (fun _ h => h) hl.1 rfl (Nat.le_of_ble_eq_true rfl) dL_found_194 (fun H locs hP hS => ?_)
            refine lv_aload_n hx hb dL_found_197 rfl (lv_at hl 1 rfl) ?_
            refine lv_iconst (v := 3) hx hb dL_found_198 rfl ?_
            refine qVi (As := [.int 3]) (rest := [.int (absI (ampF z (10 + ix (inH z)) (sgn v * nI j)))]) hx hb hml hown hts (kX3_now l g z hj 3) gL_found_X3_now rfl 1 hdX3_now rfl ⟨Nat.le_of_ble_eq_true rfl, Nat.le_of_ble_eq_true rfl⟩ ⟨Nat.zero_le _, Nat.zero_le _⟩ hK hP hS (fun _ h => h) 0 3 rfl rfl rfl hl.1 rfl (Nat.le_of_ble_eq_true rfl) dL_found_199 (fun H locs hP hS => ?_)
            refine lv_nm (y := z 0 1) (now_3 z) ?_
            refine lv_icmp_le (tgt := 209) hx hb dL_found_202 (by decide) (fun c_202 => ?_) (fun c_202 => ?_)
            · -- 202 taken
              have c_202n := i_le_t c_202
              refine lv_iconst (v := 0) hx hb dL_found_209 rfl ?_
              refine lv_istore (lv' := [(10, .int 0), (9, .int (ampF z (10 + ix (inH z)) (sgn v * nI j))), (0, .ref (ad 0)), (1, .int v), (2, .int (inH z)), (3, .int (bI (fwdB z (10 + ix (inH z))))), (4, .int u), (5, .int am), (6, .int ru), (7, .int (sgn v)), (8, .int (sgn v * nI j))]) hx hb dL_found_210 hl (by decide) rfl (fun ls hl => ?_)
              refine lv_aload_n hx hb dL_found_212 rfl (lv_at hl 2 rfl) ?_
              refine lv_iconst (v := 1) hx hb dL_found_213 rfl ?_
              refine qVi (As := [.int 1]) (rest := []) hx hb hml hown hts (kX3_now l g z hj 1) gL_found_X3_now rfl 1 hdX3_now rfl ⟨Nat.le_of_ble_eq_true rfl, Nat.le_of_ble_eq_true rfl⟩ ⟨Nat.zero_le _, Nat.zero_le _⟩ hK hP hS (fun _ h => h) 0 3 rfl rfl rfl hl.1 rfl (Nat.le_of_ble_eq_true rfl) dL_found_214 (fun H locs hP hS => ?_)
              refine lv_iconst (v := 2) hx hb dL_found_217 rfl ?_
              refine lv_icmp_ne (tgt := 252) hx hb dL_found_218 (by decide) (fun c_218 => ?_) (fun c_218 => ?_)
              · -- 218 taken
                have hw4 := now1_ne c_218
                refine lv_iconst (v := 0) hx hb dL_found_252 rfl ?_
                refine lv_istore (lv' := [(11, .int 0), (10, .int 0), (9, .int (ampF z (10 + ix (inH z)) (sgn v * nI j))), (0, .ref (ad 0)), (1, .int v), (2, .int (inH z)), (3, .int (bI (fwdB z (10 + ix (inH z))))), (4, .int u), (5, .int am), (6, .int ru), (7, .int (sgn v)), (8, .int (sgn v * nI j))]) hx hb dL_found_253 hl (by decide) rfl (fun ls hl => ?_)
                refine lv_iload hx hb dL_found_255 (lv_at hl 11 rfl) ?_
                refine qSi (As := [.int (sgn v * nI j)]) (rest := []) hx hb hml hown hts (kL_size l g (Wd := (WX g ad)) (A := (adOf 15 ad)) z (sgn v * nI j)) gL_found_L_size rfl 1 hdL_size rfl ⟨Nat.le_of_ble_eq_true rfl, Nat.le_of_ble_eq_true rfl⟩ ⟨Nat.zero_le _, Nat.zero_le _⟩ hK hP hS (fun _ h => h) hl.1 rfl (Nat.le_of_ble_eq_true rfl) dL_found_257 (fun H locs hP hS => ?_)
                refine lv_nm (y := nI j) (abs_sg (by omega)) ?_
                refine lv_iload hx hb dL_found_260 (lv_at hl 7 rfl) ?_
                refine qSi (As := [.int u]) (rest := [.int (nI j)]) hx hb hml hown hts (kL_size l g (Wd := (WX g ad)) (A := (adOf 15 ad)) z u) gL_found_L_size rfl 1 hdL_size rfl ⟨Nat.le_of_ble_eq_true rfl, Nat.le_of_ble_eq_true rfl⟩ ⟨Nat.zero_le _, Nat.zero_le _⟩ hK hP hS (fun _ h => h) hl.1 rfl (Nat.le_of_ble_eq_true rfl) dL_found_262 (fun H locs hP hS => ?_)
                refine lv_nm (y := nI N) hs3 ?_
                refine lv_icmp_gt (tgt := 281) hx hb dL_found_265 (by decide) (fun c_265 => ?_) (fun c_265 => ?_)
                · -- 265 taken
                  have c_265n := i_lt_t c_265
                  have hjN : N < j := nI_gtt (by omega) (by omega) c_265
                  have hje : j = N + 1 := by omega
                  have haw := hnx (by omega)
                  rw [← hje] at haw
                  have hr2 := hrn (by omega)
                  rw [← hje] at hr2
                  refine lv_iload hx hb dL_found_281 (lv_at hl 9 rfl) ?_
                  refine lv_iload hx hb dL_found_283 (lv_at hl 1 rfl) ?_
                  refine lv_if_eq (tgt := 292) hx hb dL_found_285 (by decide) (fun c_285 => ?_) (fun c_285 => ?_)
                  · -- 285 taken
                    refine lv_iload hx hb dL_found_292 (lv_at hl 0 rfl) ?_
                    refine lv_if_eq (tgt := 301) hx hb dL_found_294 (by decide) (fun c_294 => ?_) (fun c_294 => ?_)
                    · -- 294 taken
                      exact (aw_f haw c_202 (Or.inl hw4)).elim
                    · -- 294 not taken
                      exact absurd c_285 c_294
                  · -- 285 not taken
                    exact absurd rfl c_285
                · -- 265 not taken
                  have c_265n := i_lt_f c_265
                  have hjN : j ≤ N := nI_gtf (by omega) (by omega) c_265
                  have haw := aw_t (aw_all hI hi4 hv (j := j) (by rw [← hN]; exact hjN))
                  refine lv_iload hx hb dL_found_268 (lv_at hl 1 rfl) ?_
                  refine lv_if_ne (tgt := 306) hx hb dL_found_270 (by decide) (fun c_270 => ?_) (fun c_270 => ?_)
                  · -- 270 taken
                    exact absurd rfl c_270
                  · -- 270 not taken
                    refine lv_iload hx hb dL_found_273 (lv_at hl 0 rfl) ?_
                    refine lv_if_eq (tgt := 308) hx hb dL_found_275 (by decide) (fun c_275 => ?_) (fun c_275 => ?_)
                    · -- 275 taken
                      refine lv_iload hx hb dL_found_308 (lv_at hl 11 rfl) ?_
                      refine lv_iload hx hb dL_found_310 (lv_at hl 7 rfl) ?_
                      refine lv_icmp_ne (tgt := 324) hx hb dL_found_312 (by decide) (fun c_312 => ?_) (fun c_312 => ?_)
                      · -- 312 taken
                        refine lv_iload hx hb dL_found_324 (lv_at hl 11 rfl) ?_
                        refine lv_iload hx hb dL_found_326 (lv_at hl 10 rfl) ?_
                        refine lv_iadd hx hb dL_found_328 ?_
                        refine lv_nm (y := sgn v * nI (j + 1)) (sg_succ v j) ?_
                        refine lv_istore (lv' := [(8, .int (sgn v * nI (j + 1))), (11, .int 0), (10, .int 0), (9, .int (ampF z (10 + ix (inH z)) (sgn v * nI j))), (0, .ref (ad 0)), (1, .int v), (2, .int (inH z)), (3, .int (bI (fwdB z (10 + ix (inH z))))), (4, .int u), (5, .int am), (6, .int ru), (7, .int (sgn v))]) hx hb dL_found_329 hl (by decide) rfl (fun ls hl => ?_)
                        refine lv_goto (tgt := 135) hx hb dL_found_331 (by decide) ?_
                        exact ih (j + 1) (by omega) _ _ hP hS ls (lv_sub hl [4, 5, 6, 7, 8, 9, 10, 11, 0] rfl)
                      · -- 312 not taken
                        refine lv_iload hx hb dL_found_315 (lv_at hl 2 rfl) ?_
                        refine lv_iload hx hb dL_found_317 (lv_at hl 8 rfl) ?_
                        refine lv_icmp_eq (tgt := 324) hx hb dL_found_319 (by decide) (fun c_319 => ?_) (fun c_319 => ?_)
                        · -- 319 taken
                          refine lv_iload hx hb dL_found_324 (lv_at hl 11 rfl) ?_
                          refine lv_iload hx hb dL_found_326 (lv_at hl 10 rfl) ?_
                          refine lv_iadd hx hb dL_found_328 ?_
                          refine lv_nm (y := sgn v * nI (j + 1)) (sg_succ v j) ?_
                          refine lv_istore (lv' := [(8, .int (sgn v * nI (j + 1))), (11, .int 0), (10, .int 0), (9, .int (ampF z (10 + ix (inH z)) (sgn v * nI j))), (0, .ref (ad 0)), (1, .int v), (2, .int (inH z)), (3, .int (bI (fwdB z (10 + ix (inH z))))), (4, .int u), (5, .int am), (6, .int ru), (7, .int (sgn v))]) hx hb dL_found_329 hl (by decide) rfl (fun ls hl => ?_)
                          refine lv_goto (tgt := 135) hx hb dL_found_331 (by decide) ?_
                          exact ih (j + 1) (by omega) _ _ hP hS ls (lv_sub hl [4, 5, 6, 7, 8, 9, 10, 11, 0] rfl)
                        · -- 319 not taken
                          exact absurd ((congrArg (ampF z (10 + ix (inH z))) c_312).trans ham.symm) c_319
                    · -- 275 not taken
                      exact absurd c_270 c_275
              · -- 218 not taken
                have hw2 := now1_eq c_218
                refine lv_iload hx hb dL_found_221 (lv_at hl 10 rfl) ?_
                refine lv_iload hx hb dL_found_223 (lv_at hl 1 rfl) ?_
                refine lv_aload_n hx hb dL_found_225 rfl (lv_at hl 2 rfl) ?_
                refine lv_iconst (v := 4) hx hb dL_found_226 rfl ?_
                refine qVi (As := [.int 4]) (rest := [.int (ampF z (10 + ix (inH z)) (sgn v * nI j)), .int (sgn v * nI j)]) hx hb hml hown hts (kX3_now l g z hj 4) gL_found_X3_now rfl 1 hdX3_now rfl ⟨Nat.le_of_ble_eq_true rfl, Nat.le_of_ble_eq_true rfl⟩ ⟨Nat.zero_le _, Nat.zero_le _⟩ hK hP hS (fun _ h => h) 0 3 rfl rfl rfl hl.1 rfl (Nat.le_of_ble_eq_true rfl) dL_found_227 (fun H locs hP hS => ?_)
                refine lv_nm (y := z 0 2) (now_4 z) ?_
                refine lv_imul hx hb dL_found_230 ?_
                refine lv_sipush (v := 1000) hx hb dL_found_231 (by decide) ?_
                refine qSi (As := [.int ((ampF z (10 + ix (inH z)) (sgn v * nI j)) * (z 0 2)), .int 1000]) (rest := [.int (sgn v * nI j)]) hx hb hml hown hts (kL_cut l g (Wd := (WX g ad)) (A := (adOf 15 ad)) z ((ampF z (10 + ix (inH z)) (sgn v * nI j)) * (z 0 2)) 1000 (by decide)) gL_found_L_cut rfl 2 hdL_cut rfl ⟨Nat.le_of_ble_eq_true rfl, Nat.le_of_ble_eq_true rfl⟩ ⟨Nat.zero_le _, Nat.zero_le _⟩ hK hP hS (fun _ h => h) hl.1 rfl (Nat.le_of_ble_eq_true rfl) dL_found_234 (fun H locs hP hS => ?_)
                refine lv_nm (y := dropF z (ampF z (10 + ix (inH z)) (sgn v * nI j))) rfl ?_
                refine lv_iadd hx hb dL_found_237 ?_
                refine qSi (As := [.int ((sgn v * nI j) + (dropF z (ampF z (10 + ix (inH z)) (sgn v * nI j))))]) (rest := []) hx hb hml hown hts (kL_size l g (Wd := (WX g ad)) (A := (adOf 15 ad)) z ((sgn v * nI j) + (dropF z (ampF z (10 + ix (inH z)) (sgn v * nI j))))) gL_found_L_size rfl 1 hdL_size rfl ⟨Nat.le_of_ble_eq_true rfl, Nat.le_of_ble_eq_true rfl⟩ ⟨Nat.zero_le _, Nat.zero_le _⟩ hK hP hS (fun _ h => h) hl.1 rfl (Nat.le_of_ble_eq_true rfl) dL_found_238 (fun H locs hP hS => ?_)
                refine lv_iload_n hx hb dL_found_241 rfl (lv_at hl 3 rfl) ?_
                refine qSi (As := [.int v]) (rest := [.int (absI ((sgn v * nI j) + (dropF z (ampF z (10 + ix (inH z)) (sgn v * nI j)))))]) hx hb hml hown hts (kL_size l g (Wd := (WX g ad)) (A := (adOf 15 ad)) z v) gL_found_L_size rfl 1 hdL_size rfl ⟨Nat.le_of_ble_eq_true rfl, Nat.le_of_ble_eq_true rfl⟩ ⟨Nat.zero_le _, Nat.zero_le _⟩ hK hP hS (fun _ h => h) hl.1 rfl (Nat.le_of_ble_eq_true rfl) dL_found_242 (fun H locs hP hS => ?_)
                refine lv_icmp_le (tgt := 252) hx hb dL_found_245 (by decide) (fun c_245 => ?_) (fun c_245 => ?_)
                · -- 245 taken
                  have c_245n := i_le_t c_245
                  refine lv_iconst (v := 0) hx hb dL_found_252 rfl ?_
                  refine lv_istore (lv' := [(11, .int 0), (10, .int 0), (9, .int (ampF z (10 + ix (inH z)) (sgn v * nI j))), (0, .ref (ad 0)), (1, .int v), (2, .int (inH z)), (3, .int (bI (fwdB z (10 + ix (inH z))))), (4, .int u), (5, .int am), (6, .int ru), (7, .int (sgn v)), (8, .int (sgn v * nI j))]) hx hb dL_found_253 hl (by decide) rfl (fun ls hl => ?_)
                  refine lv_iload hx hb dL_found_255 (lv_at hl 11 rfl) ?_
                  refine qSi (As := [.int (sgn v * nI j)]) (rest := []) hx hb hml hown hts (kL_size l g (Wd := (WX g ad)) (A := (adOf 15 ad)) z (sgn v * nI j)) gL_found_L_size rfl 1 hdL_size rfl ⟨Nat.le_of_ble_eq_true rfl, Nat.le_of_ble_eq_true rfl⟩ ⟨Nat.zero_le _, Nat.zero_le _⟩ hK hP hS (fun _ h => h) hl.1 rfl (Nat.le_of_ble_eq_true rfl) dL_found_257 (fun H locs hP hS => ?_)
                  refine lv_nm (y := nI j) (abs_sg (by omega)) ?_
                  refine lv_iload hx hb dL_found_260 (lv_at hl 7 rfl) ?_
                  refine qSi (As := [.int u]) (rest := [.int (nI j)]) hx hb hml hown hts (kL_size l g (Wd := (WX g ad)) (A := (adOf 15 ad)) z u) gL_found_L_size rfl 1 hdL_size rfl ⟨Nat.le_of_ble_eq_true rfl, Nat.le_of_ble_eq_true rfl⟩ ⟨Nat.zero_le _, Nat.zero_le _⟩ hK hP hS (fun _ h => h) hl.1 rfl (Nat.le_of_ble_eq_true rfl) dL_found_262 (fun H locs hP hS => ?_)
                  refine lv_nm (y := nI N) hs3 ?_
                  refine lv_icmp_gt (tgt := 281) hx hb dL_found_265 (by decide) (fun c_265 => ?_) (fun c_265 => ?_)
                  · -- 265 taken
                    have c_265n := i_lt_t c_265
                    have hjN : N < j := nI_gtt (by omega) (by omega) c_265
                    have hje : j = N + 1 := by omega
                    have haw := hnx (by omega)
                    rw [← hje] at haw
                    have hr2 := hrn (by omega)
                    rw [← hje] at hr2
                    refine lv_iload hx hb dL_found_281 (lv_at hl 9 rfl) ?_
                    refine lv_iload hx hb dL_found_283 (lv_at hl 1 rfl) ?_
                    refine lv_if_eq (tgt := 292) hx hb dL_found_285 (by decide) (fun c_285 => ?_) (fun c_285 => ?_)
                    · -- 285 taken
                      refine lv_iload hx hb dL_found_292 (lv_at hl 0 rfl) ?_
                      refine lv_if_eq (tgt := 301) hx hb dL_found_294 (by decide) (fun c_294 => ?_) (fun c_294 => ?_)
                      · -- 294 taken
                        exact (aw_f haw c_202 (Or.inr c_245)).elim
                      · -- 294 not taken
                        exact absurd c_285 c_294
                    · -- 285 not taken
                      exact absurd rfl c_285
                  · -- 265 not taken
                    have c_265n := i_lt_f c_265
                    have hjN : j ≤ N := nI_gtf (by omega) (by omega) c_265
                    have haw := aw_t (aw_all hI hi4 hv (j := j) (by rw [← hN]; exact hjN))
                    refine lv_iload hx hb dL_found_268 (lv_at hl 1 rfl) ?_
                    refine lv_if_ne (tgt := 306) hx hb dL_found_270 (by decide) (fun c_270 => ?_) (fun c_270 => ?_)
                    · -- 270 taken
                      exact absurd rfl c_270
                    · -- 270 not taken
                      refine lv_iload hx hb dL_found_273 (lv_at hl 0 rfl) ?_
                      refine lv_if_eq (tgt := 308) hx hb dL_found_275 (by decide) (fun c_275 => ?_) (fun c_275 => ?_)
                      · -- 275 taken
                        refine lv_iload hx hb dL_found_308 (lv_at hl 11 rfl) ?_
                        refine lv_iload hx hb dL_found_310 (lv_at hl 7 rfl) ?_
                        refine lv_icmp_ne (tgt := 324) hx hb dL_found_312 (by decide) (fun c_312 => ?_) (fun c_312 => ?_)
                        · -- 312 taken
                          refine lv_iload hx hb dL_found_324 (lv_at hl 11 rfl) ?_
                          refine lv_iload hx hb dL_found_326 (lv_at hl 10 rfl) ?_
                          refine lv_iadd hx hb dL_found_328 ?_
                          refine lv_nm (y := sgn v * nI (j + 1)) (sg_succ v j) ?_
                          refine lv_istore (lv' := [(8, .int (sgn v * nI (j + 1))), (11, .int 0), (10, .int 0), (9, .int (ampF z (10 + ix (inH z)) (sgn v * nI j))), (0, .ref (ad 0)), (1, .int v), (2, .int (inH z)), (3, .int (bI (fwdB z (10 + ix (inH z))))), (4, .int u), (5, .int am), (6, .int ru), (7, .int (sgn v))]) hx hb dL_found_329 hl (by decide) rfl (fun ls hl => ?_)
                          refine lv_goto (tgt := 135) hx hb dL_found_331 (by decide) ?_
                          exact ih (j + 1) (by omega) _ _ hP hS ls (lv_sub hl [4, 5, 6, 7, 8, 9, 10, 11, 0] rfl)
                        · -- 312 not taken
                          refine lv_iload hx hb dL_found_315 (lv_at hl 2 rfl) ?_
                          refine lv_iload hx hb dL_found_317 (lv_at hl 8 rfl) ?_
                          refine lv_icmp_eq (tgt := 324) hx hb dL_found_319 (by decide) (fun c_319 => ?_) (fun c_319 => ?_)
                          · -- 319 taken
                            refine lv_iload hx hb dL_found_324 (lv_at hl 11 rfl) ?_
                            refine lv_iload hx hb dL_found_326 (lv_at hl 10 rfl) ?_
                            refine lv_iadd hx hb dL_found_328 ?_
                            refine lv_nm (y := sgn v * nI (j + 1)) (sg_succ v j) ?_
                            refine lv_istore (lv' := [(8, .int (sgn v * nI (j + 1))), (11, .int 0), (10, .int 0), (9, .int (ampF z (10 + ix (inH z)) (sgn v * nI j))), (0, .ref (ad 0)), (1, .int v), (2, .int (inH z)), (3, .int (bI (fwdB z (10 + ix (inH z))))), (4, .int u), (5, .int am), (6, .int ru), (7, .int (sgn v))]) hx hb dL_found_329 hl (by decide) rfl (fun ls hl => ?_)
                            refine lv_goto (tgt := 135) hx hb dL_found_331 (by decide) ?_
                            exact ih (j + 1) (by omega) _ _ hP hS ls (lv_sub hl [4, 5, 6, 7, 8, 9, 10, 11, 0] rfl)
                          · -- 319 not taken
                            exact absurd ((congrArg (ampF z (10 + ix (inH z))) c_312).trans ham.symm) c_319
                      · -- 275 not taken
                        exact absurd c_270 c_275
                · -- 245 not taken
                  have c_245n := i_le_f c_245
                  refine lv_iconst (v := 1) hx hb dL_found_248 rfl ?_
                  refine lv_goto (tgt := 253) hx hb dL_found_249 (by decide) ?_
                  refine lv_istore (lv' := [(11, .int 1), (10, .int 0), (9, .int (ampF z (10 + ix (inH z)) (sgn v * nI j))), (0, .ref (ad 0)), (1, .int v), (2, .int (inH z)), (3, .int (bI (fwdB z (10 + ix (inH z))))), (4, .int u), (5, .int am), (6, .int ru), (7, .int (sgn v)), (8, .int (sgn v * nI j))]) hx hb dL_found_253 hl (by decide) rfl (fun ls hl => ?_)
                  refine lv_iload hx hb dL_found_255 (lv_at hl 11 rfl) ?_
                  refine qSi (As := [.int (sgn v * nI j)]) (rest := []) hx hb hml hown hts (kL_size l g (Wd := (WX g ad)) (A := (adOf 15 ad)) z (sgn v * nI j)) gL_found_L_size rfl 1 hdL_size rfl ⟨Nat.le_of_ble_eq_true rfl, Nat.le_of_ble_eq_true rfl⟩ ⟨Nat.zero_le _, Nat.zero_le _⟩ hK hP hS (fun _ h => h) hl.1 rfl (Nat.le_of_ble_eq_true rfl) dL_found_257 (fun H locs hP hS => ?_)
                  refine lv_nm (y := nI j) (abs_sg (by omega)) ?_
                  refine lv_iload hx hb dL_found_260 (lv_at hl 7 rfl) ?_
                  refine qSi (As := [.int u]) (rest := [.int (nI j)]) hx hb hml hown hts (kL_size l g (Wd := (WX g ad)) (A := (adOf 15 ad)) z u) gL_found_L_size rfl 1 hdL_size rfl ⟨Nat.le_of_ble_eq_true rfl, Nat.le_of_ble_eq_true rfl⟩ ⟨Nat.zero_le _, Nat.zero_le _⟩ hK hP hS (fun _ h => h) hl.1 rfl (Nat.le_of_ble_eq_true rfl) dL_found_262 (fun H locs hP hS => ?_)
                  refine lv_nm (y := nI N) hs3 ?_
                  refine lv_icmp_gt (tgt := 281) hx hb dL_found_265 (by decide) (fun c_265 => ?_) (fun c_265 => ?_)
                  · -- 265 taken
                    have c_265n := i_lt_t c_265
                    have hjN : N < j := nI_gtt (by omega) (by omega) c_265
                    have hje : j = N + 1 := by omega
                    have haw := hnx (by omega)
                    rw [← hje] at haw
                    have hr2 := hrn (by omega)
                    rw [← hje] at hr2
                    refine lv_iload hx hb dL_found_281 (lv_at hl 9 rfl) ?_
                    refine lv_iload hx hb dL_found_283 (lv_at hl 1 rfl) ?_
                    refine lv_if_eq (tgt := 292) hx hb dL_found_285 (by decide) (fun c_285 => ?_) (fun c_285 => ?_)
                    · -- 285 taken
                      refine lv_iload hx hb dL_found_292 (lv_at hl 0 rfl) ?_
                      refine lv_if_eq (tgt := 301) hx hb dL_found_294 (by decide) (fun c_294 => ?_) (fun c_294 => ?_)
                      · -- 294 taken
                        exact absurd c_294 (by decide)
                      · -- 294 not taken
                        refine lv_iconst (v := 2) hx hb dL_found_297 rfl ?_
                        refine lv_goto (tgt := 303) hx hb dL_found_298 (by decide) ?_
                        refine lv_icmp_eq (tgt := 308) hx hb dL_found_303 (by decide) (fun c_303 => ?_) (fun c_303 => ?_)
                        · -- 303 taken
                          refine lv_iload hx hb dL_found_308 (lv_at hl 11 rfl) ?_
                          refine lv_iload hx hb dL_found_310 (lv_at hl 7 rfl) ?_
                          refine lv_icmp_ne (tgt := 324) hx hb dL_found_312 (by decide) (fun c_312 => ?_) (fun c_312 => ?_)
                          · -- 312 taken
                            refine lv_iload hx hb dL_found_324 (lv_at hl 11 rfl) ?_
                            refine lv_iload hx hb dL_found_326 (lv_at hl 10 rfl) ?_
                            refine lv_iadd hx hb dL_found_328 ?_
                            refine lv_nm (y := sgn v * nI (j + 1)) (sg_succ v j) ?_
                            refine lv_istore (lv' := [(8, .int (sgn v * nI (j + 1))), (11, .int 1), (10, .int 0), (9, .int (ampF z (10 + ix (inH z)) (sgn v * nI j))), (0, .ref (ad 0)), (1, .int v), (2, .int (inH z)), (3, .int (bI (fwdB z (10 + ix (inH z))))), (4, .int u), (5, .int am), (6, .int ru), (7, .int (sgn v))]) hx hb dL_found_329 hl (by decide) rfl (fun ls hl => ?_)
                            refine lv_goto (tgt := 135) hx hb dL_found_331 (by decide) ?_
                            exact ih (j + 1) (by omega) _ _ hP hS ls (lv_sub hl [4, 5, 6, 7, 8, 9, 10, 11, 0] rfl)
                          · -- 312 not taken
                            refine lv_iload hx hb dL_found_315 (lv_at hl 2 rfl) ?_
                            refine lv_iload hx hb dL_found_317 (lv_at hl 8 rfl) ?_
                            refine lv_icmp_eq (tgt := 324) hx hb dL_found_319 (by decide) (fun c_319 => ?_) (fun c_319 => ?_)
                            · -- 319 taken
                              refine lv_iload hx hb dL_found_324 (lv_at hl 11 rfl) ?_
                              refine lv_iload hx hb dL_found_326 (lv_at hl 10 rfl) ?_
                              refine lv_iadd hx hb dL_found_328 ?_
                              refine lv_nm (y := sgn v * nI (j + 1)) (sg_succ v j) ?_
                              refine lv_istore (lv' := [(8, .int (sgn v * nI (j + 1))), (11, .int 1), (10, .int 0), (9, .int (ampF z (10 + ix (inH z)) (sgn v * nI j))), (0, .ref (ad 0)), (1, .int v), (2, .int (inH z)), (3, .int (bI (fwdB z (10 + ix (inH z))))), (4, .int u), (5, .int am), (6, .int ru), (7, .int (sgn v))]) hx hb dL_found_329 hl (by decide) rfl (fun ls hl => ?_)
                              refine lv_goto (tgt := 135) hx hb dL_found_331 (by decide) ?_
                              exact ih (j + 1) (by omega) _ _ hP hS ls (lv_sub hl [4, 5, 6, 7, 8, 9, 10, 11, 0] rfl)
                            · -- 319 not taken
                              exact absurd ((congrArg (ampF z (10 + ix (inH z))) c_312).trans ham.symm) c_319
                        · -- 303 not taken
                          exact absurd (hr2.trans (if_neg (al_f c_202))) c_303
                    · -- 285 not taken
                      exact absurd rfl c_285
                  · -- 265 not taken
                    have c_265n := i_lt_f c_265
                    have hjN : j ≤ N := nI_gtf (by omega) (by omega) c_265
                    have haw := aw_t (aw_all hI hi4 hv (j := j) (by rw [← hN]; exact hjN))
                    refine lv_iload hx hb dL_found_268 (lv_at hl 1 rfl) ?_
                    refine lv_if_ne (tgt := 306) hx hb dL_found_270 (by decide) (fun c_270 => ?_) (fun c_270 => ?_)
                    · -- 270 taken
                      exact absurd rfl c_270
                    · -- 270 not taken
                      refine lv_iload hx hb dL_found_273 (lv_at hl 0 rfl) ?_
                      refine lv_if_eq (tgt := 308) hx hb dL_found_275 (by decide) (fun c_275 => ?_) (fun c_275 => ?_)
                      · -- 275 taken
                        exact absurd c_275 (by decide)
                      · -- 275 not taken
                        refine lv_goto (tgt := 306) hx hb dL_found_278 (by decide) ?_
                        exact absurd (haw.2.resolve_left hw2) c_245
            · -- 202 not taken
              have c_202n := i_le_f c_202
              refine lv_iconst (v := 1) hx hb dL_found_205 rfl ?_
              refine lv_goto (tgt := 210) hx hb dL_found_206 (by decide) ?_
              refine lv_istore (lv' := [(10, .int 1), (9, .int (ampF z (10 + ix (inH z)) (sgn v * nI j))), (0, .ref (ad 0)), (1, .int v), (2, .int (inH z)), (3, .int (bI (fwdB z (10 + ix (inH z))))), (4, .int u), (5, .int am), (6, .int ru), (7, .int (sgn v)), (8, .int (sgn v * nI j))]) hx hb dL_found_210 hl (by decide) rfl (fun ls hl => ?_)
              refine lv_aload_n hx hb dL_found_212 rfl (lv_at hl 2 rfl) ?_
              refine lv_iconst (v := 1) hx hb dL_found_213 rfl ?_
              refine qVi (As := [.int 1]) (rest := []) hx hb hml hown hts (kX3_now l g z hj 1) gL_found_X3_now rfl 1 hdX3_now rfl ⟨Nat.le_of_ble_eq_true rfl, Nat.le_of_ble_eq_true rfl⟩ ⟨Nat.zero_le _, Nat.zero_le _⟩ hK hP hS (fun _ h => h) 0 3 rfl rfl rfl hl.1 rfl (Nat.le_of_ble_eq_true rfl) dL_found_214 (fun H locs hP hS => ?_)
              refine lv_iconst (v := 2) hx hb dL_found_217 rfl ?_
              refine lv_icmp_ne (tgt := 252) hx hb dL_found_218 (by decide) (fun c_218 => ?_) (fun c_218 => ?_)
              · -- 218 taken
                have hw4 := now1_ne c_218
                refine lv_iconst (v := 0) hx hb dL_found_252 rfl ?_
                refine lv_istore (lv' := [(11, .int 0), (10, .int 1), (9, .int (ampF z (10 + ix (inH z)) (sgn v * nI j))), (0, .ref (ad 0)), (1, .int v), (2, .int (inH z)), (3, .int (bI (fwdB z (10 + ix (inH z))))), (4, .int u), (5, .int am), (6, .int ru), (7, .int (sgn v)), (8, .int (sgn v * nI j))]) hx hb dL_found_253 hl (by decide) rfl (fun ls hl => ?_)
                refine lv_iload hx hb dL_found_255 (lv_at hl 11 rfl) ?_
                refine qSi (As := [.int (sgn v * nI j)]) (rest := []) hx hb hml hown hts (kL_size l g (Wd := (WX g ad)) (A := (adOf 15 ad)) z (sgn v * nI j)) gL_found_L_size rfl 1 hdL_size rfl ⟨Nat.le_of_ble_eq_true rfl, Nat.le_of_ble_eq_true rfl⟩ ⟨Nat.zero_le _, Nat.zero_le _⟩ hK hP hS (fun _ h => h) hl.1 rfl (Nat.le_of_ble_eq_true rfl) dL_found_257 (fun H locs hP hS => ?_)
                refine lv_nm (y := nI j) (abs_sg (by omega)) ?_
                refine lv_iload hx hb dL_found_260 (lv_at hl 7 rfl) ?_
                refine qSi (As := [.int u]) (rest := [.int (nI j)]) hx hb hml hown hts (kL_size l g (Wd := (WX g ad)) (A := (adOf 15 ad)) z u) gL_found_L_size rfl 1 hdL_size rfl ⟨Nat.le_of_ble_eq_true rfl, Nat.le_of_ble_eq_true rfl⟩ ⟨Nat.zero_le _, Nat.zero_le _⟩ hK hP hS (fun _ h => h) hl.1 rfl (Nat.le_of_ble_eq_true rfl) dL_found_262 (fun H locs hP hS => ?_)
                refine lv_nm (y := nI N) hs3 ?_
                refine lv_icmp_gt (tgt := 281) hx hb dL_found_265 (by decide) (fun c_265 => ?_) (fun c_265 => ?_)
                · -- 265 taken
                  have c_265n := i_lt_t c_265
                  have hjN : N < j := nI_gtt (by omega) (by omega) c_265
                  have hje : j = N + 1 := by omega
                  have haw := hnx (by omega)
                  rw [← hje] at haw
                  have hr2 := hrn (by omega)
                  rw [← hje] at hr2
                  refine lv_iload hx hb dL_found_281 (lv_at hl 9 rfl) ?_
                  refine lv_iload hx hb dL_found_283 (lv_at hl 1 rfl) ?_
                  refine lv_if_eq (tgt := 292) hx hb dL_found_285 (by decide) (fun c_285 => ?_) (fun c_285 => ?_)
                  · -- 285 taken
                    exact absurd c_285 (by decide)
                  · -- 285 not taken
                    refine lv_iconst (v := 1) hx hb dL_found_288 rfl ?_
                    refine lv_goto (tgt := 303) hx hb dL_found_289 (by decide) ?_
                    refine lv_icmp_eq (tgt := 308) hx hb dL_found_303 (by decide) (fun c_303 => ?_) (fun c_303 => ?_)
                    · -- 303 taken
                      refine lv_iload hx hb dL_found_308 (lv_at hl 11 rfl) ?_
                      refine lv_iload hx hb dL_found_310 (lv_at hl 7 rfl) ?_
                      refine lv_icmp_ne (tgt := 324) hx hb dL_found_312 (by decide) (fun c_312 => ?_) (fun c_312 => ?_)
                      · -- 312 taken
                        refine lv_iload hx hb dL_found_324 (lv_at hl 11 rfl) ?_
                        refine lv_iload hx hb dL_found_326 (lv_at hl 10 rfl) ?_
                        refine lv_iadd hx hb dL_found_328 ?_
                        refine lv_nm (y := sgn v * nI (j + 1)) (sg_succ v j) ?_
                        refine lv_istore (lv' := [(8, .int (sgn v * nI (j + 1))), (11, .int 0), (10, .int 1), (9, .int (ampF z (10 + ix (inH z)) (sgn v * nI j))), (0, .ref (ad 0)), (1, .int v), (2, .int (inH z)), (3, .int (bI (fwdB z (10 + ix (inH z))))), (4, .int u), (5, .int am), (6, .int ru), (7, .int (sgn v))]) hx hb dL_found_329 hl (by decide) rfl (fun ls hl => ?_)
                        refine lv_goto (tgt := 135) hx hb dL_found_331 (by decide) ?_
                        exact ih (j + 1) (by omega) _ _ hP hS ls (lv_sub hl [4, 5, 6, 7, 8, 9, 10, 11, 0] rfl)
                      · -- 312 not taken
                        refine lv_iload hx hb dL_found_315 (lv_at hl 2 rfl) ?_
                        refine lv_iload hx hb dL_found_317 (lv_at hl 8 rfl) ?_
                        refine lv_icmp_eq (tgt := 324) hx hb dL_found_319 (by decide) (fun c_319 => ?_) (fun c_319 => ?_)
                        · -- 319 taken
                          refine lv_iload hx hb dL_found_324 (lv_at hl 11 rfl) ?_
                          refine lv_iload hx hb dL_found_326 (lv_at hl 10 rfl) ?_
                          refine lv_iadd hx hb dL_found_328 ?_
                          refine lv_nm (y := sgn v * nI (j + 1)) (sg_succ v j) ?_
                          refine lv_istore (lv' := [(8, .int (sgn v * nI (j + 1))), (11, .int 0), (10, .int 1), (9, .int (ampF z (10 + ix (inH z)) (sgn v * nI j))), (0, .ref (ad 0)), (1, .int v), (2, .int (inH z)), (3, .int (bI (fwdB z (10 + ix (inH z))))), (4, .int u), (5, .int am), (6, .int ru), (7, .int (sgn v))]) hx hb dL_found_329 hl (by decide) rfl (fun ls hl => ?_)
                          refine lv_goto (tgt := 135) hx hb dL_found_331 (by decide) ?_
                          exact ih (j + 1) (by omega) _ _ hP hS ls (lv_sub hl [4, 5, 6, 7, 8, 9, 10, 11, 0] rfl)
                        · -- 319 not taken
                          exact absurd ((congrArg (ampF z (10 + ix (inH z))) c_312).trans ham.symm) c_319
                    · -- 303 not taken
                      exact absurd (hr2.trans (if_pos (al_t c_202))) c_303
                · -- 265 not taken
                  have c_265n := i_lt_f c_265
                  have hjN : j ≤ N := nI_gtf (by omega) (by omega) c_265
                  have haw := aw_t (aw_all hI hi4 hv (j := j) (by rw [← hN]; exact hjN))
                  refine lv_iload hx hb dL_found_268 (lv_at hl 1 rfl) ?_
                  refine lv_if_ne (tgt := 306) hx hb dL_found_270 (by decide) (fun c_270 => ?_) (fun c_270 => ?_)
                  · -- 270 taken
                    exact absurd haw.1 c_202
                  · -- 270 not taken
                    exact absurd c_270 (by decide)
              · -- 218 not taken
                have hw2 := now1_eq c_218
                refine lv_iload hx hb dL_found_221 (lv_at hl 10 rfl) ?_
                refine lv_iload hx hb dL_found_223 (lv_at hl 1 rfl) ?_
                refine lv_aload_n hx hb dL_found_225 rfl (lv_at hl 2 rfl) ?_
                refine lv_iconst (v := 4) hx hb dL_found_226 rfl ?_
                refine qVi (As := [.int 4]) (rest := [.int (ampF z (10 + ix (inH z)) (sgn v * nI j)), .int (sgn v * nI j)]) hx hb hml hown hts (kX3_now l g z hj 4) gL_found_X3_now rfl 1 hdX3_now rfl ⟨Nat.le_of_ble_eq_true rfl, Nat.le_of_ble_eq_true rfl⟩ ⟨Nat.zero_le _, Nat.zero_le _⟩ hK hP hS (fun _ h => h) 0 3 rfl rfl rfl hl.1 rfl (Nat.le_of_ble_eq_true rfl) dL_found_227 (fun H locs hP hS => ?_)
                refine lv_nm (y := z 0 2) (now_4 z) ?_
                refine lv_imul hx hb dL_found_230 ?_
                refine lv_sipush (v := 1000) hx hb dL_found_231 (by decide) ?_
                refine qSi (As := [.int ((ampF z (10 + ix (inH z)) (sgn v * nI j)) * (z 0 2)), .int 1000]) (rest := [.int (sgn v * nI j)]) hx hb hml hown hts (kL_cut l g (Wd := (WX g ad)) (A := (adOf 15 ad)) z ((ampF z (10 + ix (inH z)) (sgn v * nI j)) * (z 0 2)) 1000 (by decide)) gL_found_L_cut rfl 2 hdL_cut rfl ⟨Nat.le_of_ble_eq_true rfl, Nat.le_of_ble_eq_true rfl⟩ ⟨Nat.zero_le _, Nat.zero_le _⟩ hK hP hS (fun _ h => h) hl.1 rfl (Nat.le_of_ble_eq_true rfl) dL_found_234 (fun H locs hP hS => ?_)
                refine lv_nm (y := dropF z (ampF z (10 + ix (inH z)) (sgn v * nI j))) rfl ?_
                refine lv_iadd hx hb dL_found_237 ?_
                refine qSi (As := [.int ((sgn v * nI j) + (dropF z (ampF z (10 + ix (inH z)) (sgn v * nI j))))]) (rest := []) hx hb hml hown hts (kL_size l g (Wd := (WX g ad)) (A := (adOf 15 ad)) z ((sgn v * nI j) + (dropF z (ampF z (10 + ix (inH z)) (sgn v * nI j))))) gL_found_L_size rfl 1 hdL_size rfl ⟨Nat.le_of_ble_eq_true rfl, Nat.le_of_ble_eq_true rfl⟩ ⟨Nat.zero_le _, Nat.zero_le _⟩ hK hP hS (fun _ h => h) hl.1 rfl (Nat.le_of_ble_eq_true rfl) dL_found_238 (fun H locs hP hS => ?_)
                refine lv_iload_n hx hb dL_found_241 rfl (lv_at hl 3 rfl) ?_
                refine qSi (As := [.int v]) (rest := [.int (absI ((sgn v * nI j) + (dropF z (ampF z (10 + ix (inH z)) (sgn v * nI j)))))]) hx hb hml hown hts (kL_size l g (Wd := (WX g ad)) (A := (adOf 15 ad)) z v) gL_found_L_size rfl 1 hdL_size rfl ⟨Nat.le_of_ble_eq_true rfl, Nat.le_of_ble_eq_true rfl⟩ ⟨Nat.zero_le _, Nat.zero_le _⟩ hK hP hS (fun _ h => h) hl.1 rfl (Nat.le_of_ble_eq_true rfl) dL_found_242 (fun H locs hP hS => ?_)
                refine lv_icmp_le (tgt := 252) hx hb dL_found_245 (by decide) (fun c_245 => ?_) (fun c_245 => ?_)
                · -- 245 taken
                  have c_245n := i_le_t c_245
                  refine lv_iconst (v := 0) hx hb dL_found_252 rfl ?_
                  refine lv_istore (lv' := [(11, .int 0), (10, .int 1), (9, .int (ampF z (10 + ix (inH z)) (sgn v * nI j))), (0, .ref (ad 0)), (1, .int v), (2, .int (inH z)), (3, .int (bI (fwdB z (10 + ix (inH z))))), (4, .int u), (5, .int am), (6, .int ru), (7, .int (sgn v)), (8, .int (sgn v * nI j))]) hx hb dL_found_253 hl (by decide) rfl (fun ls hl => ?_)
                  refine lv_iload hx hb dL_found_255 (lv_at hl 11 rfl) ?_
                  refine qSi (As := [.int (sgn v * nI j)]) (rest := []) hx hb hml hown hts (kL_size l g (Wd := (WX g ad)) (A := (adOf 15 ad)) z (sgn v * nI j)) gL_found_L_size rfl 1 hdL_size rfl ⟨Nat.le_of_ble_eq_true rfl, Nat.le_of_ble_eq_true rfl⟩ ⟨Nat.zero_le _, Nat.zero_le _⟩ hK hP hS (fun _ h => h) hl.1 rfl (Nat.le_of_ble_eq_true rfl) dL_found_257 (fun H locs hP hS => ?_)
                  refine lv_nm (y := nI j) (abs_sg (by omega)) ?_
                  refine lv_iload hx hb dL_found_260 (lv_at hl 7 rfl) ?_
                  refine qSi (As := [.int u]) (rest := [.int (nI j)]) hx hb hml hown hts (kL_size l g (Wd := (WX g ad)) (A := (adOf 15 ad)) z u) gL_found_L_size rfl 1 hdL_size rfl ⟨Nat.le_of_ble_eq_true rfl, Nat.le_of_ble_eq_true rfl⟩ ⟨Nat.zero_le _, Nat.zero_le _⟩ hK hP hS (fun _ h => h) hl.1 rfl (Nat.le_of_ble_eq_true rfl) dL_found_262 (fun H locs hP hS => ?_)
                  refine lv_nm (y := nI N) hs3 ?_
                  refine lv_icmp_gt (tgt := 281) hx hb dL_found_265 (by decide) (fun c_265 => ?_) (fun c_265 => ?_)
                  · -- 265 taken
                    have c_265n := i_lt_t c_265
                    have hjN : N < j := nI_gtt (by omega) (by omega) c_265
                    have hje : j = N + 1 := by omega
                    have haw := hnx (by omega)
                    rw [← hje] at haw
                    have hr2 := hrn (by omega)
                    rw [← hje] at hr2
                    refine lv_iload hx hb dL_found_281 (lv_at hl 9 rfl) ?_
                    refine lv_iload hx hb dL_found_283 (lv_at hl 1 rfl) ?_
                    refine lv_if_eq (tgt := 292) hx hb dL_found_285 (by decide) (fun c_285 => ?_) (fun c_285 => ?_)
                    · -- 285 taken
                      exact absurd c_285 (by decide)
                    · -- 285 not taken
                      refine lv_iconst (v := 1) hx hb dL_found_288 rfl ?_
                      refine lv_goto (tgt := 303) hx hb dL_found_289 (by decide) ?_
                      refine lv_icmp_eq (tgt := 308) hx hb dL_found_303 (by decide) (fun c_303 => ?_) (fun c_303 => ?_)
                      · -- 303 taken
                        refine lv_iload hx hb dL_found_308 (lv_at hl 11 rfl) ?_
                        refine lv_iload hx hb dL_found_310 (lv_at hl 7 rfl) ?_
                        refine lv_icmp_ne (tgt := 324) hx hb dL_found_312 (by decide) (fun c_312 => ?_) (fun c_312 => ?_)
                        · -- 312 taken
                          refine lv_iload hx hb dL_found_324 (lv_at hl 11 rfl) ?_
                          refine lv_iload hx hb dL_found_326 (lv_at hl 10 rfl) ?_
                          refine lv_iadd hx hb dL_found_328 ?_
                          refine lv_nm (y := sgn v * nI (j + 1)) (sg_succ v j) ?_
                          refine lv_istore (lv' := [(8, .int (sgn v * nI (j + 1))), (11, .int 0), (10, .int 1), (9, .int (ampF z (10 + ix (inH z)) (sgn v * nI j))), (0, .ref (ad 0)), (1, .int v), (2, .int (inH z)), (3, .int (bI (fwdB z (10 + ix (inH z))))), (4, .int u), (5, .int am), (6, .int ru), (7, .int (sgn v))]) hx hb dL_found_329 hl (by decide) rfl (fun ls hl => ?_)
                          refine lv_goto (tgt := 135) hx hb dL_found_331 (by decide) ?_
                          exact ih (j + 1) (by omega) _ _ hP hS ls (lv_sub hl [4, 5, 6, 7, 8, 9, 10, 11, 0] rfl)
                        · -- 312 not taken
                          refine lv_iload hx hb dL_found_315 (lv_at hl 2 rfl) ?_
                          refine lv_iload hx hb dL_found_317 (lv_at hl 8 rfl) ?_
                          refine lv_icmp_eq (tgt := 324) hx hb dL_found_319 (by decide) (fun c_319 => ?_) (fun c_319 => ?_)
                          · -- 319 taken
                            refine lv_iload hx hb dL_found_324 (lv_at hl 11 rfl) ?_
                            refine lv_iload hx hb dL_found_326 (lv_at hl 10 rfl) ?_
                            refine lv_iadd hx hb dL_found_328 ?_
                            refine lv_nm (y := sgn v * nI (j + 1)) (sg_succ v j) ?_
                            refine lv_istore (lv' := [(8, .int (sgn v * nI (j + 1))), (11, .int 0), (10, .int 1), (9, .int (ampF z (10 + ix (inH z)) (sgn v * nI j))), (0, .ref (ad 0)), (1, .int v), (2, .int (inH z)), (3, .int (bI (fwdB z (10 + ix (inH z))))), (4, .int u), (5, .int am), (6, .int ru), (7, .int (sgn v))]) hx hb dL_found_329 hl (by decide) rfl (fun ls hl => ?_)
                            refine lv_goto (tgt := 135) hx hb dL_found_331 (by decide) ?_
                            exact ih (j + 1) (by omega) _ _ hP hS ls (lv_sub hl [4, 5, 6, 7, 8, 9, 10, 11, 0] rfl)
                          · -- 319 not taken
                            exact absurd ((congrArg (ampF z (10 + ix (inH z))) c_312).trans ham.symm) c_319
                      · -- 303 not taken
                        exact absurd (hr2.trans (if_pos (al_t c_202))) c_303
                  · -- 265 not taken
                    have c_265n := i_lt_f c_265
                    have hjN : j ≤ N := nI_gtf (by omega) (by omega) c_265
                    have haw := aw_t (aw_all hI hi4 hv (j := j) (by rw [← hN]; exact hjN))
                    refine lv_iload hx hb dL_found_268 (lv_at hl 1 rfl) ?_
                    refine lv_if_ne (tgt := 306) hx hb dL_found_270 (by decide) (fun c_270 => ?_) (fun c_270 => ?_)
                    · -- 270 taken
                      exact absurd haw.1 c_202
                    · -- 270 not taken
                      exact absurd c_270 (by decide)
                · -- 245 not taken
                  have c_245n := i_le_f c_245
                  refine lv_iconst (v := 1) hx hb dL_found_248 rfl ?_
                  refine lv_goto (tgt := 253) hx hb dL_found_249 (by decide) ?_
                  refine lv_istore (lv' := [(11, .int 1), (10, .int 1), (9, .int (ampF z (10 + ix (inH z)) (sgn v * nI j))), (0, .ref (ad 0)), (1, .int v), (2, .int (inH z)), (3, .int (bI (fwdB z (10 + ix (inH z))))), (4, .int u), (5, .int am), (6, .int ru), (7, .int (sgn v)), (8, .int (sgn v * nI j))]) hx hb dL_found_253 hl (by decide) rfl (fun ls hl => ?_)
                  refine lv_iload hx hb dL_found_255 (lv_at hl 11 rfl) ?_
                  refine qSi (As := [.int (sgn v * nI j)]) (rest := []) hx hb hml hown hts (kL_size l g (Wd := (WX g ad)) (A := (adOf 15 ad)) z (sgn v * nI j)) gL_found_L_size rfl 1 hdL_size rfl ⟨Nat.le_of_ble_eq_true rfl, Nat.le_of_ble_eq_true rfl⟩ ⟨Nat.zero_le _, Nat.zero_le _⟩ hK hP hS (fun _ h => h) hl.1 rfl (Nat.le_of_ble_eq_true rfl) dL_found_257 (fun H locs hP hS => ?_)
                  refine lv_nm (y := nI j) (abs_sg (by omega)) ?_
                  refine lv_iload hx hb dL_found_260 (lv_at hl 7 rfl) ?_
                  refine qSi (As := [.int u]) (rest := [.int (nI j)]) hx hb hml hown hts (kL_size l g (Wd := (WX g ad)) (A := (adOf 15 ad)) z u) gL_found_L_size rfl 1 hdL_size rfl ⟨Nat.le_of_ble_eq_true rfl, Nat.le_of_ble_eq_true rfl⟩ ⟨Nat.zero_le _, Nat.zero_le _⟩ hK hP hS (fun _ h => h) hl.1 rfl (Nat.le_of_ble_eq_true rfl) dL_found_262 (fun H locs hP hS => ?_)
                  refine lv_nm (y := nI N) hs3 ?_
                  refine lv_icmp_gt (tgt := 281) hx hb dL_found_265 (by decide) (fun c_265 => ?_) (fun c_265 => ?_)
                  · -- 265 taken
                    have c_265n := i_lt_t c_265
                    have hjN : N < j := nI_gtt (by omega) (by omega) c_265
                    have hje : j = N + 1 := by omega
                    have haw := hnx (by omega)
                    rw [← hje] at haw
                    have hr2 := hrn (by omega)
                    rw [← hje] at hr2
                    refine lv_iload hx hb dL_found_281 (lv_at hl 9 rfl) ?_
                    refine lv_iload hx hb dL_found_283 (lv_at hl 1 rfl) ?_
                    refine lv_if_eq (tgt := 292) hx hb dL_found_285 (by decide) (fun c_285 => ?_) (fun c_285 => ?_)
                    · -- 285 taken
                      exact absurd c_285 (by decide)
                    · -- 285 not taken
                      refine lv_iconst (v := 1) hx hb dL_found_288 rfl ?_
                      refine lv_goto (tgt := 303) hx hb dL_found_289 (by decide) ?_
                      refine lv_icmp_eq (tgt := 308) hx hb dL_found_303 (by decide) (fun c_303 => ?_) (fun c_303 => ?_)
                      · -- 303 taken
                        refine lv_iload hx hb dL_found_308 (lv_at hl 11 rfl) ?_
                        refine lv_iload hx hb dL_found_310 (lv_at hl 7 rfl) ?_
                        refine lv_icmp_ne (tgt := 324) hx hb dL_found_312 (by decide) (fun c_312 => ?_) (fun c_312 => ?_)
                        · -- 312 taken
                          refine lv_iload hx hb dL_found_324 (lv_at hl 11 rfl) ?_
                          refine lv_iload hx hb dL_found_326 (lv_at hl 10 rfl) ?_
                          refine lv_iadd hx hb dL_found_328 ?_
                          refine lv_nm (y := sgn v * nI (j + 1)) (sg_succ v j) ?_
                          refine lv_istore (lv' := [(8, .int (sgn v * nI (j + 1))), (11, .int 1), (10, .int 1), (9, .int (ampF z (10 + ix (inH z)) (sgn v * nI j))), (0, .ref (ad 0)), (1, .int v), (2, .int (inH z)), (3, .int (bI (fwdB z (10 + ix (inH z))))), (4, .int u), (5, .int am), (6, .int ru), (7, .int (sgn v))]) hx hb dL_found_329 hl (by decide) rfl (fun ls hl => ?_)
                          refine lv_goto (tgt := 135) hx hb dL_found_331 (by decide) ?_
                          exact ih (j + 1) (by omega) _ _ hP hS ls (lv_sub hl [4, 5, 6, 7, 8, 9, 10, 11, 0] rfl)
                        · -- 312 not taken
                          refine lv_iload hx hb dL_found_315 (lv_at hl 2 rfl) ?_
                          refine lv_iload hx hb dL_found_317 (lv_at hl 8 rfl) ?_
                          refine lv_icmp_eq (tgt := 324) hx hb dL_found_319 (by decide) (fun c_319 => ?_) (fun c_319 => ?_)
                          · -- 319 taken
                            refine lv_iload hx hb dL_found_324 (lv_at hl 11 rfl) ?_
                            refine lv_iload hx hb dL_found_326 (lv_at hl 10 rfl) ?_
                            refine lv_iadd hx hb dL_found_328 ?_
                            refine lv_nm (y := sgn v * nI (j + 1)) (sg_succ v j) ?_
                            refine lv_istore (lv' := [(8, .int (sgn v * nI (j + 1))), (11, .int 1), (10, .int 1), (9, .int (ampF z (10 + ix (inH z)) (sgn v * nI j))), (0, .ref (ad 0)), (1, .int v), (2, .int (inH z)), (3, .int (bI (fwdB z (10 + ix (inH z))))), (4, .int u), (5, .int am), (6, .int ru), (7, .int (sgn v))]) hx hb dL_found_329 hl (by decide) rfl (fun ls hl => ?_)
                            refine lv_goto (tgt := 135) hx hb dL_found_331 (by decide) ?_
                            exact ih (j + 1) (by omega) _ _ hP hS ls (lv_sub hl [4, 5, 6, 7, 8, 9, 10, 11, 0] rfl)
                          · -- 319 not taken
                            exact absurd ((congrArg (ampF z (10 + ix (inH z))) c_312).trans ham.symm) c_319
                      · -- 303 not taken
                        exact absurd (hr2.trans (if_pos (al_t c_202))) c_303
                  · -- 265 not taken
                    have c_265n := i_lt_f c_265
                    have hjN : j ≤ N := nI_gtf (by omega) (by omega) c_265
                    have haw := aw_t (aw_all hI hi4 hv (j := j) (by rw [← hN]; exact hjN))
                    refine lv_iload hx hb dL_found_268 (lv_at hl 1 rfl) ?_
                    refine lv_if_ne (tgt := 306) hx hb dL_found_270 (by decide) (fun c_270 => ?_) (fun c_270 => ?_)
                    · -- 270 taken
                      exact absurd haw.1 c_202
                    · -- 270 not taken
                      exact absurd c_270 (by decide)
          · -- 163 not taken
            have c_163 := bI_n c_163
            refine lv_aload_n hx hb dL_found_166 rfl (lv_at hl 0 rfl) ?_
            refine lv_iload_n hx hb dL_found_167 rfl (lv_at hl 2 rfl) ?_
            refine lv_iload hx hb dL_found_168 (lv_at hl 8 rfl) ?_
            refine qVi (As := [.int (inH z), .int (sgn v * nI j)]) (rest := []) hx hb hml hown hts (kX3_amps l g z hj (inH z) (sgn v * nI j)) gL_found_X3_amps rfl 2 hdX3_amps rfl ⟨Nat.le_of_ble_eq_true rfl, Nat.le_of_ble_eq_true rfl⟩ ⟨Nat.zero_le _, Nat.zero_le _⟩ hK hP hS (fun _ h => h) 0 3 rfl rfl rfl hl.1 rfl (Nat.le_of_ble_eq_true rfl) dL_found_170 (fun H locs hP hS => ?_)
            refine lv_ldc (v := 50000) hx hb hown (hts (.constant RL 25 (50000)) (by decide +kernel)) dL_found_173 ?_
            refine lv_isub hx hb dL_found_175 ?_
            refine lv_goto (tgt := 190) hx hb dL_found_176 (by decide) ?_
            refine lv_nm (y := ampF z (10 + ix (inH z)) (sgn v * nI j)) (amps_f hI hn hat (fwd_t c_163)) ?_
            refine lv_istore (lv' := [(9, .int (ampF z (10 + ix (inH z)) (sgn v * nI j))), (0, .ref (ad 0)), (1, .int v), (2, .int (inH z)), (3, .int (bI (fwdB z (10 + ix (inH z))))), (4, .int u), (5, .int am), (6, .int ru), (7, .int (sgn v)), (8, .int (sgn v * nI j))]) hx hb dL_found_190 hl (by decide) rfl (fun ls hl => ?_)
            refine lv_iload hx hb dL_found_192 (lv_at hl 0 rfl) ?_
            refine qSi (As := [.int (ampF z (10 + ix (inH z)) (sgn v * nI j))]) (rest := []) hx hb hml hown hts (kL_size l g (Wd := (WX g ad)) (A := (adOf 15 ad)) z (ampF z (10 + ix (inH z)) (sgn v * nI j))) gL_found_L_size rfl 1 hdL_size rfl ⟨Nat.le_of_ble_eq_true rfl, Nat.le_of_ble_eq_true rfl⟩ ⟨Nat.zero_le _, Nat.zero_le _⟩ hK hP hS (fun _ h => h) hl.1 rfl (Nat.le_of_ble_eq_true rfl) dL_found_194 (fun H locs hP hS => ?_)
            refine lv_aload_n hx hb dL_found_197 rfl (lv_at hl 1 rfl) ?_
            refine lv_iconst (v := 3) hx hb dL_found_198 rfl ?_
            refine qVi (As := [.int 3]) (rest := [.int (absI (ampF z (10 + ix (inH z)) (sgn v * nI j)))]) hx hb hml hown hts (kX3_now l g z hj 3) gL_found_X3_now rfl 1 hdX3_now rfl ⟨Nat.le_of_ble_eq_true rfl, Nat.le_of_ble_eq_true rfl⟩ ⟨Nat.zero_le _, Nat.zero_le _⟩ hK hP hS (fun _ h => h) 0 3 rfl rfl rfl hl.1 rfl (Nat.le_of_ble_eq_true rfl) dL_found_199 (fun H locs hP hS => ?_)
            refine lv_nm (y := z 0 1) (now_3 z) ?_
            refine lv_icmp_le (tgt := 209) hx hb dL_found_202 (by decide) (fun c_202 => ?_) (fun c_202 => ?_)
            · -- 202 taken
              have c_202n := i_le_t c_202
              refine lv_iconst (v := 0) hx hb dL_found_209 rfl ?_
              refine lv_istore (lv' := [(10, .int 0), (9, .int (ampF z (10 + ix (inH z)) (sgn v * nI j))), (0, .ref (ad 0)), (1, .int v), (2, .int (inH z)), (3, .int (bI (fwdB z (10 + ix (inH z))))), (4, .int u), (5, .int am), (6, .int ru), (7, .int (sgn v)), (8, .int (sgn v * nI j))]) hx hb dL_found_210 hl (by decide) rfl (fun ls hl => ?_)
              refine lv_aload_n hx hb dL_found_212 rfl (lv_at hl 2 rfl) ?_
              refine lv_iconst (v := 1) hx hb dL_found_213 rfl ?_
              refine qVi (As := [.int 1]) (rest := []) hx hb hml hown hts (kX3_now l g z hj 1) gL_found_X3_now rfl 1 hdX3_now rfl ⟨Nat.le_of_ble_eq_true rfl, Nat.le_of_ble_eq_true rfl⟩ ⟨Nat.zero_le _, Nat.zero_le _⟩ hK hP hS (fun _ h => h) 0 3 rfl rfl rfl hl.1 rfl (Nat.le_of_ble_eq_true rfl) dL_found_214 (fun H locs hP hS => ?_)
              refine lv_iconst (v := 2) hx hb dL_found_217 rfl ?_
              refine lv_icmp_ne (tgt := 252) hx hb dL_found_218 (by decide) (fun c_218 => ?_) (fun c_218 => ?_)
              · -- 218 taken
                have hw4 := now1_ne c_218
                refine lv_iconst (v := 0) hx hb dL_found_252 rfl ?_
                refine lv_istore (lv' := [(11, .int 0), (10, .int 0), (9, .int (ampF z (10 + ix (inH z)) (sgn v * nI j))), (0, .ref (ad 0)), (1, .int v), (2, .int (inH z)), (3, .int (bI (fwdB z (10 + ix (inH z))))), (4, .int u), (5, .int am), (6, .int ru), (7, .int (sgn v)), (8, .int (sgn v * nI j))]) hx hb dL_found_253 hl (by decide) rfl (fun ls hl => ?_)
                refine lv_iload hx hb dL_found_255 (lv_at hl 11 rfl) ?_
                refine qSi (As := [.int (sgn v * nI j)]) (rest := []) hx hb hml hown hts (kL_size l g (Wd := (WX g ad)) (A := (adOf 15 ad)) z (sgn v * nI j)) gL_found_L_size rfl 1 hdL_size rfl ⟨Nat.le_of_ble_eq_true rfl, Nat.le_of_ble_eq_true rfl⟩ ⟨Nat.zero_le _, Nat.zero_le _⟩ hK hP hS (fun _ h => h) hl.1 rfl (Nat.le_of_ble_eq_true rfl) dL_found_257 (fun H locs hP hS => ?_)
                refine lv_nm (y := nI j) (abs_sg (by omega)) ?_
                refine lv_iload hx hb dL_found_260 (lv_at hl 7 rfl) ?_
                refine qSi (As := [.int u]) (rest := [.int (nI j)]) hx hb hml hown hts (kL_size l g (Wd := (WX g ad)) (A := (adOf 15 ad)) z u) gL_found_L_size rfl 1 hdL_size rfl ⟨Nat.le_of_ble_eq_true rfl, Nat.le_of_ble_eq_true rfl⟩ ⟨Nat.zero_le _, Nat.zero_le _⟩ hK hP hS (fun _ h => h) hl.1 rfl (Nat.le_of_ble_eq_true rfl) dL_found_262 (fun H locs hP hS => ?_)
                refine lv_nm (y := nI N) hs3 ?_
                refine lv_icmp_gt (tgt := 281) hx hb dL_found_265 (by decide) (fun c_265 => ?_) (fun c_265 => ?_)
                · -- 265 taken
                  have c_265n := i_lt_t c_265
                  have hjN : N < j := nI_gtt (by omega) (by omega) c_265
                  have hje : j = N + 1 := by omega
                  have haw := hnx (by omega)
                  rw [← hje] at haw
                  have hr2 := hrn (by omega)
                  rw [← hje] at hr2
                  refine lv_iload hx hb dL_found_281 (lv_at hl 9 rfl) ?_
                  refine lv_iload hx hb dL_found_283 (lv_at hl 1 rfl) ?_
                  refine lv_if_eq (tgt := 292) hx hb dL_found_285 (by decide) (fun c_285 => ?_) (fun c_285 => ?_)
                  · -- 285 taken
                    refine lv_iload hx hb dL_found_292 (lv_at hl 0 rfl) ?_
                    refine lv_if_eq (tgt := 301) hx hb dL_found_294 (by decide) (fun c_294 => ?_) (fun c_294 => ?_)
                    · -- 294 taken
                      exact (aw_f haw c_202 (Or.inl hw4)).elim
                    · -- 294 not taken
                      exact absurd c_285 c_294
                  · -- 285 not taken
                    exact absurd rfl c_285
                · -- 265 not taken
                  have c_265n := i_lt_f c_265
                  have hjN : j ≤ N := nI_gtf (by omega) (by omega) c_265
                  have haw := aw_t (aw_all hI hi4 hv (j := j) (by rw [← hN]; exact hjN))
                  refine lv_iload hx hb dL_found_268 (lv_at hl 1 rfl) ?_
                  refine lv_if_ne (tgt := 306) hx hb dL_found_270 (by decide) (fun c_270 => ?_) (fun c_270 => ?_)
                  · -- 270 taken
                    exact absurd rfl c_270
                  · -- 270 not taken
                    refine lv_iload hx hb dL_found_273 (lv_at hl 0 rfl) ?_
                    refine lv_if_eq (tgt := 308) hx hb dL_found_275 (by decide) (fun c_275 => ?_) (fun c_275 => ?_)
                    · -- 275 taken
                      refine lv_iload hx hb dL_found_308 (lv_at hl 11 rfl) ?_
                      refine lv_iload hx hb dL_found_310 (lv_at hl 7 rfl) ?_
                      refine lv_icmp_ne (tgt := 324) hx hb dL_found_312 (by decide) (fun c_312 => ?_) (fun c_312 => ?_)
                      · -- 312 taken
                        refine lv_iload hx hb dL_found_324 (lv_at hl 11 rfl) ?_
                        refine lv_iload hx hb dL_found_326 (lv_at hl 10 rfl) ?_
                        refine lv_iadd hx hb dL_found_328 ?_
                        refine lv_nm (y := sgn v * nI (j + 1)) (sg_succ v j) ?_
                        refine lv_istore (lv' := [(8, .int (sgn v * nI (j + 1))), (11, .int 0), (10, .int 0), (9, .int (ampF z (10 + ix (inH z)) (sgn v * nI j))), (0, .ref (ad 0)), (1, .int v), (2, .int (inH z)), (3, .int (bI (fwdB z (10 + ix (inH z))))), (4, .int u), (5, .int am), (6, .int ru), (7, .int (sgn v))]) hx hb dL_found_329 hl (by decide) rfl (fun ls hl => ?_)
                        refine lv_goto (tgt := 135) hx hb dL_found_331 (by decide) ?_
                        exact ih (j + 1) (by omega) _ _ hP hS ls (lv_sub hl [4, 5, 6, 7, 8, 9, 10, 11, 0] rfl)
                      · -- 312 not taken
                        refine lv_iload hx hb dL_found_315 (lv_at hl 2 rfl) ?_
                        refine lv_iload hx hb dL_found_317 (lv_at hl 8 rfl) ?_
                        refine lv_icmp_eq (tgt := 324) hx hb dL_found_319 (by decide) (fun c_319 => ?_) (fun c_319 => ?_)
                        · -- 319 taken
                          refine lv_iload hx hb dL_found_324 (lv_at hl 11 rfl) ?_
                          refine lv_iload hx hb dL_found_326 (lv_at hl 10 rfl) ?_
                          refine lv_iadd hx hb dL_found_328 ?_
                          refine lv_nm (y := sgn v * nI (j + 1)) (sg_succ v j) ?_
                          refine lv_istore (lv' := [(8, .int (sgn v * nI (j + 1))), (11, .int 0), (10, .int 0), (9, .int (ampF z (10 + ix (inH z)) (sgn v * nI j))), (0, .ref (ad 0)), (1, .int v), (2, .int (inH z)), (3, .int (bI (fwdB z (10 + ix (inH z))))), (4, .int u), (5, .int am), (6, .int ru), (7, .int (sgn v))]) hx hb dL_found_329 hl (by decide) rfl (fun ls hl => ?_)
                          refine lv_goto (tgt := 135) hx hb dL_found_331 (by decide) ?_
                          exact ih (j + 1) (by omega) _ _ hP hS ls (lv_sub hl [4, 5, 6, 7, 8, 9, 10, 11, 0] rfl)
                        · -- 319 not taken
                          exact absurd ((congrArg (ampF z (10 + ix (inH z))) c_312).trans ham.symm) c_319
                    · -- 275 not taken
                      exact absurd c_270 c_275
              · -- 218 not taken
                have hw2 := now1_eq c_218
                refine lv_iload hx hb dL_found_221 (lv_at hl 10 rfl) ?_
                refine lv_iload hx hb dL_found_223 (lv_at hl 1 rfl) ?_
                refine lv_aload_n hx hb dL_found_225 rfl (lv_at hl 2 rfl) ?_
                refine lv_iconst (v := 4) hx hb dL_found_226 rfl ?_
                refine qVi (As := [.int 4]) (rest := [.int (ampF z (10 + ix (inH z)) (sgn v * nI j)), .int (sgn v * nI j)]) hx hb hml hown hts (kX3_now l g z hj 4) gL_found_X3_now rfl 1 hdX3_now rfl ⟨Nat.le_of_ble_eq_true rfl, Nat.le_of_ble_eq_true rfl⟩ ⟨Nat.zero_le _, Nat.zero_le _⟩ hK hP hS (fun _ h => h) 0 3 rfl rfl rfl hl.1 rfl (Nat.le_of_ble_eq_true rfl) dL_found_227 (fun H locs hP hS => ?_)
                refine lv_nm (y := z 0 2) (now_4 z) ?_
                refine lv_imul hx hb dL_found_230 ?_
                refine lv_sipush (v := 1000) hx hb dL_found_231 (by decide) ?_
                refine qSi (As := [.int ((ampF z (10 + ix (inH z)) (sgn v * nI j)) * (z 0 2)), .int 1000]) (rest := [.int (sgn v * nI j)]) hx hb hml hown hts (kL_cut l g (Wd := (WX g ad)) (A := (adOf 15 ad)) z ((ampF z (10 + ix (inH z)) (sgn v * nI j)) * (z 0 2)) 1000 (by decide)) gL_found_L_cut rfl 2 hdL_cut rfl ⟨Nat.le_of_ble_eq_true rfl, Nat.le_of_ble_eq_true rfl⟩ ⟨Nat.zero_le _, Nat.zero_le _⟩ hK hP hS (fun _ h => h) hl.1 rfl (Nat.le_of_ble_eq_true rfl) dL_found_234 (fun H locs hP hS => ?_)
                refine lv_nm (y := dropF z (ampF z (10 + ix (inH z)) (sgn v * nI j))) rfl ?_
                refine lv_iadd hx hb dL_found_237 ?_
                refine qSi (As := [.int ((sgn v * nI j) + (dropF z (ampF z (10 + ix (inH z)) (sgn v * nI j))))]) (rest := []) hx hb hml hown hts (kL_size l g (Wd := (WX g ad)) (A := (adOf 15 ad)) z ((sgn v * nI j) + (dropF z (ampF z (10 + ix (inH z)) (sgn v * nI j))))) gL_found_L_size rfl 1 hdL_size rfl ⟨Nat.le_of_ble_eq_true rfl, Nat.le_of_ble_eq_true rfl⟩ ⟨Nat.zero_le _, Nat.zero_le _⟩ hK hP hS (fun _ h => h) hl.1 rfl (Nat.le_of_ble_eq_true rfl) dL_found_238 (fun H locs hP hS => ?_)
                refine lv_iload_n hx hb dL_found_241 rfl (lv_at hl 3 rfl) ?_
                refine qSi (As := [.int v]) (rest := [.int (absI ((sgn v * nI j) + (dropF z (ampF z (10 + ix (inH z)) (sgn v * nI j)))))]) hx hb hml hown hts (kL_size l g (Wd := (WX g ad)) (A := (adOf 15 ad)) z v) gL_found_L_size rfl 1 hdL_size rfl ⟨Nat.le_of_ble_eq_true rfl, Nat.le_of_ble_eq_true rfl⟩ ⟨Nat.zero_le _, Nat.zero_le _⟩ hK hP hS (fun _ h => h) hl.1 rfl (Nat.le_of_ble_eq_true rfl) dL_found_242 (fun H locs hP hS => ?_)
                refine lv_icmp_le (tgt := 252) hx hb dL_found_245 (by decide) (fun c_245 => ?_) (fun c_245 => ?_)
                · -- 245 taken
                  have c_245n := i_le_t c_245
                  refine lv_iconst (v := 0) hx hb dL_found_252 rfl ?_
                  refine lv_istore (lv' := [(11, .int 0), (10, .int 0), (9, .int (ampF z (10 + ix (inH z)) (sgn v * nI j))), (0, .ref (ad 0)), (1, .int v), (2, .int (inH z)), (3, .int (bI (fwdB z (10 + ix (inH z))))), (4, .int u), (5, .int am), (6, .int ru), (7, .int (sgn v)), (8, .int (sgn v * nI j))]) hx hb dL_found_253 hl (by decide) rfl (fun ls hl => ?_)
                  refine lv_iload hx hb dL_found_255 (lv_at hl 11 rfl) ?_
                  refine qSi (As := [.int (sgn v * nI j)]) (rest := []) hx hb hml hown hts (kL_size l g (Wd := (WX g ad)) (A := (adOf 15 ad)) z (sgn v * nI j)) gL_found_L_size rfl 1 hdL_size rfl ⟨Nat.le_of_ble_eq_true rfl, Nat.le_of_ble_eq_true rfl⟩ ⟨Nat.zero_le _, Nat.zero_le _⟩ hK hP hS (fun _ h => h) hl.1 rfl (Nat.le_of_ble_eq_true rfl) dL_found_257 (fun H locs hP hS => ?_)
                  refine lv_nm (y := nI j) (abs_sg (by omega)) ?_
                  refine lv_iload hx hb dL_found_260 (lv_at hl 7 rfl) ?_
                  refine qSi (As := [.int u]) (rest := [.int (nI j)]) hx hb hml hown hts (kL_size l g (Wd := (WX g ad)) (A := (adOf 15 ad)) z u) gL_found_L_size rfl 1 hdL_size rfl ⟨Nat.le_of_ble_eq_true rfl, Nat.le_of_ble_eq_true rfl⟩ ⟨Nat.zero_le _, Nat.zero_le _⟩ hK hP hS (fun _ h => h) hl.1 rfl (Nat.le_of_ble_eq_true rfl) dL_found_262 (fun H locs hP hS => ?_)
                  refine lv_nm (y := nI N) hs3 ?_
                  refine lv_icmp_gt (tgt := 281) hx hb dL_found_265 (by decide) (fun c_265 => ?_) (fun c_265 => ?_)
                  · -- 265 taken
                    have c_265n := i_lt_t c_265
                    have hjN : N < j := nI_gtt (by omega) (by omega) c_265
                    have hje : j = N + 1 := by omega
                    have haw := hnx (by omega)
                    rw [← hje] at haw
                    have hr2 := hrn (by omega)
                    rw [← hje] at hr2
                    refine lv_iload hx hb dL_found_281 (lv_at hl 9 rfl) ?_
                    refine lv_iload hx hb dL_found_283 (lv_at hl 1 rfl) ?_
                    refine lv_if_eq (tgt := 292) hx hb dL_found_285 (by decide) (fun c_285 => ?_) (fun c_285 => ?_)
                    · -- 285 taken
                      refine lv_iload hx hb dL_found_292 (lv_at hl 0 rfl) ?_
                      refine lv_if_eq (tgt := 301) hx hb dL_found_294 (by decide) (fun c_294 => ?_) (fun c_294 => ?_)
                      · -- 294 taken
                        exact (aw_f haw c_202 (Or.inr c_245)).elim
                      · -- 294 not taken
                        exact absurd c_285 c_294
                    · -- 285 not taken
                      exact absurd rfl c_285
                  · -- 265 not taken
                    have c_265n := i_lt_f c_265
                    have hjN : j ≤ N := nI_gtf (by omega) (by omega) c_265
                    have haw := aw_t (aw_all hI hi4 hv (j := j) (by rw [← hN]; exact hjN))
                    refine lv_iload hx hb dL_found_268 (lv_at hl 1 rfl) ?_
                    refine lv_if_ne (tgt := 306) hx hb dL_found_270 (by decide) (fun c_270 => ?_) (fun c_270 => ?_)
                    · -- 270 taken
                      exact absurd rfl c_270
                    · -- 270 not taken
                      refine lv_iload hx hb dL_found_273 (lv_at hl 0 rfl) ?_
                      refine lv_if_eq (tgt := 308) hx hb dL_found_275 (by decide) (fun c_275 => ?_) (fun c_275 => ?_)
                      · -- 275 taken
                        refine lv_iload hx hb dL_found_308 (lv_at hl 11 rfl) ?_
                        refine lv_iload hx hb dL_found_310 (lv_at hl 7 rfl) ?_
                        refine lv_icmp_ne (tgt := 324) hx hb dL_found_312 (by decide) (fun c_312 => ?_) (fun c_312 => ?_)
                        · -- 312 taken
                          refine lv_iload hx hb dL_found_324 (lv_at hl 11 rfl) ?_
                          refine lv_iload hx hb dL_found_326 (lv_at hl 10 rfl) ?_
                          refine lv_iadd hx hb dL_found_328 ?_
                          refine lv_nm (y := sgn v * nI (j + 1)) (sg_succ v j) ?_
                          refine lv_istore (lv' := [(8, .int (sgn v * nI (j + 1))), (11, .int 0), (10, .int 0), (9, .int (ampF z (10 + ix (inH z)) (sgn v * nI j))), (0, .ref (ad 0)), (1, .int v), (2, .int (inH z)), (3, .int (bI (fwdB z (10 + ix (inH z))))), (4, .int u), (5, .int am), (6, .int ru), (7, .int (sgn v))]) hx hb dL_found_329 hl (by decide) rfl (fun ls hl => ?_)
                          refine lv_goto (tgt := 135) hx hb dL_found_331 (by decide) ?_
                          exact ih (j + 1) (by omega) _ _ hP hS ls (lv_sub hl [4, 5, 6, 7, 8, 9, 10, 11, 0] rfl)
                        · -- 312 not taken
                          refine lv_iload hx hb dL_found_315 (lv_at hl 2 rfl) ?_
                          refine lv_iload hx hb dL_found_317 (lv_at hl 8 rfl) ?_
                          refine lv_icmp_eq (tgt := 324) hx hb dL_found_319 (by decide) (fun c_319 => ?_) (fun c_319 => ?_)
                          · -- 319 taken
                            refine lv_iload hx hb dL_found_324 (lv_at hl 11 rfl) ?_
                            refine lv_iload hx hb dL_found_326 (lv_at hl 10 rfl) ?_
                            refine lv_iadd hx hb dL_found_328 ?_
                            refine lv_nm (y := sgn v * nI (j + 1)) (sg_succ v j) ?_
                            refine lv_istore (lv' := [(8, .int (sgn v * nI (j + 1))), (11, .int 0), (10, .int 0), (9, .int (ampF z (10 + ix (inH z)) (sgn v * nI j))), (0, .ref (ad 0)), (1, .int v), (2, .int (inH z)), (3, .int (bI (fwdB z (10 + ix (inH z))))), (4, .int u), (5, .int am), (6, .int ru), (7, .int (sgn v))]) hx hb dL_found_329 hl (by decide) rfl (fun ls hl => ?_)
                            refine lv_goto (tgt := 135) hx hb dL_found_331 (by decide) ?_
                            exact ih (j + 1) (by omega) _ _ hP hS ls (lv_sub hl [4, 5, 6, 7, 8, 9, 10, 11, 0] rfl)
                          · -- 319 not taken
                            exact absurd ((congrArg (ampF z (10 + ix (inH z))) c_312).trans ham.symm) c_319
                      · -- 275 not taken
                        exact absurd c_270 c_275
                · -- 245 not taken
                  have c_245n := i_le_f c_245
                  refine lv_iconst (v := 1) hx hb dL_found_248 rfl ?_
                  refine lv_goto (tgt := 253) hx hb dL_found_249 (by decide) ?_
                  refine lv_istore (lv' := [(11, .int 1), (10, .int 0), (9, .int (ampF z (10 + ix (inH z)) (sgn v * nI j))), (0, .ref (ad 0)), (1, .int v), (2, .int (inH z)), (3, .int (bI (fwdB z (10 + ix (inH z))))), (4, .int u), (5, .int am), (6, .int ru), (7, .int (sgn v)), (8, .int (sgn v * nI j))]) hx hb dL_found_253 hl (by decide) rfl (fun ls hl => ?_)
                  refine lv_iload hx hb dL_found_255 (lv_at hl 11 rfl) ?_
                  refine qSi (As := [.int (sgn v * nI j)]) (rest := []) hx hb hml hown hts (kL_size l g (Wd := (WX g ad)) (A := (adOf 15 ad)) z (sgn v * nI j)) gL_found_L_size rfl 1 hdL_size rfl ⟨Nat.le_of_ble_eq_true rfl, Nat.le_of_ble_eq_true rfl⟩ ⟨Nat.zero_le _, Nat.zero_le _⟩ hK hP hS (fun _ h => h) hl.1 rfl (Nat.le_of_ble_eq_true rfl) dL_found_257 (fun H locs hP hS => ?_)
                  refine lv_nm (y := nI j) (abs_sg (by omega)) ?_
                  refine lv_iload hx hb dL_found_260 (lv_at hl 7 rfl) ?_
                  refine qSi (As := [.int u]) (rest := [.int (nI j)]) hx hb hml hown hts (kL_size l g (Wd := (WX g ad)) (A := (adOf 15 ad)) z u) gL_found_L_size rfl 1 hdL_size rfl ⟨Nat.le_of_ble_eq_true rfl, Nat.le_of_ble_eq_true rfl⟩ ⟨Nat.zero_le _, Nat.zero_le _⟩ hK hP hS (fun _ h => h) hl.1 rfl (Nat.le_of_ble_eq_true rfl) dL_found_262 (fun H locs hP hS => ?_)
                  refine lv_nm (y := nI N) hs3 ?_
                  refine lv_icmp_gt (tgt := 281) hx hb dL_found_265 (by decide) (fun c_265 => ?_) (fun c_265 => ?_)
                  · -- 265 taken
                    have c_265n := i_lt_t c_265
                    have hjN : N < j := nI_gtt (by omega) (by omega) c_265
                    have hje : j = N + 1 := by omega
                    have haw := hnx (by omega)
                    rw [← hje] at haw
                    have hr2 := hrn (by omega)
                    rw [← hje] at hr2
                    refine lv_iload hx hb dL_found_281 (lv_at hl 9 rfl) ?_
                    refine lv_iload hx hb dL_found_283 (lv_at hl 1 rfl) ?_
                    refine lv_if_eq (tgt := 292) hx hb dL_found_285 (by decide) (fun c_285 => ?_) (fun c_285 => ?_)
                    · -- 285 taken
                      refine lv_iload hx hb dL_found_292 (lv_at hl 0 rfl) ?_
                      refine lv_if_eq (tgt := 301) hx hb dL_found_294 (by decide) (fun c_294 => ?_) (fun c_294 => ?_)
                      · -- 294 taken
                        exact absurd c_294 (by decide)
                      · -- 294 not taken
                        refine lv_iconst (v := 2) hx hb dL_found_297 rfl ?_
                        refine lv_goto (tgt := 303) hx hb dL_found_298 (by decide) ?_
                        refine lv_icmp_eq (tgt := 308) hx hb dL_found_303 (by decide) (fun c_303 => ?_) (fun c_303 => ?_)
                        · -- 303 taken
                          refine lv_iload hx hb dL_found_308 (lv_at hl 11 rfl) ?_
                          refine lv_iload hx hb dL_found_310 (lv_at hl 7 rfl) ?_
                          refine lv_icmp_ne (tgt := 324) hx hb dL_found_312 (by decide) (fun c_312 => ?_) (fun c_312 => ?_)
                          · -- 312 taken
                            refine lv_iload hx hb dL_found_324 (lv_at hl 11 rfl) ?_
                            refine lv_iload hx hb dL_found_326 (lv_at hl 10 rfl) ?_
                            refine lv_iadd hx hb dL_found_328 ?_
                            refine lv_nm (y := sgn v * nI (j + 1)) (sg_succ v j) ?_
                            refine lv_istore (lv' := [(8, .int (sgn v * nI (j + 1))), (11, .int 1), (10, .int 0), (9, .int (ampF z (10 + ix (inH z)) (sgn v * nI j))), (0, .ref (ad 0)), (1, .int v), (2, .int (inH z)), (3, .int (bI (fwdB z (10 + ix (inH z))))), (4, .int u), (5, .int am), (6, .int ru), (7, .int (sgn v))]) hx hb dL_found_329 hl (by decide) rfl (fun ls hl => ?_)
                            refine lv_goto (tgt := 135) hx hb dL_found_331 (by decide) ?_
                            exact ih (j + 1) (by omega) _ _ hP hS ls (lv_sub hl [4, 5, 6, 7, 8, 9, 10, 11, 0] rfl)
                          · -- 312 not taken
                            refine lv_iload hx hb dL_found_315 (lv_at hl 2 rfl) ?_
                            refine lv_iload hx hb dL_found_317 (lv_at hl 8 rfl) ?_
                            refine lv_icmp_eq (tgt := 324) hx hb dL_found_319 (by decide) (fun c_319 => ?_) (fun c_319 => ?_)
                            · -- 319 taken
                              refine lv_iload hx hb dL_found_324 (lv_at hl 11 rfl) ?_
                              refine lv_iload hx hb dL_found_326 (lv_at hl 10 rfl) ?_
                              refine lv_iadd hx hb dL_found_328 ?_
                              refine lv_nm (y := sgn v * nI (j + 1)) (sg_succ v j) ?_
                              refine lv_istore (lv' := [(8, .int (sgn v * nI (j + 1))), (11, .int 1), (10, .int 0), (9, .int (ampF z (10 + ix (inH z)) (sgn v * nI j))), (0, .ref (ad 0)), (1, .int v), (2, .int (inH z)), (3, .int (bI (fwdB z (10 + ix (inH z))))), (4, .int u), (5, .int am), (6, .int ru), (7, .int (sgn v))]) hx hb dL_found_329 hl (by decide) rfl (fun ls hl => ?_)
                              refine lv_goto (tgt := 135) hx hb dL_found_331 (by decide) ?_
                              exact ih (j + 1) (by omega) _ _ hP hS ls (lv_sub hl [4, 5, 6, 7, 8, 9, 10, 11, 0] rfl)
                            · -- 319 not taken
                              exact absurd ((congrArg (ampF z (10 + ix (inH z))) c_312).trans ham.symm) c_319
                        · -- 303 not taken
                          exact absurd (hr2.trans (if_neg (al_f c_202))) c_303
                    · -- 285 not taken
                      exact absurd rfl c_285
                  · -- 265 not taken
                    have c_265n := i_lt_f c_265
                    have hjN : j ≤ N := nI_gtf (by omega) (by omega) c_265
                    have haw := aw_t (aw_all hI hi4 hv (j := j) (by rw [← hN]; exact hjN))
                    refine lv_iload hx hb dL_found_268 (lv_at hl 1 rfl) ?_
                    refine lv_if_ne (tgt := 306) hx hb dL_found_270 (by decide) (fun c_270 => ?_) (fun c_270 => ?_)
                    · -- 270 taken
                      exact absurd rfl c_270
                    · -- 270 not taken
                      refine lv_iload hx hb dL_found_273 (lv_at hl 0 rfl) ?_
                      refine lv_if_eq (tgt := 308) hx hb dL_found_275 (by decide) (fun c_275 => ?_) (fun c_275 => ?_)
                      · -- 275 taken
                        exact absurd c_275 (by decide)
                      · -- 275 not taken
                        refine lv_goto (tgt := 306) hx hb dL_found_278 (by decide) ?_
                        exact absurd (haw.2.resolve_left hw2) c_245
            · -- 202 not taken
              have c_202n := i_le_f c_202
              refine lv_iconst (v := 1) hx hb dL_found_205 rfl ?_
              refine lv_goto (tgt := 210) hx hb dL_found_206 (by decide) ?_
              refine lv_istore (lv' := [(10, .int 1), (9, .int (ampF z (10 + ix (inH z)) (sgn v * nI j))), (0, .ref (ad 0)), (1, .int v), (2, .int (inH z)), (3, .int (bI (fwdB z (10 + ix (inH z))))), (4, .int u), (5, .int am), (6, .int ru), (7, .int (sgn v)), (8, .int (sgn v * nI j))]) hx hb dL_found_210 hl (by decide) rfl (fun ls hl => ?_)
              refine lv_aload_n hx hb dL_found_212 rfl (lv_at hl 2 rfl) ?_
              refine lv_iconst (v := 1) hx hb dL_found_213 rfl ?_
              refine qVi (As := [.int 1]) (rest := []) hx hb hml hown hts (kX3_now l g z hj 1) gL_found_X3_now rfl 1 hdX3_now rfl ⟨Nat.le_of_ble_eq_true rfl, Nat.le_of_ble_eq_true rfl⟩ ⟨Nat.zero_le _, Nat.zero_le _⟩ hK hP hS (fun _ h => h) 0 3 rfl rfl rfl hl.1 rfl (Nat.le_of_ble_eq_true rfl) dL_found_214 (fun H locs hP hS => ?_)
              refine lv_iconst (v := 2) hx hb dL_found_217 rfl ?_
              refine lv_icmp_ne (tgt := 252) hx hb dL_found_218 (by decide) (fun c_218 => ?_) (fun c_218 => ?_)
              · -- 218 taken
                have hw4 := now1_ne c_218
                refine lv_iconst (v := 0) hx hb dL_found_252 rfl ?_
                refine lv_istore (lv' := [(11, .int 0), (10, .int 1), (9, .int (ampF z (10 + ix (inH z)) (sgn v * nI j))), (0, .ref (ad 0)), (1, .int v), (2, .int (inH z)), (3, .int (bI (fwdB z (10 + ix (inH z))))), (4, .int u), (5, .int am), (6, .int ru), (7, .int (sgn v)), (8, .int (sgn v * nI j))]) hx hb dL_found_253 hl (by decide) rfl (fun ls hl => ?_)
                refine lv_iload hx hb dL_found_255 (lv_at hl 11 rfl) ?_
                refine qSi (As := [.int (sgn v * nI j)]) (rest := []) hx hb hml hown hts (kL_size l g (Wd := (WX g ad)) (A := (adOf 15 ad)) z (sgn v * nI j)) gL_found_L_size rfl 1 hdL_size rfl ⟨Nat.le_of_ble_eq_true rfl, Nat.le_of_ble_eq_true rfl⟩ ⟨Nat.zero_le _, Nat.zero_le _⟩ hK hP hS (fun _ h => h) hl.1 rfl (Nat.le_of_ble_eq_true rfl) dL_found_257 (fun H locs hP hS => ?_)
                refine lv_nm (y := nI j) (abs_sg (by omega)) ?_
                refine lv_iload hx hb dL_found_260 (lv_at hl 7 rfl) ?_
                refine qSi (As := [.int u]) (rest := [.int (nI j)]) hx hb hml hown hts (kL_size l g (Wd := (WX g ad)) (A := (adOf 15 ad)) z u) gL_found_L_size rfl 1 hdL_size rfl ⟨Nat.le_of_ble_eq_true rfl, Nat.le_of_ble_eq_true rfl⟩ ⟨Nat.zero_le _, Nat.zero_le _⟩ hK hP hS (fun _ h => h) hl.1 rfl (Nat.le_of_ble_eq_true rfl) dL_found_262 (fun H locs hP hS => ?_)
                refine lv_nm (y := nI N) hs3 ?_
                refine lv_icmp_gt (tgt := 281) hx hb dL_found_265 (by decide) (fun c_265 => ?_) (fun c_265 => ?_)
                · -- 265 taken
                  have c_265n := i_lt_t c_265
                  have hjN : N < j := nI_gtt (by omega) (by omega) c_265
                  have hje : j = N + 1 := by omega
                  have haw := hnx (by omega)
                  rw [← hje] at haw
                  have hr2 := hrn (by omega)
                  rw [← hje] at hr2
                  refine lv_iload hx hb dL_found_281 (lv_at hl 9 rfl) ?_
                  refine lv_iload hx hb dL_found_283 (lv_at hl 1 rfl) ?_
                  refine lv_if_eq (tgt := 292) hx hb dL_found_285 (by decide) (fun c_285 => ?_) (fun c_285 => ?_)
                  · -- 285 taken
                    exact absurd c_285 (by decide)
                  · -- 285 not taken
                    refine lv_iconst (v := 1) hx hb dL_found_288 rfl ?_
                    refine lv_goto (tgt := 303) hx hb dL_found_289 (by decide) ?_
                    refine lv_icmp_eq (tgt := 308) hx hb dL_found_303 (by decide) (fun c_303 => ?_) (fun c_303 => ?_)
                    · -- 303 taken
                      refine lv_iload hx hb dL_found_308 (lv_at hl 11 rfl) ?_
                      refine lv_iload hx hb dL_found_310 (lv_at hl 7 rfl) ?_
                      refine lv_icmp_ne (tgt := 324) hx hb dL_found_312 (by decide) (fun c_312 => ?_) (fun c_312 => ?_)
                      · -- 312 taken
                        refine lv_iload hx hb dL_found_324 (lv_at hl 11 rfl) ?_
                        refine lv_iload hx hb dL_found_326 (lv_at hl 10 rfl) ?_
                        refine lv_iadd hx hb dL_found_328 ?_
                        refine lv_nm (y := sgn v * nI (j + 1)) (sg_succ v j) ?_
                        refine lv_istore (lv' := [(8, .int (sgn v * nI (j + 1))), (11, .int 0), (10, .int 1), (9, .int (ampF z (10 + ix (inH z)) (sgn v * nI j))), (0, .ref (ad 0)), (1, .int v), (2, .int (inH z)), (3, .int (bI (fwdB z (10 + ix (inH z))))), (4, .int u), (5, .int am), (6, .int ru), (7, .int (sgn v))]) hx hb dL_found_329 hl (by decide) rfl (fun ls hl => ?_)
                        refine lv_goto (tgt := 135) hx hb dL_found_331 (by decide) ?_
                        exact ih (j + 1) (by omega) _ _ hP hS ls (lv_sub hl [4, 5, 6, 7, 8, 9, 10, 11, 0] rfl)
                      · -- 312 not taken
                        refine lv_iload hx hb dL_found_315 (lv_at hl 2 rfl) ?_
                        refine lv_iload hx hb dL_found_317 (lv_at hl 8 rfl) ?_
                        refine lv_icmp_eq (tgt := 324) hx hb dL_found_319 (by decide) (fun c_319 => ?_) (fun c_319 => ?_)
                        · -- 319 taken
                          refine lv_iload hx hb dL_found_324 (lv_at hl 11 rfl) ?_
                          refine lv_iload hx hb dL_found_326 (lv_at hl 10 rfl) ?_
                          refine lv_iadd hx hb dL_found_328 ?_
                          refine lv_nm (y := sgn v * nI (j + 1)) (sg_succ v j) ?_
                          refine lv_istore (lv' := [(8, .int (sgn v * nI (j + 1))), (11, .int 0), (10, .int 1), (9, .int (ampF z (10 + ix (inH z)) (sgn v * nI j))), (0, .ref (ad 0)), (1, .int v), (2, .int (inH z)), (3, .int (bI (fwdB z (10 + ix (inH z))))), (4, .int u), (5, .int am), (6, .int ru), (7, .int (sgn v))]) hx hb dL_found_329 hl (by decide) rfl (fun ls hl => ?_)
                          refine lv_goto (tgt := 135) hx hb dL_found_331 (by decide) ?_
                          exact ih (j + 1) (by omega) _ _ hP hS ls (lv_sub hl [4, 5, 6, 7, 8, 9, 10, 11, 0] rfl)
                        · -- 319 not taken
                          exact absurd ((congrArg (ampF z (10 + ix (inH z))) c_312).trans ham.symm) c_319
                    · -- 303 not taken
                      exact absurd (hr2.trans (if_pos (al_t c_202))) c_303
                · -- 265 not taken
                  have c_265n := i_lt_f c_265
                  have hjN : j ≤ N := nI_gtf (by omega) (by omega) c_265
                  have haw := aw_t (aw_all hI hi4 hv (j := j) (by rw [← hN]; exact hjN))
                  refine lv_iload hx hb dL_found_268 (lv_at hl 1 rfl) ?_
                  refine lv_if_ne (tgt := 306) hx hb dL_found_270 (by decide) (fun c_270 => ?_) (fun c_270 => ?_)
                  · -- 270 taken
                    exact absurd haw.1 c_202
                  · -- 270 not taken
                    exact absurd c_270 (by decide)
              · -- 218 not taken
                have hw2 := now1_eq c_218
                refine lv_iload hx hb dL_found_221 (lv_at hl 10 rfl) ?_
                refine lv_iload hx hb dL_found_223 (lv_at hl 1 rfl) ?_
                refine lv_aload_n hx hb dL_found_225 rfl (lv_at hl 2 rfl) ?_
                refine lv_iconst (v := 4) hx hb dL_found_226 rfl ?_
                refine qVi (As := [.int 4]) (rest := [.int (ampF z (10 + ix (inH z)) (sgn v * nI j)), .int (sgn v * nI j)]) hx hb hml hown hts (kX3_now l g z hj 4) gL_found_X3_now rfl 1 hdX3_now rfl ⟨Nat.le_of_ble_eq_true rfl, Nat.le_of_ble_eq_true rfl⟩ ⟨Nat.zero_le _, Nat.zero_le _⟩ hK hP hS (fun _ h => h) 0 3 rfl rfl rfl hl.1 rfl (Nat.le_of_ble_eq_true rfl) dL_found_227 (fun H locs hP hS => ?_)
                refine lv_nm (y := z 0 2) (now_4 z) ?_
                refine lv_imul hx hb dL_found_230 ?_
                refine lv_sipush (v := 1000) hx hb dL_found_231 (by decide) ?_
                refine qSi (As := [.int ((ampF z (10 + ix (inH z)) (sgn v * nI j)) * (z 0 2)), .int 1000]) (rest := [.int (sgn v * nI j)]) hx hb hml hown hts (kL_cut l g (Wd := (WX g ad)) (A := (adOf 15 ad)) z ((ampF z (10 + ix (inH z)) (sgn v * nI j)) * (z 0 2)) 1000 (by decide)) gL_found_L_cut rfl 2 hdL_cut rfl ⟨Nat.le_of_ble_eq_true rfl, Nat.le_of_ble_eq_true rfl⟩ ⟨Nat.zero_le _, Nat.zero_le _⟩ hK hP hS (fun _ h => h) hl.1 rfl (Nat.le_of_ble_eq_true rfl) dL_found_234 (fun H locs hP hS => ?_)
                refine lv_nm (y := dropF z (ampF z (10 + ix (inH z)) (sgn v * nI j))) rfl ?_
                refine lv_iadd hx hb dL_found_237 ?_
                refine qSi (As := [.int ((sgn v * nI j) + (dropF z (ampF z (10 + ix (inH z)) (sgn v * nI j))))]) (rest := []) hx hb hml hown hts (kL_size l g (Wd := (WX g ad)) (A := (adOf 15 ad)) z ((sgn v * nI j) + (dropF z (ampF z (10 + ix (inH z)) (sgn v * nI j))))) gL_found_L_size rfl 1 hdL_size rfl ⟨Nat.le_of_ble_eq_true rfl, Nat.le_of_ble_eq_true rfl⟩ ⟨Nat.zero_le _, Nat.zero_le _⟩ hK hP hS (fun _ h => h) hl.1 rfl (Nat.le_of_ble_eq_true rfl) dL_found_238 (fun H locs hP hS => ?_)
                refine lv_iload_n hx hb dL_found_241 rfl (lv_at hl 3 rfl) ?_
                refine qSi (As := [.int v]) (rest := [.int (absI ((sgn v * nI j) + (dropF z (ampF z (10 + ix (inH z)) (sgn v * nI j)))))]) hx hb hml hown hts (kL_size l g (Wd := (WX g ad)) (A := (adOf 15 ad)) z v) gL_found_L_size rfl 1 hdL_size rfl ⟨Nat.le_of_ble_eq_true rfl, Nat.le_of_ble_eq_true rfl⟩ ⟨Nat.zero_le _, Nat.zero_le _⟩ hK hP hS (fun _ h => h) hl.1 rfl (Nat.le_of_ble_eq_true rfl) dL_found_242 (fun H locs hP hS => ?_)
                refine lv_icmp_le (tgt := 252) hx hb dL_found_245 (by decide) (fun c_245 => ?_) (fun c_245 => ?_)
                · -- 245 taken
                  have c_245n := i_le_t c_245
                  refine lv_iconst (v := 0) hx hb dL_found_252 rfl ?_
                  refine lv_istore (lv' := [(11, .int 0), (10, .int 1), (9, .int (ampF z (10 + ix (inH z)) (sgn v * nI j))), (0, .ref (ad 0)), (1, .int v), (2, .int (inH z)), (3, .int (bI (fwdB z (10 + ix (inH z))))), (4, .int u), (5, .int am), (6, .int ru), (7, .int (sgn v)), (8, .int (sgn v * nI j))]) hx hb dL_found_253 hl (by decide) rfl (fun ls hl => ?_)
                  refine lv_iload hx hb dL_found_255 (lv_at hl 11 rfl) ?_
                  refine qSi (As := [.int (sgn v * nI j)]) (rest := []) hx hb hml hown hts (kL_size l g (Wd := (WX g ad)) (A := (adOf 15 ad)) z (sgn v * nI j)) gL_found_L_size rfl 1 hdL_size rfl ⟨Nat.le_of_ble_eq_true rfl, Nat.le_of_ble_eq_true rfl⟩ ⟨Nat.zero_le _, Nat.zero_le _⟩ hK hP hS (fun _ h => h) hl.1 rfl (Nat.le_of_ble_eq_true rfl) dL_found_257 (fun H locs hP hS => ?_)
                  refine lv_nm (y := nI j) (abs_sg (by omega)) ?_
                  refine lv_iload hx hb dL_found_260 (lv_at hl 7 rfl) ?_
                  refine qSi (As := [.int u]) (rest := [.int (nI j)]) hx hb hml hown hts (kL_size l g (Wd := (WX g ad)) (A := (adOf 15 ad)) z u) gL_found_L_size rfl 1 hdL_size rfl ⟨Nat.le_of_ble_eq_true rfl, Nat.le_of_ble_eq_true rfl⟩ ⟨Nat.zero_le _, Nat.zero_le _⟩ hK hP hS (fun _ h => h) hl.1 rfl (Nat.le_of_ble_eq_true rfl) dL_found_262 (fun H locs hP hS => ?_)
                  refine lv_nm (y := nI N) hs3 ?_
                  refine lv_icmp_gt (tgt := 281) hx hb dL_found_265 (by decide) (fun c_265 => ?_) (fun c_265 => ?_)
                  · -- 265 taken
                    have c_265n := i_lt_t c_265
                    have hjN : N < j := nI_gtt (by omega) (by omega) c_265
                    have hje : j = N + 1 := by omega
                    have haw := hnx (by omega)
                    rw [← hje] at haw
                    have hr2 := hrn (by omega)
                    rw [← hje] at hr2
                    refine lv_iload hx hb dL_found_281 (lv_at hl 9 rfl) ?_
                    refine lv_iload hx hb dL_found_283 (lv_at hl 1 rfl) ?_
                    refine lv_if_eq (tgt := 292) hx hb dL_found_285 (by decide) (fun c_285 => ?_) (fun c_285 => ?_)
                    · -- 285 taken
                      exact absurd c_285 (by decide)
                    · -- 285 not taken
                      refine lv_iconst (v := 1) hx hb dL_found_288 rfl ?_
                      refine lv_goto (tgt := 303) hx hb dL_found_289 (by decide) ?_
                      refine lv_icmp_eq (tgt := 308) hx hb dL_found_303 (by decide) (fun c_303 => ?_) (fun c_303 => ?_)
                      · -- 303 taken
                        refine lv_iload hx hb dL_found_308 (lv_at hl 11 rfl) ?_
                        refine lv_iload hx hb dL_found_310 (lv_at hl 7 rfl) ?_
                        refine lv_icmp_ne (tgt := 324) hx hb dL_found_312 (by decide) (fun c_312 => ?_) (fun c_312 => ?_)
                        · -- 312 taken
                          refine lv_iload hx hb dL_found_324 (lv_at hl 11 rfl) ?_
                          refine lv_iload hx hb dL_found_326 (lv_at hl 10 rfl) ?_
                          refine lv_iadd hx hb dL_found_328 ?_
                          refine lv_nm (y := sgn v * nI (j + 1)) (sg_succ v j) ?_
                          refine lv_istore (lv' := [(8, .int (sgn v * nI (j + 1))), (11, .int 0), (10, .int 1), (9, .int (ampF z (10 + ix (inH z)) (sgn v * nI j))), (0, .ref (ad 0)), (1, .int v), (2, .int (inH z)), (3, .int (bI (fwdB z (10 + ix (inH z))))), (4, .int u), (5, .int am), (6, .int ru), (7, .int (sgn v))]) hx hb dL_found_329 hl (by decide) rfl (fun ls hl => ?_)
                          refine lv_goto (tgt := 135) hx hb dL_found_331 (by decide) ?_
                          exact ih (j + 1) (by omega) _ _ hP hS ls (lv_sub hl [4, 5, 6, 7, 8, 9, 10, 11, 0] rfl)
                        · -- 312 not taken
                          refine lv_iload hx hb dL_found_315 (lv_at hl 2 rfl) ?_
                          refine lv_iload hx hb dL_found_317 (lv_at hl 8 rfl) ?_
                          refine lv_icmp_eq (tgt := 324) hx hb dL_found_319 (by decide) (fun c_319 => ?_) (fun c_319 => ?_)
                          · -- 319 taken
                            refine lv_iload hx hb dL_found_324 (lv_at hl 11 rfl) ?_
                            refine lv_iload hx hb dL_found_326 (lv_at hl 10 rfl) ?_
                            refine lv_iadd hx hb dL_found_328 ?_
                            refine lv_nm (y := sgn v * nI (j + 1)) (sg_succ v j) ?_
                            refine lv_istore (lv' := [(8, .int (sgn v * nI (j + 1))), (11, .int 0), (10, .int 1), (9, .int (ampF z (10 + ix (inH z)) (sgn v * nI j))), (0, .ref (ad 0)), (1, .int v), (2, .int (inH z)), (3, .int (bI (fwdB z (10 + ix (inH z))))), (4, .int u), (5, .int am), (6, .int ru), (7, .int (sgn v))]) hx hb dL_found_329 hl (by decide) rfl (fun ls hl => ?_)
                            refine lv_goto (tgt := 135) hx hb dL_found_331 (by decide) ?_
                            exact ih (j + 1) (by omega) _ _ hP hS ls (lv_sub hl [4, 5, 6, 7, 8, 9, 10, 11, 0] rfl)
                          · -- 319 not taken
                            exact absurd ((congrArg (ampF z (10 + ix (inH z))) c_312).trans ham.symm) c_319
                      · -- 303 not taken
                        exact absurd (hr2.trans (if_pos (al_t c_202))) c_303
                  · -- 265 not taken
                    have c_265n := i_lt_f c_265
                    have hjN : j ≤ N := nI_gtf (by omega) (by omega) c_265
                    have haw := aw_t (aw_all hI hi4 hv (j := j) (by rw [← hN]; exact hjN))
                    refine lv_iload hx hb dL_found_268 (lv_at hl 1 rfl) ?_
                    refine lv_if_ne (tgt := 306) hx hb dL_found_270 (by decide) (fun c_270 => ?_) (fun c_270 => ?_)
                    · -- 270 taken
                      exact absurd haw.1 c_202
                    · -- 270 not taken
                      exact absurd c_270 (by decide)
                · -- 245 not taken
                  have c_245n := i_le_f c_245
                  refine lv_iconst (v := 1) hx hb dL_found_248 rfl ?_
                  refine lv_goto (tgt := 253) hx hb dL_found_249 (by decide) ?_
                  refine lv_istore (lv' := [(11, .int 1), (10, .int 1), (9, .int (ampF z (10 + ix (inH z)) (sgn v * nI j))), (0, .ref (ad 0)), (1, .int v), (2, .int (inH z)), (3, .int (bI (fwdB z (10 + ix (inH z))))), (4, .int u), (5, .int am), (6, .int ru), (7, .int (sgn v)), (8, .int (sgn v * nI j))]) hx hb dL_found_253 hl (by decide) rfl (fun ls hl => ?_)
                  refine lv_iload hx hb dL_found_255 (lv_at hl 11 rfl) ?_
                  refine qSi (As := [.int (sgn v * nI j)]) (rest := []) hx hb hml hown hts (kL_size l g (Wd := (WX g ad)) (A := (adOf 15 ad)) z (sgn v * nI j)) gL_found_L_size rfl 1 hdL_size rfl ⟨Nat.le_of_ble_eq_true rfl, Nat.le_of_ble_eq_true rfl⟩ ⟨Nat.zero_le _, Nat.zero_le _⟩ hK hP hS (fun _ h => h) hl.1 rfl (Nat.le_of_ble_eq_true rfl) dL_found_257 (fun H locs hP hS => ?_)
                  refine lv_nm (y := nI j) (abs_sg (by omega)) ?_
                  refine lv_iload hx hb dL_found_260 (lv_at hl 7 rfl) ?_
                  refine qSi (As := [.int u]) (rest := [.int (nI j)]) hx hb hml hown hts (kL_size l g (Wd := (WX g ad)) (A := (adOf 15 ad)) z u) gL_found_L_size rfl 1 hdL_size rfl ⟨Nat.le_of_ble_eq_true rfl, Nat.le_of_ble_eq_true rfl⟩ ⟨Nat.zero_le _, Nat.zero_le _⟩ hK hP hS (fun _ h => h) hl.1 rfl (Nat.le_of_ble_eq_true rfl) dL_found_262 (fun H locs hP hS => ?_)
                  refine lv_nm (y := nI N) hs3 ?_
                  refine lv_icmp_gt (tgt := 281) hx hb dL_found_265 (by decide) (fun c_265 => ?_) (fun c_265 => ?_)
                  · -- 265 taken
                    have c_265n := i_lt_t c_265
                    have hjN : N < j := nI_gtt (by omega) (by omega) c_265
                    have hje : j = N + 1 := by omega
                    have haw := hnx (by omega)
                    rw [← hje] at haw
                    have hr2 := hrn (by omega)
                    rw [← hje] at hr2
                    refine lv_iload hx hb dL_found_281 (lv_at hl 9 rfl) ?_
                    refine lv_iload hx hb dL_found_283 (lv_at hl 1 rfl) ?_
                    refine lv_if_eq (tgt := 292) hx hb dL_found_285 (by decide) (fun c_285 => ?_) (fun c_285 => ?_)
                    · -- 285 taken
                      exact absurd c_285 (by decide)
                    · -- 285 not taken
                      refine lv_iconst (v := 1) hx hb dL_found_288 rfl ?_
                      refine lv_goto (tgt := 303) hx hb dL_found_289 (by decide) ?_
                      refine lv_icmp_eq (tgt := 308) hx hb dL_found_303 (by decide) (fun c_303 => ?_) (fun c_303 => ?_)
                      · -- 303 taken
                        refine lv_iload hx hb dL_found_308 (lv_at hl 11 rfl) ?_
                        refine lv_iload hx hb dL_found_310 (lv_at hl 7 rfl) ?_
                        refine lv_icmp_ne (tgt := 324) hx hb dL_found_312 (by decide) (fun c_312 => ?_) (fun c_312 => ?_)
                        · -- 312 taken
                          refine lv_iload hx hb dL_found_324 (lv_at hl 11 rfl) ?_
                          refine lv_iload hx hb dL_found_326 (lv_at hl 10 rfl) ?_
                          refine lv_iadd hx hb dL_found_328 ?_
                          refine lv_nm (y := sgn v * nI (j + 1)) (sg_succ v j) ?_
                          refine lv_istore (lv' := [(8, .int (sgn v * nI (j + 1))), (11, .int 1), (10, .int 1), (9, .int (ampF z (10 + ix (inH z)) (sgn v * nI j))), (0, .ref (ad 0)), (1, .int v), (2, .int (inH z)), (3, .int (bI (fwdB z (10 + ix (inH z))))), (4, .int u), (5, .int am), (6, .int ru), (7, .int (sgn v))]) hx hb dL_found_329 hl (by decide) rfl (fun ls hl => ?_)
                          refine lv_goto (tgt := 135) hx hb dL_found_331 (by decide) ?_
                          exact ih (j + 1) (by omega) _ _ hP hS ls (lv_sub hl [4, 5, 6, 7, 8, 9, 10, 11, 0] rfl)
                        · -- 312 not taken
                          refine lv_iload hx hb dL_found_315 (lv_at hl 2 rfl) ?_
                          refine lv_iload hx hb dL_found_317 (lv_at hl 8 rfl) ?_
                          refine lv_icmp_eq (tgt := 324) hx hb dL_found_319 (by decide) (fun c_319 => ?_) (fun c_319 => ?_)
                          · -- 319 taken
                            refine lv_iload hx hb dL_found_324 (lv_at hl 11 rfl) ?_
                            refine lv_iload hx hb dL_found_326 (lv_at hl 10 rfl) ?_
                            refine lv_iadd hx hb dL_found_328 ?_
                            refine lv_nm (y := sgn v * nI (j + 1)) (sg_succ v j) ?_
                            refine lv_istore (lv' := [(8, .int (sgn v * nI (j + 1))), (11, .int 1), (10, .int 1), (9, .int (ampF z (10 + ix (inH z)) (sgn v * nI j))), (0, .ref (ad 0)), (1, .int v), (2, .int (inH z)), (3, .int (bI (fwdB z (10 + ix (inH z))))), (4, .int u), (5, .int am), (6, .int ru), (7, .int (sgn v))]) hx hb dL_found_329 hl (by decide) rfl (fun ls hl => ?_)
                            refine lv_goto (tgt := 135) hx hb dL_found_331 (by decide) ?_
                            exact ih (j + 1) (by omega) _ _ hP hS ls (lv_sub hl [4, 5, 6, 7, 8, 9, 10, 11, 0] rfl)
                          · -- 319 not taken
                            exact absurd ((congrArg (ampF z (10 + ix (inH z))) c_312).trans ham.symm) c_319
                      · -- 303 not taken
                        exact absurd (hr2.trans (if_pos (al_t c_202))) c_303
                  · -- 265 not taken
                    have c_265n := i_lt_f c_265
                    have hjN : j ≤ N := nI_gtf (by omega) (by omega) c_265
                    have haw := aw_t (aw_all hI hi4 hv (j := j) (by rw [← hN]; exact hjN))
                    refine lv_iload hx hb dL_found_268 (lv_at hl 1 rfl) ?_
                    refine lv_if_ne (tgt := 306) hx hb dL_found_270 (by decide) (fun c_270 => ?_) (fun c_270 => ?_)
                    · -- 270 taken
                      exact absurd haw.1 c_202
                    · -- 270 not taken
                      exact absurd c_270 (by decide)
  have tail83 : ∀ (_ : True), ∀ (H : Heap) (locs : List Loc), va_P g.1 vwCl ((WX g ad) z) H → va_S (adOf 15 ad) s.heap H locs → ∀ ls : Array Slot, lv_has ls 12 [(0, .ref (ad 0)), (1, .int v), (2, .int (inH z)), (3, .int (bI (fwdB z (10 + ix (inH z))))), (4, .int u), (5, .int am), (6, .int ru)] → W p l e (rmL 7) s m args below meth c H locs 0 0 (MQ below (va_Qi (fun q9 u9 => q9 = 1 ∧ u9 = z) (qU g (WX g ad)) (adOf 15 ad)) args s 0 0 (adOf 15 ad)) (F0 m 83 ls []) := by
    intro _ H locs hP hS ls hl
    refine lv_iload hx hb dL_found_83 (lv_at hl 4 rfl) ?_
    refine qSi (As := [.int u]) (rest := []) hx hb hml hown hts (kL_size l g (Wd := (WX g ad)) (A := (adOf 15 ad)) z u) gL_found_L_size rfl 1 hdL_size rfl ⟨Nat.le_of_ble_eq_true rfl, Nat.le_of_ble_eq_true rfl⟩ ⟨Nat.zero_le _, Nat.zero_le _⟩ hK hP hS (fun _ h => h) hl.1 rfl (Nat.le_of_ble_eq_true rfl) dL_found_85 (fun H locs hP hS => ?_)
    refine lv_iload_n hx hb dL_found_88 rfl (lv_at hl 1 rfl) ?_
    refine qSi (As := [.int v]) (rest := [.int (absI u)]) hx hb hml hown hts (kL_size l g (Wd := (WX g ad)) (A := (adOf 15 ad)) z v) gL_found_L_size rfl 1 hdL_size rfl ⟨Nat.le_of_ble_eq_true rfl, Nat.le_of_ble_eq_true rfl⟩ ⟨Nat.zero_le _, Nat.zero_le _⟩ hK hP hS (fun _ h => h) hl.1 rfl (Nat.le_of_ble_eq_true rfl) dL_found_89 (fun H locs hP hS => ?_)
    refine lv_icmp_gt (tgt := 119) hx hb dL_found_92 (by decide) (fun c_92 => ?_) (fun c_92 => ?_)
    · -- 92 taken
      have c_92n := i_lt_t c_92
      exact absurd c_92 hs5
    · -- 92 not taken
      have c_92n := i_lt_f c_92
      refine lv_iload hx hb dL_found_95 (lv_at hl 6 rfl) ?_
      refine lv_if_ne (tgt := 104) hx hb dL_found_97 (by decide) (fun c_97 => ?_) (fun c_97 => ?_)
      · -- 97 taken
        refine lv_iconst (v := 0) hx hb dL_found_104 rfl ?_
        refine lv_iload hx hb dL_found_105 (lv_at hl 4 rfl) ?_
        refine lv_iload_n hx hb dL_found_107 rfl (lv_at hl 1 rfl) ?_
        refine lv_icmp_ne (tgt := 115) hx hb dL_found_108 (by decide) (fun c_108 => ?_) (fun c_108 => ?_)
        · -- 108 taken
          refine lv_iconst (v := 0) hx hb dL_found_115 rfl ?_
          refine lv_icmp_eq (tgt := 121) hx hb dL_found_116 (by decide) (fun c_116 => ?_) (fun c_116 => ?_)
          · -- 116 taken
            refine lv_iload_n hx hb dL_found_121 rfl (lv_at hl 1 rfl) ?_
            refine lv_if_ge (tgt := 129) hx hb dL_found_122 (by decide) (fun c_122 => ?_) (fun c_122 => ?_)
            · -- 122 taken
              have c_122n := i_le_t c_122
              refine lv_iconst (v := 1) hx hb dL_found_129 rfl ?_
              refine lv_nm (y := sgn v) (by unfold sgn; rw [if_neg c_122n]) ?_
              refine lv_istore (lv' := [(7, .int (sgn v)), (0, .ref (ad 0)), (1, .int v), (2, .int (inH z)), (3, .int (bI (fwdB z (10 + ix (inH z))))), (4, .int u), (5, .int am), (6, .int ru)]) hx hb dL_found_130 hl (by decide) rfl (fun ls hl => ?_)
              refine lv_iconst (v := 0) hx hb dL_found_132 rfl ?_
              refine lv_nm (y := sgn v * nI 0) (show (0 : Int32) = sgn v * nI 0 from Int32.mul_zero.symm) ?_
              refine lv_istore (lv' := [(8, .int (sgn v * nI 0)), (7, .int (sgn v)), (0, .ref (ad 0)), (1, .int v), (2, .int (inH z)), (3, .int (bI (fwdB z (10 + ix (inH z))))), (4, .int u), (5, .int am), (6, .int ru)]) hx hb dL_found_133 hl (by decide) rfl (fun ls hl => ?_)
              exact loop 4000 0 (by omega) _ _ hP hS ls (lv_sub hl [2, 3, 4, 5, 6, 7, 8, 1, 0] rfl)
            · -- 122 not taken
              have c_122n := i_le_f c_122
              refine lv_iconst (v := -1) hx hb dL_found_125 rfl ?_
              refine lv_goto (tgt := 130) hx hb dL_found_126 (by decide) ?_
              refine lv_nm (y := sgn v) (by unfold sgn; rw [if_pos c_122n]) ?_
              refine lv_istore (lv' := [(7, .int (sgn v)), (0, .ref (ad 0)), (1, .int v), (2, .int (inH z)), (3, .int (bI (fwdB z (10 + ix (inH z))))), (4, .int u), (5, .int am), (6, .int ru)]) hx hb dL_found_130 hl (by decide) rfl (fun ls hl => ?_)
              refine lv_iconst (v := 0) hx hb dL_found_132 rfl ?_
              refine lv_nm (y := sgn v * nI 0) (show (0 : Int32) = sgn v * nI 0 from Int32.mul_zero.symm) ?_
              refine lv_istore (lv' := [(8, .int (sgn v * nI 0)), (7, .int (sgn v)), (0, .ref (ad 0)), (1, .int v), (2, .int (inH z)), (3, .int (bI (fwdB z (10 + ix (inH z))))), (4, .int u), (5, .int am), (6, .int ru)]) hx hb dL_found_133 hl (by decide) rfl (fun ls hl => ?_)
              exact loop 4000 0 (by omega) _ _ hP hS ls (lv_sub hl [2, 3, 4, 5, 6, 7, 8, 1, 0] rfl)
          · -- 116 not taken
            exact absurd rfl c_116
        · -- 108 not taken
          exact absurd (hru.mpr c_108) c_97
      · -- 97 not taken
        refine lv_iconst (v := 1) hx hb dL_found_100 rfl ?_
        refine lv_goto (tgt := 105) hx hb dL_found_101 (by decide) ?_
        refine lv_iload hx hb dL_found_105 (lv_at hl 4 rfl) ?_
        refine lv_iload_n hx hb dL_found_107 rfl (lv_at hl 1 rfl) ?_
        refine lv_icmp_ne (tgt := 115) hx hb dL_found_108 (by decide) (fun c_108 => ?_) (fun c_108 => ?_)
        · -- 108 taken
          exact absurd (hru.mp c_97) c_108
        · -- 108 not taken
          refine lv_iconst (v := 1) hx hb dL_found_111 rfl ?_
          refine lv_goto (tgt := 116) hx hb dL_found_112 (by decide) ?_
          refine lv_icmp_eq (tgt := 121) hx hb dL_found_116 (by decide) (fun c_116 => ?_) (fun c_116 => ?_)
          · -- 116 taken
            refine lv_iload_n hx hb dL_found_121 rfl (lv_at hl 1 rfl) ?_
            refine lv_if_ge (tgt := 129) hx hb dL_found_122 (by decide) (fun c_122 => ?_) (fun c_122 => ?_)
            · -- 122 taken
              have c_122n := i_le_t c_122
              refine lv_iconst (v := 1) hx hb dL_found_129 rfl ?_
              refine lv_nm (y := sgn v) (by unfold sgn; rw [if_neg c_122n]) ?_
              refine lv_istore (lv' := [(7, .int (sgn v)), (0, .ref (ad 0)), (1, .int v), (2, .int (inH z)), (3, .int (bI (fwdB z (10 + ix (inH z))))), (4, .int u), (5, .int am), (6, .int ru)]) hx hb dL_found_130 hl (by decide) rfl (fun ls hl => ?_)
              refine lv_iconst (v := 0) hx hb dL_found_132 rfl ?_
              refine lv_nm (y := sgn v * nI 0) (show (0 : Int32) = sgn v * nI 0 from Int32.mul_zero.symm) ?_
              refine lv_istore (lv' := [(8, .int (sgn v * nI 0)), (7, .int (sgn v)), (0, .ref (ad 0)), (1, .int v), (2, .int (inH z)), (3, .int (bI (fwdB z (10 + ix (inH z))))), (4, .int u), (5, .int am), (6, .int ru)]) hx hb dL_found_133 hl (by decide) rfl (fun ls hl => ?_)
              exact loop 4000 0 (by omega) _ _ hP hS ls (lv_sub hl [2, 3, 4, 5, 6, 7, 8, 1, 0] rfl)
            · -- 122 not taken
              have c_122n := i_le_f c_122
              refine lv_iconst (v := -1) hx hb dL_found_125 rfl ?_
              refine lv_goto (tgt := 130) hx hb dL_found_126 (by decide) ?_
              refine lv_nm (y := sgn v) (by unfold sgn; rw [if_pos c_122n]) ?_
              refine lv_istore (lv' := [(7, .int (sgn v)), (0, .ref (ad 0)), (1, .int v), (2, .int (inH z)), (3, .int (bI (fwdB z (10 + ix (inH z))))), (4, .int u), (5, .int am), (6, .int ru)]) hx hb dL_found_130 hl (by decide) rfl (fun ls hl => ?_)
              refine lv_iconst (v := 0) hx hb dL_found_132 rfl ?_
              refine lv_nm (y := sgn v * nI 0) (show (0 : Int32) = sgn v * nI 0 from Int32.mul_zero.symm) ?_
              refine lv_istore (lv' := [(8, .int (sgn v * nI 0)), (7, .int (sgn v)), (0, .ref (ad 0)), (1, .int v), (2, .int (inH z)), (3, .int (bI (fwdB z (10 + ix (inH z))))), (4, .int u), (5, .int am), (6, .int ru)]) hx hb dL_found_133 hl (by decide) rfl (fun ls hl => ?_)
              exact loop 4000 0 (by omega) _ _ hP hS ls (lv_sub hl [2, 3, 4, 5, 6, 7, 8, 1, 0] rfl)
          · -- 116 not taken
            exact absurd rfl c_116
  have tail33 : ∀ (_ : True), ∀ (H : Heap) (locs : List Loc), va_P g.1 vwCl ((WX g ad) z) H → va_S (adOf 15 ad) s.heap H locs → ∀ ls : Array Slot, lv_has ls 12 [(0, .ref (ad 0)), (1, .int v), (2, .int (inH z))] → W p l e (rmL 7) s m args below meth c H locs 0 0 (MQ below (va_Qi (fun q9 u9 => q9 = 1 ∧ u9 = z) (qU g (WX g ad)) (adOf 15 ad)) args s 0 0 (adOf 15 ad)) (F0 m 33 ls [.int (bI (fwdB z (10 + ix (inH z))))]) := by
    intro _ H locs hP hS ls hl
    refine lv_istore_n (lv' := [(3, .int (bI (fwdB z (10 + ix (inH z))))), (0, .ref (ad 0)), (1, .int v), (2, .int (inH z))]) hx hb dL_found_33 rfl hl (by decide) rfl (fun ls hl => ?_)
    refine lv_aload_n hx hb dL_found_34 rfl (lv_at hl 1 rfl) ?_
    refine lv_iload_n hx hb dL_found_35 rfl (lv_at hl 2 rfl) ?_
    refine lv_iconst (v := 0) hx hb dL_found_36 rfl ?_
    refine qVi (As := [.int v, .int 0]) (rest := []) hx hb hml hown hts (kX3_would l g z hj hI v 0) gL_found_X3_would rfl 2 hdX3_would rfl ⟨Nat.le_of_ble_eq_true rfl, Nat.le_of_ble_eq_true rfl⟩ ⟨Nat.zero_le _, Nat.zero_le _⟩ hK hP hS (fun _ h => h) 0 3 rfl rfl rfl hl.1 rfl (Nat.le_of_ble_eq_true rfl) dL_found_37 (fun H locs hP hS => ?_)
    refine lv_sipush (v := 10000) hx hb dL_found_40 (by decide) ?_
    refine lv_isub hx hb dL_found_43 ?_
    refine lv_nm (y := u) ((wd_0 hn hv).trans hu.symm) ?_
    refine lv_istore (lv' := [(4, .int u), (3, .int (bI (fwdB z (10 + ix (inH z))))), (0, .ref (ad 0)), (1, .int v), (2, .int (inH z))]) hx hb dL_found_44 hl (by decide) rfl (fun ls hl => ?_)
    refine lv_aload_n hx hb dL_found_46 rfl (lv_at hl 2 rfl) ?_
    refine lv_iload_n hx hb dL_found_47 rfl (lv_at hl 3 rfl) ?_
    refine lv_iconst (v := 1) hx hb dL_found_48 rfl ?_
    refine qVi (As := [.int v, .int 1]) (rest := []) hx hb hml hown hts (kX3_would l g z hj hI v 1) gL_found_X3_would rfl 2 hdX3_would rfl ⟨Nat.le_of_ble_eq_true rfl, Nat.le_of_ble_eq_true rfl⟩ ⟨Nat.zero_le _, Nat.zero_le _⟩ hK hP hS (fun _ h => h) 0 3 rfl rfl rfl hl.1 rfl (Nat.le_of_ble_eq_true rfl) dL_found_49 (fun H locs hP hS => ?_)
    refine lv_ldc (v := 50000) hx hb hown (hts (.constant RL 25 (50000)) (by decide +kernel)) dL_found_52 ?_
    refine lv_isub hx hb dL_found_54 ?_
    refine lv_nm (y := am) ((wd_1 hn hv).trans (by rw [ham, hu])) ?_
    refine lv_istore (lv' := [(5, .int am), (4, .int u), (3, .int (bI (fwdB z (10 + ix (inH z))))), (0, .ref (ad 0)), (1, .int v), (2, .int (inH z))]) hx hb dL_found_55 hl (by decide) rfl (fun ls hl => ?_)
    refine lv_aload_n hx hb dL_found_57 rfl (lv_at hl 3 rfl) ?_
    refine lv_iload_n hx hb dL_found_58 rfl (lv_at hl 4 rfl) ?_
    refine lv_iconst (v := 2) hx hb dL_found_59 rfl ?_
    refine qVi (As := [.int v, .int 2]) (rest := []) hx hb hml hown hts (kX3_would l g z hj hI v 2) gL_found_X3_would rfl 2 hdX3_would rfl ⟨Nat.le_of_ble_eq_true rfl, Nat.le_of_ble_eq_true rfl⟩ ⟨Nat.zero_le _, Nat.zero_le _⟩ hK hP hS (fun _ h => h) 0 3 rfl rfl rfl hl.1 rfl (Nat.le_of_ble_eq_true rfl) dL_found_60 (fun H locs hP hS => ?_)
    refine lv_nm (y := ru) ((wd_2 hn hv).trans hrue.symm) ?_
    refine lv_istore (lv' := [(6, .int ru), (5, .int am), (4, .int u), (3, .int (bI (fwdB z (10 + ix (inH z))))), (0, .ref (ad 0)), (1, .int v), (2, .int (inH z))]) hx hb dL_found_63 hl (by decide) rfl (fun ls hl => ?_)
    refine lv_iload hx hb dL_found_65 (lv_at hl 2 rfl) ?_
    refine lv_if_ge (tgt := 74) hx hb dL_found_67 (by decide) (fun c_67 => ?_) (fun c_67 => ?_)
    · -- 67 taken
      have c_67n := i_le_t c_67
      refine lv_iload hx hb dL_found_74 (lv_at hl 2 rfl) ?_
      refine lv_if_le (tgt := 83) hx hb dL_found_76 (by decide) (fun c_76 => ?_) (fun c_76 => ?_)
      · -- 76 taken
        have c_76n := i_le_t c_76
        exact tail83 trivial _ _ hP hS ls (lv_sub hl [4, 5, 6, 3, 2, 1, 0] rfl)
      · -- 76 not taken
        have c_76n := i_le_f c_76
        refine lv_iload_n hx hb dL_found_79 rfl (lv_at hl 5 rfl) ?_
        refine lv_if_le (tgt := 119) hx hb dL_found_80 (by decide) (fun c_80 => ?_) (fun c_80 => ?_)
        · -- 80 taken
          have c_80n := i_le_t c_80
          exact absurd (hs2 c_80) c_76
        · -- 80 not taken
          have c_80n := i_le_f c_80
          exact tail83 trivial _ _ hP hS ls (lv_sub hl [4, 5, 6, 3, 2, 1, 0] rfl)
    · -- 67 not taken
      have c_67n := i_le_f c_67
      refine lv_iload_n hx hb dL_found_70 rfl (lv_at hl 5 rfl) ?_
      refine lv_if_ge (tgt := 119) hx hb dL_found_71 (by decide) (fun c_71 => ?_) (fun c_71 => ?_)
      · -- 71 taken
        have c_71n := i_le_t c_71
        exact absurd (hs1 c_71) c_67
      · -- 71 not taken
        have c_71n := i_le_f c_71
        refine lv_iload hx hb dL_found_74 (lv_at hl 2 rfl) ?_
        refine lv_if_le (tgt := 83) hx hb dL_found_76 (by decide) (fun c_76 => ?_) (fun c_76 => ?_)
        · -- 76 taken
          have c_76n := i_le_t c_76
          exact tail83 trivial _ _ hP hS ls (lv_sub hl [4, 5, 6, 3, 2, 1, 0] rfl)
        · -- 76 not taken
          have c_76n := i_le_f c_76
          refine lv_iload_n hx hb dL_found_79 rfl (lv_at hl 5 rfl) ?_
          refine lv_if_le (tgt := 119) hx hb dL_found_80 (by decide) (fun c_80 => ?_) (fun c_80 => ?_)
          · -- 80 taken
            have c_80n := i_le_t c_80
            exact absurd (hs2 c_80) c_76
          · -- 80 not taken
            have c_80n := i_le_f c_80
            exact tail83 trivial _ _ hP hS ls (lv_sub hl [4, 5, 6, 3, 2, 1, 0] rfl)
  refine lv_aload_n hx hb dL_found_0 rfl (lv_at hl 0 rfl) ?_
  refine lv_iconst (v := 0) hx hb dL_found_1 rfl ?_
  refine qVi (As := [.int 0]) (rest := []) hx hb hml hown hts (kX3_now l g z hj 0) gL_found_X3_now rfl 1 hdX3_now rfl ⟨Nat.le_of_ble_eq_true rfl, Nat.le_of_ble_eq_true rfl⟩ ⟨Nat.zero_le _, Nat.zero_le _⟩ hK hP hS (fun _ h => h) 0 3 rfl rfl rfl hl.1 rfl (Nat.le_of_ble_eq_true rfl) dL_found_2 (fun H locs hP hS => ?_)
  refine lv_nm (y := inH z) (now_0 z) ?_
  refine lv_istore_n (lv' := [(2, .int (inH z)), (0, .ref (ad 0)), (1, .int v)]) hx hb dL_found_5 rfl hl (by decide) rfl (fun ls hl => ?_)
  refine lv_iload_n hx hb dL_found_6 rfl (lv_at hl 0 rfl) ?_
  refine lv_if_lt (tgt := 32) hx hb dL_found_7 (by decide) (fun c_7 => ?_) (fun c_7 => ?_)
  · -- 7 taken
    have c_7n := i_lt_t c_7
    exact absurd c_7 (inH_nn hn)
  · -- 7 not taken
    have c_7n := i_lt_f c_7
    refine lv_aload_n hx hb dL_found_10 rfl (lv_at hl 1 rfl) ?_
    refine lv_iconst (v := 0) hx hb dL_found_11 rfl ?_
    refine qVi (As := [.int 0]) (rest := []) hx hb hml hown hts (kX3_pins l g z hj 0) gL_found_X3_pins rfl 1 hdX3_pins rfl ⟨Nat.le_of_ble_eq_true rfl, Nat.le_of_ble_eq_true rfl⟩ ⟨Nat.zero_le _, Nat.zero_le _⟩ hK hP hS (fun _ h => h) 0 3 rfl rfl rfl hl.1 rfl (Nat.le_of_ble_eq_true rfl) dL_found_12 (fun H locs hP hS => ?_)
    refine lv_nm (y := z 1 0) (pins_0 z) ?_
    refine lv_aload_n hx hb dL_found_15 rfl (lv_at hl 1 rfl) ?_
    refine lv_iload_n hx hb dL_found_16 rfl (lv_at hl 0 rfl) ?_
    refine lv_iconst (v := 0) hx hb dL_found_17 rfl ?_
    refine qVi (As := [.int (inH z), .int 0]) (rest := [.int (z 1 0)]) hx hb hml hown hts (kX3_ofPart l g z hj (inH z) 0) gL_found_X3_ofPart rfl 2 hdX3_ofPart rfl ⟨Nat.le_of_ble_eq_true rfl, Nat.le_of_ble_eq_true rfl⟩ ⟨Nat.zero_le _, Nat.zero_le _⟩ hK hP hS (fun _ h => h) 0 3 rfl rfl rfl hl.1 rfl (Nat.le_of_ble_eq_true rfl) dL_found_18 (fun H locs hP hS => ?_)
    refine lv_nm (y := z (10 + ix (inH z)) 3) (ofp_0 hp) ?_
    refine lv_ishr hx hb dL_found_21 ?_
    refine lv_iconst (v := 1) hx hb dL_found_22 rfl ?_
    refine lv_iand hx hb dL_found_23 ?_
    refine lv_iconst (v := 1) hx hb dL_found_24 rfl ?_
    refine lv_icmp_ne (tgt := 32) hx hb dL_found_25 (by decide) (fun c_25 => ?_) (fun c_25 => ?_)
    · -- 25 taken
      refine lv_iconst (v := 0) hx hb dL_found_32 rfl ?_
      refine lv_nm (y := bI (fwdB z (10 + ix (inH z)))) (fwb_0 (fun q => c_25 ((fwd_eq hI hih.2.2.2.1 hi4).mpr q))) ?_
      exact tail33 trivial _ _ hP hS ls (lv_sub hl [1, 2, 0] rfl)
    · -- 25 not taken
      refine lv_iconst (v := 1) hx hb dL_found_28 rfl ?_
      refine lv_goto (tgt := 33) hx hb dL_found_29 (by decide) ?_
      refine lv_nm (y := bI (fwdB z (10 + ix (inH z)))) (fwb_1 ((fwd_eq hI hih.2.2.2.1 hi4).mp c_25)) ?_
      exact tail33 trivial _ _ hP hS ls (lv_sub hl [1, 2, 0] rfl)
