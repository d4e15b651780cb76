set_option maxHeartbeats 4000000 in
set_option maxRecDepth 100000 in
theorem kL_fits (l : Launch) (g : qG) {ad : Nat → Nat} (z : zS) (hj : adInj 15 ad) (hI : qInv z) (hR : qRd z) {a b : Nat} (hab : a ≤ b) (hbc : b < ix (z 0 3)) : qMi l yL_fits wsL_fits 4 g (WX g ad) (adOf 15 ad) z [.ref (ad 0), .int (nI a), .int (nI b)] 1 z := by
  refine qStart (cc := cL_fits) (maxL := 25) (ret := (some .boolean)) (plainFor_of_name (by decide)) rfl (Nat.le_of_ble_eq_true rfl) ?_
  intro p e s m args below meth c hx hb hml hown hts hr hlk hP hK ls hl
  have hl : lv_has ls 25 [(0, .ref (ad 0)), (1, .int (nI a)), (2, .int (nI b))] := hl
  have hS : va_S (adOf 15 ad) s.heap s.heap [] := va_S.rf
  obtain ⟨cc1, cc2, cc3⟩ := inR_ix (n := 60) rfl (inv_rc hI)
  have hb6 : b < 60 := by omega
  have fw : ∀ {t : Int32}, inR t 0 5 = true → s_fit z (nI a) (nI b) t = fitF z a (b + 1 - a) t := fun ht => fit_w hI hab hbc ht
  by_cases hD : fD z a (b + 1 - a) = 0
  · -- there is none
    refine lv_aload_n hx hb dL_fits_0 rfl (lv_at hl 0 rfl) ?_
    refine lv_iload_n hx hb dL_fits_1 rfl (lv_at hl 1 rfl) ?_
    refine lv_iload_n hx hb dL_fits_2 rfl (lv_at hl 2 rfl) ?_
    refine lv_iconst (v := 1) hx hb dL_fits_3 rfl ?_
    refine qVl (As := [.int (nI a), .int (nI b), .int 1]) (rest := []) hx hb hml hown hts (kX3_fit l g z hj hI (nI a) (nI b) 1) gL_fits_X3_fit rfl 3 hdX3_fit rfl ⟨Nat.le_of_ble_eq_true rfl, Nat.le_of_ble_eq_true rfl⟩ ⟨Nat.zero_le _, Nat.zero_le _⟩ hK hP hS (fun _ h => h) 0 3 rfl rfl rfl hl.1 rfl (Nat.le_of_ble_eq_true rfl) dL_fits_4 (fun H locs hP hS => ?_)
    refine lv_nmL (y := (-9223372036854775808)) ((fw (by decide)).trans (fit_0 hD _)) ?_
    refine lv_lstore_n (lv' := [(3, .long (-9223372036854775808)), (0, .ref (ad 0)), (1, .int (nI a)), (2, .int (nI b))]) hx hb dL_fits_7 rfl hl (by decide) rfl (fun ls hl => ?_)
    refine lv_lload_n hx hb dL_fits_8 rfl (lv_at hl 0 rfl) ?_
    refine lv_ldc2 (v := -9223372036854775808) hx hb hown (hts (.constantLong RL 79 (-9223372036854775808)) (by decide +kernel)) dL_fits_9 ?_
    refine W.lcmp hx hb dL_fits_12 ?_
    refine lv_if_ne (tgt := 50) hx hb dL_fits_13 (by decide) (fun c_13 => ?_) (fun c_13 => ?_)
    · -- 13 taken
      rw [lg_cmp_eq] at c_13
      exact absurd rfl c_13
    · -- 13 not taken
      rw [lg_cmp_eq] at c_13
      refine lv_aload_n hx hb dL_fits_16 rfl (lv_at hl 1 rfl) ?_
      refine lv_iload_n hx hb dL_fits_17 rfl (lv_at hl 2 rfl) ?_
      refine lv_iload_n hx hb dL_fits_18 rfl (lv_at hl 3 rfl) ?_
      refine lv_iconst (v := 0) hx hb dL_fits_19 rfl ?_
      refine qVl (As := [.int (nI a), .int (nI b), .int 0]) (rest := []) hx hb hml hown hts (kX3_fit l g z hj hI (nI a) (nI b) 0) gL_fits_X3_fit rfl 3 hdX3_fit rfl ⟨Nat.le_of_ble_eq_true rfl, Nat.le_of_ble_eq_true rfl⟩ ⟨Nat.zero_le _, Nat.zero_le _⟩ hK hP hS (fun _ h => h) 0 3 rfl rfl rfl hl.1 rfl (Nat.le_of_ble_eq_true rfl) dL_fits_20 (fun H locs hP hS => ?_)
      refine lv_nmL (y := (-9223372036854775808)) ((fw (by decide)).trans (fit_0 hD _)) ?_
      refine lv_ldc2 (v := -9223372036854775808) hx hb hown (hts (.constantLong RL 79 (-9223372036854775808)) (by decide +kernel)) dL_fits_23 ?_
      refine W.lcmp hx hb dL_fits_26 ?_
      refine lv_if_ne (tgt := 48) hx hb dL_fits_27 (by decide) (fun c_27 => ?_) (fun c_27 => ?_)
      · -- 27 taken
        rw [lg_cmp_eq] at c_27
        exact absurd rfl c_27
      · -- 27 not taken
        rw [lg_cmp_eq] at c_27
        refine lv_aload_n hx hb dL_fits_30 rfl (lv_at hl 1 rfl) ?_
        refine lv_iload_n hx hb dL_fits_31 rfl (lv_at hl 2 rfl) ?_
        refine lv_iload_n hx hb dL_fits_32 rfl (lv_at hl 3 rfl) ?_
        refine lv_iconst (v := 4) hx hb dL_fits_33 rfl ?_
        refine qVl (As := [.int (nI a), .int (nI b), .int 4]) (rest := []) hx hb hml hown hts (kX3_fit l g z hj hI (nI a) (nI b) 4) gL_fits_X3_fit rfl 3 hdX3_fit rfl ⟨Nat.le_of_ble_eq_true rfl, Nat.le_of_ble_eq_true rfl⟩ ⟨Nat.zero_le _, Nat.zero_le _⟩ hK hP hS (fun _ h => h) 0 3 rfl rfl rfl hl.1 rfl (Nat.le_of_ble_eq_true rfl) dL_fits_34 (fun H locs hP hS => ?_)
        refine lv_nmL (y := (-9223372036854775808)) ((fw (by decide)).trans (fit_0 hD _)) ?_
        refine lv_ldc2 (v := -9223372036854775808) hx hb hown (hts (.constantLong RL 79 (-9223372036854775808)) (by decide +kernel)) dL_fits_37 ?_
        refine W.lcmp hx hb dL_fits_40 ?_
        refine lv_if_ne (tgt := 48) hx hb dL_fits_41 (by decide) (fun c_41 => ?_) (fun c_41 => ?_)
        · -- 41 taken
          rw [lg_cmp_eq] at c_41
          exact absurd rfl c_41
        · -- 41 not taken
          rw [lg_cmp_eq] at c_41
          refine lv_iconst (v := 1) hx hb dL_fits_44 rfl ?_
          refine lv_goto (tgt := 49) hx hb dL_fits_45 (by decide) ?_
          exact qRz hx hb hr hlk rfl hP hK hS dL_fits_49 rfl rfl
  have hpk := fit_pack hR (a := a) (n := (b + 1 - a)) (by omega) (by omega) hD
  have hfn := fit_n (z := z) (a := a) (n := (b + 1 - a)) hD
  have hl4 : frF (fS z a (b + 1 - a)) (fD z a (b + 1 - a)) true = 0 → frF (-(fB z a (b + 1 - a))) (fS z a (b + 1 - a)) true = (-9223372036854775808) ∧ frF (-(fB z a (b + 1 - a))) (fS z a (b + 1 - a)) false = (-9223372036854775808) := fun q => by rw [hpk.2.2.2.2.1 q]; exact ⟨frF_0 _, frF_0 _⟩
  generalize frF (fS z a (b + 1 - a)) (fD z a (b + 1 - a)) true = up at hpk hfn hl4
  generalize frF (fS z a (b + 1 - a)) (fD z a (b + 1 - a)) false = dn at hpk hfn hl4
  generalize frF (fB z a (b + 1 - a)) (fD z a (b + 1 - a)) true = ba at hpk hfn hl4
  generalize frF (fB z a (b + 1 - a)) (fD z a (b + 1 - a)) false = un at hpk hfn hl4
  generalize frF (-(fB z a (b + 1 - a))) (fS z a (b + 1 - a)) true = on at hpk hfn hl4
  generalize frF (-(fB z a (b + 1 - a))) (fS z a (b + 1 - a)) false = of at hpk hfn hl4
  obtain ⟨hdn, hun, hpt0, hmid, hz0, hne⟩ := hpk
  obtain ⟨f0, f1, f2, f3, f4, f5⟩ := hfn
  have hdn2 := fb_rngL dn
  have hun2 := fb_rngL un
  have of2 := fb_rngL of
  have l0 : (0 : Int64).toInt = 0 := rfl
  have tail139 : ∀ (_ : True), ∀ (H : Heap) (locs : List Loc), va_P g.1 vwCl ((WX g ad) z) H → va_S (adOf 15 ad) s.heap H locs → ∀ ls : Array Slot, lv_has ls 25 [(0, .ref (ad 0)), (1, .int (nI a)), (2, .int (nI b)), (3, .long dn), (5, .long up), (7, .long ba), (9, .long un), (11, .long (lN (b + 1 - a))), (13, .long (fX z a (b + 1 - a))), (15, .long (fY z a (b + 1 - a)))] → W p l e (rmL 4) s m args below meth c H locs 0 0 (MQ below (va_Qi (fun q9 u9 => q9 = 1 ∧ u9 = z) (qU g (WX g ad)) (adOf 15 ad)) args s 0 0 (adOf 15 ad)) (F0 m 139 ls []) := by
    intro _ H locs hP hS ls hl
    refine lv_lload_n hx hb dL_fits_139 rfl (lv_at hl 3 rfl) ?_
    refine lv_lload hx hb dL_fits_140 (lv_at hl 6 rfl) ?_
    refine qSl (As := [.long dn, .long un]) (rest := []) hx hb hml hown hts (kL_part l g (Wd := (WX g ad)) (A := (adOf 15 ad)) z dn un (by omega) (by omega)) gL_fits_L_part rfl 2 hdL_part rfl ⟨Nat.le_of_ble_eq_true rfl, Nat.le_of_ble_eq_true rfl⟩ ⟨Nat.zero_le _, Nat.zero_le _⟩ hK hP hS (fun _ h => h) hl.1 rfl (Nat.le_of_ble_eq_true rfl) dL_fits_142 (fun H locs hP hS => ?_)
    refine lv_lstore (lv' := [(17, .long (ptF dn un)), (0, .ref (ad 0)), (1, .int (nI a)), (2, .int (nI b)), (3, .long dn), (5, .long up), (7, .long ba), (9, .long un), (11, .long (lN (b + 1 - a))), (13, .long (fX z a (b + 1 - a))), (15, .long (fY z a (b + 1 - a)))]) hx hb dL_fits_145 hl (by decide) rfl (fun ls hl => ?_)
    refine lv_lload_n hx hb dL_fits_147 rfl (lv_at hl 4 rfl) ?_
    refine lv_lload hx hb dL_fits_148 (lv_at hl 0 rfl) ?_
    refine lv_ldiv hx hb dL_fits_150 hpt0 ?_
    refine lv_lload hx hb dL_fits_151 (lv_at hl 7 rfl) ?_
    refine lv_lmul hx hb dL_fits_153 ?_
    refine lv_lstore (lv' := [(19, .long ((dn / (ptF dn un)) * un)), (17, .long (ptF dn un)), (0, .ref (ad 0)), (1, .int (nI a)), (2, .int (nI b)), (3, .long dn), (5, .long up), (7, .long ba), (9, .long un), (11, .long (lN (b + 1 - a))), (13, .long (fX z a (b + 1 - a))), (15, .long (fY z a (b + 1 - a)))]) hx hb dL_fits_154 hl (by decide) rfl (fun ls hl => ?_)
    refine lv_lload_n hx hb dL_fits_156 rfl (lv_at hl 5 rfl) ?_
    refine lv_lconst (v := 1) hx hb dL_fits_157 rfl ?_
    refine W.lcmp hx hb dL_fits_158 ?_
    refine lv_if_lt (tgt := 200) hx hb dL_fits_159 (by decide) (fun c_159 => ?_) (fun c_159 => ?_)
    · -- 159 taken
      rw [lg_cmp_lt] at c_159
      exact absurd c_159 (l_ge1 hdn)
    · -- 159 not taken
      rw [lg_cmp_lt] at c_159
      refine lv_lload hx hb dL_fits_162 (lv_at hl 8 rfl) ?_
      refine lv_lconst (v := 1) hx hb dL_fits_164 rfl ?_
      refine W.lcmp hx hb dL_fits_165 ?_
      refine lv_if_lt (tgt := 200) hx hb dL_fits_166 (by decide) (fun c_166 => ?_) (fun c_166 => ?_)
      · -- 166 taken
        rw [lg_cmp_lt] at c_166
        exact absurd c_166 (l_ge1 hun)
      · -- 166 not taken
        rw [lg_cmp_lt] at c_166
        refine lv_lload hx hb dL_fits_169 (lv_at hl 6 rfl) ?_
        refine lv_lload hx hb dL_fits_171 (lv_at hl 0 rfl) ?_
        refine lv_lload_n hx hb dL_fits_173 rfl (lv_at hl 5 rfl) ?_
        refine lv_ldiv hx hb dL_fits_174 (l_ne0 hdn) ?_
        refine lv_lmul hx hb dL_fits_175 ?_
        refine lv_lload hx hb dL_fits_176 (lv_at hl 10 rfl) ?_
        refine lv_lmul hx hb dL_fits_178 ?_
        refine lv_lload hx hb dL_fits_179 (lv_at hl 9 rfl) ?_
        refine lv_lload hx hb dL_fits_181 (lv_at hl 7 rfl) ?_
        refine lv_lmul hx hb dL_fits_183 ?_
        refine lv_lload hx hb dL_fits_184 (lv_at hl 0 rfl) ?_
        refine lv_lload hx hb dL_fits_186 (lv_at hl 8 rfl) ?_
        refine lv_ldiv hx hb dL_fits_188 (l_ne0 hun) ?_
        refine lv_lmul hx hb dL_fits_189 ?_
        refine lv_ladd hx hb dL_fits_190 ?_
        refine lv_lload hx hb dL_fits_191 (lv_at hl 11 rfl) ?_
        refine lv_lload hx hb dL_fits_193 (lv_at hl 0 rfl) ?_
        refine lv_lmul hx hb dL_fits_195 ?_
        refine W.lcmp hx hb dL_fits_196 ?_
        refine lv_if_eq (tgt := 202) hx hb dL_fits_197 (by decide) (fun c_197 => ?_) (fun c_197 => ?_)
        · -- 197 taken
          rw [lg_cmp_eq] at c_197
          refine lv_aload_n hx hb dL_fits_202 rfl (lv_at hl 2 rfl) ?_
          refine lv_iload_n hx hb dL_fits_203 rfl (lv_at hl 3 rfl) ?_
          refine lv_iload_n hx hb dL_fits_204 rfl (lv_at hl 4 rfl) ?_
          refine lv_iconst (v := 4) hx hb dL_fits_205 rfl ?_
          refine qVl (As := [.int (nI a), .int (nI b), .int 4]) (rest := []) hx hb hml hown hts (kX3_fit l g z hj hI (nI a) (nI b) 4) gL_fits_X3_fit rfl 3 hdX3_fit rfl ⟨Nat.le_of_ble_eq_true rfl, Nat.le_of_ble_eq_true rfl⟩ ⟨Nat.zero_le _, Nat.zero_le _⟩ hK hP hS (fun _ h => h) 0 3 rfl rfl rfl hl.1 rfl (Nat.le_of_ble_eq_true rfl) dL_fits_206 (fun H locs hP hS => ?_)
          refine lv_nmL (y := on) ((fw (by decide)).trans f4) ?_
          refine lv_lstore (lv' := [(21, .long on), (19, .long ((dn / (ptF dn un)) * un)), (17, .long (ptF dn un)), (0, .ref (ad 0)), (1, .int (nI a)), (2, .int (nI b)), (3, .long dn), (5, .long up), (7, .long ba), (9, .long un), (11, .long (lN (b + 1 - a))), (13, .long (fX z a (b + 1 - a))), (15, .long (fY z a (b + 1 - a)))]) hx hb dL_fits_209 hl (by decide) rfl (fun ls hl => ?_)
          refine lv_aload_n hx hb dL_fits_211 rfl (lv_at hl 3 rfl) ?_
          refine lv_iload_n hx hb dL_fits_212 rfl (lv_at hl 4 rfl) ?_
          refine lv_iload_n hx hb dL_fits_213 rfl (lv_at hl 5 rfl) ?_
          refine lv_iconst (v := 5) hx hb dL_fits_214 rfl ?_
          refine qVl (As := [.int (nI a), .int (nI b), .int 5]) (rest := []) hx hb hml hown hts (kX3_fit l g z hj hI (nI a) (nI b) 5) gL_fits_X3_fit rfl 3 hdX3_fit rfl ⟨Nat.le_of_ble_eq_true rfl, Nat.le_of_ble_eq_true rfl⟩ ⟨Nat.zero_le _, Nat.zero_le _⟩ hK hP hS (fun _ h => h) 0 3 rfl rfl rfl hl.1 rfl (Nat.le_of_ble_eq_true rfl) dL_fits_215 (fun H locs hP hS => ?_)
          refine lv_nmL (y := of) ((fw (by decide)).trans f5) ?_
          refine lv_lstore (lv' := [(23, .long of), (21, .long on), (19, .long ((dn / (ptF dn un)) * un)), (17, .long (ptF dn un)), (0, .ref (ad 0)), (1, .int (nI a)), (2, .int (nI b)), (3, .long dn), (5, .long up), (7, .long ba), (9, .long un), (11, .long (lN (b + 1 - a))), (13, .long (fX z a (b + 1 - a))), (15, .long (fY z a (b + 1 - a)))]) hx hb dL_fits_218 hl (by decide) rfl (fun ls hl => ?_)
          refine lv_lload hx hb dL_fits_220 (lv_at hl 8 rfl) ?_
          refine lv_lconst (v := 0) hx hb dL_fits_222 rfl ?_
          refine W.lcmp hx hb dL_fits_223 ?_
          refine lv_if_ne (tgt := 253) hx hb dL_fits_224 (by decide) (fun c_224 => ?_) (fun c_224 => ?_)
          · -- 224 taken
            rw [lg_cmp_eq] at c_224
            obtain ⟨hS0, hof, hon, hpt1, hsg⟩ := hne c_224
            have hsz := sg_x hsg
            have hup0 : up.toInt ≠ 0 := fun q => c_224 (Int64.toInt_inj.mp q)
            refine lv_lload hx hb dL_fits_253 (lv_at hl 0 rfl) ?_
            refine lv_lconst (v := 0) hx hb dL_fits_255 rfl ?_
            refine W.lcmp hx hb dL_fits_256 ?_
            refine lv_if_le (tgt := 324) hx hb dL_fits_257 (by decide) (fun c_257 => ?_) (fun c_257 => ?_)
            · -- 257 taken
              rw [lg_cmp_le] at c_257
              exact absurd c_257 (l_pos hof)
            · -- 257 not taken
              rw [lg_cmp_le] at c_257
              refine lv_lload hx hb dL_fits_260 (lv_at hl 1 rfl) ?_
              refine lv_lload hx hb dL_fits_262 (lv_at hl 0 rfl) ?_
              refine qSl (As := [.long on, .long of]) (rest := []) hx hb hml hown hts (kL_part l g (Wd := (WX g ad)) (A := (adOf 15 ad)) z on of hon (by omega)) gL_fits_L_part rfl 2 hdL_part rfl ⟨Nat.le_of_ble_eq_true rfl, Nat.le_of_ble_eq_true rfl⟩ ⟨Nat.zero_le _, Nat.zero_le _⟩ hK hP hS (fun _ h => h) hl.1 rfl (Nat.le_of_ble_eq_true rfl) dL_fits_264 (fun H locs hP hS => ?_)
              refine lv_lconst (v := 1) hx hb dL_fits_267 rfl ?_
              refine W.lcmp hx hb dL_fits_268 ?_
              refine lv_if_ne (tgt := 324) hx hb dL_fits_269 (by decide) (fun c_269 => ?_) (fun c_269 => ?_)
              · -- 269 taken
                rw [lg_cmp_eq] at c_269
                exact absurd hpt1 c_269
              · -- 269 not taken
                rw [lg_cmp_eq] at c_269
                refine lv_lload hx hb dL_fits_272 (lv_at hl 1 rfl) ?_
                refine lv_lconst (v := 0) hx hb dL_fits_274 rfl ?_
                refine W.lcmp hx hb dL_fits_275 ?_
                refine lv_if_ge (tgt := 283) hx hb dL_fits_276 (by decide) (fun c_276 => ?_) (fun c_276 => ?_)
                · -- 276 taken
                  rw [lg_cmp_ge] at c_276
                  have k276 : (0 : Int64).toInt ≤ on.toInt := Int64.le_iff_toInt_le.mp c_276
                  refine lv_iconst (v := 0) hx hb dL_fits_283 rfl ?_
                  refine lv_lload hx hb dL_fits_284 (lv_at hl 9 rfl) ?_
                  refine lv_lconst (v := 0) hx hb dL_fits_286 rfl ?_
                  refine W.lcmp hx hb dL_fits_287 ?_
                  refine lv_if_le (tgt := 298) hx hb dL_fits_288 (by decide) (fun c_288 => ?_) (fun c_288 => ?_)
                  · -- 288 taken
                    rw [lg_cmp_le] at c_288
                    have k288 : ba.toInt ≤ (0 : Int64).toInt := Int64.le_iff_toInt_le.mp c_288
                    refine lv_lload hx hb dL_fits_298 (lv_at hl 9 rfl) ?_
                    refine lv_lconst (v := 0) hx hb dL_fits_300 rfl ?_
                    refine W.lcmp hx hb dL_fits_301 ?_
                    refine lv_if_ge (tgt := 316) hx hb dL_fits_302 (by decide) (fun c_302 => ?_) (fun c_302 => ?_)
                    · -- 302 taken
                      rw [lg_cmp_ge] at c_302
                      have k302 : (0 : Int64).toInt ≤ ba.toInt := Int64.le_iff_toInt_le.mp c_302
                      refine lv_iconst (v := 0) hx hb dL_fits_316 rfl ?_
                      refine lv_icmp_ne (tgt := 324) hx hb dL_fits_317 (by decide) (fun c_317 => ?_) (fun c_317 => ?_)
                      · -- 317 taken
                        exact absurd rfl c_317
                      · -- 317 not taken
                        refine lv_iconst (v := 1) hx hb dL_fits_320 rfl ?_
                        refine lv_goto (tgt := 325) hx hb dL_fits_321 (by decide) ?_
                        exact qRz hx hb hr hlk rfl hP hK hS dL_fits_325 rfl rfl
                    · -- 302 not taken
                      rw [lg_cmp_ge] at c_302
                      have k302 : ¬ (0 : Int64).toInt ≤ ba.toInt := fun q => c_302 (Int64.le_iff_toInt_le.mpr q)
                      refine lv_lload hx hb dL_fits_305 (lv_at hl 8 rfl) ?_
                      refine lv_lconst (v := 0) hx hb dL_fits_307 rfl ?_
                      refine W.lcmp hx hb dL_fits_308 ?_
                      refine lv_if_ge (tgt := 316) hx hb dL_fits_309 (by decide) (fun c_309 => ?_) (fun c_309 => ?_)
                      · -- 309 taken
                        rw [lg_cmp_ge] at c_309
                        have k309 : (0 : Int64).toInt ≤ up.toInt := Int64.le_iff_toInt_le.mp c_309
                        refine lv_iconst (v := 0) hx hb dL_fits_316 rfl ?_
                        refine lv_icmp_ne (tgt := 324) hx hb dL_fits_317 (by decide) (fun c_317 => ?_) (fun c_317 => ?_)
                        · -- 317 taken
                          exact absurd rfl c_317
                        · -- 317 not taken
                          refine lv_iconst (v := 1) hx hb dL_fits_320 rfl ?_
                          refine lv_goto (tgt := 325) hx hb dL_fits_321 (by decide) ?_
                          exact qRz hx hb hr hlk rfl hP hK hS dL_fits_325 rfl rfl
                      · -- 309 not taken
                        rw [lg_cmp_ge] at c_309
                        have k309 : ¬ (0 : Int64).toInt ≤ up.toInt := fun q => c_309 (Int64.le_iff_toInt_le.mpr q)
                        refine lv_iconst (v := 1) hx hb dL_fits_312 rfl ?_
                        refine lv_goto (tgt := 317) hx hb dL_fits_313 (by decide) ?_
                        refine lv_icmp_ne (tgt := 324) hx hb dL_fits_317 (by decide) (fun c_317 => ?_) (fun c_317 => ?_)
                        · -- 317 taken
                          exfalso
                          omega
                        · -- 317 not taken
                          exact absurd c_317 (by decide)
                  · -- 288 not taken
                    rw [lg_cmp_le] at c_288
                    have k288 : ¬ ba.toInt ≤ (0 : Int64).toInt := fun q => c_288 (Int64.le_iff_toInt_le.mpr q)
                    refine lv_lload hx hb dL_fits_291 (lv_at hl 8 rfl) ?_
                    refine lv_lconst (v := 0) hx hb dL_fits_293 rfl ?_
                    refine W.lcmp hx hb dL_fits_294 ?_
                    refine lv_if_gt (tgt := 312) hx hb dL_fits_295 (by decide) (fun c_295 => ?_) (fun c_295 => ?_)
                    · -- 295 taken
                      rw [lg_cmp_gt] at c_295
                      have k295 : (0 : Int64).toInt < up.toInt := Int64.lt_iff_toInt_lt.mp c_295
                      refine lv_iconst (v := 1) hx hb dL_fits_312 rfl ?_
                      refine lv_goto (tgt := 317) hx hb dL_fits_313 (by decide) ?_
                      refine lv_icmp_ne (tgt := 324) hx hb dL_fits_317 (by decide) (fun c_317 => ?_) (fun c_317 => ?_)
                      · -- 317 taken
                        exfalso
                        omega
                      · -- 317 not taken
                        exact absurd c_317 (by decide)
                    · -- 295 not taken
                      rw [lg_cmp_gt] at c_295
                      have k295 : ¬ (0 : Int64).toInt < up.toInt := fun q => c_295 (Int64.lt_iff_toInt_lt.mpr q)
                      refine lv_lload hx hb dL_fits_298 (lv_at hl 9 rfl) ?_
                      refine lv_lconst (v := 0) hx hb dL_fits_300 rfl ?_
                      refine W.lcmp hx hb dL_fits_301 ?_
                      refine lv_if_ge (tgt := 316) hx hb dL_fits_302 (by decide) (fun c_302 => ?_) (fun c_302 => ?_)
                      · -- 302 taken
                        rw [lg_cmp_ge] at c_302
                        have k302 : (0 : Int64).toInt ≤ ba.toInt := Int64.le_iff_toInt_le.mp c_302
                        refine lv_iconst (v := 0) hx hb dL_fits_316 rfl ?_
                        refine lv_icmp_ne (tgt := 324) hx hb dL_fits_317 (by decide) (fun c_317 => ?_) (fun c_317 => ?_)
                        · -- 317 taken
                          exact absurd rfl c_317
                        · -- 317 not taken
                          refine lv_iconst (v := 1) hx hb dL_fits_320 rfl ?_
                          refine lv_goto (tgt := 325) hx hb dL_fits_321 (by decide) ?_
                          exact qRz hx hb hr hlk rfl hP hK hS dL_fits_325 rfl rfl
                      · -- 302 not taken
                        rw [lg_cmp_ge] at c_302
                        have k302 : ¬ (0 : Int64).toInt ≤ ba.toInt := fun q => c_302 (Int64.le_iff_toInt_le.mpr q)
                        refine lv_lload hx hb dL_fits_305 (lv_at hl 8 rfl) ?_
                        refine lv_lconst (v := 0) hx hb dL_fits_307 rfl ?_
                        refine W.lcmp hx hb dL_fits_308 ?_
                        refine lv_if_ge (tgt := 316) hx hb dL_fits_309 (by decide) (fun c_309 => ?_) (fun c_309 => ?_)
                        · -- 309 taken
                          rw [lg_cmp_ge] at c_309
                          have k309 : (0 : Int64).toInt ≤ up.toInt := Int64.le_iff_toInt_le.mp c_309
                          refine lv_iconst (v := 0) hx hb dL_fits_316 rfl ?_
                          refine lv_icmp_ne (tgt := 324) hx hb dL_fits_317 (by decide) (fun c_317 => ?_) (fun c_317 => ?_)
                          · -- 317 taken
                            exact absurd rfl c_317
                          · -- 317 not taken
                            refine lv_iconst (v := 1) hx hb dL_fits_320 rfl ?_
                            refine lv_goto (tgt := 325) hx hb dL_fits_321 (by decide) ?_
                            exact qRz hx hb hr hlk rfl hP hK hS dL_fits_325 rfl rfl
                        · -- 309 not taken
                          rw [lg_cmp_ge] at c_309
                          have k309 : ¬ (0 : Int64).toInt ≤ up.toInt := fun q => c_309 (Int64.le_iff_toInt_le.mpr q)
                          refine lv_iconst (v := 1) hx hb dL_fits_312 rfl ?_
                          refine lv_goto (tgt := 317) hx hb dL_fits_313 (by decide) ?_
                          refine lv_icmp_ne (tgt := 324) hx hb dL_fits_317 (by decide) (fun c_317 => ?_) (fun c_317 => ?_)
                          · -- 317 taken
                            exfalso
                            omega
                          · -- 317 not taken
                            exact absurd c_317 (by decide)
                · -- 276 not taken
                  rw [lg_cmp_ge] at c_276
                  have k276 : ¬ (0 : Int64).toInt ≤ on.toInt := fun q => c_276 (Int64.le_iff_toInt_le.mpr q)
                  refine lv_iconst (v := 1) hx hb dL_fits_279 rfl ?_
                  refine lv_goto (tgt := 284) hx hb dL_fits_280 (by decide) ?_
                  refine lv_lload hx hb dL_fits_284 (lv_at hl 9 rfl) ?_
                  refine lv_lconst (v := 0) hx hb dL_fits_286 rfl ?_
                  refine W.lcmp hx hb dL_fits_287 ?_
                  refine lv_if_le (tgt := 298) hx hb dL_fits_288 (by decide) (fun c_288 => ?_) (fun c_288 => ?_)
                  · -- 288 taken
                    rw [lg_cmp_le] at c_288
                    have k288 : ba.toInt ≤ (0 : Int64).toInt := Int64.le_iff_toInt_le.mp c_288
                    refine lv_lload hx hb dL_fits_298 (lv_at hl 9 rfl) ?_
                    refine lv_lconst (v := 0) hx hb dL_fits_300 rfl ?_
                    refine W.lcmp hx hb dL_fits_301 ?_
                    refine lv_if_ge (tgt := 316) hx hb dL_fits_302 (by decide) (fun c_302 => ?_) (fun c_302 => ?_)
                    · -- 302 taken
                      rw [lg_cmp_ge] at c_302
                      have k302 : (0 : Int64).toInt ≤ ba.toInt := Int64.le_iff_toInt_le.mp c_302
                      refine lv_iconst (v := 0) hx hb dL_fits_316 rfl ?_
                      refine lv_icmp_ne (tgt := 324) hx hb dL_fits_317 (by decide) (fun c_317 => ?_) (fun c_317 => ?_)
                      · -- 317 taken
                        exfalso
                        omega
                      · -- 317 not taken
                        exact absurd c_317 (by decide)
                    · -- 302 not taken
                      rw [lg_cmp_ge] at c_302
                      have k302 : ¬ (0 : Int64).toInt ≤ ba.toInt := fun q => c_302 (Int64.le_iff_toInt_le.mpr q)
                      refine lv_lload hx hb dL_fits_305 (lv_at hl 8 rfl) ?_
                      refine lv_lconst (v := 0) hx hb dL_fits_307 rfl ?_
                      refine W.lcmp hx hb dL_fits_308 ?_
                      refine lv_if_ge (tgt := 316) hx hb dL_fits_309 (by decide) (fun c_309 => ?_) (fun c_309 => ?_)
                      · -- 309 taken
                        rw [lg_cmp_ge] at c_309
                        have k309 : (0 : Int64).toInt ≤ up.toInt := Int64.le_iff_toInt_le.mp c_309
                        refine lv_iconst (v := 0) hx hb dL_fits_316 rfl ?_
                        refine lv_icmp_ne (tgt := 324) hx hb dL_fits_317 (by decide) (fun c_317 => ?_) (fun c_317 => ?_)
                        · -- 317 taken
                          exfalso
                          omega
                        · -- 317 not taken
                          exact absurd c_317 (by decide)
                      · -- 309 not taken
                        rw [lg_cmp_ge] at c_309
                        have k309 : ¬ (0 : Int64).toInt ≤ up.toInt := fun q => c_309 (Int64.le_iff_toInt_le.mpr q)
                        refine lv_iconst (v := 1) hx hb dL_fits_312 rfl ?_
                        refine lv_goto (tgt := 317) hx hb dL_fits_313 (by decide) ?_
                        refine lv_icmp_ne (tgt := 324) hx hb dL_fits_317 (by decide) (fun c_317 => ?_) (fun c_317 => ?_)
                        · -- 317 taken
                          exact absurd rfl c_317
                        · -- 317 not taken
                          refine lv_iconst (v := 1) hx hb dL_fits_320 rfl ?_
                          refine lv_goto (tgt := 325) hx hb dL_fits_321 (by decide) ?_
                          exact qRz hx hb hr hlk rfl hP hK hS dL_fits_325 rfl rfl
                  · -- 288 not taken
                    rw [lg_cmp_le] at c_288
                    have k288 : ¬ ba.toInt ≤ (0 : Int64).toInt := fun q => c_288 (Int64.le_iff_toInt_le.mpr q)
                    refine lv_lload hx hb dL_fits_291 (lv_at hl 8 rfl) ?_
                    refine lv_lconst (v := 0) hx hb dL_fits_293 rfl ?_
                    refine W.lcmp hx hb dL_fits_294 ?_
                    refine lv_if_gt (tgt := 312) hx hb dL_fits_295 (by decide) (fun c_295 => ?_) (fun c_295 => ?_)
                    · -- 295 taken
                      rw [lg_cmp_gt] at c_295
                      have k295 : (0 : Int64).toInt < up.toInt := Int64.lt_iff_toInt_lt.mp c_295
                      refine lv_iconst (v := 1) hx hb dL_fits_312 rfl ?_
                      refine lv_goto (tgt := 317) hx hb dL_fits_313 (by decide) ?_
                      refine lv_icmp_ne (tgt := 324) hx hb dL_fits_317 (by decide) (fun c_317 => ?_) (fun c_317 => ?_)
                      · -- 317 taken
                        exact absurd rfl c_317
                      · -- 317 not taken
                        refine lv_iconst (v := 1) hx hb dL_fits_320 rfl ?_
                        refine lv_goto (tgt := 325) hx hb dL_fits_321 (by decide) ?_
                        exact qRz hx hb hr hlk rfl hP hK hS dL_fits_325 rfl rfl
                    · -- 295 not taken
                      rw [lg_cmp_gt] at c_295
                      have k295 : ¬ (0 : Int64).toInt < up.toInt := fun q => c_295 (Int64.lt_iff_toInt_lt.mpr q)
                      refine lv_lload hx hb dL_fits_298 (lv_at hl 9 rfl) ?_
                      refine lv_lconst (v := 0) hx hb dL_fits_300 rfl ?_
                      refine W.lcmp hx hb dL_fits_301 ?_
                      refine lv_if_ge (tgt := 316) hx hb dL_fits_302 (by decide) (fun c_302 => ?_) (fun c_302 => ?_)
                      · -- 302 taken
                        rw [lg_cmp_ge] at c_302
                        have k302 : (0 : Int64).toInt ≤ ba.toInt := Int64.le_iff_toInt_le.mp c_302
                        refine lv_iconst (v := 0) hx hb dL_fits_316 rfl ?_
                        refine lv_icmp_ne (tgt := 324) hx hb dL_fits_317 (by decide) (fun c_317 => ?_) (fun c_317 => ?_)
                        · -- 317 taken
                          exfalso
                          omega
                        · -- 317 not taken
                          exact absurd c_317 (by decide)
                      · -- 302 not taken
                        rw [lg_cmp_ge] at c_302
                        have k302 : ¬ (0 : Int64).toInt ≤ ba.toInt := fun q => c_302 (Int64.le_iff_toInt_le.mpr q)
                        refine lv_lload hx hb dL_fits_305 (lv_at hl 8 rfl) ?_
                        refine lv_lconst (v := 0) hx hb dL_fits_307 rfl ?_
                        refine W.lcmp hx hb dL_fits_308 ?_
                        refine lv_if_ge (tgt := 316) hx hb dL_fits_309 (by decide) (fun c_309 => ?_) (fun c_309 => ?_)
                        · -- 309 taken
                          rw [lg_cmp_ge] at c_309
                          have k309 : (0 : Int64).toInt ≤ up.toInt := Int64.le_iff_toInt_le.mp c_309
                          refine lv_iconst (v := 0) hx hb dL_fits_316 rfl ?_
                          refine lv_icmp_ne (tgt := 324) hx hb dL_fits_317 (by decide) (fun c_317 => ?_) (fun c_317 => ?_)
                          · -- 317 taken
                            exfalso
                            omega
                          · -- 317 not taken
                            exact absurd c_317 (by decide)
                        · -- 309 not taken
                          rw [lg_cmp_ge] at c_309
                          have k309 : ¬ (0 : Int64).toInt ≤ up.toInt := fun q => c_309 (Int64.le_iff_toInt_le.mpr q)
                          refine lv_iconst (v := 1) hx hb dL_fits_312 rfl ?_
                          refine lv_goto (tgt := 317) hx hb dL_fits_313 (by decide) ?_
                          refine lv_icmp_ne (tgt := 324) hx hb dL_fits_317 (by decide) (fun c_317 => ?_) (fun c_317 => ?_)
                          · -- 317 taken
                            exact absurd rfl c_317
                          · -- 317 not taken
                            refine lv_iconst (v := 1) hx hb dL_fits_320 rfl ?_
                            refine lv_goto (tgt := 325) hx hb dL_fits_321 (by decide) ?_
                            exact qRz hx hb hr hlk rfl hP hK hS dL_fits_325 rfl rfl
          · -- 224 not taken
            rw [lg_cmp_eq] at c_224
            refine lv_lload hx hb dL_fits_227 (lv_at hl 1 rfl) ?_
            refine lv_ldc2 (v := -9223372036854775808) hx hb hown (hts (.constantLong RL 79 (-9223372036854775808)) (by decide +kernel)) dL_fits_229 ?_
            refine W.lcmp hx hb dL_fits_232 ?_
            refine lv_if_ne (tgt := 249) hx hb dL_fits_233 (by decide) (fun c_233 => ?_) (fun c_233 => ?_)
            · -- 233 taken
              rw [lg_cmp_eq] at c_233
              exact absurd (hl4 c_224).1 c_233
            · -- 233 not taken
              rw [lg_cmp_eq] at c_233
              refine lv_lload hx hb dL_fits_236 (lv_at hl 0 rfl) ?_
              refine lv_ldc2 (v := -9223372036854775808) hx hb hown (hts (.constantLong RL 79 (-9223372036854775808)) (by decide +kernel)) dL_fits_238 ?_
              refine W.lcmp hx hb dL_fits_241 ?_
              refine lv_if_ne (tgt := 249) hx hb dL_fits_242 (by decide) (fun c_242 => ?_) (fun c_242 => ?_)
              · -- 242 taken
                rw [lg_cmp_eq] at c_242
                exact absurd (hl4 c_224).2 c_242
              · -- 242 not taken
                rw [lg_cmp_eq] at c_242
                refine lv_iconst (v := 1) hx hb dL_fits_245 rfl ?_
                refine lv_goto (tgt := 325) hx hb dL_fits_246 (by decide) ?_
                exact qRz hx hb hr hlk rfl hP hK hS dL_fits_325 rfl rfl
        · -- 197 not taken
          rw [lg_cmp_eq] at c_197
          exact absurd hmid c_197
  have loop : ∀ (k : Nat) (j : Nat) (xx yy : Int64), j + k = b + 1 → a ≤ j → smR (fun i => (z 3 i).toInt64) k j xx = fX z a (b + 1 - a) → smR (fun i => (z 4 i).toInt64) k j yy = fY z a (b + 1 - a) → ∀ (H : Heap) (locs : List Loc), va_P g.1 vwCl ((WX g ad) z) H → va_S (adOf 15 ad) s.heap H locs → ∀ ls : Array Slot, lv_has ls 25 [(0, .ref (ad 0)), (1, .int (nI a)), (2, .int (nI b)), (3, .long dn), (5, .long up), (7, .long ba), (9, .long un), (11, .long (lN (b + 1 - a))), (13, .long xx), (15, .long yy), (17, .int (nI j))] → W p l e (rmL 4) s m args below meth c H locs 0 0 (MQ below (va_Qi (fun q9 u9 => q9 = 1 ∧ u9 = z) (qU g (WX g ad)) (adOf 15 ad)) args s 0 0 (adOf 15 ad)) (F0 m 94 ls []) := by
    intro k
    induction k with
    | zero =>
      intro j xx yy hj2 haj hx2 hy2 H locs hP hS ls hl
      refine lv_iload hx hb dL_fits_94 (lv_at hl 10 rfl) ?_
      refine lv_iload_n hx hb dL_fits_96 rfl (lv_at hl 2 rfl) ?_
      refine lv_icmp_gt (tgt := 139) hx hb dL_fits_97 (by decide) (fun c_97 => ?_) (fun c_97 => ?_)
      · -- 97 taken
        have c_97n := i_lt_t c_97
        obtain rfl : xx = fX z a (b + 1 - a) := hx2
        obtain rfl : yy = fY z a (b + 1 - a) := hy2
        exact tail139 trivial _ _ hP hS ls (lv_sub hl [0, 1, 2, 3, 4, 5, 6, 7, 8, 9] rfl)
      · -- 97 not taken
        have c_97n := i_lt_f c_97
        exact absurd (nI_gtf (by omega) (by omega) c_97) (by omega)
    | succ k ih =>
      intro j xx yy hj2 haj hx2 hy2 H locs hP hS ls hl
      refine lv_iload hx hb dL_fits_94 (lv_at hl 10 rfl) ?_
      refine lv_iload_n hx hb dL_fits_96 rfl (lv_at hl 2 rfl) ?_
      refine lv_icmp_gt (tgt := 139) hx hb dL_fits_97 (by decide) (fun c_97 => ?_) (fun c_97 => ?_)
      · -- 97 taken
        have c_97n := i_lt_t c_97
        exact absurd (nI_gtt (by omega) (by omega) c_97) (by omega)
      · -- 97 not taken
        have c_97n := i_lt_f c_97
        refine lv_lload hx hb dL_fits_100 (lv_at hl 8 rfl) ?_
        refine lv_aload_n hx hb dL_fits_102 rfl (lv_at hl 0 rfl) ?_
        refine lv_iload hx hb dL_fits_103 (lv_at hl 10 rfl) ?_
        refine lv_iconst (v := 1) hx hb dL_fits_105 rfl ?_
        refine qVi (As := [.int (nI j), .int 1]) (rest := [.long xx]) hx hb hml hown hts (kX3_reading l g z hj hI (nI j) 1) gL_fits_X3_reading rfl 2 hdX3_reading rfl ⟨Nat.le_of_ble_eq_true rfl, Nat.le_of_ble_eq_true rfl⟩ ⟨Nat.zero_le _, Nat.zero_le _⟩ hK hP hS (fun _ h => h) 0 3 rfl rfl rfl hl.1 rfl (Nat.le_of_ble_eq_true rfl) dL_fits_106 (fun H locs hP hS => ?_)
        refine lv_sipush (v := 10000) hx hb dL_fits_109 (by decide) ?_
        refine lv_isub hx hb dL_fits_112 ?_
        refine lv_nm (y := z 3 j) (rdj_1 hI (by omega)) ?_
        refine lv_i2l hx hb dL_fits_113 rfl ?_
        refine lv_ladd hx hb dL_fits_114 ?_
        refine lv_lstore (lv' := [(13, .long (xx + ((z 3 j).toInt64))), (0, .ref (ad 0)), (1, .int (nI a)), (2, .int (nI b)), (3, .long dn), (5, .long up), (7, .long ba), (9, .long un), (11, .long (lN (b + 1 - a))), (15, .long yy), (17, .int (nI j))]) hx hb dL_fits_115 hl (by decide) rfl (fun ls hl => ?_)
        refine lv_lload hx hb dL_fits_117 (lv_at hl 9 rfl) ?_
        refine lv_aload_n hx hb dL_fits_119 rfl (lv_at hl 1 rfl) ?_
        refine lv_iload hx hb dL_fits_120 (lv_at hl 10 rfl) ?_
        refine lv_iconst (v := 2) hx hb dL_fits_122 rfl ?_
        refine qVi (As := [.int (nI j), .int 2]) (rest := [.long yy]) hx hb hml hown hts (kX3_reading l g z hj hI (nI j) 2) gL_fits_X3_reading rfl 2 hdX3_reading rfl ⟨Nat.le_of_ble_eq_true rfl, Nat.le_of_ble_eq_true rfl⟩ ⟨Nat.zero_le _, Nat.zero_le _⟩ hK hP hS (fun _ h => h) 0 3 rfl rfl rfl hl.1 rfl (Nat.le_of_ble_eq_true rfl) dL_fits_123 (fun H locs hP hS => ?_)
        refine lv_ldc (v := 50000) hx hb hown (hts (.constant RL 25 (50000)) (by decide +kernel)) dL_fits_126 ?_
        refine lv_isub hx hb dL_fits_128 ?_
        refine lv_nm (y := z 4 j) (rdj_2 hI (by omega)) ?_
        refine lv_i2l hx hb dL_fits_129 rfl ?_
        refine lv_ladd hx hb dL_fits_130 ?_
        refine lv_lstore (lv' := [(15, .long (yy + ((z 4 j).toInt64))), (13, .long (xx + ((z 3 j).toInt64))), (0, .ref (ad 0)), (1, .int (nI a)), (2, .int (nI b)), (3, .long dn), (5, .long up), (7, .long ba), (9, .long un), (11, .long (lN (b + 1 - a))), (17, .int (nI j))]) hx hb dL_fits_131 hl (by decide) rfl (fun ls hl => ?_)
        refine lv_iinc (v := nI (j + 1)) (lv' := [(17, .int (nI (j + 1))), (15, .long (yy + ((z 4 j).toInt64))), (13, .long (xx + ((z 3 j).toInt64))), (0, .ref (ad 0)), (1, .int (nI a)), (2, .int (nI b)), (3, .long dn), (5, .long up), (7, .long ba), (9, .long un), (11, .long (lN (b + 1 - a)))]) hx hb dL_fits_133 hl (k := 10) rfl (nI_1 j) (by decide) rfl (fun ls hl => ?_)
        refine lv_goto (tgt := 94) hx hb dL_fits_136 (by decide) ?_
        exact ih (j + 1) _ _ (by omega) (by omega) (by rw [← hx2]; rfl) (by rw [← hy2]; rfl) _ _ hP hS ls (lv_sub hl [3, 4, 5, 6, 7, 8, 9, 10, 2, 1, 0] rfl)
  refine lv_aload_n hx hb dL_fits_0 rfl (lv_at hl 0 rfl) ?_
  refine lv_iload_n hx hb dL_fits_1 rfl (lv_at hl 1 rfl) ?_
  refine lv_iload_n hx hb dL_fits_2 rfl (lv_at hl 2 rfl) ?_
  refine lv_iconst (v := 1) hx hb dL_fits_3 rfl ?_
  refine qVl (As := [.int (nI a), .int (nI b), .int 1]) (rest := []) hx hb hml hown hts (kX3_fit l g z hj hI (nI a) (nI b) 1) gL_fits_X3_fit rfl 3 hdX3_fit rfl ⟨Nat.le_of_ble_eq_true rfl, Nat.le_of_ble_eq_true rfl⟩ ⟨Nat.zero_le _, Nat.zero_le _⟩ hK hP hS (fun _ h => h) 0 3 rfl rfl rfl hl.1 rfl (Nat.le_of_ble_eq_true rfl) dL_fits_4 (fun H locs hP hS => ?_)
  refine lv_nmL (y := dn) ((fw (by decide)).trans f1) ?_
  refine lv_lstore_n (lv' := [(3, .long dn), (0, .ref (ad 0)), (1, .int (nI a)), (2, .int (nI b))]) hx hb dL_fits_7 rfl hl (by decide) rfl (fun ls hl => ?_)
  refine lv_lload_n hx hb dL_fits_8 rfl (lv_at hl 0 rfl) ?_
  refine lv_ldc2 (v := -9223372036854775808) hx hb hown (hts (.constantLong RL 79 (-9223372036854775808)) (by decide +kernel)) dL_fits_9 ?_
  refine W.lcmp hx hb dL_fits_12 ?_
  refine lv_if_ne (tgt := 50) hx hb dL_fits_13 (by decide) (fun c_13 => ?_) (fun c_13 => ?_)
  · -- 13 taken
    rw [lg_cmp_eq] at c_13
    refine lv_aload_n hx hb dL_fits_50 rfl (lv_at hl 1 rfl) ?_
    refine lv_iload_n hx hb dL_fits_51 rfl (lv_at hl 2 rfl) ?_
    refine lv_iload_n hx hb dL_fits_52 rfl (lv_at hl 3 rfl) ?_
    refine lv_iconst (v := 0) hx hb dL_fits_53 rfl ?_
    refine qVl (As := [.int (nI a), .int (nI b), .int 0]) (rest := []) hx hb hml hown hts (kX3_fit l g z hj hI (nI a) (nI b) 0) gL_fits_X3_fit rfl 3 hdX3_fit rfl ⟨Nat.le_of_ble_eq_true rfl, Nat.le_of_ble_eq_true rfl⟩ ⟨Nat.zero_le _, Nat.zero_le _⟩ hK hP hS (fun _ h => h) 0 3 rfl rfl rfl hl.1 rfl (Nat.le_of_ble_eq_true rfl) dL_fits_54 (fun H locs hP hS => ?_)
    refine lv_nmL (y := up) ((fw (by decide)).trans f0) ?_
    refine lv_lstore (lv' := [(5, .long up), (3, .long dn), (0, .ref (ad 0)), (1, .int (nI a)), (2, .int (nI b))]) hx hb dL_fits_57 hl (by decide) rfl (fun ls hl => ?_)
    refine lv_aload_n hx hb dL_fits_59 rfl (lv_at hl 2 rfl) ?_
    refine lv_iload_n hx hb dL_fits_60 rfl (lv_at hl 3 rfl) ?_
    refine lv_iload_n hx hb dL_fits_61 rfl (lv_at hl 4 rfl) ?_
    refine lv_iconst (v := 2) hx hb dL_fits_62 rfl ?_
    refine qVl (As := [.int (nI a), .int (nI b), .int 2]) (rest := []) hx hb hml hown hts (kX3_fit l g z hj hI (nI a) (nI b) 2) gL_fits_X3_fit rfl 3 hdX3_fit rfl ⟨Nat.le_of_ble_eq_true rfl, Nat.le_of_ble_eq_true rfl⟩ ⟨Nat.zero_le _, Nat.zero_le _⟩ hK hP hS (fun _ h => h) 0 3 rfl rfl rfl hl.1 rfl (Nat.le_of_ble_eq_true rfl) dL_fits_63 (fun H locs hP hS => ?_)
    refine lv_nmL (y := ba) ((fw (by decide)).trans f2) ?_
    refine lv_lstore (lv' := [(7, .long ba), (5, .long up), (3, .long dn), (0, .ref (ad 0)), (1, .int (nI a)), (2, .int (nI b))]) hx hb dL_fits_66 hl (by decide) rfl (fun ls hl => ?_)
    refine lv_aload_n hx hb dL_fits_68 rfl (lv_at hl 3 rfl) ?_
    refine lv_iload_n hx hb dL_fits_69 rfl (lv_at hl 4 rfl) ?_
    refine lv_iload_n hx hb dL_fits_70 rfl (lv_at hl 5 rfl) ?_
    refine lv_iconst (v := 3) hx hb dL_fits_71 rfl ?_
    refine qVl (As := [.int (nI a), .int (nI b), .int 3]) (rest := []) hx hb hml hown hts (kX3_fit l g z hj hI (nI a) (nI b) 3) gL_fits_X3_fit rfl 3 hdX3_fit rfl ⟨Nat.le_of_ble_eq_true rfl, Nat.le_of_ble_eq_true rfl⟩ ⟨Nat.zero_le _, Nat.zero_le _⟩ hK hP hS (fun _ h => h) 0 3 rfl rfl rfl hl.1 rfl (Nat.le_of_ble_eq_true rfl) dL_fits_72 (fun H locs hP hS => ?_)
    refine lv_nmL (y := un) ((fw (by decide)).trans f3) ?_
    refine lv_lstore (lv' := [(9, .long un), (7, .long ba), (5, .long up), (3, .long dn), (0, .ref (ad 0)), (1, .int (nI a)), (2, .int (nI b))]) hx hb dL_fits_75 hl (by decide) rfl (fun ls hl => ?_)
    refine lv_iload_n hx hb dL_fits_77 rfl (lv_at hl 6 rfl) ?_
    refine lv_iload_n hx hb dL_fits_78 rfl (lv_at hl 5 rfl) ?_
    refine lv_isub hx hb dL_fits_79 ?_
    refine lv_iconst (v := 1) hx hb dL_fits_80 rfl ?_
    refine lv_iadd hx hb dL_fits_81 ?_
    refine lv_i2l hx hb dL_fits_82 rfl ?_
    refine lv_nmL (y := lN (b + 1 - a)) (nlen hab hb6) ?_
    refine lv_lstore (lv' := [(11, .long (lN (b + 1 - a))), (9, .long un), (7, .long ba), (5, .long up), (3, .long dn), (0, .ref (ad 0)), (1, .int (nI a)), (2, .int (nI b))]) hx hb dL_fits_83 hl (by decide) rfl (fun ls hl => ?_)
    refine lv_lconst (v := 0) hx hb dL_fits_85 rfl ?_
    refine lv_lstore (lv' := [(13, .long 0), (11, .long (lN (b + 1 - a))), (9, .long un), (7, .long ba), (5, .long up), (3, .long dn), (0, .ref (ad 0)), (1, .int (nI a)), (2, .int (nI b))]) hx hb dL_fits_86 hl (by decide) rfl (fun ls hl => ?_)
    refine lv_lconst (v := 0) hx hb dL_fits_88 rfl ?_
    refine lv_lstore (lv' := [(15, .long 0), (13, .long 0), (11, .long (lN (b + 1 - a))), (9, .long un), (7, .long ba), (5, .long up), (3, .long dn), (0, .ref (ad 0)), (1, .int (nI a)), (2, .int (nI b))]) hx hb dL_fits_89 hl (by decide) rfl (fun ls hl => ?_)
    refine lv_iload_n hx hb dL_fits_91 rfl (lv_at hl 8 rfl) ?_
    refine lv_istore (lv' := [(17, .int (nI a)), (15, .long 0), (13, .long 0), (11, .long (lN (b + 1 - a))), (9, .long un), (7, .long ba), (5, .long up), (3, .long dn), (0, .ref (ad 0)), (1, .int (nI a)), (2, .int (nI b))]) hx hb dL_fits_92 hl (by decide) rfl (fun ls hl => ?_)
    exact loop (b + 1 - a) a 0 0 (by omega) (Nat.le_refl a) rfl rfl _ _ hP hS ls (lv_sub hl [8, 9, 10, 7, 6, 5, 4, 3, 2, 1, 0] rfl)
  · -- 13 not taken
    rw [lg_cmp_eq] at c_13
    exact absurd c_13 (l_min hdn)
