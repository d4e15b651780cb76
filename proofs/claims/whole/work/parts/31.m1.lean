set_option maxHeartbeats 4000000 in
set_option maxRecDepth 100000 in
theorem kX4_within (l : Launch) (g : qG) {S : Type} {Wd : S → va_W} {A : Nat → Prop} (u : S) (v a b : Int32) : qMi l yX4_within wsX4_within 0 g Wd A u [.int v, .int a, .int b] (bI (inR v a b)) u := by
  refine qStart (cc := cX4_within) (maxL := 3) (ret := (some .boolean)) (plainFor_of_name (by decide)) rfl (Nat.le_of_ble_eq_true rfl) ?_
  intro p e s m args below meth c hx hb hml hown hts hr hlk hP hK ls hl
  have hl : lv_has ls 3 [(0, .int v), (1, .int a), (2, .int b)] := hl
  have hS : va_S A s.heap s.heap [] := va_S.rf
  refine lv_iload_n hx hb dX4_within_0 rfl (lv_at hl 0 rfl) ?_
  refine lv_iload_n hx hb dX4_within_1 rfl (lv_at hl 1 rfl) ?_
  refine lv_icmp_lt (tgt := 14) hx hb dX4_within_2 (by decide) (fun c_2 => ?_) (fun c_2 => ?_)
  · -- 2 taken
    have c_2n := i_lt_t c_2
    refine lv_iconst (v := 0) hx hb dX4_within_14 rfl ?_
    exact qRz hx hb hr hlk rfl hP hK hS dX4_within_15 (by first | rfl | simp [bI, inR, c_2, c_2n]) (by first | rfl | simp [bI, inR, c_2, c_2n])
  · -- 2 not taken
    have c_2n := i_lt_f c_2
    refine lv_iload_n hx hb dX4_within_5 rfl (lv_at hl 0 rfl) ?_
    refine lv_iload_n hx hb dX4_within_6 rfl (lv_at hl 2 rfl) ?_
    refine lv_icmp_gt (tgt := 14) hx hb dX4_within_7 (by decide) (fun c_7 => ?_) (fun c_7 => ?_)
    · -- 7 taken
      have c_7n := i_lt_t c_7
      refine lv_iconst (v := 0) hx hb dX4_within_14 rfl ?_
      exact qRz hx hb hr hlk rfl hP hK hS dX4_within_15 (by first | rfl | simp [bI, inR, c_2, c_2n, c_7, c_7n]) (by first | rfl | simp [bI, inR, c_2, c_2n, c_7, c_7n])
    · -- 7 not taken
      have c_7n := i_lt_f c_7
      refine lv_iconst (v := 1) hx hb dX4_within_10 rfl ?_
      refine lv_goto (tgt := 15) hx hb dX4_within_11 (by decide) ?_
      exact qRz hx hb hr hlk rfl hP hK hS dX4_within_15 (by first | rfl | simp [bI, inR, c_2, c_2n, c_7, c_7n]) (by first | rfl | simp [bI, inR, c_2, c_2n, c_7, c_7n])
set_option maxHeartbeats 4000000 in
set_option maxRecDepth 100000 in
theorem kX4_size (l : Launch) (g : qG) {S : Type} {Wd : S → va_W} {A : Nat → Prop} (u : S) (v : Int32) : qMi l yX4_size wsX4_size 0 g Wd A u [.int v] (absI v) u := by
  refine qStart (cc := cX4_size) (maxL := 1) (ret := (some .int)) (plainFor_of_name (by decide)) rfl (Nat.le_of_ble_eq_true rfl) ?_
  intro p e s m args below meth c hx hb hml hown hts hr hlk hP hK ls hl
  have hl : lv_has ls 1 [(0, .int v)] := hl
  have hS : va_S A s.heap s.heap [] := va_S.rf
  refine lv_iload_n hx hb dX4_size_0 rfl (lv_at hl 0 rfl) ?_
  refine lv_if_ge (tgt := 9) hx hb dX4_size_1 (by decide) (fun c_1 => ?_) (fun c_1 => ?_)
  · -- 1 taken
    have c_1n := i_le_t c_1
    refine lv_iload_n hx hb dX4_size_9 rfl (lv_at hl 0 rfl) ?_
    exact qRi hx hb hr hlk hP hK hS dX4_size_10 (by unfold absI; rw [if_pos c_1]) rfl
  · -- 1 not taken
    have c_1n := i_le_f c_1
    refine lv_iload_n hx hb dX4_size_4 rfl (lv_at hl 0 rfl) ?_
    refine lv_ineg hx hb dX4_size_5 ?_
    refine lv_goto (tgt := 10) hx hb dX4_size_6 (by decide) ?_
    exact qRi hx hb hr hlk hP hK hS dX4_size_10 (sz_abs c_1) rfl
set_option maxHeartbeats 4000000 in
set_option maxRecDepth 100000 in
theorem kX4_cut (l : Launch) (g : qG) {S : Type} {Wd : S → va_W} {A : Nat → Prop} (u : S) (v d : Int32) (hd : 0 < d.toInt) (hd2 : d.toInt ≤ 100000000) (hv : -1000000000 ≤ v.toInt) : qMi l yX4_cut wsX4_cut 0 g Wd A u [.int v, .int d] (fdv v d) u := by
  refine qStart (cc := cX4_cut) (maxL := 2) (ret := (some .int)) (plainFor_of_name (by decide)) rfl (Nat.le_of_ble_eq_true rfl) ?_
  intro p e s m args below meth c hx hb hml hown hts hr hlk hP hK ls hl
  have hl : lv_has ls 2 [(0, .int v), (1, .int d)] := hl
  have hS : va_S A s.heap s.heap [] := va_S.rf
  refine lv_iload_n hx hb dX4_cut_0 rfl (lv_at hl 0 rfl) ?_
  refine lv_if_lt (tgt := 10) hx hb dX4_cut_1 (by decide) (fun c_1 => ?_) (fun c_1 => ?_)
  · -- 1 taken
    have c_1n := i_lt_t c_1
    refine lv_iload_n hx hb dX4_cut_10 rfl (lv_at hl 1 rfl) ?_
    refine lv_iconst (v := 1) hx hb dX4_cut_11 rfl ?_
    refine lv_isub hx hb dX4_cut_12 ?_
    refine lv_iload_n hx hb dX4_cut_13 rfl (lv_at hl 0 rfl) ?_
    refine lv_isub hx hb dX4_cut_14 ?_
    refine lv_iload_n hx hb dX4_cut_15 rfl (lv_at hl 1 rfl) ?_
    refine lv_idiv hx hb dX4_cut_16 (pos_ne hd) ?_
    refine lv_ineg hx hb dX4_cut_17 ?_
    exact qRi hx hb hr hlk hP hK hS dX4_cut_18 (cut_n hd hd2 hv c_1) rfl
  · -- 1 not taken
    have c_1n := i_lt_f c_1
    refine lv_iload_n hx hb dX4_cut_4 rfl (lv_at hl 0 rfl) ?_
    refine lv_iload_n hx hb dX4_cut_5 rfl (lv_at hl 1 rfl) ?_
    refine lv_idiv hx hb dX4_cut_6 (pos_ne hd) ?_
    refine lv_goto (tgt := 18) hx hb dX4_cut_7 (by decide) ?_
    exact qRi hx hb hr hlk hP hK hS dX4_cut_18 (cut_p hd c_1) rfl
set_option maxHeartbeats 4000000 in
set_option maxRecDepth 100000 in
theorem kX4_isPin (l : Launch) (g : qG) {S : Type} {Wd : S → va_W} {A : Nat → Prop} (u : S) (v : Int32) : qMi l yX4_isPin wsX4_isPin 1 g Wd A u [.int v] (bI (inR v 0 7)) u := by
  refine qStart (cc := cX4_isPin) (maxL := 1) (ret := (some .boolean)) (plainFor_of_name (by decide)) rfl (Nat.le_of_ble_eq_true rfl) ?_
  intro p e s m args below meth c hx hb hml hown hts hr hlk hP hK ls hl
  have hl : lv_has ls 1 [(0, .int v)] := hl
  have hS : va_S A s.heap s.heap [] := va_S.rf
  refine lv_iload_n hx hb dX4_isPin_0 rfl (lv_at hl 0 rfl) ?_
  refine lv_iconst (v := 0) hx hb dX4_isPin_1 rfl ?_
  refine lv_bipush (v := 7) hx hb dX4_isPin_2 (by decide) ?_
  refine qSi (As := [.int v, .int 0, .int 7]) (rest := []) hx hb hml hown hts (kX4_within l g (Wd := Wd) (A := A) u v 0 7) gX4_isPin_X4_within rfl 3 hdX4_within rfl ⟨Nat.le_of_ble_eq_true rfl, Nat.le_of_ble_eq_true rfl⟩ ⟨Nat.zero_le _, Nat.zero_le _⟩ hK hP hS (fun _ h => h) hl.1 rfl (Nat.le_of_ble_eq_true rfl) dX4_isPin_4 (fun H locs hP hS => ?_)
  exact qRz hx hb hr hlk (bI_nar _) hP hK hS dX4_isPin_7 (by first | rfl | simp []) (by first | rfl | simp [])
set_option maxHeartbeats 4000000 in
set_option maxRecDepth 100000 in
theorem kX4_isTerminal (l : Launch) (g : qG) {S : Type} {Wd : S → va_W} {A : Nat → Prop} (u : S) (v : Int32) : qMi l yX4_isTerminal wsX4_isTerminal 1 g Wd A u [.int v] (bI (inR v 0 3)) u := by
  refine qStart (cc := cX4_isTerminal) (maxL := 1) (ret := (some .boolean)) (plainFor_of_name (by decide)) rfl (Nat.le_of_ble_eq_true rfl) ?_
  intro p e s m args below meth c hx hb hml hown hts hr hlk hP hK ls hl
  have hl : lv_has ls 1 [(0, .int v)] := hl
  have hS : va_S A s.heap s.heap [] := va_S.rf
  refine lv_iload_n hx hb dX4_isTerminal_0 rfl (lv_at hl 0 rfl) ?_
  refine lv_iconst (v := 0) hx hb dX4_isTerminal_1 rfl ?_
  refine lv_iconst (v := 3) hx hb dX4_isTerminal_2 rfl ?_
  refine qSi (As := [.int v, .int 0, .int 3]) (rest := []) hx hb hml hown hts (kX4_within l g (Wd := Wd) (A := A) u v 0 3) gX4_isTerminal_X4_within rfl 3 hdX4_within rfl ⟨Nat.le_of_ble_eq_true rfl, Nat.le_of_ble_eq_true rfl⟩ ⟨Nat.zero_le _, Nat.zero_le _⟩ hK hP hS (fun _ h => h) hl.1 rfl (Nat.le_of_ble_eq_true rfl) dX4_isTerminal_3 (fun H locs hP hS => ?_)
  exact qRz hx hb hr hlk (bI_nar _) hP hK hS dX4_isTerminal_6 (by first | rfl | simp []) (by first | rfl | simp [])
set_option maxHeartbeats 4000000 in
set_option maxRecDepth 100000 in
theorem kX4_isSweep (l : Launch) (g : qG) {S : Type} {Wd : S → va_W} {A : Nat → Prop} (u : S) (a b st w n back : Int32) : qMi l yX4_isSweep wsX4_isSweep 1 g Wd A u [.int a, .int b, .int st, .int w, .int n, .int back] (bI (isSw a b st w n back)) u := by
  refine qStart (cc := cX4_isSweep) (maxL := 7) (ret := (some .boolean)) (plainFor_of_name (by decide)) rfl (Nat.le_of_ble_eq_true rfl) ?_
  intro p e s m args below meth c hx hb hml hown hts hr hlk hP hK ls hl
  have hl : lv_has ls 7 [(0, .int a), (1, .int b), (2, .int st), (3, .int w), (4, .int n), (5, .int back)] := hl
  have hS : va_S A s.heap s.heap [] := va_S.rf
  refine lv_iload_n hx hb dX4_isSweep_0 rfl (lv_at hl 0 rfl) ?_
  refine lv_sipush (v := -3000) hx hb dX4_isSweep_1 (by decide) ?_
  refine lv_sipush (v := 3000) hx hb dX4_isSweep_4 (by decide) ?_
  refine qSi (As := [.int a, .int (-3000), .int 3000]) (rest := []) hx hb hml hown hts (kX4_within l g (Wd := Wd) (A := A) u a (-3000) 3000) gX4_isSweep_X4_within rfl 3 hdX4_within rfl ⟨Nat.le_of_ble_eq_true rfl, Nat.le_of_ble_eq_true rfl⟩ ⟨Nat.zero_le _, Nat.zero_le _⟩ hK hP hS (fun _ h => h) hl.1 rfl (Nat.le_of_ble_eq_true rfl) dX4_isSweep_7 (fun H locs hP hS => ?_)
  refine lv_if_eq (tgt := 41) hx hb dX4_isSweep_10 (by decide) (fun c_10 => ?_) (fun c_10 => ?_)
  · -- 10 taken
    have c_10 := bI_0 c_10
    refine lv_iconst (v := 0) hx hb dX4_isSweep_41 rfl ?_
    refine lv_istore (lv' := [(6, .int 0), (0, .int a), (1, .int b), (2, .int st), (3, .int w), (4, .int n), (5, .int back)]) hx hb dX4_isSweep_42 hl (by decide) rfl (fun ls hl => ?_)
    refine lv_iload hx hb dX4_isSweep_44 (lv_at hl 0 rfl) ?_
    refine lv_if_eq (tgt := 84) hx hb dX4_isSweep_46 (by decide) (fun c_46 => ?_) (fun c_46 => ?_)
    · -- 46 taken
      refine lv_iconst (v := 0) hx hb dX4_isSweep_84 rfl ?_
      exact qRz hx hb hr hlk rfl hP hK hS dX4_isSweep_85 (by first | rfl | simp [bI, isSw, c_10, c_46]) (by first | rfl | simp [bI, isSw, c_10, c_46])
    · -- 46 not taken
      exact absurd rfl c_46
  · -- 10 not taken
    have c_10 := bI_n c_10
    refine lv_iload_n hx hb dX4_isSweep_13 rfl (lv_at hl 1 rfl) ?_
    refine lv_sipush (v := -3000) hx hb dX4_isSweep_14 (by decide) ?_
    refine lv_sipush (v := 3000) hx hb dX4_isSweep_17 (by decide) ?_
    refine qSi (As := [.int b, .int (-3000), .int 3000]) (rest := []) hx hb hml hown hts (kX4_within l g (Wd := Wd) (A := A) u b (-3000) 3000) gX4_isSweep_X4_within rfl 3 hdX4_within rfl ⟨Nat.le_of_ble_eq_true rfl, Nat.le_of_ble_eq_true rfl⟩ ⟨Nat.zero_le _, Nat.zero_le _⟩ hK hP hS (fun _ h => h) hl.1 rfl (Nat.le_of_ble_eq_true rfl) dX4_isSweep_20 (fun H locs hP hS => ?_)
    refine lv_if_eq (tgt := 41) hx hb dX4_isSweep_23 (by decide) (fun c_23 => ?_) (fun c_23 => ?_)
    · -- 23 taken
      have c_23 := bI_0 c_23
      refine lv_iconst (v := 0) hx hb dX4_isSweep_41 rfl ?_
      refine lv_istore (lv' := [(6, .int 0), (0, .int a), (1, .int b), (2, .int st), (3, .int w), (4, .int n), (5, .int back)]) hx hb dX4_isSweep_42 hl (by decide) rfl (fun ls hl => ?_)
      refine lv_iload hx hb dX4_isSweep_44 (lv_at hl 0 rfl) ?_
      refine lv_if_eq (tgt := 84) hx hb dX4_isSweep_46 (by decide) (fun c_46 => ?_) (fun c_46 => ?_)
      · -- 46 taken
        refine lv_iconst (v := 0) hx hb dX4_isSweep_84 rfl ?_
        exact qRz hx hb hr hlk rfl hP hK hS dX4_isSweep_85 (by first | rfl | simp [bI, isSw, c_10, c_23, c_46]) (by first | rfl | simp [bI, isSw, c_10, c_23, c_46])
      · -- 46 not taken
        exact absurd rfl c_46
    · -- 23 not taken
      have c_23 := bI_n c_23
      refine lv_iload_n hx hb dX4_isSweep_26 rfl (lv_at hl 2 rfl) ?_
      refine lv_iconst (v := 1) hx hb dX4_isSweep_27 rfl ?_
      refine lv_sipush (v := 1000) hx hb dX4_isSweep_28 (by decide) ?_
      refine qSi (As := [.int st, .int 1, .int 1000]) (rest := []) hx hb hml hown hts (kX4_within l g (Wd := Wd) (A := A) u st 1 1000) gX4_isSweep_X4_within rfl 3 hdX4_within rfl ⟨Nat.le_of_ble_eq_true rfl, Nat.le_of_ble_eq_true rfl⟩ ⟨Nat.zero_le _, Nat.zero_le _⟩ hK hP hS (fun _ h => h) hl.1 rfl (Nat.le_of_ble_eq_true rfl) dX4_isSweep_31 (fun H locs hP hS => ?_)
      refine lv_if_eq (tgt := 41) hx hb dX4_isSweep_34 (by decide) (fun c_34 => ?_) (fun c_34 => ?_)
      · -- 34 taken
        have c_34 := bI_0 c_34
        refine lv_iconst (v := 0) hx hb dX4_isSweep_41 rfl ?_
        refine lv_istore (lv' := [(6, .int 0), (0, .int a), (1, .int b), (2, .int st), (3, .int w), (4, .int n), (5, .int back)]) hx hb dX4_isSweep_42 hl (by decide) rfl (fun ls hl => ?_)
        refine lv_iload hx hb dX4_isSweep_44 (lv_at hl 0 rfl) ?_
        refine lv_if_eq (tgt := 84) hx hb dX4_isSweep_46 (by decide) (fun c_46 => ?_) (fun c_46 => ?_)
        · -- 46 taken
          refine lv_iconst (v := 0) hx hb dX4_isSweep_84 rfl ?_
          exact qRz hx hb hr hlk rfl hP hK hS dX4_isSweep_85 (by first | rfl | simp [bI, isSw, c_10, c_23, c_34, c_46]) (by first | rfl | simp [bI, isSw, c_10, c_23, c_34, c_46])
        · -- 46 not taken
          exact absurd rfl c_46
      · -- 34 not taken
        have c_34 := bI_n c_34
        refine lv_iconst (v := 1) hx hb dX4_isSweep_37 rfl ?_
        refine lv_goto (tgt := 42) hx hb dX4_isSweep_38 (by decide) ?_
        refine lv_istore (lv' := [(6, .int 1), (0, .int a), (1, .int b), (2, .int st), (3, .int w), (4, .int n), (5, .int back)]) hx hb dX4_isSweep_42 hl (by decide) rfl (fun ls hl => ?_)
        refine lv_iload hx hb dX4_isSweep_44 (lv_at hl 0 rfl) ?_
        refine lv_if_eq (tgt := 84) hx hb dX4_isSweep_46 (by decide) (fun c_46 => ?_) (fun c_46 => ?_)
        · -- 46 taken
          exact absurd c_46 (by decide)
        · -- 46 not taken
          refine lv_iload_n hx hb dX4_isSweep_49 rfl (lv_at hl 4 rfl) ?_
          refine lv_iconst (v := 1) hx hb dX4_isSweep_50 rfl ?_
          refine lv_bipush (v := 50) hx hb dX4_isSweep_51 (by decide) ?_
          refine qSi (As := [.int w, .int 1, .int 50]) (rest := []) hx hb hml hown hts (kX4_within l g (Wd := Wd) (A := A) u w 1 50) gX4_isSweep_X4_within rfl 3 hdX4_within rfl ⟨Nat.le_of_ble_eq_true rfl, Nat.le_of_ble_eq_true rfl⟩ ⟨Nat.zero_le _, Nat.zero_le _⟩ hK hP hS (fun _ h => h) hl.1 rfl (Nat.le_of_ble_eq_true rfl) dX4_isSweep_53 (fun H locs hP hS => ?_)
          refine lv_if_eq (tgt := 84) hx hb dX4_isSweep_56 (by decide) (fun c_56 => ?_) (fun c_56 => ?_)
          · -- 56 taken
            have c_56 := bI_0 c_56
            refine lv_iconst (v := 0) hx hb dX4_isSweep_84 rfl ?_
            exact qRz hx hb hr hlk rfl hP hK hS dX4_isSweep_85 (by first | rfl | simp [bI, isSw, c_10, c_23, c_34, c_46, c_56]) (by first | rfl | simp [bI, isSw, c_10, c_23, c_34, c_46, c_56])
          · -- 56 not taken
            have c_56 := bI_n c_56
            refine lv_iload hx hb dX4_isSweep_59 (lv_at hl 5 rfl) ?_
            refine lv_iconst (v := 0) hx hb dX4_isSweep_61 rfl ?_
            refine lv_bipush (v := 100) hx hb dX4_isSweep_62 (by decide) ?_
            refine qSi (As := [.int n, .int 0, .int 100]) (rest := []) hx hb hml hown hts (kX4_within l g (Wd := Wd) (A := A) u n 0 100) gX4_isSweep_X4_within rfl 3 hdX4_within rfl ⟨Nat.le_of_ble_eq_true rfl, Nat.le_of_ble_eq_true rfl⟩ ⟨Nat.zero_le _, Nat.zero_le _⟩ hK hP hS (fun _ h => h) hl.1 rfl (Nat.le_of_ble_eq_true rfl) dX4_isSweep_64 (fun H locs hP hS => ?_)
            refine lv_if_eq (tgt := 84) hx hb dX4_isSweep_67 (by decide) (fun c_67 => ?_) (fun c_67 => ?_)
            · -- 67 taken
              have c_67 := bI_0 c_67
              refine lv_iconst (v := 0) hx hb dX4_isSweep_84 rfl ?_
              exact qRz hx hb hr hlk rfl hP hK hS dX4_isSweep_85 (by first | rfl | simp [bI, isSw, c_10, c_23, c_34, c_46, c_56, c_67]) (by first | rfl | simp [bI, isSw, c_10, c_23, c_34, c_46, c_56, c_67])
            · -- 67 not taken
              have c_67 := bI_n c_67
              refine lv_iload hx hb dX4_isSweep_70 (lv_at hl 6 rfl) ?_
              refine lv_iconst (v := 0) hx hb dX4_isSweep_72 rfl ?_
              refine lv_iconst (v := 1) hx hb dX4_isSweep_73 rfl ?_
              refine qSi (As := [.int back, .int 0, .int 1]) (rest := []) hx hb hml hown hts (kX4_within l g (Wd := Wd) (A := A) u back 0 1) gX4_isSweep_X4_within rfl 3 hdX4_within rfl ⟨Nat.le_of_ble_eq_true rfl, Nat.le_of_ble_eq_true rfl⟩ ⟨Nat.zero_le _, Nat.zero_le _⟩ hK hP hS (fun _ h => h) hl.1 rfl (Nat.le_of_ble_eq_true rfl) dX4_isSweep_74 (fun H locs hP hS => ?_)
              refine lv_if_eq (tgt := 84) hx hb dX4_isSweep_77 (by decide) (fun c_77 => ?_) (fun c_77 => ?_)
              · -- 77 taken
                have c_77 := bI_0 c_77
                refine lv_iconst (v := 0) hx hb dX4_isSweep_84 rfl ?_
                exact qRz hx hb hr hlk rfl hP hK hS dX4_isSweep_85 (by first | rfl | simp [bI, isSw, c_10, c_23, c_34, c_46, c_56, c_67, c_77]) (by first | rfl | simp [bI, isSw, c_10, c_23, c_34, c_46, c_56, c_67, c_77])
              · -- 77 not taken
                have c_77 := bI_n c_77
                refine lv_iconst (v := 1) hx hb dX4_isSweep_80 rfl ?_
                refine lv_goto (tgt := 85) hx hb dX4_isSweep_81 (by decide) ?_
                exact qRz hx hb hr hlk rfl hP hK hS dX4_isSweep_85 (by first | rfl | simp [bI, isSw, c_10, c_23, c_34, c_46, c_56, c_67, c_77]) (by first | rfl | simp [bI, isSw, c_10, c_23, c_34, c_46, c_56, c_67, c_77])
set_option maxHeartbeats 4000000 in
set_option maxRecDepth 100000 in
theorem kX4_isPart (l : Launch) (g : qG) {am : Nat → Nat} (z : zS) (r : Nat → Int32) (hj : adInj 18 am) (n : Int32) : qMi l yX4_isPart wsX4_isPart 1 g (WMu g am) (adOf 18 am) (z, r) [.ref (am 0), .int n] (bI (pOk z n)) (z, r) := by
  refine qStart (cc := cX4_isPart) (maxL := 2) (ret := (some .boolean)) (plainFor_of_name (by decide)) rfl (Nat.le_of_ble_eq_true rfl) ?_
  intro p e s m args below meth c hx hb hml hown hts hr hlk hP hK ls hl
  have hl : lv_has ls 2 [(0, .ref (am 0)), (1, .int n)] := hl
  have hS : va_S (adOf 18 am) s.heap s.heap [] := va_S.rf
  have hin4 : ∀ w ∈ u_ws RX4 TX4 25, w ∈ wsX4_isPart := by decide +kernel
  refine lv_iload_n hx hb dX4_isPart_0 rfl (lv_at hl 1 rfl) ?_
  refine lv_iconst (v := 0) hx hb dX4_isPart_1 rfl ?_
  refine lv_iconst (v := 3) hx hb dX4_isPart_2 rfl ?_
  refine qSi (As := [.int n, .int 0, .int 3]) (rest := []) hx hb hml hown hts (kX4_within l g (Wd := (WMu g am)) (A := (adOf 18 am)) (z, r) n 0 3) gX4_isPart_X4_within rfl 3 hdX4_within rfl ⟨Nat.le_of_ble_eq_true rfl, Nat.le_of_ble_eq_true rfl⟩ ⟨Nat.zero_le _, Nat.zero_le _⟩ hK hP hS (fun _ h => h) hl.1 rfl (Nat.le_of_ble_eq_true rfl) dX4_isPart_3 (fun H locs hP hS => ?_)
  refine lv_if_eq (tgt := 22) hx hb dX4_isPart_6 (by decide) (fun c_6 => ?_) (fun c_6 => ?_)
  · -- 6 taken
    have c_6 := bI_0 c_6
    refine lv_iconst (v := 0) hx hb dX4_isPart_22 rfl ?_
    exact qRz hx hb hr hlk rfl hP hK hS dX4_isPart_23 (by first | rfl | simp [bI, pOk, c_6]) (by first | rfl | simp [bI, pOk, c_6])
  · -- 6 not taken
    have c_6 := bI_n c_6
    refine lv_aload_n hx hb dX4_isPart_9 rfl (lv_at hl 0 rfl) ?_
    refine qGet (ci := 4) (v := .ref (am 1)) (C := RX4) (T := TX4) (N := 25) hx hb hts hin4 hown hK hP 0 rfl rfl 0 (by decide) (hts (.fieldLink RX4 7 "PartCurvesModel" "isThere" "[Z") (by decide +kernel)) rfl dX4_isPart_10 ?_
    refine lv_iload_n hx hb dX4_isPart_13 rfl (lv_at hl 1 rfl) ?_
    refine qZld (v := (z (10 + ix n) 0)) hx hb hK hP 1 rfl (inR_vp (n := 3) rfl c_6 4 (by decide)) rfl dX4_isPart_14 ?_
    refine lv_if_eq (tgt := 22) hx hb dX4_isPart_15 (by decide) (fun c_15 => ?_) (fun c_15 => ?_)
    · -- 15 taken
      refine lv_iconst (v := 0) hx hb dX4_isPart_22 rfl ?_
      exact qRz hx hb hr hlk rfl hP hK hS dX4_isPart_23 (by first | rfl | simp [bI, pOk, c_6, c_15]) (by first | rfl | simp [bI, pOk, c_6, c_15])
    · -- 15 not taken
      refine lv_iconst (v := 1) hx hb dX4_isPart_18 rfl ?_
      refine lv_goto (tgt := 23) hx hb dX4_isPart_19 (by decide) ?_
      exact qRz hx hb hr hlk rfl hP hK hS dX4_isPart_23 (by first | rfl | simp [bI, pOk, c_6, c_15]) (by first | rfl | simp [bI, pOk, c_6, c_15])
set_option maxHeartbeats 4000000 in
set_option maxRecDepth 100000 in
theorem kX4_number (l : Launch) (g : qG) {am : Nat → Nat} (z : zS) (r : Nat → Int32) (hj : adInj 18 am) {k : Nat} (hk : k < 5) (n : Int32) (hn : inR n 0 3 = true) : qMi l yX4_number wsX4_number 0 g (WMu g am) (adOf 18 am) (z, r) [.ref (am 0), .int n, .int (nI k)] (z (10 + ix n) (7 + k)) (z, r) := by
  refine qStart (cc := cX4_number) (maxL := 3) (ret := (some .int)) (plainFor_of_name (by decide)) rfl (Nat.le_of_ble_eq_true rfl) ?_
  intro p e s m args below meth c hx hb hml hown hts hr hlk hP hK ls hl
  have hl : lv_has ls 3 [(0, .ref (am 0)), (1, .int n), (2, .int (nI k))] := hl
  have hS : va_S (adOf 18 am) s.heap s.heap [] := va_S.rf
  have hin4 : ∀ w ∈ u_ws RX4 TX4 25, w ∈ wsX4_number := by decide +kernel
  refine lv_aload_n hx hb dX4_number_0 rfl (lv_at hl 0 rfl) ?_
  refine qGet (ci := 4) (v := .ref (am 5)) (C := RX4) (T := TX4) (N := 25) hx hb hts hin4 hown hK hP 0 rfl rfl 4 (by decide) (hts (.fieldLink RX4 23 "PartCurvesModel" "numberOf" "[I") (by decide +kernel)) rfl dX4_number_1 ?_
  refine lv_iconst (v := 5) hx hb dX4_number_4 rfl ?_
  refine lv_iload_n hx hb dX4_number_5 rfl (lv_at hl 1 rfl) ?_
  refine lv_imul hx hb dX4_number_6 ?_
  refine lv_iload_n hx hb dX4_number_7 rfl (lv_at hl 2 rfl) ?_
  refine lv_iadd hx hb dX4_number_8 ?_
  refine qIld (v := (z (10 + ix n) (7 + k))) hx hb hK hP 5 rfl (num_ix hn hk).2.1 (num_at z hn hk) dX4_number_9 ?_
  exact qRi hx hb hr hlk hP hK hS dX4_number_10 (by first | rfl | simp []) (by first | rfl | simp [])
set_option maxHeartbeats 4000000 in
set_option maxRecDepth 100000 in
theorem kX4_pinOf (l : Launch) (g : qG) {am : Nat → Nat} (z : zS) (r : Nat → Int32) (hj : adInj 18 am) {t : Nat} (ht : t < 4) : qMi l yX4_pinOf wsX4_pinOf 0 g (WMu g am) (adOf 18 am) (z, r) [.ref (am 0), .int (nI t)] (pnF (z 1 t)) (z, r) := by
  refine qStart (cc := cX4_pinOf) (maxL := 5) (ret := (some .int)) (plainFor_of_name (by decide)) rfl (Nat.le_of_ble_eq_true rfl) ?_
  intro p e s m args below meth c hx hb hml hown hts hr hlk hP hK ls hl
  have hl : lv_has ls 5 [(0, .ref (am 0)), (1, .int (nI t))] := hl
  have hS : va_S (adOf 18 am) s.heap s.heap [] := va_S.rf
  have hin4 : ∀ w ∈ u_ws RX4 TX4 25, w ∈ wsX4_pinOf := by decide +kernel
  have loop : ∀ (k : Nat) (j : Nat) (its n : Int32), j + k = 8 → pnR (z 1 t) k j its n = pnF (z 1 t) → ∀ (H : Heap) (locs : List Loc), va_P g.1 vwCl ((WMu g am) (z, r)) H → va_S (adOf 18 am) s.heap H locs → ∀ ls : Array Slot, lv_has ls 5 [(0, .ref (am 0)), (1, .int (nI t)), (2, .int its), (3, .int n), (4, .int (nI j))] → W p l e (rmL 0) s m args below meth c H locs 0 0 (MQ below (va_Qi (fun q9 u9 => q9 = pnF (z 1 t) ∧ u9 = (z, r)) (qU g (WMu g am)) (adOf 18 am)) args s 0 0 (adOf 18 am)) (F0 m 8 ls []) := by
    intro k
    induction k with
    | zero =>
      intro j its n hj2 hz H locs hP hS ls hl
      refine lv_iload hx hb dX4_pinOf_8 (lv_at hl 4 rfl) ?_
      refine lv_bipush (v := 8) hx hb dX4_pinOf_10 (by decide) ?_
      refine lv_icmp_ge (tgt := 42) hx hb dX4_pinOf_12 (by decide) (fun c_12 => ?_) (fun c_12 => ?_)
      · -- 12 taken
        have c_12n := i_le_t c_12
        refine lv_iload_n hx hb dX4_pinOf_42 rfl (lv_at hl 3 rfl) ?_
        refine lv_iconst (v := 1) hx hb dX4_pinOf_43 rfl ?_
        refine lv_icmp_ne (tgt := 51) hx hb dX4_pinOf_44 (by decide) (fun c_44 => ?_) (fun c_44 => ?_)
        · -- 44 taken
          refine lv_bipush (v := -9) hx hb dX4_pinOf_51 (by decide) ?_
          exact qRi hx hb hr hlk hP hK hS dX4_pinOf_53 (by rw [← hz, pnR, if_neg c_44]) rfl
        · -- 44 not taken
          refine lv_iload_n hx hb dX4_pinOf_47 rfl (lv_at hl 2 rfl) ?_
          refine lv_goto (tgt := 53) hx hb dX4_pinOf_48 (by decide) ?_
          exact qRi hx hb hr hlk hP hK hS dX4_pinOf_53 (by rw [← hz, pnR, if_pos c_44]) rfl
      · -- 12 not taken
        have c_12n := i_le_f c_12
        exact absurd (nI_lt' (b := 8) (by omega) (by omega) c_12) (by omega)
    | succ k ih =>
      intro j its n hj2 hz H locs hP hS ls hl
      refine lv_iload hx hb dX4_pinOf_8 (lv_at hl 4 rfl) ?_
      refine lv_bipush (v := 8) hx hb dX4_pinOf_10 (by decide) ?_
      refine lv_icmp_ge (tgt := 42) hx hb dX4_pinOf_12 (by decide) (fun c_12 => ?_) (fun c_12 => ?_)
      · -- 12 taken
        have c_12n := i_le_t c_12
        exact absurd (nI_ge' (b := 8) (by omega) (by omega) c_12) (by omega)
      · -- 12 not taken
        have c_12n := i_le_f c_12
        refine lv_aload_n hx hb dX4_pinOf_15 rfl (lv_at hl 0 rfl) ?_
        refine qGet (ci := 4) (v := .ref (am 11)) (C := RX4) (T := TX4) (N := 25) hx hb hts hin4 hown hK hP 0 rfl rfl 10 (by decide) (hts (.fieldLink RX4 41 "PartCurvesModel" "pinsOf" "[I") (by decide +kernel)) rfl dX4_pinOf_16 ?_
        refine lv_iload_n hx hb dX4_pinOf_19 rfl (lv_at hl 1 rfl) ?_
        refine qIld (v := (z 1 t)) hx hb hK hP 11 rfl (nI_v4 ht) (congrArg (z 1) (nI_e t (by omega))) dX4_pinOf_20 ?_
        refine lv_iload hx hb dX4_pinOf_21 (lv_at hl 4 rfl) ?_
        refine lv_ishr hx hb dX4_pinOf_23 ?_
        refine lv_iconst (v := 1) hx hb dX4_pinOf_24 rfl ?_
        refine lv_iand hx hb dX4_pinOf_25 ?_
        refine lv_iconst (v := 1) hx hb dX4_pinOf_26 rfl ?_
        refine lv_icmp_ne (tgt := 36) hx hb dX4_pinOf_27 (by decide) (fun c_27 => ?_) (fun c_27 => ?_)
        · -- 27 taken
          refine lv_iinc (v := nI (j + 1)) (lv' := [(4, .int (nI (j + 1))), (0, .ref (am 0)), (1, .int (nI t)), (2, .int its), (3, .int n)]) hx hb dX4_pinOf_36 hl (k := 4) rfl (nI_1 j) (by decide) rfl (fun ls hl => ?_)
          refine lv_goto (tgt := 8) hx hb dX4_pinOf_39 (by decide) ?_
          exact ih (j + 1) _ _ (by omega) (by rw [← hz, pnR, if_neg c_27]) _ _ hP hS ls (lv_sub hl [1, 2, 3, 4, 0] rfl)
        · -- 27 not taken
          refine lv_iload hx hb dX4_pinOf_30 (lv_at hl 4 rfl) ?_
          refine lv_istore_n (lv' := [(2, .int (nI j)), (0, .ref (am 0)), (1, .int (nI t)), (3, .int n), (4, .int (nI j))]) hx hb dX4_pinOf_32 rfl hl (by decide) rfl (fun ls hl => ?_)
          refine lv_iinc (v := n + 1) (lv' := [(3, .int (n + 1)), (2, .int (nI j)), (0, .ref (am 0)), (1, .int (nI t)), (4, .int (nI j))]) hx hb dX4_pinOf_33 hl (k := 3) rfl rfl (by decide) rfl (fun ls hl => ?_)
          refine lv_iinc (v := nI (j + 1)) (lv' := [(4, .int (nI (j + 1))), (3, .int (n + 1)), (2, .int (nI j)), (0, .ref (am 0)), (1, .int (nI t))]) hx hb dX4_pinOf_36 hl (k := 4) rfl (nI_1 j) (by decide) rfl (fun ls hl => ?_)
          refine lv_goto (tgt := 8) hx hb dX4_pinOf_39 (by decide) ?_
          exact ih (j + 1) _ _ (by omega) (by rw [← hz, pnR, if_pos c_27]) _ _ hP hS ls (lv_sub hl [3, 4, 2, 1, 0] rfl)
  refine lv_bipush (v := -9) hx hb dX4_pinOf_0 (by decide) ?_
  refine lv_istore_n (lv' := [(2, .int (-9)), (0, .ref (am 0)), (1, .int (nI t))]) hx hb dX4_pinOf_2 rfl hl (by decide) rfl (fun ls hl => ?_)
  refine lv_iconst (v := 0) hx hb dX4_pinOf_3 rfl ?_
  refine lv_istore_n (lv' := [(3, .int 0), (2, .int (-9)), (0, .ref (am 0)), (1, .int (nI t))]) hx hb dX4_pinOf_4 rfl hl (by decide) rfl (fun ls hl => ?_)
  refine lv_iconst (v := 0) hx hb dX4_pinOf_5 rfl ?_
  refine lv_istore (lv' := [(4, .int 0), (3, .int 0), (2, .int (-9)), (0, .ref (am 0)), (1, .int (nI t))]) hx hb dX4_pinOf_6 hl (by decide) rfl (fun ls hl => ?_)
  exact loop 8 0 (-9) 0 rfl rfl _ _ hP hS ls (lv_sub hl [3, 4, 2, 1, 0] rfl)
theorem isM_t {z : zS} {p : Nat} (h : (z p 3 = pnF (z 1 0) ∧ z p 4 = pnF (z 1 1)) ∨ (z p 3 = pnF (z 1 1) ∧ z p 4 = pnF (z 1 0))) : 1 = bI (isM z p) := by
  have e : isM z p = true := by unfold isM; simpa using h
  rw [e]; rfl
theorem isM_f {z : zS} {p : Nat} (h1 : ¬ (z p 3 = pnF (z 1 0) ∧ z p 4 = pnF (z 1 1))) (h2 : ¬ (z p 3 = pnF (z 1 1) ∧ z p 4 = pnF (z 1 0))) : 0 = bI (isM z p) := by
  have e : isM z p = false := by
    unfold isM
    rw [Bool.or_eq_false_iff]
    exact ⟨by simpa using h1, by simpa using h2⟩
  rw [e]; rfl
set_option maxHeartbeats 4000000 in
set_option maxRecDepth 100000 in
theorem kX4_inHand (l : Launch) (g : qG) {am : Nat → Nat} (z : zS) (r : Nat → Int32) (hj : adInj 18 am) (hI : qInv z) : qMi l yX4_inHand wsX4_inHand 1 g (WMu g am) (adOf 18 am) (z, r) [.ref (am 0)] (inH z) (z, r) := by
  refine qStart (cc := cX4_inHand) (maxL := 5) (ret := (some .int)) (plainFor_of_name (by decide)) rfl (Nat.le_of_ble_eq_true rfl) ?_
  intro p e s m args below meth c hx hb hml hown hts hr hlk hP hK ls hl
  have hl : lv_has ls 5 [(0, .ref (am 0))] := hl
  have hS : va_S (adOf 18 am) s.heap s.heap [] := va_S.rf
  have hin4 : ∀ w ∈ u_ws RX4 TX4 25, w ∈ wsX4_inHand := by decide +kernel
  have loop : ∀ (k : Nat) (j : Nat), hlB z = true → j + k = 4 → inHr z k j = inHr z 4 0 → ∀ (H : Heap) (locs : List Loc), va_P g.1 vwCl ((WMu g am) (z, r)) H → va_S (adOf 18 am) s.heap H locs → ∀ ls : Array Slot, lv_has ls 5 [(0, .ref (am 0)), (1, .int (pnF (z 1 0))), (2, .int (pnF (z 1 1))), (3, .int (nI j))] → W p l e (rmL 1) s m args below meth c H locs 0 0 (MQ below (va_Qi (fun q9 u9 => q9 = inH z ∧ u9 = (z, r)) (qU g (WMu g am)) (adOf 18 am)) args s 0 0 (adOf 18 am)) (F0 m 29 ls []) := by
    intro k
    induction k with
    | zero =>
      intro j hh hj2 hz H locs hP hS ls hl
      refine lv_iload_n hx hb dX4_inHand_29 rfl (lv_at hl 3 rfl) ?_
      refine lv_iconst (v := 4) hx hb dX4_inHand_30 rfl ?_
      refine lv_icmp_ge (tgt := 103) hx hb dX4_inHand_31 (by decide) (fun c_31 => ?_) (fun c_31 => ?_)
      · -- 31 taken
        have c_31n := i_le_t c_31
        refine lv_bipush (v := -9) hx hb dX4_inHand_103 (by decide) ?_
        exact qRi hx hb hr hlk hP hK hS dX4_inHand_105 (by unfold inH; rw [if_pos hh, ← hz]; rfl) rfl
      · -- 31 not taken
        have c_31n := i_le_f c_31
        exact absurd (nI_lt' (b := 4) (by omega) (by omega) c_31) (by omega)
    | succ k ih =>
      intro j hh hj2 hz H locs hP hS ls hl
      refine lv_iload_n hx hb dX4_inHand_29 rfl (lv_at hl 3 rfl) ?_
      refine lv_iconst (v := 4) hx hb dX4_inHand_30 rfl ?_
      refine lv_icmp_ge (tgt := 103) hx hb dX4_inHand_31 (by decide) (fun c_31 => ?_) (fun c_31 => ?_)
      · -- 31 taken
        have c_31n := i_le_t c_31
        exact absurd (nI_ge' (b := 4) (by omega) (by omega) c_31) (by omega)
      · -- 31 not taken
        have c_31n := i_le_f c_31
        refine lv_aload_n hx hb dX4_inHand_34 rfl (lv_at hl 0 rfl) ?_
        refine qGet (ci := 4) (v := .ref (am 2)) (C := RX4) (T := TX4) (N := 25) hx hb hts hin4 hown hK hP 0 rfl rfl 1 (by decide) (hts (.fieldLink RX4 13 "PartCurvesModel" "firstOf" "[I") (by decide +kernel)) rfl dX4_inHand_35 ?_
        refine lv_iload_n hx hb dX4_inHand_38 rfl (lv_at hl 3 rfl) ?_
        refine qIld (v := (z (10 + j) 3)) hx hb hK hP 2 rfl (vp_in_nI (n := j) (N := 4) (by omega) (by decide)) (congrArg (fun n => z (10 + n) 3) (nI_e j (by omega))) dX4_inHand_39 ?_
        refine lv_iload_n hx hb dX4_inHand_40 rfl (lv_at hl 1 rfl) ?_
        refine lv_icmp_ne (tgt := 54) hx hb dX4_inHand_41 (by decide) (fun c_41 => ?_) (fun c_41 => ?_)
        · -- 41 taken
          refine lv_aload_n hx hb dX4_inHand_54 rfl (lv_at hl 0 rfl) ?_
          refine qGet (ci := 4) (v := .ref (am 2)) (C := RX4) (T := TX4) (N := 25) hx hb hts hin4 hown hK hP 0 rfl rfl 1 (by decide) (hts (.fieldLink RX4 13 "PartCurvesModel" "firstOf" "[I") (by decide +kernel)) rfl dX4_inHand_55 ?_
          refine lv_iload_n hx hb dX4_inHand_58 rfl (lv_at hl 3 rfl) ?_
          refine qIld (v := (z (10 + j) 3)) hx hb hK hP 2 rfl (vp_in_nI (n := j) (N := 4) (by omega) (by decide)) (congrArg (fun n => z (10 + n) 3) (nI_e j (by omega))) dX4_inHand_59 ?_
          refine lv_iload_n hx hb dX4_inHand_60 rfl (lv_at hl 2 rfl) ?_
          refine lv_icmp_ne (tgt := 78) hx hb dX4_inHand_61 (by decide) (fun c_61 => ?_) (fun c_61 => ?_)
          · -- 61 taken
            refine lv_iconst (v := 0) hx hb dX4_inHand_78 rfl ?_
            refine lv_topi (fun y79 e79 => ?_)
            obtain rfl := e79.trans (isM_f (by first | exact fun h => c_41 h.1 | exact fun h => c_51 h.2) (by first | exact fun h => c_61 h.1 | exact fun h => c_71 h.2))
            refine lv_istore (lv' := [(4, .int (bI (isM z (10 + j)))), (0, .ref (am 0)), (1, .int (pnF (z 1 0))), (2, .int (pnF (z 1 1))), (3, .int (nI j))]) hx hb dX4_inHand_79 hl (by decide) rfl (fun ls hl => ?_)
            refine lv_aload_n hx hb dX4_inHand_81 rfl (lv_at hl 1 rfl) ?_
            refine qGet (ci := 4) (v := .ref (am 1)) (C := RX4) (T := TX4) (N := 25) hx hb hts hin4 hown hK hP 0 rfl rfl 0 (by decide) (hts (.fieldLink RX4 7 "PartCurvesModel" "isThere" "[Z") (by decide +kernel)) rfl dX4_inHand_82 ?_
            refine lv_iload_n hx hb dX4_inHand_85 rfl (lv_at hl 4 rfl) ?_
            refine qZld (v := (z (10 + j) 0)) hx hb hK hP 1 rfl (vp_in_nI (n := j) (N := 4) (by omega) (by decide)) (congrArg (fun n => z (10 + n) 0) (nI_e j (by omega))) dX4_inHand_86 ?_
            refine lv_if_eq (tgt := 97) hx hb dX4_inHand_87 (by decide) (fun c_87 => ?_) (fun c_87 => ?_)
            · -- 87 taken
              refine lv_iinc (v := nI (j + 1)) (lv' := [(3, .int (nI (j + 1))), (4, .int (bI (isM z (10 + j)))), (0, .ref (am 0)), (1, .int (pnF (z 1 0))), (2, .int (pnF (z 1 1)))]) hx hb dX4_inHand_97 hl (k := 4) rfl (nI_1 j) (by decide) rfl (fun ls hl => ?_)
              refine lv_goto (tgt := 29) hx hb dX4_inHand_100 (by decide) ?_
              exact ih (j + 1) hh (by omega) (by rw [← hz, inHr, if_neg (by simp [thB, c_87])]) _ _ hP hS ls (lv_sub hl [2, 3, 4, 0] rfl)
            · -- 87 not taken
              refine lv_iload hx hb dX4_inHand_90 (lv_at hl 0 rfl) ?_
              refine lv_if_eq (tgt := 97) hx hb dX4_inHand_92 (by decide) (fun c_92 => ?_) (fun c_92 => ?_)
              · -- 92 taken
                have c_92 := bI_0 c_92
                refine lv_iinc (v := nI (j + 1)) (lv' := [(3, .int (nI (j + 1))), (4, .int (bI (isM z (10 + j)))), (0, .ref (am 0)), (1, .int (pnF (z 1 0))), (2, .int (pnF (z 1 1)))]) hx hb dX4_inHand_97 hl (k := 4) rfl (nI_1 j) (by decide) rfl (fun ls hl => ?_)
                refine lv_goto (tgt := 29) hx hb dX4_inHand_100 (by decide) ?_
                exact ih (j + 1) hh (by omega) (by rw [← hz, inHr, if_neg (by rw [jn_isM hI hh (by omega), c_92]; simp)]) _ _ hP hS ls (lv_sub hl [2, 3, 4, 0] rfl)
              · -- 92 not taken
                have c_92 := bI_n c_92
                refine lv_iload_n hx hb dX4_inHand_95 rfl (lv_at hl 4 rfl) ?_
                exact qRi hx hb hr hlk hP hK hS dX4_inHand_96 (by unfold inH; rw [if_pos hh, ← hz, inHr, if_pos (by rw [jn_isM hI hh (by omega), c_92]; simp [thB, c_87])]) rfl
          · -- 61 not taken
            refine lv_aload_n hx hb dX4_inHand_64 rfl (lv_at hl 0 rfl) ?_
            refine qGet (ci := 4) (v := .ref (am 3)) (C := RX4) (T := TX4) (N := 25) hx hb hts hin4 hown hK hP 0 rfl rfl 2 (by decide) (hts (.fieldLink RX4 17 "PartCurvesModel" "otherOf" "[I") (by decide +kernel)) rfl dX4_inHand_65 ?_
            refine lv_iload_n hx hb dX4_inHand_68 rfl (lv_at hl 3 rfl) ?_
            refine qIld (v := (z (10 + j) 4)) hx hb hK hP 3 rfl (vp_in_nI (n := j) (N := 4) (by omega) (by decide)) (congrArg (fun n => z (10 + n) 4) (nI_e j (by omega))) dX4_inHand_69 ?_
            refine lv_iload_n hx hb dX4_inHand_70 rfl (lv_at hl 1 rfl) ?_
            refine lv_icmp_ne (tgt := 78) hx hb dX4_inHand_71 (by decide) (fun c_71 => ?_) (fun c_71 => ?_)
            · -- 71 taken
              refine lv_iconst (v := 0) hx hb dX4_inHand_78 rfl ?_
              refine lv_topi (fun y79 e79 => ?_)
              obtain rfl := e79.trans (isM_f (by first | exact fun h => c_41 h.1 | exact fun h => c_51 h.2) (by first | exact fun h => c_61 h.1 | exact fun h => c_71 h.2))
              refine lv_istore (lv' := [(4, .int (bI (isM z (10 + j)))), (0, .ref (am 0)), (1, .int (pnF (z 1 0))), (2, .int (pnF (z 1 1))), (3, .int (nI j))]) hx hb dX4_inHand_79 hl (by decide) rfl (fun ls hl => ?_)
              refine lv_aload_n hx hb dX4_inHand_81 rfl (lv_at hl 1 rfl) ?_
              refine qGet (ci := 4) (v := .ref (am 1)) (C := RX4) (T := TX4) (N := 25) hx hb hts hin4 hown hK hP 0 rfl rfl 0 (by decide) (hts (.fieldLink RX4 7 "PartCurvesModel" "isThere" "[Z") (by decide +kernel)) rfl dX4_inHand_82 ?_
              refine lv_iload_n hx hb dX4_inHand_85 rfl (lv_at hl 4 rfl) ?_
              refine qZld (v := (z (10 + j) 0)) hx hb hK hP 1 rfl (vp_in_nI (n := j) (N := 4) (by omega) (by decide)) (congrArg (fun n => z (10 + n) 0) (nI_e j (by omega))) dX4_inHand_86 ?_
              refine lv_if_eq (tgt := 97) hx hb dX4_inHand_87 (by decide) (fun c_87 => ?_) (fun c_87 => ?_)
              · -- 87 taken
                refine lv_iinc (v := nI (j + 1)) (lv' := [(3, .int (nI (j + 1))), (4, .int (bI (isM z (10 + j)))), (0, .ref (am 0)), (1, .int (pnF (z 1 0))), (2, .int (pnF (z 1 1)))]) hx hb dX4_inHand_97 hl (k := 4) rfl (nI_1 j) (by decide) rfl (fun ls hl => ?_)
                refine lv_goto (tgt := 29) hx hb dX4_inHand_100 (by decide) ?_
                exact ih (j + 1) hh (by omega) (by rw [← hz, inHr, if_neg (by simp [thB, c_87])]) _ _ hP hS ls (lv_sub hl [2, 3, 4, 0] rfl)
              · -- 87 not taken
                refine lv_iload hx hb dX4_inHand_90 (lv_at hl 0 rfl) ?_
                refine lv_if_eq (tgt := 97) hx hb dX4_inHand_92 (by decide) (fun c_92 => ?_) (fun c_92 => ?_)
                · -- 92 taken
                  have c_92 := bI_0 c_92
                  refine lv_iinc (v := nI (j + 1)) (lv' := [(3, .int (nI (j + 1))), (4, .int (bI (isM z (10 + j)))), (0, .ref (am 0)), (1, .int (pnF (z 1 0))), (2, .int (pnF (z 1 1)))]) hx hb dX4_inHand_97 hl (k := 4) rfl (nI_1 j) (by decide) rfl (fun ls hl => ?_)
                  refine lv_goto (tgt := 29) hx hb dX4_inHand_100 (by decide) ?_
                  exact ih (j + 1) hh (by omega) (by rw [← hz, inHr, if_neg (by rw [jn_isM hI hh (by omega), c_92]; simp)]) _ _ hP hS ls (lv_sub hl [2, 3, 4, 0] rfl)
                · -- 92 not taken
                  have c_92 := bI_n c_92
                  refine lv_iload_n hx hb dX4_inHand_95 rfl (lv_at hl 4 rfl) ?_
                  exact qRi hx hb hr hlk hP hK hS dX4_inHand_96 (by unfold inH; rw [if_pos hh, ← hz, inHr, if_pos (by rw [jn_isM hI hh (by omega), c_92]; simp [thB, c_87])]) rfl
            · -- 71 not taken
              refine lv_iconst (v := 1) hx hb dX4_inHand_74 rfl ?_
              refine lv_goto (tgt := 79) hx hb dX4_inHand_75 (by decide) ?_
              refine lv_topi (fun y79 e79 => ?_)
              obtain rfl := e79.trans (isM_t (by first | exact Or.inl ⟨c_41, c_51⟩ | exact Or.inr ⟨c_61, c_71⟩))
              refine lv_istore (lv' := [(4, .int (bI (isM z (10 + j)))), (0, .ref (am 0)), (1, .int (pnF (z 1 0))), (2, .int (pnF (z 1 1))), (3, .int (nI j))]) hx hb dX4_inHand_79 hl (by decide) rfl (fun ls hl => ?_)
              refine lv_aload_n hx hb dX4_inHand_81 rfl (lv_at hl 1 rfl) ?_
              refine qGet (ci := 4) (v := .ref (am 1)) (C := RX4) (T := TX4) (N := 25) hx hb hts hin4 hown hK hP 0 rfl rfl 0 (by decide) (hts (.fieldLink RX4 7 "PartCurvesModel" "isThere" "[Z") (by decide +kernel)) rfl dX4_inHand_82 ?_
              refine lv_iload_n hx hb dX4_inHand_85 rfl (lv_at hl 4 rfl) ?_
              refine qZld (v := (z (10 + j) 0)) hx hb hK hP 1 rfl (vp_in_nI (n := j) (N := 4) (by omega) (by decide)) (congrArg (fun n => z (10 + n) 0) (nI_e j (by omega))) dX4_inHand_86 ?_
              refine lv_if_eq (tgt := 97) hx hb dX4_inHand_87 (by decide) (fun c_87 => ?_) (fun c_87 => ?_)
              · -- 87 taken
                refine lv_iinc (v := nI (j + 1)) (lv' := [(3, .int (nI (j + 1))), (4, .int (bI (isM z (10 + j)))), (0, .ref (am 0)), (1, .int (pnF (z 1 0))), (2, .int (pnF (z 1 1)))]) hx hb dX4_inHand_97 hl (k := 4) rfl (nI_1 j) (by decide) rfl (fun ls hl => ?_)
                refine lv_goto (tgt := 29) hx hb dX4_inHand_100 (by decide) ?_
                exact ih (j + 1) hh (by omega) (by rw [← hz, inHr, if_neg (by simp [thB, c_87])]) _ _ hP hS ls (lv_sub hl [2, 3, 4, 0] rfl)
              · -- 87 not taken
                refine lv_iload hx hb dX4_inHand_90 (lv_at hl 0 rfl) ?_
                refine lv_if_eq (tgt := 97) hx hb dX4_inHand_92 (by decide) (fun c_92 => ?_) (fun c_92 => ?_)
                · -- 92 taken
                  have c_92 := bI_0 c_92
                  refine lv_iinc (v := nI (j + 1)) (lv' := [(3, .int (nI (j + 1))), (4, .int (bI (isM z (10 + j)))), (0, .ref (am 0)), (1, .int (pnF (z 1 0))), (2, .int (pnF (z 1 1)))]) hx hb dX4_inHand_97 hl (k := 4) rfl (nI_1 j) (by decide) rfl (fun ls hl => ?_)
                  refine lv_goto (tgt := 29) hx hb dX4_inHand_100 (by decide) ?_
                  exact ih (j + 1) hh (by omega) (by rw [← hz, inHr, if_neg (by rw [jn_isM hI hh (by omega), c_92]; simp)]) _ _ hP hS ls (lv_sub hl [2, 3, 4, 0] rfl)
                · -- 92 not taken
                  have c_92 := bI_n c_92
                  refine lv_iload_n hx hb dX4_inHand_95 rfl (lv_at hl 4 rfl) ?_
                  exact qRi hx hb hr hlk hP hK hS dX4_inHand_96 (by unfold inH; rw [if_pos hh, ← hz, inHr, if_pos (by rw [jn_isM hI hh (by omega), c_92]; simp [thB, c_87])]) rfl
        · -- 41 not taken
          refine lv_aload_n hx hb dX4_inHand_44 rfl (lv_at hl 0 rfl) ?_
          refine qGet (ci := 4) (v := .ref (am 3)) (C := RX4) (T := TX4) (N := 25) hx hb hts hin4 hown hK hP 0 rfl rfl 2 (by decide) (hts (.fieldLink RX4 17 "PartCurvesModel" "otherOf" "[I") (by decide +kernel)) rfl dX4_inHand_45 ?_
          refine lv_iload_n hx hb dX4_inHand_48 rfl (lv_at hl 3 rfl) ?_
          refine qIld (v := (z (10 + j) 4)) hx hb hK hP 3 rfl (vp_in_nI (n := j) (N := 4) (by omega) (by decide)) (congrArg (fun n => z (10 + n) 4) (nI_e j (by omega))) dX4_inHand_49 ?_
          refine lv_iload_n hx hb dX4_inHand_50 rfl (lv_at hl 2 rfl) ?_
          refine lv_icmp_eq (tgt := 74) hx hb dX4_inHand_51 (by decide) (fun c_51 => ?_) (fun c_51 => ?_)
          · -- 51 taken
            refine lv_iconst (v := 1) hx hb dX4_inHand_74 rfl ?_
            refine lv_goto (tgt := 79) hx hb dX4_inHand_75 (by decide) ?_
            refine lv_topi (fun y79 e79 => ?_)
            obtain rfl := e79.trans (isM_t (by first | exact Or.inl ⟨c_41, c_51⟩ | exact Or.inr ⟨c_61, c_71⟩))
            refine lv_istore (lv' := [(4, .int (bI (isM z (10 + j)))), (0, .ref (am 0)), (1, .int (pnF (z 1 0))), (2, .int (pnF (z 1 1))), (3, .int (nI j))]) hx hb dX4_inHand_79 hl (by decide) rfl (fun ls hl => ?_)
            refine lv_aload_n hx hb dX4_inHand_81 rfl (lv_at hl 1 rfl) ?_
            refine qGet (ci := 4) (v := .ref (am 1)) (C := RX4) (T := TX4) (N := 25) hx hb hts hin4 hown hK hP 0 rfl rfl 0 (by decide) (hts (.fieldLink RX4 7 "PartCurvesModel" "isThere" "[Z") (by decide +kernel)) rfl dX4_inHand_82 ?_
            refine lv_iload_n hx hb dX4_inHand_85 rfl (lv_at hl 4 rfl) ?_
            refine qZld (v := (z (10 + j) 0)) hx hb hK hP 1 rfl (vp_in_nI (n := j) (N := 4) (by omega) (by decide)) (congrArg (fun n => z (10 + n) 0) (nI_e j (by omega))) dX4_inHand_86 ?_
            refine lv_if_eq (tgt := 97) hx hb dX4_inHand_87 (by decide) (fun c_87 => ?_) (fun c_87 => ?_)
            · -- 87 taken
              refine lv_iinc (v := nI (j + 1)) (lv' := [(3, .int (nI (j + 1))), (4, .int (bI (isM z (10 + j)))), (0, .ref (am 0)), (1, .int (pnF (z 1 0))), (2, .int (pnF (z 1 1)))]) hx hb dX4_inHand_97 hl (k := 4) rfl (nI_1 j) (by decide) rfl (fun ls hl => ?_)
              refine lv_goto (tgt := 29) hx hb dX4_inHand_100 (by decide) ?_
              exact ih (j + 1) hh (by omega) (by rw [← hz, inHr, if_neg (by simp [thB, c_87])]) _ _ hP hS ls (lv_sub hl [2, 3, 4, 0] rfl)
            · -- 87 not taken
              refine lv_iload hx hb dX4_inHand_90 (lv_at hl 0 rfl) ?_
              refine lv_if_eq (tgt := 97) hx hb dX4_inHand_92 (by decide) (fun c_92 => ?_) (fun c_92 => ?_)
              · -- 92 taken
                have c_92 := bI_0 c_92
                refine lv_iinc (v := nI (j + 1)) (lv' := [(3, .int (nI (j + 1))), (4, .int (bI (isM z (10 + j)))), (0, .ref (am 0)), (1, .int (pnF (z 1 0))), (2, .int (pnF (z 1 1)))]) hx hb dX4_inHand_97 hl (k := 4) rfl (nI_1 j) (by decide) rfl (fun ls hl => ?_)
                refine lv_goto (tgt := 29) hx hb dX4_inHand_100 (by decide) ?_
                exact ih (j + 1) hh (by omega) (by rw [← hz, inHr, if_neg (by rw [jn_isM hI hh (by omega), c_92]; simp)]) _ _ hP hS ls (lv_sub hl [2, 3, 4, 0] rfl)
              · -- 92 not taken
                have c_92 := bI_n c_92
                refine lv_iload_n hx hb dX4_inHand_95 rfl (lv_at hl 4 rfl) ?_
                exact qRi hx hb hr hlk hP hK hS dX4_inHand_96 (by unfold inH; rw [if_pos hh, ← hz, inHr, if_pos (by rw [jn_isM hI hh (by omega), c_92]; simp [thB, c_87])]) rfl
          · -- 51 not taken
            refine lv_aload_n hx hb dX4_inHand_54 rfl (lv_at hl 0 rfl) ?_
            refine qGet (ci := 4) (v := .ref (am 2)) (C := RX4) (T := TX4) (N := 25) hx hb hts hin4 hown hK hP 0 rfl rfl 1 (by decide) (hts (.fieldLink RX4 13 "PartCurvesModel" "firstOf" "[I") (by decide +kernel)) rfl dX4_inHand_55 ?_
            refine lv_iload_n hx hb dX4_inHand_58 rfl (lv_at hl 3 rfl) ?_
            refine qIld (v := (z (10 + j) 3)) hx hb hK hP 2 rfl (vp_in_nI (n := j) (N := 4) (by omega) (by decide)) (congrArg (fun n => z (10 + n) 3) (nI_e j (by omega))) dX4_inHand_59 ?_
            refine lv_iload_n hx hb dX4_inHand_60 rfl (lv_at hl 2 rfl) ?_
            refine lv_icmp_ne (tgt := 78) hx hb dX4_inHand_61 (by decide) (fun c_61 => ?_) (fun c_61 => ?_)
            · -- 61 taken
              refine lv_iconst (v := 0) hx hb dX4_inHand_78 rfl ?_
              refine lv_topi (fun y79 e79 => ?_)
              obtain rfl := e79.trans (isM_f (by first | exact fun h => c_41 h.1 | exact fun h => c_51 h.2) (by first | exact fun h => c_61 h.1 | exact fun h => c_71 h.2))
              refine lv_istore (lv' := [(4, .int (bI (isM z (10 + j)))), (0, .ref (am 0)), (1, .int (pnF (z 1 0))), (2, .int (pnF (z 1 1))), (3, .int (nI j))]) hx hb dX4_inHand_79 hl (by decide) rfl (fun ls hl => ?_)
              refine lv_aload_n hx hb dX4_inHand_81 rfl (lv_at hl 1 rfl) ?_
              refine qGet (ci := 4) (v := .ref (am 1)) (C := RX4) (T := TX4) (N := 25) hx hb hts hin4 hown hK hP 0 rfl rfl 0 (by decide) (hts (.fieldLink RX4 7 "PartCurvesModel" "isThere" "[Z") (by decide +kernel)) rfl dX4_inHand_82 ?_
              refine lv_iload_n hx hb dX4_inHand_85 rfl (lv_at hl 4 rfl) ?_
              refine qZld (v := (z (10 + j) 0)) hx hb hK hP 1 rfl (vp_in_nI (n := j) (N := 4) (by omega) (by decide)) (congrArg (fun n => z (10 + n) 0) (nI_e j (by omega))) dX4_inHand_86 ?_
              refine lv_if_eq (tgt := 97) hx hb dX4_inHand_87 (by decide) (fun c_87 => ?_) (fun c_87 => ?_)
              · -- 87 taken
                refine lv_iinc (v := nI (j + 1)) (lv' := [(3, .int (nI (j + 1))), (4, .int (bI (isM z (10 + j)))), (0, .ref (am 0)), (1, .int (pnF (z 1 0))), (2, .int (pnF (z 1 1)))]) hx hb dX4_inHand_97 hl (k := 4) rfl (nI_1 j) (by decide) rfl (fun ls hl => ?_)
                refine lv_goto (tgt := 29) hx hb dX4_inHand_100 (by decide) ?_
                exact ih (j + 1) hh (by omega) (by rw [← hz, inHr, if_neg (by simp [thB, c_87])]) _ _ hP hS ls (lv_sub hl [2, 3, 4, 0] rfl)
              · -- 87 not taken
                refine lv_iload hx hb dX4_inHand_90 (lv_at hl 0 rfl) ?_
                refine lv_if_eq (tgt := 97) hx hb dX4_inHand_92 (by decide) (fun c_92 => ?_) (fun c_92 => ?_)
                · -- 92 taken
                  have c_92 := bI_0 c_92
                  refine lv_iinc (v := nI (j + 1)) (lv' := [(3, .int (nI (j + 1))), (4, .int (bI (isM z (10 + j)))), (0, .ref (am 0)), (1, .int (pnF (z 1 0))), (2, .int (pnF (z 1 1)))]) hx hb dX4_inHand_97 hl (k := 4) rfl (nI_1 j) (by decide) rfl (fun ls hl => ?_)
                  refine lv_goto (tgt := 29) hx hb dX4_inHand_100 (by decide) ?_
                  exact ih (j + 1) hh (by omega) (by rw [← hz, inHr, if_neg (by rw [jn_isM hI hh (by omega), c_92]; simp)]) _ _ hP hS ls (lv_sub hl [2, 3, 4, 0] rfl)
                · -- 92 not taken
                  have c_92 := bI_n c_92
                  refine lv_iload_n hx hb dX4_inHand_95 rfl (lv_at hl 4 rfl) ?_
                  exact qRi hx hb hr hlk hP hK hS dX4_inHand_96 (by unfold inH; rw [if_pos hh, ← hz, inHr, if_pos (by rw [jn_isM hI hh (by omega), c_92]; simp [thB, c_87])]) rfl
            · -- 61 not taken
              refine lv_aload_n hx hb dX4_inHand_64 rfl (lv_at hl 0 rfl) ?_
              refine qGet (ci := 4) (v := .ref (am 3)) (C := RX4) (T := TX4) (N := 25) hx hb hts hin4 hown hK hP 0 rfl rfl 2 (by decide) (hts (.fieldLink RX4 17 "PartCurvesModel" "otherOf" "[I") (by decide +kernel)) rfl dX4_inHand_65 ?_
              refine lv_iload_n hx hb dX4_inHand_68 rfl (lv_at hl 3 rfl) ?_
              refine qIld (v := (z (10 + j) 4)) hx hb hK hP 3 rfl (vp_in_nI (n := j) (N := 4) (by omega) (by decide)) (congrArg (fun n => z (10 + n) 4) (nI_e j (by omega))) dX4_inHand_69 ?_
              refine lv_iload_n hx hb dX4_inHand_70 rfl (lv_at hl 1 rfl) ?_
              refine lv_icmp_ne (tgt := 78) hx hb dX4_inHand_71 (by decide) (fun c_71 => ?_) (fun c_71 => ?_)
              · -- 71 taken
                refine lv_iconst (v := 0) hx hb dX4_inHand_78 rfl ?_
                refine lv_topi (fun y79 e79 => ?_)
                obtain rfl := e79.trans (isM_f (by first | exact fun h => c_41 h.1 | exact fun h => c_51 h.2) (by first | exact fun h => c_61 h.1 | exact fun h => c_71 h.2))
                refine lv_istore (lv' := [(4, .int (bI (isM z (10 + j)))), (0, .ref (am 0)), (1, .int (pnF (z 1 0))), (2, .int (pnF (z 1 1))), (3, .int (nI j))]) hx hb dX4_inHand_79 hl (by decide) rfl (fun ls hl => ?_)
                refine lv_aload_n hx hb dX4_inHand_81 rfl (lv_at hl 1 rfl) ?_
                refine qGet (ci := 4) (v := .ref (am 1)) (C := RX4) (T := TX4) (N := 25) hx hb hts hin4 hown hK hP 0 rfl rfl 0 (by decide) (hts (.fieldLink RX4 7 "PartCurvesModel" "isThere" "[Z") (by decide +kernel)) rfl dX4_inHand_82 ?_
                refine lv_iload_n hx hb dX4_inHand_85 rfl (lv_at hl 4 rfl) ?_
                refine qZld (v := (z (10 + j) 0)) hx hb hK hP 1 rfl (vp_in_nI (n := j) (N := 4) (by omega) (by decide)) (congrArg (fun n => z (10 + n) 0) (nI_e j (by omega))) dX4_inHand_86 ?_
                refine lv_if_eq (tgt := 97) hx hb dX4_inHand_87 (by decide) (fun c_87 => ?_) (fun c_87 => ?_)
                · -- 87 taken
                  refine lv_iinc (v := nI (j + 1)) (lv' := [(3, .int (nI (j + 1))), (4, .int (bI (isM z (10 + j)))), (0, .ref (am 0)), (1, .int (pnF (z 1 0))), (2, .int (pnF (z 1 1)))]) hx hb dX4_inHand_97 hl (k := 4) rfl (nI_1 j) (by decide) rfl (fun ls hl => ?_)
                  refine lv_goto (tgt := 29) hx hb dX4_inHand_100 (by decide) ?_
                  exact ih (j + 1) hh (by omega) (by rw [← hz, inHr, if_neg (by simp [thB, c_87])]) _ _ hP hS ls (lv_sub hl [2, 3, 4, 0] rfl)
                · -- 87 not taken
                  refine lv_iload hx hb dX4_inHand_90 (lv_at hl 0 rfl) ?_
                  refine lv_if_eq (tgt := 97) hx hb dX4_inHand_92 (by decide) (fun c_92 => ?_) (fun c_92 => ?_)
                  · -- 92 taken
                    have c_92 := bI_0 c_92
                    refine lv_iinc (v := nI (j + 1)) (lv' := [(3, .int (nI (j + 1))), (4, .int (bI (isM z (10 + j)))), (0, .ref (am 0)), (1, .int (pnF (z 1 0))), (2, .int (pnF (z 1 1)))]) hx hb dX4_inHand_97 hl (k := 4) rfl (nI_1 j) (by decide) rfl (fun ls hl => ?_)
                    refine lv_goto (tgt := 29) hx hb dX4_inHand_100 (by decide) ?_
                    exact ih (j + 1) hh (by omega) (by rw [← hz, inHr, if_neg (by rw [jn_isM hI hh (by omega), c_92]; simp)]) _ _ hP hS ls (lv_sub hl [2, 3, 4, 0] rfl)
                  · -- 92 not taken
                    have c_92 := bI_n c_92
                    refine lv_iload_n hx hb dX4_inHand_95 rfl (lv_at hl 4 rfl) ?_
                    exact qRi hx hb hr hlk hP hK hS dX4_inHand_96 (by unfold inH; rw [if_pos hh, ← hz, inHr, if_pos (by rw [jn_isM hI hh (by omega), c_92]; simp [thB, c_87])]) rfl
              · -- 71 not taken
                refine lv_iconst (v := 1) hx hb dX4_inHand_74 rfl ?_
                refine lv_goto (tgt := 79) hx hb dX4_inHand_75 (by decide) ?_
                refine lv_topi (fun y79 e79 => ?_)
                obtain rfl := e79.trans (isM_t (by first | exact Or.inl ⟨c_41, c_51⟩ | exact Or.inr ⟨c_61, c_71⟩))
                refine lv_istore (lv' := [(4, .int (bI (isM z (10 + j)))), (0, .ref (am 0)), (1, .int (pnF (z 1 0))), (2, .int (pnF (z 1 1))), (3, .int (nI j))]) hx hb dX4_inHand_79 hl (by decide) rfl (fun ls hl => ?_)
                refine lv_aload_n hx hb dX4_inHand_81 rfl (lv_at hl 1 rfl) ?_
                refine qGet (ci := 4) (v := .ref (am 1)) (C := RX4) (T := TX4) (N := 25) hx hb hts hin4 hown hK hP 0 rfl rfl 0 (by decide) (hts (.fieldLink RX4 7 "PartCurvesModel" "isThere" "[Z") (by decide +kernel)) rfl dX4_inHand_82 ?_
                refine lv_iload_n hx hb dX4_inHand_85 rfl (lv_at hl 4 rfl) ?_
                refine qZld (v := (z (10 + j) 0)) hx hb hK hP 1 rfl (vp_in_nI (n := j) (N := 4) (by omega) (by decide)) (congrArg (fun n => z (10 + n) 0) (nI_e j (by omega))) dX4_inHand_86 ?_
                refine lv_if_eq (tgt := 97) hx hb dX4_inHand_87 (by decide) (fun c_87 => ?_) (fun c_87 => ?_)
                · -- 87 taken
                  refine lv_iinc (v := nI (j + 1)) (lv' := [(3, .int (nI (j + 1))), (4, .int (bI (isM z (10 + j)))), (0, .ref (am 0)), (1, .int (pnF (z 1 0))), (2, .int (pnF (z 1 1)))]) hx hb dX4_inHand_97 hl (k := 4) rfl (nI_1 j) (by decide) rfl (fun ls hl => ?_)
                  refine lv_goto (tgt := 29) hx hb dX4_inHand_100 (by decide) ?_
                  exact ih (j + 1) hh (by omega) (by rw [← hz, inHr, if_neg (by simp [thB, c_87])]) _ _ hP hS ls (lv_sub hl [2, 3, 4, 0] rfl)
                · -- 87 not taken
                  refine lv_iload hx hb dX4_inHand_90 (lv_at hl 0 rfl) ?_
                  refine lv_if_eq (tgt := 97) hx hb dX4_inHand_92 (by decide) (fun c_92 => ?_) (fun c_92 => ?_)
                  · -- 92 taken
                    have c_92 := bI_0 c_92
                    refine lv_iinc (v := nI (j + 1)) (lv' := [(3, .int (nI (j + 1))), (4, .int (bI (isM z (10 + j)))), (0, .ref (am 0)), (1, .int (pnF (z 1 0))), (2, .int (pnF (z 1 1)))]) hx hb dX4_inHand_97 hl (k := 4) rfl (nI_1 j) (by decide) rfl (fun ls hl => ?_)
                    refine lv_goto (tgt := 29) hx hb dX4_inHand_100 (by decide) ?_
                    exact ih (j + 1) hh (by omega) (by rw [← hz, inHr, if_neg (by rw [jn_isM hI hh (by omega), c_92]; simp)]) _ _ hP hS ls (lv_sub hl [2, 3, 4, 0] rfl)
                  · -- 92 not taken
                    have c_92 := bI_n c_92
                    refine lv_iload_n hx hb dX4_inHand_95 rfl (lv_at hl 4 rfl) ?_
                    exact qRi hx hb hr hlk hP hK hS dX4_inHand_96 (by unfold inH; rw [if_pos hh, ← hz, inHr, if_pos (by rw [jn_isM hI hh (by omega), c_92]; simp [thB, c_87])]) rfl
  refine lv_aload_n hx hb dX4_inHand_0 rfl (lv_at hl 0 rfl) ?_
  refine lv_iconst (v := 0) hx hb dX4_inHand_1 rfl ?_
  refine qVi (As := [.int 0]) (rest := []) hx hb hml hown hts (kX4_pinOf l g z r hj (t := 0) (by decide)) gX4_inHand_X4_pinOf rfl 1 hdX4_pinOf rfl ⟨Nat.le_of_ble_eq_true rfl, Nat.le_of_ble_eq_true rfl⟩ ⟨Nat.zero_le _, Nat.zero_le _⟩ hK hP hS (fun _ h => h) 0 4 rfl rfl rfl hl.1 rfl (Nat.le_of_ble_eq_true rfl) dX4_inHand_2 (fun H locs hP hS => ?_)
  refine lv_istore_n (lv' := [(1, .int (pnF (z 1 0))), (0, .ref (am 0))]) hx hb dX4_inHand_5 rfl hl (by decide) rfl (fun ls hl => ?_)
  refine lv_aload_n hx hb dX4_inHand_6 rfl (lv_at hl 1 rfl) ?_
  refine lv_iconst (v := 1) hx hb dX4_inHand_7 rfl ?_
  refine qVi (As := [.int 1]) (rest := []) hx hb hml hown hts (kX4_pinOf l g z r hj (t := 1) (by decide)) gX4_inHand_X4_pinOf rfl 1 hdX4_pinOf rfl ⟨Nat.le_of_ble_eq_true rfl, Nat.le_of_ble_eq_true rfl⟩ ⟨Nat.zero_le _, Nat.zero_le _⟩ hK hP hS (fun _ h => h) 0 4 rfl rfl rfl hl.1 rfl (Nat.le_of_ble_eq_true rfl) dX4_inHand_8 (fun H locs hP hS => ?_)
  refine lv_istore_n (lv' := [(2, .int (pnF (z 1 1))), (1, .int (pnF (z 1 0))), (0, .ref (am 0))]) hx hb dX4_inHand_11 rfl hl (by decide) rfl (fun ls hl => ?_)
  refine lv_iload_n hx hb dX4_inHand_12 rfl (lv_at hl 1 rfl) ?_
  refine lv_bipush (v := -9) hx hb dX4_inHand_13 (by decide) ?_
  refine lv_icmp_eq (tgt := 24) hx hb dX4_inHand_15 (by decide) (fun c_15 => ?_) (fun c_15 => ?_)
  · -- 15 taken
    refine lv_bipush (v := -9) hx hb dX4_inHand_24 (by decide) ?_
    exact qRi hx hb hr hlk hP hK hS dX4_inHand_26 (by unfold inH; rw [if_neg (fun q => ((hl_pn hI).mp q).1 c_15)]) rfl
  · -- 15 not taken
    refine lv_iload_n hx hb dX4_inHand_18 rfl (lv_at hl 0 rfl) ?_
    refine lv_bipush (v := -9) hx hb dX4_inHand_19 (by decide) ?_
    refine lv_icmp_ne (tgt := 27) hx hb dX4_inHand_21 (by decide) (fun c_21 => ?_) (fun c_21 => ?_)
    · -- 21 taken
      refine lv_iconst (v := 0) hx hb dX4_inHand_27 rfl ?_
      refine lv_istore_n (lv' := [(3, .int 0), (2, .int (pnF (z 1 1))), (1, .int (pnF (z 1 0))), (0, .ref (am 0))]) hx hb dX4_inHand_28 rfl hl (by decide) rfl (fun ls hl => ?_)
      exact loop 4 0 ((hl_pn hI).mpr ⟨c_15, c_21⟩) rfl rfl _ _ hP hS ls (lv_sub hl [3, 2, 1, 0] rfl)
    · -- 21 not taken
      refine lv_bipush (v := -9) hx hb dX4_inHand_24 (by decide) ?_
      exact qRi hx hb hr hlk hP hK hS dX4_inHand_26 (by unfold inH; rw [if_neg (fun q => ((hl_pn hI).mp q).2 c_21)]) rfl
set_option maxHeartbeats 4000000 in
set_option maxRecDepth 100000 in
theorem kX4_isFourWires (l : Launch) (g : qG) {am : Nat → Nat} (z : zS) (r : Nat → Int32) (hj : adInj 18 am) (hI : qInv z) : qMi l yX4_isFourWires wsX4_isFourWires 1 g (WMu g am) (adOf 18 am) (z, r) [.ref (am 0)] (bI (fourB z)) (z, r) := by
  refine qStart (cc := cX4_isFourWires) (maxL := 1) (ret := (some .boolean)) (plainFor_of_name (by decide)) rfl (Nat.le_of_ble_eq_true rfl) ?_
  intro p e s m args below meth c hx hb hml hown hts hr hlk hP hK ls hl
  have hl : lv_has ls 1 [(0, .ref (am 0))] := hl
  have hS : va_S (adOf 18 am) s.heap s.heap [] := va_S.rf
  refine lv_aload_n hx hb dX4_isFourWires_0 rfl (lv_at hl 0 rfl) ?_
  refine lv_iconst (v := 0) hx hb dX4_isFourWires_1 rfl ?_
  refine qVi (As := [.int 0]) (rest := []) hx hb hml hown hts (kX4_pinOf l g z r hj (t := 0) (by decide)) gX4_isFourWires_X4_pinOf rfl 1 hdX4_pinOf rfl ⟨Nat.le_of_ble_eq_true rfl, Nat.le_of_ble_eq_true rfl⟩ ⟨Nat.zero_le _, Nat.zero_le _⟩ hK hP hS (fun _ h => h) 0 4 rfl rfl rfl hl.1 rfl (Nat.le_of_ble_eq_true rfl) dX4_isFourWires_2 (fun H locs hP hS => ?_)
  refine lv_bipush (v := -9) hx hb dX4_isFourWires_5 (by decide) ?_
  refine lv_icmp_eq (tgt := 50) hx hb dX4_isFourWires_7 (by decide) (fun c_7 => ?_) (fun c_7 => ?_)
  · -- 7 taken
    refine lv_iconst (v := 0) hx hb dX4_isFourWires_50 rfl ?_
    exact qRz hx hb hr hlk rfl hP hK hS dX4_isFourWires_51 (by rw [four_M hI]; simp [bI, c_7]) rfl
  · -- 7 not taken
    refine lv_aload_n hx hb dX4_isFourWires_10 rfl (lv_at hl 0 rfl) ?_
    refine lv_iconst (v := 2) hx hb dX4_isFourWires_11 rfl ?_
    refine qVi (As := [.int 2]) (rest := []) hx hb hml hown hts (kX4_pinOf l g z r hj (t := 2) (by decide)) gX4_isFourWires_X4_pinOf rfl 1 hdX4_pinOf rfl ⟨Nat.le_of_ble_eq_true rfl, Nat.le_of_ble_eq_true rfl⟩ ⟨Nat.zero_le _, Nat.zero_le _⟩ hK hP hS (fun _ h => h) 0 4 rfl rfl rfl hl.1 rfl (Nat.le_of_ble_eq_true rfl) dX4_isFourWires_12 (fun H locs hP hS => ?_)
    refine lv_aload_n hx hb dX4_isFourWires_15 rfl (lv_at hl 0 rfl) ?_
    refine lv_iconst (v := 0) hx hb dX4_isFourWires_16 rfl ?_
    refine qVi (As := [.int 0]) (rest := [.int (pnF (z 1 2))]) hx hb hml hown hts (kX4_pinOf l g z r hj (t := 0) (by decide)) gX4_isFourWires_X4_pinOf rfl 1 hdX4_pinOf rfl ⟨Nat.le_of_ble_eq_true rfl, Nat.le_of_ble_eq_true rfl⟩ ⟨Nat.zero_le _, Nat.zero_le _⟩ hK hP hS (fun _ h => h) 0 4 rfl rfl rfl hl.1 rfl (Nat.le_of_ble_eq_true rfl) dX4_isFourWires_17 (fun H locs hP hS => ?_)
    refine lv_icmp_ne (tgt := 50) hx hb dX4_isFourWires_20 (by decide) (fun c_20 => ?_) (fun c_20 => ?_)
    · -- 20 taken
      refine lv_iconst (v := 0) hx hb dX4_isFourWires_50 rfl ?_
      exact qRz hx hb hr hlk rfl hP hK hS dX4_isFourWires_51 (by rw [four_M hI]; simp [bI, c_7, c_20]) rfl
    · -- 20 not taken
      refine lv_aload_n hx hb dX4_isFourWires_23 rfl (lv_at hl 0 rfl) ?_
      refine lv_iconst (v := 1) hx hb dX4_isFourWires_24 rfl ?_
      refine qVi (As := [.int 1]) (rest := []) hx hb hml hown hts (kX4_pinOf l g z r hj (t := 1) (by decide)) gX4_isFourWires_X4_pinOf rfl 1 hdX4_pinOf rfl ⟨Nat.le_of_ble_eq_true rfl, Nat.le_of_ble_eq_true rfl⟩ ⟨Nat.zero_le _, Nat.zero_le _⟩ hK hP hS (fun _ h => h) 0 4 rfl rfl rfl hl.1 rfl (Nat.le_of_ble_eq_true rfl) dX4_isFourWires_25 (fun H locs hP hS => ?_)
      refine lv_bipush (v := -9) hx hb dX4_isFourWires_28 (by decide) ?_
      refine lv_icmp_eq (tgt := 50) hx hb dX4_isFourWires_30 (by decide) (fun c_30 => ?_) (fun c_30 => ?_)
      · -- 30 taken
        refine lv_iconst (v := 0) hx hb dX4_isFourWires_50 rfl ?_
        exact qRz hx hb hr hlk rfl hP hK hS dX4_isFourWires_51 (by rw [four_M hI]; simp [bI, c_7, c_20, c_30]) rfl
      · -- 30 not taken
        refine lv_aload_n hx hb dX4_isFourWires_33 rfl (lv_at hl 0 rfl) ?_
        refine lv_iconst (v := 3) hx hb dX4_isFourWires_34 rfl ?_
        refine qVi (As := [.int 3]) (rest := []) hx hb hml hown hts (kX4_pinOf l g z r hj (t := 3) (by decide)) gX4_isFourWires_X4_pinOf rfl 1 hdX4_pinOf rfl ⟨Nat.le_of_ble_eq_true rfl, Nat.le_of_ble_eq_true rfl⟩ ⟨Nat.zero_le _, Nat.zero_le _⟩ hK hP hS (fun _ h => h) 0 4 rfl rfl rfl hl.1 rfl (Nat.le_of_ble_eq_true rfl) dX4_isFourWires_35 (fun H locs hP hS => ?_)
        refine lv_aload_n hx hb dX4_isFourWires_38 rfl (lv_at hl 0 rfl) ?_
        refine lv_iconst (v := 1) hx hb dX4_isFourWires_39 rfl ?_
        refine qVi (As := [.int 1]) (rest := [.int (pnF (z 1 3))]) hx hb hml hown hts (kX4_pinOf l g z r hj (t := 1) (by decide)) gX4_isFourWires_X4_pinOf rfl 1 hdX4_pinOf rfl ⟨Nat.le_of_ble_eq_true rfl, Nat.le_of_ble_eq_true rfl⟩ ⟨Nat.zero_le _, Nat.zero_le _⟩ hK hP hS (fun _ h => h) 0 4 rfl rfl rfl hl.1 rfl (Nat.le_of_ble_eq_true rfl) dX4_isFourWires_40 (fun H locs hP hS => ?_)
        refine lv_icmp_ne (tgt := 50) hx hb dX4_isFourWires_43 (by decide) (fun c_43 => ?_) (fun c_43 => ?_)
        · -- 43 taken
          refine lv_iconst (v := 0) hx hb dX4_isFourWires_50 rfl ?_
          exact qRz hx hb hr hlk rfl hP hK hS dX4_isFourWires_51 (by rw [four_M hI]; simp [bI, c_7, c_20, c_30, c_43]) rfl
        · -- 43 not taken
          refine lv_iconst (v := 1) hx hb dX4_isFourWires_46 rfl ?_
          refine lv_goto (tgt := 51) hx hb dX4_isFourWires_47 (by decide) ?_
          exact qRz hx hb hr hlk rfl hP hK hS dX4_isFourWires_51 (by rw [four_M hI]; simp [bI, c_7, c_20, c_30, c_43]) rfl
set_option maxHeartbeats 4000000 in
set_option maxRecDepth 100000 in
theorem kX4_isForward (l : Launch) (g : qG) {am : Nat → Nat} (z : zS) (r : Nat → Int32) (hj : adInj 18 am) (n : Int32) (hn : inR n 0 3 = true) : qMi l yX4_isForward wsX4_isForward 1 g (WMu g am) (adOf 18 am) (z, r) [.ref (am 0), .int n] (bI (fwB z (10 + ix n))) (z, r) := by
  refine qStart (cc := cX4_isForward) (maxL := 2) (ret := (some .boolean)) (plainFor_of_name (by decide)) rfl (Nat.le_of_ble_eq_true rfl) ?_
  intro p e s m args below meth c hx hb hml hown hts hr hlk hP hK ls hl
  have hl : lv_has ls 2 [(0, .ref (am 0)), (1, .int n)] := hl
  have hS : va_S (adOf 18 am) s.heap s.heap [] := va_S.rf
  have hin4 : ∀ w ∈ u_ws RX4 TX4 25, w ∈ wsX4_isForward := by decide +kernel
  refine lv_aload_n hx hb dX4_isForward_0 rfl (lv_at hl 0 rfl) ?_
  refine qGet (ci := 4) (v := .ref (am 2)) (C := RX4) (T := TX4) (N := 25) hx hb hts hin4 hown hK hP 0 rfl rfl 1 (by decide) (hts (.fieldLink RX4 13 "PartCurvesModel" "firstOf" "[I") (by decide +kernel)) rfl dX4_isForward_1 ?_
  refine lv_iload_n hx hb dX4_isForward_4 rfl (lv_at hl 1 rfl) ?_
  refine qIld (v := (z (10 + ix n) 3)) hx hb hK hP 2 rfl (inR_vp (n := 3) rfl hn 4 (by decide)) rfl dX4_isForward_5 ?_
  refine lv_aload_n hx hb dX4_isForward_6 rfl (lv_at hl 0 rfl) ?_
  refine lv_iconst (v := 0) hx hb dX4_isForward_7 rfl ?_
  refine qVi (As := [.int 0]) (rest := [.int (z (10 + ix n) 3)]) hx hb hml hown hts (kX4_pinOf l g z r hj (t := 0) (by decide)) gX4_isForward_X4_pinOf rfl 1 hdX4_pinOf rfl ⟨Nat.le_of_ble_eq_true rfl, Nat.le_of_ble_eq_true rfl⟩ ⟨Nat.zero_le _, Nat.zero_le _⟩ hK hP hS (fun _ h => h) 0 4 rfl rfl rfl hl.1 rfl (Nat.le_of_ble_eq_true rfl) dX4_isForward_8 (fun H locs hP hS => ?_)
  refine lv_icmp_ne (tgt := 18) hx hb dX4_isForward_11 (by decide) (fun c_11 => ?_) (fun c_11 => ?_)
  · -- 11 taken
    refine lv_iconst (v := 0) hx hb dX4_isForward_18 rfl ?_
    exact qRz hx hb hr hlk rfl hP hK hS dX4_isForward_19 (by first | rfl | simp [bI, fwB, c_11]) (by first | rfl | simp [bI, fwB, c_11])
  · -- 11 not taken
    refine lv_iconst (v := 1) hx hb dX4_isForward_14 rfl ?_
    refine lv_goto (tgt := 19) hx hb dX4_isForward_15 (by decide) ?_
    exact qRz hx hb hr hlk rfl hP hK hS dX4_isForward_19 (by first | rfl | simp [bI, fwB, c_11]) (by first | rfl | simp [bI, fwB, c_11])
theorem coldB {f : Nat → Int32} (hp : partInv f) {v : Int32} (hv : inR v (-3000) 3000 = true) : -1000000000 ≤ (v * f 7).toInt ∧ -1000000000 ≤ (v * f 9).toInt ∧ -1000000000 ≤ ((v - f 8) * f 7).toInt ∧ -1000000000 ≤ ((v + f 8) * f 7).toInt := by
  obtain ⟨-, -, -, -, -, -, -, hg, hk, hh, -, -⟩ := hp
  have hv := inR_b hv (x := -3000) (y := 3000) rfl rfl
  have hg := inR_b hg (x := 0) (y := 5000) rfl rfl
  have hk := inR_b hk (x := 0) (y := 2000) rfl rfl
  have hh := inR_b hh (x := 0) (y := 2000) rfl rfl
  have e1 : (v - f 8).toInt = v.toInt - (f 8).toInt := fb_subI (by omega) (by omega)
  have e2 : (v + f 8).toInt = v.toInt + (f 8).toInt := fb_addI (by omega) (by omega)
  have m1 := mulv (v := v) (g := f 7) (V := 3000) (G := 5000) hv.1 hv.2 hg.1 hg.2 (by decide) (by decide)
  have m2 := mulv (v := v) (g := f 9) (V := 3000) (G := 2000) hv.1 hv.2 hh.1 hh.2 (by decide) (by decide)
  have m3 := mulv (v := v - f 8) (g := f 7) (V := 5000) (G := 5000) (by rw [e1]; omega) (by rw [e1]; omega) hg.1 hg.2 (by decide) (by decide)
  have m4 := mulv (v := v + f 8) (g := f 7) (V := 5000) (G := 5000) (by rw [e2]; omega) (by rw [e2]; omega) hg.1 hg.2 (by decide) (by decide)
  rw [m1.1, m2.1, m3.1, m4.1]
  exact ⟨by omega, by omega, by omega, by omega⟩
theorem ownB {f : Nat → Int32} (hp : partInv f) {v : Int32} (hv : inR v (-3000) 3000 = true) : 0 < (1000 + f 11 * f 6).toInt ∧ (1000 + f 11 * f 6).toInt ≤ 100000000 ∧ -1000000000 ≤ (1000 * coldF f v).toInt ∧ 1 ≤ 1000 + f 11 * f 6 := by
  have hvb := inR_b hv (x := -3000) (y := 3000) rfl rfl
  have hb := byZ hp
  have hc := coldF_Z hp hvb.1 hvb.2
  obtain ⟨-, -, -, -, -, -, -, hg, hk, hh, -, -⟩ := hp
  have hg := inR_b hg (x := 0) (y := 5000) rfl rfl
  have hk := inR_b hk (x := 0) (y := 2000) rfl rfl
  have hh := inR_b hh (x := 0) (y := 2000) rfl rfl
  have hcb := coldZ_b (kind := (f 5).toInt) (opn := (f 2).toInt) hg.1 hg.2 hk.1 hh.1 hh.2 hvb.1 hvb.2
  have e : (1000 : Int32).toInt = 1000 := rfl
  have em : (1000 * coldF f v).toInt = 1000 * (coldF f v).toInt := by
    rw [fb_mulI (by rw [e, hc]; omega) (by rw [e, hc]; omega), e]
  refine ⟨by rw [hb.1]; omega, by rw [hb.1]; omega, by rw [em, hc]; omega, ?_⟩
  rw [Int32.le_iff_toInt_le, hb.1, show (1 : Int32).toInt = 1 from rfl]; omega
theorem inR_neg {v : Int32} (h : inR v (-3000) 3000 = true) : inR (-v) (-3000) 3000 = true := by
  have h := inR_b h (x := -3000) (y := 3000) rfl rfl
  have e : (-v).toInt = -v.toInt := fb_negI (by omega)
  rw [inR_iff, e, show (-3000 : Int32).toInt = -3000 from rfl, show (3000 : Int32).toInt = 3000 from rfl]; omega
theorem dropB {z : zS} (hI : qInv z) {a : Int32} (h1 : -21000 ≤ a.toInt) (h2 : a.toInt ≤ 21000) : -1000000000 ≤ (a * z 0 2).toInt := by
  have hl := inR_b hI.2.2.1 (x := 0) (y := 200) rfl rfl
  have m := mulv h1 h2 hl.1 hl.2 (by decide) (by decide)
  rw [m.1]; omega
set_option maxHeartbeats 4000000 in
set_option maxRecDepth 100000 in
theorem kX4_cold (l : Launch) (g : qG) {am : Nat → Nat} (z : zS) (r : Nat → Int32) (hj : adInj 18 am) (hI : qInv z) (n : Int32) (hn : inR n 0 3 = true) (v : Int32) (hv : inR v (-3000) 3000 = true) : qMi l yX4_cold wsX4_cold 1 g (WMu g am) (adOf 18 am) (z, r) [.ref (am 0), .int n, .int v] (coldF (z (10 + ix n)) v) (z, r) := by
  refine qStart (cc := cX4_cold) (maxL := 7) (ret := (some .int)) (plainFor_of_name (by decide)) rfl (Nat.le_of_ble_eq_true rfl) ?_
  intro p e s m args below meth c hx hb hml hown hts hr hlk hP hK ls hl
  have hl : lv_has ls 7 [(0, .ref (am 0)), (1, .int n), (2, .int v)] := hl
  have hS : va_S (adOf 18 am) s.heap s.heap [] := va_S.rf
  have hin4 : ∀ w ∈ u_ws RX4 TX4 25, w ∈ wsX4_cold := by decide +kernel
  have hn4 := pOk_n hn
  have hB := coldB (inv_p hI _ hn4) hv
  refine lv_aload_n hx hb dX4_cold_0 rfl (lv_at hl 0 rfl) ?_
  refine lv_iload_n hx hb dX4_cold_1 rfl (lv_at hl 1 rfl) ?_
  refine lv_iconst (v := 0) hx hb dX4_cold_2 rfl ?_
  refine qVi (As := [.int n, .int 0]) (rest := []) hx hb hml hown hts (kX4_number l g z r hj (k := 0) (by decide) n hn) gX4_cold_X4_number rfl 2 hdX4_number rfl ⟨Nat.le_of_ble_eq_true rfl, Nat.le_of_ble_eq_true rfl⟩ ⟨Nat.zero_le _, Nat.zero_le _⟩ hK hP hS (fun _ h => h) 0 4 rfl rfl rfl hl.1 rfl (Nat.le_of_ble_eq_true rfl) dX4_cold_3 (fun H locs hP hS => ?_)
  refine lv_istore_n (lv' := [(3, .int (z (10 + ix n) 7)), (0, .ref (am 0)), (1, .int n), (2, .int v)]) hx hb dX4_cold_6 rfl hl (by decide) rfl (fun ls hl => ?_)
  refine lv_aload_n hx hb dX4_cold_7 rfl (lv_at hl 1 rfl) ?_
  refine lv_iload_n hx hb dX4_cold_8 rfl (lv_at hl 2 rfl) ?_
  refine lv_iconst (v := 1) hx hb dX4_cold_9 rfl ?_
  refine qVi (As := [.int n, .int 1]) (rest := []) hx hb hml hown hts (kX4_number l g z r hj (k := 1) (by decide) n hn) gX4_cold_X4_number rfl 2 hdX4_number rfl ⟨Nat.le_of_ble_eq_true rfl, Nat.le_of_ble_eq_true rfl⟩ ⟨Nat.zero_le _, Nat.zero_le _⟩ hK hP hS (fun _ h => h) 0 4 rfl rfl rfl hl.1 rfl (Nat.le_of_ble_eq_true rfl) dX4_cold_10 (fun H locs hP hS => ?_)
  refine lv_istore (lv' := [(4, .int (z (10 + ix n) 8)), (3, .int (z (10 + ix n) 7)), (0, .ref (am 0)), (1, .int n), (2, .int v)]) hx hb dX4_cold_13 hl (by decide) rfl (fun ls hl => ?_)
  refine lv_aload_n hx hb dX4_cold_15 rfl (lv_at hl 2 rfl) ?_
  refine lv_iload_n hx hb dX4_cold_16 rfl (lv_at hl 3 rfl) ?_
  refine lv_iconst (v := 2) hx hb dX4_cold_17 rfl ?_
  refine qVi (As := [.int n, .int 2]) (rest := []) hx hb hml hown hts (kX4_number l g z r hj (k := 2) (by decide) n hn) gX4_cold_X4_number rfl 2 hdX4_number rfl ⟨Nat.le_of_ble_eq_true rfl, Nat.le_of_ble_eq_true rfl⟩ ⟨Nat.zero_le _, Nat.zero_le _⟩ hK hP hS (fun _ h => h) 0 4 rfl rfl rfl hl.1 rfl (Nat.le_of_ble_eq_true rfl) dX4_cold_18 (fun H locs hP hS => ?_)
  refine lv_istore (lv' := [(5, .int (z (10 + ix n) 9)), (4, .int (z (10 + ix n) 8)), (3, .int (z (10 + ix n) 7)), (0, .ref (am 0)), (1, .int n), (2, .int v)]) hx hb dX4_cold_21 hl (by decide) rfl (fun ls hl => ?_)
  refine lv_aload_n hx hb dX4_cold_23 rfl (lv_at hl 3 rfl) ?_
  refine qGet (ci := 4) (v := .ref (am 4)) (C := RX4) (T := TX4) (N := 25) hx hb hts hin4 hown hK hP 0 rfl rfl 3 (by decide) (hts (.fieldLink RX4 20 "PartCurvesModel" "kindOf" "[I") (by decide +kernel)) rfl dX4_cold_24 ?_
  refine lv_iload_n hx hb dX4_cold_27 rfl (lv_at hl 4 rfl) ?_
  refine qIld (v := (z (10 + ix n) 5)) hx hb hK hP 4 rfl (inR_vp (n := 3) rfl hn 4 (by decide)) rfl dX4_cold_28 ?_
  refine lv_iconst (v := 3) hx hb dX4_cold_29 rfl ?_
  refine lv_icmp_ne (tgt := 57) hx hb dX4_cold_30 (by decide) (fun c_30 => ?_) (fun c_30 => ?_)
  · -- 30 taken
    refine lv_aload_n hx hb dX4_cold_57 rfl (lv_at hl 3 rfl) ?_
    refine qGet (ci := 4) (v := .ref (am 4)) (C := RX4) (T := TX4) (N := 25) hx hb hts hin4 hown hK hP 0 rfl rfl 3 (by decide) (hts (.fieldLink RX4 20 "PartCurvesModel" "kindOf" "[I") (by decide +kernel)) rfl dX4_cold_58 ?_
    refine lv_iload_n hx hb dX4_cold_61 rfl (lv_at hl 4 rfl) ?_
    refine qIld (v := (z (10 + ix n) 5)) hx hb hK hP 4 rfl (inR_vp (n := 3) rfl hn 4 (by decide)) rfl dX4_cold_62 ?_
    refine lv_if_ne (tgt := 76) hx hb dX4_cold_63 (by decide) (fun c_63 => ?_) (fun c_63 => ?_)
    · -- 63 taken
      refine lv_iload_n hx hb dX4_cold_76 rfl (lv_at hl 5 rfl) ?_
      refine lv_iload hx hb dX4_cold_77 (lv_at hl 0 rfl) ?_
      refine lv_imul hx hb dX4_cold_79 ?_
      refine lv_sipush (v := 1000) hx hb dX4_cold_80 (by decide) ?_
      refine qSi (As := [.int (v * (z (10 + ix n) 9)), .int 1000]) (rest := []) hx hb hml hown hts (kX4_cut l g (Wd := (WMu g am)) (A := (adOf 18 am)) (z, r) (v * (z (10 + ix n) 9)) 1000 (by decide) (by decide) hB.2.1) gX4_cold_X4_cut rfl 2 hdX4_cut rfl ⟨Nat.le_of_ble_eq_true rfl, Nat.le_of_ble_eq_true rfl⟩ ⟨Nat.zero_le _, Nat.zero_le _⟩ hK hP hS (fun _ h => h) hl.1 rfl (Nat.le_of_ble_eq_true rfl) dX4_cold_83 (fun H locs hP hS => ?_)
      refine lv_istore (lv' := [(6, .int (fdv (v * (z (10 + ix n) 9)) 1000)), (5, .int (z (10 + ix n) 9)), (4, .int (z (10 + ix n) 8)), (3, .int (z (10 + ix n) 7)), (0, .ref (am 0)), (1, .int n), (2, .int v)]) hx hb dX4_cold_86 hl (by decide) rfl (fun ls hl => ?_)
      refine lv_iload hx hb dX4_cold_88 (lv_at hl 0 rfl) ?_
      refine lv_iload_n hx hb dX4_cold_90 rfl (lv_at hl 6 rfl) ?_
      refine lv_iload hx hb dX4_cold_91 (lv_at hl 2 rfl) ?_
      refine lv_icmp_le (tgt := 111) hx hb dX4_cold_93 (by decide) (fun c_93 => ?_) (fun c_93 => ?_)
      · -- 93 taken
        have c_93n := i_le_t c_93
        refine lv_iconst (v := 0) hx hb dX4_cold_111 rfl ?_
        refine lv_iadd hx hb dX4_cold_112 ?_
        refine lv_istore (lv' := [(6, .int ((fdv (v * (z (10 + ix n) 9)) 1000) + 0)), (5, .int (z (10 + ix n) 9)), (4, .int (z (10 + ix n) 8)), (3, .int (z (10 + ix n) 7)), (0, .ref (am 0)), (1, .int n), (2, .int v)]) hx hb dX4_cold_113 hl (by decide) rfl (fun ls hl => ?_)
        refine lv_iload hx hb dX4_cold_115 (lv_at hl 0 rfl) ?_
        refine lv_aload_n hx hb dX4_cold_117 rfl (lv_at hl 4 rfl) ?_
        refine qGet (ci := 4) (v := .ref (am 4)) (C := RX4) (T := TX4) (N := 25) hx hb hts hin4 hown hK hP 0 rfl rfl 3 (by decide) (hts (.fieldLink RX4 20 "PartCurvesModel" "kindOf" "[I") (by decide +kernel)) rfl dX4_cold_118 ?_
        refine lv_iload_n hx hb dX4_cold_121 rfl (lv_at hl 5 rfl) ?_
        refine qIld (v := (z (10 + ix n) 5)) hx hb hK hP 4 rfl (inR_vp (n := 3) rfl hn 4 (by decide)) rfl dX4_cold_122 ?_
        refine lv_iconst (v := 2) hx hb dX4_cold_123 rfl ?_
        refine lv_icmp_ne (tgt := 149) hx hb dX4_cold_124 (by decide) (fun c_124 => ?_) (fun c_124 => ?_)
        · -- 124 taken
          refine lv_iconst (v := 0) hx hb dX4_cold_149 rfl ?_
          refine lv_iadd hx hb dX4_cold_150 ?_
          exact qRi hx hb hr hlk hP hK hS dX4_cold_151 (by first | rfl | simp [coldF, c_30, c_63, c_93, c_93n, c_124]) (by first | rfl | simp [coldF, c_30, c_63, c_93, c_93n, c_124])
        · -- 124 not taken
          refine lv_iload_n hx hb dX4_cold_127 rfl (lv_at hl 6 rfl) ?_
          refine lv_iload hx hb dX4_cold_128 (lv_at hl 2 rfl) ?_
          refine lv_ineg hx hb dX4_cold_130 ?_
          refine lv_icmp_ge (tgt := 149) hx hb dX4_cold_131 (by decide) (fun c_131 => ?_) (fun c_131 => ?_)
          · -- 131 taken
            have c_131n := i_le_t c_131
            refine lv_iconst (v := 0) hx hb dX4_cold_149 rfl ?_
            refine lv_iadd hx hb dX4_cold_150 ?_
            exact qRi hx hb hr hlk hP hK hS dX4_cold_151 (by first | rfl | simp [coldF, c_30, c_63, c_93, c_93n, c_124, c_131, c_131n]) (by first | rfl | simp [coldF, c_30, c_63, c_93, c_93n, c_124, c_131, c_131n])
          · -- 131 not taken
            have c_131n := i_le_f c_131
            refine lv_iload_n hx hb dX4_cold_134 rfl (lv_at hl 6 rfl) ?_
            refine lv_iload hx hb dX4_cold_135 (lv_at hl 2 rfl) ?_
            refine lv_iadd hx hb dX4_cold_137 ?_
            refine lv_iload_n hx hb dX4_cold_138 rfl (lv_at hl 3 rfl) ?_
            refine lv_imul hx hb dX4_cold_139 ?_
            refine lv_sipush (v := 1000) hx hb dX4_cold_140 (by decide) ?_
            refine qSi (As := [.int ((v + (z (10 + ix n) 8)) * (z (10 + ix n) 7)), .int 1000]) (rest := [.int ((fdv (v * (z (10 + ix n) 9)) 1000) + 0)]) hx hb hml hown hts (kX4_cut l g (Wd := (WMu g am)) (A := (adOf 18 am)) (z, r) ((v + (z (10 + ix n) 8)) * (z (10 + ix n) 7)) 1000 (by decide) (by decide) hB.2.2.2) gX4_cold_X4_cut rfl 2 hdX4_cut rfl ⟨Nat.le_of_ble_eq_true rfl, Nat.le_of_ble_eq_true rfl⟩ ⟨Nat.zero_le _, Nat.zero_le _⟩ hK hP hS (fun _ h => h) hl.1 rfl (Nat.le_of_ble_eq_true rfl) dX4_cold_143 (fun H locs hP hS => ?_)
            refine lv_goto (tgt := 150) hx hb dX4_cold_146 (by decide) ?_
            refine lv_iadd hx hb dX4_cold_150 ?_
            exact qRi hx hb hr hlk hP hK hS dX4_cold_151 (by first | rfl | simp [coldF, c_30, c_63, c_93, c_93n, c_124, c_131, c_131n]) (by first | rfl | simp [coldF, c_30, c_63, c_93, c_93n, c_124, c_131, c_131n])
      · -- 93 not taken
        have c_93n := i_le_f c_93
        refine lv_iload_n hx hb dX4_cold_96 rfl (lv_at hl 6 rfl) ?_
        refine lv_iload hx hb dX4_cold_97 (lv_at hl 2 rfl) ?_
        refine lv_isub hx hb dX4_cold_99 ?_
        refine lv_iload_n hx hb dX4_cold_100 rfl (lv_at hl 3 rfl) ?_
        refine lv_imul hx hb dX4_cold_101 ?_
        refine lv_sipush (v := 1000) hx hb dX4_cold_102 (by decide) ?_
        refine qSi (As := [.int ((v - (z (10 + ix n) 8)) * (z (10 + ix n) 7)), .int 1000]) (rest := [.int (fdv (v * (z (10 + ix n) 9)) 1000)]) hx hb hml hown hts (kX4_cut l g (Wd := (WMu g am)) (A := (adOf 18 am)) (z, r) ((v - (z (10 + ix n) 8)) * (z (10 + ix n) 7)) 1000 (by decide) (by decide) hB.2.2.1) gX4_cold_X4_cut rfl 2 hdX4_cut rfl ⟨Nat.le_of_ble_eq_true rfl, Nat.le_of_ble_eq_true rfl⟩ ⟨Nat.zero_le _, Nat.zero_le _⟩ hK hP hS (fun _ h => h) hl.1 rfl (Nat.le_of_ble_eq_true rfl) dX4_cold_105 (fun H locs hP hS => ?_)
        refine lv_goto (tgt := 112) hx hb dX4_cold_108 (by decide) ?_
        refine lv_iadd hx hb dX4_cold_112 ?_
        refine lv_istore (lv' := [(6, .int ((fdv (v * (z (10 + ix n) 9)) 1000) + (fdv ((v - (z (10 + ix n) 8)) * (z (10 + ix n) 7)) 1000))), (5, .int (z (10 + ix n) 9)), (4, .int (z (10 + ix n) 8)), (3, .int (z (10 + ix n) 7)), (0, .ref (am 0)), (1, .int n), (2, .int v)]) hx hb dX4_cold_113 hl (by decide) rfl (fun ls hl => ?_)
        refine lv_iload hx hb dX4_cold_115 (lv_at hl 0 rfl) ?_
        refine lv_aload_n hx hb dX4_cold_117 rfl (lv_at hl 4 rfl) ?_
        refine qGet (ci := 4) (v := .ref (am 4)) (C := RX4) (T := TX4) (N := 25) hx hb hts hin4 hown hK hP 0 rfl rfl 3 (by decide) (hts (.fieldLink RX4 20 "PartCurvesModel" "kindOf" "[I") (by decide +kernel)) rfl dX4_cold_118 ?_
        refine lv_iload_n hx hb dX4_cold_121 rfl (lv_at hl 5 rfl) ?_
        refine qIld (v := (z (10 + ix n) 5)) hx hb hK hP 4 rfl (inR_vp (n := 3) rfl hn 4 (by decide)) rfl dX4_cold_122 ?_
        refine lv_iconst (v := 2) hx hb dX4_cold_123 rfl ?_
        refine lv_icmp_ne (tgt := 149) hx hb dX4_cold_124 (by decide) (fun c_124 => ?_) (fun c_124 => ?_)
        · -- 124 taken
          refine lv_iconst (v := 0) hx hb dX4_cold_149 rfl ?_
          refine lv_iadd hx hb dX4_cold_150 ?_
          exact qRi hx hb hr hlk hP hK hS dX4_cold_151 (by first | rfl | simp [coldF, c_30, c_63, c_93, c_93n, c_124]) (by first | rfl | simp [coldF, c_30, c_63, c_93, c_93n, c_124])
        · -- 124 not taken
          refine lv_iload_n hx hb dX4_cold_127 rfl (lv_at hl 6 rfl) ?_
          refine lv_iload hx hb dX4_cold_128 (lv_at hl 2 rfl) ?_
          refine lv_ineg hx hb dX4_cold_130 ?_
          refine lv_icmp_ge (tgt := 149) hx hb dX4_cold_131 (by decide) (fun c_131 => ?_) (fun c_131 => ?_)
          · -- 131 taken
            have c_131n := i_le_t c_131
            refine lv_iconst (v := 0) hx hb dX4_cold_149 rfl ?_
            refine lv_iadd hx hb dX4_cold_150 ?_
            exact qRi hx hb hr hlk hP hK hS dX4_cold_151 (by first | rfl | simp [coldF, c_30, c_63, c_93, c_93n, c_124, c_131, c_131n]) (by first | rfl | simp [coldF, c_30, c_63, c_93, c_93n, c_124, c_131, c_131n])
          · -- 131 not taken
            have c_131n := i_le_f c_131
            refine lv_iload_n hx hb dX4_cold_134 rfl (lv_at hl 6 rfl) ?_
            refine lv_iload hx hb dX4_cold_135 (lv_at hl 2 rfl) ?_
            refine lv_iadd hx hb dX4_cold_137 ?_
            refine lv_iload_n hx hb dX4_cold_138 rfl (lv_at hl 3 rfl) ?_
            refine lv_imul hx hb dX4_cold_139 ?_
            refine lv_sipush (v := 1000) hx hb dX4_cold_140 (by decide) ?_
            refine qSi (As := [.int ((v + (z (10 + ix n) 8)) * (z (10 + ix n) 7)), .int 1000]) (rest := [.int ((fdv (v * (z (10 + ix n) 9)) 1000) + (fdv ((v - (z (10 + ix n) 8)) * (z (10 + ix n) 7)) 1000))]) hx hb hml hown hts (kX4_cut l g (Wd := (WMu g am)) (A := (adOf 18 am)) (z, r) ((v + (z (10 + ix n) 8)) * (z (10 + ix n) 7)) 1000 (by decide) (by decide) hB.2.2.2) gX4_cold_X4_cut rfl 2 hdX4_cut rfl ⟨Nat.le_of_ble_eq_true rfl, Nat.le_of_ble_eq_true rfl⟩ ⟨Nat.zero_le _, Nat.zero_le _⟩ hK hP hS (fun _ h => h) hl.1 rfl (Nat.le_of_ble_eq_true rfl) dX4_cold_143 (fun H locs hP hS => ?_)
            refine lv_goto (tgt := 150) hx hb dX4_cold_146 (by decide) ?_
            refine lv_iadd hx hb dX4_cold_150 ?_
            exact qRi hx hb hr hlk hP hK hS dX4_cold_151 (by first | rfl | simp [coldF, c_30, c_63, c_93, c_93n, c_124, c_131, c_131n]) (by first | rfl | simp [coldF, c_30, c_63, c_93, c_93n, c_124, c_131, c_131n])
    · -- 63 not taken
      refine lv_iload_n hx hb dX4_cold_66 rfl (lv_at hl 5 rfl) ?_
      refine lv_iload_n hx hb dX4_cold_67 rfl (lv_at hl 2 rfl) ?_
      refine lv_imul hx hb dX4_cold_68 ?_
      refine lv_sipush (v := 1000) hx hb dX4_cold_69 (by decide) ?_
      refine qSi (As := [.int (v * (z (10 + ix n) 7)), .int 1000]) (rest := []) hx hb hml hown hts (kX4_cut l g (Wd := (WMu g am)) (A := (adOf 18 am)) (z, r) (v * (z (10 + ix n) 7)) 1000 (by decide) (by decide) hB.1) gX4_cold_X4_cut rfl 2 hdX4_cut rfl ⟨Nat.le_of_ble_eq_true rfl, Nat.le_of_ble_eq_true rfl⟩ ⟨Nat.zero_le _, Nat.zero_le _⟩ hK hP hS (fun _ h => h) hl.1 rfl (Nat.le_of_ble_eq_true rfl) dX4_cold_72 (fun H locs hP hS => ?_)
      exact qRi hx hb hr hlk hP hK hS dX4_cold_75 (by first | rfl | simp [coldF, c_30, c_63]) (by first | rfl | simp [coldF, c_30, c_63])
  · -- 30 not taken
    refine lv_iload_n hx hb dX4_cold_33 rfl (lv_at hl 5 rfl) ?_
    refine lv_aload_n hx hb dX4_cold_34 rfl (lv_at hl 3 rfl) ?_
    refine qGet (ci := 4) (v := .ref (am 10)) (C := RX4) (T := TX4) (N := 25) hx hb hts hin4 hown hK hP 0 rfl rfl 9 (by decide) (hts (.fieldLink RX4 38 "PartCurvesModel" "isOpen" "[Z") (by decide +kernel)) rfl dX4_cold_35 ?_
    refine lv_iload_n hx hb dX4_cold_38 rfl (lv_at hl 4 rfl) ?_
    refine qZld (v := (z (10 + ix n) 2)) hx hb hK hP 10 rfl (inR_vp (n := 3) rfl hn 4 (by decide)) rfl dX4_cold_39 ?_
    refine lv_if_eq (tgt := 47) hx hb dX4_cold_40 (by decide) (fun c_40 => ?_) (fun c_40 => ?_)
    · -- 40 taken
      refine lv_iload hx hb dX4_cold_47 (lv_at hl 0 rfl) ?_
      refine lv_imul hx hb dX4_cold_49 ?_
      refine lv_sipush (v := 1000) hx hb dX4_cold_50 (by decide) ?_
      refine qSi (As := [.int (v * (z (10 + ix n) 9)), .int 1000]) (rest := []) hx hb hml hown hts (kX4_cut l g (Wd := (WMu g am)) (A := (adOf 18 am)) (z, r) (v * (z (10 + ix n) 9)) 1000 (by decide) (by decide) (by first | exact hB.1 | exact hB.2.1)) gX4_cold_X4_cut rfl 2 hdX4_cut rfl ⟨Nat.le_of_ble_eq_true rfl, Nat.le_of_ble_eq_true rfl⟩ ⟨Nat.zero_le _, Nat.zero_le _⟩ hK hP hS (fun _ h => h) hl.1 rfl (Nat.le_of_ble_eq_true rfl) dX4_cold_53 (fun H locs hP hS => ?_)
      exact qRi hx hb hr hlk hP hK hS dX4_cold_56 (by first | rfl | simp [coldF, c_30, c_40]) (by first | rfl | simp [coldF, c_30, c_40])
    · -- 40 not taken
      refine lv_iload_n hx hb dX4_cold_43 rfl (lv_at hl 2 rfl) ?_
      refine lv_goto (tgt := 49) hx hb dX4_cold_44 (by decide) ?_
      refine lv_imul hx hb dX4_cold_49 ?_
      refine lv_sipush (v := 1000) hx hb dX4_cold_50 (by decide) ?_
      refine qSi (As := [.int (v * (z (10 + ix n) 7)), .int 1000]) (rest := []) hx hb hml hown hts (kX4_cut l g (Wd := (WMu g am)) (A := (adOf 18 am)) (z, r) (v * (z (10 + ix n) 7)) 1000 (by decide) (by decide) (by first | exact hB.1 | exact hB.2.1)) gX4_cold_X4_cut rfl 2 hdX4_cut rfl ⟨Nat.le_of_ble_eq_true rfl, Nat.le_of_ble_eq_true rfl⟩ ⟨Nat.zero_le _, Nat.zero_le _⟩ hK hP hS (fun _ h => h) hl.1 rfl (Nat.le_of_ble_eq_true rfl) dX4_cold_53 (fun H locs hP hS => ?_)
      exact qRi hx hb hr hlk hP hK hS dX4_cold_56 (by first | rfl | simp [coldF, c_30, c_40]) (by first | rfl | simp [coldF, c_30, c_40])
set_option maxHeartbeats 4000000 in
set_option maxRecDepth 100000 in
theorem kX4_ownAmps (l : Launch) (g : qG) {am : Nat → Nat} (z : zS) (r : Nat → Int32) (hj : adInj 18 am) (hI : qInv z) (n : Int32) (hn : inR n 0 3 = true) (v : Int32) (hv : inR v (-3000) 3000 = true) : qMi l yX4_ownAmps wsX4_ownAmps 2 g (WMu g am) (adOf 18 am) (z, r) [.ref (am 0), .int n, .int v] (ownF (z (10 + ix n)) v) (z, r) := by
  refine qStart (cc := cX4_ownAmps) (maxL := 3) (ret := (some .int)) (plainFor_of_name (by decide)) rfl (Nat.le_of_ble_eq_true rfl) ?_
  intro p e s m args below meth c hx hb hml hown hts hr hlk hP hK ls hl
  have hl : lv_has ls 3 [(0, .ref (am 0)), (1, .int n), (2, .int v)] := hl
  have hS : va_S (adOf 18 am) s.heap s.heap [] := va_S.rf
  have hin4 : ∀ w ∈ u_ws RX4 TX4 25, w ∈ wsX4_ownAmps := by decide +kernel
  have hn4 := pOk_n hn
  have hB := ownB (inv_p hI _ hn4) hv
  refine lv_aload_n hx hb dX4_ownAmps_0 rfl (lv_at hl 0 rfl) ?_
  refine qGet (ci := 4) (v := .ref (am 9)) (C := RX4) (T := TX4) (N := 25) hx hb hts hin4 hown hK hP 0 rfl rfl 8 (by decide) (hts (.fieldLink RX4 35 "PartCurvesModel" "isBurnt" "[Z") (by decide +kernel)) rfl dX4_ownAmps_1 ?_
  refine lv_iload_n hx hb dX4_ownAmps_4 rfl (lv_at hl 1 rfl) ?_
  refine qZld (v := (z (10 + ix n) 1)) hx hb hK hP 9 rfl (inR_vp (n := 3) rfl hn 4 (by decide)) rfl dX4_ownAmps_5 ?_
  refine lv_if_eq (tgt := 13) hx hb dX4_ownAmps_6 (by decide) (fun c_6 => ?_) (fun c_6 => ?_)
  · -- 6 taken
    refine lv_sipush (v := 1000) hx hb dX4_ownAmps_13 (by decide) ?_
    refine lv_aload_n hx hb dX4_ownAmps_16 rfl (lv_at hl 0 rfl) ?_
    refine lv_iload_n hx hb dX4_ownAmps_17 rfl (lv_at hl 1 rfl) ?_
    refine lv_iload_n hx hb dX4_ownAmps_18 rfl (lv_at hl 2 rfl) ?_
    refine qVi (As := [.int n, .int v]) (rest := [.int 1000]) hx hb hml hown hts (kX4_cold l g z r hj hI n hn v hv) gX4_ownAmps_X4_cold rfl 2 hdX4_cold rfl ⟨Nat.le_of_ble_eq_true rfl, Nat.le_of_ble_eq_true rfl⟩ ⟨Nat.zero_le _, Nat.zero_le _⟩ hK hP hS (fun _ h => h) 0 4 rfl rfl rfl hl.1 rfl (Nat.le_of_ble_eq_true rfl) dX4_ownAmps_19 (fun H locs hP hS => ?_)
    refine lv_imul hx hb dX4_ownAmps_22 ?_
    refine lv_sipush (v := 1000) hx hb dX4_ownAmps_23 (by decide) ?_
    refine lv_aload_n hx hb dX4_ownAmps_26 rfl (lv_at hl 0 rfl) ?_
    refine lv_iload_n hx hb dX4_ownAmps_27 rfl (lv_at hl 1 rfl) ?_
    refine lv_iconst (v := 4) hx hb dX4_ownAmps_28 rfl ?_
    refine qVi (As := [.int n, .int 4]) (rest := [.int 1000, .int (1000 * (coldF (z (10 + ix n)) v))]) hx hb hml hown hts (kX4_number l g z r hj (k := 4) (by decide) n hn) gX4_ownAmps_X4_number rfl 2 hdX4_number rfl ⟨Nat.le_of_ble_eq_true rfl, Nat.le_of_ble_eq_true rfl⟩ ⟨Nat.zero_le _, Nat.zero_le _⟩ hK hP hS (fun _ h => h) 0 4 rfl rfl rfl hl.1 rfl (Nat.le_of_ble_eq_true rfl) dX4_ownAmps_29 (fun H locs hP hS => ?_)
    refine lv_aload_n hx hb dX4_ownAmps_32 rfl (lv_at hl 0 rfl) ?_
    refine qGet (ci := 4) (v := .ref (am 8)) (C := RX4) (T := TX4) (N := 25) hx hb hts hin4 hown hK hP 0 rfl rfl 7 (by decide) (hts (.fieldLink RX4 32 "PartCurvesModel" "heatOf" "[I") (by decide +kernel)) rfl dX4_ownAmps_33 ?_
    refine lv_iload_n hx hb dX4_ownAmps_36 rfl (lv_at hl 1 rfl) ?_
    refine qIld (v := (z (10 + ix n) 6)) hx hb hK hP 8 rfl (inR_vp (n := 3) rfl hn 4 (by decide)) rfl dX4_ownAmps_37 ?_
    refine lv_imul hx hb dX4_ownAmps_38 ?_
    refine lv_iadd hx hb dX4_ownAmps_39 ?_
    refine qSi (As := [.int (1000 * (coldF (z (10 + ix n)) v)), .int (1000 + ((z (10 + ix n) 11) * (z (10 + ix n) 6)))]) (rest := []) hx hb hml hown hts (kX4_cut l g (Wd := (WMu g am)) (A := (adOf 18 am)) (z, r) (1000 * (coldF (z (10 + ix n)) v)) (1000 + ((z (10 + ix n) 11) * (z (10 + ix n) 6))) hB.1 hB.2.1 hB.2.2.1) gX4_ownAmps_X4_cut rfl 2 hdX4_cut rfl ⟨Nat.le_of_ble_eq_true rfl, Nat.le_of_ble_eq_true rfl⟩ ⟨Nat.zero_le _, Nat.zero_le _⟩ hK hP hS (fun _ h => h) hl.1 rfl (Nat.le_of_ble_eq_true rfl) dX4_ownAmps_40 (fun H locs hP hS => ?_)
    exact qRi hx hb hr hlk hP hK hS dX4_ownAmps_43 (by unfold ownF; rw [if_pos c_6, if_pos hB.2.2.2]) rfl
  · -- 6 not taken
    refine lv_iconst (v := 0) hx hb dX4_ownAmps_9 rfl ?_
    refine lv_goto (tgt := 43) hx hb dX4_ownAmps_10 (by decide) ?_
    exact qRi hx hb hr hlk hP hK hS dX4_ownAmps_43 (by unfold ownF; rw [if_neg c_6]) rfl
set_option maxHeartbeats 4000000 in
set_option maxRecDepth 100000 in
theorem kX4_ampsAt (l : Launch) (g : qG) {am : Nat → Nat} (z : zS) (r : Nat → Int32) (hj : adInj 18 am) (hI : qInv z) (n : Int32) (hn : inR n 0 3 = true) (hl9 : hlB z = true) (v : Int32) (hv : inR v (-3000) 3000 = true) : qMi l yX4_ampsAt wsX4_ampsAt 3 g (WMu g am) (adOf 18 am) (z, r) [.ref (am 0), .int n, .int v] (ampF z (10 + ix n) v) (z, r) := by
  refine qStart (cc := cX4_ampsAt) (maxL := 3) (ret := (some .int)) (plainFor_of_name (by decide)) rfl (Nat.le_of_ble_eq_true rfl) ?_
  intro p e s m args below meth c hx hb hml hown hts hr hlk hP hK ls hl
  have hl : lv_has ls 3 [(0, .ref (am 0)), (1, .int n), (2, .int v)] := hl
  have hS : va_S (adOf 18 am) s.heap s.heap [] := va_S.rf
  have hn4 := pOk_n hn
  have hfw := fw_iff hI hl9 hn4
  refine lv_aload_n hx hb dX4_ampsAt_0 rfl (lv_at hl 0 rfl) ?_
  refine lv_iload_n hx hb dX4_ampsAt_1 rfl (lv_at hl 1 rfl) ?_
  refine qVi (As := [.int n]) (rest := []) hx hb hml hown hts (kX4_isForward l g z r hj n hn) gX4_ampsAt_X4_isForward rfl 1 hdX4_isForward rfl ⟨Nat.le_of_ble_eq_true rfl, Nat.le_of_ble_eq_true rfl⟩ ⟨Nat.zero_le _, Nat.zero_le _⟩ hK hP hS (fun _ h => h) 0 4 rfl rfl rfl hl.1 rfl (Nat.le_of_ble_eq_true rfl) dX4_ampsAt_2 (fun H locs hP hS => ?_)
  refine lv_if_eq (tgt := 17) hx hb dX4_ampsAt_5 (by decide) (fun c_5 => ?_) (fun c_5 => ?_)
  · -- 5 taken
    have c_5 := bI_0 c_5
    refine lv_aload_n hx hb dX4_ampsAt_17 rfl (lv_at hl 0 rfl) ?_
    refine lv_iload_n hx hb dX4_ampsAt_18 rfl (lv_at hl 1 rfl) ?_
    refine lv_iload_n hx hb dX4_ampsAt_19 rfl (lv_at hl 2 rfl) ?_
    refine lv_ineg hx hb dX4_ampsAt_20 ?_
    refine qVi (As := [.int n, .int (-v)]) (rest := []) hx hb hml hown hts (kX4_ownAmps l g z r hj hI n hn (-v) (inR_neg hv)) gX4_ampsAt_X4_ownAmps rfl 2 hdX4_ownAmps rfl ⟨Nat.le_of_ble_eq_true rfl, Nat.le_of_ble_eq_true rfl⟩ ⟨Nat.zero_le _, Nat.zero_le _⟩ hK hP hS (fun _ h => h) 0 4 rfl rfl rfl hl.1 rfl (Nat.le_of_ble_eq_true rfl) dX4_ampsAt_21 (fun H locs hP hS => ?_)
    refine lv_ineg hx hb dX4_ampsAt_24 ?_
    exact qRi hx hb hr hlk hP hK hS dX4_ampsAt_25 (by simp only [ampF, ownd, if_neg (fun q => absurd (hfw.mpr q) (bn c_5))]) rfl
  · -- 5 not taken
    have c_5 := bI_n c_5
    refine lv_aload_n hx hb dX4_ampsAt_8 rfl (lv_at hl 0 rfl) ?_
    refine lv_iload_n hx hb dX4_ampsAt_9 rfl (lv_at hl 1 rfl) ?_
    refine lv_iload_n hx hb dX4_ampsAt_10 rfl (lv_at hl 2 rfl) ?_
    refine qVi (As := [.int n, .int v]) (rest := []) hx hb hml hown hts (kX4_ownAmps l g z r hj hI n hn v hv) gX4_ampsAt_X4_ownAmps rfl 2 hdX4_ownAmps rfl ⟨Nat.le_of_ble_eq_true rfl, Nat.le_of_ble_eq_true rfl⟩ ⟨Nat.zero_le _, Nat.zero_le _⟩ hK hP hS (fun _ h => h) 0 4 rfl rfl rfl hl.1 rfl (Nat.le_of_ble_eq_true rfl) dX4_ampsAt_11 (fun H locs hP hS => ?_)
    refine lv_goto (tgt := 25) hx hb dX4_ampsAt_14 (by decide) ?_
    exact qRi hx hb hr hlk hP hK hS dX4_ampsAt_25 (by simp only [ampF, ownd, if_pos (hfw.mp c_5)]) rfl
set_option maxHeartbeats 4000000 in
set_option maxRecDepth 100000 in
theorem kX4_dropBy (l : Launch) (g : qG) {am : Nat → Nat} (z : zS) (r : Nat → Int32) (hj : adInj 18 am) (hI : qInv z) (a : Int32) (h1 : -21000 ≤ a.toInt) (h2 : a.toInt ≤ 21000) : qMi l yX4_dropBy wsX4_dropBy 1 g (WMu g am) (adOf 18 am) (z, r) [.ref (am 0), .int a] (dropF z a) (z, r) := by
  refine qStart (cc := cX4_dropBy) (maxL := 2) (ret := (some .int)) (plainFor_of_name (by decide)) rfl (Nat.le_of_ble_eq_true rfl) ?_
  intro p e s m args below meth c hx hb hml hown hts hr hlk hP hK ls hl
  have hl : lv_has ls 2 [(0, .ref (am 0)), (1, .int a)] := hl
  have hS : va_S (adOf 18 am) s.heap s.heap [] := va_S.rf
  have hin4 : ∀ w ∈ u_ws RX4 TX4 25, w ∈ wsX4_dropBy := by decide +kernel
  refine lv_iload_n hx hb dX4_dropBy_0 rfl (lv_at hl 1 rfl) ?_
  refine lv_aload_n hx hb dX4_dropBy_1 rfl (lv_at hl 0 rfl) ?_
  refine qGet (ci := 4) (v := .int (z 0 2)) (C := RX4) (T := TX4) (N := 25) hx hb hts hin4 hown hK hP 0 rfl rfl 13 (by decide) (hts (.fieldLink RX4 96 "PartCurvesModel" "leads" "I") (by decide +kernel)) rfl dX4_dropBy_2 ?_
  refine lv_imul hx hb dX4_dropBy_5 ?_
  refine lv_sipush (v := 1000) hx hb dX4_dropBy_6 (by decide) ?_
  refine qSi (As := [.int (a * (z 0 2)), .int 1000]) (rest := []) hx hb hml hown hts (kX4_cut l g (Wd := (WMu g am)) (A := (adOf 18 am)) (z, r) (a * (z 0 2)) 1000 (by decide) (by decide) (dropB hI h1 h2)) gX4_dropBy_X4_cut rfl 2 hdX4_cut rfl ⟨Nat.le_of_ble_eq_true rfl, Nat.le_of_ble_eq_true rfl⟩ ⟨Nat.zero_le _, Nat.zero_le _⟩ hK hP hS (fun _ h => h) hl.1 rfl (Nat.le_of_ble_eq_true rfl) dX4_dropBy_9 (fun H locs hP hS => ?_)
  exact qRi hx hb hr hlk hP hK hS dX4_dropBy_12 (by first | rfl | simp []) (by first | rfl | simp [])
set_option maxHeartbeats 4000000 in
set_option maxRecDepth 100000 in
theorem kX4_against (l : Launch) (g : qG) {am : Nat → Nat} (z : zS) (r : Nat → Int32) (hj : adInj 18 am) (hI : qInv z) (n : Int32) (hn : inR n 0 3 = true) (hl9 : hlB z = true) (u v : Int32) (hu : inR u (-3000) 3000 = true) : qMi l yX4_against wsX4_against 4 g (WMu g am) (adOf 18 am) (z, r) [.ref (am 0), .int n, .int u, .int v] (agF z (10 + ix n) u v) (z, r) := by
  refine qStart (cc := cX4_against) (maxL := 5) (ret := (some .int)) (plainFor_of_name (by decide)) rfl (Nat.le_of_ble_eq_true rfl) ?_
  intro p e s m args below meth c hx hb hml hown hts hr hlk hP hK ls hl
  have hl : lv_has ls 5 [(0, .ref (am 0)), (1, .int n), (2, .int u), (3, .int v)] := hl
  have hS : va_S (adOf 18 am) s.heap s.heap [] := va_S.rf
  have hin4 : ∀ w ∈ u_ws RX4 TX4 25, w ∈ wsX4_against := by decide +kernel
  have hn4 := pOk_n hn
  have hub := inR_b hu (x := -3000) (y := 3000) rfl rfl
  have hab := ampF_Z (inv_p hI _ hn4) hub.1 hub.2
  refine lv_aload_n hx hb dX4_against_0 rfl (lv_at hl 0 rfl) ?_
  refine lv_iload_n hx hb dX4_against_1 rfl (lv_at hl 1 rfl) ?_
  refine lv_iload_n hx hb dX4_against_2 rfl (lv_at hl 2 rfl) ?_
  refine qVi (As := [.int n, .int u]) (rest := []) hx hb hml hown hts (kX4_ampsAt l g z r hj hI n hn hl9 u hu) gX4_against_X4_ampsAt rfl 2 hdX4_ampsAt rfl ⟨Nat.le_of_ble_eq_true rfl, Nat.le_of_ble_eq_true rfl⟩ ⟨Nat.zero_le _, Nat.zero_le _⟩ hK hP hS (fun _ h => h) 0 4 rfl rfl rfl hl.1 rfl (Nat.le_of_ble_eq_true rfl) dX4_against_3 (fun H locs hP hS => ?_)
  refine lv_istore (lv' := [(4, .int (ampF z (10 + ix n) u)), (0, .ref (am 0)), (1, .int n), (2, .int u), (3, .int v)]) hx hb dX4_against_6 hl (by decide) rfl (fun ls hl => ?_)
  refine lv_iload hx hb dX4_against_8 (lv_at hl 0 rfl) ?_
  refine qSi (As := [.int (ampF z (10 + ix n) u)]) (rest := []) hx hb hml hown hts (kX4_size l g (Wd := (WMu g am)) (A := (adOf 18 am)) (z, r) (ampF z (10 + ix n) u)) gX4_against_X4_size rfl 1 hdX4_size rfl ⟨Nat.le_of_ble_eq_true rfl, Nat.le_of_ble_eq_true rfl⟩ ⟨Nat.zero_le _, Nat.zero_le _⟩ hK hP hS (fun _ h => h) hl.1 rfl (Nat.le_of_ble_eq_true rfl) dX4_against_10 (fun H locs hP hS => ?_)
  refine lv_aload_n hx hb dX4_against_13 rfl (lv_at hl 1 rfl) ?_
  refine qGet (ci := 4) (v := .int (z 0 1)) (C := RX4) (T := TX4) (N := 25) hx hb hts hin4 hown hK hP 0 rfl rfl 12 (by decide) (hts (.fieldLink RX4 44 "PartCurvesModel" "limit" "I") (by decide +kernel)) rfl dX4_against_14 ?_
  refine lv_icmp_le (tgt := 22) hx hb dX4_against_17 (by decide) (fun c_17 => ?_) (fun c_17 => ?_)
  · -- 17 taken
    have c_17n := i_le_t c_17
    have hal : ¬ alB z (10 + ix n) u = true := by unfold alB; rw [decide_eq_true_eq]; exact c_17n
    refine lv_aload_n hx hb dX4_against_22 rfl (lv_at hl 1 rfl) ?_
    refine qVi (As := []) (rest := []) hx hb hml hown hts (kX4_isFourWires l g z r hj hI) gX4_against_X4_isFourWires rfl 0 hdX4_isFourWires rfl ⟨Nat.le_of_ble_eq_true rfl, Nat.le_of_ble_eq_true rfl⟩ ⟨Nat.zero_le _, Nat.zero_le _⟩ hK hP hS (fun _ h => h) 0 4 rfl rfl rfl hl.1 rfl (Nat.le_of_ble_eq_true rfl) dX4_against_23 (fun H locs hP hS => ?_)
    refine lv_if_ne (tgt := 51) hx hb dX4_against_26 (by decide) (fun c_26 => ?_) (fun c_26 => ?_)
    · -- 26 taken
      have c_26 := bI_n c_26
      refine lv_iconst (v := 0) hx hb dX4_against_51 rfl ?_
      exact qRi hx hb hr hlk hP hK hS dX4_against_52 (by unfold agF; rw [if_neg hal, if_pos c_26]) rfl
    · -- 26 not taken
      have c_26 := bI_0 c_26
      refine lv_iload_n hx hb dX4_against_29 rfl (lv_at hl 3 rfl) ?_
      refine lv_aload_n hx hb dX4_against_30 rfl (lv_at hl 1 rfl) ?_
      refine lv_iload hx hb dX4_against_31 (lv_at hl 0 rfl) ?_
      refine qVi (As := [.int (ampF z (10 + ix n) u)]) (rest := [.int u]) hx hb hml hown hts (kX4_dropBy l g z r hj hI (ampF z (10 + ix n) u) hab.2.1 hab.2.2) gX4_against_X4_dropBy rfl 1 hdX4_dropBy rfl ⟨Nat.le_of_ble_eq_true rfl, Nat.le_of_ble_eq_true rfl⟩ ⟨Nat.zero_le _, Nat.zero_le _⟩ hK hP hS (fun _ h => h) 0 4 rfl rfl rfl hl.1 rfl (Nat.le_of_ble_eq_true rfl) dX4_against_33 (fun H locs hP hS => ?_)
      refine lv_iadd hx hb dX4_against_36 ?_
      refine qSi (As := [.int (u + (dropF z (ampF z (10 + ix n) u)))]) (rest := []) hx hb hml hown hts (kX4_size l g (Wd := (WMu g am)) (A := (adOf 18 am)) (z, r) (u + (dropF z (ampF z (10 + ix n) u)))) gX4_against_X4_size rfl 1 hdX4_size rfl ⟨Nat.le_of_ble_eq_true rfl, Nat.le_of_ble_eq_true rfl⟩ ⟨Nat.zero_le _, Nat.zero_le _⟩ hK hP hS (fun _ h => h) hl.1 rfl (Nat.le_of_ble_eq_true rfl) dX4_against_37 (fun H locs hP hS => ?_)
      refine lv_iload_n hx hb dX4_against_40 rfl (lv_at hl 4 rfl) ?_
      refine qSi (As := [.int v]) (rest := [.int (absI (u + (dropF z (ampF z (10 + ix n) u))))]) hx hb hml hown hts (kX4_size l g (Wd := (WMu g am)) (A := (adOf 18 am)) (z, r) v) gX4_against_X4_size rfl 1 hdX4_size rfl ⟨Nat.le_of_ble_eq_true rfl, Nat.le_of_ble_eq_true rfl⟩ ⟨Nat.zero_le _, Nat.zero_le _⟩ hK hP hS (fun _ h => h) hl.1 rfl (Nat.le_of_ble_eq_true rfl) dX4_against_41 (fun H locs hP hS => ?_)
      refine lv_icmp_le (tgt := 51) hx hb dX4_against_44 (by decide) (fun c_44 => ?_) (fun c_44 => ?_)
      · -- 44 taken
        have c_44n := i_le_t c_44
        refine lv_iconst (v := 0) hx hb dX4_against_51 rfl ?_
        exact qRi hx hb hr hlk hP hK hS dX4_against_52 (by unfold agF; rw [if_neg hal, if_neg (bn c_26), if_neg c_44n]) rfl
      · -- 44 not taken
        have c_44n := i_le_f c_44
        refine lv_iconst (v := 2) hx hb dX4_against_47 rfl ?_
        refine lv_goto (tgt := 52) hx hb dX4_against_48 (by decide) ?_
        exact qRi hx hb hr hlk hP hK hS dX4_against_52 (by unfold agF; rw [if_neg hal, if_neg (bn c_26), if_pos c_44n]) rfl
  · -- 17 not taken
    have c_17n := i_le_f c_17
    refine lv_iconst (v := 1) hx hb dX4_against_20 rfl ?_
    exact qRi hx hb hr hlk hP hK hS dX4_against_21 (by unfold agF; rw [if_pos (by unfold alB; exact decide_eq_true c_17n)]) rfl
set_option maxHeartbeats 4000000 in
set_option maxRecDepth 100000 in
theorem kX4_finds (l : Launch) (g : qG) {am : Nat → Nat} (z : zS) (r : Nat → Int32) (hj : adInj 18 am) (hI : qInv z) (n : Int32) (hn : inR n 0 3 = true) (hl9 : hlB z = true) (v : Int32) (hv : inR v (-3000) 3000 = true) : qMv l yX4_finds wsX4_finds 5 g (WMu g am) (adOf 18 am) (z, r) [.ref (am 0), .int n, .int v] (z, upd (upd r 0 (uF z (10 + ix n) v)) 1 (ruF z (10 + ix n) (uF z (10 + ix n) v) v)) := by
  refine qStart (cc := cX4_finds) (maxL := 4) (ret := none) (plainFor_of_name (by decide)) rfl (Nat.le_of_ble_eq_true rfl) ?_
  intro p e s m args below meth c hx hb hml hown hts hr hlk hP hK ls hl
  have hl : lv_has ls 4 [(0, .ref (am 0)), (1, .int n), (2, .int v)] := hl
  have hS : va_S (adOf 18 am) s.heap s.heap [] := va_S.rf
  have hin4 : ∀ w ∈ u_ws RX4 TX4 25, w ∈ wsX4_finds := by decide +kernel
  have loop : ∀ (k : Nat) (q : Nat), q + k = ix (absI v) → q ≤ ix (absI v) → (∀ j, 1 ≤ j → j ≤ q → awB z (10 + ix n) (sgn v * nI j) v = true) → ∀ (H : Heap) (locs : List Loc), va_P g.1 vwCl ((WMu g am) (z, upd (upd r 0 (sgn v * nI q)) 1 0)) H → va_S (adOf 18 am) s.heap H locs → ∀ ls : Array Slot, lv_has ls 4 [(0, .ref (am 0)), (1, .int n), (2, .int v), (3, .int (sgn v))] → W p l e (rmL 5) s m args below meth c H locs 0 0 (MQ below (va_Qv (fun u9 => u9 = (z, upd (upd r 0 (uF z (10 + ix n) v)) 1 (ruF z (10 + ix n) (uF z (10 + ix n) v) v))) (qU g (WMu g am)) (adOf 18 am)) args s 0 0 (adOf 18 am)) (F0 m 20 ls []) := by
    intro k
    induction k with
    | zero =>
      intro q hq hqK hall H locs hP hS ls hl
      refine lv_aload_n hx hb dX4_finds_20 rfl (lv_at hl 0 rfl) ?_
      refine qGet (ci := 4) (v := .int (sgn v * nI q)) (C := RX4) (T := TX4) (N := 25) hx hb hts hin4 hown hK hP 0 rfl rfl 14 (by decide) (hts (.fieldLink RX4 125 "PartCurvesModel" "found" "I") (by decide +kernel)) (by simp [pF, zu, upd]) dX4_finds_21 ?_
      refine lv_iload_n hx hb dX4_finds_24 rfl (lv_at hl 2 rfl) ?_
      refine lv_icmp_eq (tgt := 75) hx hb dX4_finds_25 (by decide) (fun c_25 => ?_) (fun c_25 => ?_)
      · -- 25 taken
        exact qRv hx hb hr hlk hP hK hS dX4_finds_75 (by obtain ⟨f1, f2⟩ := fin_all (z := z) (p := 10 + ix n) hv hqK hall c_25; rw [f2, f1])
      · -- 25 not taken
        exact absurd (sg_lt hv (by omega) c_25) (by omega)
    | succ k ih =>
      intro q hq hqK hall H locs hP hS ls hl
      refine lv_aload_n hx hb dX4_finds_20 rfl (lv_at hl 0 rfl) ?_
      refine qGet (ci := 4) (v := .int (sgn v * nI q)) (C := RX4) (T := TX4) (N := 25) hx hb hts hin4 hown hK hP 0 rfl rfl 14 (by decide) (hts (.fieldLink RX4 125 "PartCurvesModel" "found" "I") (by decide +kernel)) (by simp [pF, zu, upd]) dX4_finds_21 ?_
      refine lv_iload_n hx hb dX4_finds_24 rfl (lv_at hl 2 rfl) ?_
      refine lv_icmp_eq (tgt := 75) hx hb dX4_finds_25 (by decide) (fun c_25 => ?_) (fun c_25 => ?_)
      · -- 25 taken
        exact qRv hx hb hr hlk hP hK hS dX4_finds_75 (by obtain ⟨f1, f2⟩ := fin_all (z := z) (p := 10 + ix n) hv hqK hall c_25; rw [f2, f1])
      · -- 25 not taken
        refine lv_aload_n hx hb dX4_finds_28 rfl (lv_at hl 0 rfl) ?_
        refine qGet (ci := 4) (v := .int 0) (C := RX4) (T := TX4) (N := 25) hx hb hts hin4 hown hK hP 0 rfl rfl 15 (by decide) (hts (.fieldLink RX4 128 "PartCurvesModel" "rule" "I") (by decide +kernel)) (by simp [pF, zu, upd]) dX4_finds_29 ?_
        refine lv_if_ne (tgt := 75) hx hb dX4_finds_32 (by decide) (fun c_32 => ?_) (fun c_32 => ?_)
        · -- 32 taken
          exact absurd rfl c_32
        · -- 32 not taken
          refine lv_aload_n hx hb dX4_finds_35 rfl (lv_at hl 0 rfl) ?_
          refine lv_aload_n hx hb dX4_finds_36 rfl (lv_at hl 0 rfl) ?_
          refine lv_iload_n hx hb dX4_finds_37 rfl (lv_at hl 1 rfl) ?_
          refine lv_aload_n hx hb dX4_finds_38 rfl (lv_at hl 0 rfl) ?_
          refine qGet (ci := 4) (v := .int (sgn v * nI q)) (C := RX4) (T := TX4) (N := 25) hx hb hts hin4 hown hK hP 0 rfl rfl 14 (by decide) (hts (.fieldLink RX4 125 "PartCurvesModel" "found" "I") (by decide +kernel)) (by simp [pF, zu, upd]) dX4_finds_39 ?_
          refine lv_iload_n hx hb dX4_finds_42 rfl (lv_at hl 3 rfl) ?_
          refine lv_iadd hx hb dX4_finds_43 ?_
          refine lv_topi (fun y43 e43 => ?_)
          obtain rfl := e43.trans (sg_succ v q)
          have hq9 := sg_lt hv hqK c_25
          have hu9 : inR (sgn v * nI (q + 1)) (-3000) 3000 = true := by have := sg_rng hv (k := q + 1) (by omega); rw [inR_iff]; exact this
          refine lv_iload_n hx hb dX4_finds_44 rfl (lv_at hl 2 rfl) ?_
          refine qVi (As := [.int n, .int (sgn v * nI (q + 1)), .int v]) (rest := [.ref (am 0)]) hx hb hml hown hts (kX4_against l g z (upd (upd r 0 (sgn v * nI q)) 1 0) hj hI n hn hl9 (sgn v * nI (q + 1)) v hu9) gX4_finds_X4_against rfl 3 hdX4_against rfl ⟨Nat.le_of_ble_eq_true rfl, Nat.le_of_ble_eq_true rfl⟩ ⟨Nat.zero_le _, Nat.zero_le _⟩ hK hP hS (fun _ h => h) 0 4 rfl rfl rfl hl.1 rfl (Nat.le_of_ble_eq_true rfl) dX4_finds_45 (fun H locs hP hS => ?_)
          refine qPut (ci := 4) (ty := .int) (C := RX4) (T := TX4) (N := 25) (u' := (z, upd (upd (upd r 0 (sgn v * nI q)) 1 0) 1 (agF z (10 + ix n) (sgn v * nI (q + 1)) v))) hx hb hts hin4 tyX4 tyX4_ok nmX4 hown hK hP (WMu_D g (z, upd (upd r 0 (sgn v * nI q)) 1 0) hj) hS 0 rfl rfl 15 (by decide) (hts (.fieldLink RX4 128 "PartCurvesModel" "rule" "I") (by decide +kernel)) rfl (by decide +kernel) rfl rfl (Nat.le_of_ble_eq_true rfl) (WM_w1 g am z (upd (upd r 0 (sgn v * nI q)) 1 0) (agF z (10 + ix n) (sgn v * nI (q + 1)) v)) dX4_finds_48 (fun H locs hP hS => ?_)
          refine lv_aload_n hx hb dX4_finds_51 rfl (lv_at hl 0 rfl) ?_
          refine lv_dup hx hb dX4_finds_52 rfl ?_
          refine qGet (ci := 4) (v := .int (sgn v * nI q)) (C := RX4) (T := TX4) (N := 25) hx hb hts hin4 hown hK hP 0 rfl rfl 14 (by decide) (hts (.fieldLink RX4 125 "PartCurvesModel" "found" "I") (by decide +kernel)) (by simp [pF, zu, upd]) dX4_finds_53 ?_
          refine lv_aload_n hx hb dX4_finds_56 rfl (lv_at hl 0 rfl) ?_
          refine qGet (ci := 4) (v := .int (agF z (10 + ix n) (sgn v * nI (q + 1)) v)) (C := RX4) (T := TX4) (N := 25) hx hb hts hin4 hown hK hP 0 rfl rfl 15 (by decide) (hts (.fieldLink RX4 128 "PartCurvesModel" "rule" "I") (by decide +kernel)) (by simp [pF, zu, upd]) dX4_finds_57 ?_
          refine lv_if_ne (tgt := 67) hx hb dX4_finds_60 (by decide) (fun c_60 => ?_) (fun c_60 => ?_)
          · -- 60 taken
            refine lv_iconst (v := 0) hx hb dX4_finds_67 rfl ?_
            refine lv_iadd hx hb dX4_finds_68 ?_
            refine qPut (ci := 4) (ty := .int) (C := RX4) (T := TX4) (N := 25) (u' := (z, upd (upd (upd (upd r 0 (sgn v * nI q)) 1 0) 1 (agF z (10 + ix n) (sgn v * nI (q + 1)) v)) 0 ((sgn v * nI q) + 0))) hx hb hts hin4 tyX4 tyX4_ok nmX4 hown hK hP (WMu_D g (z, upd (upd (upd r 0 (sgn v * nI q)) 1 0) 1 (agF z (10 + ix n) (sgn v * nI (q + 1)) v)) hj) hS 0 rfl rfl 14 (by decide) (hts (.fieldLink RX4 125 "PartCurvesModel" "found" "I") (by decide +kernel)) rfl (by decide +kernel) rfl rfl (Nat.le_of_ble_eq_true rfl) (WM_w0 g am z (upd (upd (upd r 0 (sgn v * nI q)) 1 0) 1 (agF z (10 + ix n) (sgn v * nI (q + 1)) v)) ((sgn v * nI q) + 0)) dX4_finds_69 (fun H locs hP hS => ?_)
            refine lv_goto (tgt := 20) hx hb dX4_finds_72 (by decide) ?_
            have hP : va_P g.1 vwCl (WMu g am (z, upd (upd r 0 (sgn v * nI q)) 1 (agF z (10 + ix n) (sgn v * nI (q + 1)) v))) H := by have h9 := hP; rw [upd_01, Int32.add_zero] at h9; exact h9
            refine lv_aload_n hx hb dX4_finds_20 rfl (lv_at hl 0 rfl) ?_
            refine qGet (ci := 4) (v := .int (sgn v * nI q)) (C := RX4) (T := TX4) (N := 25) hx hb hts hin4 hown hK hP 0 rfl rfl 14 (by decide) (hts (.fieldLink RX4 125 "PartCurvesModel" "found" "I") (by decide +kernel)) (by simp [pF, zu, upd]) dX4_finds_21 ?_
            refine lv_iload_n hx hb dX4_finds_24 rfl (lv_at hl 2 rfl) ?_
            refine lv_icmp_eq (tgt := 75) hx hb dX4_finds_25 (by decide) (fun c_25_1 => ?_) (fun c_25_1 => ?_)
            · -- 25 taken
              exact absurd c_25_1 c_25
            · -- 25 not taken
              refine lv_aload_n hx hb dX4_finds_28 rfl (lv_at hl 0 rfl) ?_
              refine qGet (ci := 4) (v := .int (agF z (10 + ix n) (sgn v * nI (q + 1)) v)) (C := RX4) (T := TX4) (N := 25) hx hb hts hin4 hown hK hP 0 rfl rfl 15 (by decide) (hts (.fieldLink RX4 128 "PartCurvesModel" "rule" "I") (by decide +kernel)) (by simp [pF, zu, upd]) dX4_finds_29 ?_
              refine lv_if_ne (tgt := 75) hx hb dX4_finds_32 (by decide) (fun c_32_2 => ?_) (fun c_32_2 => ?_)
              · -- 32 taken
                exact qRv hx hb hr hlk hP hK hS dX4_finds_75 (by obtain ⟨f1, f2⟩ := fin_stop (z := z) (p := 10 + ix n) hq9 hall c_25 c_60; rw [f2, f1])
              · -- 32 not taken
                exact absurd c_32_2 c_60
          · -- 60 not taken
            refine lv_iload_n hx hb dX4_finds_63 rfl (lv_at hl 3 rfl) ?_
            refine lv_goto (tgt := 68) hx hb dX4_finds_64 (by decide) ?_
            refine lv_iadd hx hb dX4_finds_68 ?_
            refine qPut (ci := 4) (ty := .int) (C := RX4) (T := TX4) (N := 25) (u' := (z, upd (upd (upd (upd r 0 (sgn v * nI q)) 1 0) 1 (agF z (10 + ix n) (sgn v * nI (q + 1)) v)) 0 ((sgn v * nI q) + (sgn v)))) hx hb hts hin4 tyX4 tyX4_ok nmX4 hown hK hP (WMu_D g (z, upd (upd (upd r 0 (sgn v * nI q)) 1 0) 1 (agF z (10 + ix n) (sgn v * nI (q + 1)) v)) hj) hS 0 rfl rfl 14 (by decide) (hts (.fieldLink RX4 125 "PartCurvesModel" "found" "I") (by decide +kernel)) rfl (by decide +kernel) rfl rfl (Nat.le_of_ble_eq_true rfl) (WM_w0 g am z (upd (upd (upd r 0 (sgn v * nI q)) 1 0) 1 (agF z (10 + ix n) (sgn v * nI (q + 1)) v)) ((sgn v * nI q) + (sgn v))) dX4_finds_69 (fun H locs hP hS => ?_)
            refine lv_goto (tgt := 20) hx hb dX4_finds_72 (by decide) ?_
            have hP : va_P g.1 vwCl (WMu g am (z, upd (upd r 0 (sgn v * nI (q + 1))) 1 0)) H := by have h9 := hP; rw [upd_01, c_60, sg_succ] at h9; exact h9
            exact ih (q + 1) (by omega) (by omega) (fun j h1 h2 => Decidable.byCases (fun e9 : j = q + 1 => by rw [e9]; exact ag_0.mp c_60) (fun e9 => hall j h1 (by omega))) _ _ hP hS ls (lv_sub hl [0, 1, 2, 3] rfl)
  refine lv_iload_n hx hb dX4_finds_0 rfl (lv_at hl 2 rfl) ?_
  refine lv_if_ge (tgt := 8) hx hb dX4_finds_1 (by decide) (fun c_1 => ?_) (fun c_1 => ?_)
  · -- 1 taken
    have c_1n := i_le_t c_1
    refine lv_iconst (v := 1) hx hb dX4_finds_8 rfl ?_
    refine lv_topi (fun y9 e9 => ?_)
    obtain rfl := e9.trans (show _ = sgn v by simp [sgn, c_1n])
    refine lv_istore_n (lv' := [(3, .int (sgn v)), (0, .ref (am 0)), (1, .int n), (2, .int v)]) hx hb dX4_finds_9 rfl hl (by decide) rfl (fun ls hl => ?_)
    refine lv_aload_n hx hb dX4_finds_10 rfl (lv_at hl 1 rfl) ?_
    refine lv_iconst (v := 0) hx hb dX4_finds_11 rfl ?_
    refine qPut (ci := 4) (ty := .int) (C := RX4) (T := TX4) (N := 25) (u' := (z, upd r 0 0)) hx hb hts hin4 tyX4 tyX4_ok nmX4 hown hK hP (WMu_D g (z, r) hj) hS 0 rfl rfl 14 (by decide) (hts (.fieldLink RX4 125 "PartCurvesModel" "found" "I") (by decide +kernel)) rfl (by decide +kernel) rfl rfl (Nat.le_of_ble_eq_true rfl) (WM_w0 g am z r 0) dX4_finds_12 (fun H locs hP hS => ?_)
    refine lv_aload_n hx hb dX4_finds_15 rfl (lv_at hl 1 rfl) ?_
    refine lv_iconst (v := 0) hx hb dX4_finds_16 rfl ?_
    refine qPut (ci := 4) (ty := .int) (C := RX4) (T := TX4) (N := 25) (u' := (z, upd (upd r 0 0) 1 0)) hx hb hts hin4 tyX4 tyX4_ok nmX4 hown hK hP (WMu_D g (z, upd r 0 0) hj) hS 0 rfl rfl 15 (by decide) (hts (.fieldLink RX4 128 "PartCurvesModel" "rule" "I") (by decide +kernel)) rfl (by decide +kernel) rfl rfl (Nat.le_of_ble_eq_true rfl) (WM_w1 g am z (upd r 0 0) 0) dX4_finds_17 (fun H locs hP hS => ?_)
    have hP : va_P g.1 vwCl (WMu g am (z, upd (upd r 0 (sgn v * nI 0)) 1 0)) H := by rw [show sgn v * nI 0 = 0 by rw [nI_0, Int32.mul_zero]]; exact hP
    exact loop (ix (absI v)) 0 (Nat.zero_add _) (Nat.zero_le _) (fun j h1 h2 => by omega) _ _ hP hS ls (lv_sub hl [1, 2, 3, 0] rfl)
  · -- 1 not taken
    have c_1n := i_le_f c_1
    refine lv_iconst (v := -1) hx hb dX4_finds_4 rfl ?_
    refine lv_goto (tgt := 9) hx hb dX4_finds_5 (by decide) ?_
    refine lv_topi (fun y9 e9 => ?_)
    obtain rfl := e9.trans (show _ = sgn v by simp [sgn, c_1n])
    refine lv_istore_n (lv' := [(3, .int (sgn v)), (0, .ref (am 0)), (1, .int n), (2, .int v)]) hx hb dX4_finds_9 rfl hl (by decide) rfl (fun ls hl => ?_)
    refine lv_aload_n hx hb dX4_finds_10 rfl (lv_at hl 1 rfl) ?_
    refine lv_iconst (v := 0) hx hb dX4_finds_11 rfl ?_
    refine qPut (ci := 4) (ty := .int) (C := RX4) (T := TX4) (N := 25) (u' := (z, upd r 0 0)) hx hb hts hin4 tyX4 tyX4_ok nmX4 hown hK hP (WMu_D g (z, r) hj) hS 0 rfl rfl 14 (by decide) (hts (.fieldLink RX4 125 "PartCurvesModel" "found" "I") (by decide +kernel)) rfl (by decide +kernel) rfl rfl (Nat.le_of_ble_eq_true rfl) (WM_w0 g am z r 0) dX4_finds_12 (fun H locs hP hS => ?_)
    refine lv_aload_n hx hb dX4_finds_15 rfl (lv_at hl 1 rfl) ?_
    refine lv_iconst (v := 0) hx hb dX4_finds_16 rfl ?_
    refine qPut (ci := 4) (ty := .int) (C := RX4) (T := TX4) (N := 25) (u' := (z, upd (upd r 0 0) 1 0)) hx hb hts hin4 tyX4 tyX4_ok nmX4 hown hK hP (WMu_D g (z, upd r 0 0) hj) hS 0 rfl rfl 15 (by decide) (hts (.fieldLink RX4 128 "PartCurvesModel" "rule" "I") (by decide +kernel)) rfl (by decide +kernel) rfl rfl (Nat.le_of_ble_eq_true rfl) (WM_w1 g am z (upd r 0 0) 0) dX4_finds_17 (fun H locs hP hS => ?_)
    have hP : va_P g.1 vwCl (WMu g am (z, upd (upd r 0 (sgn v * nI 0)) 1 0)) H := by rw [show sgn v * nI 0 = 0 by rw [nI_0, Int32.mul_zero]]; exact hP
    exact loop (ix (absI v)) 0 (Nat.zero_add _) (Nat.zero_le _) (fun j h1 h2 => by omega) _ _ hP hS ls (lv_sub hl [1, 2, 3, 0] rfl)
