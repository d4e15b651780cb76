set_option maxHeartbeats 4000000 in
set_option maxRecDepth 100000 in
theorem law_875 {p : Program} {l : Launch} {e : Env} {s : State} {m : MethodId} {below : List Frame} {meth : Method} {c : Code} {b L : Nat} {xs : Nat → Int32} {g : qG} {ad : Nat → Nat} (C0 : lawC p s m meth c b L xs g ad) {zo zp : zS} (hA : LA zo zp) : lawAt p l e s m below meth c b g ad 875 [] [(0, .ref b), (1, .ref (ad 0)), (2, .ref (aP ad 0))] zo zp := by
  obtain ⟨hx, hb, hml, hown, hts, hr, hlocks, hX, hbl, hL, hj, hg, hK, hT⟩ := id C0
  have hIo := hA.1
  have h00 := hA.2.2.2.1
  have h10 := (hA.2.2.2.2 0 (by decide)).1
  intro H locs hPo hPp hS ls hl
  refine lv_aload_n hx hb dL_law_875 rfl (lv_at hl 1 rfl) ?_
  refine lv_iconst (v := 4) hx hb dL_law_876 rfl ?_
  refine lv_iconst (v := 0) hx hb dL_law_877 rfl ?_
  refine lv_iconst (v := 1) hx hb dL_law_878 rfl ?_
  refine lv_iconst (v := 0) hx hb dL_law_879 rfl ?_
  refine qViF (As := [.int 4, .int 0, .int 1, .int 0]) (rest := []) hx hb hml hown hts (kX3_part l g zo (J_o hj) 4 0 1 0) gL_law_X3_part rfl 4 hdX3_part rfl ⟨Nat.le_of_ble_eq_true rfl, Nat.le_of_ble_eq_true rfl⟩ ⟨Nat.le_of_ble_eq_true rfl, Nat.le_of_ble_eq_true rfl⟩ hK hPo hS (fun q h => hg q (A_o q h)) 0 3 rfl rfl rfl hl.1 rfl (Nat.le_of_ble_eq_true rfl) dL_law_880 (fun H locs hz hk hPo hS => ?_)
  have hPp := P2_kp hj hPp hk
  refine lv_nm (y := (-1)) (congrArg Prod.fst (f_1 zo)) ?_
  rw [(f_1 zo)] at hPo
  dsimp only at hPo
  refine lv_iconst (v := -1) hx hb dL_law_883 rfl ?_
  refine lv_icmp_ne (tgt := 1031) hx hb dL_law_884 (by decide) (fun c_884 => ?_) (fun c_884 => ?_)
  · -- 884 taken
    exact absurd rfl c_884
  · -- 884 not taken
    refine lv_aload_n hx hb dL_law_887 rfl (lv_at hl 1 rfl) ?_
    refine lv_iconst (v := 0) hx hb dL_law_888 rfl ?_
    refine lv_bipush (v := 8) hx hb dL_law_889 (by decide) ?_
    refine lv_iconst (v := 1) hx hb dL_law_891 rfl ?_
    refine lv_iconst (v := 0) hx hb dL_law_892 rfl ?_
    refine qViF (As := [.int 0, .int 8, .int 1, .int 0]) (rest := []) hx hb hml hown hts (kX3_part l g zo (J_o hj) 0 8 1 0) gL_law_X3_part rfl 4 hdX3_part rfl ⟨Nat.le_of_ble_eq_true rfl, Nat.le_of_ble_eq_true rfl⟩ ⟨Nat.le_of_ble_eq_true rfl, Nat.le_of_ble_eq_true rfl⟩ hK hPo hS (fun q h => hg q (A_o q h)) 0 3 rfl rfl rfl hl.1 rfl (Nat.le_of_ble_eq_true rfl) dL_law_893 (fun H locs hz hk hPo hS => ?_)
    have hPp := P2_kp hj hPp hk
    refine lv_nm (y := (-1)) (congrArg Prod.fst (f_2 zo)) ?_
    rw [(f_2 zo)] at hPo
    dsimp only at hPo
    refine lv_iconst (v := -1) hx hb dL_law_896 rfl ?_
    refine lv_icmp_ne (tgt := 1031) hx hb dL_law_897 (by decide) (fun c_897 => ?_) (fun c_897 => ?_)
    · -- 897 taken
      exact absurd c_884 c_897
    · -- 897 not taken
      refine lv_aload_n hx hb dL_law_900 rfl (lv_at hl 1 rfl) ?_
      refine lv_iconst (v := 0) hx hb dL_law_901 rfl ?_
      refine lv_iconst (v := 0) hx hb dL_law_902 rfl ?_
      refine lv_iconst (v := 1) hx hb dL_law_903 rfl ?_
      refine lv_iconst (v := 4) hx hb dL_law_904 rfl ?_
      refine qViF (As := [.int 0, .int 0, .int 1, .int 4]) (rest := []) hx hb hml hown hts (kX3_part l g zo (J_o hj) 0 0 1 4) gL_law_X3_part rfl 4 hdX3_part rfl ⟨Nat.le_of_ble_eq_true rfl, Nat.le_of_ble_eq_true rfl⟩ ⟨Nat.le_of_ble_eq_true rfl, Nat.le_of_ble_eq_true rfl⟩ hK hPo hS (fun q h => hg q (A_o q h)) 0 3 rfl rfl rfl hl.1 rfl (Nat.le_of_ble_eq_true rfl) dL_law_905 (fun H locs hz hk hPo hS => ?_)
      have hPp := P2_kp hj hPp hk
      refine lv_nm (y := (-2)) (congrArg Prod.fst (f_3 zo)) ?_
      rw [(f_3 zo)] at hPo
      dsimp only at hPo
      refine lv_bipush (v := -2) hx hb dL_law_908 (by decide) ?_
      refine lv_icmp_ne (tgt := 1031) hx hb dL_law_910 (by decide) (fun c_910 => ?_) (fun c_910 => ?_)
      · -- 910 taken
        exact absurd rfl c_910
      · -- 910 not taken
        refine lv_aload_n hx hb dL_law_913 rfl (lv_at hl 1 rfl) ?_
        refine lv_iconst (v := 0) hx hb dL_law_914 rfl ?_
        refine lv_iconst (v := 1) hx hb dL_law_915 rfl ?_
        refine lv_iconst (v := 1) hx hb dL_law_916 rfl ?_
        refine lv_iconst (v := 0) hx hb dL_law_917 rfl ?_
        refine qViF (As := [.int 0, .int 1, .int 1, .int 0]) (rest := []) hx hb hml hown hts (kX3_part l g zo (J_o hj) 0 1 1 0) gL_law_X3_part rfl 4 hdX3_part rfl ⟨Nat.le_of_ble_eq_true rfl, Nat.le_of_ble_eq_true rfl⟩ ⟨Nat.le_of_ble_eq_true rfl, Nat.le_of_ble_eq_true rfl⟩ hK hPo hS (fun q h => hg q (A_o q h)) 0 3 rfl rfl rfl hl.1 rfl (Nat.le_of_ble_eq_true rfl) dL_law_918 (fun H locs hz hk hPo hS => ?_)
        have hPp := P2_kp hj hPp hk
        refine lv_nm (y := (-3)) (congrArg Prod.fst (f_4 zo)) ?_
        rw [(f_4 zo)] at hPo
        dsimp only at hPo
        refine lv_bipush (v := -3) hx hb dL_law_921 (by decide) ?_
        refine lv_icmp_ne (tgt := 1031) hx hb dL_law_923 (by decide) (fun c_923 => ?_) (fun c_923 => ?_)
        · -- 923 taken
          exact absurd rfl c_923
        · -- 923 not taken
          refine lv_aload_n hx hb dL_law_926 rfl (lv_at hl 1 rfl) ?_
          refine lv_iconst (v := 0) hx hb dL_law_927 rfl ?_
          refine lv_iconst (v := 0) hx hb dL_law_928 rfl ?_
          refine lv_iconst (v := 0) hx hb dL_law_929 rfl ?_
          refine qViTF hT (As := [.int 0, .int 0, .int 0]) (rest := []) hx hb hml hown hts (kX3_set l g zo (J_o hj) 0 0 0) gL_law_X3_set rfl 3 hdX3_set rfl ⟨Nat.le_of_ble_eq_true rfl, Nat.le_of_ble_eq_true rfl⟩ ⟨Nat.le_of_ble_eq_true rfl, Nat.le_of_ble_eq_true rfl⟩ hK hPo hS (fun q h => hg q (A_o q h)) 0 3 rfl rfl rfl hl.1 rfl (Nat.le_of_ble_eq_true rfl) dL_law_930 (fun H locs hz hk hPo hS => ?_)
          have hPp := P2_kp hj hPp hk
          refine lv_nm (y := (-2)) (congrArg Prod.fst (f_5 h10)) ?_
          rw [(f_5 h10)] at hPo
          dsimp only at hPo
          refine lv_bipush (v := -2) hx hb dL_law_933 (by decide) ?_
          refine lv_icmp_ne (tgt := 1031) hx hb dL_law_935 (by decide) (fun c_935 => ?_) (fun c_935 => ?_)
          · -- 935 taken
            exact absurd c_910 c_935
          · -- 935 not taken
            refine lv_aload_n hx hb dL_law_938 rfl (lv_at hl 1 rfl) ?_
            refine lv_iconst (v := 0) hx hb dL_law_939 rfl ?_
            refine lv_iconst (v := 4) hx hb dL_law_940 rfl ?_
            refine lv_bipush (v := 6) hx hb dL_law_941 (by decide) ?_
            refine qViTF hT (As := [.int 0, .int 4, .int 6]) (rest := []) hx hb hml hown hts (kX3_set l g zo (J_o hj) 0 4 6) gL_law_X3_set rfl 3 hdX3_set rfl ⟨Nat.le_of_ble_eq_true rfl, Nat.le_of_ble_eq_true rfl⟩ ⟨Nat.le_of_ble_eq_true rfl, Nat.le_of_ble_eq_true rfl⟩ hK hPo hS (fun q h => hg q (A_o q h)) 0 3 rfl rfl rfl hl.1 rfl (Nat.le_of_ble_eq_true rfl) dL_law_943 (fun H locs hz hk hPo hS => ?_)
            have hPp := P2_kp hj hPp hk
            refine lv_nm (y := (-2)) (congrArg Prod.fst (f_6 h10)) ?_
            rw [(f_6 h10)] at hPo
            dsimp only at hPo
            refine lv_bipush (v := -2) hx hb dL_law_946 (by decide) ?_
            refine lv_icmp_ne (tgt := 1031) hx hb dL_law_948 (by decide) (fun c_948 => ?_) (fun c_948 => ?_)
            · -- 948 taken
              exact absurd c_910 c_948
            · -- 948 not taken
              refine lv_aload_n hx hb dL_law_951 rfl (lv_at hl 1 rfl) ?_
              refine lv_iconst (v := 0) hx hb dL_law_952 rfl ?_
              refine qViF (As := [.int 0]) (rest := []) hx hb hml hown hts (kX3_limit l g zo (J_o hj) 0) gL_law_X3_limit rfl 1 hdX3_limit rfl ⟨Nat.le_of_ble_eq_true rfl, Nat.le_of_ble_eq_true rfl⟩ ⟨Nat.le_of_ble_eq_true rfl, Nat.le_of_ble_eq_true rfl⟩ hK hPo hS (fun q h => hg q (A_o q h)) 0 3 rfl rfl rfl hl.1 rfl (Nat.le_of_ble_eq_true rfl) dL_law_953 (fun H locs hz hk hPo hS => ?_)
              have hPp := P2_kp hj hPp hk
              refine lv_nm (y := (-2)) (congrArg Prod.fst (f_7 zo)) ?_
              rw [(f_7 zo)] at hPo
              dsimp only at hPo
              refine lv_bipush (v := -2) hx hb dL_law_956 (by decide) ?_
              refine lv_icmp_ne (tgt := 1031) hx hb dL_law_958 (by decide) (fun c_958 => ?_) (fun c_958 => ?_)
              · -- 958 taken
                exact absurd c_910 c_958
              · -- 958 not taken
                refine lv_aload_n hx hb dL_law_961 rfl (lv_at hl 1 rfl) ?_
                refine lv_sipush (v := 201) hx hb dL_law_962 (by decide) ?_
                refine qViF (As := [.int 201]) (rest := []) hx hb hml hown hts (kX3_leads l g zo (J_o hj) 201) gL_law_X3_leads rfl 1 hdX3_leads rfl ⟨Nat.le_of_ble_eq_true rfl, Nat.le_of_ble_eq_true rfl⟩ ⟨Nat.le_of_ble_eq_true rfl, Nat.le_of_ble_eq_true rfl⟩ hK hPo hS (fun q h => hg q (A_o q h)) 0 3 rfl rfl rfl hl.1 rfl (Nat.le_of_ble_eq_true rfl) dL_law_965 (fun H locs hz hk hPo hS => ?_)
                have hPp := P2_kp hj hPp hk
                refine lv_nm (y := (-2)) (congrArg Prod.fst (f_8 zo)) ?_
                rw [(f_8 zo)] at hPo
                dsimp only at hPo
                refine lv_bipush (v := -2) hx hb dL_law_968 (by decide) ?_
                refine lv_icmp_ne (tgt := 1031) hx hb dL_law_970 (by decide) (fun c_970 => ?_) (fun c_970 => ?_)
                · -- 970 taken
                  exact absurd c_910 c_970
                · -- 970 not taken
                  refine lv_aload_n hx hb dL_law_973 rfl (lv_at hl 1 rfl) ?_
                  refine lv_iconst (v := 0) hx hb dL_law_974 rfl ?_
                  refine lv_iconst (v := 0) hx hb dL_law_975 rfl ?_
                  refine lv_iconst (v := 0) hx hb dL_law_976 rfl ?_
                  refine lv_iconst (v := 1) hx hb dL_law_977 rfl ?_
                  refine lv_iconst (v := 0) hx hb dL_law_978 rfl ?_
                  refine lv_iconst (v := 0) hx hb dL_law_979 rfl ?_
                  refine qViF (As := [.int 0, .int 0, .int 0, .int 1, .int 0, .int 0]) (rest := []) hx hb hml hown hts (kX3_sweep l g zo (J_o hj) hIo 0 0 0 1 0 0) gL_law_X3_sweep rfl 6 hdX3_sweep rfl ⟨Nat.le_of_ble_eq_true rfl, Nat.le_of_ble_eq_true rfl⟩ ⟨Nat.le_of_ble_eq_true rfl, Nat.le_of_ble_eq_true rfl⟩ hK hPo hS (fun q h => hg q (A_o q h)) 0 3 rfl rfl rfl hl.1 rfl (Nat.le_of_ble_eq_true rfl) dL_law_980 (fun H locs hz hk hPo hS => ?_)
                  have hPp := P2_kp hj hPp hk
                  refine lv_nm (y := (-2)) (congrArg Prod.fst (f_9 zo)) ?_
                  rw [(f_9 zo)] at hPo
                  dsimp only at hPo
                  refine lv_bipush (v := -2) hx hb dL_law_983 (by decide) ?_
                  refine lv_icmp_ne (tgt := 1031) hx hb dL_law_985 (by decide) (fun c_985 => ?_) (fun c_985 => ?_)
                  · -- 985 taken
                    exact absurd c_910 c_985
                  · -- 985 not taken
                    refine lv_aload_n hx hb dL_law_988 rfl (lv_at hl 1 rfl) ?_
                    refine lv_iconst (v := 0) hx hb dL_law_989 rfl ?_
                    refine lv_iconst (v := 0) hx hb dL_law_990 rfl ?_
                    refine lv_iconst (v := 1) hx hb dL_law_991 rfl ?_
                    refine lv_iconst (v := 1) hx hb dL_law_992 rfl ?_
                    refine lv_iconst (v := 0) hx hb dL_law_993 rfl ?_
                    refine lv_iconst (v := 0) hx hb dL_law_994 rfl ?_
                    refine qViF (As := [.int 0, .int 0, .int 1, .int 1, .int 0, .int 0]) (rest := []) hx hb hml hown hts (kX3_sweep l g zo (J_o hj) hIo 0 0 1 1 0 0) gL_law_X3_sweep rfl 6 hdX3_sweep rfl ⟨Nat.le_of_ble_eq_true rfl, Nat.le_of_ble_eq_true rfl⟩ ⟨Nat.le_of_ble_eq_true rfl, Nat.le_of_ble_eq_true rfl⟩ hK hPo hS (fun q h => hg q (A_o q h)) 0 3 rfl rfl rfl hl.1 rfl (Nat.le_of_ble_eq_true rfl) dL_law_995 (fun H locs hz hk hPo hS => ?_)
                    have hPp := P2_kp hj hPp hk
                    refine lv_nm (y := (-3)) (congrArg Prod.fst (f_10 h00)) ?_
                    rw [(f_10 h00)] at hPo
                    dsimp only at hPo
                    refine lv_bipush (v := -3) hx hb dL_law_998 (by decide) ?_
                    refine lv_icmp_ne (tgt := 1031) hx hb dL_law_1000 (by decide) (fun c_1000 => ?_) (fun c_1000 => ?_)
                    · -- 1000 taken
                      exact absurd c_923 c_1000
                    · -- 1000 not taken
                      refine lv_aload_n hx hb dL_law_1003 rfl (lv_at hl 1 rfl) ?_
                      refine lv_bipush (v := 101) hx hb dL_law_1004 (by decide) ?_
                      refine qViF (As := [.int 101]) (rest := []) hx hb hml hown hts (kX3_rest l g zo (J_o hj) 101) gL_law_X3_rest rfl 1 hdX3_rest rfl ⟨Nat.le_of_ble_eq_true rfl, Nat.le_of_ble_eq_true rfl⟩ ⟨Nat.le_of_ble_eq_true rfl, Nat.le_of_ble_eq_true rfl⟩ hK hPo hS (fun q h => hg q (A_o q h)) 0 3 rfl rfl rfl hl.1 rfl (Nat.le_of_ble_eq_true rfl) dL_law_1006 (fun H locs hz hk hPo hS => ?_)
                      have hPp := P2_kp hj hPp hk
                      refine lv_nm (y := (-2)) (congrArg Prod.fst (f_11 zo)) ?_
                      rw [(f_11 zo)] at hPo
                      dsimp only at hPo
                      refine lv_bipush (v := -2) hx hb dL_law_1009 (by decide) ?_
                      refine lv_icmp_ne (tgt := 1031) hx hb dL_law_1011 (by decide) (fun c_1011 => ?_) (fun c_1011 => ?_)
                      · -- 1011 taken
                        exact absurd c_910 c_1011
                      · -- 1011 not taken
                        refine lv_aload_n hx hb dL_law_1014 rfl (lv_at hl 1 rfl) ?_
                        refine lv_iconst (v := 0) hx hb dL_law_1015 rfl ?_
                        refine lv_sipush (v := 3001) hx hb dL_law_1016 (by decide) ?_
                        refine qViF (As := [.int 0, .int 3001]) (rest := []) hx hb hml hown hts (kX3_amps l g zo (J_o hj) 0 3001) gL_law_X3_amps rfl 2 hdX3_amps rfl ⟨Nat.le_of_ble_eq_true rfl, Nat.le_of_ble_eq_true rfl⟩ ⟨Nat.le_of_ble_eq_true rfl, Nat.le_of_ble_eq_true rfl⟩ hK hPo hS (fun q h => hg q (A_o q h)) 0 3 rfl rfl rfl hl.1 rfl (Nat.le_of_ble_eq_true rfl) dL_law_1019 (fun H locs hz hk hPo hS => ?_)
                        have hPp := P2_kp hj hPp hk
                        refine lv_nm (y := (-2)) (f_12 h10) ?_
                        refine lv_bipush (v := -2) hx hb dL_law_1022 (by decide) ?_
                        refine lv_icmp_ne (tgt := 1031) hx hb dL_law_1024 (by decide) (fun c_1024 => ?_) (fun c_1024 => ?_)
                        · -- 1024 taken
                          exact absurd c_910 c_1024
                        · -- 1024 not taken
                          refine lv_iconst (v := 1) hx hb dL_law_1027 rfl ?_
                          refine lv_goto (tgt := 1032) hx hb dL_law_1028 (by decide) ?_
                          refine va_forget (fun q hq => hS.2.2 q hq) ?_
                          refine W.widen (k := 600000) (n := 7302250) (Nat.le_of_ble_eq_true rfl) (Nat.le_of_ble_eq_true rfl) ?_
                          exact lw_ret hx hb hr hlocks dL_law_1032
set_option maxHeartbeats 4000000 in
set_option maxRecDepth 100000 in
theorem law_811 {p : Program} {l : Launch} {e : Env} {s : State} {m : MethodId} {below : List Frame} {meth : Method} {c : Code} {b L : Nat} {xs : Nat → Int32} {g : qG} {ad : Nat → Nat} (C0 : lawC p s m meth c b L xs g ad) {i : Nat} (hi : i < 3) (nxt : ∀ yo yp : zS, LA yo yp → lawAt p l e s m below meth c b g ad 869 [] [(0, .ref b), (1, .ref (ad 0)), (2, .ref (aP ad 0)), (3, .int (nI i))] yo yp) : ∀ (k : Nat) (j : Nat) (zo zp : zS), j + k = 4 → LF j zo zp → lawAt p l e s m below meth c b g ad 811 [] [(0, .ref b), (1, .ref (ad 0)), (2, .ref (aP ad 0)), (3, .int (nI i)), (12, .int (nI j))] zo zp := by
  obtain ⟨hx, hb, hml, hown, hts, hr, hlocks, hX, hbl, hL, hj, hg, hK, hT⟩ := id C0
  intro k
  induction k with
  | zero =>
    intro j zo zp hj2 hF
    intro H locs hPo hPp hS ls hl
    refine lv_iload hx hb dL_law_811 (lv_at hl 4 rfl) ?_
    refine lv_iconst (v := 4) hx hb dL_law_813 rfl ?_
    refine lv_icmp_ge (tgt := 869) hx hb dL_law_814 (by decide) (fun c_814 => ?_) (fun c_814 => ?_)
    · -- 814 taken
      have c_814n := i_le_t c_814
      exact nxt _ _ (LF_end (by have e9 : j = 4 := (by omega); subst e9; exact hF)) _ _ hPo hPp hS ls (lv_sub hl [0, 1, 2, 3] rfl)
    · -- 814 not taken
      have c_814n := i_le_f c_814
      exact absurd (nI_lt' (b := 4) (by omega) (by omega) c_814) (by omega)
  | succ k ih =>
    intro j zo zp hj2 hF
    intro H locs hPo hPp hS ls hl
    have h0o := hF.2.2.2.2.2.1
    have h0p := hF.2.2.2.2.2.2.1
    have hq := hF.2.2.2.2.2.2.2.1 j (by omega) (Nat.le_refl j)
    have hIo := hF.1
    have hIp := hF.2.1
    refine lv_iload hx hb dL_law_811 (lv_at hl 4 rfl) ?_
    refine lv_iconst (v := 4) hx hb dL_law_813 rfl ?_
    refine lv_icmp_ge (tgt := 869) hx hb dL_law_814 (by decide) (fun c_814 => ?_) (fun c_814 => ?_)
    · -- 814 taken
      have c_814n := i_le_t c_814
      exact absurd (nI_ge' (b := 4) (by omega) (by omega) c_814) (by omega)
    · -- 814 not taken
      have c_814n := i_le_f c_814
      refine lv_aload_n hx hb dL_law_817 rfl (lv_at hl 1 rfl) ?_
      refine lv_iload hx hb dL_law_818 (lv_at hl 4 rfl) ?_
      refine qViF (As := [.int (nI j)]) (rest := []) hx hb hml hown hts (kX3_remove l g zo (J_o hj) (nI j)) gL_law_X3_remove rfl 1 hdX3_remove rfl ⟨Nat.le_of_ble_eq_true rfl, Nat.le_of_ble_eq_true rfl⟩ ⟨Nat.le_of_ble_eq_true rfl, Nat.le_of_ble_eq_true rfl⟩ hK hPo hS (fun q h => hg q (A_o q h)) 0 3 rfl rfl rfl hl.1 rfl (Nat.le_of_ble_eq_true rfl) dL_law_820 (fun H locs hz hk hPo hS => ?_)
      have hPp := P2_kp hj hPp hk
      refine lv_nm (y := 1) (congrArg Prod.fst (rm_off (by omega) hq.1 h0o)) ?_
      rw [(rm_off (by omega) hq.1 h0o)] at hPo
      dsimp only at hPo
      refine lv_iconst (v := 1) hx hb dL_law_823 rfl ?_
      refine lv_icmp_ne (tgt := 861) hx hb dL_law_824 (by decide) (fun c_824 => ?_) (fun c_824 => ?_)
      · -- 824 taken
        exact absurd rfl c_824
      · -- 824 not taken
        refine lv_aload_n hx hb dL_law_827 rfl (lv_at hl 2 rfl) ?_
        refine lv_iload hx hb dL_law_828 (lv_at hl 4 rfl) ?_
        refine qViF (As := [.int (nI j)]) (rest := []) hx hb hml hown hts (kX3_remove l g zp (J_p hj) (nI j)) gL_law_X3_remove rfl 1 hdX3_remove rfl ⟨Nat.le_of_ble_eq_true rfl, Nat.le_of_ble_eq_true rfl⟩ ⟨Nat.le_of_ble_eq_true rfl, Nat.le_of_ble_eq_true rfl⟩ hK hPp hS (fun q h => hg q (A_p q h)) 0 3 rfl rfl rfl hl.1 rfl (Nat.le_of_ble_eq_true rfl) dL_law_830 (fun H locs hz hk hPp hS => ?_)
        have hPo := P2_ko hj hPo hk
        refine lv_nm (y := 1) (congrArg Prod.fst (rm_off (by omega) hq.2 h0p)) ?_
        rw [(rm_off (by omega) hq.2 h0p)] at hPp
        dsimp only at hPp
        refine lv_iconst (v := 1) hx hb dL_law_833 rfl ?_
        refine lv_icmp_ne (tgt := 861) hx hb dL_law_834 (by decide) (fun c_834 => ?_) (fun c_834 => ?_)
        · -- 834 taken
          exact absurd c_824 c_834
        · -- 834 not taken
          refine lv_aload_n hx hb dL_law_837 rfl (lv_at hl 1 rfl) ?_
          refine lv_aload_n hx hb dL_law_838 rfl (lv_at hl 2 rfl) ?_
          refine lv_aload_n hx hb dL_law_839 rfl (lv_at hl 0 rfl) ?_
          refine lv_bipush (v := 22) hx hb dL_law_840 (by decide) ?_
          refine lv_bipush (v := 20) hx hb dL_law_842 (by decide) ?_
          refine lv_iload_n hx hb dL_law_844 rfl (lv_at hl 3 rfl) ?_
          refine lv_imul hx hb dL_law_845 ?_
          refine lv_iadd hx hb dL_law_846 ?_
          refine lv_iload hx hb dL_law_847 (lv_at hl 4 rfl) ?_
          refine lv_iadd hx hb dL_law_849 ?_
          refine lv_nm (y := nI (22 + 20 * i + j)) (by rw [show (22 : Int32) = nI 22 from rfl, idx_1, nI_add]) ?_
          refine qCell (i := 22 + 20 * i + j) hx hb hml hown hts gL_law_L_cell hX hbl (Nat.not_le.mpr hbl) (by omega) (by omega) ⟨Nat.le_of_ble_eq_true rfl, Nat.le_of_ble_eq_true rfl⟩ ⟨Nat.le_of_ble_eq_true rfl, Nat.le_of_ble_eq_true rfl⟩ hS hl.1 (Nat.le_of_ble_eq_true rfl) dL_law_850 (fun H locs hz hk hS => ?_)
          have hPo := P_all hPo hk
          have hPp := P_all hPp hk
          refine lv_topi (fun gg hgg => ?_)
          refine lv_iload hx hb dL_law_853 (lv_at hl 4 rfl) ?_
          refine qSiTR hT (As := [.ref (ad 0), .ref (aP ad 0), .int gg, .int (nI j)]) (rest := []) hx hb hml hown hts (kL_both l g (zu zo (10 + j) 0 0) (zu zp (10 + j) 0 0) hj gg (show j < 4 by omega) (by rw [zu_row _ _ _ _ _ (by omega)]; exact h0o) (by rw [zu_row _ _ _ _ _ (by omega)]; exact h0p) (zu_same _ _ _ _) (zu_same _ _ _ _)) gL_law_L_both rfl 4 hdL_both rfl ⟨Nat.le_of_ble_eq_true rfl, Nat.le_of_ble_eq_true rfl⟩ ⟨Nat.le_of_ble_eq_true rfl, Nat.le_of_ble_eq_true rfl⟩ hK (P2_mk hPo hPp) hS hg hl.1 rfl (Nat.le_of_ble_eq_true rfl) dL_law_855 (fun u9 H locs hR9 hz hk hP2 hS => ?_)
          have hR9 : u9 = (boS (zu zo (10 + j) 0 0) j gg, boS (zu zp (10 + j) 0 0) j gg) := hR9
          subst hR9
          have hPo := P2_o hP2
          have hPp := P2_p hP2
          refine lv_if_ne (tgt := 863) hx hb dL_law_858 (by decide) (fun c_858 => ?_) (fun c_858 => ?_)
          · -- 858 taken
            refine lv_iinc (v := nI (j + 1)) (lv' := [(12, .int (nI (j + 1))), (0, .ref b), (1, .ref (ad 0)), (2, .ref (aP ad 0)), (3, .int (nI i))]) hx hb dL_law_863 hl (k := 4) rfl (nI_1 j) (by decide) rfl (fun ls hl => ?_)
            refine lv_goto (tgt := 811) hx hb dL_law_866 (by decide) ?_
            exact ih (j + 1) _ _ (by omega) (LF_step hF (by omega) gg) _ _ hPo hPp hS ls (lv_sub hl [1, 2, 3, 4, 0] rfl)
          · -- 858 not taken
            exact absurd (c_824.symm.trans c_858) (by decide)
set_option maxHeartbeats 4000000 in
set_option maxRecDepth 100000 in
theorem law_788 {p : Program} {l : Launch} {e : Env} {s : State} {m : MethodId} {below : List Frame} {meth : Method} {c : Code} {b L : Nat} {xs : Nat → Int32} {g : qG} {ad : Nat → Nat} (C0 : lawC p s m meth c b L xs g ad) {i : Nat} (hi : i < 3) (nxt : ∀ yo yp : zS, LA yo yp → lawAt p l e s m below meth c b g ad 869 [] [(0, .ref b), (1, .ref (ad 0)), (2, .ref (aP ad 0)), (3, .int (nI i))] yo yp) {zo zp : zS} (hE : LE zo zp) : lawAt p l e s m below meth c b g ad 788 [] [(0, .ref b), (1, .ref (ad 0)), (2, .ref (aP ad 0)), (3, .int (nI i))] zo zp := by
  obtain ⟨hx, hb, hml, hown, hts, hr, hlocks, hX, hbl, hL, hj, hg, hK, hT⟩ := id C0
  intro H locs hPo hPp hS ls hl
  refine lv_aload_n hx hb dL_law_788 rfl (lv_at hl 1 rfl) ?_
  refine lv_iconst (v := 0) hx hb dL_law_789 rfl ?_
  refine qViF (As := [.int 0]) (rest := []) hx hb hml hown hts (kX3_power l g zo (J_o hj) 0) gL_law_X3_power rfl 1 hdX3_power rfl ⟨Nat.le_of_ble_eq_true rfl, Nat.le_of_ble_eq_true rfl⟩ ⟨Nat.le_of_ble_eq_true rfl, Nat.le_of_ble_eq_true rfl⟩ hK hPo hS (fun q h => hg q (A_o q h)) 0 3 rfl rfl rfl hl.1 rfl (Nat.le_of_ble_eq_true rfl) dL_law_790 (fun H locs hz hk hPo hS => ?_)
  have hPp := P2_kp hj hPp hk
  refine lv_nm (y := 1) (congrArg Prod.fst (pw_off hE.2.2.2.2.2.1)) ?_
  rw [(pw_off hE.2.2.2.2.2.1)] at hPo
  dsimp only at hPo
  refine lv_iconst (v := 1) hx hb dL_law_793 rfl ?_
  refine lv_icmp_ne (tgt := 806) hx hb dL_law_794 (by decide) (fun c_794 => ?_) (fun c_794 => ?_)
  · -- 794 taken
    exact absurd rfl c_794
  · -- 794 not taken
    refine lv_aload_n hx hb dL_law_797 rfl (lv_at hl 2 rfl) ?_
    refine lv_iconst (v := 0) hx hb dL_law_798 rfl ?_
    refine qViF (As := [.int 0]) (rest := []) hx hb hml hown hts (kX3_power l g zp (J_p hj) 0) gL_law_X3_power rfl 1 hdX3_power rfl ⟨Nat.le_of_ble_eq_true rfl, Nat.le_of_ble_eq_true rfl⟩ ⟨Nat.le_of_ble_eq_true rfl, Nat.le_of_ble_eq_true rfl⟩ hK hPp hS (fun q h => hg q (A_p q h)) 0 3 rfl rfl rfl hl.1 rfl (Nat.le_of_ble_eq_true rfl) dL_law_799 (fun H locs hz hk hPp hS => ?_)
    have hPo := P2_ko hj hPo hk
    refine lv_nm (y := 1) (congrArg Prod.fst (pw_off hE.2.2.2.2.2.2.1)) ?_
    rw [(pw_off hE.2.2.2.2.2.2.1)] at hPp
    dsimp only at hPp
    refine lv_iconst (v := 1) hx hb dL_law_802 rfl ?_
    refine lv_icmp_eq (tgt := 808) hx hb dL_law_803 (by decide) (fun c_803 => ?_) (fun c_803 => ?_)
    · -- 803 taken
      refine lv_iconst (v := 0) hx hb dL_law_808 rfl ?_
      refine lv_istore (lv' := [(12, .int 0), (0, .ref b), (1, .ref (ad 0)), (2, .ref (aP ad 0)), (3, .int (nI i))]) hx hb dL_law_809 hl (by decide) rfl (fun ls hl => ?_)
      exact law_811 C0 hi nxt 4 0 _ _ (by omega) (LF_of hE) _ _ hPo hPp hS ls (lv_sub hl [1, 2, 3, 4, 0] rfl)
    · -- 803 not taken
      exact absurd c_794 c_803
set_option maxHeartbeats 4000000 in
set_option maxRecDepth 100000 in
theorem law_733 {p : Program} {l : Launch} {e : Env} {s : State} {m : MethodId} {below : List Frame} {meth : Method} {c : Code} {b L : Nat} {xs : Nat → Int32} {g : qG} {ad : Nat → Nat} (C0 : lawC p s m meth c b L xs g ad) {i j : Nat} (hi : i < 3) (hj5 : j < 5) {zo zp : zS} (hE : LE zo zp) {gg vv : Int32} (hv : inR vv (-3000) 3000 = true) (nxt : ∀ yo : zS, LE yo zp → lawAt p l e s m below meth c b g ad 665 [] [(0, .ref b), (1, .ref (ad 0)), (2, .ref (aP ad 0)), (3, .int (nI i)), (12, .int (nI (j + 1)))] yo zp) : lawAt p l e s m below meth c b g ad 733 [.int vv] [(0, .ref b), (1, .ref (ad 0)), (2, .ref (aP ad 0)), (3, .int (nI i)), (12, .int (nI j)), (13, .int gg)] zo zp := by
  obtain ⟨hx, hb, hml, hown, hts, hr, hlocks, hX, hbl, hL, hj, hg, hK, hT⟩ := id C0
  have h7 : inR ((gg >>> ((18 : Int32) &&& 31)) &&& 7) 0 100 = true := inR_up (and_in _ (k := 7) (mk := 7) (bk := 7) (by decide) rfl rfl) (by decide)
  have hIo := hE.1
  intro H locs hPo hPp hS ls hl
  refine lv_istore (lv' := [(14, .int vv), (0, .ref b), (1, .ref (ad 0)), (2, .ref (aP ad 0)), (3, .int (nI i)), (12, .int (nI j)), (13, .int gg)]) hx hb dL_law_733 hl (by decide) rfl (fun ls hl => ?_)
  refine lv_aload_n hx hb dL_law_735 rfl (lv_at hl 2 rfl) ?_
  refine lv_iload hx hb dL_law_736 (lv_at hl 0 rfl) ?_
  refine qSiF (As := [.ref (ad 0), .int vv]) (rest := []) hx hb hml hown hts (kL_found l g zo (J_o hj) hE.1 (on_hand hE.1 hE.2.2.2.2.2.1) vv hv) gL_law_L_found rfl 2 hdL_found rfl ⟨Nat.le_of_ble_eq_true rfl, Nat.le_of_ble_eq_true rfl⟩ ⟨Nat.le_of_ble_eq_true rfl, Nat.le_of_ble_eq_true rfl⟩ hK hPo hS (fun q h => hg q (A_o q h)) hl.1 rfl (Nat.le_of_ble_eq_true rfl) dL_law_738 (fun H locs hz hk hPo hS => ?_)
  have hPp := P2_kp hj hPp hk
  refine lv_if_eq (tgt := 780) hx hb dL_law_741 (by decide) (fun c_741 => ?_) (fun c_741 => ?_)
  · -- 741 taken
    exact absurd c_741 (by decide)
  · -- 741 not taken
    refine lv_aload_n hx hb dL_law_744 rfl (lv_at hl 2 rfl) ?_
    refine lv_iload hx hb dL_law_745 (lv_at hl 0 rfl) ?_
    refine lv_iconst (v := 1) hx hb dL_law_747 rfl ?_
    refine lv_iload hx hb dL_law_748 (lv_at hl 6 rfl) ?_
    refine lv_bipush (v := 12) hx hb dL_law_750 (by decide) ?_
    refine lv_ishr hx hb dL_law_752 ?_
    refine lv_bipush (v := 50) hx hb dL_law_753 (by decide) ?_
    refine qSiF (As := [.int (gg >>> ((12 : Int32) &&& 31)), .int 50]) (rest := [.int 1, .int vv, .ref (ad 0)]) hx hb hml hown hts (kL_low l g (Wd := qE) (A := fun _ => False) () (gg >>> ((12 : Int32) &&& 31)) 50 (by decide)) gL_law_L_low rfl 2 hdL_low rfl ⟨Nat.le_of_ble_eq_true rfl, Nat.le_of_ble_eq_true rfl⟩ ⟨Nat.le_of_ble_eq_true rfl, Nat.le_of_ble_eq_true rfl⟩ hK P_e hS (fun _ h => h.elim) hl.1 rfl (Nat.le_of_ble_eq_true rfl) dL_law_755 (fun H locs hz hk _ hS => ?_)
    have hPo := P_all hPo hk
    have hPp := P_all hPp hk
    refine lv_iadd hx hb dL_law_758 ?_
    refine qSiF (As := [.ref (ad 0), .int vv, .int (1 + (lowF (gg >>> ((12 : Int32) &&& 31)) 50))]) (rest := []) hx hb hml hown hts (kL_pulse l g zo (J_o hj) hE.1 hE.2.2.2.2.2.1 vv (1 + (lowF (gg >>> ((12 : Int32) &&& 31)) 50)) hv (low1r _ (n := 50) (by decide) rfl)) gL_law_L_pulse rfl 3 hdL_pulse rfl ⟨Nat.le_of_ble_eq_true rfl, Nat.le_of_ble_eq_true rfl⟩ ⟨Nat.le_of_ble_eq_true rfl, Nat.le_of_ble_eq_true rfl⟩ hK hPo hS (fun q h => hg q (A_o q h)) hl.1 rfl (Nat.le_of_ble_eq_true rfl) dL_law_759 (fun H locs hz hk hPo hS => ?_)
    have hPp := P2_kp hj hPp hk
    refine lv_if_eq (tgt := 780) hx hb dL_law_762 (by decide) (fun c_762 => ?_) (fun c_762 => ?_)
    · -- 762 taken
      exact absurd c_762 c_741
    · -- 762 not taken
      refine lv_aload_n hx hb dL_law_765 rfl (lv_at hl 2 rfl) ?_
      refine lv_iload hx hb dL_law_766 (lv_at hl 6 rfl) ?_
      refine lv_bipush (v := 18) hx hb dL_law_768 (by decide) ?_
      refine lv_ishr hx hb dL_law_770 ?_
      refine lv_bipush (v := 7) hx hb dL_law_771 (by decide) ?_
      refine lv_iand hx hb dL_law_773 ?_
      refine qViF (As := [.int ((gg >>> ((18 : Int32) &&& 31)) &&& 7)]) (rest := []) hx hb hml hown hts (kX3_rest l g (lpS zo vv (1 + (lowF (gg >>> ((12 : Int32) &&& 31)) 50))) (J_o hj) ((gg >>> ((18 : Int32) &&& 31)) &&& 7)) gL_law_X3_rest rfl 1 hdX3_rest rfl ⟨Nat.le_of_ble_eq_true rfl, Nat.le_of_ble_eq_true rfl⟩ ⟨Nat.le_of_ble_eq_true rfl, Nat.le_of_ble_eq_true rfl⟩ hK hPo hS (fun q h => hg q (A_o q h)) 0 3 rfl rfl rfl hl.1 rfl (Nat.le_of_ble_eq_true rfl) dL_law_774 (fun H locs hz hk hPo hS => ?_)
      have hPp := P2_kp hj hPp hk
      rw [rest_2 h7] at hPo
      refine lv_if_ge (tgt := 782) hx hb dL_law_777 (by decide) (fun c_777 => ?_) (fun c_777 => ?_)
      · -- 777 taken
        have c_777n := i_le_t c_777
        refine lv_iinc (v := nI (j + 1)) (lv' := [(12, .int (nI (j + 1))), (14, .int vv), (0, .ref b), (1, .ref (ad 0)), (2, .ref (aP ad 0)), (3, .int (nI i)), (13, .int gg)]) hx hb dL_law_782 hl (k := 5) rfl (nI_1 j) (by decide) rfl (fun ls hl => ?_)
        refine lv_goto (tgt := 665) hx hb dL_law_785 (by decide) ?_
        exact nxt _ (LE_cool (LE_lp hE hv (low1r _ (n := 50) (by decide) rfl)) _) _ _ hPo hPp hS ls (lv_sub hl [2, 3, 4, 5, 0] rfl)
      · -- 777 not taken
        have c_777n := i_le_f c_777
        exact absurd (rest_ge h7) c_777
theorem low_v {x n : Int32} (hn : n = 6001 ∨ n = 1201) : (1200 < lowF x n → inR (lowF x n - 3000) (-3000) 3000 = true) ∧ (lowF x n ≤ 1200 → inR (lowF x n - 600) (-3000) 3000 = true) := by
  have h : 0 ≤ (lowF x n).toInt ∧ (lowF x n).toInt ≤ 6000 := by
    rcases hn with rfl | rfl
    · have := low_b x (n := 6001) (by decide)
      rw [show (6001 : Int32).toInt = 6001 from rfl] at this; omega
    · have := low_b x (n := 1201) (by decide)
      rw [show (1201 : Int32).toInt = 1201 from rfl] at this; omega
  have e3 : (3000 : Int32).toInt = 3000 := rfl
  have e6 : (600 : Int32).toInt = 600 := rfl
  have e12 : (1200 : Int32).toInt = 1200 := rfl
  have en : (-3000 : Int32).toInt = -3000 := rfl
  refine ⟨fun q => ?_, fun q => ?_⟩
  · have q1 := Int32.lt_iff_toInt_lt.mp q
    rw [inR_iff, fb_subI (by rw [e3]; omega) (by rw [e3]; omega), e3, en]; omega
  · have q1 := Int32.le_iff_toInt_le.mp q
    rw [inR_iff, fb_subI (by rw [e6]; omega) (by rw [e6]; omega), e3, e6, en]; omega
set_option maxHeartbeats 4000000 in
set_option maxRecDepth 100000 in
theorem law_665 {p : Program} {l : Launch} {e : Env} {s : State} {m : MethodId} {below : List Frame} {meth : Method} {c : Code} {b L : Nat} {xs : Nat → Int32} {g : qG} {ad : Nat → Nat} (C0 : lawC p s m meth c b L xs g ad) {i : Nat} (hi : i < 3) (nxt : ∀ yo yp : zS, LA yo yp → lawAt p l e s m below meth c b g ad 869 [] [(0, .ref b), (1, .ref (ad 0)), (2, .ref (aP ad 0)), (3, .int (nI i))] yo yp) : ∀ (k : Nat) (j : Nat) (zo zp : zS), j + k = 5 → LE zo zp → lawAt p l e s m below meth c b g ad 665 [] [(0, .ref b), (1, .ref (ad 0)), (2, .ref (aP ad 0)), (3, .int (nI i)), (12, .int (nI j))] zo zp := by
  obtain ⟨hx, hb, hml, hown, hts, hr, hlocks, hX, hbl, hL, hj, hg, hK, hT⟩ := id C0
  intro k
  induction k with
  | zero =>
    intro j zo zp hj2 hE
    intro H locs hPo hPp hS ls hl
    refine lv_iload hx hb dL_law_665 (lv_at hl 4 rfl) ?_
    refine lv_iconst (v := 5) hx hb dL_law_667 rfl ?_
    refine lv_icmp_ge (tgt := 788) hx hb dL_law_668 (by decide) (fun c_668 => ?_) (fun c_668 => ?_)
    · -- 668 taken
      have c_668n := i_le_t c_668
      exact law_788 C0 hi nxt hE _ _ hPo hPp hS ls (lv_sub hl [0, 1, 2, 3] rfl)
    · -- 668 not taken
      have c_668n := i_le_f c_668
      exact absurd (nI_lt' (b := 5) (by omega) (by omega) c_668) (by omega)
  | succ k ih =>
    intro j zo zp hj2 hE
    intro H locs hPo hPp hS ls hl
    refine lv_iload hx hb dL_law_665 (lv_at hl 4 rfl) ?_
    refine lv_iconst (v := 5) hx hb dL_law_667 rfl ?_
    refine lv_icmp_ge (tgt := 788) hx hb dL_law_668 (by decide) (fun c_668 => ?_) (fun c_668 => ?_)
    · -- 668 taken
      have c_668n := i_le_t c_668
      exact absurd (nI_ge' (b := 5) (by omega) (by omega) c_668) (by omega)
    · -- 668 not taken
      have c_668n := i_le_f c_668
      refine lv_aload_n hx hb dL_law_671 rfl (lv_at hl 0 rfl) ?_
      refine lv_bipush (v := 16) hx hb dL_law_672 (by decide) ?_
      refine lv_bipush (v := 20) hx hb dL_law_674 (by decide) ?_
      refine lv_iload_n hx hb dL_law_676 rfl (lv_at hl 3 rfl) ?_
      refine lv_imul hx hb dL_law_677 ?_
      refine lv_iadd hx hb dL_law_678 ?_
      refine lv_iload hx hb dL_law_679 (lv_at hl 4 rfl) ?_
      refine lv_iadd hx hb dL_law_681 ?_
      refine lv_nm (y := nI (16 + 20 * i + j)) (by rw [show (16 : Int32) = nI 16 from rfl, idx_1, nI_add]) ?_
      refine qCell (i := 16 + 20 * i + j) hx hb hml hown hts gL_law_L_cell hX hbl (Nat.not_le.mpr hbl) (by omega) (by omega) ⟨Nat.le_of_ble_eq_true rfl, Nat.le_of_ble_eq_true rfl⟩ ⟨Nat.le_of_ble_eq_true rfl, Nat.le_of_ble_eq_true rfl⟩ hS hl.1 (Nat.le_of_ble_eq_true rfl) dL_law_682 (fun H locs hz hk hS => ?_)
      have hPo := P_all hPo hk
      have hPp := P_all hPp hk
      refine lv_topi (fun gg hgg => ?_)
      refine lv_istore (lv' := [(13, .int gg), (0, .ref b), (1, .ref (ad 0)), (2, .ref (aP ad 0)), (3, .int (nI i)), (12, .int (nI j))]) hx hb dL_law_685 hl (by decide) rfl (fun ls hl => ?_)
      refine lv_iload hx hb dL_law_687 (lv_at hl 0 rfl) ?_
      refine lv_iload hx hb dL_law_689 (lv_at hl 0 rfl) ?_
      refine lv_bipush (v := 20) hx hb dL_law_691 (by decide) ?_
      refine lv_ishr hx hb dL_law_693 ?_
      refine lv_iconst (v := 3) hx hb dL_law_694 rfl ?_
      refine lv_iand hx hb dL_law_695 ?_
      refine lv_if_ne (tgt := 705) hx hb dL_law_696 (by decide) (fun c_696 => ?_) (fun c_696 => ?_)
      · -- 696 taken
        refine lv_sipush (v := 1201) hx hb dL_law_705 (by decide) ?_
        refine qSiF (As := [.int gg, .int 1201]) (rest := []) hx hb hml hown hts (kL_low l g (Wd := qE) (A := fun _ => False) () gg 1201 (by decide)) gL_law_L_low rfl 2 hdL_low rfl ⟨Nat.le_of_ble_eq_true rfl, Nat.le_of_ble_eq_true rfl⟩ ⟨Nat.le_of_ble_eq_true rfl, Nat.le_of_ble_eq_true rfl⟩ hK P_e hS (fun _ h => h.elim) hl.1 rfl (Nat.le_of_ble_eq_true rfl) dL_law_708 (fun H locs hz hk _ hS => ?_)
        have hPo := P_all hPo hk
        have hPp := P_all hPp hk
        refine lv_istore (lv' := [(14, .int (lowF gg 1201)), (13, .int gg), (0, .ref b), (1, .ref (ad 0)), (2, .ref (aP ad 0)), (3, .int (nI i)), (12, .int (nI j))]) hx hb dL_law_711 hl (by decide) rfl (fun ls hl => ?_)
        refine lv_iload hx hb dL_law_713 (lv_at hl 0 rfl) ?_
        refine lv_iload hx hb dL_law_715 (lv_at hl 0 rfl) ?_
        refine lv_sipush (v := 1200) hx hb dL_law_717 (by decide) ?_
        refine lv_icmp_le (tgt := 729) hx hb dL_law_720 (by decide) (fun c_720 => ?_) (fun c_720 => ?_)
        · -- 720 taken
          have c_720n := i_le_t c_720
          refine lv_sipush (v := 600) hx hb dL_law_729 (by decide) ?_
          refine lv_isub hx hb dL_law_732 ?_
          exact law_733 C0 hi (by omega) hE (gg := gg) (vv := ((lowF gg 1201) - 600)) ((low_v (Or.inr rfl)).2 c_720) (fun yo hy9 => ih (j + 1) yo zp (by omega) hy9) _ _ hPo hPp hS ls (lv_sub hl [2, 3, 4, 5, 6, 1] rfl)
        · -- 720 not taken
          have c_720n := i_le_f c_720
          refine lv_sipush (v := 3000) hx hb dL_law_723 (by decide) ?_
          refine lv_goto (tgt := 732) hx hb dL_law_726 (by decide) ?_
          refine lv_isub hx hb dL_law_732 ?_
          exact law_733 C0 hi (by omega) hE (gg := gg) (vv := ((lowF gg 1201) - 3000)) ((low_v (Or.inr rfl)).1 c_720n) (fun yo hy9 => ih (j + 1) yo zp (by omega) hy9) _ _ hPo hPp hS ls (lv_sub hl [2, 3, 4, 5, 6, 1] rfl)
      · -- 696 not taken
        refine lv_sipush (v := 6001) hx hb dL_law_699 (by decide) ?_
        refine lv_goto (tgt := 708) hx hb dL_law_702 (by decide) ?_
        refine qSiF (As := [.int gg, .int 6001]) (rest := []) hx hb hml hown hts (kL_low l g (Wd := qE) (A := fun _ => False) () gg 6001 (by decide)) gL_law_L_low rfl 2 hdL_low rfl ⟨Nat.le_of_ble_eq_true rfl, Nat.le_of_ble_eq_true rfl⟩ ⟨Nat.le_of_ble_eq_true rfl, Nat.le_of_ble_eq_true rfl⟩ hK P_e hS (fun _ h => h.elim) hl.1 rfl (Nat.le_of_ble_eq_true rfl) dL_law_708 (fun H locs hz hk _ hS => ?_)
        have hPo := P_all hPo hk
        have hPp := P_all hPp hk
        refine lv_istore (lv' := [(14, .int (lowF gg 6001)), (13, .int gg), (0, .ref b), (1, .ref (ad 0)), (2, .ref (aP ad 0)), (3, .int (nI i)), (12, .int (nI j))]) hx hb dL_law_711 hl (by decide) rfl (fun ls hl => ?_)
        refine lv_iload hx hb dL_law_713 (lv_at hl 0 rfl) ?_
        refine lv_iload hx hb dL_law_715 (lv_at hl 0 rfl) ?_
        refine lv_sipush (v := 1200) hx hb dL_law_717 (by decide) ?_
        refine lv_icmp_le (tgt := 729) hx hb dL_law_720 (by decide) (fun c_720 => ?_) (fun c_720 => ?_)
        · -- 720 taken
          have c_720n := i_le_t c_720
          refine lv_sipush (v := 600) hx hb dL_law_729 (by decide) ?_
          refine lv_isub hx hb dL_law_732 ?_
          exact law_733 C0 hi (by omega) hE (gg := gg) (vv := ((lowF gg 6001) - 600)) ((low_v (Or.inl rfl)).2 c_720) (fun yo hy9 => ih (j + 1) yo zp (by omega) hy9) _ _ hPo hPp hS ls (lv_sub hl [2, 3, 4, 5, 6, 1] rfl)
        · -- 720 not taken
          have c_720n := i_le_f c_720
          refine lv_sipush (v := 3000) hx hb dL_law_723 (by decide) ?_
          refine lv_goto (tgt := 732) hx hb dL_law_726 (by decide) ?_
          refine lv_isub hx hb dL_law_732 ?_
          exact law_733 C0 hi (by omega) hE (gg := gg) (vv := ((lowF gg 6001) - 3000)) ((low_v (Or.inl rfl)).1 c_720n) (fun yo hy9 => ih (j + 1) yo zp (by omega) hy9) _ _ hPo hPp hS ls (lv_sub hl [2, 3, 4, 5, 6, 1] rfl)
