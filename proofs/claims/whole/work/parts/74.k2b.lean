set_option maxHeartbeats 4000000 in
set_option maxRecDepth 100000 in
theorem lc_cancel {κ : mo_T} {lf : Launch} {ρf : mo_E} {ret : Option FieldType} (hlf : lf.stackTraces = false) {b Ls : Nat} {xs : Nat → Int32} {i x m ou n sv s t k0 n0 : Nat} {B : Int} {G : mo_G} {M : mo_M} {dd : Drawn} {hh : List (Nat × Nat × Nat × Nat)} (X0 : mo_Cx κ lf ρf cL_law 9 RL ret 11) (Z0 : mo_Hx κ hh) (hX0 : mo_Xs κ b Ls xs) (hLs : Ls ≤ 3072) (hi : i + 6 ≤ Ls) (hrm : mo_Rm κ (k0 + 1) (n0 + 6)) (L : mo_LI G M x m ou n sv s B) (hB : B ≤ 3000000) (hd0 : (mo_st κ).drawn.sameBut dd lw_cs) (next : mo_Nxt κ b x m ou i B k0 n0) : mo_V (mo_dr κ dd) k0 n0 740 [some (.ref b), some (.ref x), some (.ref m), some (.ref ou), some (mo_iv (i : Int)), none, none, none, none] [] G M t := by
  have X := mo_Cx_dr X0 dd
  have Z := mo_Hx_dr Z0 dd
  have hXs := mo_Xs_dr hX0 dd
  have hrm : mo_Rm (mo_dr κ dd) (k0 + 1) (n0 + 6) := hrm
  obtain ⟨L1, L2, L3, L4, L5, L6, L7, L8, L9, L10, L11, L12⟩ := id L
  have hx := L3.1
  refine mo_al1 (pc := 740) X dL_law_740 ?_
  refine mo_al0 (pc := 741) X dL_law_741 ?_
  refine mo_il4 (pc := 742) X dL_law_742 ?_
  refine mo_iconst (pc := 744) X dL_law_744 ?_
  refine mo_iadd (pc := 745) X dL_law_745 ?_
  refine mo_sld (pc := 746) (j := i + 1) X hXs hLs (by omega) (by omega) (by omega) dL_law_746 ?_
  refine mo_al3 (pc := 747) X dL_law_747 ?_
  have hC := ctL_cancel (lf := lf) (ρf := ρf) (t := t) (x := x) (out := ou) (val := mo_fld (M (m + 1)) (mo_ff (fun k => decide (mo_fld (M (m + 1)) k 0 = (xs (i + 1)).toInt)) (mo_nk (M (m + 1)))).toNat 2) (mo_Ms_o hx) (ct4_cancel hlf L3 L8 (by omega) L7 (mo_ri (xs (i + 1))) rfl) (fun v G' M' t' h => by
        obtain ⟨⟨h1, -⟩, -, -, -, hu, -⟩ := h
        exact ⟨hu, by rw [h1]; exact L2⟩) (fun E G' M' t' h => by
        obtain ⟨-, -, -, hd⟩ := h
        rcases hd with ⟨e, -⟩ | ⟨e, -⟩
        · exact Or.inl e
        · exact Or.inr e)
  refine mo_callSH (pc := 748) (As := [_, _, _]) X Z mo_wm_L_130 mo_wi_yL_cancel mo_wz_L mo_wh_yL_cancel mo_yy_cancel dL_law_748 hC rfl (by decide) (by decide) (Nat.le_of_ble_eq_true rfl) hrm ?_
  rintro v1 G1 M1 t1 ⟨k, rfl, hk⟩
  show mo_V (mo_dr κ dd) (k0 + 1) (n0 + 6) 751 _ [mo_iv k] _ _ _
  obtain ⟨hL1, hfin⟩ := lj_cancel (t := t) (A0 := (xs (i + 1)).toInt) (pl := mo_ff (fun k => decide (mo_fld (M (m + 1)) k 0 = (xs (i + 1)).toInt)) (mo_nk (M (m + 1)))) L rfl rfl rfl rfl hk
  refine mo_is5 (pc := 751) X dL_law_751 rfl (by decide) ?_
  have e0 : M1 m = M m := hL1.2 m (by omega) (by omega)
  have e1 : M1 (m + 1) = M (m + 1) := hL1.2 (m + 1) (by omega) (by omega)
  have hm1 : mo_Md G1 m := mo_Md_f3 hL1.1.1 (hL1.1.2 m (by omega)) L1
  have hI1 : mo_Iv (M1 (m + 1)) B := by rw [e1]; exact L8
  have hs1 : M1 m 2 = sv := by rw [e0]; exact L4
  have ho1 : G1.1 ou = some (.inr (1, 1)) := by rw [hL1.1.1]; exact L2
  refine mo_al2 (pc := 753) X dL_law_753 ?_
  refine mo_al0 (pc := 754) X dL_law_754 ?_
  refine mo_il4 (pc := 755) X dL_law_755 ?_
  refine mo_iconst (pc := 757) X dL_law_757 ?_
  refine mo_iadd (pc := 758) X dL_law_758 ?_
  refine mo_sld (pc := 759) (j := i + 1) X hXs hLs (by omega) (by omega) (by omega) dL_law_759 ?_
  refine mo_callVr (pc := 760) (As := [_]) X mo_k_L_132 mo_y_yX5_cancel rfl dL_law_760 (ct5_cancel (m := m) (pl := mo_ff (fun k => decide (mo_fld (M (m + 1)) k 0 = (xs (i + 1)).toInt)) (mo_nk (M (m + 1)))) hm1 hI1 (by omega) hs1 L7 (mo_ri (xs (i + 1))) (by rw [e1])) (mo_Md_o hm1) rfl (by decide) (by decide) (Nat.le_of_ble_eq_true rfl) hrm ?_
  rintro v2 G2 M2 t2 ⟨rfl, rfl, b2, rfl, hb⟩
  show mo_V (mo_dr κ dd) (k0 + 1) (n0 + 6) 763 _ [mo_iv b2] _ _ _
  obtain ⟨⟨n2, sv2, s2, LI2⟩, hk4, hkr, hkv⟩ := hfin b2 M2 hb
  refine mo_is6 (pc := 763) X dL_law_763 rfl (by decide) ?_
  refine mo_al2 (pc := 765) X dL_law_765 ?_
  refine mo_callVr (pc := 766) (As := []) X mo_k_L_103 mo_y_yX5_thrown rfl dL_law_766 (ct5_thrown hm1) (mo_Md_o hm1) rfl (by decide) (by decide) (Nat.le_of_ble_eq_true rfl) hrm ?_
  rintro v3 G3 M3 t3 ⟨rfl, rfl, x3, rfl, h3, h4⟩
  subst h4
  obtain rfl : x3 = k := h3.trans hk4
  show mo_V (mo_dr κ dd) (k0 + 1) (n0 + 6) 769 _ [mo_iv x3] _ _ _
  refine mo_il5 (pc := 769) X dL_law_769 ?_
  refine mo_ic_eqS (pc := 771) (tgt := 776) X dL_law_771 (by decide) ?_
  refine mo_il5 (pc := 776) X dL_law_776 ?_
  refine mo_if_ne (pc := 778) (tgt := 793) X dL_law_778 (by decide) (by omega) (fun c_a => ?_) (fun c_a => ?_)
  · refine mo_goto (pc := 793) (tgt := 1890) X dL_law_793 (by decide) ?_
    refine mo_fg4 ?_
    exact next dd hd0 _ _ _ _ _ _ LI2
  refine mo_al3 (pc := 781) X dL_law_781 ?_
  refine mo_iconst (pc := 782) X dL_law_782 ?_
  refine mo_lald (pc := 783) (j := 0) X dL_law_783 ho1 (by decide) (by decide) (by decide) rfl ?_
  rw [hkv c_a]
  refine mo_il6 (pc := 784) X dL_law_784 ?_
  refine mo_i2lB (pc := 786) X dL_law_786 ?_
  refine mo_lcmpS (pc := 787) X dL_law_787 ?_
  refine mo_if_eq (pc := 788) (tgt := 793) X dL_law_788 (by decide) (by decide) (fun c_b => ?_) (fun c_b => absurd rfl c_b)
  refine mo_goto (pc := 793) (tgt := 1890) X dL_law_793 (by decide) ?_
  refine mo_fg4 ?_
  exact next dd hd0 _ _ _ _ _ _ LI2
set_option maxHeartbeats 4000000 in
set_option maxRecDepth 100000 in
theorem lc_tell {κ : mo_T} {lf : Launch} {ρf : mo_E} {ret : Option FieldType} (hlf : lf.stackTraces = false) {b Ls : Nat} {xs : Nat → Int32} {i x m ou n sv s t k0 n0 : Nat} {B : Int} {G : mo_G} {M : mo_M} {dd : Drawn} {hh : List (Nat × Nat × Nat × Nat)} (X0 : mo_Cx κ lf ρf cL_law 9 RL ret 11) (Z0 : mo_Hx κ hh) (hX0 : mo_Xs κ b Ls xs) (hLs : Ls ≤ 3072) (hi : i + 6 ≤ Ls) (hrm : mo_Rm κ (k0 + 1) (n0 + 6)) (L : mo_LI G M x m ou n sv s B) (hB : B ≤ 3000000) (hd0 : (mo_st κ).drawn.sameBut dd lw_cs) (next : mo_Nxt κ b x m ou i B k0 n0) : mo_V (mo_dr κ dd) k0 n0 796 [some (.ref b), some (.ref x), some (.ref m), some (.ref ou), some (mo_iv (i : Int)), none, none, none, none] [] G M t := by
  have X := mo_Cx_dr X0 dd
  have Z := mo_Hx_dr Z0 dd
  have hXs := mo_Xs_dr hX0 dd
  have hrm : mo_Rm (mo_dr κ dd) (k0 + 1) (n0 + 6) := hrm
  obtain ⟨L1, L2, L3, L4, L5, L6, L7, L8, L9, L10, L11, L12⟩ := id L
  have hx := L3.1
  by_cases hz : (xs (i + 2)).toInt = 0
  · skip
    refine mo_al1 (pc := 796) X dL_law_796 ?_
    refine mo_al0 (pc := 797) X dL_law_797 ?_
    refine mo_il4 (pc := 798) X dL_law_798 ?_
    refine mo_iconst (pc := 800) X dL_law_800 ?_
    refine mo_iadd (pc := 801) X dL_law_801 ?_
    refine mo_sld (pc := 802) (j := i + 1) X hXs hLs (by omega) (by omega) (by omega) dL_law_802 ?_
    refine mo_al0 (pc := 803) X dL_law_803 ?_
    refine mo_il4 (pc := 804) X dL_law_804 ?_
    refine mo_iconst (pc := 806) X dL_law_806 ?_
    refine mo_iadd (pc := 807) X dL_law_807 ?_
    refine mo_sld (pc := 808) (j := i + 2) X hXs hLs (by omega) (by omega) (by omega) dL_law_808 ?_
    refine mo_if_eq (pc := 809) (tgt := 816) X dL_law_809 (by decide) (mo_ri _) (fun c_809 => ?_) (fun c_809 => absurd hz c_809)
    refine mo_iconst (pc := 816) X dL_law_816 ?_
    refine mo_al3 (pc := 817) X dL_law_817 ?_
    have hC := ctL_tell (lf := lf) (ρf := ρf) (t := t) (x := x) (out := ou) (val := mo_ow (if ((0 : Int)) = 0 then mo_ms (M (m + 1)) (mo_ff (fun k => decide (mo_fld (M (m + 1)) k 0 = (xs (i + 1)).toInt)) (mo_nk (M (m + 1)))).toNat else mo_hd (M (m + 1)) (mo_ff (fun k => decide (mo_fld (M (m + 1)) k 0 = (xs (i + 1)).toInt)) (mo_nk (M (m + 1)))).toNat) (mo_fld (M (m + 1)) (mo_ff (fun k => decide (mo_fld (M (m + 1)) k 0 = (xs (i + 1)).toInt)) (mo_nk (M (m + 1)))).toNat 1).toNat ((M (m + 1)) 0).toNat) (mo_Ms_o hx) (ct4_tell hlf L3 L8 (by omega) L7 (mo_ri (xs (i + 1))) (show mo_In (0 : Int) by omega) rfl) (fun v G' M' t' h => by
          obtain ⟨⟨h1, -⟩, -, -, -, hu, -⟩ := h
          exact ⟨hu, by rw [h1]; exact L2⟩) (fun E G' M' t' h => by
          obtain ⟨-, -, -, hd⟩ := h
          rcases hd with ⟨e, -⟩ | ⟨e, -⟩
          · exact Or.inl e
          · exact Or.inr e)
    refine mo_callSH (pc := 818) (As := [_, _, _, _]) X Z mo_wm_L_133 mo_wi_yL_tell mo_wz_L mo_wh_yL_tell mo_yy_tell dL_law_818 hC rfl (by decide) (by decide) (Nat.le_of_ble_eq_true rfl) hrm ?_
    rintro v1 G1 M1 t1 ⟨k, rfl, hk⟩
    show mo_V (mo_dr κ dd) (k0 + 1) (n0 + 6) 821 _ [mo_iv k] _ _ _
    obtain ⟨hL1, hfin⟩ := lj_tell (t := t) (A0 := (xs (i + 1)).toInt) (A1 := (0 : Int)) (pl := mo_ff (fun k => decide (mo_fld (M (m + 1)) k 0 = (xs (i + 1)).toInt)) (mo_nk (M (m + 1)))) L rfl rfl rfl rfl hk
    refine mo_is5 (pc := 821) X dL_law_821 rfl (by decide) ?_
    have e0 : M1 m = M m := hL1.2 m (by omega) (by omega)
    have e1 : M1 (m + 1) = M (m + 1) := hL1.2 (m + 1) (by omega) (by omega)
    have hm1 : mo_Md G1 m := mo_Md_f3 hL1.1.1 (hL1.1.2 m (by omega)) L1
    have hI1 : mo_Iv (M1 (m + 1)) B := by rw [e1]; exact L8
    have hs1 : M1 m 2 = sv := by rw [e0]; exact L4
    have ho1 : G1.1 ou = some (.inr (1, 1)) := by rw [hL1.1.1]; exact L2
    refine mo_al2 (pc := 823) X dL_law_823 ?_
    refine mo_al0 (pc := 824) X dL_law_824 ?_
    refine mo_il4 (pc := 825) X dL_law_825 ?_
    refine mo_iconst (pc := 827) X dL_law_827 ?_
    refine mo_iadd (pc := 828) X dL_law_828 ?_
    refine mo_sld (pc := 829) (j := i + 1) X hXs hLs (by omega) (by omega) (by omega) dL_law_829 ?_
    refine mo_al0 (pc := 830) X dL_law_830 ?_
    refine mo_il4 (pc := 831) X dL_law_831 ?_
    refine mo_iconst (pc := 833) X dL_law_833 ?_
    refine mo_iadd (pc := 834) X dL_law_834 ?_
    refine mo_sld (pc := 835) (j := i + 2) X hXs hLs (by omega) (by omega) (by omega) dL_law_835 ?_
    refine mo_if_eq (pc := 836) (tgt := 843) X dL_law_836 (by decide) (mo_ri _) (fun c_836 => ?_) (fun c_836 => absurd hz c_836)
    refine mo_iconst (pc := 843) X dL_law_843 ?_
    refine mo_callVr (pc := 844) (As := [_, _]) X mo_k_L_136 mo_y_yX5_tell rfl dL_law_844 (ct5_tell (m := m) (pl := mo_ff (fun k => decide (mo_fld (M (m + 1)) k 0 = (xs (i + 1)).toInt)) (mo_nk (M (m + 1)))) hm1 hI1 (by omega) hs1 L7 (mo_ri (xs (i + 1))) (show mo_In (0 : Int) by omega) (by rw [e1])) (mo_Md_o hm1) rfl (by decide) (by decide) (Nat.le_of_ble_eq_true rfl) hrm ?_
    rintro v2 G2 M2 t2 ⟨rfl, rfl, b2, rfl, hb⟩
    show mo_V (mo_dr κ dd) (k0 + 1) (n0 + 6) 847 _ [mo_iv b2] _ _ _
    obtain ⟨⟨n2, sv2, s2, LI2⟩, hk4, hkr, hkv⟩ := hfin b2 M2 hb
    refine mo_is6 (pc := 847) X dL_law_847 rfl (by decide) ?_
    refine mo_al2 (pc := 849) X dL_law_849 ?_
    refine mo_callVr (pc := 850) (As := []) X mo_k_L_103 mo_y_yX5_thrown rfl dL_law_850 (ct5_thrown hm1) (mo_Md_o hm1) rfl (by decide) (by decide) (Nat.le_of_ble_eq_true rfl) hrm ?_
    rintro v3 G3 M3 t3 ⟨rfl, rfl, x3, rfl, h3, h4⟩
    subst h4
    obtain rfl : x3 = k := h3.trans hk4
    show mo_V (mo_dr κ dd) (k0 + 1) (n0 + 6) 853 _ [mo_iv x3] _ _ _
    refine mo_il5 (pc := 853) X dL_law_853 ?_
    refine mo_ic_eqS (pc := 855) (tgt := 860) X dL_law_855 (by decide) ?_
    refine mo_il5 (pc := 860) X dL_law_860 ?_
    refine mo_if_ne (pc := 862) (tgt := 877) X dL_law_862 (by decide) (by omega) (fun c_a => ?_) (fun c_a => ?_)
    · refine mo_goto (pc := 877) (tgt := 1890) X dL_law_877 (by decide) ?_
      refine mo_fg4 ?_
      exact next dd hd0 _ _ _ _ _ _ LI2
    refine mo_al3 (pc := 865) X dL_law_865 ?_
    refine mo_iconst (pc := 866) X dL_law_866 ?_
    refine mo_lald (pc := 867) (j := 0) X dL_law_867 ho1 (by decide) (by decide) (by decide) rfl ?_
    rw [hkv c_a]
    refine mo_il6 (pc := 868) X dL_law_868 ?_
    refine mo_i2lB (pc := 870) X dL_law_870 ?_
    refine mo_lcmpS (pc := 871) X dL_law_871 ?_
    refine mo_if_eq (pc := 872) (tgt := 877) X dL_law_872 (by decide) (by decide) (fun c_b => ?_) (fun c_b => absurd rfl c_b)
    refine mo_goto (pc := 877) (tgt := 1890) X dL_law_877 (by decide) ?_
    refine mo_fg4 ?_
    exact next dd hd0 _ _ _ _ _ _ LI2
  · skip
    refine mo_al1 (pc := 796) X dL_law_796 ?_
    refine mo_al0 (pc := 797) X dL_law_797 ?_
    refine mo_il4 (pc := 798) X dL_law_798 ?_
    refine mo_iconst (pc := 800) X dL_law_800 ?_
    refine mo_iadd (pc := 801) X dL_law_801 ?_
    refine mo_sld (pc := 802) (j := i + 1) X hXs hLs (by omega) (by omega) (by omega) dL_law_802 ?_
    refine mo_al0 (pc := 803) X dL_law_803 ?_
    refine mo_il4 (pc := 804) X dL_law_804 ?_
    refine mo_iconst (pc := 806) X dL_law_806 ?_
    refine mo_iadd (pc := 807) X dL_law_807 ?_
    refine mo_sld (pc := 808) (j := i + 2) X hXs hLs (by omega) (by omega) (by omega) dL_law_808 ?_
    refine mo_if_eq (pc := 809) (tgt := 816) X dL_law_809 (by decide) (mo_ri _) (fun c_809 => absurd c_809 hz) (fun c_809 => ?_)
    refine mo_iconst (pc := 812) X dL_law_812 ?_
    refine mo_goto (pc := 813) (tgt := 817) X dL_law_813 (by decide) ?_
    refine mo_al3 (pc := 817) X dL_law_817 ?_
    have hC := ctL_tell (lf := lf) (ρf := ρf) (t := t) (x := x) (out := ou) (val := mo_ow (if ((1 : Int)) = 0 then mo_ms (M (m + 1)) (mo_ff (fun k => decide (mo_fld (M (m + 1)) k 0 = (xs (i + 1)).toInt)) (mo_nk (M (m + 1)))).toNat else mo_hd (M (m + 1)) (mo_ff (fun k => decide (mo_fld (M (m + 1)) k 0 = (xs (i + 1)).toInt)) (mo_nk (M (m + 1)))).toNat) (mo_fld (M (m + 1)) (mo_ff (fun k => decide (mo_fld (M (m + 1)) k 0 = (xs (i + 1)).toInt)) (mo_nk (M (m + 1)))).toNat 1).toNat ((M (m + 1)) 0).toNat) (mo_Ms_o hx) (ct4_tell hlf L3 L8 (by omega) L7 (mo_ri (xs (i + 1))) (show mo_In (1 : Int) by omega) rfl) (fun v G' M' t' h => by
          obtain ⟨⟨h1, -⟩, -, -, -, hu, -⟩ := h
          exact ⟨hu, by rw [h1]; exact L2⟩) (fun E G' M' t' h => by
          obtain ⟨-, -, -, hd⟩ := h
          rcases hd with ⟨e, -⟩ | ⟨e, -⟩
          · exact Or.inl e
          · exact Or.inr e)
    refine mo_callSH (pc := 818) (As := [_, _, _, _]) X Z mo_wm_L_133 mo_wi_yL_tell mo_wz_L mo_wh_yL_tell mo_yy_tell dL_law_818 hC rfl (by decide) (by decide) (Nat.le_of_ble_eq_true rfl) hrm ?_
    rintro v1 G1 M1 t1 ⟨k, rfl, hk⟩
    show mo_V (mo_dr κ dd) (k0 + 1) (n0 + 6) 821 _ [mo_iv k] _ _ _
    obtain ⟨hL1, hfin⟩ := lj_tell (t := t) (A0 := (xs (i + 1)).toInt) (A1 := (1 : Int)) (pl := mo_ff (fun k => decide (mo_fld (M (m + 1)) k 0 = (xs (i + 1)).toInt)) (mo_nk (M (m + 1)))) L rfl rfl rfl rfl hk
    refine mo_is5 (pc := 821) X dL_law_821 rfl (by decide) ?_
    have e0 : M1 m = M m := hL1.2 m (by omega) (by omega)
    have e1 : M1 (m + 1) = M (m + 1) := hL1.2 (m + 1) (by omega) (by omega)
    have hm1 : mo_Md G1 m := mo_Md_f3 hL1.1.1 (hL1.1.2 m (by omega)) L1
    have hI1 : mo_Iv (M1 (m + 1)) B := by rw [e1]; exact L8
    have hs1 : M1 m 2 = sv := by rw [e0]; exact L4
    have ho1 : G1.1 ou = some (.inr (1, 1)) := by rw [hL1.1.1]; exact L2
    refine mo_al2 (pc := 823) X dL_law_823 ?_
    refine mo_al0 (pc := 824) X dL_law_824 ?_
    refine mo_il4 (pc := 825) X dL_law_825 ?_
    refine mo_iconst (pc := 827) X dL_law_827 ?_
    refine mo_iadd (pc := 828) X dL_law_828 ?_
    refine mo_sld (pc := 829) (j := i + 1) X hXs hLs (by omega) (by omega) (by omega) dL_law_829 ?_
    refine mo_al0 (pc := 830) X dL_law_830 ?_
    refine mo_il4 (pc := 831) X dL_law_831 ?_
    refine mo_iconst (pc := 833) X dL_law_833 ?_
    refine mo_iadd (pc := 834) X dL_law_834 ?_
    refine mo_sld (pc := 835) (j := i + 2) X hXs hLs (by omega) (by omega) (by omega) dL_law_835 ?_
    refine mo_if_eq (pc := 836) (tgt := 843) X dL_law_836 (by decide) (mo_ri _) (fun c_836 => absurd c_836 hz) (fun c_836 => ?_)
    refine mo_iconst (pc := 839) X dL_law_839 ?_
    refine mo_goto (pc := 840) (tgt := 844) X dL_law_840 (by decide) ?_
    refine mo_callVr (pc := 844) (As := [_, _]) X mo_k_L_136 mo_y_yX5_tell rfl dL_law_844 (ct5_tell (m := m) (pl := mo_ff (fun k => decide (mo_fld (M (m + 1)) k 0 = (xs (i + 1)).toInt)) (mo_nk (M (m + 1)))) hm1 hI1 (by omega) hs1 L7 (mo_ri (xs (i + 1))) (show mo_In (1 : Int) by omega) (by rw [e1])) (mo_Md_o hm1) rfl (by decide) (by decide) (Nat.le_of_ble_eq_true rfl) hrm ?_
    rintro v2 G2 M2 t2 ⟨rfl, rfl, b2, rfl, hb⟩
    show mo_V (mo_dr κ dd) (k0 + 1) (n0 + 6) 847 _ [mo_iv b2] _ _ _
    obtain ⟨⟨n2, sv2, s2, LI2⟩, hk4, hkr, hkv⟩ := hfin b2 M2 hb
    refine mo_is6 (pc := 847) X dL_law_847 rfl (by decide) ?_
    refine mo_al2 (pc := 849) X dL_law_849 ?_
    refine mo_callVr (pc := 850) (As := []) X mo_k_L_103 mo_y_yX5_thrown rfl dL_law_850 (ct5_thrown hm1) (mo_Md_o hm1) rfl (by decide) (by decide) (Nat.le_of_ble_eq_true rfl) hrm ?_
    rintro v3 G3 M3 t3 ⟨rfl, rfl, x3, rfl, h3, h4⟩
    subst h4
    obtain rfl : x3 = k := h3.trans hk4
    show mo_V (mo_dr κ dd) (k0 + 1) (n0 + 6) 853 _ [mo_iv x3] _ _ _
    refine mo_il5 (pc := 853) X dL_law_853 ?_
    refine mo_ic_eqS (pc := 855) (tgt := 860) X dL_law_855 (by decide) ?_
    refine mo_il5 (pc := 860) X dL_law_860 ?_
    refine mo_if_ne (pc := 862) (tgt := 877) X dL_law_862 (by decide) (by omega) (fun c_a => ?_) (fun c_a => ?_)
    · refine mo_goto (pc := 877) (tgt := 1890) X dL_law_877 (by decide) ?_
      refine mo_fg4 ?_
      exact next dd hd0 _ _ _ _ _ _ LI2
    refine mo_al3 (pc := 865) X dL_law_865 ?_
    refine mo_iconst (pc := 866) X dL_law_866 ?_
    refine mo_lald (pc := 867) (j := 0) X dL_law_867 ho1 (by decide) (by decide) (by decide) rfl ?_
    rw [hkv c_a]
    refine mo_il6 (pc := 868) X dL_law_868 ?_
    refine mo_i2lB (pc := 870) X dL_law_870 ?_
    refine mo_lcmpS (pc := 871) X dL_law_871 ?_
    refine mo_if_eq (pc := 872) (tgt := 877) X dL_law_872 (by decide) (by decide) (fun c_b => ?_) (fun c_b => absurd rfl c_b)
    refine mo_goto (pc := 877) (tgt := 1890) X dL_law_877 (by decide) ?_
    refine mo_fg4 ?_
    exact next dd hd0 _ _ _ _ _ _ LI2
set_option maxHeartbeats 4000000 in
set_option maxRecDepth 100000 in
theorem lc_endWeek {κ : mo_T} {lf : Launch} {ρf : mo_E} {ret : Option FieldType} (hlf : lf.stackTraces = false) {b Ls : Nat} {xs : Nat → Int32} {i x m ou n sv s t k0 n0 : Nat} {B : Int} {G : mo_G} {M : mo_M} {dd : Drawn} {hh : List (Nat × Nat × Nat × Nat)} (X0 : mo_Cx κ lf ρf cL_law 9 RL ret 11) (Z0 : mo_Hx κ hh) (hX0 : mo_Xs κ b Ls xs) (hLs : Ls ≤ 3072) (hi : i + 6 ≤ Ls) (hrm : mo_Rm κ (k0 + 1) (n0 + 6)) (L : mo_LI G M x m ou n sv s B) (hB : B ≤ 3000000) (hd0 : (mo_st κ).drawn.sameBut dd lw_cs) (next : mo_Nxt κ b x m ou i B k0 n0) : mo_V (mo_dr κ dd) k0 n0 880 [some (.ref b), some (.ref x), some (.ref m), some (.ref ou), some (mo_iv (i : Int)), none, none, none, none] [] G M t := by
  have X := mo_Cx_dr X0 dd
  have Z := mo_Hx_dr Z0 dd
  have hXs := mo_Xs_dr hX0 dd
  have hrm : mo_Rm (mo_dr κ dd) (k0 + 1) (n0 + 6) := hrm
  obtain ⟨L1, L2, L3, L4, L5, L6, L7, L8, L9, L10, L11, L12⟩ := id L
  have hx := L3.1
  refine mo_al1 (pc := 880) X dL_law_880 ?_
  refine mo_al3 (pc := 881) X dL_law_881 ?_
  have hC := ctL_endWeek (lf := lf) (ρf := ρf) (t := t) (x := x) (out := ou) (val := mo_eN (M (m + 1))) (mo_Ms_o hx) (ct4_endWeek hlf L3 L8 (by omega) L7 ) (fun v G' M' t' h => by
        obtain ⟨⟨h1, -⟩, -, -, hu, -⟩ := h
        exact ⟨hu, by rw [h1]; exact L2⟩) (fun E G' M' t' h => by
        obtain ⟨-, -, -, e, -⟩ := h
        exact e)
  refine mo_callSH (pc := 882) (As := [_, _]) X Z mo_wm_L_137 mo_wi_yL_endWeek mo_wz_L mo_wh_yL_endWeek mo_yy_endWeek dL_law_882 hC rfl (by decide) (by decide) (Nat.le_of_ble_eq_true rfl) hrm ?_
  rintro v1 G1 M1 t1 ⟨k, rfl, hk⟩
  show mo_V (mo_dr κ dd) (k0 + 1) (n0 + 6) 885 _ [mo_iv k] _ _ _
  obtain ⟨hL1, hfin⟩ := lj_endWeek (t := t)  L rfl rfl rfl hk
  refine mo_is5 (pc := 885) X dL_law_885 rfl (by decide) ?_
  have e0 : M1 m = M m := hL1.2 m (by omega) (by omega)
  have e1 : M1 (m + 1) = M (m + 1) := hL1.2 (m + 1) (by omega) (by omega)
  have hm1 : mo_Md G1 m := mo_Md_f3 hL1.1.1 (hL1.1.2 m (by omega)) L1
  have hI1 : mo_Iv (M1 (m + 1)) B := by rw [e1]; exact L8
  have hs1 : M1 m 2 = sv := by rw [e0]; exact L4
  have ho1 : G1.1 ou = some (.inr (1, 1)) := by rw [hL1.1.1]; exact L2
  refine mo_al2 (pc := 887) X dL_law_887 ?_
  refine mo_callVr (pc := 888) (As := []) X mo_k_L_140 mo_y_yX5_endWeek rfl dL_law_888 (ct5_endWeek (m := m) hm1 hI1 (by omega) hs1 L7 ) (mo_Md_o hm1) rfl (by decide) (by decide) (Nat.le_of_ble_eq_true rfl) hrm ?_
  rintro v2 G2 M2 t2 ⟨rfl, rfl, b2, rfl, hb⟩
  show mo_V (mo_dr κ dd) (k0 + 1) (n0 + 6) 891 _ [mo_iv b2] _ _ _
  obtain ⟨⟨n2, sv2, s2, LI2⟩, hk4, hkr, hkv⟩ := hfin b2 M2 hb
  refine mo_is6 (pc := 891) X dL_law_891 rfl (by decide) ?_
  refine mo_al2 (pc := 893) X dL_law_893 ?_
  refine mo_callVr (pc := 894) (As := []) X mo_k_L_103 mo_y_yX5_thrown rfl dL_law_894 (ct5_thrown hm1) (mo_Md_o hm1) rfl (by decide) (by decide) (Nat.le_of_ble_eq_true rfl) hrm ?_
  rintro v3 G3 M3 t3 ⟨rfl, rfl, x3, rfl, h3, h4⟩
  subst h4
  obtain rfl : x3 = k := h3.trans hk4
  show mo_V (mo_dr κ dd) (k0 + 1) (n0 + 6) 897 _ [mo_iv x3] _ _ _
  refine mo_il5 (pc := 897) X dL_law_897 ?_
  refine mo_ic_eqS (pc := 899) (tgt := 904) X dL_law_899 (by decide) ?_
  refine mo_il5 (pc := 904) X dL_law_904 ?_
  refine mo_if_ne (pc := 906) (tgt := 921) X dL_law_906 (by decide) (by omega) (fun c_a => ?_) (fun c_a => ?_)
  · refine mo_goto (pc := 921) (tgt := 1890) X dL_law_921 (by decide) ?_
    refine mo_fg4 ?_
    exact next dd hd0 _ _ _ _ _ _ LI2
  refine mo_al3 (pc := 909) X dL_law_909 ?_
  refine mo_iconst (pc := 910) X dL_law_910 ?_
  refine mo_lald (pc := 911) (j := 0) X dL_law_911 ho1 (by decide) (by decide) (by decide) rfl ?_
  rw [hkv c_a]
  refine mo_il6 (pc := 912) X dL_law_912 ?_
  refine mo_i2lB (pc := 914) X dL_law_914 ?_
  refine mo_lcmpS (pc := 915) X dL_law_915 ?_
  refine mo_if_eq (pc := 916) (tgt := 921) X dL_law_916 (by decide) (by decide) (fun c_b => ?_) (fun c_b => absurd rfl c_b)
  refine mo_goto (pc := 921) (tgt := 1890) X dL_law_921 (by decide) ?_
  refine mo_fg4 ?_
  exact next dd hd0 _ _ _ _ _ _ LI2
set_option maxHeartbeats 4000000 in
set_option maxRecDepth 100000 in
theorem lc_order {κ : mo_T} {lf : Launch} {ρf : mo_E} {ret : Option FieldType} (hlf : lf.stackTraces = false) {b Ls : Nat} {xs : Nat → Int32} {i x m ou n sv s t k0 n0 : Nat} {B : Int} {G : mo_G} {M : mo_M} {dd : Drawn} {hh : List (Nat × Nat × Nat × Nat)} (X0 : mo_Cx κ lf ρf cL_law 9 RL ret 11) (Z0 : mo_Hx κ hh) (hX0 : mo_Xs κ b Ls xs) (hLs : Ls ≤ 3072) (hi : i + 6 ≤ Ls) (hrm : mo_Rm κ (k0 + 1) (n0 + 6)) (L : mo_LI G M x m ou n sv s B) (hB : B ≤ 3000000) (hd0 : (mo_st κ).drawn.sameBut dd lw_cs) (next : mo_Nxt κ b x m ou i B k0 n0) : mo_V (mo_dr κ dd) k0 n0 924 [some (.ref b), some (.ref x), some (.ref m), some (.ref ou), some (mo_iv (i : Int)), none, none, none, none] [] G M t := by
  have X := mo_Cx_dr X0 dd
  have Z := mo_Hx_dr Z0 dd
  have hXs := mo_Xs_dr hX0 dd
  have hrm : mo_Rm (mo_dr κ dd) (k0 + 1) (n0 + 6) := hrm
  obtain ⟨L1, L2, L3, L4, L5, L6, L7, L8, L9, L10, L11, L12⟩ := id L
  have hx := L3.1
  refine mo_al1 (pc := 924) X dL_law_924 ?_
  refine mo_al0 (pc := 925) X dL_law_925 ?_
  refine mo_il4 (pc := 926) X dL_law_926 ?_
  refine mo_iconst (pc := 928) X dL_law_928 ?_
  refine mo_iadd (pc := 929) X dL_law_929 ?_
  refine mo_sld (pc := 930) (j := i + 1) X hXs hLs (by omega) (by omega) (by omega) dL_law_930 ?_
  refine mo_al0 (pc := 931) X dL_law_931 ?_
  refine mo_il4 (pc := 932) X dL_law_932 ?_
  refine mo_iconst (pc := 934) X dL_law_934 ?_
  refine mo_iadd (pc := 935) X dL_law_935 ?_
  refine mo_sld (pc := 936) (j := i + 2) X hXs hLs (by omega) (by omega) (by omega) dL_law_936 ?_
  refine mo_al3 (pc := 937) X dL_law_937 ?_
  have hC := ctL_order (lf := lf) (ρf := ρf) (t := t) (x := x) (out := ou) (val := mo_ov (M (m + 1)) ((xs (i + 1)).toInt).toNat ((xs (i + 2)).toInt)) (mo_Ms_o hx) (ct4_order hlf hx L3.2.2.1 L8 (by omega) (mo_ri (xs (i + 1))) (mo_ri (xs (i + 2)))) (fun v G' M' t' h => by
        obtain ⟨h1, -, -, -, -, hu⟩ := h
        exact ⟨hu, by rw [h1]; exact L2⟩) (fun E G' M' t' h => by
        obtain ⟨-, -, -, hd⟩ := h
        rcases hd with ⟨e, -⟩ | ⟨e, -⟩
        · exact Or.inl e
        · exact Or.inr e)
  refine mo_callSH (pc := 938) (As := [_, _, _, _]) X Z mo_wm_L_141 mo_wi_yL_order mo_wz_L mo_wh_yL_order mo_yy_order dL_law_938 hC rfl (by decide) (by decide) (Nat.le_of_ble_eq_true rfl) hrm ?_
  rintro v1 G1 M1 t1 ⟨k, rfl, hk⟩
  show mo_V (mo_dr κ dd) (k0 + 1) (n0 + 6) 941 _ [mo_iv k] _ _ _
  obtain ⟨hL1, hfin⟩ := lj_order (t := t) (A0 := (xs (i + 1)).toInt) (A1 := (xs (i + 2)).toInt) L rfl rfl rfl hk
  refine mo_is5 (pc := 941) X dL_law_941 rfl (by decide) ?_
  have e0 : M1 m = M m := hL1.2 m (by omega) (by omega)
  have e1 : M1 (m + 1) = M (m + 1) := hL1.2 (m + 1) (by omega) (by omega)
  have hm1 : mo_Md G1 m := mo_Md_f3 hL1.1.1 (hL1.1.2 m (by omega)) L1
  have hI1 : mo_Iv (M1 (m + 1)) B := by rw [e1]; exact L8
  have hs1 : M1 m 2 = sv := by rw [e0]; exact L4
  have ho1 : G1.1 ou = some (.inr (1, 1)) := by rw [hL1.1.1]; exact L2
  refine mo_al2 (pc := 943) X dL_law_943 ?_
  refine mo_al0 (pc := 944) X dL_law_944 ?_
  refine mo_il4 (pc := 945) X dL_law_945 ?_
  refine mo_iconst (pc := 947) X dL_law_947 ?_
  refine mo_iadd (pc := 948) X dL_law_948 ?_
  refine mo_sld (pc := 949) (j := i + 1) X hXs hLs (by omega) (by omega) (by omega) dL_law_949 ?_
  refine mo_al0 (pc := 950) X dL_law_950 ?_
  refine mo_il4 (pc := 951) X dL_law_951 ?_
  refine mo_iconst (pc := 953) X dL_law_953 ?_
  refine mo_iadd (pc := 954) X dL_law_954 ?_
  refine mo_sld (pc := 955) (j := i + 2) X hXs hLs (by omega) (by omega) (by omega) dL_law_955 ?_
  refine mo_callVr (pc := 956) (As := [_, _]) X mo_k_L_143 mo_y_yX5_order rfl dL_law_956 (ct5_order (m := m) hm1 hI1 (by omega) (mo_ri (xs (i + 1))) (mo_ri (xs (i + 2)))) (mo_Md_o hm1) rfl (by decide) (by decide) (Nat.le_of_ble_eq_true rfl) hrm ?_
  rintro v2 G2 M2 t2 ⟨rfl, rfl, b2, rfl, hb⟩
  show mo_V (mo_dr κ dd) (k0 + 1) (n0 + 6) 959 _ [mo_iv b2] _ _ _
  obtain ⟨⟨n2, sv2, s2, LI2⟩, hk4, hkr, hkv⟩ := hfin b2 M2 hb
  refine mo_is6 (pc := 959) X dL_law_959 rfl (by decide) ?_
  refine mo_al2 (pc := 961) X dL_law_961 ?_
  refine mo_callVr (pc := 962) (As := []) X mo_k_L_103 mo_y_yX5_thrown rfl dL_law_962 (ct5_thrown hm1) (mo_Md_o hm1) rfl (by decide) (by decide) (Nat.le_of_ble_eq_true rfl) hrm ?_
  rintro v3 G3 M3 t3 ⟨rfl, rfl, x3, rfl, h3, h4⟩
  subst h4
  obtain rfl : x3 = k := h3.trans hk4
  show mo_V (mo_dr κ dd) (k0 + 1) (n0 + 6) 965 _ [mo_iv x3] _ _ _
  refine mo_il5 (pc := 965) X dL_law_965 ?_
  refine mo_ic_eqS (pc := 967) (tgt := 972) X dL_law_967 (by decide) ?_
  refine mo_il5 (pc := 972) X dL_law_972 ?_
  refine mo_if_ne (pc := 974) (tgt := 989) X dL_law_974 (by decide) (by omega) (fun c_a => ?_) (fun c_a => ?_)
  · refine mo_goto (pc := 989) (tgt := 1890) X dL_law_989 (by decide) ?_
    refine mo_fg4 ?_
    exact next dd hd0 _ _ _ _ _ _ LI2
  refine mo_al3 (pc := 977) X dL_law_977 ?_
  refine mo_iconst (pc := 978) X dL_law_978 ?_
  refine mo_lald (pc := 979) (j := 0) X dL_law_979 ho1 (by decide) (by decide) (by decide) rfl ?_
  rw [hkv c_a]
  refine mo_il6 (pc := 980) X dL_law_980 ?_
  refine mo_i2lB (pc := 982) X dL_law_982 ?_
  refine mo_lcmpS (pc := 983) X dL_law_983 ?_
  refine mo_if_eq (pc := 984) (tgt := 989) X dL_law_984 (by decide) (by decide) (fun c_b => ?_) (fun c_b => absurd rfl c_b)
  refine mo_goto (pc := 989) (tgt := 1890) X dL_law_989 (by decide) ?_
  refine mo_fg4 ?_
  exact next dd hd0 _ _ _ _ _ _ LI2
set_option maxHeartbeats 4000000 in
set_option maxRecDepth 100000 in
theorem lc_hours {κ : mo_T} {lf : Launch} {ρf : mo_E} {ret : Option FieldType} (hlf : lf.stackTraces = false) {b Ls : Nat} {xs : Nat → Int32} {i x m ou n sv s t k0 n0 : Nat} {B : Int} {G : mo_G} {M : mo_M} {dd : Drawn} {hh : List (Nat × Nat × Nat × Nat)} (X0 : mo_Cx κ lf ρf cL_law 9 RL ret 11) (Z0 : mo_Hx κ hh) (hX0 : mo_Xs κ b Ls xs) (hLs : Ls ≤ 3072) (hi : i + 6 ≤ Ls) (hrm : mo_Rm κ (k0 + 1) (n0 + 6)) (L : mo_LI G M x m ou n sv s B) (hB : B ≤ 3000000) (hd0 : (mo_st κ).drawn.sameBut dd lw_cs) (next : mo_Nxt κ b x m ou i B k0 n0) : mo_V (mo_dr κ dd) k0 n0 992 [some (.ref b), some (.ref x), some (.ref m), some (.ref ou), some (mo_iv (i : Int)), none, none, none, none] [] G M t := by
  have X := mo_Cx_dr X0 dd
  have Z := mo_Hx_dr Z0 dd
  have hXs := mo_Xs_dr hX0 dd
  have hrm : mo_Rm (mo_dr κ dd) (k0 + 1) (n0 + 6) := hrm
  obtain ⟨L1, L2, L3, L4, L5, L6, L7, L8, L9, L10, L11, L12⟩ := id L
  have hx := L3.1
  refine mo_al1 (pc := 992) X dL_law_992 ?_
  refine mo_al0 (pc := 993) X dL_law_993 ?_
  refine mo_il4 (pc := 994) X dL_law_994 ?_
  refine mo_iconst (pc := 996) X dL_law_996 ?_
  refine mo_iadd (pc := 997) X dL_law_997 ?_
  refine mo_sld (pc := 998) (j := i + 1) X hXs hLs (by omega) (by omega) (by omega) dL_law_998 ?_
  refine mo_al0 (pc := 999) X dL_law_999 ?_
  refine mo_il4 (pc := 1000) X dL_law_1000 ?_
  refine mo_iconst (pc := 1002) X dL_law_1002 ?_
  refine mo_iadd (pc := 1003) X dL_law_1003 ?_
  refine mo_sld (pc := 1004) (j := i + 2) X hXs hLs (by omega) (by omega) (by omega) dL_law_1004 ?_
  refine mo_al3 (pc := 1005) X dL_law_1005 ?_
  have hC := ctL_hours (lf := lf) (ρf := ρf) (t := t) (x := x) (out := ou) (val := (M (m + 1)) (8 + 20 * ((xs (i + 1)).toInt).toNat + ((xs (i + 2)).toInt).toNat)) (mo_Ms_o hx) (ct4_hours hlf hx L3.2.2.1 L8 (by omega) (mo_ri (xs (i + 1))) (mo_ri (xs (i + 2)))) (fun v G' M' t' h => by
        obtain ⟨h1, -, -, -, -, hu⟩ := h
        exact ⟨hu, by rw [h1]; exact L2⟩) (fun E G' M' t' h => by
        obtain ⟨-, -, -, hd⟩ := h
        rcases hd with ⟨e, -⟩ | ⟨e, -⟩
        · exact Or.inl e
        · exact Or.inr e)
  refine mo_callSH (pc := 1006) (As := [_, _, _, _]) X Z mo_wm_L_144 mo_wi_yL_hours mo_wz_L mo_wh_yL_hours mo_yy_hours dL_law_1006 hC rfl (by decide) (by decide) (Nat.le_of_ble_eq_true rfl) hrm ?_
  rintro v1 G1 M1 t1 ⟨k, rfl, hk⟩
  show mo_V (mo_dr κ dd) (k0 + 1) (n0 + 6) 1009 _ [mo_iv k] _ _ _
  obtain ⟨hL1, hfin⟩ := lj_hours (t := t) (A0 := (xs (i + 1)).toInt) (A1 := (xs (i + 2)).toInt) L rfl rfl rfl hk
  refine mo_is5 (pc := 1009) X dL_law_1009 rfl (by decide) ?_
  have e0 : M1 m = M m := hL1.2 m (by omega) (by omega)
  have e1 : M1 (m + 1) = M (m + 1) := hL1.2 (m + 1) (by omega) (by omega)
  have hm1 : mo_Md G1 m := mo_Md_f3 hL1.1.1 (hL1.1.2 m (by omega)) L1
  have hI1 : mo_Iv (M1 (m + 1)) B := by rw [e1]; exact L8
  have hs1 : M1 m 2 = sv := by rw [e0]; exact L4
  have ho1 : G1.1 ou = some (.inr (1, 1)) := by rw [hL1.1.1]; exact L2
  refine mo_al2 (pc := 1011) X dL_law_1011 ?_
  refine mo_al0 (pc := 1012) X dL_law_1012 ?_
  refine mo_il4 (pc := 1013) X dL_law_1013 ?_
  refine mo_iconst (pc := 1015) X dL_law_1015 ?_
  refine mo_iadd (pc := 1016) X dL_law_1016 ?_
  refine mo_sld (pc := 1017) (j := i + 1) X hXs hLs (by omega) (by omega) (by omega) dL_law_1017 ?_
  refine mo_al0 (pc := 1018) X dL_law_1018 ?_
  refine mo_il4 (pc := 1019) X dL_law_1019 ?_
  refine mo_iconst (pc := 1021) X dL_law_1021 ?_
  refine mo_iadd (pc := 1022) X dL_law_1022 ?_
  refine mo_sld (pc := 1023) (j := i + 2) X hXs hLs (by omega) (by omega) (by omega) dL_law_1023 ?_
  refine mo_callVr (pc := 1024) (As := [_, _]) X mo_k_L_146 mo_y_yX5_hours rfl dL_law_1024 (ct5_hours (m := m) hm1 hI1 (by omega) (mo_ri (xs (i + 1))) (mo_ri (xs (i + 2)))) (mo_Md_o hm1) rfl (by decide) (by decide) (Nat.le_of_ble_eq_true rfl) hrm ?_
  rintro v2 G2 M2 t2 ⟨rfl, rfl, b2, rfl, hb⟩
  show mo_V (mo_dr κ dd) (k0 + 1) (n0 + 6) 1027 _ [mo_iv b2] _ _ _
  obtain ⟨⟨n2, sv2, s2, LI2⟩, hk4, hkr, hkv⟩ := hfin b2 M2 hb
  refine mo_is6 (pc := 1027) X dL_law_1027 rfl (by decide) ?_
  refine mo_al2 (pc := 1029) X dL_law_1029 ?_
  refine mo_callVr (pc := 1030) (As := []) X mo_k_L_103 mo_y_yX5_thrown rfl dL_law_1030 (ct5_thrown hm1) (mo_Md_o hm1) rfl (by decide) (by decide) (Nat.le_of_ble_eq_true rfl) hrm ?_
  rintro v3 G3 M3 t3 ⟨rfl, rfl, x3, rfl, h3, h4⟩
  subst h4
  obtain rfl : x3 = k := h3.trans hk4
  show mo_V (mo_dr κ dd) (k0 + 1) (n0 + 6) 1033 _ [mo_iv x3] _ _ _
  refine mo_il5 (pc := 1033) X dL_law_1033 ?_
  refine mo_ic_eqS (pc := 1035) (tgt := 1040) X dL_law_1035 (by decide) ?_
  refine mo_il5 (pc := 1040) X dL_law_1040 ?_
  refine mo_if_ne (pc := 1042) (tgt := 1057) X dL_law_1042 (by decide) (by omega) (fun c_a => ?_) (fun c_a => ?_)
  · refine mo_goto (pc := 1057) (tgt := 1890) X dL_law_1057 (by decide) ?_
    refine mo_fg4 ?_
    exact next dd hd0 _ _ _ _ _ _ LI2
  refine mo_al3 (pc := 1045) X dL_law_1045 ?_
  refine mo_iconst (pc := 1046) X dL_law_1046 ?_
  refine mo_lald (pc := 1047) (j := 0) X dL_law_1047 ho1 (by decide) (by decide) (by decide) rfl ?_
  rw [hkv c_a]
  refine mo_il6 (pc := 1048) X dL_law_1048 ?_
  refine mo_i2lB (pc := 1050) X dL_law_1050 ?_
  refine mo_lcmpS (pc := 1051) X dL_law_1051 ?_
  refine mo_if_eq (pc := 1052) (tgt := 1057) X dL_law_1052 (by decide) (by decide) (fun c_b => ?_) (fun c_b => absurd rfl c_b)
  refine mo_goto (pc := 1057) (tgt := 1890) X dL_law_1057 (by decide) ?_
  refine mo_fg4 ?_
  exact next dd hd0 _ _ _ _ _ _ LI2
set_option maxHeartbeats 4000000 in
set_option maxRecDepth 100000 in
theorem lc_owed {κ : mo_T} {lf : Launch} {ρf : mo_E} {ret : Option FieldType} (hlf : lf.stackTraces = false) {b Ls : Nat} {xs : Nat → Int32} {i x m ou n sv s t k0 n0 : Nat} {B : Int} {G : mo_G} {M : mo_M} {dd : Drawn} {hh : List (Nat × Nat × Nat × Nat)} (X0 : mo_Cx κ lf ρf cL_law 9 RL ret 11) (Z0 : mo_Hx κ hh) (hX0 : mo_Xs κ b Ls xs) (hLs : Ls ≤ 3072) (hi : i + 6 ≤ Ls) (hrm : mo_Rm κ (k0 + 1) (n0 + 6)) (L : mo_LI G M x m ou n sv s B) (hB : B ≤ 3000000) (hd0 : (mo_st κ).drawn.sameBut dd lw_cs) (next : mo_Nxt κ b x m ou i B k0 n0) : mo_V (mo_dr κ dd) k0 n0 1060 [some (.ref b), some (.ref x), some (.ref m), some (.ref ou), some (mo_iv (i : Int)), none, none, none, none] [] G M t := by
  have X := mo_Cx_dr X0 dd
  have Z := mo_Hx_dr Z0 dd
  have hXs := mo_Xs_dr hX0 dd
  have hrm : mo_Rm (mo_dr κ dd) (k0 + 1) (n0 + 6) := hrm
  obtain ⟨L1, L2, L3, L4, L5, L6, L7, L8, L9, L10, L11, L12⟩ := id L
  have hx := L3.1
  refine mo_al1 (pc := 1060) X dL_law_1060 ?_
  refine mo_al0 (pc := 1061) X dL_law_1061 ?_
  refine mo_il4 (pc := 1062) X dL_law_1062 ?_
  refine mo_iconst (pc := 1064) X dL_law_1064 ?_
  refine mo_iadd (pc := 1065) X dL_law_1065 ?_
  refine mo_sld (pc := 1066) (j := i + 1) X hXs hLs (by omega) (by omega) (by omega) dL_law_1066 ?_
  refine mo_al0 (pc := 1067) X dL_law_1067 ?_
  refine mo_il4 (pc := 1068) X dL_law_1068 ?_
  refine mo_iconst (pc := 1070) X dL_law_1070 ?_
  refine mo_iadd (pc := 1071) X dL_law_1071 ?_
  refine mo_sld (pc := 1072) (j := i + 2) X hXs hLs (by omega) (by omega) (by omega) dL_law_1072 ?_
  refine mo_al3 (pc := 1073) X dL_law_1073 ?_
  have hC := ctL_owed (lf := lf) (ρf := ρf) (t := t) (x := x) (out := ou) (val := mo_ow (M (m + 1)) ((xs (i + 1)).toInt).toNat ((xs (i + 2)).toInt).toNat) (mo_Ms_o hx) (ct4_owed hlf hx L3.2.2.1 L8 (by omega) (mo_ri (xs (i + 1))) (mo_ri (xs (i + 2)))) (fun v G' M' t' h => by
        obtain ⟨h1, -, -, -, -, hu⟩ := h
        exact ⟨hu, by rw [h1]; exact L2⟩) (fun E G' M' t' h => by
        obtain ⟨-, -, -, hd⟩ := h
        rcases hd with ⟨e, -⟩ | ⟨e, -⟩
        · exact Or.inl e
        · exact Or.inr e)
  refine mo_callSH (pc := 1074) (As := [_, _, _, _]) X Z mo_wm_L_147 mo_wi_yL_owed mo_wz_L mo_wh_yL_owed mo_yy_owed dL_law_1074 hC rfl (by decide) (by decide) (Nat.le_of_ble_eq_true rfl) hrm ?_
  rintro v1 G1 M1 t1 ⟨k, rfl, hk⟩
  show mo_V (mo_dr κ dd) (k0 + 1) (n0 + 6) 1077 _ [mo_iv k] _ _ _
  obtain ⟨hL1, hfin⟩ := lj_owed (t := t) (A0 := (xs (i + 1)).toInt) (A1 := (xs (i + 2)).toInt) L rfl rfl rfl hk
  refine mo_is5 (pc := 1077) X dL_law_1077 rfl (by decide) ?_
  have e0 : M1 m = M m := hL1.2 m (by omega) (by omega)
  have e1 : M1 (m + 1) = M (m + 1) := hL1.2 (m + 1) (by omega) (by omega)
  have hm1 : mo_Md G1 m := mo_Md_f3 hL1.1.1 (hL1.1.2 m (by omega)) L1
  have hI1 : mo_Iv (M1 (m + 1)) B := by rw [e1]; exact L8
  have hs1 : M1 m 2 = sv := by rw [e0]; exact L4
  have ho1 : G1.1 ou = some (.inr (1, 1)) := by rw [hL1.1.1]; exact L2
  refine mo_al2 (pc := 1079) X dL_law_1079 ?_
  refine mo_al0 (pc := 1080) X dL_law_1080 ?_
  refine mo_il4 (pc := 1081) X dL_law_1081 ?_
  refine mo_iconst (pc := 1083) X dL_law_1083 ?_
  refine mo_iadd (pc := 1084) X dL_law_1084 ?_
  refine mo_sld (pc := 1085) (j := i + 1) X hXs hLs (by omega) (by omega) (by omega) dL_law_1085 ?_
  refine mo_al0 (pc := 1086) X dL_law_1086 ?_
  refine mo_il4 (pc := 1087) X dL_law_1087 ?_
  refine mo_iconst (pc := 1089) X dL_law_1089 ?_
  refine mo_iadd (pc := 1090) X dL_law_1090 ?_
  refine mo_sld (pc := 1091) (j := i + 2) X hXs hLs (by omega) (by omega) (by omega) dL_law_1091 ?_
  refine mo_callVr (pc := 1092) (As := [_, _]) X mo_k_L_149 mo_y_yX5_owed rfl dL_law_1092 (ct5_owed (m := m) hm1 hI1 (by omega) (mo_ri (xs (i + 1))) (mo_ri (xs (i + 2)))) (mo_Md_o hm1) rfl (by decide) (by decide) (Nat.le_of_ble_eq_true rfl) hrm ?_
  rintro v2 G2 M2 t2 ⟨rfl, rfl, b2, rfl, hb⟩
  show mo_V (mo_dr κ dd) (k0 + 1) (n0 + 6) 1095 _ [mo_iv b2] _ _ _
  obtain ⟨⟨n2, sv2, s2, LI2⟩, hk4, hkr, hkv⟩ := hfin b2 M2 hb
  refine mo_is6 (pc := 1095) X dL_law_1095 rfl (by decide) ?_
  refine mo_al2 (pc := 1097) X dL_law_1097 ?_
  refine mo_callVr (pc := 1098) (As := []) X mo_k_L_103 mo_y_yX5_thrown rfl dL_law_1098 (ct5_thrown hm1) (mo_Md_o hm1) rfl (by decide) (by decide) (Nat.le_of_ble_eq_true rfl) hrm ?_
  rintro v3 G3 M3 t3 ⟨rfl, rfl, x3, rfl, h3, h4⟩
  subst h4
  obtain rfl : x3 = k := h3.trans hk4
  show mo_V (mo_dr κ dd) (k0 + 1) (n0 + 6) 1101 _ [mo_iv x3] _ _ _
  refine mo_il5 (pc := 1101) X dL_law_1101 ?_
  refine mo_ic_eqS (pc := 1103) (tgt := 1108) X dL_law_1103 (by decide) ?_
  refine mo_il5 (pc := 1108) X dL_law_1108 ?_
  refine mo_if_ne (pc := 1110) (tgt := 1125) X dL_law_1110 (by decide) (by omega) (fun c_a => ?_) (fun c_a => ?_)
  · refine mo_goto (pc := 1125) (tgt := 1890) X dL_law_1125 (by decide) ?_
    refine mo_fg4 ?_
    exact next dd hd0 _ _ _ _ _ _ LI2
  refine mo_al3 (pc := 1113) X dL_law_1113 ?_
  refine mo_iconst (pc := 1114) X dL_law_1114 ?_
  refine mo_lald (pc := 1115) (j := 0) X dL_law_1115 ho1 (by decide) (by decide) (by decide) rfl ?_
  rw [hkv c_a]
  refine mo_il6 (pc := 1116) X dL_law_1116 ?_
  refine mo_i2lB (pc := 1118) X dL_law_1118 ?_
  refine mo_lcmpS (pc := 1119) X dL_law_1119 ?_
  refine mo_if_eq (pc := 1120) (tgt := 1125) X dL_law_1120 (by decide) (by decide) (fun c_b => ?_) (fun c_b => absurd rfl c_b)
  refine mo_goto (pc := 1125) (tgt := 1890) X dL_law_1125 (by decide) ?_
  refine mo_fg4 ?_
  exact next dd hd0 _ _ _ _ _ _ LI2
set_option maxHeartbeats 4000000 in
set_option maxRecDepth 100000 in
theorem lc_meeting {κ : mo_T} {lf : Launch} {ρf : mo_E} {ret : Option FieldType} (hlf : lf.stackTraces = false) {b Ls : Nat} {xs : Nat → Int32} {i x m ou n sv s t k0 n0 : Nat} {B : Int} {G : mo_G} {M : mo_M} {dd : Drawn} {hh : List (Nat × Nat × Nat × Nat)} (X0 : mo_Cx κ lf ρf cL_law 9 RL ret 11) (Z0 : mo_Hx κ hh) (hX0 : mo_Xs κ b Ls xs) (hLs : Ls ≤ 3072) (hi : i + 6 ≤ Ls) (hrm : mo_Rm κ (k0 + 1) (n0 + 6)) (L : mo_LI G M x m ou n sv s B) (hB : B ≤ 3000000) (hd0 : (mo_st κ).drawn.sameBut dd lw_cs) (next : mo_Nxt κ b x m ou i B k0 n0) : mo_V (mo_dr κ dd) k0 n0 1128 [some (.ref b), some (.ref x), some (.ref m), some (.ref ou), some (mo_iv (i : Int)), none, none, none, none] [] G M t := by
  have X := mo_Cx_dr X0 dd
  have Z := mo_Hx_dr Z0 dd
  have hXs := mo_Xs_dr hX0 dd
  have hrm : mo_Rm (mo_dr κ dd) (k0 + 1) (n0 + 6) := hrm
  obtain ⟨L1, L2, L3, L4, L5, L6, L7, L8, L9, L10, L11, L12⟩ := id L
  have hx := L3.1
  refine mo_al1 (pc := 1128) X dL_law_1128 ?_
  refine mo_al0 (pc := 1129) X dL_law_1129 ?_
  refine mo_il4 (pc := 1130) X dL_law_1130 ?_
  refine mo_iconst (pc := 1132) X dL_law_1132 ?_
  refine mo_iadd (pc := 1133) X dL_law_1133 ?_
  refine mo_sld (pc := 1134) (j := i + 1) X hXs hLs (by omega) (by omega) (by omega) dL_law_1134 ?_
  refine mo_al0 (pc := 1135) X dL_law_1135 ?_
  refine mo_il4 (pc := 1136) X dL_law_1136 ?_
  refine mo_iconst (pc := 1138) X dL_law_1138 ?_
  refine mo_iadd (pc := 1139) X dL_law_1139 ?_
  refine mo_sld (pc := 1140) (j := i + 2) X hXs hLs (by omega) (by omega) (by omega) dL_law_1140 ?_
  refine mo_al3 (pc := 1141) X dL_law_1141 ?_
  have hC := ctL_meeting (lf := lf) (ρf := ρf) (t := t) (x := x) (out := ou) (val := mo_fld (M (m + 1)) (mo_ff (fun k => decide (mo_fld (M (m + 1)) k 0 = (xs (i + 1)).toInt)) (mo_nk (M (m + 1)))).toNat (((xs (i + 2)).toInt).toNat + 1)) (mo_Ms_o hx) (ct4_meeting hlf hx L3.2.2.1 L8 (by omega) (mo_ri (xs (i + 1))) (mo_ri (xs (i + 2))) rfl) (fun v G' M' t' h => by
        obtain ⟨h1, -, -, -, -, hu⟩ := h
        exact ⟨hu, by rw [h1]; exact L2⟩) (fun E G' M' t' h => by
        obtain ⟨-, -, -, hd⟩ := h
        rcases hd with ⟨e, -⟩ | ⟨e, -⟩
        · exact Or.inl e
        · exact Or.inr e)
  refine mo_callSH (pc := 1142) (As := [_, _, _, _]) X Z mo_wm_L_150 mo_wi_yL_meeting mo_wz_L mo_wh_yL_meeting mo_yy_meeting dL_law_1142 hC rfl (by decide) (by decide) (Nat.le_of_ble_eq_true rfl) hrm ?_
  rintro v1 G1 M1 t1 ⟨k, rfl, hk⟩
  show mo_V (mo_dr κ dd) (k0 + 1) (n0 + 6) 1145 _ [mo_iv k] _ _ _
  obtain ⟨hL1, hfin⟩ := lj_meeting (t := t) (A0 := (xs (i + 1)).toInt) (A1 := (xs (i + 2)).toInt) (pl := mo_ff (fun k => decide (mo_fld (M (m + 1)) k 0 = (xs (i + 1)).toInt)) (mo_nk (M (m + 1)))) L rfl rfl rfl rfl hk
  refine mo_is5 (pc := 1145) X dL_law_1145 rfl (by decide) ?_
  have e0 : M1 m = M m := hL1.2 m (by omega) (by omega)
  have e1 : M1 (m + 1) = M (m + 1) := hL1.2 (m + 1) (by omega) (by omega)
  have hm1 : mo_Md G1 m := mo_Md_f3 hL1.1.1 (hL1.1.2 m (by omega)) L1
  have hI1 : mo_Iv (M1 (m + 1)) B := by rw [e1]; exact L8
  have hs1 : M1 m 2 = sv := by rw [e0]; exact L4
  have ho1 : G1.1 ou = some (.inr (1, 1)) := by rw [hL1.1.1]; exact L2
  refine mo_al2 (pc := 1147) X dL_law_1147 ?_
  refine mo_al0 (pc := 1148) X dL_law_1148 ?_
  refine mo_il4 (pc := 1149) X dL_law_1149 ?_
  refine mo_iconst (pc := 1151) X dL_law_1151 ?_
  refine mo_iadd (pc := 1152) X dL_law_1152 ?_
  refine mo_sld (pc := 1153) (j := i + 1) X hXs hLs (by omega) (by omega) (by omega) dL_law_1153 ?_
  refine mo_al0 (pc := 1154) X dL_law_1154 ?_
  refine mo_il4 (pc := 1155) X dL_law_1155 ?_
  refine mo_iconst (pc := 1157) X dL_law_1157 ?_
  refine mo_iadd (pc := 1158) X dL_law_1158 ?_
  refine mo_sld (pc := 1159) (j := i + 2) X hXs hLs (by omega) (by omega) (by omega) dL_law_1159 ?_
  refine mo_callVr (pc := 1160) (As := [_, _]) X mo_k_L_152 mo_y_yX5_meeting rfl dL_law_1160 (ct5_meeting (m := m) (pl := mo_ff (fun k => decide (mo_fld (M (m + 1)) k 0 = (xs (i + 1)).toInt)) (mo_nk (M (m + 1)))) hm1 hI1 (by omega) (mo_ri (xs (i + 1))) (mo_ri (xs (i + 2))) (by rw [e1])) (mo_Md_o hm1) rfl (by decide) (by decide) (Nat.le_of_ble_eq_true rfl) hrm ?_
  rintro v2 G2 M2 t2 ⟨rfl, rfl, b2, rfl, hb⟩
  show mo_V (mo_dr κ dd) (k0 + 1) (n0 + 6) 1163 _ [mo_iv b2] _ _ _
  obtain ⟨⟨n2, sv2, s2, LI2⟩, hk4, hkr, hkv⟩ := hfin b2 M2 hb
  refine mo_is6 (pc := 1163) X dL_law_1163 rfl (by decide) ?_
  refine mo_al2 (pc := 1165) X dL_law_1165 ?_
  refine mo_callVr (pc := 1166) (As := []) X mo_k_L_103 mo_y_yX5_thrown rfl dL_law_1166 (ct5_thrown hm1) (mo_Md_o hm1) rfl (by decide) (by decide) (Nat.le_of_ble_eq_true rfl) hrm ?_
  rintro v3 G3 M3 t3 ⟨rfl, rfl, x3, rfl, h3, h4⟩
  subst h4
  obtain rfl : x3 = k := h3.trans hk4
  show mo_V (mo_dr κ dd) (k0 + 1) (n0 + 6) 1169 _ [mo_iv x3] _ _ _
  refine mo_il5 (pc := 1169) X dL_law_1169 ?_
  refine mo_ic_eqS (pc := 1171) (tgt := 1176) X dL_law_1171 (by decide) ?_
  refine mo_il5 (pc := 1176) X dL_law_1176 ?_
  refine mo_if_ne (pc := 1178) (tgt := 1193) X dL_law_1178 (by decide) (by omega) (fun c_a => ?_) (fun c_a => ?_)
  · refine mo_goto (pc := 1193) (tgt := 1890) X dL_law_1193 (by decide) ?_
    refine mo_fg4 ?_
    exact next dd hd0 _ _ _ _ _ _ LI2
  refine mo_al3 (pc := 1181) X dL_law_1181 ?_
  refine mo_iconst (pc := 1182) X dL_law_1182 ?_
  refine mo_lald (pc := 1183) (j := 0) X dL_law_1183 ho1 (by decide) (by decide) (by decide) rfl ?_
  rw [hkv c_a]
  refine mo_il6 (pc := 1184) X dL_law_1184 ?_
  refine mo_i2lB (pc := 1186) X dL_law_1186 ?_
  refine mo_lcmpS (pc := 1187) X dL_law_1187 ?_
  refine mo_if_eq (pc := 1188) (tgt := 1193) X dL_law_1188 (by decide) (by decide) (fun c_b => ?_) (fun c_b => absurd rfl c_b)
  refine mo_goto (pc := 1193) (tgt := 1890) X dL_law_1193 (by decide) ?_
  refine mo_fg4 ?_
  exact next dd hd0 _ _ _ _ _ _ LI2
set_option maxHeartbeats 4000000 in
set_option maxRecDepth 100000 in
theorem lc_escort {κ : mo_T} {lf : Launch} {ρf : mo_E} {ret : Option FieldType} (hlf : lf.stackTraces = false) {b Ls : Nat} {xs : Nat → Int32} {i x m ou n sv s t k0 n0 : Nat} {B : Int} {G : mo_G} {M : mo_M} {dd : Drawn} {hh : List (Nat × Nat × Nat × Nat)} (X0 : mo_Cx κ lf ρf cL_law 9 RL ret 11) (Z0 : mo_Hx κ hh) (hX0 : mo_Xs κ b Ls xs) (hLs : Ls ≤ 3072) (hi : i + 6 ≤ Ls) (hrm : mo_Rm κ (k0 + 1) (n0 + 6)) (L : mo_LI G M x m ou n sv s B) (hB : B ≤ 3000000) (hd0 : (mo_st κ).drawn.sameBut dd lw_cs) (next : mo_Nxt κ b x m ou i B k0 n0) : mo_V (mo_dr κ dd) k0 n0 1196 [some (.ref b), some (.ref x), some (.ref m), some (.ref ou), some (mo_iv (i : Int)), none, none, none, none] [] G M t := by
  have X := mo_Cx_dr X0 dd
  have Z := mo_Hx_dr Z0 dd
  have hXs := mo_Xs_dr hX0 dd
  have hrm : mo_Rm (mo_dr κ dd) (k0 + 1) (n0 + 6) := hrm
  obtain ⟨L1, L2, L3, L4, L5, L6, L7, L8, L9, L10, L11, L12⟩ := id L
  have hx := L3.1
  refine mo_al1 (pc := 1196) X dL_law_1196 ?_
  refine mo_al0 (pc := 1197) X dL_law_1197 ?_
  refine mo_il4 (pc := 1198) X dL_law_1198 ?_
  refine mo_iconst (pc := 1200) X dL_law_1200 ?_
  refine mo_iadd (pc := 1201) X dL_law_1201 ?_
  refine mo_sld (pc := 1202) (j := i + 1) X hXs hLs (by omega) (by omega) (by omega) dL_law_1202 ?_
  refine mo_al0 (pc := 1203) X dL_law_1203 ?_
  refine mo_il4 (pc := 1204) X dL_law_1204 ?_
  refine mo_iconst (pc := 1206) X dL_law_1206 ?_
  refine mo_iadd (pc := 1207) X dL_law_1207 ?_
  refine mo_sld (pc := 1208) (j := i + 2) X hXs hLs (by omega) (by omega) (by omega) dL_law_1208 ?_
  refine mo_al3 (pc := 1209) X dL_law_1209 ?_
  have hC := ctL_escort (lf := lf) (ρf := ρf) (t := t) (x := x) (out := ou) (val := mo_ev (M (m + 1)) ((xs (i + 1)).toInt).toNat ((xs (i + 2)).toInt)) (mo_Ms_o hx) (ct4_escort hlf hx L3.2.2.1 L8 (by omega) (mo_ri (xs (i + 1))) (mo_ri (xs (i + 2)))) (fun v G' M' t' h => by
        obtain ⟨h1, -, -, -, -, hu⟩ := h
        exact ⟨hu, by rw [h1]; exact L2⟩) (fun E G' M' t' h => by
        obtain ⟨-, -, -, hd⟩ := h
        rcases hd with ⟨e, -⟩ | ⟨e, -⟩
        · exact Or.inl e
        · exact Or.inr e)
  refine mo_callSH (pc := 1210) (As := [_, _, _, _]) X Z mo_wm_L_153 mo_wi_yL_escort mo_wz_L mo_wh_yL_escort mo_yy_escort dL_law_1210 hC rfl (by decide) (by decide) (Nat.le_of_ble_eq_true rfl) hrm ?_
  rintro v1 G1 M1 t1 ⟨k, rfl, hk⟩
  show mo_V (mo_dr κ dd) (k0 + 1) (n0 + 6) 1213 _ [mo_iv k] _ _ _
  obtain ⟨hL1, hfin⟩ := lj_escort (t := t) (A0 := (xs (i + 1)).toInt) (A1 := (xs (i + 2)).toInt) L rfl rfl rfl hk
  refine mo_is5 (pc := 1213) X dL_law_1213 rfl (by decide) ?_
  have e0 : M1 m = M m := hL1.2 m (by omega) (by omega)
  have e1 : M1 (m + 1) = M (m + 1) := hL1.2 (m + 1) (by omega) (by omega)
  have hm1 : mo_Md G1 m := mo_Md_f3 hL1.1.1 (hL1.1.2 m (by omega)) L1
  have hI1 : mo_Iv (M1 (m + 1)) B := by rw [e1]; exact L8
  have hs1 : M1 m 2 = sv := by rw [e0]; exact L4
  have ho1 : G1.1 ou = some (.inr (1, 1)) := by rw [hL1.1.1]; exact L2
  refine mo_al2 (pc := 1215) X dL_law_1215 ?_
  refine mo_al0 (pc := 1216) X dL_law_1216 ?_
  refine mo_il4 (pc := 1217) X dL_law_1217 ?_
  refine mo_iconst (pc := 1219) X dL_law_1219 ?_
  refine mo_iadd (pc := 1220) X dL_law_1220 ?_
  refine mo_sld (pc := 1221) (j := i + 1) X hXs hLs (by omega) (by omega) (by omega) dL_law_1221 ?_
  refine mo_al0 (pc := 1222) X dL_law_1222 ?_
  refine mo_il4 (pc := 1223) X dL_law_1223 ?_
  refine mo_iconst (pc := 1225) X dL_law_1225 ?_
  refine mo_iadd (pc := 1226) X dL_law_1226 ?_
  refine mo_sld (pc := 1227) (j := i + 2) X hXs hLs (by omega) (by omega) (by omega) dL_law_1227 ?_
  refine mo_callVr (pc := 1228) (As := [_, _]) X mo_k_L_155 mo_y_yX5_escort rfl dL_law_1228 (ct5_escort (m := m) hm1 hI1 (by omega) (mo_ri (xs (i + 1))) (mo_ri (xs (i + 2)))) (mo_Md_o hm1) rfl (by decide) (by decide) (Nat.le_of_ble_eq_true rfl) hrm ?_
  rintro v2 G2 M2 t2 ⟨rfl, rfl, b2, rfl, hb⟩
  show mo_V (mo_dr κ dd) (k0 + 1) (n0 + 6) 1231 _ [mo_iv b2] _ _ _
  obtain ⟨⟨n2, sv2, s2, LI2⟩, hk4, hkr, hkv⟩ := hfin b2 M2 hb
  refine mo_is6 (pc := 1231) X dL_law_1231 rfl (by decide) ?_
  refine mo_al2 (pc := 1233) X dL_law_1233 ?_
  refine mo_callVr (pc := 1234) (As := []) X mo_k_L_103 mo_y_yX5_thrown rfl dL_law_1234 (ct5_thrown hm1) (mo_Md_o hm1) rfl (by decide) (by decide) (Nat.le_of_ble_eq_true rfl) hrm ?_
  rintro v3 G3 M3 t3 ⟨rfl, rfl, x3, rfl, h3, h4⟩
  subst h4
  obtain rfl : x3 = k := h3.trans hk4
  show mo_V (mo_dr κ dd) (k0 + 1) (n0 + 6) 1237 _ [mo_iv x3] _ _ _
  refine mo_il5 (pc := 1237) X dL_law_1237 ?_
  refine mo_ic_eqS (pc := 1239) (tgt := 1244) X dL_law_1239 (by decide) ?_
  refine mo_il5 (pc := 1244) X dL_law_1244 ?_
  refine mo_if_ne (pc := 1246) (tgt := 1261) X dL_law_1246 (by decide) (by omega) (fun c_a => ?_) (fun c_a => ?_)
  · refine mo_goto (pc := 1261) (tgt := 1890) X dL_law_1261 (by decide) ?_
    refine mo_fg4 ?_
    exact next dd hd0 _ _ _ _ _ _ LI2
  refine mo_al3 (pc := 1249) X dL_law_1249 ?_
  refine mo_iconst (pc := 1250) X dL_law_1250 ?_
  refine mo_lald (pc := 1251) (j := 0) X dL_law_1251 ho1 (by decide) (by decide) (by decide) rfl ?_
  rw [hkv c_a]
  refine mo_il6 (pc := 1252) X dL_law_1252 ?_
  refine mo_i2lB (pc := 1254) X dL_law_1254 ?_
  refine mo_lcmpS (pc := 1255) X dL_law_1255 ?_
  refine mo_if_eq (pc := 1256) (tgt := 1261) X dL_law_1256 (by decide) (by decide) (fun c_b => ?_) (fun c_b => absurd rfl c_b)
  refine mo_goto (pc := 1261) (tgt := 1890) X dL_law_1261 (by decide) ?_
  refine mo_fg4 ?_
  exact next dd hd0 _ _ _ _ _ _ LI2
