set_option maxHeartbeats 4000000 in
set_option maxRecDepth 100000 in
theorem lc_alike {K : KC} {E : GE} {X : XT} {b N : Nat} {f : Nat → Int} {x m o t k n : Nat} {w : Wd} (LX : LawX K E X b N f) (ht : 5 * t + 5 ≤ N) (hI : INV x m o t w) (hk : k + 2000 ≤ 793047) (hn : n + 80000 ≤ 6722339) (kk : ∀ w', INV x m o (t + 1) w' → G E X 7 2220 (LL b x m o t) [] w' (k + 2000) (n + 80000)) : G E X 7 820 (LL b x m o t) [] w k n := by
  obtain ⟨C, hT, hH, hls, ⟨hRf, hRl, hRc, hRs⟩, hS⟩ := LX
  have hf := hS.2.2.2.1
  have hN := hS.2.2.2.2
  obtain ⟨τ, ad, bs, ss, pb, P, Q, ct, A, th, ba, st, pm, le, ri, sp, cm, hC, hM, hx, ho, ⟨n0, s0, hO0⟩, hg, hr⟩ := hI
  subst hx
  refine g_wf (fun hwf => ?_)
  refine g_aload_n C dL_law_820 rfl ?_
  refine g_aload_n C dL_law_821 rfl ?_
  refine g_iload C dL_law_822 rfl ?_
  refine g_iconst C dL_law_824 ?_
  refine g_iadd C dL_law_825 ?_
  refine g_sld (5 * t + 1) C hS (by omega) (by omega) dL_law_826 ?_
  refine g_aload_n C dL_law_827 rfl ?_
  refine x_callH C hT hH (w_L_alike _ hls hC ho hO0 (hf (5 * t + 1))) ml_RL_220 sm_yL_alike in_RL co_yL_alike hd_L_alike rfl ⟨by omega, by omega⟩ rfl (Nat.le_of_ble_eq_true rfl) ⟨by omega, by omega⟩ dL_law_828 (fun v1 w1 hp => ?_)
  refine g_wf (fun hwf1 => ?_)
  obtain ⟨⟨k1, hv1, hk1⟩, hcalm⟩ := a_alike hC ho ⟨n0, s0, hO0⟩ hp
  subst hv1
  have hkm : KM τ w w1 := by
    obtain ⟨_, _, _, _, _, _, q, _⟩ := hcalm
    exact q
  have hM1 := hM.keep hkm.2
  refine g_istore C dL_law_831 (by decide) rfl ?_
  refine g_aload_n C dL_law_833 rfl ?_
  refine g_aload_n C dL_law_834 rfl ?_
  refine g_iload C dL_law_835 rfl ?_
  refine g_iconst C dL_law_837 ?_
  refine g_iadd C dL_law_838 ?_
  refine g_sld (5 * t + 1) C hS (by omega) (by omega) dL_law_839 ?_
  refine g_callV C (c_X8_alike _ (hf (5 * t + 1)) hM1 hg.1 hg.2.1) (ci := 10) rfl hM1.o rfl ml_RL_222 im_yX8_alike se_RX8_yX8_alike in_RX8 co_yX8_alike hd_X8_alike rfl ⟨by omega, by omega⟩ rfl (Nat.le_of_ble_eq_true rfl) ⟨by omega, by omega⟩ dL_law_840 (fun v840 w840 hp840 => ?_)
  refine g_wf (fun hwf2 => ?_)
  obtain ⟨t2, ans, hv2, hM2, hk2, hcs⟩ := hp840
  subst hv2
  have h02 : 0 ≤ t2 ∧ t2 ≤ 2 := by omega
  have hI2 := inv_ask hwf1 hwf2 hcalm rfl ho hk2 hM2 h02 hg hr
  refine g_istore C dL_law_843 (by decide) rfl ?_
  refine g_goto (tgt := 2220) C dL_law_845 (by decide) ?_
  exact g_drop 5 (g_drop 6 (g_widen (by omega) (by omega) (kk _ hI2)))
set_option maxHeartbeats 4000000 in
set_option maxRecDepth 100000 in
theorem lc_rootText {K : KC} {E : GE} {X : XT} {b N : Nat} {f : Nat → Int} {x m o t k n : Nat} {w : Wd} (LX : LawX K E X b N f) (ht : 5 * t + 5 ≤ N) (hI : INV x m o t w) (hk : k + 2000 ≤ 793047) (hn : n + 80000 ≤ 6722339) (kk : ∀ w', INV x m o (t + 1) w' → G E X 7 2220 (LL b x m o t) [] w' (k + 2000) (n + 80000)) : G E X 7 848 (LL b x m o t) [] w k n := by
  obtain ⟨C, hT, hH, hls, ⟨hRf, hRl, hRc, hRs⟩, hS⟩ := LX
  have hf := hS.2.2.2.1
  have hN := hS.2.2.2.2
  obtain ⟨τ, ad, bs, ss, pb, P, Q, ct, A, th, ba, st, pm, le, ri, sp, cm, hC, hM, hx, ho, ⟨n0, s0, hO0⟩, hg, hr⟩ := hI
  subst hx
  refine g_wf (fun hwf => ?_)
  refine g_aload_n C dL_law_848 rfl ?_
  refine g_aload_n C dL_law_849 rfl ?_
  refine g_iload C dL_law_850 rfl ?_
  refine g_iconst C dL_law_852 ?_
  refine g_iadd C dL_law_853 ?_
  refine g_sld (5 * t + 1) C hS (by omega) (by omega) dL_law_854 ?_
  refine g_aload_n C dL_law_855 rfl ?_
  refine g_iload C dL_law_856 rfl ?_
  refine g_iconst C dL_law_858 ?_
  refine g_iadd C dL_law_859 ?_
  refine g_sld (5 * t + 2) C hS (by omega) (by omega) dL_law_860 ?_
  refine g_aload_n C dL_law_861 rfl ?_
  refine x_callH C hT hH (w_L_rootText _ hls hC ho hO0 (hf (5 * t + 1)) (hf (5 * t + 2))) ml_RL_223 sm_yL_rootText in_RL co_yL_rootText hd_L_rootText rfl ⟨by omega, by omega⟩ rfl (Nat.le_of_ble_eq_true rfl) ⟨by omega, by omega⟩ dL_law_862 (fun v1 w1 hp => ?_)
  refine g_wf (fun hwf1 => ?_)
  obtain ⟨⟨k1, hv1, hk1⟩, hcalm⟩ := a_rootText hC ho ⟨n0, s0, hO0⟩ hp
  subst hv1
  have hkm : KM τ w w1 := by
    obtain ⟨_, _, _, _, _, _, q, _⟩ := hcalm
    exact q
  have hM1 := hM.keep hkm.2
  refine g_istore C dL_law_865 (by decide) rfl ?_
  refine g_aload_n C dL_law_867 rfl ?_
  refine g_aload_n C dL_law_868 rfl ?_
  refine g_iload C dL_law_869 rfl ?_
  refine g_iconst C dL_law_871 ?_
  refine g_iadd C dL_law_872 ?_
  refine g_sld (5 * t + 1) C hS (by omega) (by omega) dL_law_873 ?_
  refine g_aload_n C dL_law_874 rfl ?_
  refine g_iload C dL_law_875 rfl ?_
  refine g_iconst C dL_law_877 ?_
  refine g_iadd C dL_law_878 ?_
  refine g_sld (5 * t + 2) C hS (by omega) (by omega) dL_law_879 ?_
  refine t_callV C hT (c_X8_rootText _ (hf (5 * t + 1)) (hf (5 * t + 2)) hM1) (RcV.ob (ci := 10) C rfl hM1.o) rfl ml_RL_225 im_yX8_rootText se_RX8_yX8_rootText in_RX8 co_yX8_rootText hd_X8_rootText rfl ⟨by omega, by omega⟩ rfl (Nat.le_of_ble_eq_true rfl) ⟨by omega, by omega⟩ dL_law_880 (fun v880 w880 hp880 => ?_)
  refine g_wf (fun hwf2 => ?_)
  obtain ⟨t2, s2, hv2, hM2, hk2, h02⟩ := hp880
  subst hv2
  have hI2 := inv_ask hwf1 hwf2 hcalm rfl ho hk2 hM2 h02 hg hr
  refine g_astore C dL_law_883 (by decide) rfl ?_
  refine g_goto (tgt := 2220) C dL_law_885 (by decide) ?_
  exact g_drop 5 (g_drop 6 (g_widen (by omega) (by omega) (kk _ hI2)))
set_option maxHeartbeats 4000000 in
set_option maxRecDepth 100000 in
theorem lc_period {K : KC} {E : GE} {X : XT} {b N : Nat} {f : Nat → Int} {x m o t k n : Nat} {w : Wd} (LX : LawX K E X b N f) (ht : 5 * t + 5 ≤ N) (hI : INV x m o t w) (hk : k + 2000 ≤ 793047) (hn : n + 80000 ≤ 6722339) (kk : ∀ w', INV x m o (t + 1) w' → G E X 7 2220 (LL b x m o t) [] w' (k + 2000) (n + 80000)) : G E X 7 888 (LL b x m o t) [] w k n := by
  obtain ⟨C, hT, hH, hls, ⟨hRf, hRl, hRc, hRs⟩, hS⟩ := LX
  have hf := hS.2.2.2.1
  have hN := hS.2.2.2.2
  obtain ⟨τ, ad, bs, ss, pb, P, Q, ct, A, th, ba, st, pm, le, ri, sp, cm, hC, hM, hx, ho, ⟨n0, s0, hO0⟩, hg, hr⟩ := hI
  subst hx
  refine g_wf (fun hwf => ?_)
  refine g_aload_n C dL_law_888 rfl ?_
  refine g_aload_n C dL_law_889 rfl ?_
  refine g_iload C dL_law_890 rfl ?_
  refine g_iconst C dL_law_892 ?_
  refine g_iadd C dL_law_893 ?_
  refine g_sld (5 * t + 1) C hS (by omega) (by omega) dL_law_894 ?_
  refine g_aload_n C dL_law_895 rfl ?_
  refine x_callH C hT hH (w_L_period _ hls hC ho hO0 (hf (5 * t + 1))) ml_RL_226 sm_yL_period in_RL co_yL_period hd_L_period rfl ⟨by omega, by omega⟩ rfl (Nat.le_of_ble_eq_true rfl) ⟨by omega, by omega⟩ dL_law_896 (fun v1 w1 hp => ?_)
  refine g_wf (fun hwf1 => ?_)
  obtain ⟨⟨k1, hv1, hk1⟩, hcalm⟩ := a_period hC ho ⟨n0, s0, hO0⟩ hp
  subst hv1
  have hkm : KM τ w w1 := by
    obtain ⟨_, _, _, _, _, _, q, _⟩ := hcalm
    exact q
  have hM1 := hM.keep hkm.2
  refine g_istore C dL_law_899 (by decide) rfl ?_
  refine g_aload_n C dL_law_901 rfl ?_
  refine g_aload_n C dL_law_902 rfl ?_
  refine g_iload C dL_law_903 rfl ?_
  refine g_iconst C dL_law_905 ?_
  refine g_iadd C dL_law_906 ?_
  refine g_sld (5 * t + 1) C hS (by omega) (by omega) dL_law_907 ?_
  refine g_callV C (c_X8_period _ (hf (5 * t + 1)) hM1) (ci := 10) rfl hM1.o rfl ml_RL_228 im_yX8_period se_RX8_yX8_period in_RX8 co_yX8_period hd_X8_period rfl ⟨by omega, by omega⟩ rfl (Nat.le_of_ble_eq_true rfl) ⟨by omega, by omega⟩ dL_law_908 (fun v908 w908 hp908 => ?_)
  refine g_wf (fun hwf2 => ?_)
  obtain ⟨t2, ans, hv2, hM2, hk2, hcs⟩ := hp908
  subst hv2
  have h02 : 0 ≤ t2 ∧ t2 ≤ 2 := by omega
  have hI2 := inv_ask hwf1 hwf2 hcalm rfl ho hk2 hM2 h02 hg hr
  refine g_istore C dL_law_911 (by decide) rfl ?_
  refine g_goto (tgt := 2220) C dL_law_913 (by decide) ?_
  exact g_drop 5 (g_drop 6 (g_widen (by omega) (by omega) (kk _ hI2)))
set_option maxHeartbeats 4000000 in
set_option maxRecDepth 100000 in
theorem lc_periodText {K : KC} {E : GE} {X : XT} {b N : Nat} {f : Nat → Int} {x m o t k n : Nat} {w : Wd} (LX : LawX K E X b N f) (ht : 5 * t + 5 ≤ N) (hI : INV x m o t w) (hk : k + 2000 ≤ 793047) (hn : n + 80000 ≤ 6722339) (kk : ∀ w', INV x m o (t + 1) w' → G E X 7 2220 (LL b x m o t) [] w' (k + 2000) (n + 80000)) : G E X 7 916 (LL b x m o t) [] w k n := by
  obtain ⟨C, hT, hH, hls, ⟨hRf, hRl, hRc, hRs⟩, hS⟩ := LX
  have hf := hS.2.2.2.1
  have hN := hS.2.2.2.2
  obtain ⟨τ, ad, bs, ss, pb, P, Q, ct, A, th, ba, st, pm, le, ri, sp, cm, hC, hM, hx, ho, ⟨n0, s0, hO0⟩, hg, hr⟩ := hI
  subst hx
  refine g_wf (fun hwf => ?_)
  refine g_aload_n C dL_law_916 rfl ?_
  refine g_aload_n C dL_law_917 rfl ?_
  refine g_iload C dL_law_918 rfl ?_
  refine g_iconst C dL_law_920 ?_
  refine g_iadd C dL_law_921 ?_
  refine g_sld (5 * t + 1) C hS (by omega) (by omega) dL_law_922 ?_
  refine g_aload_n C dL_law_923 rfl ?_
  refine x_callH C hT hH (w_L_periodText _ hls hC ho hO0 (hf (5 * t + 1))) ml_RL_229 sm_yL_periodText in_RL co_yL_periodText hd_L_periodText rfl ⟨by omega, by omega⟩ rfl (Nat.le_of_ble_eq_true rfl) ⟨by omega, by omega⟩ dL_law_924 (fun v1 w1 hp => ?_)
  refine g_wf (fun hwf1 => ?_)
  obtain ⟨⟨k1, hv1, hk1⟩, hcalm⟩ := a_periodText hC ho ⟨n0, s0, hO0⟩ hp
  subst hv1
  have hkm : KM τ w w1 := by
    obtain ⟨_, _, _, _, _, _, q, _⟩ := hcalm
    exact q
  have hM1 := hM.keep hkm.2
  refine g_istore C dL_law_927 (by decide) rfl ?_
  refine g_aload_n C dL_law_929 rfl ?_
  refine g_aload_n C dL_law_930 rfl ?_
  refine g_iload C dL_law_931 rfl ?_
  refine g_iconst C dL_law_933 ?_
  refine g_iadd C dL_law_934 ?_
  refine g_sld (5 * t + 1) C hS (by omega) (by omega) dL_law_935 ?_
  refine t_callV C hT (c_X8_periodText _ (hf (5 * t + 1)) hM1) (RcV.ob (ci := 10) C rfl hM1.o) rfl ml_RL_231 im_yX8_periodText se_RX8_yX8_periodText in_RX8 co_yX8_periodText hd_X8_periodText rfl ⟨by omega, by omega⟩ rfl (Nat.le_of_ble_eq_true rfl) ⟨by omega, by omega⟩ dL_law_936 (fun v936 w936 hp936 => ?_)
  refine g_wf (fun hwf2 => ?_)
  obtain ⟨t2, s2, hv2, hM2, hk2, h02⟩ := hp936
  subst hv2
  have hI2 := inv_ask hwf1 hwf2 hcalm rfl ho hk2 hM2 h02 hg hr
  refine g_astore C dL_law_939 (by decide) rfl ?_
  refine g_goto (tgt := 2220) C dL_law_941 (by decide) ?_
  exact g_drop 5 (g_drop 6 (g_widen (by omega) (by omega) (kk _ hI2)))
set_option maxHeartbeats 4000000 in
set_option maxRecDepth 100000 in
theorem lc_solution {K : KC} {E : GE} {X : XT} {b N : Nat} {f : Nat → Int} {x m o t k n : Nat} {w : Wd} (LX : LawX K E X b N f) (ht : 5 * t + 5 ≤ N) (hI : INV x m o t w) (hk : k + 2000 ≤ 793047) (hn : n + 80000 ≤ 6722339) (kk : ∀ w', INV x m o (t + 1) w' → G E X 7 2220 (LL b x m o t) [] w' (k + 2000) (n + 80000)) : G E X 7 944 (LL b x m o t) [] w k n := by
  obtain ⟨C, hT, hH, hls, ⟨hRf, hRl, hRc, hRs⟩, hS⟩ := LX
  have hf := hS.2.2.2.1
  have hN := hS.2.2.2.2
  obtain ⟨τ, ad, bs, ss, pb, P, Q, ct, A, th, ba, st, pm, le, ri, sp, cm, hC, hM, hx, ho, ⟨n0, s0, hO0⟩, hg, hr⟩ := hI
  subst hx
  refine g_wf (fun hwf => ?_)
  refine g_aload_n C dL_law_944 rfl ?_
  refine g_aload_n C dL_law_945 rfl ?_
  refine g_iload C dL_law_946 rfl ?_
  refine g_iconst C dL_law_948 ?_
  refine g_iadd C dL_law_949 ?_
  refine g_sld (5 * t + 1) C hS (by omega) (by omega) dL_law_950 ?_
  refine g_aload_n C dL_law_951 rfl ?_
  refine g_iload C dL_law_952 rfl ?_
  refine g_iconst C dL_law_954 ?_
  refine g_iadd C dL_law_955 ?_
  refine g_sld (5 * t + 2) C hS (by omega) (by omega) dL_law_956 ?_
  refine g_bool C (hf _) dL_law_957 dL_law_960 dL_law_961 dL_law_964 ?_
  refine g_aload_n C dL_law_965 rfl ?_
  refine x_callH C hT hH (w_L_solution _ hls hC ho hO0 (hf (5 * t + 1)) (bI_01 _)) ml_RL_232 sm_yL_solution in_RL co_yL_solution hd_L_solution rfl ⟨by omega, by omega⟩ rfl (Nat.le_of_ble_eq_true rfl) ⟨by omega, by omega⟩ dL_law_966 (fun v1 w1 hp => ?_)
  refine g_wf (fun hwf1 => ?_)
  obtain ⟨⟨k1, hv1, hk1⟩, hcalm⟩ := a_solution hC ho ⟨n0, s0, hO0⟩ (y := bI (f (5 * t + 2) ≠ 0)) hp
  subst hv1
  have hkm : KM τ w w1 := by
    obtain ⟨_, _, _, _, _, _, q, _⟩ := hcalm
    exact q
  have hM1 := hM.keep hkm.2
  refine g_istore C dL_law_969 (by decide) rfl ?_
  refine g_aload_n C dL_law_971 rfl ?_
  refine g_aload_n C dL_law_972 rfl ?_
  refine g_iload C dL_law_973 rfl ?_
  refine g_iconst C dL_law_975 ?_
  refine g_iadd C dL_law_976 ?_
  refine g_sld (5 * t + 1) C hS (by omega) (by omega) dL_law_977 ?_
  refine g_aload_n C dL_law_978 rfl ?_
  refine g_iload C dL_law_979 rfl ?_
  refine g_iconst C dL_law_981 ?_
  refine g_iadd C dL_law_982 ?_
  refine g_sld (5 * t + 2) C hS (by omega) (by omega) dL_law_983 ?_
  refine g_bool C (hf _) dL_law_984 dL_law_987 dL_law_988 dL_law_991 ?_
  refine t_callV C hT (c_X8_solution _ (hf (5 * t + 1)) (bI_01 _) hM1) (RcV.ob (ci := 10) C rfl hM1.o) rfl ml_RL_235 im_yX8_solution se_RX8_yX8_solution in_RX8 co_yX8_solution hd_X8_solution rfl ⟨by omega, by omega⟩ rfl (Nat.le_of_ble_eq_true rfl) ⟨by omega, by omega⟩ dL_law_992 (fun v992 w992 hp992 => ?_)
  refine g_wf (fun hwf2 => ?_)
  obtain ⟨t2, s2, hv2, hM2, hk2, h02⟩ := hp992
  subst hv2
  have hI2 := inv_ask hwf1 hwf2 hcalm rfl ho hk2 hM2 h02 hg hr
  refine g_astore C dL_law_995 (by decide) rfl ?_
  refine g_goto (tgt := 2220) C dL_law_997 (by decide) ?_
  exact g_drop 5 (g_drop 6 (g_widen (by omega) (by omega) (kk _ hI2)))
set_option maxHeartbeats 4000000 in
set_option maxRecDepth 100000 in
theorem lc_minus {K : KC} {E : GE} {X : XT} {b N : Nat} {f : Nat → Int} {x m o t k n : Nat} {w : Wd} (LX : LawX K E X b N f) (ht : 5 * t + 5 ≤ N) (hI : INV x m o t w) (hk : k + 2000 ≤ 793047) (hn : n + 80000 ≤ 6722339) (kk : ∀ w', INV x m o (t + 1) w' → G E X 7 2220 (LL b x m o t) [] w' (k + 2000) (n + 80000)) : G E X 7 1000 (LL b x m o t) [] w k n := by
  obtain ⟨C, hT, hH, hls, ⟨hRf, hRl, hRc, hRs⟩, hS⟩ := LX
  have hf := hS.2.2.2.1
  have hN := hS.2.2.2.2
  obtain ⟨τ, ad, bs, ss, pb, P, Q, ct, A, th, ba, st, pm, le, ri, sp, cm, hC, hM, hx, ho, ⟨n0, s0, hO0⟩, hg, hr⟩ := hI
  subst hx
  refine g_wf (fun hwf => ?_)
  refine g_aload_n C dL_law_1000 rfl ?_
  refine g_aload_n C dL_law_1001 rfl ?_
  refine g_iload C dL_law_1002 rfl ?_
  refine g_iconst C dL_law_1004 ?_
  refine g_iadd C dL_law_1005 ?_
  refine g_sld (5 * t + 1) C hS (by omega) (by omega) dL_law_1006 ?_
  refine g_aload_n C dL_law_1007 rfl ?_
  refine g_iload C dL_law_1008 rfl ?_
  refine g_iconst C dL_law_1010 ?_
  refine g_iadd C dL_law_1011 ?_
  refine g_sld (5 * t + 2) C hS (by omega) (by omega) dL_law_1012 ?_
  refine g_bool C (hf _) dL_law_1013 dL_law_1016 dL_law_1017 dL_law_1020 ?_
  refine g_aload_n C dL_law_1021 rfl ?_
  refine x_callH C hT hH (w_L_minus _ hls hC ho hO0 (hf (5 * t + 1)) (bI_01 _)) ml_RL_236 sm_yL_minus in_RL co_yL_minus hd_L_minus rfl ⟨by omega, by omega⟩ rfl (Nat.le_of_ble_eq_true rfl) ⟨by omega, by omega⟩ dL_law_1022 (fun v1 w1 hp => ?_)
  refine g_wf (fun hwf1 => ?_)
  obtain ⟨⟨k1, hv1, hk1⟩, hcalm⟩ := a_minus hC ho ⟨n0, s0, hO0⟩ (y := bI (f (5 * t + 2) ≠ 0)) hp
  subst hv1
  have hkm : KM τ w w1 := by
    obtain ⟨_, _, _, _, _, _, q, _⟩ := hcalm
    exact q
  have hM1 := hM.keep hkm.2
  refine g_istore C dL_law_1025 (by decide) rfl ?_
  refine g_aload_n C dL_law_1027 rfl ?_
  refine g_aload_n C dL_law_1028 rfl ?_
  refine g_iload C dL_law_1029 rfl ?_
  refine g_iconst C dL_law_1031 ?_
  refine g_iadd C dL_law_1032 ?_
  refine g_sld (5 * t + 1) C hS (by omega) (by omega) dL_law_1033 ?_
  refine g_aload_n C dL_law_1034 rfl ?_
  refine g_iload C dL_law_1035 rfl ?_
  refine g_iconst C dL_law_1037 ?_
  refine g_iadd C dL_law_1038 ?_
  refine g_sld (5 * t + 2) C hS (by omega) (by omega) dL_law_1039 ?_
  refine g_bool C (hf _) dL_law_1040 dL_law_1043 dL_law_1044 dL_law_1047 ?_
  refine t_callV C hT (c_X8_minus_ _ (hf (5 * t + 1)) (bI_01 _) hM1) (RcV.ob (ci := 10) C rfl hM1.o) rfl ml_RL_238 im_yX8_minus_ se_RX8_yX8_minus_ in_RX8 co_yX8_minus_ hd_X8_minus_ rfl ⟨by omega, by omega⟩ rfl (Nat.le_of_ble_eq_true rfl) ⟨by omega, by omega⟩ dL_law_1048 (fun v1048 w1048 hp1048 => ?_)
  refine g_wf (fun hwf2 => ?_)
  obtain ⟨t2, s2, hv2, hM2, hk2, h02⟩ := hp1048
  subst hv2
  have hI2 := inv_ask hwf1 hwf2 hcalm rfl ho hk2 hM2 h02 hg hr
  refine g_astore C dL_law_1051 (by decide) rfl ?_
  refine g_goto (tgt := 2220) C dL_law_1053 (by decide) ?_
  exact g_drop 5 (g_drop 6 (g_widen (by omega) (by omega) (kk _ hI2)))
set_option maxHeartbeats 4000000 in
set_option maxRecDepth 100000 in
theorem lc_middle {K : KC} {E : GE} {X : XT} {b N : Nat} {f : Nat → Int} {x m o t k n : Nat} {w : Wd} (LX : LawX K E X b N f) (ht : 5 * t + 5 ≤ N) (hI : INV x m o t w) (hk : k + 2000 ≤ 793047) (hn : n + 80000 ≤ 6722339) (kk : ∀ w', INV x m o (t + 1) w' → G E X 7 2220 (LL b x m o t) [] w' (k + 2000) (n + 80000)) : G E X 7 1056 (LL b x m o t) [] w k n := by
  obtain ⟨C, hT, hH, hls, ⟨hRf, hRl, hRc, hRs⟩, hS⟩ := LX
  have hf := hS.2.2.2.1
  have hN := hS.2.2.2.2
  obtain ⟨τ, ad, bs, ss, pb, P, Q, ct, A, th, ba, st, pm, le, ri, sp, cm, hC, hM, hx, ho, ⟨n0, s0, hO0⟩, hg, hr⟩ := hI
  subst hx
  refine g_wf (fun hwf => ?_)
  refine g_aload_n C dL_law_1056 rfl ?_
  refine g_aload_n C dL_law_1057 rfl ?_
  refine g_iload C dL_law_1058 rfl ?_
  refine g_iconst C dL_law_1060 ?_
  refine g_iadd C dL_law_1061 ?_
  refine g_sld (5 * t + 1) C hS (by omega) (by omega) dL_law_1062 ?_
  refine g_aload_n C dL_law_1063 rfl ?_
  refine x_callH C hT hH (w_L_middle _ hls hC ho hO0 (hf (5 * t + 1))) ml_RL_239 sm_yL_middle in_RL co_yL_middle hd_L_middle rfl ⟨by omega, by omega⟩ rfl (Nat.le_of_ble_eq_true rfl) ⟨by omega, by omega⟩ dL_law_1064 (fun v1 w1 hp => ?_)
  refine g_wf (fun hwf1 => ?_)
  obtain ⟨⟨k1, hv1, hk1⟩, hcalm⟩ := a_middle hC ho ⟨n0, s0, hO0⟩ hp
  subst hv1
  have hkm : KM τ w w1 := by
    obtain ⟨_, _, _, _, _, _, q, _⟩ := hcalm
    exact q
  have hM1 := hM.keep hkm.2
  refine g_istore C dL_law_1067 (by decide) rfl ?_
  refine g_aload_n C dL_law_1069 rfl ?_
  refine g_aload_n C dL_law_1070 rfl ?_
  refine g_iload C dL_law_1071 rfl ?_
  refine g_iconst C dL_law_1073 ?_
  refine g_iadd C dL_law_1074 ?_
  refine g_sld (5 * t + 1) C hS (by omega) (by omega) dL_law_1075 ?_
  refine t_callV C hT (c_X8_middle _ (hf (5 * t + 1)) hM1) (RcV.ob (ci := 10) C rfl hM1.o) rfl ml_RL_241 im_yX8_middle se_RX8_yX8_middle in_RX8 co_yX8_middle hd_X8_middle rfl ⟨by omega, by omega⟩ rfl (Nat.le_of_ble_eq_true rfl) ⟨by omega, by omega⟩ dL_law_1076 (fun v1076 w1076 hp1076 => ?_)
  refine g_wf (fun hwf2 => ?_)
  obtain ⟨t2, s2, hv2, hM2, hk2, h02⟩ := hp1076
  subst hv2
  have hI2 := inv_ask hwf1 hwf2 hcalm rfl ho hk2 hM2 h02 hg hr
  refine g_astore C dL_law_1079 (by decide) rfl ?_
  refine g_goto (tgt := 2220) C dL_law_1081 (by decide) ?_
  exact g_drop 5 (g_drop 6 (g_widen (by omega) (by omega) (kk _ hI2)))
set_option maxHeartbeats 4000000 in
set_option maxRecDepth 100000 in
theorem lc_put {K : KC} {E : GE} {X : XT} {b N : Nat} {f : Nat → Int} {x m o t k n : Nat} {w : Wd} (LX : LawX K E X b N f) (ht : 5 * t + 5 ≤ N) (hI : INV x m o t w) (hk : k + 2000 ≤ 793047) (hn : n + 80000 ≤ 6722339) (kk : ∀ w', INV x m o (t + 1) w' → G E X 7 2220 (LL b x m o t) [] w' (k + 2000) (n + 80000)) : G E X 7 1084 (LL b x m o t) [] w k n := by
  obtain ⟨C, hT, hH, hls, ⟨hRf, hRl, hRc, hRs⟩, hS⟩ := LX
  have hf := hS.2.2.2.1
  have hN := hS.2.2.2.2
  obtain ⟨τ, ad, bs, ss, pb, P, Q, ct, A, th, ba, st, pm, le, ri, sp, cm, hC, hM, hx, ho, ⟨n0, s0, hO0⟩, hg, hr⟩ := hI
  subst hx
  refine g_wf (fun hwf => ?_)
  refine g_aload_n C dL_law_1084 rfl ?_
  refine g_aload_n C dL_law_1085 rfl ?_
  refine g_iload C dL_law_1086 rfl ?_
  refine g_iconst C dL_law_1088 ?_
  refine g_iadd C dL_law_1089 ?_
  refine g_sld (5 * t + 1) C hS (by omega) (by omega) dL_law_1090 ?_
  refine g_aload_n C dL_law_1091 rfl ?_
  refine g_iload C dL_law_1092 rfl ?_
  refine g_iconst C dL_law_1094 ?_
  refine g_iadd C dL_law_1095 ?_
  refine g_sld (5 * t + 2) C hS (by omega) (by omega) dL_law_1096 ?_
  refine g_aload_n C dL_law_1097 rfl ?_
  refine g_iload C dL_law_1098 rfl ?_
  refine g_iconst C dL_law_1100 ?_
  refine g_iadd C dL_law_1101 ?_
  refine g_sld (5 * t + 3) C hS (by omega) (by omega) dL_law_1102 ?_
  refine g_aload_n C dL_law_1103 rfl ?_
  refine g_iload C dL_law_1104 rfl ?_
  refine g_iconst C dL_law_1106 ?_
  refine g_iadd C dL_law_1107 ?_
  refine g_sld (5 * t + 4) C hS (by omega) (by omega) dL_law_1108 ?_
  refine g_aload_n C dL_law_1109 rfl ?_
  refine x_callH C hT hH (w_L_put _ hls hC ho hO0 (hf (5 * t + 1)) (hf (5 * t + 2)) (hf (5 * t + 3)) (hf (5 * t + 4))) ml_RL_242 sm_yL_put in_RL co_yL_put hd_L_put rfl ⟨by omega, by omega⟩ rfl (Nat.le_of_ble_eq_true rfl) ⟨by omega, by omega⟩ dL_law_1110 (fun v1 w1 hp => ?_)
  refine g_wf (fun hwf1 => ?_)
  obtain ⟨k1, nv, pb1, ct1, hv1, hOV, hnv, ⟨⟨pb2, hp2, hC1⟩, hkm⟩, hD⟩ := a_put hC ho ⟨n0, s0, hO0⟩ hp
  subst hv1
  have hM1 := hM.keep hkm.2
  refine g_istore C dL_law_1113 (by decide) rfl ?_
  refine g_aload_n C dL_law_1115 rfl ?_
  refine g_aload_n C dL_law_1116 rfl ?_
  refine g_iload C dL_law_1117 rfl ?_
  refine g_iconst C dL_law_1119 ?_
  refine g_iadd C dL_law_1120 ?_
  refine g_sld (5 * t + 1) C hS (by omega) (by omega) dL_law_1121 ?_
  refine g_aload_n C dL_law_1122 rfl ?_
  refine g_iload C dL_law_1123 rfl ?_
  refine g_iconst C dL_law_1125 ?_
  refine g_iadd C dL_law_1126 ?_
  refine g_sld (5 * t + 2) C hS (by omega) (by omega) dL_law_1127 ?_
  refine g_aload_n C dL_law_1128 rfl ?_
  refine g_iload C dL_law_1129 rfl ?_
  refine g_iconst C dL_law_1131 ?_
  refine g_iadd C dL_law_1132 ?_
  refine g_sld (5 * t + 3) C hS (by omega) (by omega) dL_law_1133 ?_
  refine g_aload_n C dL_law_1134 rfl ?_
  refine g_iload C dL_law_1135 rfl ?_
  refine g_iconst C dL_law_1137 ?_
  refine g_iadd C dL_law_1138 ?_
  refine g_sld (5 * t + 4) C hS (by omega) (by omega) dL_law_1139 ?_
  refine g_callV C (c_X8_put _ (hf (5 * t + 1)) (hf (5 * t + 2)) (hf (5 * t + 3)) (hf (5 * t + 4)) hM1 hg.2.2.1) (ci := 10) rfl hM1.o rfl ml_RL_245 im_yX8_put se_RX8_yX8_put in_RX8 co_yX8_put hd_X8_put rfl ⟨by omega, by omega⟩ rfl (Nat.le_of_ble_eq_true rfl) ⟨by omega, by omega⟩ dL_law_1140 (fun v1140 w1140 hp1140 => ?_)
  refine g_wf (fun hwf2 => ?_)
  obtain ⟨τ2, A2, t2, pm2, le2, ri2, cm2, ans, hτ2, hv2, hM2, hk2, hcs⟩ := hp1140
  subst hv2
  obtain ⟨hg2, hr2, hkk, hans⟩ := b_put hg hr hD hcs
  have hI2 := inv_md hwf1 hwf2 hC1 rfl ho hOV.u hk2 hτ2 hM2 hg2 (rl_pb hp2 hr2)
  refine g_istore C dL_law_1143 (by decide) rfl ?_
  refine g_goto (tgt := 2220) C dL_law_1145 (by decide) ?_
  exact g_drop 5 (g_drop 6 (g_widen (by omega) (by omega) (kk _ hI2)))
set_option maxHeartbeats 4000000 in
set_option maxRecDepth 100000 in
theorem lc_take {K : KC} {E : GE} {X : XT} {b N : Nat} {f : Nat → Int} {x m o t k n : Nat} {w : Wd} (LX : LawX K E X b N f) (ht : 5 * t + 5 ≤ N) (hI : INV x m o t w) (hk : k + 2000 ≤ 793047) (hn : n + 80000 ≤ 6722339) (kk : ∀ w', INV x m o (t + 1) w' → G E X 7 2220 (LL b x m o t) [] w' (k + 2000) (n + 80000)) : G E X 7 1148 (LL b x m o t) [] w k n := by
  obtain ⟨C, hT, hH, hls, ⟨hRf, hRl, hRc, hRs⟩, hS⟩ := LX
  have hf := hS.2.2.2.1
  have hN := hS.2.2.2.2
  obtain ⟨τ, ad, bs, ss, pb, P, Q, ct, A, th, ba, st, pm, le, ri, sp, cm, hC, hM, hx, ho, ⟨n0, s0, hO0⟩, hg, hr⟩ := hI
  subst hx
  refine g_wf (fun hwf => ?_)
  refine g_aload_n C dL_law_1148 rfl ?_
  refine g_aload_n C dL_law_1149 rfl ?_
  refine g_iload C dL_law_1150 rfl ?_
  refine g_iconst C dL_law_1152 ?_
  refine g_iadd C dL_law_1153 ?_
  refine g_sld (5 * t + 1) C hS (by omega) (by omega) dL_law_1154 ?_
  refine g_aload_n C dL_law_1155 rfl ?_
  refine g_iload C dL_law_1156 rfl ?_
  refine g_iconst C dL_law_1158 ?_
  refine g_iadd C dL_law_1159 ?_
  refine g_sld (5 * t + 2) C hS (by omega) (by omega) dL_law_1160 ?_
  refine g_aload_n C dL_law_1161 rfl ?_
  refine x_callH C hT hH (w_L_take _ hls hC ho hO0 (hf (5 * t + 1)) (hf (5 * t + 2))) ml_RL_246 sm_yL_take in_RL co_yL_take hd_L_take rfl ⟨by omega, by omega⟩ rfl (Nat.le_of_ble_eq_true rfl) ⟨by omega, by omega⟩ dL_law_1162 (fun v1 w1 hp => ?_)
  refine g_wf (fun hwf1 => ?_)
  obtain ⟨k1, nv, pb1, ct1, hv1, hOV, hnv, ⟨⟨pb2, hp2, hC1⟩, hkm⟩, hD⟩ := a_take hC ho ⟨n0, s0, hO0⟩ hp
  subst hv1
  have hM1 := hM.keep hkm.2
  refine g_istore C dL_law_1165 (by decide) rfl ?_
  refine g_aload_n C dL_law_1167 rfl ?_
  refine g_aload_n C dL_law_1168 rfl ?_
  refine g_iload C dL_law_1169 rfl ?_
  refine g_iconst C dL_law_1171 ?_
  refine g_iadd C dL_law_1172 ?_
  refine g_sld (5 * t + 1) C hS (by omega) (by omega) dL_law_1173 ?_
  refine g_aload_n C dL_law_1174 rfl ?_
  refine g_iload C dL_law_1175 rfl ?_
  refine g_iconst C dL_law_1177 ?_
  refine g_iadd C dL_law_1178 ?_
  refine g_sld (5 * t + 2) C hS (by omega) (by omega) dL_law_1179 ?_
  refine g_callV C (c_X8_take _ (hf (5 * t + 1)) (hf (5 * t + 2)) hM1 hg.2.2.1 hg.1 hg.2.1) (ci := 10) rfl hM1.o rfl ml_RL_248 im_yX8_take se_RX8_yX8_take in_RX8 co_yX8_take hd_X8_take rfl ⟨by omega, by omega⟩ rfl (Nat.le_of_ble_eq_true rfl) ⟨by omega, by omega⟩ dL_law_1180 (fun v1180 w1180 hp1180 => ?_)
  refine g_wf (fun hwf2 => ?_)
  obtain ⟨τ2, A2, t2, pm2, le2, ri2, cm2, ans, hτ2, hv2, hM2, hk2, hcs⟩ := hp1180
  subst hv2
  obtain ⟨hg2, hr2, hkk, hans⟩ := b_take hg hr hD hcs
  have hI2 := inv_md hwf1 hwf2 hC1 rfl ho hOV.u hk2 hτ2 hM2 hg2 (rl_pb hp2 hr2)
  refine g_istore C dL_law_1183 (by decide) rfl ?_
  refine g_goto (tgt := 2220) C dL_law_1185 (by decide) ?_
  exact g_drop 5 (g_drop 6 (g_widen (by omega) (by omega) (kk _ hI2)))
set_option maxHeartbeats 4000000 in
set_option maxRecDepth 100000 in
theorem lc_least {K : KC} {E : GE} {X : XT} {b N : Nat} {f : Nat → Int} {x m o t k n : Nat} {w : Wd} (LX : LawX K E X b N f) (ht : 5 * t + 5 ≤ N) (hI : INV x m o t w) (hk : k + 2000 ≤ 793047) (hn : n + 80000 ≤ 6722339) (kk : ∀ w', INV x m o (t + 1) w' → G E X 7 2220 (LL b x m o t) [] w' (k + 2000) (n + 80000)) : G E X 7 1188 (LL b x m o t) [] w k n := by
  obtain ⟨C, hT, hH, hls, ⟨hRf, hRl, hRc, hRs⟩, hS⟩ := LX
  have hf := hS.2.2.2.1
  have hN := hS.2.2.2.2
  obtain ⟨τ, ad, bs, ss, pb, P, Q, ct, A, th, ba, st, pm, le, ri, sp, cm, hC, hM, hx, ho, ⟨n0, s0, hO0⟩, hg, hr⟩ := hI
  subst hx
  refine g_wf (fun hwf => ?_)
  refine g_aload_n C dL_law_1188 rfl ?_
  refine g_aload_n C dL_law_1189 rfl ?_
  refine g_iload C dL_law_1190 rfl ?_
  refine g_iconst C dL_law_1192 ?_
  refine g_iadd C dL_law_1193 ?_
  refine g_sld (5 * t + 1) C hS (by omega) (by omega) dL_law_1194 ?_
  refine g_aload_n C dL_law_1195 rfl ?_
  refine g_iload C dL_law_1196 rfl ?_
  refine g_iconst C dL_law_1198 ?_
  refine g_iadd C dL_law_1199 ?_
  refine g_sld (5 * t + 2) C hS (by omega) (by omega) dL_law_1200 ?_
  refine g_aload_n C dL_law_1201 rfl ?_
  refine x_callH C hT hH (w_L_least _ hls hC ho hO0 (hf (5 * t + 1)) (hf (5 * t + 2))) ml_RL_249 sm_yL_least in_RL co_yL_least hd_L_least rfl ⟨by omega, by omega⟩ rfl (Nat.le_of_ble_eq_true rfl) ⟨by omega, by omega⟩ dL_law_1202 (fun v1 w1 hp => ?_)
  refine g_wf (fun hwf1 => ?_)
  obtain ⟨k1, nv, pb1, ct1, hv1, hOV, hnv, ⟨⟨pb2, hp2, hC1⟩, hkm⟩, hD⟩ := a_least hC ho ⟨n0, s0, hO0⟩ hp
  subst hv1
  have hM1 := hM.keep hkm.2
  refine g_istore C dL_law_1205 (by decide) rfl ?_
  refine g_aload_n C dL_law_1207 rfl ?_
  refine g_aload_n C dL_law_1208 rfl ?_
  refine g_iload C dL_law_1209 rfl ?_
  refine g_iconst C dL_law_1211 ?_
  refine g_iadd C dL_law_1212 ?_
  refine g_sld (5 * t + 1) C hS (by omega) (by omega) dL_law_1213 ?_
  refine g_aload_n C dL_law_1214 rfl ?_
  refine g_iload C dL_law_1215 rfl ?_
  refine g_iconst C dL_law_1217 ?_
  refine g_iadd C dL_law_1218 ?_
  refine g_sld (5 * t + 2) C hS (by omega) (by omega) dL_law_1219 ?_
  refine g_callV C (c_X8_least _ (hf (5 * t + 1)) (hf (5 * t + 2)) hM1 hg.2.2.1) (ci := 10) rfl hM1.o rfl ml_RL_251 im_yX8_least se_RX8_yX8_least in_RX8 co_yX8_least hd_X8_least rfl ⟨by omega, by omega⟩ rfl (Nat.le_of_ble_eq_true rfl) ⟨by omega, by omega⟩ dL_law_1220 (fun v1220 w1220 hp1220 => ?_)
  refine g_wf (fun hwf2 => ?_)
  obtain ⟨τ2, A2, t2, pm2, le2, ri2, cm2, ans, hτ2, hv2, hM2, hk2, hcs⟩ := hp1220
  subst hv2
  obtain ⟨hg2, hr2, hkk, hans⟩ := b_least hg hr hD hcs
  have hI2 := inv_md hwf1 hwf2 hC1 rfl ho hOV.u hk2 hτ2 hM2 hg2 (rl_pb hp2 hr2)
  refine g_istore C dL_law_1223 (by decide) rfl ?_
  refine g_goto (tgt := 2220) C dL_law_1225 (by decide) ?_
  exact g_drop 5 (g_drop 6 (g_widen (by omega) (by omega) (kk _ hI2)))
set_option maxHeartbeats 4000000 in
set_option maxRecDepth 100000 in
theorem lc_compose {K : KC} {E : GE} {X : XT} {b N : Nat} {f : Nat → Int} {x m o t k n : Nat} {w : Wd} (LX : LawX K E X b N f) (ht : 5 * t + 5 ≤ N) (hI : INV x m o t w) (hk : k + 2000 ≤ 793047) (hn : n + 80000 ≤ 6722339) (kk : ∀ w', INV x m o (t + 1) w' → G E X 7 2220 (LL b x m o t) [] w' (k + 2000) (n + 80000)) : G E X 7 1228 (LL b x m o t) [] w k n := by
  obtain ⟨C, hT, hH, hls, ⟨hRf, hRl, hRc, hRs⟩, hS⟩ := LX
  have hf := hS.2.2.2.1
  have hN := hS.2.2.2.2
  obtain ⟨τ, ad, bs, ss, pb, P, Q, ct, A, th, ba, st, pm, le, ri, sp, cm, hC, hM, hx, ho, ⟨n0, s0, hO0⟩, hg, hr⟩ := hI
  subst hx
  refine g_wf (fun hwf => ?_)
  refine g_aload_n C dL_law_1228 rfl ?_
  refine g_aload_n C dL_law_1229 rfl ?_
  refine g_iload C dL_law_1230 rfl ?_
  refine g_iconst C dL_law_1232 ?_
  refine g_iadd C dL_law_1233 ?_
  refine g_sld (5 * t + 1) C hS (by omega) (by omega) dL_law_1234 ?_
  refine g_aload_n C dL_law_1235 rfl ?_
  refine g_iload C dL_law_1236 rfl ?_
  refine g_iconst C dL_law_1238 ?_
  refine g_iadd C dL_law_1239 ?_
  refine g_sld (5 * t + 2) C hS (by omega) (by omega) dL_law_1240 ?_
  refine g_aload_n C dL_law_1241 rfl ?_
  refine g_iload C dL_law_1242 rfl ?_
  refine g_iconst C dL_law_1244 ?_
  refine g_iadd C dL_law_1245 ?_
  refine g_sld (5 * t + 3) C hS (by omega) (by omega) dL_law_1246 ?_
  refine g_aload_n C dL_law_1247 rfl ?_
  refine x_callH C hT hH (w_L_compose _ hls hC ho hO0 (hf (5 * t + 1)) (hf (5 * t + 2)) (hf (5 * t + 3))) ml_RL_252 sm_yL_compose in_RL co_yL_compose hd_L_compose rfl ⟨by omega, by omega⟩ rfl (Nat.le_of_ble_eq_true rfl) ⟨by omega, by omega⟩ dL_law_1248 (fun v1 w1 hp => ?_)
  refine g_wf (fun hwf1 => ?_)
  obtain ⟨k1, nv, pb1, ct1, hv1, hOV, hnv, ⟨⟨pb2, hp2, hC1⟩, hkm⟩, hD⟩ := a_compose hC ho ⟨n0, s0, hO0⟩ hp
  subst hv1
  have hM1 := hM.keep hkm.2
  refine g_istore C dL_law_1251 (by decide) rfl ?_
  refine g_aload_n C dL_law_1253 rfl ?_
  refine g_aload_n C dL_law_1254 rfl ?_
  refine g_iload C dL_law_1255 rfl ?_
  refine g_iconst C dL_law_1257 ?_
  refine g_iadd C dL_law_1258 ?_
  refine g_sld (5 * t + 1) C hS (by omega) (by omega) dL_law_1259 ?_
  refine g_aload_n C dL_law_1260 rfl ?_
  refine g_iload C dL_law_1261 rfl ?_
  refine g_iconst C dL_law_1263 ?_
  refine g_iadd C dL_law_1264 ?_
  refine g_sld (5 * t + 2) C hS (by omega) (by omega) dL_law_1265 ?_
  refine g_aload_n C dL_law_1266 rfl ?_
  refine g_iload C dL_law_1267 rfl ?_
  refine g_iconst C dL_law_1269 ?_
  refine g_iadd C dL_law_1270 ?_
  refine g_sld (5 * t + 3) C hS (by omega) (by omega) dL_law_1271 ?_
  refine g_callV C (c_X8_compose _ (hf (5 * t + 1)) (hf (5 * t + 2)) (hf (5 * t + 3)) hM1 hg.2.2.1) (ci := 10) rfl hM1.o rfl ml_RL_254 im_yX8_compose se_RX8_yX8_compose in_RX8 co_yX8_compose hd_X8_compose rfl ⟨by omega, by omega⟩ rfl (Nat.le_of_ble_eq_true rfl) ⟨by omega, by omega⟩ dL_law_1272 (fun v1272 w1272 hp1272 => ?_)
  refine g_wf (fun hwf2 => ?_)
  obtain ⟨τ2, A2, t2, pm2, le2, ri2, cm2, ans, hτ2, hv2, hM2, hk2, hcs⟩ := hp1272
  subst hv2
  obtain ⟨hg2, hr2, hkk, hans⟩ := b_compose hg hr hD hcs
  have hI2 := inv_md hwf1 hwf2 hC1 rfl ho hOV.u hk2 hτ2 hM2 hg2 (rl_pb hp2 hr2)
  refine g_istore C dL_law_1275 (by decide) rfl ?_
  refine g_goto (tgt := 2220) C dL_law_1277 (by decide) ?_
  exact g_drop 5 (g_drop 6 (g_widen (by omega) (by omega) (kk _ hI2)))
set_option maxHeartbeats 4000000 in
set_option maxRecDepth 100000 in
theorem lc_power {K : KC} {E : GE} {X : XT} {b N : Nat} {f : Nat → Int} {x m o t k n : Nat} {w : Wd} (LX : LawX K E X b N f) (ht : 5 * t + 5 ≤ N) (hI : INV x m o t w) (hk : k + 2000 ≤ 793047) (hn : n + 80000 ≤ 6722339) (kk : ∀ w', INV x m o (t + 1) w' → G E X 7 2220 (LL b x m o t) [] w' (k + 2000) (n + 80000)) : G E X 7 1280 (LL b x m o t) [] w k n := by
  obtain ⟨C, hT, hH, hls, ⟨hRf, hRl, hRc, hRs⟩, hS⟩ := LX
  have hf := hS.2.2.2.1
  have hN := hS.2.2.2.2
  obtain ⟨τ, ad, bs, ss, pb, P, Q, ct, A, th, ba, st, pm, le, ri, sp, cm, hC, hM, hx, ho, ⟨n0, s0, hO0⟩, hg, hr⟩ := hI
  subst hx
  refine g_wf (fun hwf => ?_)
  refine g_aload_n C dL_law_1280 rfl ?_
  refine g_aload_n C dL_law_1281 rfl ?_
  refine g_iload C dL_law_1282 rfl ?_
  refine g_iconst C dL_law_1284 ?_
  refine g_iadd C dL_law_1285 ?_
  refine g_sld (5 * t + 1) C hS (by omega) (by omega) dL_law_1286 ?_
  refine g_aload_n C dL_law_1287 rfl ?_
  refine g_iload C dL_law_1288 rfl ?_
  refine g_iconst C dL_law_1290 ?_
  refine g_iadd C dL_law_1291 ?_
  refine g_sld (5 * t + 2) C hS (by omega) (by omega) dL_law_1292 ?_
  refine g_aload_n C dL_law_1293 rfl ?_
  refine x_callH C hT hH (w_L_power _ hls hC ho hO0 (hf (5 * t + 1)) (hf (5 * t + 2))) ml_RL_255 sm_yL_power in_RL co_yL_power hd_L_power rfl ⟨by omega, by omega⟩ rfl (Nat.le_of_ble_eq_true rfl) ⟨by omega, by omega⟩ dL_law_1294 (fun v1 w1 hp => ?_)
  refine g_wf (fun hwf1 => ?_)
  obtain ⟨k1, nv, pb1, ct1, hv1, hOV, hnv, ⟨⟨pb2, hp2, hC1⟩, hkm⟩, hD⟩ := a_power hC ho ⟨n0, s0, hO0⟩ hp
  subst hv1
  have hM1 := hM.keep hkm.2
  refine g_istore C dL_law_1297 (by decide) rfl ?_
  refine g_aload_n C dL_law_1299 rfl ?_
  refine g_aload_n C dL_law_1300 rfl ?_
  refine g_iload C dL_law_1301 rfl ?_
  refine g_iconst C dL_law_1303 ?_
  refine g_iadd C dL_law_1304 ?_
  refine g_sld (5 * t + 1) C hS (by omega) (by omega) dL_law_1305 ?_
  refine g_aload_n C dL_law_1306 rfl ?_
  refine g_iload C dL_law_1307 rfl ?_
  refine g_iconst C dL_law_1309 ?_
  refine g_iadd C dL_law_1310 ?_
  refine g_sld (5 * t + 2) C hS (by omega) (by omega) dL_law_1311 ?_
  refine g_callV C (c_X8_power _ (hf (5 * t + 1)) (hf (5 * t + 2)) hM1 hg.2.2.1) (ci := 10) rfl hM1.o rfl ml_RL_257 im_yX8_power se_RX8_yX8_power in_RX8 co_yX8_power hd_X8_power rfl ⟨by omega, by omega⟩ rfl (Nat.le_of_ble_eq_true rfl) ⟨by omega, by omega⟩ dL_law_1312 (fun v1312 w1312 hp1312 => ?_)
  refine g_wf (fun hwf2 => ?_)
  obtain ⟨τ2, A2, t2, pm2, le2, ri2, cm2, ans, hτ2, hv2, hM2, hk2, hcs⟩ := hp1312
  subst hv2
  obtain ⟨hg2, hr2, hkk, hans⟩ := b_power hg hr hD hcs
  have hI2 := inv_md hwf1 hwf2 hC1 rfl ho hOV.u hk2 hτ2 hM2 hg2 (rl_pb hp2 hr2)
  refine g_istore C dL_law_1315 (by decide) rfl ?_
  refine g_goto (tgt := 2220) C dL_law_1317 (by decide) ?_
  exact g_drop 5 (g_drop 6 (g_widen (by omega) (by omega) (kk _ hI2)))
