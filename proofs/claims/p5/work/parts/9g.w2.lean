set_option maxHeartbeats 4000000 in
set_option maxRecDepth 100000 in
theorem lc_alike {K : KC} {E : GE} {X : XT} {b N : Nat} {f : Nat → Int} {x m o t k n : Nat} {w : Wd} (LX : LawX K E X b N f) (ht : 5 * t + 5 ≤ N) (hI : INV x m o t w) (hk : k + 2000 ≤ 912740) (hn : n + 80000 ≤ 6363261) (kk : ∀ w', INV x m o (t + 1) w' → G E X 7 2213 (LL b x m o t) [] w' (k + 2000) (n + 80000)) : G E X 7 813 (LL b x m o t) [] w k n := by
  obtain ⟨C, hT, hH, hls, ⟨hRf, hRl, hRc, hRs⟩, hS⟩ := LX
  have hf := hS.2.2.2.1
  have hN := hS.2.2.2.2
  obtain ⟨τ, ad, bs, ss, pb, P, Q, ct, A, th, ba, st, pm, le, ri, sp, cm, hC, hM, hx, ho, ⟨n0, s0, hO0⟩, hg, hr⟩ := hI
  subst hx
  refine g_wf (fun hwf => ?_)
  refine g_aload_n C dL_law_813 rfl ?_
  refine g_aload_n C dL_law_814 rfl ?_
  refine g_iload C dL_law_815 rfl ?_
  refine g_iconst C dL_law_817 ?_
  refine g_iadd C dL_law_818 ?_
  refine g_sld (5 * t + 1) C hS (by omega) (by omega) dL_law_819 ?_
  refine g_aload_n C dL_law_820 rfl ?_
  refine x_callH C hT hH (w_L_alike _ hls hC ho hO0 (hf (5 * t + 1))) ml_RL_220 sm_yL_alike in_RL co_yL_alike hd_L_alike rfl ⟨by omega, by omega⟩ rfl (Nat.le_of_ble_eq_true rfl) ⟨by omega, by omega⟩ dL_law_821 (fun v1 w1 hp => ?_)
  refine g_wf (fun hwf1 => ?_)
  obtain ⟨⟨k1, hv1, hk1⟩, hcalm⟩ := a_alike hC ho ⟨n0, s0, hO0⟩ hp
  subst hv1
  have hkm : KM τ w w1 := by
    obtain ⟨_, _, _, _, _, _, q, _⟩ := hcalm
    exact q
  have hM1 := hM.keep hkm.2
  refine g_istore C dL_law_824 (by decide) rfl ?_
  refine g_aload_n C dL_law_826 rfl ?_
  refine g_aload_n C dL_law_827 rfl ?_
  refine g_iload C dL_law_828 rfl ?_
  refine g_iconst C dL_law_830 ?_
  refine g_iadd C dL_law_831 ?_
  refine g_sld (5 * t + 1) C hS (by omega) (by omega) dL_law_832 ?_
  refine g_callV C (c_X8_alike _ (hf (5 * t + 1)) hM1 hg.1 hg.2.1) (ci := 10) rfl hM1.o rfl ml_RL_222 im_yX8_alike se_RX8_yX8_alike in_RX8 co_yX8_alike hd_X8_alike rfl ⟨by omega, by omega⟩ rfl (Nat.le_of_ble_eq_true rfl) ⟨by omega, by omega⟩ dL_law_833 (fun v833 w833 hp833 => ?_)
  refine g_wf (fun hwf2 => ?_)
  obtain ⟨t2, ans, hv2, hM2, hk2, hcs⟩ := hp833
  subst hv2
  have h02 : 0 ≤ t2 ∧ t2 ≤ 2 := by omega
  have hI2 := inv_ask hwf1 hwf2 hcalm rfl ho hk2 hM2 h02 hg hr
  refine g_istore C dL_law_836 (by decide) rfl ?_
  refine g_goto (tgt := 2213) C dL_law_838 (by decide) ?_
  exact g_drop 5 (g_drop 6 (g_widen (by omega) (by omega) (kk _ hI2)))
set_option maxHeartbeats 4000000 in
set_option maxRecDepth 100000 in
theorem lc_rootText {K : KC} {E : GE} {X : XT} {b N : Nat} {f : Nat → Int} {x m o t k n : Nat} {w : Wd} (LX : LawX K E X b N f) (ht : 5 * t + 5 ≤ N) (hI : INV x m o t w) (hk : k + 2000 ≤ 912740) (hn : n + 80000 ≤ 6363261) (kk : ∀ w', INV x m o (t + 1) w' → G E X 7 2213 (LL b x m o t) [] w' (k + 2000) (n + 80000)) : G E X 7 841 (LL b x m o t) [] w k n := by
  obtain ⟨C, hT, hH, hls, ⟨hRf, hRl, hRc, hRs⟩, hS⟩ := LX
  have hf := hS.2.2.2.1
  have hN := hS.2.2.2.2
  obtain ⟨τ, ad, bs, ss, pb, P, Q, ct, A, th, ba, st, pm, le, ri, sp, cm, hC, hM, hx, ho, ⟨n0, s0, hO0⟩, hg, hr⟩ := hI
  subst hx
  refine g_wf (fun hwf => ?_)
  refine g_aload_n C dL_law_841 rfl ?_
  refine g_aload_n C dL_law_842 rfl ?_
  refine g_iload C dL_law_843 rfl ?_
  refine g_iconst C dL_law_845 ?_
  refine g_iadd C dL_law_846 ?_
  refine g_sld (5 * t + 1) C hS (by omega) (by omega) dL_law_847 ?_
  refine g_aload_n C dL_law_848 rfl ?_
  refine g_iload C dL_law_849 rfl ?_
  refine g_iconst C dL_law_851 ?_
  refine g_iadd C dL_law_852 ?_
  refine g_sld (5 * t + 2) C hS (by omega) (by omega) dL_law_853 ?_
  refine g_aload_n C dL_law_854 rfl ?_
  refine x_callH C hT hH (w_L_rootText _ hls hC ho hO0 (hf (5 * t + 1)) (hf (5 * t + 2))) ml_RL_223 sm_yL_rootText in_RL co_yL_rootText hd_L_rootText rfl ⟨by omega, by omega⟩ rfl (Nat.le_of_ble_eq_true rfl) ⟨by omega, by omega⟩ dL_law_855 (fun v1 w1 hp => ?_)
  refine g_wf (fun hwf1 => ?_)
  obtain ⟨⟨k1, hv1, hk1⟩, hcalm⟩ := a_rootText hC ho ⟨n0, s0, hO0⟩ hp
  subst hv1
  have hkm : KM τ w w1 := by
    obtain ⟨_, _, _, _, _, _, q, _⟩ := hcalm
    exact q
  have hM1 := hM.keep hkm.2
  refine g_istore C dL_law_858 (by decide) rfl ?_
  refine g_aload_n C dL_law_860 rfl ?_
  refine g_aload_n C dL_law_861 rfl ?_
  refine g_iload C dL_law_862 rfl ?_
  refine g_iconst C dL_law_864 ?_
  refine g_iadd C dL_law_865 ?_
  refine g_sld (5 * t + 1) C hS (by omega) (by omega) dL_law_866 ?_
  refine g_aload_n C dL_law_867 rfl ?_
  refine g_iload C dL_law_868 rfl ?_
  refine g_iconst C dL_law_870 ?_
  refine g_iadd C dL_law_871 ?_
  refine g_sld (5 * t + 2) C hS (by omega) (by omega) dL_law_872 ?_
  refine t_callV C hT (c_X8_rootText _ (hf (5 * t + 1)) (hf (5 * t + 2)) hM1) (RcV.ob (ci := 10) C rfl hM1.o) rfl ml_RL_225 im_yX8_rootText se_RX8_yX8_rootText in_RX8 co_yX8_rootText hd_X8_rootText rfl ⟨by omega, by omega⟩ rfl (Nat.le_of_ble_eq_true rfl) ⟨by omega, by omega⟩ dL_law_873 (fun v873 w873 hp873 => ?_)
  refine g_wf (fun hwf2 => ?_)
  obtain ⟨t2, s2, hv2, hM2, hk2, h02⟩ := hp873
  subst hv2
  have hI2 := inv_ask hwf1 hwf2 hcalm rfl ho hk2 hM2 h02 hg hr
  refine g_astore C dL_law_876 (by decide) rfl ?_
  refine g_goto (tgt := 2213) C dL_law_878 (by decide) ?_
  exact g_drop 5 (g_drop 6 (g_widen (by omega) (by omega) (kk _ hI2)))
set_option maxHeartbeats 4000000 in
set_option maxRecDepth 100000 in
theorem lc_period {K : KC} {E : GE} {X : XT} {b N : Nat} {f : Nat → Int} {x m o t k n : Nat} {w : Wd} (LX : LawX K E X b N f) (ht : 5 * t + 5 ≤ N) (hI : INV x m o t w) (hk : k + 2000 ≤ 912740) (hn : n + 80000 ≤ 6363261) (kk : ∀ w', INV x m o (t + 1) w' → G E X 7 2213 (LL b x m o t) [] w' (k + 2000) (n + 80000)) : G E X 7 881 (LL b x m o t) [] w k n := by
  obtain ⟨C, hT, hH, hls, ⟨hRf, hRl, hRc, hRs⟩, hS⟩ := LX
  have hf := hS.2.2.2.1
  have hN := hS.2.2.2.2
  obtain ⟨τ, ad, bs, ss, pb, P, Q, ct, A, th, ba, st, pm, le, ri, sp, cm, hC, hM, hx, ho, ⟨n0, s0, hO0⟩, hg, hr⟩ := hI
  subst hx
  refine g_wf (fun hwf => ?_)
  refine g_aload_n C dL_law_881 rfl ?_
  refine g_aload_n C dL_law_882 rfl ?_
  refine g_iload C dL_law_883 rfl ?_
  refine g_iconst C dL_law_885 ?_
  refine g_iadd C dL_law_886 ?_
  refine g_sld (5 * t + 1) C hS (by omega) (by omega) dL_law_887 ?_
  refine g_aload_n C dL_law_888 rfl ?_
  refine x_callH C hT hH (w_L_period _ hls hC ho hO0 (hf (5 * t + 1))) ml_RL_226 sm_yL_period in_RL co_yL_period hd_L_period rfl ⟨by omega, by omega⟩ rfl (Nat.le_of_ble_eq_true rfl) ⟨by omega, by omega⟩ dL_law_889 (fun v1 w1 hp => ?_)
  refine g_wf (fun hwf1 => ?_)
  obtain ⟨⟨k1, hv1, hk1⟩, hcalm⟩ := a_period hC ho ⟨n0, s0, hO0⟩ hp
  subst hv1
  have hkm : KM τ w w1 := by
    obtain ⟨_, _, _, _, _, _, q, _⟩ := hcalm
    exact q
  have hM1 := hM.keep hkm.2
  refine g_istore C dL_law_892 (by decide) rfl ?_
  refine g_aload_n C dL_law_894 rfl ?_
  refine g_aload_n C dL_law_895 rfl ?_
  refine g_iload C dL_law_896 rfl ?_
  refine g_iconst C dL_law_898 ?_
  refine g_iadd C dL_law_899 ?_
  refine g_sld (5 * t + 1) C hS (by omega) (by omega) dL_law_900 ?_
  refine g_callV C (c_X8_period _ (hf (5 * t + 1)) hM1) (ci := 10) rfl hM1.o rfl ml_RL_228 im_yX8_period se_RX8_yX8_period in_RX8 co_yX8_period hd_X8_period rfl ⟨by omega, by omega⟩ rfl (Nat.le_of_ble_eq_true rfl) ⟨by omega, by omega⟩ dL_law_901 (fun v901 w901 hp901 => ?_)
  refine g_wf (fun hwf2 => ?_)
  obtain ⟨t2, ans, hv2, hM2, hk2, hcs⟩ := hp901
  subst hv2
  have h02 : 0 ≤ t2 ∧ t2 ≤ 2 := by omega
  have hI2 := inv_ask hwf1 hwf2 hcalm rfl ho hk2 hM2 h02 hg hr
  refine g_istore C dL_law_904 (by decide) rfl ?_
  refine g_goto (tgt := 2213) C dL_law_906 (by decide) ?_
  exact g_drop 5 (g_drop 6 (g_widen (by omega) (by omega) (kk _ hI2)))
set_option maxHeartbeats 4000000 in
set_option maxRecDepth 100000 in
theorem lc_periodText {K : KC} {E : GE} {X : XT} {b N : Nat} {f : Nat → Int} {x m o t k n : Nat} {w : Wd} (LX : LawX K E X b N f) (ht : 5 * t + 5 ≤ N) (hI : INV x m o t w) (hk : k + 2000 ≤ 912740) (hn : n + 80000 ≤ 6363261) (kk : ∀ w', INV x m o (t + 1) w' → G E X 7 2213 (LL b x m o t) [] w' (k + 2000) (n + 80000)) : G E X 7 909 (LL b x m o t) [] w k n := by
  obtain ⟨C, hT, hH, hls, ⟨hRf, hRl, hRc, hRs⟩, hS⟩ := LX
  have hf := hS.2.2.2.1
  have hN := hS.2.2.2.2
  obtain ⟨τ, ad, bs, ss, pb, P, Q, ct, A, th, ba, st, pm, le, ri, sp, cm, hC, hM, hx, ho, ⟨n0, s0, hO0⟩, hg, hr⟩ := hI
  subst hx
  refine g_wf (fun hwf => ?_)
  refine g_aload_n C dL_law_909 rfl ?_
  refine g_aload_n C dL_law_910 rfl ?_
  refine g_iload C dL_law_911 rfl ?_
  refine g_iconst C dL_law_913 ?_
  refine g_iadd C dL_law_914 ?_
  refine g_sld (5 * t + 1) C hS (by omega) (by omega) dL_law_915 ?_
  refine g_aload_n C dL_law_916 rfl ?_
  refine x_callH C hT hH (w_L_periodText _ hls hC ho hO0 (hf (5 * t + 1))) ml_RL_229 sm_yL_periodText in_RL co_yL_periodText hd_L_periodText rfl ⟨by omega, by omega⟩ rfl (Nat.le_of_ble_eq_true rfl) ⟨by omega, by omega⟩ dL_law_917 (fun v1 w1 hp => ?_)
  refine g_wf (fun hwf1 => ?_)
  obtain ⟨⟨k1, hv1, hk1⟩, hcalm⟩ := a_periodText hC ho ⟨n0, s0, hO0⟩ hp
  subst hv1
  have hkm : KM τ w w1 := by
    obtain ⟨_, _, _, _, _, _, q, _⟩ := hcalm
    exact q
  have hM1 := hM.keep hkm.2
  refine g_istore C dL_law_920 (by decide) rfl ?_
  refine g_aload_n C dL_law_922 rfl ?_
  refine g_aload_n C dL_law_923 rfl ?_
  refine g_iload C dL_law_924 rfl ?_
  refine g_iconst C dL_law_926 ?_
  refine g_iadd C dL_law_927 ?_
  refine g_sld (5 * t + 1) C hS (by omega) (by omega) dL_law_928 ?_
  refine t_callV C hT (c_X8_periodText _ (hf (5 * t + 1)) hM1) (RcV.ob (ci := 10) C rfl hM1.o) rfl ml_RL_231 im_yX8_periodText se_RX8_yX8_periodText in_RX8 co_yX8_periodText hd_X8_periodText rfl ⟨by omega, by omega⟩ rfl (Nat.le_of_ble_eq_true rfl) ⟨by omega, by omega⟩ dL_law_929 (fun v929 w929 hp929 => ?_)
  refine g_wf (fun hwf2 => ?_)
  obtain ⟨t2, s2, hv2, hM2, hk2, h02⟩ := hp929
  subst hv2
  have hI2 := inv_ask hwf1 hwf2 hcalm rfl ho hk2 hM2 h02 hg hr
  refine g_astore C dL_law_932 (by decide) rfl ?_
  refine g_goto (tgt := 2213) C dL_law_934 (by decide) ?_
  exact g_drop 5 (g_drop 6 (g_widen (by omega) (by omega) (kk _ hI2)))
set_option maxHeartbeats 4000000 in
set_option maxRecDepth 100000 in
theorem lc_solution {K : KC} {E : GE} {X : XT} {b N : Nat} {f : Nat → Int} {x m o t k n : Nat} {w : Wd} (LX : LawX K E X b N f) (ht : 5 * t + 5 ≤ N) (hI : INV x m o t w) (hk : k + 2000 ≤ 912740) (hn : n + 80000 ≤ 6363261) (kk : ∀ w', INV x m o (t + 1) w' → G E X 7 2213 (LL b x m o t) [] w' (k + 2000) (n + 80000)) : G E X 7 937 (LL b x m o t) [] w k n := by
  obtain ⟨C, hT, hH, hls, ⟨hRf, hRl, hRc, hRs⟩, hS⟩ := LX
  have hf := hS.2.2.2.1
  have hN := hS.2.2.2.2
  obtain ⟨τ, ad, bs, ss, pb, P, Q, ct, A, th, ba, st, pm, le, ri, sp, cm, hC, hM, hx, ho, ⟨n0, s0, hO0⟩, hg, hr⟩ := hI
  subst hx
  refine g_wf (fun hwf => ?_)
  refine g_aload_n C dL_law_937 rfl ?_
  refine g_aload_n C dL_law_938 rfl ?_
  refine g_iload C dL_law_939 rfl ?_
  refine g_iconst C dL_law_941 ?_
  refine g_iadd C dL_law_942 ?_
  refine g_sld (5 * t + 1) C hS (by omega) (by omega) dL_law_943 ?_
  refine g_aload_n C dL_law_944 rfl ?_
  refine g_iload C dL_law_945 rfl ?_
  refine g_iconst C dL_law_947 ?_
  refine g_iadd C dL_law_948 ?_
  refine g_sld (5 * t + 2) C hS (by omega) (by omega) dL_law_949 ?_
  refine g_bool C (hf _) dL_law_950 dL_law_953 dL_law_954 dL_law_957 ?_
  refine g_aload_n C dL_law_958 rfl ?_
  refine x_callH C hT hH (w_L_solution _ hls hC ho hO0 (hf (5 * t + 1)) (bI_01 _)) ml_RL_232 sm_yL_solution in_RL co_yL_solution hd_L_solution rfl ⟨by omega, by omega⟩ rfl (Nat.le_of_ble_eq_true rfl) ⟨by omega, by omega⟩ dL_law_959 (fun v1 w1 hp => ?_)
  refine g_wf (fun hwf1 => ?_)
  obtain ⟨⟨k1, hv1, hk1⟩, hcalm⟩ := a_solution hC ho ⟨n0, s0, hO0⟩ (y := bI (f (5 * t + 2) ≠ 0)) hp
  subst hv1
  have hkm : KM τ w w1 := by
    obtain ⟨_, _, _, _, _, _, q, _⟩ := hcalm
    exact q
  have hM1 := hM.keep hkm.2
  refine g_istore C dL_law_962 (by decide) rfl ?_
  refine g_aload_n C dL_law_964 rfl ?_
  refine g_aload_n C dL_law_965 rfl ?_
  refine g_iload C dL_law_966 rfl ?_
  refine g_iconst C dL_law_968 ?_
  refine g_iadd C dL_law_969 ?_
  refine g_sld (5 * t + 1) C hS (by omega) (by omega) dL_law_970 ?_
  refine g_aload_n C dL_law_971 rfl ?_
  refine g_iload C dL_law_972 rfl ?_
  refine g_iconst C dL_law_974 ?_
  refine g_iadd C dL_law_975 ?_
  refine g_sld (5 * t + 2) C hS (by omega) (by omega) dL_law_976 ?_
  refine g_bool C (hf _) dL_law_977 dL_law_980 dL_law_981 dL_law_984 ?_
  refine t_callV C hT (c_X8_solution _ (hf (5 * t + 1)) (bI_01 _) hM1) (RcV.ob (ci := 10) C rfl hM1.o) rfl ml_RL_235 im_yX8_solution se_RX8_yX8_solution in_RX8 co_yX8_solution hd_X8_solution rfl ⟨by omega, by omega⟩ rfl (Nat.le_of_ble_eq_true rfl) ⟨by omega, by omega⟩ dL_law_985 (fun v985 w985 hp985 => ?_)
  refine g_wf (fun hwf2 => ?_)
  obtain ⟨t2, s2, hv2, hM2, hk2, h02⟩ := hp985
  subst hv2
  have hI2 := inv_ask hwf1 hwf2 hcalm rfl ho hk2 hM2 h02 hg hr
  refine g_astore C dL_law_988 (by decide) rfl ?_
  refine g_goto (tgt := 2213) C dL_law_990 (by decide) ?_
  exact g_drop 5 (g_drop 6 (g_widen (by omega) (by omega) (kk _ hI2)))
set_option maxHeartbeats 4000000 in
set_option maxRecDepth 100000 in
theorem lc_minus {K : KC} {E : GE} {X : XT} {b N : Nat} {f : Nat → Int} {x m o t k n : Nat} {w : Wd} (LX : LawX K E X b N f) (ht : 5 * t + 5 ≤ N) (hI : INV x m o t w) (hk : k + 2000 ≤ 912740) (hn : n + 80000 ≤ 6363261) (kk : ∀ w', INV x m o (t + 1) w' → G E X 7 2213 (LL b x m o t) [] w' (k + 2000) (n + 80000)) : G E X 7 993 (LL b x m o t) [] w k n := by
  obtain ⟨C, hT, hH, hls, ⟨hRf, hRl, hRc, hRs⟩, hS⟩ := LX
  have hf := hS.2.2.2.1
  have hN := hS.2.2.2.2
  obtain ⟨τ, ad, bs, ss, pb, P, Q, ct, A, th, ba, st, pm, le, ri, sp, cm, hC, hM, hx, ho, ⟨n0, s0, hO0⟩, hg, hr⟩ := hI
  subst hx
  refine g_wf (fun hwf => ?_)
  refine g_aload_n C dL_law_993 rfl ?_
  refine g_aload_n C dL_law_994 rfl ?_
  refine g_iload C dL_law_995 rfl ?_
  refine g_iconst C dL_law_997 ?_
  refine g_iadd C dL_law_998 ?_
  refine g_sld (5 * t + 1) C hS (by omega) (by omega) dL_law_999 ?_
  refine g_aload_n C dL_law_1000 rfl ?_
  refine g_iload C dL_law_1001 rfl ?_
  refine g_iconst C dL_law_1003 ?_
  refine g_iadd C dL_law_1004 ?_
  refine g_sld (5 * t + 2) C hS (by omega) (by omega) dL_law_1005 ?_
  refine g_bool C (hf _) dL_law_1006 dL_law_1009 dL_law_1010 dL_law_1013 ?_
  refine g_aload_n C dL_law_1014 rfl ?_
  refine x_callH C hT hH (w_L_minus _ hls hC ho hO0 (hf (5 * t + 1)) (bI_01 _)) ml_RL_236 sm_yL_minus in_RL co_yL_minus hd_L_minus rfl ⟨by omega, by omega⟩ rfl (Nat.le_of_ble_eq_true rfl) ⟨by omega, by omega⟩ dL_law_1015 (fun v1 w1 hp => ?_)
  refine g_wf (fun hwf1 => ?_)
  obtain ⟨⟨k1, hv1, hk1⟩, hcalm⟩ := a_minus hC ho ⟨n0, s0, hO0⟩ (y := bI (f (5 * t + 2) ≠ 0)) hp
  subst hv1
  have hkm : KM τ w w1 := by
    obtain ⟨_, _, _, _, _, _, q, _⟩ := hcalm
    exact q
  have hM1 := hM.keep hkm.2
  refine g_istore C dL_law_1018 (by decide) rfl ?_
  refine g_aload_n C dL_law_1020 rfl ?_
  refine g_aload_n C dL_law_1021 rfl ?_
  refine g_iload C dL_law_1022 rfl ?_
  refine g_iconst C dL_law_1024 ?_
  refine g_iadd C dL_law_1025 ?_
  refine g_sld (5 * t + 1) C hS (by omega) (by omega) dL_law_1026 ?_
  refine g_aload_n C dL_law_1027 rfl ?_
  refine g_iload C dL_law_1028 rfl ?_
  refine g_iconst C dL_law_1030 ?_
  refine g_iadd C dL_law_1031 ?_
  refine g_sld (5 * t + 2) C hS (by omega) (by omega) dL_law_1032 ?_
  refine g_bool C (hf _) dL_law_1033 dL_law_1036 dL_law_1037 dL_law_1040 ?_
  refine t_callV C hT (c_X8_minus_ _ (hf (5 * t + 1)) (bI_01 _) hM1) (RcV.ob (ci := 10) C rfl hM1.o) rfl ml_RL_238 im_yX8_minus_ se_RX8_yX8_minus_ in_RX8 co_yX8_minus_ hd_X8_minus_ rfl ⟨by omega, by omega⟩ rfl (Nat.le_of_ble_eq_true rfl) ⟨by omega, by omega⟩ dL_law_1041 (fun v1041 w1041 hp1041 => ?_)
  refine g_wf (fun hwf2 => ?_)
  obtain ⟨t2, s2, hv2, hM2, hk2, h02⟩ := hp1041
  subst hv2
  have hI2 := inv_ask hwf1 hwf2 hcalm rfl ho hk2 hM2 h02 hg hr
  refine g_astore C dL_law_1044 (by decide) rfl ?_
  refine g_goto (tgt := 2213) C dL_law_1046 (by decide) ?_
  exact g_drop 5 (g_drop 6 (g_widen (by omega) (by omega) (kk _ hI2)))
set_option maxHeartbeats 4000000 in
set_option maxRecDepth 100000 in
theorem lc_middle {K : KC} {E : GE} {X : XT} {b N : Nat} {f : Nat → Int} {x m o t k n : Nat} {w : Wd} (LX : LawX K E X b N f) (ht : 5 * t + 5 ≤ N) (hI : INV x m o t w) (hk : k + 2000 ≤ 912740) (hn : n + 80000 ≤ 6363261) (kk : ∀ w', INV x m o (t + 1) w' → G E X 7 2213 (LL b x m o t) [] w' (k + 2000) (n + 80000)) : G E X 7 1049 (LL b x m o t) [] w k n := by
  obtain ⟨C, hT, hH, hls, ⟨hRf, hRl, hRc, hRs⟩, hS⟩ := LX
  have hf := hS.2.2.2.1
  have hN := hS.2.2.2.2
  obtain ⟨τ, ad, bs, ss, pb, P, Q, ct, A, th, ba, st, pm, le, ri, sp, cm, hC, hM, hx, ho, ⟨n0, s0, hO0⟩, hg, hr⟩ := hI
  subst hx
  refine g_wf (fun hwf => ?_)
  refine g_aload_n C dL_law_1049 rfl ?_
  refine g_aload_n C dL_law_1050 rfl ?_
  refine g_iload C dL_law_1051 rfl ?_
  refine g_iconst C dL_law_1053 ?_
  refine g_iadd C dL_law_1054 ?_
  refine g_sld (5 * t + 1) C hS (by omega) (by omega) dL_law_1055 ?_
  refine g_aload_n C dL_law_1056 rfl ?_
  refine x_callH C hT hH (w_L_middle _ hls hC ho hO0 (hf (5 * t + 1))) ml_RL_239 sm_yL_middle in_RL co_yL_middle hd_L_middle rfl ⟨by omega, by omega⟩ rfl (Nat.le_of_ble_eq_true rfl) ⟨by omega, by omega⟩ dL_law_1057 (fun v1 w1 hp => ?_)
  refine g_wf (fun hwf1 => ?_)
  obtain ⟨⟨k1, hv1, hk1⟩, hcalm⟩ := a_middle hC ho ⟨n0, s0, hO0⟩ hp
  subst hv1
  have hkm : KM τ w w1 := by
    obtain ⟨_, _, _, _, _, _, q, _⟩ := hcalm
    exact q
  have hM1 := hM.keep hkm.2
  refine g_istore C dL_law_1060 (by decide) rfl ?_
  refine g_aload_n C dL_law_1062 rfl ?_
  refine g_aload_n C dL_law_1063 rfl ?_
  refine g_iload C dL_law_1064 rfl ?_
  refine g_iconst C dL_law_1066 ?_
  refine g_iadd C dL_law_1067 ?_
  refine g_sld (5 * t + 1) C hS (by omega) (by omega) dL_law_1068 ?_
  refine t_callV C hT (c_X8_middle _ (hf (5 * t + 1)) hM1) (RcV.ob (ci := 10) C rfl hM1.o) rfl ml_RL_241 im_yX8_middle se_RX8_yX8_middle in_RX8 co_yX8_middle hd_X8_middle rfl ⟨by omega, by omega⟩ rfl (Nat.le_of_ble_eq_true rfl) ⟨by omega, by omega⟩ dL_law_1069 (fun v1069 w1069 hp1069 => ?_)
  refine g_wf (fun hwf2 => ?_)
  obtain ⟨t2, s2, hv2, hM2, hk2, h02⟩ := hp1069
  subst hv2
  have hI2 := inv_ask hwf1 hwf2 hcalm rfl ho hk2 hM2 h02 hg hr
  refine g_astore C dL_law_1072 (by decide) rfl ?_
  refine g_goto (tgt := 2213) C dL_law_1074 (by decide) ?_
  exact g_drop 5 (g_drop 6 (g_widen (by omega) (by omega) (kk _ hI2)))
set_option maxHeartbeats 4000000 in
set_option maxRecDepth 100000 in
theorem lc_put {K : KC} {E : GE} {X : XT} {b N : Nat} {f : Nat → Int} {x m o t k n : Nat} {w : Wd} (LX : LawX K E X b N f) (ht : 5 * t + 5 ≤ N) (hI : INV x m o t w) (hk : k + 2000 ≤ 912740) (hn : n + 80000 ≤ 6363261) (kk : ∀ w', INV x m o (t + 1) w' → G E X 7 2213 (LL b x m o t) [] w' (k + 2000) (n + 80000)) : G E X 7 1077 (LL b x m o t) [] w k n := by
  obtain ⟨C, hT, hH, hls, ⟨hRf, hRl, hRc, hRs⟩, hS⟩ := LX
  have hf := hS.2.2.2.1
  have hN := hS.2.2.2.2
  obtain ⟨τ, ad, bs, ss, pb, P, Q, ct, A, th, ba, st, pm, le, ri, sp, cm, hC, hM, hx, ho, ⟨n0, s0, hO0⟩, hg, hr⟩ := hI
  subst hx
  refine g_wf (fun hwf => ?_)
  refine g_aload_n C dL_law_1077 rfl ?_
  refine g_aload_n C dL_law_1078 rfl ?_
  refine g_iload C dL_law_1079 rfl ?_
  refine g_iconst C dL_law_1081 ?_
  refine g_iadd C dL_law_1082 ?_
  refine g_sld (5 * t + 1) C hS (by omega) (by omega) dL_law_1083 ?_
  refine g_aload_n C dL_law_1084 rfl ?_
  refine g_iload C dL_law_1085 rfl ?_
  refine g_iconst C dL_law_1087 ?_
  refine g_iadd C dL_law_1088 ?_
  refine g_sld (5 * t + 2) C hS (by omega) (by omega) dL_law_1089 ?_
  refine g_aload_n C dL_law_1090 rfl ?_
  refine g_iload C dL_law_1091 rfl ?_
  refine g_iconst C dL_law_1093 ?_
  refine g_iadd C dL_law_1094 ?_
  refine g_sld (5 * t + 3) C hS (by omega) (by omega) dL_law_1095 ?_
  refine g_aload_n C dL_law_1096 rfl ?_
  refine g_iload C dL_law_1097 rfl ?_
  refine g_iconst C dL_law_1099 ?_
  refine g_iadd C dL_law_1100 ?_
  refine g_sld (5 * t + 4) C hS (by omega) (by omega) dL_law_1101 ?_
  refine g_aload_n C dL_law_1102 rfl ?_
  refine x_callH C hT hH (w_L_put _ hls hC ho hO0 (hf (5 * t + 1)) (hf (5 * t + 2)) (hf (5 * t + 3)) (hf (5 * t + 4))) ml_RL_242 sm_yL_put in_RL co_yL_put hd_L_put rfl ⟨by omega, by omega⟩ rfl (Nat.le_of_ble_eq_true rfl) ⟨by omega, by omega⟩ dL_law_1103 (fun v1 w1 hp => ?_)
  refine g_wf (fun hwf1 => ?_)
  obtain ⟨k1, nv, pb1, ct1, hv1, hOV, hnv, ⟨⟨pb2, hp2, hC1⟩, hkm⟩, hD⟩ := a_put hC ho ⟨n0, s0, hO0⟩ hp
  subst hv1
  have hM1 := hM.keep hkm.2
  refine g_istore C dL_law_1106 (by decide) rfl ?_
  refine g_aload_n C dL_law_1108 rfl ?_
  refine g_aload_n C dL_law_1109 rfl ?_
  refine g_iload C dL_law_1110 rfl ?_
  refine g_iconst C dL_law_1112 ?_
  refine g_iadd C dL_law_1113 ?_
  refine g_sld (5 * t + 1) C hS (by omega) (by omega) dL_law_1114 ?_
  refine g_aload_n C dL_law_1115 rfl ?_
  refine g_iload C dL_law_1116 rfl ?_
  refine g_iconst C dL_law_1118 ?_
  refine g_iadd C dL_law_1119 ?_
  refine g_sld (5 * t + 2) C hS (by omega) (by omega) dL_law_1120 ?_
  refine g_aload_n C dL_law_1121 rfl ?_
  refine g_iload C dL_law_1122 rfl ?_
  refine g_iconst C dL_law_1124 ?_
  refine g_iadd C dL_law_1125 ?_
  refine g_sld (5 * t + 3) C hS (by omega) (by omega) dL_law_1126 ?_
  refine g_aload_n C dL_law_1127 rfl ?_
  refine g_iload C dL_law_1128 rfl ?_
  refine g_iconst C dL_law_1130 ?_
  refine g_iadd C dL_law_1131 ?_
  refine g_sld (5 * t + 4) C hS (by omega) (by omega) dL_law_1132 ?_
  refine g_callV C (c_X8_put _ (hf (5 * t + 1)) (hf (5 * t + 2)) (hf (5 * t + 3)) (hf (5 * t + 4)) hM1 hg.2.2.1) (ci := 10) rfl hM1.o rfl ml_RL_245 im_yX8_put se_RX8_yX8_put in_RX8 co_yX8_put hd_X8_put rfl ⟨by omega, by omega⟩ rfl (Nat.le_of_ble_eq_true rfl) ⟨by omega, by omega⟩ dL_law_1133 (fun v1133 w1133 hp1133 => ?_)
  refine g_wf (fun hwf2 => ?_)
  obtain ⟨τ2, A2, t2, pm2, le2, ri2, cm2, ans, hτ2, hv2, hM2, hk2, hcs⟩ := hp1133
  subst hv2
  obtain ⟨hg2, hr2, hkk, hans⟩ := b_put hg hr hD hcs
  have hI2 := inv_md hwf1 hwf2 hC1 rfl ho hOV.u hk2 hτ2 hM2 hg2 (rl_pb hp2 hr2)
  refine g_istore C dL_law_1136 (by decide) rfl ?_
  refine g_goto (tgt := 2213) C dL_law_1138 (by decide) ?_
  exact g_drop 5 (g_drop 6 (g_widen (by omega) (by omega) (kk _ hI2)))
set_option maxHeartbeats 4000000 in
set_option maxRecDepth 100000 in
theorem lc_take {K : KC} {E : GE} {X : XT} {b N : Nat} {f : Nat → Int} {x m o t k n : Nat} {w : Wd} (LX : LawX K E X b N f) (ht : 5 * t + 5 ≤ N) (hI : INV x m o t w) (hk : k + 2000 ≤ 912740) (hn : n + 80000 ≤ 6363261) (kk : ∀ w', INV x m o (t + 1) w' → G E X 7 2213 (LL b x m o t) [] w' (k + 2000) (n + 80000)) : G E X 7 1141 (LL b x m o t) [] w k n := by
  obtain ⟨C, hT, hH, hls, ⟨hRf, hRl, hRc, hRs⟩, hS⟩ := LX
  have hf := hS.2.2.2.1
  have hN := hS.2.2.2.2
  obtain ⟨τ, ad, bs, ss, pb, P, Q, ct, A, th, ba, st, pm, le, ri, sp, cm, hC, hM, hx, ho, ⟨n0, s0, hO0⟩, hg, hr⟩ := hI
  subst hx
  refine g_wf (fun hwf => ?_)
  refine g_aload_n C dL_law_1141 rfl ?_
  refine g_aload_n C dL_law_1142 rfl ?_
  refine g_iload C dL_law_1143 rfl ?_
  refine g_iconst C dL_law_1145 ?_
  refine g_iadd C dL_law_1146 ?_
  refine g_sld (5 * t + 1) C hS (by omega) (by omega) dL_law_1147 ?_
  refine g_aload_n C dL_law_1148 rfl ?_
  refine g_iload C dL_law_1149 rfl ?_
  refine g_iconst C dL_law_1151 ?_
  refine g_iadd C dL_law_1152 ?_
  refine g_sld (5 * t + 2) C hS (by omega) (by omega) dL_law_1153 ?_
  refine g_aload_n C dL_law_1154 rfl ?_
  refine x_callH C hT hH (w_L_take _ hls hC ho hO0 (hf (5 * t + 1)) (hf (5 * t + 2))) ml_RL_246 sm_yL_take in_RL co_yL_take hd_L_take rfl ⟨by omega, by omega⟩ rfl (Nat.le_of_ble_eq_true rfl) ⟨by omega, by omega⟩ dL_law_1155 (fun v1 w1 hp => ?_)
  refine g_wf (fun hwf1 => ?_)
  obtain ⟨k1, nv, pb1, ct1, hv1, hOV, hnv, ⟨⟨pb2, hp2, hC1⟩, hkm⟩, hD⟩ := a_take hC ho ⟨n0, s0, hO0⟩ hp
  subst hv1
  have hM1 := hM.keep hkm.2
  refine g_istore C dL_law_1158 (by decide) rfl ?_
  refine g_aload_n C dL_law_1160 rfl ?_
  refine g_aload_n C dL_law_1161 rfl ?_
  refine g_iload C dL_law_1162 rfl ?_
  refine g_iconst C dL_law_1164 ?_
  refine g_iadd C dL_law_1165 ?_
  refine g_sld (5 * t + 1) C hS (by omega) (by omega) dL_law_1166 ?_
  refine g_aload_n C dL_law_1167 rfl ?_
  refine g_iload C dL_law_1168 rfl ?_
  refine g_iconst C dL_law_1170 ?_
  refine g_iadd C dL_law_1171 ?_
  refine g_sld (5 * t + 2) C hS (by omega) (by omega) dL_law_1172 ?_
  refine g_callV C (c_X8_take _ (hf (5 * t + 1)) (hf (5 * t + 2)) hM1 hg.2.2.1 hg.1 hg.2.1) (ci := 10) rfl hM1.o rfl ml_RL_248 im_yX8_take se_RX8_yX8_take in_RX8 co_yX8_take hd_X8_take rfl ⟨by omega, by omega⟩ rfl (Nat.le_of_ble_eq_true rfl) ⟨by omega, by omega⟩ dL_law_1173 (fun v1173 w1173 hp1173 => ?_)
  refine g_wf (fun hwf2 => ?_)
  obtain ⟨τ2, A2, t2, pm2, le2, ri2, cm2, ans, hτ2, hv2, hM2, hk2, hcs⟩ := hp1173
  subst hv2
  obtain ⟨hg2, hr2, hkk, hans⟩ := b_take hg hr hD hcs
  have hI2 := inv_md hwf1 hwf2 hC1 rfl ho hOV.u hk2 hτ2 hM2 hg2 (rl_pb hp2 hr2)
  refine g_istore C dL_law_1176 (by decide) rfl ?_
  refine g_goto (tgt := 2213) C dL_law_1178 (by decide) ?_
  exact g_drop 5 (g_drop 6 (g_widen (by omega) (by omega) (kk _ hI2)))
set_option maxHeartbeats 4000000 in
set_option maxRecDepth 100000 in
theorem lc_least {K : KC} {E : GE} {X : XT} {b N : Nat} {f : Nat → Int} {x m o t k n : Nat} {w : Wd} (LX : LawX K E X b N f) (ht : 5 * t + 5 ≤ N) (hI : INV x m o t w) (hk : k + 2000 ≤ 912740) (hn : n + 80000 ≤ 6363261) (kk : ∀ w', INV x m o (t + 1) w' → G E X 7 2213 (LL b x m o t) [] w' (k + 2000) (n + 80000)) : G E X 7 1181 (LL b x m o t) [] w k n := by
  obtain ⟨C, hT, hH, hls, ⟨hRf, hRl, hRc, hRs⟩, hS⟩ := LX
  have hf := hS.2.2.2.1
  have hN := hS.2.2.2.2
  obtain ⟨τ, ad, bs, ss, pb, P, Q, ct, A, th, ba, st, pm, le, ri, sp, cm, hC, hM, hx, ho, ⟨n0, s0, hO0⟩, hg, hr⟩ := hI
  subst hx
  refine g_wf (fun hwf => ?_)
  refine g_aload_n C dL_law_1181 rfl ?_
  refine g_aload_n C dL_law_1182 rfl ?_
  refine g_iload C dL_law_1183 rfl ?_
  refine g_iconst C dL_law_1185 ?_
  refine g_iadd C dL_law_1186 ?_
  refine g_sld (5 * t + 1) C hS (by omega) (by omega) dL_law_1187 ?_
  refine g_aload_n C dL_law_1188 rfl ?_
  refine g_iload C dL_law_1189 rfl ?_
  refine g_iconst C dL_law_1191 ?_
  refine g_iadd C dL_law_1192 ?_
  refine g_sld (5 * t + 2) C hS (by omega) (by omega) dL_law_1193 ?_
  refine g_aload_n C dL_law_1194 rfl ?_
  refine x_callH C hT hH (w_L_least _ hls hC ho hO0 (hf (5 * t + 1)) (hf (5 * t + 2))) ml_RL_249 sm_yL_least in_RL co_yL_least hd_L_least rfl ⟨by omega, by omega⟩ rfl (Nat.le_of_ble_eq_true rfl) ⟨by omega, by omega⟩ dL_law_1195 (fun v1 w1 hp => ?_)
  refine g_wf (fun hwf1 => ?_)
  obtain ⟨k1, nv, pb1, ct1, hv1, hOV, hnv, ⟨⟨pb2, hp2, hC1⟩, hkm⟩, hD⟩ := a_least hC ho ⟨n0, s0, hO0⟩ hp
  subst hv1
  have hM1 := hM.keep hkm.2
  refine g_istore C dL_law_1198 (by decide) rfl ?_
  refine g_aload_n C dL_law_1200 rfl ?_
  refine g_aload_n C dL_law_1201 rfl ?_
  refine g_iload C dL_law_1202 rfl ?_
  refine g_iconst C dL_law_1204 ?_
  refine g_iadd C dL_law_1205 ?_
  refine g_sld (5 * t + 1) C hS (by omega) (by omega) dL_law_1206 ?_
  refine g_aload_n C dL_law_1207 rfl ?_
  refine g_iload C dL_law_1208 rfl ?_
  refine g_iconst C dL_law_1210 ?_
  refine g_iadd C dL_law_1211 ?_
  refine g_sld (5 * t + 2) C hS (by omega) (by omega) dL_law_1212 ?_
  refine g_callV C (c_X8_least _ (hf (5 * t + 1)) (hf (5 * t + 2)) hM1 hg.2.2.1) (ci := 10) rfl hM1.o rfl ml_RL_251 im_yX8_least se_RX8_yX8_least in_RX8 co_yX8_least hd_X8_least rfl ⟨by omega, by omega⟩ rfl (Nat.le_of_ble_eq_true rfl) ⟨by omega, by omega⟩ dL_law_1213 (fun v1213 w1213 hp1213 => ?_)
  refine g_wf (fun hwf2 => ?_)
  obtain ⟨τ2, A2, t2, pm2, le2, ri2, cm2, ans, hτ2, hv2, hM2, hk2, hcs⟩ := hp1213
  subst hv2
  obtain ⟨hg2, hr2, hkk, hans⟩ := b_least hg hr hD hcs
  have hI2 := inv_md hwf1 hwf2 hC1 rfl ho hOV.u hk2 hτ2 hM2 hg2 (rl_pb hp2 hr2)
  refine g_istore C dL_law_1216 (by decide) rfl ?_
  refine g_goto (tgt := 2213) C dL_law_1218 (by decide) ?_
  exact g_drop 5 (g_drop 6 (g_widen (by omega) (by omega) (kk _ hI2)))
set_option maxHeartbeats 4000000 in
set_option maxRecDepth 100000 in
theorem lc_compose {K : KC} {E : GE} {X : XT} {b N : Nat} {f : Nat → Int} {x m o t k n : Nat} {w : Wd} (LX : LawX K E X b N f) (ht : 5 * t + 5 ≤ N) (hI : INV x m o t w) (hk : k + 2000 ≤ 912740) (hn : n + 80000 ≤ 6363261) (kk : ∀ w', INV x m o (t + 1) w' → G E X 7 2213 (LL b x m o t) [] w' (k + 2000) (n + 80000)) : G E X 7 1221 (LL b x m o t) [] w k n := by
  obtain ⟨C, hT, hH, hls, ⟨hRf, hRl, hRc, hRs⟩, hS⟩ := LX
  have hf := hS.2.2.2.1
  have hN := hS.2.2.2.2
  obtain ⟨τ, ad, bs, ss, pb, P, Q, ct, A, th, ba, st, pm, le, ri, sp, cm, hC, hM, hx, ho, ⟨n0, s0, hO0⟩, hg, hr⟩ := hI
  subst hx
  refine g_wf (fun hwf => ?_)
  refine g_aload_n C dL_law_1221 rfl ?_
  refine g_aload_n C dL_law_1222 rfl ?_
  refine g_iload C dL_law_1223 rfl ?_
  refine g_iconst C dL_law_1225 ?_
  refine g_iadd C dL_law_1226 ?_
  refine g_sld (5 * t + 1) C hS (by omega) (by omega) dL_law_1227 ?_
  refine g_aload_n C dL_law_1228 rfl ?_
  refine g_iload C dL_law_1229 rfl ?_
  refine g_iconst C dL_law_1231 ?_
  refine g_iadd C dL_law_1232 ?_
  refine g_sld (5 * t + 2) C hS (by omega) (by omega) dL_law_1233 ?_
  refine g_aload_n C dL_law_1234 rfl ?_
  refine g_iload C dL_law_1235 rfl ?_
  refine g_iconst C dL_law_1237 ?_
  refine g_iadd C dL_law_1238 ?_
  refine g_sld (5 * t + 3) C hS (by omega) (by omega) dL_law_1239 ?_
  refine g_aload_n C dL_law_1240 rfl ?_
  refine x_callH C hT hH (w_L_compose _ hls hC ho hO0 (hf (5 * t + 1)) (hf (5 * t + 2)) (hf (5 * t + 3))) ml_RL_252 sm_yL_compose in_RL co_yL_compose hd_L_compose rfl ⟨by omega, by omega⟩ rfl (Nat.le_of_ble_eq_true rfl) ⟨by omega, by omega⟩ dL_law_1241 (fun v1 w1 hp => ?_)
  refine g_wf (fun hwf1 => ?_)
  obtain ⟨k1, nv, pb1, ct1, hv1, hOV, hnv, ⟨⟨pb2, hp2, hC1⟩, hkm⟩, hD⟩ := a_compose hC ho ⟨n0, s0, hO0⟩ hp
  subst hv1
  have hM1 := hM.keep hkm.2
  refine g_istore C dL_law_1244 (by decide) rfl ?_
  refine g_aload_n C dL_law_1246 rfl ?_
  refine g_aload_n C dL_law_1247 rfl ?_
  refine g_iload C dL_law_1248 rfl ?_
  refine g_iconst C dL_law_1250 ?_
  refine g_iadd C dL_law_1251 ?_
  refine g_sld (5 * t + 1) C hS (by omega) (by omega) dL_law_1252 ?_
  refine g_aload_n C dL_law_1253 rfl ?_
  refine g_iload C dL_law_1254 rfl ?_
  refine g_iconst C dL_law_1256 ?_
  refine g_iadd C dL_law_1257 ?_
  refine g_sld (5 * t + 2) C hS (by omega) (by omega) dL_law_1258 ?_
  refine g_aload_n C dL_law_1259 rfl ?_
  refine g_iload C dL_law_1260 rfl ?_
  refine g_iconst C dL_law_1262 ?_
  refine g_iadd C dL_law_1263 ?_
  refine g_sld (5 * t + 3) C hS (by omega) (by omega) dL_law_1264 ?_
  refine g_callV C (c_X8_compose _ (hf (5 * t + 1)) (hf (5 * t + 2)) (hf (5 * t + 3)) hM1 hg.2.2.1) (ci := 10) rfl hM1.o rfl ml_RL_254 im_yX8_compose se_RX8_yX8_compose in_RX8 co_yX8_compose hd_X8_compose rfl ⟨by omega, by omega⟩ rfl (Nat.le_of_ble_eq_true rfl) ⟨by omega, by omega⟩ dL_law_1265 (fun v1265 w1265 hp1265 => ?_)
  refine g_wf (fun hwf2 => ?_)
  obtain ⟨τ2, A2, t2, pm2, le2, ri2, cm2, ans, hτ2, hv2, hM2, hk2, hcs⟩ := hp1265
  subst hv2
  obtain ⟨hg2, hr2, hkk, hans⟩ := b_compose hg hr hD hcs
  have hI2 := inv_md hwf1 hwf2 hC1 rfl ho hOV.u hk2 hτ2 hM2 hg2 (rl_pb hp2 hr2)
  refine g_istore C dL_law_1268 (by decide) rfl ?_
  refine g_goto (tgt := 2213) C dL_law_1270 (by decide) ?_
  exact g_drop 5 (g_drop 6 (g_widen (by omega) (by omega) (kk _ hI2)))
set_option maxHeartbeats 4000000 in
set_option maxRecDepth 100000 in
theorem lc_power {K : KC} {E : GE} {X : XT} {b N : Nat} {f : Nat → Int} {x m o t k n : Nat} {w : Wd} (LX : LawX K E X b N f) (ht : 5 * t + 5 ≤ N) (hI : INV x m o t w) (hk : k + 2000 ≤ 912740) (hn : n + 80000 ≤ 6363261) (kk : ∀ w', INV x m o (t + 1) w' → G E X 7 2213 (LL b x m o t) [] w' (k + 2000) (n + 80000)) : G E X 7 1273 (LL b x m o t) [] w k n := by
  obtain ⟨C, hT, hH, hls, ⟨hRf, hRl, hRc, hRs⟩, hS⟩ := LX
  have hf := hS.2.2.2.1
  have hN := hS.2.2.2.2
  obtain ⟨τ, ad, bs, ss, pb, P, Q, ct, A, th, ba, st, pm, le, ri, sp, cm, hC, hM, hx, ho, ⟨n0, s0, hO0⟩, hg, hr⟩ := hI
  subst hx
  refine g_wf (fun hwf => ?_)
  refine g_aload_n C dL_law_1273 rfl ?_
  refine g_aload_n C dL_law_1274 rfl ?_
  refine g_iload C dL_law_1275 rfl ?_
  refine g_iconst C dL_law_1277 ?_
  refine g_iadd C dL_law_1278 ?_
  refine g_sld (5 * t + 1) C hS (by omega) (by omega) dL_law_1279 ?_
  refine g_aload_n C dL_law_1280 rfl ?_
  refine g_iload C dL_law_1281 rfl ?_
  refine g_iconst C dL_law_1283 ?_
  refine g_iadd C dL_law_1284 ?_
  refine g_sld (5 * t + 2) C hS (by omega) (by omega) dL_law_1285 ?_
  refine g_aload_n C dL_law_1286 rfl ?_
  refine x_callH C hT hH (w_L_power _ hls hC ho hO0 (hf (5 * t + 1)) (hf (5 * t + 2))) ml_RL_255 sm_yL_power in_RL co_yL_power hd_L_power rfl ⟨by omega, by omega⟩ rfl (Nat.le_of_ble_eq_true rfl) ⟨by omega, by omega⟩ dL_law_1287 (fun v1 w1 hp => ?_)
  refine g_wf (fun hwf1 => ?_)
  obtain ⟨k1, nv, pb1, ct1, hv1, hOV, hnv, ⟨⟨pb2, hp2, hC1⟩, hkm⟩, hD⟩ := a_power hC ho ⟨n0, s0, hO0⟩ hp
  subst hv1
  have hM1 := hM.keep hkm.2
  refine g_istore C dL_law_1290 (by decide) rfl ?_
  refine g_aload_n C dL_law_1292 rfl ?_
  refine g_aload_n C dL_law_1293 rfl ?_
  refine g_iload C dL_law_1294 rfl ?_
  refine g_iconst C dL_law_1296 ?_
  refine g_iadd C dL_law_1297 ?_
  refine g_sld (5 * t + 1) C hS (by omega) (by omega) dL_law_1298 ?_
  refine g_aload_n C dL_law_1299 rfl ?_
  refine g_iload C dL_law_1300 rfl ?_
  refine g_iconst C dL_law_1302 ?_
  refine g_iadd C dL_law_1303 ?_
  refine g_sld (5 * t + 2) C hS (by omega) (by omega) dL_law_1304 ?_
  refine g_callV C (c_X8_power _ (hf (5 * t + 1)) (hf (5 * t + 2)) hM1 hg.2.2.1) (ci := 10) rfl hM1.o rfl ml_RL_257 im_yX8_power se_RX8_yX8_power in_RX8 co_yX8_power hd_X8_power rfl ⟨by omega, by omega⟩ rfl (Nat.le_of_ble_eq_true rfl) ⟨by omega, by omega⟩ dL_law_1305 (fun v1305 w1305 hp1305 => ?_)
  refine g_wf (fun hwf2 => ?_)
  obtain ⟨τ2, A2, t2, pm2, le2, ri2, cm2, ans, hτ2, hv2, hM2, hk2, hcs⟩ := hp1305
  subst hv2
  obtain ⟨hg2, hr2, hkk, hans⟩ := b_power hg hr hD hcs
  have hI2 := inv_md hwf1 hwf2 hC1 rfl ho hOV.u hk2 hτ2 hM2 hg2 (rl_pb hp2 hr2)
  refine g_istore C dL_law_1308 (by decide) rfl ?_
  refine g_goto (tgt := 2213) C dL_law_1310 (by decide) ?_
  exact g_drop 5 (g_drop 6 (g_widen (by omega) (by omega) (kk _ hI2)))
