set_option maxHeartbeats 4000000 in
set_option maxRecDepth 100000 in
theorem lc_euclid {K : KC} {E : GE} {X : XT} {b N : Nat} {f : Nat → Int} {x m o t k n : Nat} {w : Wd} (LX : LawX K E X b N f) (ht : 5 * t + 5 ≤ N) (hI : INV x m o t w) (hk : k + 2000 ≤ 912740) (hn : n + 80000 ≤ 6363261) (kk : ∀ w', INV x m o (t + 1) w' → G E X 7 2213 (LL b x m o t) [] w' (k + 2000) (n + 80000)) : G E X 7 1874 (LL b x m o t) [] w k n := by
  obtain ⟨C, hT, hH, hls, ⟨hRf, hRl, hRc, hRs⟩, hS⟩ := LX
  have hf := hS.2.2.2.1
  have hN := hS.2.2.2.2
  obtain ⟨τ, ad, bs, ss, pb, P, Q, ct, A, th, ba, st, pm, le, ri, sp, cm, hC, hM, hx, ho, ⟨n0, s0, hO0⟩, hg, hr⟩ := hI
  subst hx
  refine g_wf (fun hwf => ?_)
  refine g_aload_n C dL_law_1874 rfl ?_
  refine g_aload_n C dL_law_1875 rfl ?_
  refine g_iload C dL_law_1876 rfl ?_
  refine g_iconst C dL_law_1878 ?_
  refine g_iadd C dL_law_1879 ?_
  refine g_sld (5 * t + 1) C hS (by omega) (by omega) dL_law_1880 ?_
  refine g_aload_n C dL_law_1881 rfl ?_
  refine x_callH C hT hH (w_L_euclid _ hls hC ho hO0 (hf (5 * t + 1))) ml_RL_297 sm_yL_euclid in_RL co_yL_euclid hd_L_euclid rfl ⟨by omega, by omega⟩ rfl (Nat.le_of_ble_eq_true rfl) ⟨by omega, by omega⟩ dL_law_1882 (fun v1 w1 hp => ?_)
  refine g_wf (fun hwf1 => ?_)
  obtain ⟨k1, nv, Q1, ct1, hv1, hOV, hnv, ⟨⟨pb2, hp2, hC1⟩, hkm⟩, hD⟩ := a_euclid hC ho ⟨n0, s0, hO0⟩ hp
  subst hv1
  have hM1 := hM.keep hkm.2
  refine g_istore C dL_law_1885 (by decide) rfl ?_
  refine g_aload_n C dL_law_1887 rfl ?_
  refine g_aload_n C dL_law_1888 rfl ?_
  refine g_iload C dL_law_1889 rfl ?_
  refine g_iconst C dL_law_1891 ?_
  refine g_iadd C dL_law_1892 ?_
  refine g_sld (5 * t + 1) C hS (by omega) (by omega) dL_law_1893 ?_
  refine g_callV C (c_X8_euclid _ (hf (5 * t + 1)) hM1 hg.2.2.2.1) (ci := 10) rfl hM1.o rfl ml_RL_299 im_yX8_euclid se_RX8_yX8_euclid in_RX8 co_yX8_euclid hd_X8_euclid rfl ⟨by omega, by omega⟩ rfl (Nat.le_of_ble_eq_true rfl) ⟨by omega, by omega⟩ dL_law_1894 (fun v1894 w1894 hp1894 => ?_)
  refine g_wf (fun hwf2 => ?_)
  obtain ⟨t2, sp2, cm2, ans, hv2, hM2, hk2, hcs⟩ := hp1894
  subst hv2
  obtain ⟨hg2, hr2, hkk, hans⟩ := b_euclid hg hr hD hcs
  have hI2 := inv_md hwf1 hwf2 hC1 rfl ho hOV.u hk2 (fun _ _ => rfl) hM2 hg2 (rl_pb hp2 hr2)
  refine g_istore C dL_law_1897 (by decide) rfl ?_
  refine g_goto (tgt := 2213) C dL_law_1899 (by decide) ?_
  exact g_drop 5 (g_drop 6 (g_widen (by omega) (by omega) (kk _ hI2)))
set_option maxHeartbeats 4000000 in
set_option maxRecDepth 100000 in
theorem lc_settle {K : KC} {E : GE} {X : XT} {b N : Nat} {f : Nat → Int} {x m o t k n : Nat} {w : Wd} (LX : LawX K E X b N f) (ht : 5 * t + 5 ≤ N) (hI : INV x m o t w) (hk : k + 2000 ≤ 912740) (hn : n + 80000 ≤ 6363261) (kk : ∀ w', INV x m o (t + 1) w' → G E X 7 2213 (LL b x m o t) [] w' (k + 2000) (n + 80000)) : G E X 7 1902 (LL b x m o t) [] w k n := by
  obtain ⟨C, hT, hH, hls, ⟨hRf, hRl, hRc, hRs⟩, hS⟩ := LX
  have hf := hS.2.2.2.1
  have hN := hS.2.2.2.2
  obtain ⟨τ, ad, bs, ss, pb, P, Q, ct, A, th, ba, st, pm, le, ri, sp, cm, hC, hM, hx, ho, ⟨n0, s0, hO0⟩, hg, hr⟩ := hI
  subst hx
  refine g_wf (fun hwf => ?_)
  refine g_aload_n C dL_law_1902 rfl ?_
  refine g_aload_n C dL_law_1903 rfl ?_
  refine g_iload C dL_law_1904 rfl ?_
  refine g_iconst C dL_law_1906 ?_
  refine g_iadd C dL_law_1907 ?_
  refine g_sld (5 * t + 1) C hS (by omega) (by omega) dL_law_1908 ?_
  refine g_aload_n C dL_law_1909 rfl ?_
  refine x_callH C hT hH (w_L_settle _ hls hC ho hO0 (hf (5 * t + 1))) ml_RL_300 sm_yL_settle in_RL co_yL_settle hd_L_settle rfl ⟨by omega, by omega⟩ rfl (Nat.le_of_ble_eq_true rfl) ⟨by omega, by omega⟩ dL_law_1910 (fun v1 w1 hp => ?_)
  refine g_wf (fun hwf1 => ?_)
  obtain ⟨k1, nv, Q1, ct1, hv1, hOV, hnv, ⟨⟨pb2, hp2, hC1⟩, hkm⟩, hD⟩ := a_settle hC ho ⟨n0, s0, hO0⟩ hp
  subst hv1
  have hM1 := hM.keep hkm.2
  refine g_istore C dL_law_1913 (by decide) rfl ?_
  refine g_aload_n C dL_law_1915 rfl ?_
  refine g_aload_n C dL_law_1916 rfl ?_
  refine g_iload C dL_law_1917 rfl ?_
  refine g_iconst C dL_law_1919 ?_
  refine g_iadd C dL_law_1920 ?_
  refine g_sld (5 * t + 1) C hS (by omega) (by omega) dL_law_1921 ?_
  refine g_callV C (c_X8_settle _ (hf (5 * t + 1)) hM1 hg.2.2.2.1) (ci := 10) rfl hM1.o rfl ml_RL_302 im_yX8_settle se_RX8_yX8_settle in_RX8 co_yX8_settle hd_X8_settle rfl ⟨by omega, by omega⟩ rfl (Nat.le_of_ble_eq_true rfl) ⟨by omega, by omega⟩ dL_law_1922 (fun v1922 w1922 hp1922 => ?_)
  refine g_wf (fun hwf2 => ?_)
  obtain ⟨t2, sp2, cm2, ans, hv2, hM2, hk2, hcs⟩ := hp1922
  subst hv2
  obtain ⟨hg2, hr2, hkk, hans⟩ := b_settle hg hr hD hcs
  have hI2 := inv_md hwf1 hwf2 hC1 rfl ho hOV.u hk2 (fun _ _ => rfl) hM2 hg2 (rl_pb hp2 hr2)
  refine g_istore C dL_law_1925 (by decide) rfl ?_
  refine g_goto (tgt := 2213) C dL_law_1927 (by decide) ?_
  exact g_drop 5 (g_drop 6 (g_widen (by omega) (by omega) (kk _ hI2)))
set_option maxHeartbeats 4000000 in
set_option maxRecDepth 100000 in
theorem lc_splitNumber {K : KC} {E : GE} {X : XT} {b N : Nat} {f : Nat → Int} {x m o t k n : Nat} {w : Wd} (LX : LawX K E X b N f) (ht : 5 * t + 5 ≤ N) (hI : INV x m o t w) (hk : k + 2000 ≤ 912740) (hn : n + 80000 ≤ 6363261) (kk : ∀ w', INV x m o (t + 1) w' → G E X 7 2213 (LL b x m o t) [] w' (k + 2000) (n + 80000)) : G E X 7 1930 (LL b x m o t) [] w k n := by
  obtain ⟨C, hT, hH, hls, ⟨hRf, hRl, hRc, hRs⟩, hS⟩ := LX
  have hf := hS.2.2.2.1
  have hN := hS.2.2.2.2
  obtain ⟨τ, ad, bs, ss, pb, P, Q, ct, A, th, ba, st, pm, le, ri, sp, cm, hC, hM, hx, ho, ⟨n0, s0, hO0⟩, hg, hr⟩ := hI
  subst hx
  refine g_wf (fun hwf => ?_)
  refine g_aload_n C dL_law_1930 rfl ?_
  refine g_aload_n C dL_law_1931 rfl ?_
  refine g_iload C dL_law_1932 rfl ?_
  refine g_iconst C dL_law_1934 ?_
  refine g_iadd C dL_law_1935 ?_
  refine g_sld (5 * t + 1) C hS (by omega) (by omega) dL_law_1936 ?_
  refine g_aload_n C dL_law_1937 rfl ?_
  refine g_iload C dL_law_1938 rfl ?_
  refine g_iconst C dL_law_1940 ?_
  refine g_iadd C dL_law_1941 ?_
  refine g_sld (5 * t + 2) C hS (by omega) (by omega) dL_law_1942 ?_
  refine g_aload_n C dL_law_1943 rfl ?_
  refine x_callH C hT hH (w_L_splitNumber _ hls hC ho hO0 (hf (5 * t + 1)) (hf (5 * t + 2))) ml_RL_303 sm_yL_splitNumber in_RL co_yL_splitNumber hd_L_splitNumber rfl ⟨by omega, by omega⟩ rfl (Nat.le_of_ble_eq_true rfl) ⟨by omega, by omega⟩ dL_law_1944 (fun v1 w1 hp => ?_)
  refine g_wf (fun hwf1 => ?_)
  obtain ⟨⟨k1, hv1, hk1⟩, hcalm⟩ := a_splitNumber hC ho ⟨n0, s0, hO0⟩ hp
  subst hv1
  have hkm : KM τ w w1 := by
    obtain ⟨_, _, _, _, _, _, q, _⟩ := hcalm
    exact q
  have hM1 := hM.keep hkm.2
  refine g_istore C dL_law_1947 (by decide) rfl ?_
  refine g_aload_n C dL_law_1949 rfl ?_
  refine g_aload_n C dL_law_1950 rfl ?_
  refine g_iload C dL_law_1951 rfl ?_
  refine g_iconst C dL_law_1953 ?_
  refine g_iadd C dL_law_1954 ?_
  refine g_sld (5 * t + 1) C hS (by omega) (by omega) dL_law_1955 ?_
  refine g_aload_n C dL_law_1956 rfl ?_
  refine g_iload C dL_law_1957 rfl ?_
  refine g_iconst C dL_law_1959 ?_
  refine g_iadd C dL_law_1960 ?_
  refine g_sld (5 * t + 2) C hS (by omega) (by omega) dL_law_1961 ?_
  refine g_callV C (c_X8_splitNumber _ (hf (5 * t + 1)) (hf (5 * t + 2)) hM1 hg.2.2.2.1) (ci := 10) rfl hM1.o rfl ml_RL_305 im_yX8_splitNumber se_RX8_yX8_splitNumber in_RX8 co_yX8_splitNumber hd_X8_splitNumber rfl ⟨by omega, by omega⟩ rfl (Nat.le_of_ble_eq_true rfl) ⟨by omega, by omega⟩ dL_law_1962 (fun v1962 w1962 hp1962 => ?_)
  refine g_wf (fun hwf2 => ?_)
  obtain ⟨t2, ans, hv2, hM2, hk2, hcs⟩ := hp1962
  subst hv2
  have h02 : 0 ≤ t2 ∧ t2 ≤ 2 := by omega
  have hI2 := inv_ask hwf1 hwf2 hcalm rfl ho hk2 hM2 h02 hg hr
  refine g_istore C dL_law_1965 (by decide) rfl ?_
  refine g_goto (tgt := 2213) C dL_law_1967 (by decide) ?_
  exact g_drop 5 (g_drop 6 (g_widen (by omega) (by omega) (kk _ hI2)))
set_option maxHeartbeats 4000000 in
set_option maxRecDepth 100000 in
theorem lc_way {K : KC} {E : GE} {X : XT} {b N : Nat} {f : Nat → Int} {x m o t k n : Nat} {w : Wd} (LX : LawX K E X b N f) (ht : 5 * t + 5 ≤ N) (hI : INV x m o t w) (hk : k + 2000 ≤ 912740) (hn : n + 80000 ≤ 6363261) (kk : ∀ w', INV x m o (t + 1) w' → G E X 7 2213 (LL b x m o t) [] w' (k + 2000) (n + 80000)) : G E X 7 1970 (LL b x m o t) [] w k n := by
  obtain ⟨C, hT, hH, hls, ⟨hRf, hRl, hRc, hRs⟩, hS⟩ := LX
  have hf := hS.2.2.2.1
  have hN := hS.2.2.2.2
  obtain ⟨τ, ad, bs, ss, pb, P, Q, ct, A, th, ba, st, pm, le, ri, sp, cm, hC, hM, hx, ho, ⟨n0, s0, hO0⟩, hg, hr⟩ := hI
  subst hx
  refine g_wf (fun hwf => ?_)
  refine g_aload_n C dL_law_1970 rfl ?_
  refine g_aload_n C dL_law_1971 rfl ?_
  refine g_iload C dL_law_1972 rfl ?_
  refine g_iconst C dL_law_1974 ?_
  refine g_iadd C dL_law_1975 ?_
  refine g_sld (5 * t + 1) C hS (by omega) (by omega) dL_law_1976 ?_
  refine g_aload_n C dL_law_1977 rfl ?_
  refine x_callH C hT hH (w_L_way _ hls hC ho hO0 (hf (5 * t + 1))) ml_RL_306 sm_yL_way in_RL co_yL_way hd_L_way rfl ⟨by omega, by omega⟩ rfl (Nat.le_of_ble_eq_true rfl) ⟨by omega, by omega⟩ dL_law_1978 (fun v1 w1 hp => ?_)
  refine g_wf (fun hwf1 => ?_)
  obtain ⟨⟨k1, hv1, hk1⟩, hcalm⟩ := a_way hC ho ⟨n0, s0, hO0⟩ hp
  subst hv1
  have hkm : KM τ w w1 := by
    obtain ⟨_, _, _, _, _, _, q, _⟩ := hcalm
    exact q
  have hM1 := hM.keep hkm.2
  refine g_istore C dL_law_1981 (by decide) rfl ?_
  refine g_aload_n C dL_law_1983 rfl ?_
  refine g_aload_n C dL_law_1984 rfl ?_
  refine g_iload C dL_law_1985 rfl ?_
  refine g_iconst C dL_law_1987 ?_
  refine g_iadd C dL_law_1988 ?_
  refine g_sld (5 * t + 1) C hS (by omega) (by omega) dL_law_1989 ?_
  refine t_callV C hT (c_X8_way _ (hf (5 * t + 1)) hM1 hg.2.2.2.1) (RcV.ob (ci := 10) C rfl hM1.o) rfl ml_RL_308 im_yX8_way se_RX8_yX8_way in_RX8 co_yX8_way hd_X8_way rfl ⟨by omega, by omega⟩ rfl (Nat.le_of_ble_eq_true rfl) ⟨by omega, by omega⟩ dL_law_1990 (fun v1990 w1990 hp1990 => ?_)
  refine g_wf (fun hwf2 => ?_)
  obtain ⟨t2, s2, hv2, hM2, hk2, h02⟩ := hp1990
  subst hv2
  have hI2 := inv_ask hwf1 hwf2 hcalm rfl ho hk2 hM2 h02 hg hr
  refine g_astore C dL_law_1993 (by decide) rfl ?_
  refine g_goto (tgt := 2213) C dL_law_1995 (by decide) ?_
  exact g_drop 5 (g_drop 6 (g_widen (by omega) (by omega) (kk _ hI2)))
set_option maxHeartbeats 4000000 in
set_option maxRecDepth 100000 in
theorem lc_product {K : KC} {E : GE} {X : XT} {b N : Nat} {f : Nat → Int} {x m o t k n : Nat} {w : Wd} (LX : LawX K E X b N f) (ht : 5 * t + 5 ≤ N) (hI : INV x m o t w) (hk : k + 2000 ≤ 912740) (hn : n + 80000 ≤ 6363261) (kk : ∀ w', INV x m o (t + 1) w' → G E X 7 2213 (LL b x m o t) [] w' (k + 2000) (n + 80000)) : G E X 7 1998 (LL b x m o t) [] w k n := by
  obtain ⟨C, hT, hH, hls, ⟨hRf, hRl, hRc, hRs⟩, hS⟩ := LX
  have hf := hS.2.2.2.1
  have hN := hS.2.2.2.2
  obtain ⟨τ, ad, bs, ss, pb, P, Q, ct, A, th, ba, st, pm, le, ri, sp, cm, hC, hM, hx, ho, ⟨n0, s0, hO0⟩, hg, hr⟩ := hI
  subst hx
  refine g_wf (fun hwf => ?_)
  refine g_aload_n C dL_law_1998 rfl ?_
  refine g_aload_n C dL_law_1999 rfl ?_
  refine g_iload C dL_law_2000 rfl ?_
  refine g_iconst C dL_law_2002 ?_
  refine g_iadd C dL_law_2003 ?_
  refine g_sld (5 * t + 1) C hS (by omega) (by omega) dL_law_2004 ?_
  refine g_aload_n C dL_law_2005 rfl ?_
  refine g_iload C dL_law_2006 rfl ?_
  refine g_iconst C dL_law_2008 ?_
  refine g_iadd C dL_law_2009 ?_
  refine g_sld (5 * t + 2) C hS (by omega) (by omega) dL_law_2010 ?_
  refine g_aload_n C dL_law_2011 rfl ?_
  refine x_callH C hT hH (w_L_product _ hls hC ho hO0 (hf (5 * t + 1)) (hf (5 * t + 2))) ml_RL_309 sm_yL_product in_RL co_yL_product hd_L_product rfl ⟨by omega, by omega⟩ rfl (Nat.le_of_ble_eq_true rfl) ⟨by omega, by omega⟩ dL_law_2012 (fun v1 w1 hp => ?_)
  refine g_wf (fun hwf1 => ?_)
  obtain ⟨⟨k1, hv1, hk1⟩, hcalm⟩ := a_product hC ho ⟨n0, s0, hO0⟩ hp
  subst hv1
  have hkm : KM τ w w1 := by
    obtain ⟨_, _, _, _, _, _, q, _⟩ := hcalm
    exact q
  have hM1 := hM.keep hkm.2
  refine g_istore C dL_law_2015 (by decide) rfl ?_
  refine g_aload_n C dL_law_2017 rfl ?_
  refine g_aload_n C dL_law_2018 rfl ?_
  refine g_iload C dL_law_2019 rfl ?_
  refine g_iconst C dL_law_2021 ?_
  refine g_iadd C dL_law_2022 ?_
  refine g_sld (5 * t + 1) C hS (by omega) (by omega) dL_law_2023 ?_
  refine g_aload_n C dL_law_2024 rfl ?_
  refine g_iload C dL_law_2025 rfl ?_
  refine g_iconst C dL_law_2027 ?_
  refine g_iadd C dL_law_2028 ?_
  refine g_sld (5 * t + 2) C hS (by omega) (by omega) dL_law_2029 ?_
  refine t_callV C hT (c_X8_product_ _ (hf (5 * t + 1)) (hf (5 * t + 2)) hM1 hg.2.2.2.1) (RcV.ob (ci := 10) C rfl hM1.o) rfl ml_RL_311 im_yX8_product_ se_RX8_yX8_product_ in_RX8 co_yX8_product_ hd_X8_product_ rfl ⟨by omega, by omega⟩ rfl (Nat.le_of_ble_eq_true rfl) ⟨by omega, by omega⟩ dL_law_2030 (fun v2030 w2030 hp2030 => ?_)
  refine g_wf (fun hwf2 => ?_)
  obtain ⟨t2, s2, hv2, hM2, hk2, h02⟩ := hp2030
  subst hv2
  have hI2 := inv_ask hwf1 hwf2 hcalm rfl ho hk2 hM2 h02 hg hr
  refine g_astore C dL_law_2033 (by decide) rfl ?_
  refine g_goto (tgt := 2213) C dL_law_2035 (by decide) ?_
  exact g_drop 5 (g_drop 6 (g_widen (by omega) (by omega) (kk _ hI2)))
set_option maxHeartbeats 4000000 in
set_option maxRecDepth 100000 in
theorem lc_symbol {K : KC} {E : GE} {X : XT} {b N : Nat} {f : Nat → Int} {x m o t k n : Nat} {w : Wd} (LX : LawX K E X b N f) (ht : 5 * t + 5 ≤ N) (hI : INV x m o t w) (hk : k + 2000 ≤ 912740) (hn : n + 80000 ≤ 6363261) (kk : ∀ w', INV x m o (t + 1) w' → G E X 7 2213 (LL b x m o t) [] w' (k + 2000) (n + 80000)) : G E X 7 2038 (LL b x m o t) [] w k n := by
  obtain ⟨C, hT, hH, hls, ⟨hRf, hRl, hRc, hRs⟩, hS⟩ := LX
  have hf := hS.2.2.2.1
  have hN := hS.2.2.2.2
  obtain ⟨τ, ad, bs, ss, pb, P, Q, ct, A, th, ba, st, pm, le, ri, sp, cm, hC, hM, hx, ho, ⟨n0, s0, hO0⟩, hg, hr⟩ := hI
  subst hx
  refine g_wf (fun hwf => ?_)
  refine g_aload_n C dL_law_2038 rfl ?_
  refine g_aload_n C dL_law_2039 rfl ?_
  refine g_iload C dL_law_2040 rfl ?_
  refine g_iconst C dL_law_2042 ?_
  refine g_iadd C dL_law_2043 ?_
  refine g_sld (5 * t + 1) C hS (by omega) (by omega) dL_law_2044 ?_
  refine g_aload_n C dL_law_2045 rfl ?_
  refine g_iload C dL_law_2046 rfl ?_
  refine g_iconst C dL_law_2048 ?_
  refine g_iadd C dL_law_2049 ?_
  refine g_sld (5 * t + 2) C hS (by omega) (by omega) dL_law_2050 ?_
  refine g_aload_n C dL_law_2051 rfl ?_
  refine x_callH C hT hH (w_L_symbol _ hls hC ho hO0 (hf (5 * t + 1)) (hf (5 * t + 2))) ml_RL_312 sm_yL_symbol in_RL co_yL_symbol hd_L_symbol rfl ⟨by omega, by omega⟩ rfl (Nat.le_of_ble_eq_true rfl) ⟨by omega, by omega⟩ dL_law_2052 (fun v1 w1 hp => ?_)
  refine g_wf (fun hwf1 => ?_)
  obtain ⟨⟨k1, hv1, hk1⟩, hcalm⟩ := a_symbol hC ho ⟨n0, s0, hO0⟩ hp
  subst hv1
  have hkm : KM τ w w1 := by
    obtain ⟨_, _, _, _, _, _, q, _⟩ := hcalm
    exact q
  have hM1 := hM.keep hkm.2
  refine g_istore C dL_law_2055 (by decide) rfl ?_
  refine g_aload_n C dL_law_2057 rfl ?_
  refine g_aload_n C dL_law_2058 rfl ?_
  refine g_iload C dL_law_2059 rfl ?_
  refine g_iconst C dL_law_2061 ?_
  refine g_iadd C dL_law_2062 ?_
  refine g_sld (5 * t + 1) C hS (by omega) (by omega) dL_law_2063 ?_
  refine g_aload_n C dL_law_2064 rfl ?_
  refine g_iload C dL_law_2065 rfl ?_
  refine g_iconst C dL_law_2067 ?_
  refine g_iadd C dL_law_2068 ?_
  refine g_sld (5 * t + 2) C hS (by omega) (by omega) dL_law_2069 ?_
  refine g_callV C (c_X8_symbol _ (hf (5 * t + 1)) (hf (5 * t + 2)) hM1 hg.2.2.2.1) (ci := 10) rfl hM1.o rfl ml_RL_314 im_yX8_symbol se_RX8_yX8_symbol in_RX8 co_yX8_symbol hd_X8_symbol rfl ⟨by omega, by omega⟩ rfl (Nat.le_of_ble_eq_true rfl) ⟨by omega, by omega⟩ dL_law_2070 (fun v2070 w2070 hp2070 => ?_)
  refine g_wf (fun hwf2 => ?_)
  obtain ⟨t2, ans, hv2, hM2, hk2, hcs⟩ := hp2070
  subst hv2
  have h02 : 0 ≤ t2 ∧ t2 ≤ 2 := by omega
  have hI2 := inv_ask hwf1 hwf2 hcalm rfl ho hk2 hM2 h02 hg hr
  refine g_istore C dL_law_2073 (by decide) rfl ?_
  refine g_goto (tgt := 2213) C dL_law_2075 (by decide) ?_
  exact g_drop 5 (g_drop 6 (g_widen (by omega) (by omega) (kk _ hI2)))
set_option maxHeartbeats 4000000 in
set_option maxRecDepth 100000 in
theorem lc_inverse {K : KC} {E : GE} {X : XT} {b N : Nat} {f : Nat → Int} {x m o t k n : Nat} {w : Wd} (LX : LawX K E X b N f) (ht : 5 * t + 5 ≤ N) (hI : INV x m o t w) (hk : k + 2000 ≤ 912740) (hn : n + 80000 ≤ 6363261) (kk : ∀ w', INV x m o (t + 1) w' → G E X 7 2213 (LL b x m o t) [] w' (k + 2000) (n + 80000)) : G E X 7 2078 (LL b x m o t) [] w k n := by
  obtain ⟨C, hT, hH, hls, ⟨hRf, hRl, hRc, hRs⟩, hS⟩ := LX
  have hf := hS.2.2.2.1
  have hN := hS.2.2.2.2
  obtain ⟨τ, ad, bs, ss, pb, P, Q, ct, A, th, ba, st, pm, le, ri, sp, cm, hC, hM, hx, ho, ⟨n0, s0, hO0⟩, hg, hr⟩ := hI
  subst hx
  refine g_wf (fun hwf => ?_)
  refine g_aload_n C dL_law_2078 rfl ?_
  refine g_aload_n C dL_law_2079 rfl ?_
  refine g_iload C dL_law_2080 rfl ?_
  refine g_iconst C dL_law_2082 ?_
  refine g_iadd C dL_law_2083 ?_
  refine g_sld (5 * t + 1) C hS (by omega) (by omega) dL_law_2084 ?_
  refine g_aload_n C dL_law_2085 rfl ?_
  refine g_iload C dL_law_2086 rfl ?_
  refine g_iconst C dL_law_2088 ?_
  refine g_iadd C dL_law_2089 ?_
  refine g_sld (5 * t + 2) C hS (by omega) (by omega) dL_law_2090 ?_
  refine g_aload_n C dL_law_2091 rfl ?_
  refine x_callH C hT hH (w_L_inverse _ hls hC ho hO0 (hf (5 * t + 1)) (hf (5 * t + 2))) ml_RL_315 sm_yL_inverse in_RL co_yL_inverse hd_L_inverse rfl ⟨by omega, by omega⟩ rfl (Nat.le_of_ble_eq_true rfl) ⟨by omega, by omega⟩ dL_law_2092 (fun v1 w1 hp => ?_)
  refine g_wf (fun hwf1 => ?_)
  obtain ⟨⟨k1, hv1, hk1⟩, hcalm⟩ := a_inverse hC ho ⟨n0, s0, hO0⟩ hp
  subst hv1
  have hkm : KM τ w w1 := by
    obtain ⟨_, _, _, _, _, _, q, _⟩ := hcalm
    exact q
  have hM1 := hM.keep hkm.2
  refine g_istore C dL_law_2095 (by decide) rfl ?_
  refine g_aload_n C dL_law_2097 rfl ?_
  refine g_aload_n C dL_law_2098 rfl ?_
  refine g_iload C dL_law_2099 rfl ?_
  refine g_iconst C dL_law_2101 ?_
  refine g_iadd C dL_law_2102 ?_
  refine g_sld (5 * t + 1) C hS (by omega) (by omega) dL_law_2103 ?_
  refine g_aload_n C dL_law_2104 rfl ?_
  refine g_iload C dL_law_2105 rfl ?_
  refine g_iconst C dL_law_2107 ?_
  refine g_iadd C dL_law_2108 ?_
  refine g_sld (5 * t + 2) C hS (by omega) (by omega) dL_law_2109 ?_
  refine g_callV C (c_X8_inverse _ (hf (5 * t + 1)) (hf (5 * t + 2)) hM1 hg.2.2.2.1) (ci := 10) rfl hM1.o rfl ml_RL_317 im_yX8_inverse se_RX8_yX8_inverse in_RX8 co_yX8_inverse hd_X8_inverse rfl ⟨by omega, by omega⟩ rfl (Nat.le_of_ble_eq_true rfl) ⟨by omega, by omega⟩ dL_law_2110 (fun v2110 w2110 hp2110 => ?_)
  refine g_wf (fun hwf2 => ?_)
  obtain ⟨t2, ans, hv2, hM2, hk2, hcs⟩ := hp2110
  subst hv2
  have h02 : 0 ≤ t2 ∧ t2 ≤ 2 := by omega
  have hI2 := inv_ask hwf1 hwf2 hcalm rfl ho hk2 hM2 h02 hg hr
  refine g_istore C dL_law_2113 (by decide) rfl ?_
  refine g_goto (tgt := 2213) C dL_law_2115 (by decide) ?_
  exact g_drop 5 (g_drop 6 (g_widen (by omega) (by omega) (kk _ hI2)))
set_option maxHeartbeats 4000000 in
set_option maxRecDepth 100000 in
theorem lc_isPrime {K : KC} {E : GE} {X : XT} {b N : Nat} {f : Nat → Int} {x m o t k n : Nat} {w : Wd} (LX : LawX K E X b N f) (ht : 5 * t + 5 ≤ N) (hI : INV x m o t w) (hk : k + 2000 ≤ 912740) (hn : n + 80000 ≤ 6363261) (kk : ∀ w', INV x m o (t + 1) w' → G E X 7 2213 (LL b x m o t) [] w' (k + 2000) (n + 80000)) : G E X 7 2118 (LL b x m o t) [] w k n := by
  obtain ⟨C, hT, hH, hls, ⟨hRf, hRl, hRc, hRs⟩, hS⟩ := LX
  have hf := hS.2.2.2.1
  have hN := hS.2.2.2.2
  obtain ⟨τ, ad, bs, ss, pb, P, Q, ct, A, th, ba, st, pm, le, ri, sp, cm, hC, hM, hx, ho, ⟨n0, s0, hO0⟩, hg, hr⟩ := hI
  subst hx
  refine g_wf (fun hwf => ?_)
  refine g_aload_n C dL_law_2118 rfl ?_
  refine g_aload_n C dL_law_2119 rfl ?_
  refine g_iload C dL_law_2120 rfl ?_
  refine g_iconst C dL_law_2122 ?_
  refine g_iadd C dL_law_2123 ?_
  refine g_sld (5 * t + 1) C hS (by omega) (by omega) dL_law_2124 ?_
  refine g_aload_n C dL_law_2125 rfl ?_
  refine x_callH C hT hH (w_L_isPrime _ hls hC ho hO0 (hf (5 * t + 1))) ml_RL_318 sm_yL_isPrime in_RL co_yL_isPrime hd_L_isPrime rfl ⟨by omega, by omega⟩ rfl (Nat.le_of_ble_eq_true rfl) ⟨by omega, by omega⟩ dL_law_2126 (fun v1 w1 hp => ?_)
  refine g_wf (fun hwf1 => ?_)
  obtain ⟨⟨k1, hv1, hk1⟩, hcalm⟩ := a_isPrime hC ho ⟨n0, s0, hO0⟩ hp
  subst hv1
  have hkm : KM τ w w1 := by
    obtain ⟨_, _, _, _, _, _, q, _⟩ := hcalm
    exact q
  have hM1 := hM.keep hkm.2
  refine g_istore C dL_law_2129 (by decide) rfl ?_
  refine g_aload_n C dL_law_2131 rfl ?_
  refine g_aload_n C dL_law_2132 rfl ?_
  refine g_iload C dL_law_2133 rfl ?_
  refine g_iconst C dL_law_2135 ?_
  refine g_iadd C dL_law_2136 ?_
  refine g_sld (5 * t + 1) C hS (by omega) (by omega) dL_law_2137 ?_
  refine g_callV C (c_X8_isPrime _ (hf (5 * t + 1)) hM1) (ci := 10) rfl hM1.o rfl ml_RL_320 im_yX8_isPrime se_RX8_yX8_isPrime in_RX8 co_yX8_isPrime hd_X8_isPrime rfl ⟨by omega, by omega⟩ rfl (Nat.le_of_ble_eq_true rfl) ⟨by omega, by omega⟩ dL_law_2138 (fun v2138 w2138 hp2138 => ?_)
  refine g_wf (fun hwf2 => ?_)
  obtain ⟨t2, ans, hv2, hM2, hk2, hcs⟩ := hp2138
  subst hv2
  have h02 : 0 ≤ t2 ∧ t2 ≤ 2 := by omega
  have hI2 := inv_ask hwf1 hwf2 hcalm rfl ho hk2 hM2 h02 hg hr
  refine g_istore C dL_law_2141 (by decide) rfl ?_
  refine g_goto (tgt := 2213) C dL_law_2143 (by decide) ?_
  exact g_drop 5 (g_drop 6 (g_widen (by omega) (by omega) (kk _ hI2)))
set_option maxHeartbeats 4000000 in
set_option maxRecDepth 100000 in
theorem lc_house {K : KC} {E : GE} {X : XT} {b N : Nat} {f : Nat → Int} {x m o t k n : Nat} {w : Wd} (LX : LawX K E X b N f) (ht : 5 * t + 5 ≤ N) (hI : INV x m o t w) (hk : k + 2000 ≤ 912740) (hn : n + 80000 ≤ 6363261) (kk : ∀ w', INV x m o (t + 1) w' → G E X 7 2213 (LL b x m o t) [] w' (k + 2000) (n + 80000)) : G E X 7 2146 (LL b x m o t) [] w k n := by
  obtain ⟨C, hT, hH, hls, ⟨hRf, hRl, hRc, hRs⟩, hS⟩ := LX
  have hf := hS.2.2.2.1
  have hN := hS.2.2.2.2
  obtain ⟨τ, ad, bs, ss, pb, P, Q, ct, A, th, ba, st, pm, le, ri, sp, cm, hC, hM, hx, ho, ⟨n0, s0, hO0⟩, hg, hr⟩ := hI
  subst hx
  refine g_wf (fun hwf => ?_)
  refine g_aload_n C dL_law_2146 rfl ?_
  refine g_aload_n C dL_law_2147 rfl ?_
  refine g_iload C dL_law_2148 rfl ?_
  refine g_iconst C dL_law_2150 ?_
  refine g_iadd C dL_law_2151 ?_
  refine g_sld (5 * t + 1) C hS (by omega) (by omega) dL_law_2152 ?_
  refine g_aload_n C dL_law_2153 rfl ?_
  refine x_callH C hT hH (w_L_house _ hls hC ho hO0 (hf (5 * t + 1))) ml_RL_321 sm_yL_house in_RL co_yL_house hd_L_house rfl ⟨by omega, by omega⟩ rfl (Nat.le_of_ble_eq_true rfl) ⟨by omega, by omega⟩ dL_law_2154 (fun v1 w1 hp => ?_)
  refine g_wf (fun hwf1 => ?_)
  obtain ⟨⟨k1, hv1, hk1⟩, hcalm⟩ := a_house hC ho ⟨n0, s0, hO0⟩ hp
  subst hv1
  have hkm : KM τ w w1 := by
    obtain ⟨_, _, _, _, _, _, q, _⟩ := hcalm
    exact q
  have hM1 := hM.keep hkm.2
  refine g_istore C dL_law_2157 (by decide) rfl ?_
  refine g_aload_n C dL_law_2159 rfl ?_
  refine g_aload_n C dL_law_2160 rfl ?_
  refine g_iload C dL_law_2161 rfl ?_
  refine g_iconst C dL_law_2163 ?_
  refine g_iadd C dL_law_2164 ?_
  refine g_sld (5 * t + 1) C hS (by omega) (by omega) dL_law_2165 ?_
  refine g_callV C (c_X8_house _ (hf (5 * t + 1)) hM1) (ci := 10) rfl hM1.o rfl ml_RL_323 im_yX8_house se_RX8_yX8_house in_RX8 co_yX8_house hd_X8_house rfl ⟨by omega, by omega⟩ rfl (Nat.le_of_ble_eq_true rfl) ⟨by omega, by omega⟩ dL_law_2166 (fun v2166 w2166 hp2166 => ?_)
  refine g_wf (fun hwf2 => ?_)
  obtain ⟨t2, ans, hv2, hM2, hk2, hcs⟩ := hp2166
  subst hv2
  have h02 : 0 ≤ t2 ∧ t2 ≤ 2 := by omega
  have hI2 := inv_ask hwf1 hwf2 hcalm rfl ho hk2 hM2 h02 hg hr
  refine g_istore C dL_law_2169 (by decide) rfl ?_
  refine g_goto (tgt := 2213) C dL_law_2171 (by decide) ?_
  exact g_drop 5 (g_drop 6 (g_widen (by omega) (by omega) (kk _ hI2)))
set_option maxHeartbeats 4000000 in
set_option maxRecDepth 100000 in
theorem lc_knock {K : KC} {E : GE} {X : XT} {b N : Nat} {f : Nat → Int} {x m o t k n : Nat} {w : Wd} (LX : LawX K E X b N f) (ht : 5 * t + 5 ≤ N) (hI : INV x m o t w) (hk : k + 2000 ≤ 912740) (hn : n + 80000 ≤ 6363261) (kk : ∀ w', INV x m o (t + 1) w' → G E X 7 2213 (LL b x m o t) [] w' (k + 2000) (n + 80000)) : G E X 7 2174 (LL b x m o t) [] w k n := by
  obtain ⟨C, hT, hH, hls, ⟨hRf, hRl, hRc, hRs⟩, hS⟩ := LX
  have hf := hS.2.2.2.1
  have hN := hS.2.2.2.2
  obtain ⟨τ, ad, bs, ss, pb, P, Q, ct, A, th, ba, st, pm, le, ri, sp, cm, hC, hM, hx, ho, ⟨n0, s0, hO0⟩, hg, hr⟩ := hI
  subst hx
  refine g_wf (fun hwf => ?_)
  refine g_aload_n C dL_law_2174 rfl ?_
  refine t_callV C hT (s_X6_knock _ hC ) (RcV.ob (ci := 8) C rfl hC.o) rfl ml_RL_324 im_yX6_knock se_RX6_yX6_knock in_RX6 co_yX6_knock hd_X6_knock rfl ⟨by omega, by omega⟩ rfl (Nat.le_of_ble_eq_true rfl) ⟨by omega, by omega⟩ dL_law_2175 (fun v2175 w2175 hp2175 => ?_)
  refine g_wf (fun hwf1 => ?_)
  obtain ⟨hv1, hC1, hko⟩ := hp2175
  subst hv1
  have hkm := hko.km
  have hM1 := hM.keep hkm.2
  have hOU : OU w2175 o := ⟨n0, s0, hko.2 o _ (Or.inr ho) hO0⟩
  refine g_pop C dL_law_2178 rfl ?_
  refine g_aload_n C dL_law_2179 rfl ?_
  refine g_callV C (c_X8_knock _ hM1) (ci := 10) rfl hM1.o rfl ml_RL_327 im_yX8_knock se_RX8_yX8_knock in_RX8 co_yX8_knock hd_X8_knock rfl ⟨by omega, by omega⟩ rfl (Nat.le_of_ble_eq_true rfl) ⟨by omega, by omega⟩ dL_law_2180 (fun v2180 w2180 hp2180 => ?_)
  refine g_wf (fun hwf2 => ?_)
  obtain ⟨hv2, hM2, hk2⟩ := hp2180
  subst hv2
  have hr4 := hr.2.2 4 (by omega)
  have hg4 := hg.2.2.2.2.2 4 (by omega)
  have hI2 := inv_md (t := t + 1) hwf1 hwf2 hC1 rfl ho hOU hk2 (fun _ _ => rfl) hM2 ⟨hg.1, hg.2.1, hg.2.2.1, hg.2.2.2.1, by omega, cm_up hg.2.2.2.2.2 4⟩ ⟨hr.1, hr.2.1, ctu hr.2.2 (by omega)⟩
  refine g_pop C dL_law_2183 rfl ?_
  refine g_goto (tgt := 2213) C dL_law_2184 (by decide) ?_
  exact g_drop 5 (g_drop 6 (g_widen (by omega) (by omega) (kk _ hI2)))
set_option maxHeartbeats 4000000 in
set_option maxRecDepth 100000 in
theorem lc_isSound {K : KC} {E : GE} {X : XT} {b N : Nat} {f : Nat → Int} {x m o t k n : Nat} {w : Wd} (LX : LawX K E X b N f) (ht : 5 * t + 5 ≤ N) (hI : INV x m o t w) (hk : k + 2000 ≤ 912740) (hn : n + 80000 ≤ 6363261) (kk : ∀ w', INV x m o (t + 1) w' → G E X 7 2213 (LL b x m o t) [] w' (k + 2000) (n + 80000)) : G E X 7 2187 (LL b x m o t) [] w k n := by
  obtain ⟨C, hT, hH, hls, ⟨hRf, hRl, hRc, hRs⟩, hS⟩ := LX
  have hf := hS.2.2.2.1
  have hN := hS.2.2.2.2
  obtain ⟨τ, ad, bs, ss, pb, P, Q, ct, A, th, ba, st, pm, le, ri, sp, cm, hC, hM, hx, ho, ⟨n0, s0, hO0⟩, hg, hr⟩ := hI
  subst hx
  refine g_wf (fun hwf => ?_)
  refine g_aload_n C dL_law_2187 rfl ?_
  refine t_callV C hT (s_X6_isSound _ hC ) (RcV.ob (ci := 8) C rfl hC.o) rfl ml_RL_328 im_yX6_isSound se_RX6_yX6_isSound in_RX6 co_yX6_isSound hd_X6_isSound rfl ⟨by omega, by omega⟩ rfl (Nat.le_of_ble_eq_true rfl) ⟨by omega, by omega⟩ dL_law_2188 (fun v2188 w2188 hp2188 => ?_)
  refine g_wf (fun hwf1 => ?_)
  obtain ⟨hv1, hC1, hko⟩ := hp2188
  subst hv1
  have hkm := hko.km
  have hM1 := hM.keep hkm.2
  have hOU : OU w2188 o := ⟨n0, s0, hko.2 o _ (Or.inr ho) hO0⟩
  have hcalm : CALM τ ad o w w2188 bs ss pb P Q ct := ⟨_, _, _, hC1, fun _ _ => ⟨rfl, rfl⟩, fun _ _ => rfl, hkm, hOU⟩
  refine g_pop C dL_law_2191 rfl ?_
  refine g_aload_n C dL_law_2192 rfl ?_
  refine g_callV C (c_X8_isSound _ hM1 hg.1 hg.2.1 hg.2.2.1 hg.2.2.2.1) (ci := 10) rfl hM1.o rfl ml_RL_332 im_yX8_isSound se_RX8_yX8_isSound in_RX8 co_yX8_isSound hd_X8_isSound rfl ⟨by omega, by omega⟩ rfl (Nat.le_of_ble_eq_true rfl) ⟨by omega, by omega⟩ dL_law_2193 (fun v2193 w2193 hp2193 => ?_)
  refine g_wf (fun hwf2 => ?_)
  obtain ⟨hv2, hM2, hk2⟩ := hp2193
  subst hv2
  have h02 : (0 : Int) ≤ 0 ∧ (0 : Int) ≤ 2 := by omega
  have hI2 := inv_ask hwf1 hwf2 hcalm rfl ho hk2 hM2 h02 hg hr
  refine g_pop C dL_law_2196 rfl ?_
  refine g_goto (tgt := 2213) C dL_law_2197 (by decide) ?_
  exact g_drop 5 (g_drop 6 (g_widen (by omega) (by omega) (kk _ hI2)))
set_option maxHeartbeats 4000000 in
set_option maxRecDepth 100000 in
theorem lc_digest {K : KC} {E : GE} {X : XT} {b N : Nat} {f : Nat → Int} {x m o t k n : Nat} {w : Wd} (LX : LawX K E X b N f) (ht : 5 * t + 5 ≤ N) (hI : INV x m o t w) (hk : k + 2000 ≤ 912740) (hn : n + 80000 ≤ 6363261) (kk : ∀ w', INV x m o (t + 1) w' → G E X 7 2213 (LL b x m o t) [] w' (k + 2000) (n + 80000)) : G E X 7 2200 (LL b x m o t) [] w k n := by
  obtain ⟨C, hT, hH, hls, ⟨hRf, hRl, hRc, hRs⟩, hS⟩ := LX
  have hf := hS.2.2.2.1
  have hN := hS.2.2.2.2
  obtain ⟨τ, ad, bs, ss, pb, P, Q, ct, A, th, ba, st, pm, le, ri, sp, cm, hC, hM, hx, ho, ⟨n0, s0, hO0⟩, hg, hr⟩ := hI
  subst hx
  refine g_wf (fun hwf => ?_)
  refine g_aload_n C dL_law_2200 rfl ?_
  refine t_callV C hT (s_X6_digest _ hC ) (RcV.ob (ci := 8) C rfl hC.o) rfl ml_RL_333 im_yX6_digest se_RX6_yX6_digest in_RX6 co_yX6_digest hd_X6_digest rfl ⟨by omega, by omega⟩ rfl (Nat.le_of_ble_eq_true rfl) ⟨by omega, by omega⟩ dL_law_2201 (fun v2201 w2201 hp2201 => ?_)
  refine g_wf (fun hwf1 => ?_)
  obtain ⟨⟨z1, hv1⟩, hC1, hko⟩ := hp2201
  subst hv1
  have hkm := hko.km
  have hM1 := hM.keep hkm.2
  have hOU : OU w2201 o := ⟨n0, s0, hko.2 o _ (Or.inr ho) hO0⟩
  have hcalm : CALM τ ad o w w2201 bs ss pb P Q ct := ⟨_, _, _, hC1, fun _ _ => ⟨rfl, rfl⟩, fun _ _ => rfl, hkm, hOU⟩
  refine g_pop2L C dL_law_2204 rfl ?_
  refine g_aload_n C dL_law_2205 rfl ?_
  refine g_callV C (c_X8_digest _ hM1 hg.1 hg.2.1 hg.2.2.1 hg.2.2.2.1 (fun i hi => by have := hg.2.2.2.2.2 i hi; omega)) (ci := 10) rfl hM1.o rfl ml_RL_337 im_yX8_digest se_RX8_yX8_digest in_RX8 co_yX8_digest hd_X8_digest rfl ⟨by omega, by omega⟩ rfl (Nat.le_of_ble_eq_true rfl) ⟨by omega, by omega⟩ dL_law_2206 (fun v2206 w2206 hp2206 => ?_)
  refine g_wf (fun hwf2 => ?_)
  obtain ⟨z2, hv2, hM2, hk2⟩ := hp2206
  subst hv2
  have h02 : (0 : Int) ≤ 0 ∧ (0 : Int) ≤ 2 := by omega
  have hI2 := inv_ask hwf1 hwf2 hcalm rfl ho hk2 hM2 h02 hg hr
  refine g_pop2L C dL_law_2209 rfl ?_
  refine g_goto (tgt := 2213) C dL_law_2210 (by decide) ?_
  exact g_drop 5 (g_drop 6 (g_widen (by omega) (by omega) (kk _ hI2)))
