set_option maxHeartbeats 4000000 in
set_option maxRecDepth 100000 in
theorem lc_euclid {K : KC} {E : GE} {X : XT} {b N : Nat} {f : Nat → Int} {x m o t k n : Nat} {w : Wd} (LX : LawX K E X b N f) (ht : 5 * t + 5 ≤ N) (hI : INV x m o t w) (hk : k + 2000 ≤ 793047) (hn : n + 80000 ≤ 6722339) (kk : ∀ w', INV x m o (t + 1) w' → G E X 7 2220 (LL b x m o t) [] w' (k + 2000) (n + 80000)) : G E X 7 1881 (LL b x m o t) [] w k n := by
  obtain ⟨C, hT, hH, hls, ⟨hRf, hRl, hRc, hRs⟩, hS⟩ := LX
  have hf := hS.2.2.2.1
  have hN := hS.2.2.2.2
  obtain ⟨τ, ad, bs, ss, pb, P, Q, ct, A, th, ba, st, pm, le, ri, sp, cm, hC, hM, hx, ho, ⟨n0, s0, hO0⟩, hg, hr⟩ := hI
  subst hx
  refine g_wf (fun hwf => ?_)
  refine g_aload_n C dL_law_1881 rfl ?_
  refine g_aload_n C dL_law_1882 rfl ?_
  refine g_iload C dL_law_1883 rfl ?_
  refine g_iconst C dL_law_1885 ?_
  refine g_iadd C dL_law_1886 ?_
  refine g_sld (5 * t + 1) C hS (by omega) (by omega) dL_law_1887 ?_
  refine g_aload_n C dL_law_1888 rfl ?_
  refine x_callH C hT hH (w_L_euclid _ hls hC ho hO0 (hf (5 * t + 1))) ml_RL_297 sm_yL_euclid in_RL co_yL_euclid hd_L_euclid rfl ⟨by omega, by omega⟩ rfl (Nat.le_of_ble_eq_true rfl) ⟨by omega, by omega⟩ dL_law_1889 (fun v1 w1 hp => ?_)
  refine g_wf (fun hwf1 => ?_)
  obtain ⟨k1, nv, Q1, ct1, hv1, hOV, hnv, ⟨⟨pb2, hp2, hC1⟩, hkm⟩, hD⟩ := a_euclid hC ho ⟨n0, s0, hO0⟩ hp
  subst hv1
  have hM1 := hM.keep hkm.2
  refine g_istore C dL_law_1892 (by decide) rfl ?_
  refine g_aload_n C dL_law_1894 rfl ?_
  refine g_aload_n C dL_law_1895 rfl ?_
  refine g_iload C dL_law_1896 rfl ?_
  refine g_iconst C dL_law_1898 ?_
  refine g_iadd C dL_law_1899 ?_
  refine g_sld (5 * t + 1) C hS (by omega) (by omega) dL_law_1900 ?_
  refine g_callV C (c_X8_euclid _ (hf (5 * t + 1)) hM1 hg.2.2.2.1) (ci := 10) rfl hM1.o rfl ml_RL_299 im_yX8_euclid se_RX8_yX8_euclid in_RX8 co_yX8_euclid hd_X8_euclid rfl ⟨by omega, by omega⟩ rfl (Nat.le_of_ble_eq_true rfl) ⟨by omega, by omega⟩ dL_law_1901 (fun v1901 w1901 hp1901 => ?_)
  refine g_wf (fun hwf2 => ?_)
  obtain ⟨t2, sp2, cm2, ans, hv2, hM2, hk2, hcs⟩ := hp1901
  subst hv2
  obtain ⟨hg2, hr2, hkk, hans⟩ := b_euclid hg hr hD hcs
  have hI2 := inv_md hwf1 hwf2 hC1 rfl ho hOV.u hk2 (fun _ _ => rfl) hM2 hg2 (rl_pb hp2 hr2)
  refine g_istore C dL_law_1904 (by decide) rfl ?_
  refine g_goto (tgt := 2220) C dL_law_1906 (by decide) ?_
  exact g_drop 5 (g_drop 6 (g_widen (by omega) (by omega) (kk _ hI2)))
set_option maxHeartbeats 4000000 in
set_option maxRecDepth 100000 in
theorem lc_settle {K : KC} {E : GE} {X : XT} {b N : Nat} {f : Nat → Int} {x m o t k n : Nat} {w : Wd} (LX : LawX K E X b N f) (ht : 5 * t + 5 ≤ N) (hI : INV x m o t w) (hk : k + 2000 ≤ 793047) (hn : n + 80000 ≤ 6722339) (kk : ∀ w', INV x m o (t + 1) w' → G E X 7 2220 (LL b x m o t) [] w' (k + 2000) (n + 80000)) : G E X 7 1909 (LL b x m o t) [] w k n := by
  obtain ⟨C, hT, hH, hls, ⟨hRf, hRl, hRc, hRs⟩, hS⟩ := LX
  have hf := hS.2.2.2.1
  have hN := hS.2.2.2.2
  obtain ⟨τ, ad, bs, ss, pb, P, Q, ct, A, th, ba, st, pm, le, ri, sp, cm, hC, hM, hx, ho, ⟨n0, s0, hO0⟩, hg, hr⟩ := hI
  subst hx
  refine g_wf (fun hwf => ?_)
  refine g_aload_n C dL_law_1909 rfl ?_
  refine g_aload_n C dL_law_1910 rfl ?_
  refine g_iload C dL_law_1911 rfl ?_
  refine g_iconst C dL_law_1913 ?_
  refine g_iadd C dL_law_1914 ?_
  refine g_sld (5 * t + 1) C hS (by omega) (by omega) dL_law_1915 ?_
  refine g_aload_n C dL_law_1916 rfl ?_
  refine x_callH C hT hH (w_L_settle _ hls hC ho hO0 (hf (5 * t + 1))) ml_RL_300 sm_yL_settle in_RL co_yL_settle hd_L_settle rfl ⟨by omega, by omega⟩ rfl (Nat.le_of_ble_eq_true rfl) ⟨by omega, by omega⟩ dL_law_1917 (fun v1 w1 hp => ?_)
  refine g_wf (fun hwf1 => ?_)
  obtain ⟨k1, nv, Q1, ct1, hv1, hOV, hnv, ⟨⟨pb2, hp2, hC1⟩, hkm⟩, hD⟩ := a_settle hC ho ⟨n0, s0, hO0⟩ hp
  subst hv1
  have hM1 := hM.keep hkm.2
  refine g_istore C dL_law_1920 (by decide) rfl ?_
  refine g_aload_n C dL_law_1922 rfl ?_
  refine g_aload_n C dL_law_1923 rfl ?_
  refine g_iload C dL_law_1924 rfl ?_
  refine g_iconst C dL_law_1926 ?_
  refine g_iadd C dL_law_1927 ?_
  refine g_sld (5 * t + 1) C hS (by omega) (by omega) dL_law_1928 ?_
  refine g_callV C (c_X8_settle _ (hf (5 * t + 1)) hM1 hg.2.2.2.1) (ci := 10) rfl hM1.o rfl ml_RL_302 im_yX8_settle se_RX8_yX8_settle in_RX8 co_yX8_settle hd_X8_settle rfl ⟨by omega, by omega⟩ rfl (Nat.le_of_ble_eq_true rfl) ⟨by omega, by omega⟩ dL_law_1929 (fun v1929 w1929 hp1929 => ?_)
  refine g_wf (fun hwf2 => ?_)
  obtain ⟨t2, sp2, cm2, ans, hv2, hM2, hk2, hcs⟩ := hp1929
  subst hv2
  obtain ⟨hg2, hr2, hkk, hans⟩ := b_settle hg hr hD hcs
  have hI2 := inv_md hwf1 hwf2 hC1 rfl ho hOV.u hk2 (fun _ _ => rfl) hM2 hg2 (rl_pb hp2 hr2)
  refine g_istore C dL_law_1932 (by decide) rfl ?_
  refine g_goto (tgt := 2220) C dL_law_1934 (by decide) ?_
  exact g_drop 5 (g_drop 6 (g_widen (by omega) (by omega) (kk _ hI2)))
set_option maxHeartbeats 4000000 in
set_option maxRecDepth 100000 in
theorem lc_splitNumber {K : KC} {E : GE} {X : XT} {b N : Nat} {f : Nat → Int} {x m o t k n : Nat} {w : Wd} (LX : LawX K E X b N f) (ht : 5 * t + 5 ≤ N) (hI : INV x m o t w) (hk : k + 2000 ≤ 793047) (hn : n + 80000 ≤ 6722339) (kk : ∀ w', INV x m o (t + 1) w' → G E X 7 2220 (LL b x m o t) [] w' (k + 2000) (n + 80000)) : G E X 7 1937 (LL b x m o t) [] w k n := by
  obtain ⟨C, hT, hH, hls, ⟨hRf, hRl, hRc, hRs⟩, hS⟩ := LX
  have hf := hS.2.2.2.1
  have hN := hS.2.2.2.2
  obtain ⟨τ, ad, bs, ss, pb, P, Q, ct, A, th, ba, st, pm, le, ri, sp, cm, hC, hM, hx, ho, ⟨n0, s0, hO0⟩, hg, hr⟩ := hI
  subst hx
  refine g_wf (fun hwf => ?_)
  refine g_aload_n C dL_law_1937 rfl ?_
  refine g_aload_n C dL_law_1938 rfl ?_
  refine g_iload C dL_law_1939 rfl ?_
  refine g_iconst C dL_law_1941 ?_
  refine g_iadd C dL_law_1942 ?_
  refine g_sld (5 * t + 1) C hS (by omega) (by omega) dL_law_1943 ?_
  refine g_aload_n C dL_law_1944 rfl ?_
  refine g_iload C dL_law_1945 rfl ?_
  refine g_iconst C dL_law_1947 ?_
  refine g_iadd C dL_law_1948 ?_
  refine g_sld (5 * t + 2) C hS (by omega) (by omega) dL_law_1949 ?_
  refine g_aload_n C dL_law_1950 rfl ?_
  refine x_callH C hT hH (w_L_splitNumber _ hls hC ho hO0 (hf (5 * t + 1)) (hf (5 * t + 2))) ml_RL_303 sm_yL_splitNumber in_RL co_yL_splitNumber hd_L_splitNumber rfl ⟨by omega, by omega⟩ rfl (Nat.le_of_ble_eq_true rfl) ⟨by omega, by omega⟩ dL_law_1951 (fun v1 w1 hp => ?_)
  refine g_wf (fun hwf1 => ?_)
  obtain ⟨⟨k1, hv1, hk1⟩, hcalm⟩ := a_splitNumber hC ho ⟨n0, s0, hO0⟩ hp
  subst hv1
  have hkm : KM τ w w1 := by
    obtain ⟨_, _, _, _, _, _, q, _⟩ := hcalm
    exact q
  have hM1 := hM.keep hkm.2
  refine g_istore C dL_law_1954 (by decide) rfl ?_
  refine g_aload_n C dL_law_1956 rfl ?_
  refine g_aload_n C dL_law_1957 rfl ?_
  refine g_iload C dL_law_1958 rfl ?_
  refine g_iconst C dL_law_1960 ?_
  refine g_iadd C dL_law_1961 ?_
  refine g_sld (5 * t + 1) C hS (by omega) (by omega) dL_law_1962 ?_
  refine g_aload_n C dL_law_1963 rfl ?_
  refine g_iload C dL_law_1964 rfl ?_
  refine g_iconst C dL_law_1966 ?_
  refine g_iadd C dL_law_1967 ?_
  refine g_sld (5 * t + 2) C hS (by omega) (by omega) dL_law_1968 ?_
  refine g_callV C (c_X8_splitNumber _ (hf (5 * t + 1)) (hf (5 * t + 2)) hM1 hg.2.2.2.1) (ci := 10) rfl hM1.o rfl ml_RL_305 im_yX8_splitNumber se_RX8_yX8_splitNumber in_RX8 co_yX8_splitNumber hd_X8_splitNumber rfl ⟨by omega, by omega⟩ rfl (Nat.le_of_ble_eq_true rfl) ⟨by omega, by omega⟩ dL_law_1969 (fun v1969 w1969 hp1969 => ?_)
  refine g_wf (fun hwf2 => ?_)
  obtain ⟨t2, ans, hv2, hM2, hk2, hcs⟩ := hp1969
  subst hv2
  have h02 : 0 ≤ t2 ∧ t2 ≤ 2 := by omega
  have hI2 := inv_ask hwf1 hwf2 hcalm rfl ho hk2 hM2 h02 hg hr
  refine g_istore C dL_law_1972 (by decide) rfl ?_
  refine g_goto (tgt := 2220) C dL_law_1974 (by decide) ?_
  exact g_drop 5 (g_drop 6 (g_widen (by omega) (by omega) (kk _ hI2)))
set_option maxHeartbeats 4000000 in
set_option maxRecDepth 100000 in
theorem lc_way {K : KC} {E : GE} {X : XT} {b N : Nat} {f : Nat → Int} {x m o t k n : Nat} {w : Wd} (LX : LawX K E X b N f) (ht : 5 * t + 5 ≤ N) (hI : INV x m o t w) (hk : k + 2000 ≤ 793047) (hn : n + 80000 ≤ 6722339) (kk : ∀ w', INV x m o (t + 1) w' → G E X 7 2220 (LL b x m o t) [] w' (k + 2000) (n + 80000)) : G E X 7 1977 (LL b x m o t) [] w k n := by
  obtain ⟨C, hT, hH, hls, ⟨hRf, hRl, hRc, hRs⟩, hS⟩ := LX
  have hf := hS.2.2.2.1
  have hN := hS.2.2.2.2
  obtain ⟨τ, ad, bs, ss, pb, P, Q, ct, A, th, ba, st, pm, le, ri, sp, cm, hC, hM, hx, ho, ⟨n0, s0, hO0⟩, hg, hr⟩ := hI
  subst hx
  refine g_wf (fun hwf => ?_)
  refine g_aload_n C dL_law_1977 rfl ?_
  refine g_aload_n C dL_law_1978 rfl ?_
  refine g_iload C dL_law_1979 rfl ?_
  refine g_iconst C dL_law_1981 ?_
  refine g_iadd C dL_law_1982 ?_
  refine g_sld (5 * t + 1) C hS (by omega) (by omega) dL_law_1983 ?_
  refine g_aload_n C dL_law_1984 rfl ?_
  refine x_callH C hT hH (w_L_way _ hls hC ho hO0 (hf (5 * t + 1))) ml_RL_306 sm_yL_way in_RL co_yL_way hd_L_way rfl ⟨by omega, by omega⟩ rfl (Nat.le_of_ble_eq_true rfl) ⟨by omega, by omega⟩ dL_law_1985 (fun v1 w1 hp => ?_)
  refine g_wf (fun hwf1 => ?_)
  obtain ⟨⟨k1, hv1, hk1⟩, hcalm⟩ := a_way hC ho ⟨n0, s0, hO0⟩ hp
  subst hv1
  have hkm : KM τ w w1 := by
    obtain ⟨_, _, _, _, _, _, q, _⟩ := hcalm
    exact q
  have hM1 := hM.keep hkm.2
  refine g_istore C dL_law_1988 (by decide) rfl ?_
  refine g_aload_n C dL_law_1990 rfl ?_
  refine g_aload_n C dL_law_1991 rfl ?_
  refine g_iload C dL_law_1992 rfl ?_
  refine g_iconst C dL_law_1994 ?_
  refine g_iadd C dL_law_1995 ?_
  refine g_sld (5 * t + 1) C hS (by omega) (by omega) dL_law_1996 ?_
  refine t_callV C hT (c_X8_way _ (hf (5 * t + 1)) hM1 hg.2.2.2.1) (RcV.ob (ci := 10) C rfl hM1.o) rfl ml_RL_308 im_yX8_way se_RX8_yX8_way in_RX8 co_yX8_way hd_X8_way rfl ⟨by omega, by omega⟩ rfl (Nat.le_of_ble_eq_true rfl) ⟨by omega, by omega⟩ dL_law_1997 (fun v1997 w1997 hp1997 => ?_)
  refine g_wf (fun hwf2 => ?_)
  obtain ⟨t2, s2, hv2, hM2, hk2, h02⟩ := hp1997
  subst hv2
  have hI2 := inv_ask hwf1 hwf2 hcalm rfl ho hk2 hM2 h02 hg hr
  refine g_astore C dL_law_2000 (by decide) rfl ?_
  refine g_goto (tgt := 2220) C dL_law_2002 (by decide) ?_
  exact g_drop 5 (g_drop 6 (g_widen (by omega) (by omega) (kk _ hI2)))
set_option maxHeartbeats 4000000 in
set_option maxRecDepth 100000 in
theorem lc_product {K : KC} {E : GE} {X : XT} {b N : Nat} {f : Nat → Int} {x m o t k n : Nat} {w : Wd} (LX : LawX K E X b N f) (ht : 5 * t + 5 ≤ N) (hI : INV x m o t w) (hk : k + 2000 ≤ 793047) (hn : n + 80000 ≤ 6722339) (kk : ∀ w', INV x m o (t + 1) w' → G E X 7 2220 (LL b x m o t) [] w' (k + 2000) (n + 80000)) : G E X 7 2005 (LL b x m o t) [] w k n := by
  obtain ⟨C, hT, hH, hls, ⟨hRf, hRl, hRc, hRs⟩, hS⟩ := LX
  have hf := hS.2.2.2.1
  have hN := hS.2.2.2.2
  obtain ⟨τ, ad, bs, ss, pb, P, Q, ct, A, th, ba, st, pm, le, ri, sp, cm, hC, hM, hx, ho, ⟨n0, s0, hO0⟩, hg, hr⟩ := hI
  subst hx
  refine g_wf (fun hwf => ?_)
  refine g_aload_n C dL_law_2005 rfl ?_
  refine g_aload_n C dL_law_2006 rfl ?_
  refine g_iload C dL_law_2007 rfl ?_
  refine g_iconst C dL_law_2009 ?_
  refine g_iadd C dL_law_2010 ?_
  refine g_sld (5 * t + 1) C hS (by omega) (by omega) dL_law_2011 ?_
  refine g_aload_n C dL_law_2012 rfl ?_
  refine g_iload C dL_law_2013 rfl ?_
  refine g_iconst C dL_law_2015 ?_
  refine g_iadd C dL_law_2016 ?_
  refine g_sld (5 * t + 2) C hS (by omega) (by omega) dL_law_2017 ?_
  refine g_aload_n C dL_law_2018 rfl ?_
  refine x_callH C hT hH (w_L_product _ hls hC ho hO0 (hf (5 * t + 1)) (hf (5 * t + 2))) ml_RL_309 sm_yL_product in_RL co_yL_product hd_L_product rfl ⟨by omega, by omega⟩ rfl (Nat.le_of_ble_eq_true rfl) ⟨by omega, by omega⟩ dL_law_2019 (fun v1 w1 hp => ?_)
  refine g_wf (fun hwf1 => ?_)
  obtain ⟨⟨k1, hv1, hk1⟩, hcalm⟩ := a_product hC ho ⟨n0, s0, hO0⟩ hp
  subst hv1
  have hkm : KM τ w w1 := by
    obtain ⟨_, _, _, _, _, _, q, _⟩ := hcalm
    exact q
  have hM1 := hM.keep hkm.2
  refine g_istore C dL_law_2022 (by decide) rfl ?_
  refine g_aload_n C dL_law_2024 rfl ?_
  refine g_aload_n C dL_law_2025 rfl ?_
  refine g_iload C dL_law_2026 rfl ?_
  refine g_iconst C dL_law_2028 ?_
  refine g_iadd C dL_law_2029 ?_
  refine g_sld (5 * t + 1) C hS (by omega) (by omega) dL_law_2030 ?_
  refine g_aload_n C dL_law_2031 rfl ?_
  refine g_iload C dL_law_2032 rfl ?_
  refine g_iconst C dL_law_2034 ?_
  refine g_iadd C dL_law_2035 ?_
  refine g_sld (5 * t + 2) C hS (by omega) (by omega) dL_law_2036 ?_
  refine t_callV C hT (c_X8_product_ _ (hf (5 * t + 1)) (hf (5 * t + 2)) hM1 hg.2.2.2.1) (RcV.ob (ci := 10) C rfl hM1.o) rfl ml_RL_311 im_yX8_product_ se_RX8_yX8_product_ in_RX8 co_yX8_product_ hd_X8_product_ rfl ⟨by omega, by omega⟩ rfl (Nat.le_of_ble_eq_true rfl) ⟨by omega, by omega⟩ dL_law_2037 (fun v2037 w2037 hp2037 => ?_)
  refine g_wf (fun hwf2 => ?_)
  obtain ⟨t2, s2, hv2, hM2, hk2, h02⟩ := hp2037
  subst hv2
  have hI2 := inv_ask hwf1 hwf2 hcalm rfl ho hk2 hM2 h02 hg hr
  refine g_astore C dL_law_2040 (by decide) rfl ?_
  refine g_goto (tgt := 2220) C dL_law_2042 (by decide) ?_
  exact g_drop 5 (g_drop 6 (g_widen (by omega) (by omega) (kk _ hI2)))
set_option maxHeartbeats 4000000 in
set_option maxRecDepth 100000 in
theorem lc_symbol {K : KC} {E : GE} {X : XT} {b N : Nat} {f : Nat → Int} {x m o t k n : Nat} {w : Wd} (LX : LawX K E X b N f) (ht : 5 * t + 5 ≤ N) (hI : INV x m o t w) (hk : k + 2000 ≤ 793047) (hn : n + 80000 ≤ 6722339) (kk : ∀ w', INV x m o (t + 1) w' → G E X 7 2220 (LL b x m o t) [] w' (k + 2000) (n + 80000)) : G E X 7 2045 (LL b x m o t) [] w k n := by
  obtain ⟨C, hT, hH, hls, ⟨hRf, hRl, hRc, hRs⟩, hS⟩ := LX
  have hf := hS.2.2.2.1
  have hN := hS.2.2.2.2
  obtain ⟨τ, ad, bs, ss, pb, P, Q, ct, A, th, ba, st, pm, le, ri, sp, cm, hC, hM, hx, ho, ⟨n0, s0, hO0⟩, hg, hr⟩ := hI
  subst hx
  refine g_wf (fun hwf => ?_)
  refine g_aload_n C dL_law_2045 rfl ?_
  refine g_aload_n C dL_law_2046 rfl ?_
  refine g_iload C dL_law_2047 rfl ?_
  refine g_iconst C dL_law_2049 ?_
  refine g_iadd C dL_law_2050 ?_
  refine g_sld (5 * t + 1) C hS (by omega) (by omega) dL_law_2051 ?_
  refine g_aload_n C dL_law_2052 rfl ?_
  refine g_iload C dL_law_2053 rfl ?_
  refine g_iconst C dL_law_2055 ?_
  refine g_iadd C dL_law_2056 ?_
  refine g_sld (5 * t + 2) C hS (by omega) (by omega) dL_law_2057 ?_
  refine g_aload_n C dL_law_2058 rfl ?_
  refine x_callH C hT hH (w_L_symbol _ hls hC ho hO0 (hf (5 * t + 1)) (hf (5 * t + 2))) ml_RL_312 sm_yL_symbol in_RL co_yL_symbol hd_L_symbol rfl ⟨by omega, by omega⟩ rfl (Nat.le_of_ble_eq_true rfl) ⟨by omega, by omega⟩ dL_law_2059 (fun v1 w1 hp => ?_)
  refine g_wf (fun hwf1 => ?_)
  obtain ⟨⟨k1, hv1, hk1⟩, hcalm⟩ := a_symbol hC ho ⟨n0, s0, hO0⟩ hp
  subst hv1
  have hkm : KM τ w w1 := by
    obtain ⟨_, _, _, _, _, _, q, _⟩ := hcalm
    exact q
  have hM1 := hM.keep hkm.2
  refine g_istore C dL_law_2062 (by decide) rfl ?_
  refine g_aload_n C dL_law_2064 rfl ?_
  refine g_aload_n C dL_law_2065 rfl ?_
  refine g_iload C dL_law_2066 rfl ?_
  refine g_iconst C dL_law_2068 ?_
  refine g_iadd C dL_law_2069 ?_
  refine g_sld (5 * t + 1) C hS (by omega) (by omega) dL_law_2070 ?_
  refine g_aload_n C dL_law_2071 rfl ?_
  refine g_iload C dL_law_2072 rfl ?_
  refine g_iconst C dL_law_2074 ?_
  refine g_iadd C dL_law_2075 ?_
  refine g_sld (5 * t + 2) C hS (by omega) (by omega) dL_law_2076 ?_
  refine g_callV C (c_X8_symbol _ (hf (5 * t + 1)) (hf (5 * t + 2)) hM1 hg.2.2.2.1) (ci := 10) rfl hM1.o rfl ml_RL_314 im_yX8_symbol se_RX8_yX8_symbol in_RX8 co_yX8_symbol hd_X8_symbol rfl ⟨by omega, by omega⟩ rfl (Nat.le_of_ble_eq_true rfl) ⟨by omega, by omega⟩ dL_law_2077 (fun v2077 w2077 hp2077 => ?_)
  refine g_wf (fun hwf2 => ?_)
  obtain ⟨t2, ans, hv2, hM2, hk2, hcs⟩ := hp2077
  subst hv2
  have h02 : 0 ≤ t2 ∧ t2 ≤ 2 := by omega
  have hI2 := inv_ask hwf1 hwf2 hcalm rfl ho hk2 hM2 h02 hg hr
  refine g_istore C dL_law_2080 (by decide) rfl ?_
  refine g_goto (tgt := 2220) C dL_law_2082 (by decide) ?_
  exact g_drop 5 (g_drop 6 (g_widen (by omega) (by omega) (kk _ hI2)))
set_option maxHeartbeats 4000000 in
set_option maxRecDepth 100000 in
theorem lc_inverse {K : KC} {E : GE} {X : XT} {b N : Nat} {f : Nat → Int} {x m o t k n : Nat} {w : Wd} (LX : LawX K E X b N f) (ht : 5 * t + 5 ≤ N) (hI : INV x m o t w) (hk : k + 2000 ≤ 793047) (hn : n + 80000 ≤ 6722339) (kk : ∀ w', INV x m o (t + 1) w' → G E X 7 2220 (LL b x m o t) [] w' (k + 2000) (n + 80000)) : G E X 7 2085 (LL b x m o t) [] w k n := by
  obtain ⟨C, hT, hH, hls, ⟨hRf, hRl, hRc, hRs⟩, hS⟩ := LX
  have hf := hS.2.2.2.1
  have hN := hS.2.2.2.2
  obtain ⟨τ, ad, bs, ss, pb, P, Q, ct, A, th, ba, st, pm, le, ri, sp, cm, hC, hM, hx, ho, ⟨n0, s0, hO0⟩, hg, hr⟩ := hI
  subst hx
  refine g_wf (fun hwf => ?_)
  refine g_aload_n C dL_law_2085 rfl ?_
  refine g_aload_n C dL_law_2086 rfl ?_
  refine g_iload C dL_law_2087 rfl ?_
  refine g_iconst C dL_law_2089 ?_
  refine g_iadd C dL_law_2090 ?_
  refine g_sld (5 * t + 1) C hS (by omega) (by omega) dL_law_2091 ?_
  refine g_aload_n C dL_law_2092 rfl ?_
  refine g_iload C dL_law_2093 rfl ?_
  refine g_iconst C dL_law_2095 ?_
  refine g_iadd C dL_law_2096 ?_
  refine g_sld (5 * t + 2) C hS (by omega) (by omega) dL_law_2097 ?_
  refine g_aload_n C dL_law_2098 rfl ?_
  refine x_callH C hT hH (w_L_inverse _ hls hC ho hO0 (hf (5 * t + 1)) (hf (5 * t + 2))) ml_RL_315 sm_yL_inverse in_RL co_yL_inverse hd_L_inverse rfl ⟨by omega, by omega⟩ rfl (Nat.le_of_ble_eq_true rfl) ⟨by omega, by omega⟩ dL_law_2099 (fun v1 w1 hp => ?_)
  refine g_wf (fun hwf1 => ?_)
  obtain ⟨⟨k1, hv1, hk1⟩, hcalm⟩ := a_inverse hC ho ⟨n0, s0, hO0⟩ hp
  subst hv1
  have hkm : KM τ w w1 := by
    obtain ⟨_, _, _, _, _, _, q, _⟩ := hcalm
    exact q
  have hM1 := hM.keep hkm.2
  refine g_istore C dL_law_2102 (by decide) rfl ?_
  refine g_aload_n C dL_law_2104 rfl ?_
  refine g_aload_n C dL_law_2105 rfl ?_
  refine g_iload C dL_law_2106 rfl ?_
  refine g_iconst C dL_law_2108 ?_
  refine g_iadd C dL_law_2109 ?_
  refine g_sld (5 * t + 1) C hS (by omega) (by omega) dL_law_2110 ?_
  refine g_aload_n C dL_law_2111 rfl ?_
  refine g_iload C dL_law_2112 rfl ?_
  refine g_iconst C dL_law_2114 ?_
  refine g_iadd C dL_law_2115 ?_
  refine g_sld (5 * t + 2) C hS (by omega) (by omega) dL_law_2116 ?_
  refine g_callV C (c_X8_inverse _ (hf (5 * t + 1)) (hf (5 * t + 2)) hM1 hg.2.2.2.1) (ci := 10) rfl hM1.o rfl ml_RL_317 im_yX8_inverse se_RX8_yX8_inverse in_RX8 co_yX8_inverse hd_X8_inverse rfl ⟨by omega, by omega⟩ rfl (Nat.le_of_ble_eq_true rfl) ⟨by omega, by omega⟩ dL_law_2117 (fun v2117 w2117 hp2117 => ?_)
  refine g_wf (fun hwf2 => ?_)
  obtain ⟨t2, ans, hv2, hM2, hk2, hcs⟩ := hp2117
  subst hv2
  have h02 : 0 ≤ t2 ∧ t2 ≤ 2 := by omega
  have hI2 := inv_ask hwf1 hwf2 hcalm rfl ho hk2 hM2 h02 hg hr
  refine g_istore C dL_law_2120 (by decide) rfl ?_
  refine g_goto (tgt := 2220) C dL_law_2122 (by decide) ?_
  exact g_drop 5 (g_drop 6 (g_widen (by omega) (by omega) (kk _ hI2)))
set_option maxHeartbeats 4000000 in
set_option maxRecDepth 100000 in
theorem lc_isPrime {K : KC} {E : GE} {X : XT} {b N : Nat} {f : Nat → Int} {x m o t k n : Nat} {w : Wd} (LX : LawX K E X b N f) (ht : 5 * t + 5 ≤ N) (hI : INV x m o t w) (hk : k + 2000 ≤ 793047) (hn : n + 80000 ≤ 6722339) (kk : ∀ w', INV x m o (t + 1) w' → G E X 7 2220 (LL b x m o t) [] w' (k + 2000) (n + 80000)) : G E X 7 2125 (LL b x m o t) [] w k n := by
  obtain ⟨C, hT, hH, hls, ⟨hRf, hRl, hRc, hRs⟩, hS⟩ := LX
  have hf := hS.2.2.2.1
  have hN := hS.2.2.2.2
  obtain ⟨τ, ad, bs, ss, pb, P, Q, ct, A, th, ba, st, pm, le, ri, sp, cm, hC, hM, hx, ho, ⟨n0, s0, hO0⟩, hg, hr⟩ := hI
  subst hx
  refine g_wf (fun hwf => ?_)
  refine g_aload_n C dL_law_2125 rfl ?_
  refine g_aload_n C dL_law_2126 rfl ?_
  refine g_iload C dL_law_2127 rfl ?_
  refine g_iconst C dL_law_2129 ?_
  refine g_iadd C dL_law_2130 ?_
  refine g_sld (5 * t + 1) C hS (by omega) (by omega) dL_law_2131 ?_
  refine g_aload_n C dL_law_2132 rfl ?_
  refine x_callH C hT hH (w_L_isPrime _ hls hC ho hO0 (hf (5 * t + 1))) ml_RL_318 sm_yL_isPrime in_RL co_yL_isPrime hd_L_isPrime rfl ⟨by omega, by omega⟩ rfl (Nat.le_of_ble_eq_true rfl) ⟨by omega, by omega⟩ dL_law_2133 (fun v1 w1 hp => ?_)
  refine g_wf (fun hwf1 => ?_)
  obtain ⟨⟨k1, hv1, hk1⟩, hcalm⟩ := a_isPrime hC ho ⟨n0, s0, hO0⟩ hp
  subst hv1
  have hkm : KM τ w w1 := by
    obtain ⟨_, _, _, _, _, _, q, _⟩ := hcalm
    exact q
  have hM1 := hM.keep hkm.2
  refine g_istore C dL_law_2136 (by decide) rfl ?_
  refine g_aload_n C dL_law_2138 rfl ?_
  refine g_aload_n C dL_law_2139 rfl ?_
  refine g_iload C dL_law_2140 rfl ?_
  refine g_iconst C dL_law_2142 ?_
  refine g_iadd C dL_law_2143 ?_
  refine g_sld (5 * t + 1) C hS (by omega) (by omega) dL_law_2144 ?_
  refine g_callV C (c_X8_isPrime _ (hf (5 * t + 1)) hM1) (ci := 10) rfl hM1.o rfl ml_RL_320 im_yX8_isPrime se_RX8_yX8_isPrime in_RX8 co_yX8_isPrime hd_X8_isPrime rfl ⟨by omega, by omega⟩ rfl (Nat.le_of_ble_eq_true rfl) ⟨by omega, by omega⟩ dL_law_2145 (fun v2145 w2145 hp2145 => ?_)
  refine g_wf (fun hwf2 => ?_)
  obtain ⟨t2, ans, hv2, hM2, hk2, hcs⟩ := hp2145
  subst hv2
  have h02 : 0 ≤ t2 ∧ t2 ≤ 2 := by omega
  have hI2 := inv_ask hwf1 hwf2 hcalm rfl ho hk2 hM2 h02 hg hr
  refine g_istore C dL_law_2148 (by decide) rfl ?_
  refine g_goto (tgt := 2220) C dL_law_2150 (by decide) ?_
  exact g_drop 5 (g_drop 6 (g_widen (by omega) (by omega) (kk _ hI2)))
set_option maxHeartbeats 4000000 in
set_option maxRecDepth 100000 in
theorem lc_house {K : KC} {E : GE} {X : XT} {b N : Nat} {f : Nat → Int} {x m o t k n : Nat} {w : Wd} (LX : LawX K E X b N f) (ht : 5 * t + 5 ≤ N) (hI : INV x m o t w) (hk : k + 2000 ≤ 793047) (hn : n + 80000 ≤ 6722339) (kk : ∀ w', INV x m o (t + 1) w' → G E X 7 2220 (LL b x m o t) [] w' (k + 2000) (n + 80000)) : G E X 7 2153 (LL b x m o t) [] w k n := by
  obtain ⟨C, hT, hH, hls, ⟨hRf, hRl, hRc, hRs⟩, hS⟩ := LX
  have hf := hS.2.2.2.1
  have hN := hS.2.2.2.2
  obtain ⟨τ, ad, bs, ss, pb, P, Q, ct, A, th, ba, st, pm, le, ri, sp, cm, hC, hM, hx, ho, ⟨n0, s0, hO0⟩, hg, hr⟩ := hI
  subst hx
  refine g_wf (fun hwf => ?_)
  refine g_aload_n C dL_law_2153 rfl ?_
  refine g_aload_n C dL_law_2154 rfl ?_
  refine g_iload C dL_law_2155 rfl ?_
  refine g_iconst C dL_law_2157 ?_
  refine g_iadd C dL_law_2158 ?_
  refine g_sld (5 * t + 1) C hS (by omega) (by omega) dL_law_2159 ?_
  refine g_aload_n C dL_law_2160 rfl ?_
  refine x_callH C hT hH (w_L_house _ hls hC ho hO0 (hf (5 * t + 1))) ml_RL_321 sm_yL_house in_RL co_yL_house hd_L_house rfl ⟨by omega, by omega⟩ rfl (Nat.le_of_ble_eq_true rfl) ⟨by omega, by omega⟩ dL_law_2161 (fun v1 w1 hp => ?_)
  refine g_wf (fun hwf1 => ?_)
  obtain ⟨⟨k1, hv1, hk1⟩, hcalm⟩ := a_house hC ho ⟨n0, s0, hO0⟩ hp
  subst hv1
  have hkm : KM τ w w1 := by
    obtain ⟨_, _, _, _, _, _, q, _⟩ := hcalm
    exact q
  have hM1 := hM.keep hkm.2
  refine g_istore C dL_law_2164 (by decide) rfl ?_
  refine g_aload_n C dL_law_2166 rfl ?_
  refine g_aload_n C dL_law_2167 rfl ?_
  refine g_iload C dL_law_2168 rfl ?_
  refine g_iconst C dL_law_2170 ?_
  refine g_iadd C dL_law_2171 ?_
  refine g_sld (5 * t + 1) C hS (by omega) (by omega) dL_law_2172 ?_
  refine g_callV C (c_X8_house _ (hf (5 * t + 1)) hM1) (ci := 10) rfl hM1.o rfl ml_RL_323 im_yX8_house se_RX8_yX8_house in_RX8 co_yX8_house hd_X8_house rfl ⟨by omega, by omega⟩ rfl (Nat.le_of_ble_eq_true rfl) ⟨by omega, by omega⟩ dL_law_2173 (fun v2173 w2173 hp2173 => ?_)
  refine g_wf (fun hwf2 => ?_)
  obtain ⟨t2, ans, hv2, hM2, hk2, hcs⟩ := hp2173
  subst hv2
  have h02 : 0 ≤ t2 ∧ t2 ≤ 2 := by omega
  have hI2 := inv_ask hwf1 hwf2 hcalm rfl ho hk2 hM2 h02 hg hr
  refine g_istore C dL_law_2176 (by decide) rfl ?_
  refine g_goto (tgt := 2220) C dL_law_2178 (by decide) ?_
  exact g_drop 5 (g_drop 6 (g_widen (by omega) (by omega) (kk _ hI2)))
set_option maxHeartbeats 4000000 in
set_option maxRecDepth 100000 in
theorem lc_knock {K : KC} {E : GE} {X : XT} {b N : Nat} {f : Nat → Int} {x m o t k n : Nat} {w : Wd} (LX : LawX K E X b N f) (ht : 5 * t + 5 ≤ N) (hI : INV x m o t w) (hk : k + 2000 ≤ 793047) (hn : n + 80000 ≤ 6722339) (kk : ∀ w', INV x m o (t + 1) w' → G E X 7 2220 (LL b x m o t) [] w' (k + 2000) (n + 80000)) : G E X 7 2181 (LL b x m o t) [] w k n := by
  obtain ⟨C, hT, hH, hls, ⟨hRf, hRl, hRc, hRs⟩, hS⟩ := LX
  have hf := hS.2.2.2.1
  have hN := hS.2.2.2.2
  obtain ⟨τ, ad, bs, ss, pb, P, Q, ct, A, th, ba, st, pm, le, ri, sp, cm, hC, hM, hx, ho, ⟨n0, s0, hO0⟩, hg, hr⟩ := hI
  subst hx
  refine g_wf (fun hwf => ?_)
  refine g_aload_n C dL_law_2181 rfl ?_
  refine t_callV C hT (s_X6_knock _ hC ) (RcV.ob (ci := 8) C rfl hC.o) rfl ml_RL_324 im_yX6_knock se_RX6_yX6_knock in_RX6 co_yX6_knock hd_X6_knock rfl ⟨by omega, by omega⟩ rfl (Nat.le_of_ble_eq_true rfl) ⟨by omega, by omega⟩ dL_law_2182 (fun v2182 w2182 hp2182 => ?_)
  refine g_wf (fun hwf1 => ?_)
  obtain ⟨hv1, hC1, hko⟩ := hp2182
  subst hv1
  have hkm := hko.km
  have hM1 := hM.keep hkm.2
  have hOU : OU w2182 o := ⟨n0, s0, hko.2 o _ (Or.inr ho) hO0⟩
  refine g_pop C dL_law_2185 rfl ?_
  refine g_aload_n C dL_law_2186 rfl ?_
  refine g_callV C (c_X8_knock _ hM1) (ci := 10) rfl hM1.o rfl ml_RL_327 im_yX8_knock se_RX8_yX8_knock in_RX8 co_yX8_knock hd_X8_knock rfl ⟨by omega, by omega⟩ rfl (Nat.le_of_ble_eq_true rfl) ⟨by omega, by omega⟩ dL_law_2187 (fun v2187 w2187 hp2187 => ?_)
  refine g_wf (fun hwf2 => ?_)
  obtain ⟨hv2, hM2, hk2⟩ := hp2187
  subst hv2
  have hr4 := hr.2.2 4 (by omega)
  have hg4 := hg.2.2.2.2.2 4 (by omega)
  have hI2 := inv_md (t := t + 1) hwf1 hwf2 hC1 rfl ho hOU hk2 (fun _ _ => rfl) hM2 ⟨hg.1, hg.2.1, hg.2.2.1, hg.2.2.2.1, by omega, cm_up hg.2.2.2.2.2 4⟩ ⟨hr.1, hr.2.1, ctu hr.2.2 (by omega)⟩
  refine g_pop C dL_law_2190 rfl ?_
  refine g_goto (tgt := 2220) C dL_law_2191 (by decide) ?_
  exact g_drop 5 (g_drop 6 (g_widen (by omega) (by omega) (kk _ hI2)))
set_option maxHeartbeats 4000000 in
set_option maxRecDepth 100000 in
theorem lc_isSound {K : KC} {E : GE} {X : XT} {b N : Nat} {f : Nat → Int} {x m o t k n : Nat} {w : Wd} (LX : LawX K E X b N f) (ht : 5 * t + 5 ≤ N) (hI : INV x m o t w) (hk : k + 2000 ≤ 793047) (hn : n + 80000 ≤ 6722339) (kk : ∀ w', INV x m o (t + 1) w' → G E X 7 2220 (LL b x m o t) [] w' (k + 2000) (n + 80000)) : G E X 7 2194 (LL b x m o t) [] w k n := by
  obtain ⟨C, hT, hH, hls, ⟨hRf, hRl, hRc, hRs⟩, hS⟩ := LX
  have hf := hS.2.2.2.1
  have hN := hS.2.2.2.2
  obtain ⟨τ, ad, bs, ss, pb, P, Q, ct, A, th, ba, st, pm, le, ri, sp, cm, hC, hM, hx, ho, ⟨n0, s0, hO0⟩, hg, hr⟩ := hI
  subst hx
  refine g_wf (fun hwf => ?_)
  refine g_aload_n C dL_law_2194 rfl ?_
  refine t_callV C hT (s_X6_isSound _ hC ) (RcV.ob (ci := 8) C rfl hC.o) rfl ml_RL_328 im_yX6_isSound se_RX6_yX6_isSound in_RX6 co_yX6_isSound hd_X6_isSound rfl ⟨by omega, by omega⟩ rfl (Nat.le_of_ble_eq_true rfl) ⟨by omega, by omega⟩ dL_law_2195 (fun v2195 w2195 hp2195 => ?_)
  refine g_wf (fun hwf1 => ?_)
  obtain ⟨hv1, hC1, hko⟩ := hp2195
  subst hv1
  have hkm := hko.km
  have hM1 := hM.keep hkm.2
  have hOU : OU w2195 o := ⟨n0, s0, hko.2 o _ (Or.inr ho) hO0⟩
  have hcalm : CALM τ ad o w w2195 bs ss pb P Q ct := ⟨_, _, _, hC1, fun _ _ => ⟨rfl, rfl⟩, fun _ _ => rfl, hkm, hOU⟩
  refine g_pop C dL_law_2198 rfl ?_
  refine g_aload_n C dL_law_2199 rfl ?_
  refine g_callV C (c_X8_isSound _ hM1 hg.1 hg.2.1 hg.2.2.1 hg.2.2.2.1) (ci := 10) rfl hM1.o rfl ml_RL_332 im_yX8_isSound se_RX8_yX8_isSound in_RX8 co_yX8_isSound hd_X8_isSound rfl ⟨by omega, by omega⟩ rfl (Nat.le_of_ble_eq_true rfl) ⟨by omega, by omega⟩ dL_law_2200 (fun v2200 w2200 hp2200 => ?_)
  refine g_wf (fun hwf2 => ?_)
  obtain ⟨hv2, hM2, hk2⟩ := hp2200
  subst hv2
  have h02 : (0 : Int) ≤ 0 ∧ (0 : Int) ≤ 2 := by omega
  have hI2 := inv_ask hwf1 hwf2 hcalm rfl ho hk2 hM2 h02 hg hr
  refine g_pop C dL_law_2203 rfl ?_
  refine g_goto (tgt := 2220) C dL_law_2204 (by decide) ?_
  exact g_drop 5 (g_drop 6 (g_widen (by omega) (by omega) (kk _ hI2)))
set_option maxHeartbeats 4000000 in
set_option maxRecDepth 100000 in
theorem lc_digest {K : KC} {E : GE} {X : XT} {b N : Nat} {f : Nat → Int} {x m o t k n : Nat} {w : Wd} (LX : LawX K E X b N f) (ht : 5 * t + 5 ≤ N) (hI : INV x m o t w) (hk : k + 2000 ≤ 793047) (hn : n + 80000 ≤ 6722339) (kk : ∀ w', INV x m o (t + 1) w' → G E X 7 2220 (LL b x m o t) [] w' (k + 2000) (n + 80000)) : G E X 7 2207 (LL b x m o t) [] w k n := by
  obtain ⟨C, hT, hH, hls, ⟨hRf, hRl, hRc, hRs⟩, hS⟩ := LX
  have hf := hS.2.2.2.1
  have hN := hS.2.2.2.2
  obtain ⟨τ, ad, bs, ss, pb, P, Q, ct, A, th, ba, st, pm, le, ri, sp, cm, hC, hM, hx, ho, ⟨n0, s0, hO0⟩, hg, hr⟩ := hI
  subst hx
  refine g_wf (fun hwf => ?_)
  refine g_aload_n C dL_law_2207 rfl ?_
  refine t_callV C hT (s_X6_digest _ hC (fun i hi => by have h1 := hg.2.2.2.2.2 i hi; have h2 := hr.2.2 i hi; omega)) (RcV.ob (ci := 8) C rfl hC.o) rfl ml_RL_333 im_yX6_digest se_RX6_yX6_digest in_RX6 co_yX6_digest hd_X6_digest rfl ⟨by omega, by omega⟩ rfl (Nat.le_of_ble_eq_true rfl) ⟨by omega, by omega⟩ dL_law_2208 (fun v2208 w2208 hp2208 => ?_)
  refine g_wf (fun hwf1 => ?_)
  obtain ⟨⟨rt1, hrt1, hv1⟩, hC1, hko⟩ := hp2208
  subst hv1
  have hkm := hko.km
  have hM1 := hM.keep hkm.2
  have hOU : OU w2208 o := ⟨n0, s0, hko.2 o _ (Or.inr ho) hO0⟩
  have hcalm : CALM τ ad o w w2208 bs ss pb P Q ct := ⟨_, _, _, hC1, fun _ _ => ⟨rfl, rfl⟩, fun _ _ => rfl, hkm, hOU⟩
  refine g_pop2L C dL_law_2211 rfl ?_
  refine g_aload_n C dL_law_2212 rfl ?_
  refine g_callV C (c_X8_digest _ hM1 hg.1 hg.2.1 hg.2.2.1 hg.2.2.2.1 (fun i hi => by have := hg.2.2.2.2.2 i hi; omega)) (ci := 10) rfl hM1.o rfl ml_RL_337 im_yX8_digest se_RX8_yX8_digest in_RX8 co_yX8_digest hd_X8_digest rfl ⟨by omega, by omega⟩ rfl (Nat.le_of_ble_eq_true rfl) ⟨by omega, by omega⟩ dL_law_2213 (fun v2213 w2213 hp2213 => ?_)
  refine g_wf (fun hwf2 => ?_)
  obtain ⟨z2, hv2, hM2, hk2, hcs⟩ := hp2213
  subst hv2
  have h02 : (0 : Int) ≤ 0 ∧ (0 : Int) ≤ 2 := by omega
  have hI2 := inv_ask hwf1 hwf2 hcalm rfl ho hk2 hM2 h02 hg hr
  refine g_pop2L C dL_law_2216 rfl ?_
  refine g_goto (tgt := 2220) C dL_law_2217 (by decide) ?_
  exact g_drop 5 (g_drop 6 (g_widen (by omega) (by omega) (kk _ hI2)))
