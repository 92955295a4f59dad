-- the relation of the class's state and the reference's
abbrev e3 {α : Type} (f : Nat → α) (x y z : α) : Prop := f 0 = x ∧ f 1 = y ∧ f 2 = z
def Rp (f : Nat → Int64) (k : Nat) (lt : Int32) (po : Nat → Int64) (ou : Int64) : Prop := ∃ a : Nat, a < 11 ∧ lt = nI a ∧ ou = f (11 * k) ∧ ∀ i : Nat, i < 11 → f (11 * k + i) = po ((a + 11 - i) % 11)
def Rgo (md kgo mg : Int32) : Prop := md = 1 ∨ md = 2 → mg = kgo
def Gb (p i d : Int32) : Prop := -20000 ≤ p.toInt ∧ p.toInt ≤ 20000 ∧ -5000 ≤ i.toInt ∧ i.toInt ≤ 5000 ∧ -50000 ≤ d.toInt ∧ d.toInt ≤ 50000
def Rs (k : Nat) (mp : Int32) (at_ then_ : Nat → Int64) (sn : Int32) (gm gp gi gd : Nat → Int32) : Prop := ∃ j : Nat, j ≤ 5 ∧ sn = nI j ∧ mp = nI j ∧ (∀ i : Nat, i < j → at_ (5 * k + i) = (gm i).toInt64 ∧ then_ (3 * (5 * k + i)) = (gp i).toInt64 ∧ then_ (3 * (5 * k + i) + 1) = (gi i).toInt64 ∧ then_ (3 * (5 * k + i) + 2) = (gd i).toInt64 ∧ -1000000 ≤ (gm i).toInt ∧ (gm i).toInt ≤ 1000000 ∧ Gb (gp i) (gi i) (gd i)) ∧ ∀ i : Nat, i + 1 < j → (gm i).toInt < (gm (i + 1)).toInt
def Ilim (lo hi : Int32) : Prop := lo.toInt ≤ hi.toInt ∧ -1000000 ≤ lo.toInt ∧ hi.toInt ≤ 1000000
def Imd (md : Int32) : Prop := md = 0 ∨ md = 1 ∨ md = 2 ∨ md = 3
def Im0 (md ma : Int32) : Prop := ¬ md = 2 ∧ ma = 0
def Idt (d : Int32) : Prop := ∃ j : Nat, j ≤ 10 ∧ d = nI j
def Ime (x : Int64) : Prop := -1000000 ≤ x.toInt ∧ x.toInt ≤ 1000000
def Ist (x : Int32) : Prop := x = 0 ∨ x = 1
def Igl (g l : Int64) : Prop := l.toInt ≤ g.toInt ∧ -1000000 ≤ l.toInt ∧ g.toInt ≤ 1000000
def Isw (sw : Int64) (pe he : Int32) : Prop := 0 ≤ sw.toInt ∧ sw.toInt ≤ 2000000 ∧ 0 ≤ pe.toInt ∧ 0 ≤ he.toInt ∧ he.toInt ≤ 100000 ∧ pe.toInt ≤ 1000
def Irl (md pr sa ri se : Int32) : Prop := md = 3 → pr = 1 ∧ 0 ≤ sa.toInt ∧ sa.toInt ≤ 399 ∧ 0 ≤ ri.toInt ∧ ri.toInt ≤ 3 ∧ (2 ≤ ri.toInt → 0 ≤ se.toInt ∧ se.toInt ≤ sa.toInt)
def pc {α β : Type} (p : α × β) (f : α → β → Prop) : Prop := Prod.casesOn (motive := fun _ => Prop) p f
set_option maxRecDepth 100000 in
def Rel (T : LT × LT × LT) (bs : Int32) (M : MT) : Prop := pc T fun A0 Z => pc Z fun A1 A2 => pc A0 fun lmo_0 A0 => pc A0 fun lha_0 A0 => pc A0 fun lfo_0 A0 => pc A0 fun lma_0 A0 => pc A0 fun lst_0 A0 => pc A0 fun lou_0 A0 => pc A0 fun pa1_0 A0 => pc A0 fun pa2_0 A0 => pc A0 fun pb_0 A0 => pc A0 fun pdt_0 A0 => pc A0 fun pld_0 A0 => pc A0 fun pme_0 A0 => pc A0 fun pmb_0 A0 => pc A0 fun plt_0 A0 => pc A0 fun po_0 A0 => pc A0 fun kp_0 A0 => pc A0 fun ki_0 A0 => pc A0 fun kd_0 A0 => pc A0 fun klo_0 A0 => pc A0 fun khi_0 A0 => pc A0 fun kgu_0 A0 => pc A0 fun ksh_0 A0 => pc A0 fun khe_0 A0 => pc A0 fun ksp_0 A0 => pc A0 fun kig_0 A0 => pc A0 fun ksu_0 A0 => pc A0 fun kle_0 A0 => pc A0 fun klr_0 A0 => pc A0 fun kgo_0 A0 => pc A0 fun sn_0 A0 => pc A0 fun gm_0 A0 => pc A0 fun gp_0 A0 => pc A0 fun gi_0 A0 => pc A0 fun gd_0 A0 => pc A0 fun rpr_0 A0 => pc A0 fun rpe_0 A0 => pc A0 fun rsw_0 A0 => pc A0 fun rce_0 A0 => pc A0 fun rhe_0 A0 => pc A0 fun rba_0 A0 => pc A0 fun rup_0 A0 => pc A0 fun rsa_0 A0 => pc A0 fun rri_0 A0 => pc A0 fun rse_0 A0 => pc A0 fun rgr_0 rle_0 => pc A1 fun lmo_1 A1 => pc A1 fun lha_1 A1 => pc A1 fun lfo_1 A1 => pc A1 fun lma_1 A1 => pc A1 fun lst_1 A1 => pc A1 fun lou_1 A1 => pc A1 fun pa1_1 A1 => pc A1 fun pa2_1 A1 => pc A1 fun pb_1 A1 => pc A1 fun pdt_1 A1 => pc A1 fun pld_1 A1 => pc A1 fun pme_1 A1 => pc A1 fun pmb_1 A1 => pc A1 fun plt_1 A1 => pc A1 fun po_1 A1 => pc A1 fun kp_1 A1 => pc A1 fun ki_1 A1 => pc A1 fun kd_1 A1 => pc A1 fun klo_1 A1 => pc A1 fun khi_1 A1 => pc A1 fun kgu_1 A1 => pc A1 fun ksh_1 A1 => pc A1 fun khe_1 A1 => pc A1 fun ksp_1 A1 => pc A1 fun kig_1 A1 => pc A1 fun ksu_1 A1 => pc A1 fun kle_1 A1 => pc A1 fun klr_1 A1 => pc A1 fun kgo_1 A1 => pc A1 fun sn_1 A1 => pc A1 fun gm_1 A1 => pc A1 fun gp_1 A1 => pc A1 fun gi_1 A1 => pc A1 fun gd_1 A1 => pc A1 fun rpr_1 A1 => pc A1 fun rpe_1 A1 => pc A1 fun rsw_1 A1 => pc A1 fun rce_1 A1 => pc A1 fun rhe_1 A1 => pc A1 fun rba_1 A1 => pc A1 fun rup_1 A1 => pc A1 fun rsa_1 A1 => pc A1 fun rri_1 A1 => pc A1 fun rse_1 A1 => pc A1 fun rgr_1 rle_1 => pc A2 fun lmo_2 A2 => pc A2 fun lha_2 A2 => pc A2 fun lfo_2 A2 => pc A2 fun lma_2 A2 => pc A2 fun lst_2 A2 => pc A2 fun lou_2 A2 => pc A2 fun pa1_2 A2 => pc A2 fun pa2_2 A2 => pc A2 fun pb_2 A2 => pc A2 fun pdt_2 A2 => pc A2 fun pld_2 A2 => pc A2 fun pme_2 A2 => pc A2 fun pmb_2 A2 => pc A2 fun plt_2 A2 => pc A2 fun po_2 A2 => pc A2 fun kp_2 A2 => pc A2 fun ki_2 A2 => pc A2 fun kd_2 A2 => pc A2 fun klo_2 A2 => pc A2 fun khi_2 A2 => pc A2 fun kgu_2 A2 => pc A2 fun ksh_2 A2 => pc A2 fun khe_2 A2 => pc A2 fun ksp_2 A2 => pc A2 fun kig_2 A2 => pc A2 fun ksu_2 A2 => pc A2 fun kle_2 A2 => pc A2 fun klr_2 A2 => pc A2 fun kgo_2 A2 => pc A2 fun sn_2 A2 => pc A2 fun gm_2 A2 => pc A2 fun gp_2 A2 => pc A2 fun gi_2 A2 => pc A2 fun gd_2 A2 => pc A2 fun rpr_2 A2 => pc A2 fun rpe_2 A2 => pc A2 fun rsw_2 A2 => pc A2 fun rce_2 A2 => pc A2 fun rhe_2 A2 => pc A2 fun rba_2 A2 => pc A2 fun rup_2 A2 => pc A2 fun rsa_2 A2 => pc A2 fun rri_2 A2 => pc A2 fun rse_2 A2 => pc A2 fun rgr_2 rle_2 => pc M fun ms_samples M => pc M fun m_a1 M => pc M fun m_a2 M => pc M fun m_b M => pc M fun m_deadTime M => pc M fun m_load M => pc M fun m_measure M => pc M fun m_before M => pc M fun m_past M => pc M fun m_gain M => pc M fun m_low M => pc M fun m_high M => pc M fun m_setpoint M => pc M fun m_integral M => pc M fun m_guard M => pc M fun m_share M => pc M fun m_mode M => pc M fun m_hand M => pc M fun m_follows M => pc M fun m_hasMaster M => pc M fun m_isStarved M => pc M fun m_held M => pc M fun m_sum M => pc M fun m_lastError M => pc M fun m_lastRate M => pc M fun m_goesOn M => pc M fun m_points M => pc M fun m_at M => pc M fun m_then M => pc M fun m_experiment M => pc M fun m_center M => pc M fun m_height M => pc M fun m_band M => pc M fun m_isUp M => pc M fun m_gone M => pc M fun m_risings M => pc M fun m_second M => pc M fun m_greatest M => pc M fun m_least M => pc M fun m_period M => pc M fun m_swing ms_thrown => bs = ms_samples ∧ (e3 m_a1 pa1_0.toInt64 pa1_1.toInt64 pa1_2.toInt64) ∧ (e3 m_a2 pa2_0.toInt64 pa2_1.toInt64 pa2_2.toInt64) ∧ (e3 m_b pb_0.toInt64 pb_1.toInt64 pb_2.toInt64) ∧ (e3 m_deadTime pdt_0 pdt_1 pdt_2) ∧ (e3 m_load pld_0 pld_1 pld_2) ∧ (e3 m_measure pme_0 pme_1 pme_2) ∧ (e3 m_before pmb_0 pmb_1 pmb_2) ∧ (e3 m_low klo_0.toInt64 klo_1.toInt64 klo_2.toInt64) ∧ (e3 m_high khi_0.toInt64 khi_1.toInt64 khi_2.toInt64) ∧ (e3 m_setpoint ksp_0 ksp_1 ksp_2) ∧ (e3 m_integral kig_0 kig_1 kig_2) ∧ (e3 m_guard kgu_0 kgu_1 kgu_2) ∧ (e3 m_share ksh_0 ksh_1 ksh_2) ∧ (e3 m_mode lmo_0 lmo_1 lmo_2) ∧ (e3 m_hand lha_0 lha_1 lha_2) ∧ (e3 m_follows lfo_0 lfo_1 lfo_2) ∧ (e3 m_hasMaster lma_0 lma_1 lma_2) ∧ (e3 m_isStarved lst_0 lst_1 lst_2) ∧ (e3 m_held khe_0 khe_1 khe_2) ∧ (e3 m_sum ksu_0 ksu_1 ksu_2) ∧ (e3 m_lastError kle_0 kle_1 kle_2) ∧ (e3 m_lastRate klr_0 klr_1 klr_2) ∧ (e3 m_experiment rpr_0 rpr_1 rpr_2) ∧ (e3 m_center rce_0 rce_1 rce_2) ∧ (e3 m_height rhe_0 rhe_1 rhe_2) ∧ (e3 m_band rba_0 rba_1 rba_2) ∧ (e3 m_isUp rup_0 rup_1 rup_2) ∧ (e3 m_gone rsa_0 rsa_1 rsa_2) ∧ (e3 m_risings rri_0 rri_1 rri_2) ∧ (e3 m_second rse_0 rse_1 rse_2) ∧ (e3 m_greatest rgr_0 rgr_1 rgr_2) ∧ (e3 m_least rle_0 rle_1 rle_2) ∧ (e3 m_period rpe_0 rpe_1 rpe_2) ∧ (e3 m_swing rsw_0 rsw_1 rsw_2) ∧ (m_gain 0 = kp_0.toInt64 ∧ m_gain 1 = ki_0.toInt64 ∧ m_gain 2 = kd_0.toInt64 ∧ m_gain 3 = kp_1.toInt64 ∧ m_gain 4 = ki_1.toInt64 ∧ m_gain 5 = kd_1.toInt64 ∧ m_gain 6 = kp_2.toInt64 ∧ m_gain 7 = ki_2.toInt64 ∧ m_gain 8 = kd_2.toInt64) ∧ ((Rp m_past 0 plt_0 po_0 lou_0) ∧ (Rp m_past 1 plt_1 po_1 lou_1) ∧ (Rp m_past 2 plt_2 po_2 lou_2)) ∧ ((Rgo lmo_0 kgo_0 (m_goesOn 0)) ∧ (Rgo lmo_1 kgo_1 (m_goesOn 1)) ∧ (Rgo lmo_2 kgo_2 (m_goesOn 2))) ∧ ((Rs 0 (m_points 0) m_at m_then sn_0 gm_0 gp_0 gi_0 gd_0) ∧ (Rs 1 (m_points 1) m_at m_then sn_1 gm_1 gp_1 gi_1 gd_1) ∧ (Rs 2 (m_points 2) m_at m_then sn_2 gm_2 gp_2 gi_2 gd_2)) ∧ ((Ilim klo_0 khi_0) ∧ (Ilim klo_1 khi_1) ∧ (Ilim klo_2 khi_2)) ∧ ((Gb kp_0 ki_0 kd_0) ∧ (Gb kp_1 ki_1 kd_1) ∧ (Gb kp_2 ki_2 kd_2)) ∧ ((Imd lmo_0) ∧ (Imd lmo_1) ∧ (Imd lmo_2)) ∧ ((Idt pdt_0) ∧ (Idt pdt_1) ∧ (Idt pdt_2)) ∧ ((Ime pme_0) ∧ (Ime pme_1) ∧ (Ime pme_2)) ∧ ((Ist lst_0) ∧ (Ist lst_1) ∧ (Ist lst_2)) ∧ ((Ist rup_0) ∧ (Ist rup_1) ∧ (Ist rup_2)) ∧ ((Igl rgr_0 rle_0) ∧ (Igl rgr_1 rle_1) ∧ (Igl rgr_2 rle_2)) ∧ ((Isw rsw_0 rpe_0 rhe_0) ∧ (Isw rsw_1 rpe_1 rhe_1) ∧ (Isw rsw_2 rpe_2 rhe_2)) ∧ ((Irl lmo_0 rpr_0 rsa_0 rri_0 rse_0) ∧ (Irl lmo_1 rpr_1 rsa_1 rri_1 rse_1) ∧ (Irl lmo_2 rpr_2 rsa_2 rri_2 rse_2)) ∧ (Im0 lmo_0 lma_0)
set_option maxRecDepth 100000 in
theorem Rel_iff {T : LT × LT × LT} {bs : Int32} {M : MT} : Rel T bs M ↔ bs = ym_ms_samples M ∧ (e3 (ym_m_a1 M) (yl_pa1 T.1).toInt64 (yl_pa1 T.2.1).toInt64 (yl_pa1 T.2.2).toInt64) ∧ (e3 (ym_m_a2 M) (yl_pa2 T.1).toInt64 (yl_pa2 T.2.1).toInt64 (yl_pa2 T.2.2).toInt64) ∧ (e3 (ym_m_b M) (yl_pb T.1).toInt64 (yl_pb T.2.1).toInt64 (yl_pb T.2.2).toInt64) ∧ (e3 (ym_m_deadTime M) (yl_pdt T.1) (yl_pdt T.2.1) (yl_pdt T.2.2)) ∧ (e3 (ym_m_load M) (yl_pld T.1) (yl_pld T.2.1) (yl_pld T.2.2)) ∧ (e3 (ym_m_measure M) (yl_pme T.1) (yl_pme T.2.1) (yl_pme T.2.2)) ∧ (e3 (ym_m_before M) (yl_pmb T.1) (yl_pmb T.2.1) (yl_pmb T.2.2)) ∧ (e3 (ym_m_low M) (yl_klo T.1).toInt64 (yl_klo T.2.1).toInt64 (yl_klo T.2.2).toInt64) ∧ (e3 (ym_m_high M) (yl_khi T.1).toInt64 (yl_khi T.2.1).toInt64 (yl_khi T.2.2).toInt64) ∧ (e3 (ym_m_setpoint M) (yl_ksp T.1) (yl_ksp T.2.1) (yl_ksp T.2.2)) ∧ (e3 (ym_m_integral M) (yl_kig T.1) (yl_kig T.2.1) (yl_kig T.2.2)) ∧ (e3 (ym_m_guard M) (yl_kgu T.1) (yl_kgu T.2.1) (yl_kgu T.2.2)) ∧ (e3 (ym_m_share M) (yl_ksh T.1) (yl_ksh T.2.1) (yl_ksh T.2.2)) ∧ (e3 (ym_m_mode M) (yl_lmo T.1) (yl_lmo T.2.1) (yl_lmo T.2.2)) ∧ (e3 (ym_m_hand M) (yl_lha T.1) (yl_lha T.2.1) (yl_lha T.2.2)) ∧ (e3 (ym_m_follows M) (yl_lfo T.1) (yl_lfo T.2.1) (yl_lfo T.2.2)) ∧ (e3 (ym_m_hasMaster M) (yl_lma T.1) (yl_lma T.2.1) (yl_lma T.2.2)) ∧ (e3 (ym_m_isStarved M) (yl_lst T.1) (yl_lst T.2.1) (yl_lst T.2.2)) ∧ (e3 (ym_m_held M) (yl_khe T.1) (yl_khe T.2.1) (yl_khe T.2.2)) ∧ (e3 (ym_m_sum M) (yl_ksu T.1) (yl_ksu T.2.1) (yl_ksu T.2.2)) ∧ (e3 (ym_m_lastError M) (yl_kle T.1) (yl_kle T.2.1) (yl_kle T.2.2)) ∧ (e3 (ym_m_lastRate M) (yl_klr T.1) (yl_klr T.2.1) (yl_klr T.2.2)) ∧ (e3 (ym_m_experiment M) (yl_rpr T.1) (yl_rpr T.2.1) (yl_rpr T.2.2)) ∧ (e3 (ym_m_center M) (yl_rce T.1) (yl_rce T.2.1) (yl_rce T.2.2)) ∧ (e3 (ym_m_height M) (yl_rhe T.1) (yl_rhe T.2.1) (yl_rhe T.2.2)) ∧ (e3 (ym_m_band M) (yl_rba T.1) (yl_rba T.2.1) (yl_rba T.2.2)) ∧ (e3 (ym_m_isUp M) (yl_rup T.1) (yl_rup T.2.1) (yl_rup T.2.2)) ∧ (e3 (ym_m_gone M) (yl_rsa T.1) (yl_rsa T.2.1) (yl_rsa T.2.2)) ∧ (e3 (ym_m_risings M) (yl_rri T.1) (yl_rri T.2.1) (yl_rri T.2.2)) ∧ (e3 (ym_m_second M) (yl_rse T.1) (yl_rse T.2.1) (yl_rse T.2.2)) ∧ (e3 (ym_m_greatest M) (yl_rgr T.1) (yl_rgr T.2.1) (yl_rgr T.2.2)) ∧ (e3 (ym_m_least M) (yl_rle T.1) (yl_rle T.2.1) (yl_rle T.2.2)) ∧ (e3 (ym_m_period M) (yl_rpe T.1) (yl_rpe T.2.1) (yl_rpe T.2.2)) ∧ (e3 (ym_m_swing M) (yl_rsw T.1) (yl_rsw T.2.1) (yl_rsw T.2.2)) ∧ ((ym_m_gain M) 0 = (yl_kp T.1).toInt64 ∧ (ym_m_gain M) 1 = (yl_ki T.1).toInt64 ∧ (ym_m_gain M) 2 = (yl_kd T.1).toInt64 ∧ (ym_m_gain M) 3 = (yl_kp T.2.1).toInt64 ∧ (ym_m_gain M) 4 = (yl_ki T.2.1).toInt64 ∧ (ym_m_gain M) 5 = (yl_kd T.2.1).toInt64 ∧ (ym_m_gain M) 6 = (yl_kp T.2.2).toInt64 ∧ (ym_m_gain M) 7 = (yl_ki T.2.2).toInt64 ∧ (ym_m_gain M) 8 = (yl_kd T.2.2).toInt64) ∧ ((Rp (ym_m_past M) 0 (yl_plt T.1) (yl_po T.1) (yl_lou T.1)) ∧ (Rp (ym_m_past M) 1 (yl_plt T.2.1) (yl_po T.2.1) (yl_lou T.2.1)) ∧ (Rp (ym_m_past M) 2 (yl_plt T.2.2) (yl_po T.2.2) (yl_lou T.2.2))) ∧ ((Rgo (yl_lmo T.1) (yl_kgo T.1) ((ym_m_goesOn M) 0)) ∧ (Rgo (yl_lmo T.2.1) (yl_kgo T.2.1) ((ym_m_goesOn M) 1)) ∧ (Rgo (yl_lmo T.2.2) (yl_kgo T.2.2) ((ym_m_goesOn M) 2))) ∧ ((Rs 0 ((ym_m_points M) 0) (ym_m_at M) (ym_m_then M) (yl_sn T.1) (yl_gm T.1) (yl_gp T.1) (yl_gi T.1) (yl_gd T.1)) ∧ (Rs 1 ((ym_m_points M) 1) (ym_m_at M) (ym_m_then M) (yl_sn T.2.1) (yl_gm T.2.1) (yl_gp T.2.1) (yl_gi T.2.1) (yl_gd T.2.1)) ∧ (Rs 2 ((ym_m_points M) 2) (ym_m_at M) (ym_m_then M) (yl_sn T.2.2) (yl_gm T.2.2) (yl_gp T.2.2) (yl_gi T.2.2) (yl_gd T.2.2))) ∧ ((Ilim (yl_klo T.1) (yl_khi T.1)) ∧ (Ilim (yl_klo T.2.1) (yl_khi T.2.1)) ∧ (Ilim (yl_klo T.2.2) (yl_khi T.2.2))) ∧ ((Gb (yl_kp T.1) (yl_ki T.1) (yl_kd T.1)) ∧ (Gb (yl_kp T.2.1) (yl_ki T.2.1) (yl_kd T.2.1)) ∧ (Gb (yl_kp T.2.2) (yl_ki T.2.2) (yl_kd T.2.2))) ∧ ((Imd (yl_lmo T.1)) ∧ (Imd (yl_lmo T.2.1)) ∧ (Imd (yl_lmo T.2.2))) ∧ ((Idt (yl_pdt T.1)) ∧ (Idt (yl_pdt T.2.1)) ∧ (Idt (yl_pdt T.2.2))) ∧ ((Ime (yl_pme T.1)) ∧ (Ime (yl_pme T.2.1)) ∧ (Ime (yl_pme T.2.2))) ∧ ((Ist (yl_lst T.1)) ∧ (Ist (yl_lst T.2.1)) ∧ (Ist (yl_lst T.2.2))) ∧ ((Ist (yl_rup T.1)) ∧ (Ist (yl_rup T.2.1)) ∧ (Ist (yl_rup T.2.2))) ∧ ((Igl (yl_rgr T.1) (yl_rle T.1)) ∧ (Igl (yl_rgr T.2.1) (yl_rle T.2.1)) ∧ (Igl (yl_rgr T.2.2) (yl_rle T.2.2))) ∧ ((Isw (yl_rsw T.1) (yl_rpe T.1) (yl_rhe T.1)) ∧ (Isw (yl_rsw T.2.1) (yl_rpe T.2.1) (yl_rhe T.2.1)) ∧ (Isw (yl_rsw T.2.2) (yl_rpe T.2.2) (yl_rhe T.2.2))) ∧ ((Irl (yl_lmo T.1) (yl_rpr T.1) (yl_rsa T.1) (yl_rri T.1) (yl_rse T.1)) ∧ (Irl (yl_lmo T.2.1) (yl_rpr T.2.1) (yl_rsa T.2.1) (yl_rri T.2.1) (yl_rse T.2.1)) ∧ (Irl (yl_lmo T.2.2) (yl_rpr T.2.2) (yl_rsa T.2.2) (yl_rri T.2.2) (yl_rse T.2.2))) ∧ (Im0 (yl_lmo T.1) (yl_lma T.1)) := Iff.rfl
theorem ik_0 : (0 : Int32).toNatClampNeg = 0 := rfl
theorem i3_0 : ((3 : Int32) * 0).toNatClampNeg = 0 := rfl
theorem i31_0 : (((3 : Int32) * 0) + (1 : Int32)).toNatClampNeg = 1 := rfl
theorem i32_0 : (((3 : Int32) * 0) + (2 : Int32)).toNatClampNeg = 2 := rfl
theorem i11_0 : ((11 : Int32) * 0).toNatClampNeg = 0 := rfl
theorem ik_1 : (1 : Int32).toNatClampNeg = 1 := rfl
theorem i3_1 : ((3 : Int32) * 1).toNatClampNeg = 3 := rfl
theorem i31_1 : (((3 : Int32) * 1) + (1 : Int32)).toNatClampNeg = 4 := rfl
theorem i32_1 : (((3 : Int32) * 1) + (2 : Int32)).toNatClampNeg = 5 := rfl
theorem i11_1 : ((11 : Int32) * 1).toNatClampNeg = 11 := rfl
theorem ik_2 : (2 : Int32).toNatClampNeg = 2 := rfl
theorem i3_2 : ((3 : Int32) * 2).toNatClampNeg = 6 := rfl
theorem i31_2 : (((3 : Int32) * 2) + (1 : Int32)).toNatClampNeg = 7 := rfl
theorem i32_2 : (((3 : Int32) * 2) + (2 : Int32)).toNatClampNeg = 8 := rfl
theorem i11_2 : ((11 : Int32) * 2).toNatClampNeg = 22 := rfl
theorem u_eq (f : Nat → Int32) (i : Nat) (x : Int32) : upd f i x i = x := by simp [upd]
theorem u_ne (f : Nat → Int32) {i j : Nat} (x : Int32) (h : ¬ j = i) : upd f i x j = f j := by simp [upd, h]
theorem ul_eq (f : Nat → Int64) (i : Nat) (x : Int64) : vp_updL f i x i = x := by simp [vp_updL]
theorem ul_ne (f : Nat → Int64) {i j : Nat} (x : Int64) (h : ¬ j = i) : vp_updL f i x j = f j := by simp [vp_updL, h]
theorem can_no {c : Int32} (h : ¬ c = 0) : f_X6_can_j1_1 c = 0 := by unfold f_X6_can_j1_1; rw [if_neg h]
theorem can_ok {c : Int32} (h : c = 0) : ¬ f_X6_can_j1_1 c = 0 := by unfold f_X6_can_j1_1; rw [if_pos h]; decide
theorem il_0 : f_X6_isLoop_j1_1 0 = 1 := by decide
theorem il_1 : f_X6_isLoop_j1_1 1 = 1 := by decide
theorem il_2 : f_X6_isLoop_j1_1 2 = 1 := by decide
theorem il_o {lp : Int32} (h0 : ¬ lp = 0) (h1 : ¬ lp = 1) (h2 : ¬ lp = 2) : f_X6_isLoop_j1_1 lp = 0 := by
  unfold f_X6_isLoop_j1_1
  by_cases a : lp < 0
  · rw [if_pos a]
  · have b := lp_out h0 h1 h2 a
    rw [if_neg a, if_pos]
    rw [fa_le]; rw [fa_lt] at b; omega
theorem ra_eq (x : Int32) : f_X5_requireArgument_x x = if x = 0 then 2 else 0 := rfl
theorem rs_eq (x : Int32) : f_X5_requireState_x x = if x = 0 then 3 else 0 := rfl
theorem rw_eq (v lo hi : Int32) : f_X5_requireWithin_x v lo hi = if f_X6_isIn_j1_1 v lo hi = 0 then 2 else 0 := by
  unfold f_X5_requireWithin_x f_X5_requireArgument_x
  show _ = if f_X5_requireWithin_j1_1 v lo hi = 0 then 2 else 0
  by_cases h : f_X5_requireWithin_j1_1 v lo hi = 0
  · simp [h]
  · simp [h]
theorem rg_eq (np ni nd : Int32) : f_X5_requireGains_x np ni nd = if f_X6_areGains_j1_1 np ni nd = 0 then 2 else 0 := by
  unfold f_X5_requireGains_x f_X6_areGains_j1_1
  simp only [rw_eq]
  by_cases a : f_X6_isIn_j1_1 np (-20000 : Int32) (20000 : Int32) = 0
  · simp [a]
  · by_cases b : f_X6_isIn_j1_1 ni (-5000 : Int32) (5000 : Int32) = 0
    · simp [a, b]
    · by_cases c : f_X6_isIn_j1_1 nd (-50000 : Int32) (50000 : Int32) = 0
      · simp [a, b, c]
      · simp [a, b, c]
theorem rn_eq (wh : Int32) : f_X5_requireGainNumber_x wh = if f_X6_isIn_j1_1 wh (0 : Int32) (2 : Int32) = 0 then 1 else 0 := by
  unfold f_X5_requireGainNumber_x f_X6_isIn_j1_1
  by_cases a : wh < (0 : Int32)
  · simp [a]
  · by_cases b : wh ≤ (2 : Int32)
    · have c : ¬ (2 : Int32) < wh := by rw [fa_lt]; rw [fa_le] at b; omega
      simp [a, b, c]
    · have c : (2 : Int32) < wh := by rw [fa_lt]; rw [fa_le] at b; omega
      simp [a, b, c]
theorem in_ok {v lo hi : Int32} (h : ¬ f_X6_isIn_j1_1 v lo hi = 0) : lo.toInt ≤ v.toInt ∧ v.toInt ≤ hi.toInt := by
  have := is_ok h
  rw [fa_le, fa_le] at this
  exact this
theorem ag_ok {np ni nd : Int32} (h : ¬ f_X6_areGains_j1_1 np ni nd = 0) : Gb np ni nd := by
  unfold f_X6_areGains_j1_1 at h
  by_cases a : f_X6_isIn_j1_1 np (-20000 : Int32) (20000 : Int32) = 0
  · simp [a] at h
  · by_cases b : f_X6_isIn_j1_1 ni (-5000 : Int32) (5000 : Int32) = 0
    · simp [a, b] at h
    · by_cases c : f_X6_isIn_j1_1 nd (-50000 : Int32) (50000 : Int32) = 0
      · simp [a, b, c] at h
      · have e1 := in_ok a
        have e2 := in_ok b
        have e3 := in_ok c
        exact ⟨e1.1, e1.2, e2.1, e2.2, e3.1, e3.2⟩
theorem w12_n {x : Nat} (h : ¬ x = 0) : ¬ wr12 x = 0 := by unfold wr12; rw [if_neg h]; split <;> decide
theorem w123_n {x : Nat} (h : ¬ x = 0) : ¬ wr123 x = 0 := by unfold wr123; rw [if_neg h]; split; decide; split <;> decide
theorem w1_n {x : Nat} (h : ¬ x = 0) : ¬ wr1 x = 0 := by unfold wr1; rw [if_neg h]; decide
theorem w13_n {x : Nat} (h : ¬ x = 0) : ¬ wr13 x = 0 := by unfold wr13; rw [if_neg h]; split <;> decide
theorem w12_0 {x : Nat} (h : x = 0) : wr12 x = 0 := by unfold wr12; rw [if_pos h]
theorem w123_0 {x : Nat} (h : x = 0) : wr123 x = 0 := by unfold wr123; rw [if_pos h]
theorem w1_0 {x : Nat} (h : x = 0) : wr1 x = 0 := by unfold wr1; rw [if_pos h]
theorem w13_0 {x : Nat} (h : x = 0) : wr13 x = 0 := by unfold wr13; rw [if_pos h]
theorem sg_64 {x y : Int32} (h1 : -2147483648 ≤ x.toInt - y.toInt) (h2 : x.toInt - y.toInt < 2147483648) : (x - y).toInt64 = x.toInt64 - y.toInt64 := by
  rw [fa_eq64, Int32.toInt_toInt64, fb_subI h1 h2, fb_subL (by rw [Int32.toInt_toInt64, Int32.toInt_toInt64]; omega) (by rw [Int32.toInt_toInt64, Int32.toInt_toInt64]; omega), Int32.toInt_toInt64, Int32.toInt_toInt64]
/-- the integral behind a change of gains: the class's and the reference's -/
theorem cg_eq {p i d np ni nd : Int32} (h : Gb p i d) (h2 : Gb np ni nd) (sp ig me mb : Int64) : f_X0_changeGains_kig p d sp ig me mb np nd = ig + ((p.toInt64 - np.toInt64) * (sp - me) + (d.toInt64 - nd.toInt64) * (mb - me)) := by
  obtain ⟨a1, a2, a3, a4, a5, a6⟩ := h
  obtain ⟨b1, b2, b3, b4, b5, b6⟩ := h2
  unfold f_X0_changeGains_kig f_X0_error_r f_X0_rate_r
  rw [sg_64 (by omega) (by omega), sg_64 (by omega) (by omega)]
theorem cd_setPlant {lp a1v a2v bv dtv : Int32} (hl : f_X6_isLoop_j1_1 lp = 1) : f_X6_setPlant_j2_1 lp a1v a2v bv dtv = wr12 (f_X5_setPlant_x a1v a2v bv dtv) := by
  unfold f_X6_setPlant_j2_1 f_X6_setPlant_j1_1 f_X5_setPlant_x
  simp only [rw_eq, hl]
  by_cases a : f_X6_isIn_j1_1 a1v (-2000 : Int32) (2000 : Int32) = 0
  · simp [a, wr12]
  by_cases b : f_X6_isIn_j1_1 a2v (-1000 : Int32) (1000 : Int32) = 0
  · simp [a, b, wr12]
  by_cases c : f_X6_isIn_j1_1 bv (-2000 : Int32) (2000 : Int32) = 0
  · simp [a, b, c, wr12]
  by_cases d : f_X6_isIn_j1_1 dtv (0 : Int32) (10 : Int32) = 0
  · simp [a, b, c, d, wr12]
  · simp [a, b, c, d, wr12]
theorem cd_setLoad {lp ldv : Int32} (hl : f_X6_isLoop_j1_1 lp = 1) : f_X6_setLoad_j1_1 lp ldv = wr12 (f_X5_setLoad_x ldv) := by
  unfold f_X6_setLoad_j1_1 f_X5_setLoad_x
  simp only [rw_eq, hl]
  by_cases a : f_X6_isIn_j1_1 ldv (-10000 : Int32) (10000 : Int32) = 0
  · simp [a, wr12]
  · simp [a, wr12]
theorem cd_setGains {md : Nat → Int32} {lp lmo np ni nd : Int32} (hl : f_X6_isLoop_j1_1 lp = 1) (hm : md lp.toNatClampNeg = lmo) : f_X6_setGains_j1_1 md lp np ni nd = wr123 (f_X5_setGains_x lmo np ni nd) := by
  unfold f_X6_setGains_j1_1 f_X5_setGains_x f_X5_setGains_j1_1
  simp only [rg_eq, rs_eq, hl, hm]
  by_cases a : f_X6_areGains_j1_1 np ni nd = 0
  · simp [a, wr123]
  by_cases b : lmo = 3
  · simp [a, b, wr123]
  · simp [a, b, wr123]
theorem cd_setLimits {lp lov hiv : Int32} (hl : f_X6_isLoop_j1_1 lp = 1) : f_X6_setLimits_j1_1 lp lov hiv = wr12 (f_X5_setLimits_x lov hiv) := by
  unfold f_X6_setLimits_j1_1 f_X5_setLimits_x
  simp only [rw_eq, hl]
  by_cases a : f_X6_isIn_j1_1 lov (-1000000 : Int32) (1000000 : Int32) = 0
  · simp [a, wr12]
  by_cases b : f_X6_isIn_j1_1 hiv lov (1000000 : Int32) = 0
  · simp [a, b, wr12]
  · simp [a, b, wr12]
theorem cd_setGuard {lp guv shv : Int32} (hl : f_X6_isLoop_j1_1 lp = 1) : f_X6_setGuard_j1_1 lp guv shv = wr12 (f_X5_setGuard_x guv shv) := by
  unfold f_X6_setGuard_j1_1 f_X5_setGuard_x
  simp only [rw_eq, hl]
  by_cases a : f_X6_isIn_j1_1 guv (0 : Int32) (2 : Int32) = 0
  · simp [a, wr12]
  by_cases b : f_X6_isIn_j1_1 shv (0 : Int32) (1000 : Int32) = 0
  · simp [a, b, wr12]
  · simp [a, b, wr12]
theorem cd_setSetpoint {md : Nat → Int32} {lp lmo spv : Int32} (hl : f_X6_isLoop_j1_1 lp = 1) (hm : md lp.toNatClampNeg = lmo) : f_X6_setSetpoint_j1_1 md lp spv = wr123 (f_X5_setSetpoint_x lmo spv) := by
  unfold f_X6_setSetpoint_j1_1 f_X5_setSetpoint_x f_X5_setSetpoint_j1_1
  simp only [rw_eq, rs_eq, hl, hm]
  by_cases a : f_X6_isIn_j1_1 spv (-1000000 : Int32) (1000000 : Int32) = 0
  · simp [a, wr123]
  by_cases b : lmo = 2
  · simp [a, b, wr123]
  · simp [a, b, wr123]
theorem cd_setHand {md : Nat → Int32} {lp lmo hav : Int32} (hl : f_X6_isLoop_j1_1 lp = 1) (hm : md lp.toNatClampNeg = lmo) : f_X6_setHand_j1_1 md lp hav = wr123 (f_X5_setHand_x lmo hav) := by
  unfold f_X6_setHand_j1_1 f_X5_setHand_x f_X5_setHand_j1_1
  simp only [rw_eq, rs_eq, hl, hm]
  by_cases a : f_X6_isIn_j1_1 hav (-1000000 : Int32) (1000000 : Int32) = 0
  · simp [a, wr123]
  by_cases b : lmo = 0
  · simp [a, b, wr123]
  · simp [a, b, wr123]
theorem cd_setTies {md : Nat → Int32} {lp lmo mav : Int32} (hl : f_X6_isLoop_j1_1 lp = 1) (hm : md lp.toNatClampNeg = lmo) : f_X6_setTies_j1_1 md lp mav = wr123 (f_X5_setTies_x lmo lp mav) := by
  unfold f_X6_setTies_j1_1 f_X5_setTies_x f_X5_setTies_j1_1 f_X5_setTies_j2_1
  simp only [ra_eq, rs_eq, hl, hm]
  by_cases a : mav = 0
  · by_cases b : lmo = 2
    · simp [a, b, wr123]
    · simp [a, b, wr123]
  · by_cases b : lp = 0
    · simp [a, b, wr123]
    · simp [a, b, wr123]
theorem cd_setMode {md ms : Nat → Int32} {lp lmo lma mov : Int32} (hl : f_X6_isLoop_j1_1 lp = 1) (hm : md lp.toNatClampNeg = lmo) (hs : ms lp.toNatClampNeg = lma) : f_X6_setMode_j1_1 md ms lp mov = wr123 (f_X5_setMode_x lmo lma mov) := by
  unfold f_X6_setMode_j1_1 f_X5_setMode_x f_X5_setMode_j1_1 f_X5_setMode_j2_1
  simp only [rw_eq, rs_eq, hl, hm, hs]
  by_cases a : f_X6_isIn_j1_1 mov (0 : Int32) (2 : Int32) = 0
  · simp [a, wr123]
  by_cases b : lmo = 3
  · by_cases c : mov = 0
    · subst c
      simp [a, b, wr123]
    · simp [a, b, c, wr123]
  · by_cases c : mov = 2
    · subst c
      by_cases d : lma = 0
      · simp [a, b, d, wr123]
      · simp [a, b, d, wr123]
    · simp [a, b, c, wr123]
theorem cd_gain {lp wh : Int32} (hl : f_X6_isLoop_j1_1 lp = 1) : f_X6_gain_j1_1 lp wh = wr1 (f_X5_gain_x wh) := by
  unfold f_X6_gain_j1_1 f_X5_gain_x
  simp only [rn_eq, hl]
  by_cases a : f_X6_isIn_j1_1 wh (0 : Int32) (2 : Int32) = 0
  · simp [a, wr1]
  · simp [a, wr1]
theorem cd_startRelay {md : Nat → Int32} {lp lmo hev bav : Int32} (hl : f_X6_isLoop_j1_1 lp = 1) (hm : md lp.toNatClampNeg = lmo) : f_X6_startRelay_j1_1 md lp hev bav = wr123 (f_X5_startRelay_x lmo hev bav) := by
  unfold f_X6_startRelay_j1_1 f_X5_startRelay_x f_X5_startRelay_j1_1
  simp only [rw_eq, rs_eq, hl, hm]
  by_cases a : f_X6_isIn_j1_1 hev (1 : Int32) (100000 : Int32) = 0
  · simp [a, wr123]
  by_cases b : f_X6_isIn_j1_1 bav (0 : Int32) (100000 : Int32) = 0
  · simp [a, b, wr123]
  by_cases c : lmo = 1
  · simp [a, b, c, wr123]
  · simp [a, b, c, wr123]
theorem cd_isDone {ex : Nat → Int32} {lp rpr : Int32} (hl : f_X6_isLoop_j1_1 lp = 1) (hm : ex lp.toNatClampNeg = rpr) : f_X6_isDone_j1_1 ex lp = wr13 (f_X5_period_x rpr) := by
  unfold f_X6_isDone_j1_1 f_X5_period_x f_X5_period_j1_1
  simp only [rs_eq, hl, hm]
  by_cases a : rpr = 2
  · simp [a, wr13]
  · simp [a, wr13]
theorem le0_64 {x : Int64} (h : 0 ≤ x.toInt) : x ≤ 0 ↔ x = 0 := by
  rw [fa_le64, fa_eq64]
  have : (0 : Int64).toInt = 0 := rfl
  omega
theorem le0_32 {x : Int32} (h : 0 ≤ x.toInt) : x ≤ 0 ↔ x = 0 := by
  rw [fa_le, fa_eq]
  have : (0 : Int32).toInt = 0 := rfl
  omega
theorem cd_ultimateGain {ex : Nat → Int32} {sw : Nat → Int64} {lp rpr : Int32} {rsw : Int64} (hl : f_X6_isLoop_j1_1 lp = 1) (hm : ex lp.toNatClampNeg = rpr) (hs : sw lp.toNatClampNeg = rsw) (h0 : 0 ≤ rsw.toInt) : f_X6_ultimateGain_j1_1 ex sw lp = wr13 (f_X5_ultimateGain_x rpr rsw) := by
  unfold f_X6_ultimateGain_j1_1 f_X5_ultimateGain_x f_X5_ultimateGain_j1_1
  simp only [rs_eq, hl, hm, hs, le0_64 h0]
  by_cases a : rpr = 2
  · by_cases b : rsw = 0
    · simp [a, b, wr13]
    · simp [a, b, wr13]
  · simp [a, wr13]
theorem cd_proposed {ex pe : Nat → Int32} {sw : Nat → Int64} {lp rpr rpe ruv wh : Int32} {rsw : Int64} (hl : f_X6_isLoop_j1_1 lp = 1) (hm : ex lp.toNatClampNeg = rpr) (hp : pe lp.toNatClampNeg = rpe) (hs : sw lp.toNatClampNeg = rsw) (h0 : 0 ≤ rsw.toInt) (h1 : 0 ≤ rpe.toInt) : f_X6_proposed_j1_1 ex pe sw lp ruv wh = wr123 (f_X5_proposed_x rpr rpe rsw ruv wh) := by
  unfold f_X6_proposed_j1_1 f_X5_proposed_x f_X5_proposed_j1_1
  simp only [rs_eq, rn_eq, rw_eq, hl, hm, hs, hp, le0_64 h0, le0_32 h1]
  by_cases a : f_X6_isIn_j1_1 wh (0 : Int32) (2 : Int32) = 0
  · simp [a, wr123]
  by_cases b : f_X6_isIn_j1_1 ruv (0 : Int32) (1 : Int32) = 0
  · simp [a, b, wr123]
  by_cases c : rpr = 2
  · by_cases d : rsw = 0
    · simp [a, b, c, d, wr123]
    · by_cases e : rpe = 0
      · simp [a, b, c, d, e, wr123]
      · simp [a, b, c, d, e, wr123]
  · simp [a, b, c, wr123]
