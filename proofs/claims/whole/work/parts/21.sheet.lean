section SHEET
variable {X : aX} {μ : Mm} {Q : Option Value → Mm → Prop}
theorem l_renew {s : Nat} (hs : s < 4) {M : MM} {R : Nat → Nat → Nat} (k : Q none (fil M (79 + 2 * s) 0 12 0, R)) : ∀ (f t : Nat), t + f = 12 → ∀ L : aL, aL_get L 0 = some (.ref (78 + 2 * s)) → aL_get L 3 = some (.int (nI t)) → WP X mX6_renew 12 L [] (fil M (79 + 2 * s) 0 t 0, R) Q
  | 0, t, ht, L, g0, g3 => by
    obtain rfl : t = 12 := by omega
    refine wp_iload_n (pc := 12) dX6_renew_12 (by first | rfl | assumption | (repeat first | assumption | rfl | refine aG_n ?_ rfl rfl)) ?_
    refine wp_bipush (pc := 13) (v := 12) dX6_renew_13 (by decide) ?_
    refine wp_icmp_ge (pc := 15) (tgt := 31) dX6_renew_15 rfl (fun _ => ?_) (fun q => absurd (nI_le (a := 12) (b := 12) (by omega) (by omega)) q)
    refine wp_vreturn (pc := 31) dX6_renew_31 rfl ?_
    exact k
  | f + 1, t, ht, L, g0, g3 => by
    refine wp_iload_n (pc := 12) dX6_renew_12 (by first | rfl | assumption | (repeat first | assumption | rfl | refine aG_n ?_ rfl rfl)) ?_
    refine wp_bipush (pc := 13) (v := 12) dX6_renew_13 (by decide) ?_
    refine wp_icmp_ge (pc := 15) (tgt := 31) dX6_renew_15 rfl (fun q => absurd q (nI_ge (a := t) (b := 12) (by omega) (by omega))) (fun _ => ?_)
    refine wp_aload_n (pc := 18) dX6_renew_18 (by first | rfl | assumption | (repeat first | assumption | rfl | refine aG_n ?_ rfl rfl)) ?_
    refine wp_getR (pc := 19) dX6_renew_19 fl_6_11 (by first | rfl | assumption | exact sh_house (by omega) | exact sh_wish (by omega) | exact sh_wor (by omega) | exact sh_bar (by omega) | exact sh_term (by omega) | exact sh_sheet (by omega) | exact sh_items (by omega) | exact sh_sums (by omega)) rfl ?_
    refine wp_iload_n (pc := 22) dX6_renew_22 (by first | rfl | assumption | (repeat first | assumption | rfl | refine aG_n ?_ rfl rfl)) ?_
    refine wp_iconst (pc := 23) (v := 0) dX6_renew_23 (by decide) ?_
    refine wp_iast (pc := 24) dX6_renew_24 (by first | rfl | assumption | exact sh_house (by omega) | exact sh_wish (by omega) | exact sh_wor (by omega) | exact sh_bar (by omega) | exact sh_term (by omega) | exact sh_sheet (by omega) | exact sh_items (by omega) | exact sh_sums (by omega)) (vp_in_nI (by omega) (by decide)) ?_
    refine wp_iinc (pc := 25) dX6_renew_25 (by decide) (by first | rfl | assumption | (repeat first | assumption | rfl | refine aG_n ?_ rfl rfl)) rfl ?_
    refine wp_goto (pc := 28) (tgt := 12) dX6_renew_28 rfl ?_
    simp (disch := omega) only [nI_clamp, fil_s0]
    exact l_renew hs k f (t + 1) (by omega) _ (by first | rfl | assumption | (repeat first | assumption | rfl | refine aG_n ?_ rfl rfl)) (by rw [← nI_i1]; first | rfl | assumption | (repeat first | assumption | rfl | refine aG_n ?_ rfl rfl))
theorem c_X6_renew {s : Nat} {l n : Int32} (hs : s < 4) (k : Q none (fil (up2 (up2 μ.1 (78 + 2 * s) 1 l) (78 + 2 * s) 2 n) (79 + 2 * s) 0 12 0, μ.2)) : WP X mX6_renew 0 (lv_args 0 [.ref (78 + 2 * s), .int l, .int n]) [] μ Q := by
  refine wp_aload_n (pc := 0) dX6_renew_0 (by first | rfl | assumption | (repeat first | assumption | rfl | refine aG_n ?_ rfl rfl)) ?_
  refine wp_iload_n (pc := 1) dX6_renew_1 (by first | rfl | assumption | (repeat first | assumption | rfl | refine aG_n ?_ rfl rfl)) ?_
  refine wp_putI (pc := 2) dX6_renew_2 fl_6_15 (by first | rfl | assumption | exact sh_house (by omega) | exact sh_wish (by omega) | exact sh_wor (by omega) | exact sh_bar (by omega) | exact sh_term (by omega) | exact sh_sheet (by omega) | exact sh_items (by omega) | exact sh_sums (by omega)) rfl rfl rfl ?_
  refine wp_aload_n (pc := 5) dX6_renew_5 (by first | rfl | assumption | (repeat first | assumption | rfl | refine aG_n ?_ rfl rfl)) ?_
  refine wp_iload_n (pc := 6) dX6_renew_6 (by first | rfl | assumption | (repeat first | assumption | rfl | refine aG_n ?_ rfl rfl)) ?_
  refine wp_putI (pc := 7) dX6_renew_7 fl_6_19 (by first | rfl | assumption | exact sh_house (by omega) | exact sh_wish (by omega) | exact sh_wor (by omega) | exact sh_bar (by omega) | exact sh_term (by omega) | exact sh_sheet (by omega) | exact sh_items (by omega) | exact sh_sums (by omega)) rfl rfl rfl ?_
  refine wp_iconst (pc := 10) (v := 0) dX6_renew_10 (by decide) ?_
  refine wp_istore_n (pc := 11) dX6_renew_11 (by decide) ?_
  rw [← fil_0 (up2 (up2 μ.1 (78 + 2 * s) 1 l) (78 + 2 * s) 2 n) (79 + 2 * s) 0 0]
  exact l_renew hs k 12 0 (by omega) _ (by first | rfl | assumption | (repeat first | assumption | rfl | refine aG_n ?_ rfl rfl)) (by first | rfl | assumption | (repeat first | assumption | rfl | refine aG_n ?_ rfl rfl))
theorem n12t {s t : Nat} : (12 : Int32) * nI s + nI t = nI (12 * s + t) := by rw [n12, nI_add]
theorem l_m_sheet {s : Nat} {n : Int32} (hs : s < 4) {M : MM} {R : Nat → Nat → Nat} (k : Q (some (.int n)) (fil M 126 (12 * s) 12 0, R)) : ∀ (f t : Nat), t + f = 12 → ∀ L : aL, aL_get L 0 = some (.ref 86) → aL_get L 1 = some (.int (nI s)) → aL_get L 3 = some (.int n) → aL_get L 4 = some (.int (nI t)) → WP X mX12_sheet 40 L [] (fil M 126 (12 * s) t 0, R) Q
  | 0, t, ht, L, g0, g1, g3, g4 => by
    obtain rfl : t = 12 := by omega
    refine wp_iload (pc := 40) dX12_sheet_40 (by first | rfl | assumption | (repeat first | assumption | rfl | refine aG_n ?_ rfl rfl)) ?_
    refine wp_bipush (pc := 42) (v := 12) dX12_sheet_42 (by decide) ?_
    refine wp_icmp_ge (pc := 44) (tgt := 66) dX12_sheet_44 rfl (fun _ => ?_) (fun q => absurd (nI_le (a := 12) (b := 12) (by omega) (by omega)) q)
    refine wp_iload_n (pc := 66) dX12_sheet_66 (by first | rfl | assumption | (repeat first | assumption | rfl | refine aG_n ?_ rfl rfl)) ?_
    refine wp_ireturn (pc := 67) dX12_sheet_67 rfl (by first | rfl | decide | assumption) ?_
    exact k
  | f + 1, t, ht, L, g0, g1, g3, g4 => by
    have e : ((12 : Int32) * nI s + nI t).toNatClampNeg = 12 * s + t := by rw [n12t, nI_clamp (by omega)]
    refine wp_iload (pc := 40) dX12_sheet_40 (by first | rfl | assumption | (repeat first | assumption | rfl | refine aG_n ?_ rfl rfl)) ?_
    refine wp_bipush (pc := 42) (v := 12) dX12_sheet_42 (by decide) ?_
    refine wp_icmp_ge (pc := 44) (tgt := 66) dX12_sheet_44 rfl (fun q => absurd q (nI_ge (a := t) (b := 12) (by omega) (by omega))) (fun _ => ?_)
    refine wp_aload_n (pc := 47) dX12_sheet_47 (by first | rfl | assumption | (repeat first | assumption | rfl | refine aG_n ?_ rfl rfl)) ?_
    refine wp_getR (pc := 48) dX12_sheet_48 fl_12_128 (by first | rfl | assumption | exact sh_house (by omega) | exact sh_wish (by omega) | exact sh_wor (by omega) | exact sh_bar (by omega) | exact sh_term (by omega) | exact sh_sheet (by omega) | exact sh_items (by omega) | exact sh_sums (by omega)) rfl ?_
    refine wp_bipush (pc := 51) (v := 12) dX12_sheet_51 (by decide) ?_
    refine wp_iload_n (pc := 53) dX12_sheet_53 (by first | rfl | assumption | (repeat first | assumption | rfl | refine aG_n ?_ rfl rfl)) ?_
    refine wp_imul (pc := 54) dX12_sheet_54 ?_
    refine wp_iload (pc := 55) dX12_sheet_55 (by first | rfl | assumption | (repeat first | assumption | rfl | refine aG_n ?_ rfl rfl)) ?_
    refine wp_iadd (pc := 57) dX12_sheet_57 ?_
    refine wp_iconst (pc := 58) (v := 0) dX12_sheet_58 (by decide) ?_
    refine wp_iast (pc := 59) dX12_sheet_59 (by first | rfl | assumption | exact sh_house (by omega) | exact sh_wish (by omega) | exact sh_wor (by omega) | exact sh_bar (by omega) | exact sh_term (by omega) | exact sh_sheet (by omega) | exact sh_items (by omega) | exact sh_sums (by omega)) (by rw [n12t]; exact vp_in_nI (by omega) (by decide)) ?_
    refine wp_iinc (pc := 60) dX12_sheet_60 (by decide) (by first | rfl | assumption | (repeat first | assumption | rfl | refine aG_n ?_ rfl rfl)) rfl ?_
    refine wp_goto (pc := 63) (tgt := 40) dX12_sheet_63 rfl ?_
    rw [e]
    simp only [fil_s]
    exact l_m_sheet hs k f (t + 1) (by omega) _ (by first | rfl | assumption | (repeat first | assumption | rfl | refine aG_n ?_ rfl rfl)) (by first | rfl | assumption | (repeat first | assumption | rfl | refine aG_n ?_ rfl rfl)) (by first | rfl | assumption | (repeat first | assumption | rfl | refine aG_n ?_ rfl rfl)) (by rw [← nI_i1]; first | rfl | assumption | (repeat first | assumption | rfl | refine aG_n ?_ rfl rfl))
end SHEET
theorem J_sheet (s l n : Int32) : Jnt mX11_sheet mX12_sheet [.int s, .int l, .int n] := by
  intro X μ Q hI k
  by_cases c1 : inR s 0 3
  · by_cases c2 : inR l 0 2
    · by_cases c3 : n ≤ 12
      · by_cases c4 : (0 : Int32) ≤ n
        · obtain ⟨i, hi, rfl⟩ := inR_of (n := 3) c1
          obtain ⟨q, hq, rfl⟩ := inR_of (v := n) (n := 12) ⟨(i_le _ _).mp c4, (i_le _ _).mp c3⟩
          refine wp_iload_n (pc := 0) dX11_sheet_0 (by first | rfl | assumption | (repeat first | assumption | rfl | refine aG_n ?_ rfl rfl)) ?_
          refine wp_cS (pc := 1) dX11_sheet_1 lk_11_361 rfl rfl rfl (c_X11_isSheet (fun _ => aK_i ?_) (fun q => absurd c1 q))
          refine wp_if_eq (pc := 4) (tgt := 20) dX11_sheet_4 rfl (fun q => absurd q (by decide)) (fun _ => ?_)
          refine wp_iload_n (pc := 7) dX11_sheet_7 (by first | rfl | assumption | (repeat first | assumption | rfl | refine aG_n ?_ rfl rfl)) ?_
          refine wp_cS (pc := 8) dX11_sheet_8 lk_11_364 rfl rfl rfl (c_X11_isLane (fun _ => aK_i ?_) (fun q => absurd c2 q))
          refine wp_if_eq (pc := 11) (tgt := 20) dX11_sheet_11 rfl (fun q => absurd q (by decide)) (fun _ => ?_)
          refine wp_iload_n (pc := 14) dX11_sheet_14 (by first | rfl | assumption | (repeat first | assumption | rfl | refine aG_n ?_ rfl rfl)) ?_
          refine wp_bipush (pc := 15) (v := 12) dX11_sheet_15 (by decide) ?_
          refine wp_icmp_le (pc := 17) (tgt := 22) dX11_sheet_17 rfl (fun _ => ?_) (fun q => absurd c3 q)
          refine wp_iload_n (pc := 22) dX11_sheet_22 (by first | rfl | assumption | (repeat first | assumption | rfl | refine aG_n ?_ rfl rfl)) ?_
          refine wp_if_ge (pc := 23) (tgt := 29) dX11_sheet_23 rfl (fun _ => ?_) (fun q => absurd c4 q)
          refine wp_aload_n (pc := 29) dX11_sheet_29 (by first | rfl | assumption | (repeat first | assumption | rfl | refine aG_n ?_ rfl rfl)) ?_
          refine wp_getR (pc := 30) dX11_sheet_30 fl_11_66 (by first | rfl | assumption | exact sh_house (by omega) | exact sh_wish (by omega) | exact sh_wor (by omega) | exact sh_bar (by omega) | exact sh_term (by omega) | exact sh_sheet (by omega) | exact sh_items (by omega) | exact sh_sums (by omega)) rfl ?_
          refine wp_iload_n (pc := 33) dX11_sheet_33 (by first | rfl | assumption | (repeat first | assumption | rfl | refine aG_n ?_ rfl rfl)) ?_
          refine wp_aald (pc := 34) dX11_sheet_34 (by first | rfl | assumption | exact sh_house (by omega) | exact sh_wish (by omega) | exact sh_wor (by omega) | exact sh_bar (by omega) | exact sh_term (by omega) | exact sh_sheet (by omega) | exact sh_items (by omega) | exact sh_sums (by omega)) (vp_in_nI (by omega) (by decide)) (by decide) (el_sheet (by omega)) ?_
          refine wp_iload_n (pc := 35) dX11_sheet_35 (by first | rfl | assumption | (repeat first | assumption | rfl | refine aG_n ?_ rfl rfl)) ?_
          refine wp_iload_n (pc := 36) dX11_sheet_36 (by first | rfl | assumption | (repeat first | assumption | rfl | refine aG_n ?_ rfl rfl)) ?_
          refine wp_cV (pc := 37) dX11_sheet_37 lk_11_367 rfl (by decide) rfl (by first | rfl | assumption | exact sh_house (by omega) | exact sh_wish (by omega) | exact sh_wor (by omega) | exact sh_bar (by omega) | exact sh_term (by omega) | exact sh_sheet (by omega) | exact sh_items (by omega) | exact sh_sums (by omega)) rfl rfl (c_X6_renew (by omega) (aK_v ?_))
          refine wp_iload_n (pc := 40) dX11_sheet_40 (by first | rfl | assumption | (repeat first | assumption | rfl | refine aG_n ?_ rfl rfl)) ?_
          refine wp_ireturn (pc := 41) dX11_sheet_41 rfl (by first | rfl | decide | assumption) ?_
          refine k _ _ (fun Q' k' => ?_)
          refine wp_iload_n (pc := 0) dX12_sheet_0 (by first | rfl | assumption | (repeat first | assumption | rfl | refine aG_n ?_ rfl rfl)) ?_
          refine wp_iload_n (pc := 1) dX12_sheet_1 (by first | rfl | assumption | (repeat first | assumption | rfl | refine aG_n ?_ rfl rfl)) ?_
          refine wp_cS (pc := 2) dX12_sheet_2 lk_12_361 rfl rfl rfl (c_X12_isSheet (fun _ => aK_i ?_) (fun q => absurd ⟨c1, c2⟩ q))
          refine wp_if_eq (pc := 5) (tgt := 14) dX12_sheet_5 rfl (fun q => absurd q (by decide)) (fun _ => ?_)
          refine wp_iload_n (pc := 8) dX12_sheet_8 (by first | rfl | assumption | (repeat first | assumption | rfl | refine aG_n ?_ rfl rfl)) ?_
          refine wp_bipush (pc := 9) (v := 12) dX12_sheet_9 (by decide) ?_
          refine wp_icmp_le (pc := 11) (tgt := 16) dX12_sheet_11 rfl (fun _ => ?_) (fun q => absurd c3 q)
          refine wp_iload_n (pc := 16) dX12_sheet_16 (by first | rfl | assumption | (repeat first | assumption | rfl | refine aG_n ?_ rfl rfl)) ?_
          refine wp_if_ge (pc := 17) (tgt := 23) dX12_sheet_17 rfl (fun _ => ?_) (fun q => absurd c4 q)
          refine wp_aload_n (pc := 23) dX12_sheet_23 (by first | rfl | assumption | (repeat first | assumption | rfl | refine aG_n ?_ rfl rfl)) ?_
          refine wp_getR (pc := 24) dX12_sheet_24 fl_12_122 (by first | rfl | assumption | exact sh_house (by omega) | exact sh_wish (by omega) | exact sh_wor (by omega) | exact sh_bar (by omega) | exact sh_term (by omega) | exact sh_sheet (by omega) | exact sh_items (by omega) | exact sh_sums (by omega)) rfl ?_
          refine wp_iload_n (pc := 27) dX12_sheet_27 (by first | rfl | assumption | (repeat first | assumption | rfl | refine aG_n ?_ rfl rfl)) ?_
          refine wp_iload_n (pc := 28) dX12_sheet_28 (by first | rfl | assumption | (repeat first | assumption | rfl | refine aG_n ?_ rfl rfl)) ?_
          refine wp_iast (pc := 29) dX12_sheet_29 (by first | rfl | assumption | exact sh_house (by omega) | exact sh_wish (by omega) | exact sh_wor (by omega) | exact sh_bar (by omega) | exact sh_term (by omega) | exact sh_sheet (by omega) | exact sh_items (by omega) | exact sh_sums (by omega)) (vp_in_nI (by omega) (by decide)) ?_
          refine wp_aload_n (pc := 30) dX12_sheet_30 (by first | rfl | assumption | (repeat first | assumption | rfl | refine aG_n ?_ rfl rfl)) ?_
          refine wp_getR (pc := 31) dX12_sheet_31 fl_12_125 (by first | rfl | assumption | exact sh_house (by omega) | exact sh_wish (by omega) | exact sh_wor (by omega) | exact sh_bar (by omega) | exact sh_term (by omega) | exact sh_sheet (by omega) | exact sh_items (by omega) | exact sh_sums (by omega)) rfl ?_
          refine wp_iload_n (pc := 34) dX12_sheet_34 (by first | rfl | assumption | (repeat first | assumption | rfl | refine aG_n ?_ rfl rfl)) ?_
          refine wp_iload_n (pc := 35) dX12_sheet_35 (by first | rfl | assumption | (repeat first | assumption | rfl | refine aG_n ?_ rfl rfl)) ?_
          refine wp_iast (pc := 36) dX12_sheet_36 (by first | rfl | assumption | exact sh_house (by omega) | exact sh_wish (by omega) | exact sh_wor (by omega) | exact sh_bar (by omega) | exact sh_term (by omega) | exact sh_sheet (by omega) | exact sh_items (by omega) | exact sh_sums (by omega)) (vp_in_nI (by omega) (by decide)) ?_
          refine wp_iconst (pc := 37) (v := 0) dX12_sheet_37 (by decide) ?_
          refine wp_istore (pc := 38) dX12_sheet_38 (by decide) ?_
          simp (disch := omega) only [nI_clamp]
          rw [← fil_0 (up2 (up2 (fil (up2 (up2 μ.1 (78 + 2 * i) 1 l) (78 + 2 * i) 2 (nI q)) (79 + 2 * i) 0 12 0) 124 i l) 125 i (nI q)) 126 (12 * i) 0]
          refine l_m_sheet (s := i) (by omega) (k' _ ?_) 12 0 (by omega) _ (by first | rfl | assumption | (repeat first | assumption | rfl | refine aG_n ?_ rfl rfl)) (by first | rfl | assumption | (repeat first | assumption | rfl | refine aG_n ?_ rfl rfl)) (by first | rfl | assumption | (repeat first | assumption | rfl | refine aG_n ?_ rfl rfl)) (by first | rfl | assumption | (repeat first | assumption | rfl | refine aG_n ?_ rfl rfl))
          refine ⟨own_c (by simp (disch := omega) only [up2_ne, fil_ne]) (fun i9 hi9 => (by simp (disch := omega) only [up2_ne, up2_p, fil_ne, fil_p])) (hI.1), coin_c (by simp (disch := omega) only [up2_ne, fil_ne]) (fun i9 hi9 => (by simp (disch := omega) only [up2_ne, up2_p, fil_ne, fil_p])) (hI.2.1), lev_c ⟨(by simp (disch := omega) only [up2_ne, fil_ne]), (by simp (disch := omega) only [up2_ne, fil_ne]), (by simp (disch := omega) only [up2_ne, fil_ne])⟩ (fun i9 hi9 => ⟨(by simp (disch := omega) only [up2_ne, up2_p, fil_ne, fil_p]), (by simp (disch := omega) only [up2_ne, up2_p, fil_ne, fil_p]), (by simp (disch := omega) only [up2_ne, up2_p, fil_ne, fil_p])⟩) (hI.2.2.1), wish_c ⟨(by simp (disch := omega) only [up2_ne, fil_ne]), (by simp (disch := omega) only [up2_ne, fil_ne]), (by simp (disch := omega) only [up2_ne, fil_ne]), (by simp (disch := omega) only [up2_ne, fil_ne])⟩ (fun i9 hi9 => ⟨(by simp (disch := omega) only [up2_ne, fil_ne]), (by simp (disch := omega) only [up2_ne, fil_ne]), (by simp (disch := omega) only [up2_ne, fil_ne])⟩) (hI.2.2.2.1), tape_c (by simp (disch := omega) only [up2_ne, up2_p, fil_ne, fil_p]) (by simp (disch := omega) only [up2_ne, up2_p, fil_ne, fil_p]) (by simp (disch := omega) only [up2_ne, fil_ne]) (by simp (disch := omega) only [up2_ne, fil_ne]) (hI.2.2.2.2.1), talk_c ⟨(by simp (disch := omega) only [up2_ne, fil_ne]), (by simp (disch := omega) only [up2_ne, fil_ne]), (by simp (disch := omega) only [up2_ne, fil_ne]), (by simp (disch := omega) only [up2_ne, fil_ne]), (by simp (disch := omega) only [up2_ne, fil_ne])⟩ ⟨(by simp (disch := omega) only [up2_ne, fil_ne]), (by simp (disch := omega) only [up2_ne, fil_ne]), (by simp (disch := omega) only [up2_ne, fil_ne])⟩ (fun j9 hj9 hk9 => (by simp (disch := omega) only [up2_ne, up2_p, fil_ne, fil_p])) (fun o9 => ⟨(by simp (disch := omega) only [up2_ne, fil_ne]), (by simp (disch := omega) only [up2_ne, fil_ne])⟩) rfl (hI.2.2.2.2.2.1), led_c (by simp (disch := omega) only [up2_ne, up2_p, fil_ne, fil_p]) (by simp (disch := omega) only [up2_ne, up2_p, fil_ne, fil_p]) (fun i9 hi9 => (by simp (disch := omega) only [up2_ne, fil_ne])) (fun c9 hc9 hd9 => (by simp (disch := omega) only [up2_ne, fil_ne])) ⟨(by simp (disch := omega) only [up2_ne, fil_ne]), (by simp (disch := omega) only [up2_ne, fil_ne])⟩ (hI.2.2.2.2.2.2.1), row_c (by simp (disch := omega) only [up2_ne, fil_ne]) (by simp (disch := omega) only [up2_ne, fil_ne]) (hI.2.2.2.2.2.2.2.1), ?_, grp_c (by simp (disch := omega) only [up2_ne, up2_p, fil_ne, fil_p]) (fun g9 hg9 => (by simp (disch := omega) only [up2_ne, fil_ne])) (fun i9 hi9 => ⟨(by simp (disch := omega) only [up2_ne, fil_ne]), (by simp (disch := omega) only [up2_ne, fil_ne])⟩) (hI.2.2.2.2.2.2.2.2.2)⟩
          intro z hz
          have hh := hI.2.2.2.2.2.2.2.2.1 z hz
          by_cases e : z = i
          · subst e
            simp (disch := omega) only [up2_ne, up2_p, up2_at, fil_ne, fil_p]
            refine ⟨trivial, ⟨by have := c2.1; omega, c2.2⟩, fun _ => ⟨q, hq, by first | trivial | rfl, by first | trivial | rfl⟩, fun j hj => ?_⟩
            rw [fil_in (by omega), fil_in (by omega)]
          · simp (disch := omega) only [up2_ne, up2_p, up2_at, fil_ne, fil_p]
            refine ⟨hh.1, hh.2.1, hh.2.2.1, fun j hj => ?_⟩
            rw [fil_p (by omega)]
            simp (disch := omega) only [up2_ne, fil_ne]
            exact hh.2.2.2 j hj
        · refine wp_iload_n (pc := 0) dX11_sheet_0 (by first | rfl | assumption | (repeat first | assumption | rfl | refine aG_n ?_ rfl rfl)) ?_
          refine wp_cS (pc := 1) dX11_sheet_1 lk_11_361 rfl rfl rfl (c_X11_isSheet (fun _ => aK_i ?_) (fun q => absurd c1 q))
          refine wp_if_eq (pc := 4) (tgt := 20) dX11_sheet_4 rfl (fun q => absurd q (by decide)) (fun _ => ?_)
          refine wp_iload_n (pc := 7) dX11_sheet_7 (by first | rfl | assumption | (repeat first | assumption | rfl | refine aG_n ?_ rfl rfl)) ?_
          refine wp_cS (pc := 8) dX11_sheet_8 lk_11_364 rfl rfl rfl (c_X11_isLane (fun _ => aK_i ?_) (fun q => absurd c2 q))
          refine wp_if_eq (pc := 11) (tgt := 20) dX11_sheet_11 rfl (fun q => absurd q (by decide)) (fun _ => ?_)
          refine wp_iload_n (pc := 14) dX11_sheet_14 (by first | rfl | assumption | (repeat first | assumption | rfl | refine aG_n ?_ rfl rfl)) ?_
          refine wp_bipush (pc := 15) (v := 12) dX11_sheet_15 (by decide) ?_
          refine wp_icmp_le (pc := 17) (tgt := 22) dX11_sheet_17 rfl (fun _ => ?_) (fun q => absurd c3 q)
          refine wp_iload_n (pc := 22) dX11_sheet_22 (by first | rfl | assumption | (repeat first | assumption | rfl | refine aG_n ?_ rfl rfl)) ?_
          refine wp_if_ge (pc := 23) (tgt := 29) dX11_sheet_23 rfl (fun q => absurd q c4) (fun _ => ?_)
          refine wp_bipush (pc := 26) (v := -14) dX11_sheet_26 (by decide) ?_
          refine wp_ireturn (pc := 28) dX11_sheet_28 rfl (by first | rfl | decide | assumption) ?_
          refine k _ _ (fun Q' k' => ?_)
          refine wp_iload_n (pc := 0) dX12_sheet_0 (by first | rfl | assumption | (repeat first | assumption | rfl | refine aG_n ?_ rfl rfl)) ?_
          refine wp_iload_n (pc := 1) dX12_sheet_1 (by first | rfl | assumption | (repeat first | assumption | rfl | refine aG_n ?_ rfl rfl)) ?_
          refine wp_cS (pc := 2) dX12_sheet_2 lk_12_361 rfl rfl rfl (c_X12_isSheet (fun _ => aK_i ?_) (fun q => absurd ⟨c1, c2⟩ q))
          refine wp_if_eq (pc := 5) (tgt := 14) dX12_sheet_5 rfl (fun q => absurd q (by decide)) (fun _ => ?_)
          refine wp_iload_n (pc := 8) dX12_sheet_8 (by first | rfl | assumption | (repeat first | assumption | rfl | refine aG_n ?_ rfl rfl)) ?_
          refine wp_bipush (pc := 9) (v := 12) dX12_sheet_9 (by decide) ?_
          refine wp_icmp_le (pc := 11) (tgt := 16) dX12_sheet_11 rfl (fun _ => ?_) (fun q => absurd c3 q)
          refine wp_iload_n (pc := 16) dX12_sheet_16 (by first | rfl | assumption | (repeat first | assumption | rfl | refine aG_n ?_ rfl rfl)) ?_
          refine wp_if_ge (pc := 17) (tgt := 23) dX12_sheet_17 rfl (fun q => absurd q c4) (fun _ => ?_)
          refine wp_bipush (pc := 20) (v := -14) dX12_sheet_20 (by decide) ?_
          refine wp_ireturn (pc := 22) dX12_sheet_22 rfl (by first | rfl | decide | assumption) ?_
          exact k' _ hI
      · refine wp_iload_n (pc := 0) dX11_sheet_0 (by first | rfl | assumption | (repeat first | assumption | rfl | refine aG_n ?_ rfl rfl)) ?_
        refine wp_cS (pc := 1) dX11_sheet_1 lk_11_361 rfl rfl rfl (c_X11_isSheet (fun _ => aK_i ?_) (fun q => absurd c1 q))
        refine wp_if_eq (pc := 4) (tgt := 20) dX11_sheet_4 rfl (fun q => absurd q (by decide)) (fun _ => ?_)
        refine wp_iload_n (pc := 7) dX11_sheet_7 (by first | rfl | assumption | (repeat first | assumption | rfl | refine aG_n ?_ rfl rfl)) ?_
        refine wp_cS (pc := 8) dX11_sheet_8 lk_11_364 rfl rfl rfl (c_X11_isLane (fun _ => aK_i ?_) (fun q => absurd c2 q))
        refine wp_if_eq (pc := 11) (tgt := 20) dX11_sheet_11 rfl (fun q => absurd q (by decide)) (fun _ => ?_)
        refine wp_iload_n (pc := 14) dX11_sheet_14 (by first | rfl | assumption | (repeat first | assumption | rfl | refine aG_n ?_ rfl rfl)) ?_
        refine wp_bipush (pc := 15) (v := 12) dX11_sheet_15 (by decide) ?_
        refine wp_icmp_le (pc := 17) (tgt := 22) dX11_sheet_17 rfl (fun q => absurd q c3) (fun _ => ?_)
        refine wp_iconst (pc := 20) (v := -1) dX11_sheet_20 (by decide) ?_
        refine wp_ireturn (pc := 21) dX11_sheet_21 rfl (by first | rfl | decide | assumption) ?_
        refine k _ _ (fun Q' k' => ?_)
        refine wp_iload_n (pc := 0) dX12_sheet_0 (by first | rfl | assumption | (repeat first | assumption | rfl | refine aG_n ?_ rfl rfl)) ?_
        refine wp_iload_n (pc := 1) dX12_sheet_1 (by first | rfl | assumption | (repeat first | assumption | rfl | refine aG_n ?_ rfl rfl)) ?_
        refine wp_cS (pc := 2) dX12_sheet_2 lk_12_361 rfl rfl rfl (c_X12_isSheet (fun _ => aK_i ?_) (fun q => absurd ⟨c1, c2⟩ q))
        refine wp_if_eq (pc := 5) (tgt := 14) dX12_sheet_5 rfl (fun q => absurd q (by decide)) (fun _ => ?_)
        refine wp_iload_n (pc := 8) dX12_sheet_8 (by first | rfl | assumption | (repeat first | assumption | rfl | refine aG_n ?_ rfl rfl)) ?_
        refine wp_bipush (pc := 9) (v := 12) dX12_sheet_9 (by decide) ?_
        refine wp_icmp_le (pc := 11) (tgt := 16) dX12_sheet_11 rfl (fun q => absurd q c3) (fun _ => ?_)
        refine wp_iconst (pc := 14) (v := -1) dX12_sheet_14 (by decide) ?_
        refine wp_ireturn (pc := 15) dX12_sheet_15 rfl (by first | rfl | decide | assumption) ?_
        exact k' _ hI
    · refine wp_iload_n (pc := 0) dX11_sheet_0 (by first | rfl | assumption | (repeat first | assumption | rfl | refine aG_n ?_ rfl rfl)) ?_
      refine wp_cS (pc := 1) dX11_sheet_1 lk_11_361 rfl rfl rfl (c_X11_isSheet (fun _ => aK_i ?_) (fun q => absurd c1 q))
      refine wp_if_eq (pc := 4) (tgt := 20) dX11_sheet_4 rfl (fun q => absurd q (by decide)) (fun _ => ?_)
      refine wp_iload_n (pc := 7) dX11_sheet_7 (by first | rfl | assumption | (repeat first | assumption | rfl | refine aG_n ?_ rfl rfl)) ?_
      refine wp_cS (pc := 8) dX11_sheet_8 lk_11_364 rfl rfl rfl (c_X11_isLane (fun q => absurd q c2) (fun _ => aK_i ?_))
      refine wp_if_eq (pc := 11) (tgt := 20) dX11_sheet_11 rfl (fun _ => ?_) (fun q => absurd q (by decide))
      refine wp_iconst (pc := 20) (v := -1) dX11_sheet_20 (by decide) ?_
      refine wp_ireturn (pc := 21) dX11_sheet_21 rfl (by first | rfl | decide | assumption) ?_
      refine k _ _ (fun Q' k' => ?_)
      refine wp_iload_n (pc := 0) dX12_sheet_0 (by first | rfl | assumption | (repeat first | assumption | rfl | refine aG_n ?_ rfl rfl)) ?_
      refine wp_iload_n (pc := 1) dX12_sheet_1 (by first | rfl | assumption | (repeat first | assumption | rfl | refine aG_n ?_ rfl rfl)) ?_
      refine wp_cS (pc := 2) dX12_sheet_2 lk_12_361 rfl rfl rfl (c_X12_isSheet (fun q => absurd q (fun z => c2 z.2)) (fun _ => aK_i ?_))
      refine wp_if_eq (pc := 5) (tgt := 14) dX12_sheet_5 rfl (fun _ => ?_) (fun q => absurd q (by decide))
      refine wp_iconst (pc := 14) (v := -1) dX12_sheet_14 (by decide) ?_
      refine wp_ireturn (pc := 15) dX12_sheet_15 rfl (by first | rfl | decide | assumption) ?_
      exact k' _ hI
  · refine wp_iload_n (pc := 0) dX11_sheet_0 (by first | rfl | assumption | (repeat first | assumption | rfl | refine aG_n ?_ rfl rfl)) ?_
    refine wp_cS (pc := 1) dX11_sheet_1 lk_11_361 rfl rfl rfl (c_X11_isSheet (fun q => absurd q c1) (fun _ => aK_i ?_))
    refine wp_if_eq (pc := 4) (tgt := 20) dX11_sheet_4 rfl (fun _ => ?_) (fun q => absurd q (by decide))
    refine wp_iconst (pc := 20) (v := -1) dX11_sheet_20 (by decide) ?_
    refine wp_ireturn (pc := 21) dX11_sheet_21 rfl (by first | rfl | decide | assumption) ?_
    refine k _ _ (fun Q' k' => ?_)
    refine wp_iload_n (pc := 0) dX12_sheet_0 (by first | rfl | assumption | (repeat first | assumption | rfl | refine aG_n ?_ rfl rfl)) ?_
    refine wp_iload_n (pc := 1) dX12_sheet_1 (by first | rfl | assumption | (repeat first | assumption | rfl | refine aG_n ?_ rfl rfl)) ?_
    refine wp_cS (pc := 2) dX12_sheet_2 lk_12_361 rfl rfl rfl (c_X12_isSheet (fun q => absurd q (fun z => c1 z.1)) (fun _ => aK_i ?_))
    refine wp_if_eq (pc := 5) (tgt := 14) dX12_sheet_5 rfl (fun _ => ?_) (fun q => absurd q (by decide))
    refine wp_iconst (pc := 14) (v := -1) dX12_sheet_14 (by decide) ?_
    refine wp_ireturn (pc := 15) dX12_sheet_15 rfl (by first | rfl | decide | assumption) ?_
    exact k' _ hI
theorem J_drop (s : Int32) : Jnt mX11_drop mX12_drop [.int s] := by
  intro X μ Q hI k
  by_cases c1 : inR s 0 3
  · obtain ⟨i, hi, rfl⟩ := inR_of (n := 3) c1
    have hh := hI.2.2.2.2.2.2.2.2.1 i (by omega)
    by_cases c2 : μ.1 (78 + 2 * i) 1 = -1
    · have c3 : ¬ (0 : Int32) ≤ μ.1 124 (nI i).toNatClampNeg := by rw [nI_clamp (by omega), ← hh.1, c2]; decide
      refine wp_iload_n (pc := 0) dX11_drop_0 (by first | rfl | assumption | (repeat first | assumption | rfl | refine aG_n ?_ rfl rfl)) ?_
      refine wp_cS (pc := 1) dX11_drop_1 lk_11_361 rfl rfl rfl (c_X11_isSheet (fun _ => aK_i ?_) (fun q => absurd c1 q))
      refine wp_if_ne (pc := 4) (tgt := 9) dX11_drop_4 rfl (fun _ => ?_) (fun q => absurd q (by decide))
      refine wp_aload_n (pc := 9) dX11_drop_9 (by first | rfl | assumption | (repeat first | assumption | rfl | refine aG_n ?_ rfl rfl)) ?_
      refine wp_getR (pc := 10) dX11_drop_10 fl_11_66 (by first | rfl | assumption | exact sh_house (by omega) | exact sh_wish (by omega) | exact sh_wor (by omega) | exact sh_bar (by omega) | exact sh_term (by omega) | exact sh_sheet (by omega) | exact sh_items (by omega) | exact sh_sums (by omega)) rfl ?_
      refine wp_iload_n (pc := 13) dX11_drop_13 (by first | rfl | assumption | (repeat first | assumption | rfl | refine aG_n ?_ rfl rfl)) ?_
      refine wp_aald (pc := 14) dX11_drop_14 (by first | rfl | assumption | exact sh_house (by omega) | exact sh_wish (by omega) | exact sh_wor (by omega) | exact sh_bar (by omega) | exact sh_term (by omega) | exact sh_sheet (by omega) | exact sh_items (by omega) | exact sh_sums (by omega)) (vp_in_nI (by omega) (by decide)) (by decide) (el_sheet (by omega)) ?_
      refine wp_cV (pc := 15) dX11_drop_15 lk_11_371 rfl (by decide) rfl (by first | rfl | assumption | exact sh_house (by omega) | exact sh_wish (by omega) | exact sh_wor (by omega) | exact sh_bar (by omega) | exact sh_term (by omega) | exact sh_sheet (by omega) | exact sh_items (by omega) | exact sh_sums (by omega)) rfl rfl ?_
      refine wp_aload_n (pc := 0) dX6_isMissing_0 (by first | rfl | assumption | (repeat first | assumption | rfl | refine aG_n ?_ rfl rfl)) ?_
      refine wp_getI (pc := 1) dX6_isMissing_1 fl_6_15 (by first | rfl | assumption | exact sh_house (by omega) | exact sh_wish (by omega) | exact sh_wor (by omega) | exact sh_bar (by omega) | exact sh_term (by omega) | exact sh_sheet (by omega) | exact sh_items (by omega) | exact sh_sums (by omega)) rfl ?_
      refine wp_iconst (pc := 4) (v := -1) dX6_isMissing_4 (by decide) ?_
      refine wp_icmp_ne (pc := 5) (tgt := 12) dX6_isMissing_5 rfl (fun q => absurd c2 q) (fun _ => ?_)
      refine wp_iconst (pc := 8) (v := 1) dX6_isMissing_8 (by decide) ?_
      refine wp_goto (pc := 9) (tgt := 13) dX6_isMissing_9 rfl ?_
      refine wp_iretK (pc := 13) dX6_isMissing_13 rfl (by first | rfl | decide | assumption) ?_
      refine wp_if_eq (pc := 18) (tgt := 24) dX11_drop_18 rfl (fun q => absurd q (by decide)) (fun _ => ?_)
      refine wp_bipush (pc := 21) (v := -11) dX11_drop_21 (by decide) ?_
      refine wp_ireturn (pc := 23) dX11_drop_23 rfl (by first | rfl | decide | assumption) ?_
      refine k _ _ (fun Q' k' => ?_)
      refine wp_iload_n (pc := 0) dX12_drop_0 (by first | rfl | assumption | (repeat first | assumption | rfl | refine aG_n ?_ rfl rfl)) ?_
      refine wp_i2l (pc := 1) dX12_drop_1 ?_
      refine wp_lconst (pc := 2) (v := 0) dX12_drop_2 (by decide) ?_
      refine wp_ldc2 (pc := 3) dX12_drop_3 cl_12_131 ?_
      refine wp_cS (pc := 6) dX12_drop_6 lk_12_133 rfl rfl rfl (c_X12_in (fun _ => aK_i ?_) (fun q => absurd (by rw [w_int]; exact c1) q))
      refine wp_if_ne (pc := 9) (tgt := 14) dX12_drop_9 rfl (fun _ => ?_) (fun q => absurd q (by decide))
      refine wp_aload_n (pc := 14) dX12_drop_14 (by first | rfl | assumption | (repeat first | assumption | rfl | refine aG_n ?_ rfl rfl)) ?_
      refine wp_getR (pc := 15) dX12_drop_15 fl_12_122 (by first | rfl | assumption | exact sh_house (by omega) | exact sh_wish (by omega) | exact sh_wor (by omega) | exact sh_bar (by omega) | exact sh_term (by omega) | exact sh_sheet (by omega) | exact sh_items (by omega) | exact sh_sums (by omega)) rfl ?_
      refine wp_iload_n (pc := 18) dX12_drop_18 (by first | rfl | assumption | (repeat first | assumption | rfl | refine aG_n ?_ rfl rfl)) ?_
      refine wp_iald (pc := 19) dX12_drop_19 (by first | rfl | assumption | exact sh_house (by omega) | exact sh_wish (by omega) | exact sh_wor (by omega) | exact sh_bar (by omega) | exact sh_term (by omega) | exact sh_sheet (by omega) | exact sh_items (by omega) | exact sh_sums (by omega)) (vp_in_nI (by omega) (by decide)) ?_
      refine wp_if_ge (pc := 20) (tgt := 26) dX12_drop_20 rfl (fun q => absurd q c3) (fun _ => ?_)
      refine wp_bipush (pc := 23) (v := -11) dX12_drop_23 (by decide) ?_
      refine wp_ireturn (pc := 25) dX12_drop_25 rfl (by first | rfl | decide | assumption) ?_
      exact k' _ hI
    · have c3 : (0 : Int32) ≤ μ.1 124 i := by
        rw [i_le]
        have h1 := hh.2.1.1
        have h2 : ¬ (μ.1 124 i).toInt = -1 := fun z => c2 (by rw [hh.1, i_eq]; exact z)
        have : (0 : Int32).toInt = 0 := by decide
        omega
      obtain ⟨n, n1, n2, n3⟩ := hh.2.2.1 (fun z => c2 (hh.1.trans z))
      refine wp_iload_n (pc := 0) dX11_drop_0 (by first | rfl | assumption | (repeat first | assumption | rfl | refine aG_n ?_ rfl rfl)) ?_
      refine wp_cS (pc := 1) dX11_drop_1 lk_11_361 rfl rfl rfl (c_X11_isSheet (fun _ => aK_i ?_) (fun q => absurd c1 q))
      refine wp_if_ne (pc := 4) (tgt := 9) dX11_drop_4 rfl (fun _ => ?_) (fun q => absurd q (by decide))
      refine wp_aload_n (pc := 9) dX11_drop_9 (by first | rfl | assumption | (repeat first | assumption | rfl | refine aG_n ?_ rfl rfl)) ?_
      refine wp_getR (pc := 10) dX11_drop_10 fl_11_66 (by first | rfl | assumption | exact sh_house (by omega) | exact sh_wish (by omega) | exact sh_wor (by omega) | exact sh_bar (by omega) | exact sh_term (by omega) | exact sh_sheet (by omega) | exact sh_items (by omega) | exact sh_sums (by omega)) rfl ?_
      refine wp_iload_n (pc := 13) dX11_drop_13 (by first | rfl | assumption | (repeat first | assumption | rfl | refine aG_n ?_ rfl rfl)) ?_
      refine wp_aald (pc := 14) dX11_drop_14 (by first | rfl | assumption | exact sh_house (by omega) | exact sh_wish (by omega) | exact sh_wor (by omega) | exact sh_bar (by omega) | exact sh_term (by omega) | exact sh_sheet (by omega) | exact sh_items (by omega) | exact sh_sums (by omega)) (vp_in_nI (by omega) (by decide)) (by decide) (el_sheet (by omega)) ?_
      refine wp_cV (pc := 15) dX11_drop_15 lk_11_371 rfl (by decide) rfl (by first | rfl | assumption | exact sh_house (by omega) | exact sh_wish (by omega) | exact sh_wor (by omega) | exact sh_bar (by omega) | exact sh_term (by omega) | exact sh_sheet (by omega) | exact sh_items (by omega) | exact sh_sums (by omega)) rfl rfl ?_
      refine wp_aload_n (pc := 0) dX6_isMissing_0 (by first | rfl | assumption | (repeat first | assumption | rfl | refine aG_n ?_ rfl rfl)) ?_
      refine wp_getI (pc := 1) dX6_isMissing_1 fl_6_15 (by first | rfl | assumption | exact sh_house (by omega) | exact sh_wish (by omega) | exact sh_wor (by omega) | exact sh_bar (by omega) | exact sh_term (by omega) | exact sh_sheet (by omega) | exact sh_items (by omega) | exact sh_sums (by omega)) rfl ?_
      refine wp_iconst (pc := 4) (v := -1) dX6_isMissing_4 (by decide) ?_
      refine wp_icmp_ne (pc := 5) (tgt := 12) dX6_isMissing_5 rfl (fun _ => ?_) (fun q => absurd q c2)
      refine wp_iconst (pc := 12) (v := 0) dX6_isMissing_12 (by decide) ?_
      refine wp_iretK (pc := 13) dX6_isMissing_13 rfl (by first | rfl | decide | assumption) ?_
      refine wp_if_eq (pc := 18) (tgt := 24) dX11_drop_18 rfl (fun _ => ?_) (fun q => absurd q (by decide))
      refine wp_aload_n (pc := 24) dX11_drop_24 (by first | rfl | assumption | (repeat first | assumption | rfl | refine aG_n ?_ rfl rfl)) ?_
      refine wp_getR (pc := 25) dX11_drop_25 fl_11_66 (by first | rfl | assumption | exact sh_house (by omega) | exact sh_wish (by omega) | exact sh_wor (by omega) | exact sh_bar (by omega) | exact sh_term (by omega) | exact sh_sheet (by omega) | exact sh_items (by omega) | exact sh_sums (by omega)) rfl ?_
      refine wp_iload_n (pc := 28) dX11_drop_28 (by first | rfl | assumption | (repeat first | assumption | rfl | refine aG_n ?_ rfl rfl)) ?_
      refine wp_aald (pc := 29) dX11_drop_29 (by first | rfl | assumption | exact sh_house (by omega) | exact sh_wish (by omega) | exact sh_wor (by omega) | exact sh_bar (by omega) | exact sh_term (by omega) | exact sh_sheet (by omega) | exact sh_items (by omega) | exact sh_sums (by omega)) (vp_in_nI (by omega) (by decide)) (by decide) (el_sheet (by omega)) ?_
      refine wp_cV (pc := 30) dX11_drop_30 lk_11_374 rfl (by decide) rfl (by first | rfl | assumption | exact sh_house (by omega) | exact sh_wish (by omega) | exact sh_wor (by omega) | exact sh_bar (by omega) | exact sh_term (by omega) | exact sh_sheet (by omega) | exact sh_items (by omega) | exact sh_sums (by omega)) rfl rfl ?_
      refine wp_aload_n (pc := 0) dX6_lose_0 (by first | rfl | assumption | (repeat first | assumption | rfl | refine aG_n ?_ rfl rfl)) ?_
      refine wp_getI (pc := 1) dX6_lose_1 fl_6_19 (by first | rfl | assumption | exact sh_house (by omega) | exact sh_wish (by omega) | exact sh_wor (by omega) | exact sh_bar (by omega) | exact sh_term (by omega) | exact sh_sheet (by omega) | exact sh_items (by omega) | exact sh_sums (by omega)) rfl ?_
      refine wp_istore_n (pc := 4) dX6_lose_4 (by decide) ?_
      refine wp_aload_n (pc := 5) dX6_lose_5 (by first | rfl | assumption | (repeat first | assumption | rfl | refine aG_n ?_ rfl rfl)) ?_
      refine wp_iconst (pc := 6) (v := -1) dX6_lose_6 (by decide) ?_
      refine wp_putI (pc := 7) dX6_lose_7 fl_6_15 (by first | rfl | assumption | exact sh_house (by omega) | exact sh_wish (by omega) | exact sh_wor (by omega) | exact sh_bar (by omega) | exact sh_term (by omega) | exact sh_sheet (by omega) | exact sh_items (by omega) | exact sh_sums (by omega)) rfl rfl rfl ?_
      refine wp_aload_n (pc := 10) dX6_lose_10 (by first | rfl | assumption | (repeat first | assumption | rfl | refine aG_n ?_ rfl rfl)) ?_
      refine wp_iconst (pc := 11) (v := 0) dX6_lose_11 (by decide) ?_
      refine wp_putI (pc := 12) dX6_lose_12 fl_6_19 (by first | rfl | assumption | exact sh_house (by omega) | exact sh_wish (by omega) | exact sh_wor (by omega) | exact sh_bar (by omega) | exact sh_term (by omega) | exact sh_sheet (by omega) | exact sh_items (by omega) | exact sh_sums (by omega)) rfl rfl rfl ?_
      refine wp_iload_n (pc := 15) dX6_lose_15 (by first | rfl | assumption | (repeat first | assumption | rfl | refine aG_n ?_ rfl rfl)) ?_
      refine wp_iretK (pc := 16) dX6_lose_16 rfl (by first | rfl | decide | assumption) ?_
      refine wp_ireturn (pc := 33) dX11_drop_33 rfl (by first | rfl | decide | assumption) ?_
      refine k _ _ (fun Q' k' => ?_)
      refine wp_iload_n (pc := 0) dX12_drop_0 (by first | rfl | assumption | (repeat first | assumption | rfl | refine aG_n ?_ rfl rfl)) ?_
      refine wp_i2l (pc := 1) dX12_drop_1 ?_
      refine wp_lconst (pc := 2) (v := 0) dX12_drop_2 (by decide) ?_
      refine wp_ldc2 (pc := 3) dX12_drop_3 cl_12_131 ?_
      refine wp_cS (pc := 6) dX12_drop_6 lk_12_133 rfl rfl rfl (c_X12_in (fun _ => aK_i ?_) (fun q => absurd (by rw [w_int]; exact c1) q))
      refine wp_if_ne (pc := 9) (tgt := 14) dX12_drop_9 rfl (fun _ => ?_) (fun q => absurd q (by decide))
      refine wp_aload_n (pc := 14) dX12_drop_14 (by first | rfl | assumption | (repeat first | assumption | rfl | refine aG_n ?_ rfl rfl)) ?_
      refine wp_getR (pc := 15) dX12_drop_15 fl_12_122 (by first | rfl | assumption | exact sh_house (by omega) | exact sh_wish (by omega) | exact sh_wor (by omega) | exact sh_bar (by omega) | exact sh_term (by omega) | exact sh_sheet (by omega) | exact sh_items (by omega) | exact sh_sums (by omega)) rfl ?_
      refine wp_iload_n (pc := 18) dX12_drop_18 (by first | rfl | assumption | (repeat first | assumption | rfl | refine aG_n ?_ rfl rfl)) ?_
      refine wp_iald (pc := 19) dX12_drop_19 (by first | rfl | assumption | exact sh_house (by omega) | exact sh_wish (by omega) | exact sh_wor (by omega) | exact sh_bar (by omega) | exact sh_term (by omega) | exact sh_sheet (by omega) | exact sh_items (by omega) | exact sh_sums (by omega)) (vp_in_nI (by omega) (by decide)) ?_
      refine wp_if_ge (pc := 20) (tgt := 26) dX12_drop_20 rfl (fun _ => ?_) (fun q => absurd (by simp (disch := omega) only [nI_clamp, up2_ne]; exact c3) q)
      refine wp_aload_n (pc := 26) dX12_drop_26 (by first | rfl | assumption | (repeat first | assumption | rfl | refine aG_n ?_ rfl rfl)) ?_
      refine wp_getR (pc := 27) dX12_drop_27 fl_12_122 (by first | rfl | assumption | exact sh_house (by omega) | exact sh_wish (by omega) | exact sh_wor (by omega) | exact sh_bar (by omega) | exact sh_term (by omega) | exact sh_sheet (by omega) | exact sh_items (by omega) | exact sh_sums (by omega)) rfl ?_
      refine wp_iload_n (pc := 30) dX12_drop_30 (by first | rfl | assumption | (repeat first | assumption | rfl | refine aG_n ?_ rfl rfl)) ?_
      refine wp_iconst (pc := 31) (v := -1) dX12_drop_31 (by decide) ?_
      refine wp_iast (pc := 32) dX12_drop_32 (by first | rfl | assumption | exact sh_house (by omega) | exact sh_wish (by omega) | exact sh_wor (by omega) | exact sh_bar (by omega) | exact sh_term (by omega) | exact sh_sheet (by omega) | exact sh_items (by omega) | exact sh_sums (by omega)) (vp_in_nI (by omega) (by decide)) ?_
      refine wp_aload_n (pc := 33) dX12_drop_33 (by first | rfl | assumption | (repeat first | assumption | rfl | refine aG_n ?_ rfl rfl)) ?_
      refine wp_getR (pc := 34) dX12_drop_34 fl_12_125 (by first | rfl | assumption | exact sh_house (by omega) | exact sh_wish (by omega) | exact sh_wor (by omega) | exact sh_bar (by omega) | exact sh_term (by omega) | exact sh_sheet (by omega) | exact sh_items (by omega) | exact sh_sums (by omega)) rfl ?_
      refine wp_iload_n (pc := 37) dX12_drop_37 (by first | rfl | assumption | (repeat first | assumption | rfl | refine aG_n ?_ rfl rfl)) ?_
      refine wp_iald (pc := 38) dX12_drop_38 (by first | rfl | assumption | exact sh_house (by omega) | exact sh_wish (by omega) | exact sh_wor (by omega) | exact sh_bar (by omega) | exact sh_term (by omega) | exact sh_sheet (by omega) | exact sh_items (by omega) | exact sh_sums (by omega)) (vp_in_nI (by omega) (by decide)) ?_
      refine wp_ireturn (pc := 39) dX12_drop_39 rfl (by first | rfl | decide | assumption) ?_
      refine qEq ?_ (k' _ ?_)
      · simp (disch := omega) only [nI_clamp, up2_ne]
        exact n3.trans n2.symm
      · simp (disch := omega) only [nI_clamp]
        refine ⟨own_c (by simp (disch := omega) only [up2_ne, fil_ne]) (fun i9 hi9 => (by simp (disch := omega) only [up2_ne, up2_p, fil_ne, fil_p])) (hI.1), coin_c (by simp (disch := omega) only [up2_ne, fil_ne]) (fun i9 hi9 => (by simp (disch := omega) only [up2_ne, up2_p, fil_ne, fil_p])) (hI.2.1), lev_c ⟨(by simp (disch := omega) only [up2_ne, fil_ne]), (by simp (disch := omega) only [up2_ne, fil_ne]), (by simp (disch := omega) only [up2_ne, fil_ne])⟩ (fun i9 hi9 => ⟨(by simp (disch := omega) only [up2_ne, up2_p, fil_ne, fil_p]), (by simp (disch := omega) only [up2_ne, up2_p, fil_ne, fil_p]), (by simp (disch := omega) only [up2_ne, up2_p, fil_ne, fil_p])⟩) (hI.2.2.1), wish_c ⟨(by simp (disch := omega) only [up2_ne, fil_ne]), (by simp (disch := omega) only [up2_ne, fil_ne]), (by simp (disch := omega) only [up2_ne, fil_ne]), (by simp (disch := omega) only [up2_ne, fil_ne])⟩ (fun i9 hi9 => ⟨(by simp (disch := omega) only [up2_ne, fil_ne]), (by simp (disch := omega) only [up2_ne, fil_ne]), (by simp (disch := omega) only [up2_ne, fil_ne])⟩) (hI.2.2.2.1), tape_c (by simp (disch := omega) only [up2_ne, up2_p, fil_ne, fil_p]) (by simp (disch := omega) only [up2_ne, up2_p, fil_ne, fil_p]) (by simp (disch := omega) only [up2_ne, fil_ne]) (by simp (disch := omega) only [up2_ne, fil_ne]) (hI.2.2.2.2.1), talk_c ⟨(by simp (disch := omega) only [up2_ne, fil_ne]), (by simp (disch := omega) only [up2_ne, fil_ne]), (by simp (disch := omega) only [up2_ne, fil_ne]), (by simp (disch := omega) only [up2_ne, fil_ne]), (by simp (disch := omega) only [up2_ne, fil_ne])⟩ ⟨(by simp (disch := omega) only [up2_ne, fil_ne]), (by simp (disch := omega) only [up2_ne, fil_ne]), (by simp (disch := omega) only [up2_ne, fil_ne])⟩ (fun j9 hj9 hk9 => (by simp (disch := omega) only [up2_ne, up2_p, fil_ne, fil_p])) (fun o9 => ⟨(by simp (disch := omega) only [up2_ne, fil_ne]), (by simp (disch := omega) only [up2_ne, fil_ne])⟩) rfl (hI.2.2.2.2.2.1), led_c (by simp (disch := omega) only [up2_ne, up2_p, fil_ne, fil_p]) (by simp (disch := omega) only [up2_ne, up2_p, fil_ne, fil_p]) (fun i9 hi9 => (by simp (disch := omega) only [up2_ne, fil_ne])) (fun c9 hc9 hd9 => (by simp (disch := omega) only [up2_ne, fil_ne])) ⟨(by simp (disch := omega) only [up2_ne, fil_ne]), (by simp (disch := omega) only [up2_ne, fil_ne])⟩ (hI.2.2.2.2.2.2.1), row_c (by simp (disch := omega) only [up2_ne, fil_ne]) (by simp (disch := omega) only [up2_ne, fil_ne]) (hI.2.2.2.2.2.2.2.1), ?_, grp_c (by simp (disch := omega) only [up2_ne, up2_p, fil_ne, fil_p]) (fun g9 hg9 => (by simp (disch := omega) only [up2_ne, fil_ne])) (fun i9 hi9 => ⟨(by simp (disch := omega) only [up2_ne, fil_ne]), (by simp (disch := omega) only [up2_ne, fil_ne])⟩) (hI.2.2.2.2.2.2.2.2.2)⟩
        intro z hz
        have hq := hI.2.2.2.2.2.2.2.2.1 z hz
        by_cases e : z = i
        · subst e
          simp (disch := omega) only [up2_ne, up2_p, up2_at]
          exact ⟨trivial, by unfold inR; decide, fun y => absurd trivial y, hq.2.2.2⟩
        · simp (disch := omega) only [up2_ne, up2_p, up2_at]
          exact hq
  · refine wp_iload_n (pc := 0) dX11_drop_0 (by first | rfl | assumption | (repeat first | assumption | rfl | refine aG_n ?_ rfl rfl)) ?_
    refine wp_cS (pc := 1) dX11_drop_1 lk_11_361 rfl rfl rfl (c_X11_isSheet (fun q => absurd q c1) (fun _ => aK_i ?_))
    refine wp_if_ne (pc := 4) (tgt := 9) dX11_drop_4 rfl (fun q => absurd q (by decide)) (fun _ => ?_)
    refine wp_iconst (pc := 7) (v := -1) dX11_drop_7 (by decide) ?_
    refine wp_ireturn (pc := 8) dX11_drop_8 rfl (by first | rfl | decide | assumption) ?_
    refine k _ _ (fun Q' k' => ?_)
    refine wp_iload_n (pc := 0) dX12_drop_0 (by first | rfl | assumption | (repeat first | assumption | rfl | refine aG_n ?_ rfl rfl)) ?_
    refine wp_i2l (pc := 1) dX12_drop_1 ?_
    refine wp_lconst (pc := 2) (v := 0) dX12_drop_2 (by decide) ?_
    refine wp_ldc2 (pc := 3) dX12_drop_3 cl_12_131 ?_
    refine wp_cS (pc := 6) dX12_drop_6 lk_12_133 rfl rfl rfl (c_X12_in (fun q => absurd q (by rw [w_int]; exact c1)) (fun _ => aK_i ?_))
    refine wp_if_ne (pc := 9) (tgt := 14) dX12_drop_9 rfl (fun q => absurd q (by decide)) (fun _ => ?_)
    refine wp_iconst (pc := 12) (v := -1) dX12_drop_12 (by decide) ?_
    refine wp_ireturn (pc := 13) dX12_drop_13 rfl (by first | rfl | decide | assumption) ?_
    exact k' _ hI

theorem sh24 (v : Int32) : (v <<< ((24 : Int32) &&& 31)) >>> ((24 : Int32) &&& 31) = v.toInt8.toInt32 := by
  apply Int32.toBitVec_inj.mp
  apply BitVec.eq_of_getLsbD_eq
  intro i hi
  have e1 : ((24 : Int32) &&& 31).toBitVec.smod 32 = 24#32 := by decide
  simp only [Int32.toBitVec_shiftRight, Int32.toBitVec_shiftLeft, e1, Int32.toBitVec_toInt8, Int8.toBitVec_toInt32]
  simp [BitVec.getLsbD_signExtend, BitVec.getLsbD_sshiftRight, BitVec.getLsbD_shiftLeft, BitVec.msb_eq_getLsbD_last, hi]
  rw [BitVec.signExtend_eq_setWidth_of_le _ (by decide : 8 ≤ 32)]
  rw [BitVec.getElem_sshiftRight, BitVec.getElem_signExtend]
  by_cases h : i < 8
  · rw [dif_pos (show 24 + i < 32 by omega), dif_pos h]
    rw [BitVec.getElem_shiftLeft, BitVec.getElem_setWidth]
    simp [show ¬ 24 + i < 24 by omega]
    exact (BitVec.getLsbD_eq_getElem hi).symm
  · rw [dif_neg (show ¬ 24 + i < 32 by omega), dif_neg h]
    rw [BitVec.msb_eq_getLsbD_last, BitVec.msb_eq_getLsbD_last]
    simp
theorem sh16 (v : Int32) : (v <<< ((16 : Int32) &&& 31)) >>> ((16 : Int32) &&& 31) = v.toInt16.toInt32 := by
  apply Int32.toBitVec_inj.mp
  apply BitVec.eq_of_getLsbD_eq
  intro i hi
  have e1 : ((16 : Int32) &&& 31).toBitVec.smod 32 = 16#32 := by decide
  simp only [Int32.toBitVec_shiftRight, Int32.toBitVec_shiftLeft, e1, Int32.toBitVec_toInt16, Int16.toBitVec_toInt32]
  simp [BitVec.getLsbD_signExtend, BitVec.getLsbD_sshiftRight, BitVec.getLsbD_shiftLeft, BitVec.msb_eq_getLsbD_last, hi]
  rw [BitVec.signExtend_eq_setWidth_of_le _ (by decide : 16 ≤ 32)]
  rw [BitVec.getElem_sshiftRight, BitVec.getElem_signExtend]
  by_cases h : i < 16
  · rw [dif_pos (show 16 + i < 32 by omega), dif_pos h]
    rw [BitVec.getElem_shiftLeft, BitVec.getElem_setWidth]
    simp [show ¬ 16 + i < 16 by omega]
    exact (BitVec.getLsbD_eq_getElem hi).symm
  · rw [dif_neg (show ¬ 16 + i < 32 by omega), dif_neg h]
    rw [BitVec.msb_eq_getLsbD_last, BitVec.msb_eq_getLsbD_last]
    simp

section ITEM
variable {X : aX} {μ : Mm} {Q : Option Value → Mm → Prop}
/-- Sheet.refusal: 0 where items from one on can be had -/
theorem c_X6_refusal {s : Nat} {l f m : Int32} (hs : s < 4) (k0 : μ.1 (78 + 2 * s) 1 = -1 → Q (some (.int (-11))) μ) (k1 : ¬ μ.1 (78 + 2 * s) 1 = -1 → ¬ μ.1 (78 + 2 * s) 1 = l → Q (some (.int (-12))) μ) (k2 : ¬ μ.1 (78 + 2 * s) 1 = -1 → μ.1 (78 + 2 * s) 1 = l → (f < 0 ∨ μ.1 (78 + 2 * s) 2 - m < f) → Q (some (.int (-13))) μ) (k3 : ¬ μ.1 (78 + 2 * s) 1 = -1 → μ.1 (78 + 2 * s) 1 = l → ¬ (f < 0 ∨ μ.1 (78 + 2 * s) 2 - m < f) → Q (some (.int 0)) μ) : WP X mX6_refusal 0 (lv_args 0 [.ref (78 + 2 * s), .int l, .int f, .int m]) [] μ Q := by
  by_cases c1 : μ.1 (78 + 2 * s) 1 = -1
  · refine wp_aload_n (pc := 0) dX6_refusal_0 (by first | rfl | assumption | (repeat first | assumption | rfl | refine aG_n ?_ rfl rfl)) ?_
    refine wp_cV (pc := 1) dX6_refusal_1 lk_6_22 rfl (by decide) rfl (by first | rfl | assumption | exact sh_house (by omega) | exact sh_wish (by omega) | exact sh_wor (by omega) | exact sh_bar (by omega) | exact sh_term (by omega) | exact sh_sheet (by omega) | exact sh_items (by omega) | exact sh_sums (by omega)) rfl rfl ?_
    refine wp_aload_n (pc := 0) dX6_isMissing_0 (by first | rfl | assumption | (repeat first | assumption | rfl | refine aG_n ?_ rfl rfl)) ?_
    refine wp_getI (pc := 1) dX6_isMissing_1 fl_6_15 (by first | rfl | assumption | exact sh_house (by omega) | exact sh_wish (by omega) | exact sh_wor (by omega) | exact sh_bar (by omega) | exact sh_term (by omega) | exact sh_sheet (by omega) | exact sh_items (by omega) | exact sh_sums (by omega)) rfl ?_
    refine wp_iconst (pc := 4) (v := -1) dX6_isMissing_4 (by decide) ?_
    refine wp_icmp_ne (pc := 5) (tgt := 12) dX6_isMissing_5 rfl (fun q => absurd c1 q) (fun _ => ?_)
    refine wp_iconst (pc := 8) (v := 1) dX6_isMissing_8 (by decide) ?_
    refine wp_goto (pc := 9) (tgt := 13) dX6_isMissing_9 rfl ?_
    refine wp_iretK (pc := 13) dX6_isMissing_13 rfl (by first | rfl | decide | assumption) ?_
    refine wp_if_eq (pc := 4) (tgt := 10) dX6_refusal_4 rfl (fun q => absurd q (by decide)) (fun _ => ?_)
    refine wp_bipush (pc := 7) (v := -11) dX6_refusal_7 (by decide) ?_
    refine wp_ireturn (pc := 9) dX6_refusal_9 rfl (by first | rfl | decide | assumption) ?_
    exact k0 c1
  · by_cases c2 : μ.1 (78 + 2 * s) 1 = l
    · by_cases c3 : f < 0
      · refine wp_aload_n (pc := 0) dX6_refusal_0 (by first | rfl | assumption | (repeat first | assumption | rfl | refine aG_n ?_ rfl rfl)) ?_
        refine wp_cV (pc := 1) dX6_refusal_1 lk_6_22 rfl (by decide) rfl (by first | rfl | assumption | exact sh_house (by omega) | exact sh_wish (by omega) | exact sh_wor (by omega) | exact sh_bar (by omega) | exact sh_term (by omega) | exact sh_sheet (by omega) | exact sh_items (by omega) | exact sh_sums (by omega)) rfl rfl ?_
        refine wp_aload_n (pc := 0) dX6_isMissing_0 (by first | rfl | assumption | (repeat first | assumption | rfl | refine aG_n ?_ rfl rfl)) ?_
        refine wp_getI (pc := 1) dX6_isMissing_1 fl_6_15 (by first | rfl | assumption | exact sh_house (by omega) | exact sh_wish (by omega) | exact sh_wor (by omega) | exact sh_bar (by omega) | exact sh_term (by omega) | exact sh_sheet (by omega) | exact sh_items (by omega) | exact sh_sums (by omega)) rfl ?_
        refine wp_iconst (pc := 4) (v := -1) dX6_isMissing_4 (by decide) ?_
        refine wp_icmp_ne (pc := 5) (tgt := 12) dX6_isMissing_5 rfl (fun _ => ?_) (fun q => absurd q c1)
        refine wp_iconst (pc := 12) (v := 0) dX6_isMissing_12 (by decide) ?_
        refine wp_iretK (pc := 13) dX6_isMissing_13 rfl (by first | rfl | decide | assumption) ?_
        refine wp_if_eq (pc := 4) (tgt := 10) dX6_refusal_4 rfl (fun _ => ?_) (fun q => absurd q (by decide))
        refine wp_aload_n (pc := 10) dX6_refusal_10 (by first | rfl | assumption | (repeat first | assumption | rfl | refine aG_n ?_ rfl rfl)) ?_
        refine wp_getI (pc := 11) dX6_refusal_11 fl_6_15 (by first | rfl | assumption | exact sh_house (by omega) | exact sh_wish (by omega) | exact sh_wor (by omega) | exact sh_bar (by omega) | exact sh_term (by omega) | exact sh_sheet (by omega) | exact sh_items (by omega) | exact sh_sums (by omega)) rfl ?_
        refine wp_iload_n (pc := 14) dX6_refusal_14 (by first | rfl | assumption | (repeat first | assumption | rfl | refine aG_n ?_ rfl rfl)) ?_
        refine wp_icmp_eq (pc := 15) (tgt := 21) dX6_refusal_15 rfl (fun _ => ?_) (fun q => absurd c2 q)
        refine wp_iload_n (pc := 21) dX6_refusal_21 (by first | rfl | assumption | (repeat first | assumption | rfl | refine aG_n ?_ rfl rfl)) ?_
        refine wp_if_lt (pc := 22) (tgt := 35) dX6_refusal_22 rfl (fun _ => ?_) (fun q => absurd c3 q)
        refine wp_bipush (pc := 35) (v := -13) dX6_refusal_35 (by decide) ?_
        refine wp_goto (pc := 37) (tgt := 41) dX6_refusal_37 rfl ?_
        refine wp_ireturn (pc := 41) dX6_refusal_41 rfl (by first | rfl | decide | assumption) ?_
        exact k2 c1 c2 (Or.inl c3)
      · by_cases c4 : f ≤ μ.1 (78 + 2 * s) 2 - m
        · refine wp_aload_n (pc := 0) dX6_refusal_0 (by first | rfl | assumption | (repeat first | assumption | rfl | refine aG_n ?_ rfl rfl)) ?_
          refine wp_cV (pc := 1) dX6_refusal_1 lk_6_22 rfl (by decide) rfl (by first | rfl | assumption | exact sh_house (by omega) | exact sh_wish (by omega) | exact sh_wor (by omega) | exact sh_bar (by omega) | exact sh_term (by omega) | exact sh_sheet (by omega) | exact sh_items (by omega) | exact sh_sums (by omega)) rfl rfl ?_
          refine wp_aload_n (pc := 0) dX6_isMissing_0 (by first | rfl | assumption | (repeat first | assumption | rfl | refine aG_n ?_ rfl rfl)) ?_
          refine wp_getI (pc := 1) dX6_isMissing_1 fl_6_15 (by first | rfl | assumption | exact sh_house (by omega) | exact sh_wish (by omega) | exact sh_wor (by omega) | exact sh_bar (by omega) | exact sh_term (by omega) | exact sh_sheet (by omega) | exact sh_items (by omega) | exact sh_sums (by omega)) rfl ?_
          refine wp_iconst (pc := 4) (v := -1) dX6_isMissing_4 (by decide) ?_
          refine wp_icmp_ne (pc := 5) (tgt := 12) dX6_isMissing_5 rfl (fun _ => ?_) (fun q => absurd q c1)
          refine wp_iconst (pc := 12) (v := 0) dX6_isMissing_12 (by decide) ?_
          refine wp_iretK (pc := 13) dX6_isMissing_13 rfl (by first | rfl | decide | assumption) ?_
          refine wp_if_eq (pc := 4) (tgt := 10) dX6_refusal_4 rfl (fun _ => ?_) (fun q => absurd q (by decide))
          refine wp_aload_n (pc := 10) dX6_refusal_10 (by first | rfl | assumption | (repeat first | assumption | rfl | refine aG_n ?_ rfl rfl)) ?_
          refine wp_getI (pc := 11) dX6_refusal_11 fl_6_15 (by first | rfl | assumption | exact sh_house (by omega) | exact sh_wish (by omega) | exact sh_wor (by omega) | exact sh_bar (by omega) | exact sh_term (by omega) | exact sh_sheet (by omega) | exact sh_items (by omega) | exact sh_sums (by omega)) rfl ?_
          refine wp_iload_n (pc := 14) dX6_refusal_14 (by first | rfl | assumption | (repeat first | assumption | rfl | refine aG_n ?_ rfl rfl)) ?_
          refine wp_icmp_eq (pc := 15) (tgt := 21) dX6_refusal_15 rfl (fun _ => ?_) (fun q => absurd c2 q)
          refine wp_iload_n (pc := 21) dX6_refusal_21 (by first | rfl | assumption | (repeat first | assumption | rfl | refine aG_n ?_ rfl rfl)) ?_
          refine wp_if_lt (pc := 22) (tgt := 35) dX6_refusal_22 rfl (fun q => absurd q c3) (fun _ => ?_)
          refine wp_iload_n (pc := 25) dX6_refusal_25 (by first | rfl | assumption | (repeat first | assumption | rfl | refine aG_n ?_ rfl rfl)) ?_
          refine wp_aload_n (pc := 26) dX6_refusal_26 (by first | rfl | assumption | (repeat first | assumption | rfl | refine aG_n ?_ rfl rfl)) ?_
          refine wp_getI (pc := 27) dX6_refusal_27 fl_6_19 (by first | rfl | assumption | exact sh_house (by omega) | exact sh_wish (by omega) | exact sh_wor (by omega) | exact sh_bar (by omega) | exact sh_term (by omega) | exact sh_sheet (by omega) | exact sh_items (by omega) | exact sh_sums (by omega)) rfl ?_
          refine wp_iload_n (pc := 30) dX6_refusal_30 (by first | rfl | assumption | (repeat first | assumption | rfl | refine aG_n ?_ rfl rfl)) ?_
          refine wp_isub (pc := 31) dX6_refusal_31 ?_
          refine wp_icmp_le (pc := 32) (tgt := 40) dX6_refusal_32 rfl (fun _ => ?_) (fun q => absurd c4 q)
          refine wp_iconst (pc := 40) (v := 0) dX6_refusal_40 (by decide) ?_
          refine wp_ireturn (pc := 41) dX6_refusal_41 rfl (by first | rfl | decide | assumption) ?_
          exact k3 c1 c2 (by simp only [i_lt, i_le] at *; omega)
        · refine wp_aload_n (pc := 0) dX6_refusal_0 (by first | rfl | assumption | (repeat first | assumption | rfl | refine aG_n ?_ rfl rfl)) ?_
          refine wp_cV (pc := 1) dX6_refusal_1 lk_6_22 rfl (by decide) rfl (by first | rfl | assumption | exact sh_house (by omega) | exact sh_wish (by omega) | exact sh_wor (by omega) | exact sh_bar (by omega) | exact sh_term (by omega) | exact sh_sheet (by omega) | exact sh_items (by omega) | exact sh_sums (by omega)) rfl rfl ?_
          refine wp_aload_n (pc := 0) dX6_isMissing_0 (by first | rfl | assumption | (repeat first | assumption | rfl | refine aG_n ?_ rfl rfl)) ?_
          refine wp_getI (pc := 1) dX6_isMissing_1 fl_6_15 (by first | rfl | assumption | exact sh_house (by omega) | exact sh_wish (by omega) | exact sh_wor (by omega) | exact sh_bar (by omega) | exact sh_term (by omega) | exact sh_sheet (by omega) | exact sh_items (by omega) | exact sh_sums (by omega)) rfl ?_
          refine wp_iconst (pc := 4) (v := -1) dX6_isMissing_4 (by decide) ?_
          refine wp_icmp_ne (pc := 5) (tgt := 12) dX6_isMissing_5 rfl (fun _ => ?_) (fun q => absurd q c1)
          refine wp_iconst (pc := 12) (v := 0) dX6_isMissing_12 (by decide) ?_
          refine wp_iretK (pc := 13) dX6_isMissing_13 rfl (by first | rfl | decide | assumption) ?_
          refine wp_if_eq (pc := 4) (tgt := 10) dX6_refusal_4 rfl (fun _ => ?_) (fun q => absurd q (by decide))
          refine wp_aload_n (pc := 10) dX6_refusal_10 (by first | rfl | assumption | (repeat first | assumption | rfl | refine aG_n ?_ rfl rfl)) ?_
          refine wp_getI (pc := 11) dX6_refusal_11 fl_6_15 (by first | rfl | assumption | exact sh_house (by omega) | exact sh_wish (by omega) | exact sh_wor (by omega) | exact sh_bar (by omega) | exact sh_term (by omega) | exact sh_sheet (by omega) | exact sh_items (by omega) | exact sh_sums (by omega)) rfl ?_
          refine wp_iload_n (pc := 14) dX6_refusal_14 (by first | rfl | assumption | (repeat first | assumption | rfl | refine aG_n ?_ rfl rfl)) ?_
          refine wp_icmp_eq (pc := 15) (tgt := 21) dX6_refusal_15 rfl (fun _ => ?_) (fun q => absurd c2 q)
          refine wp_iload_n (pc := 21) dX6_refusal_21 (by first | rfl | assumption | (repeat first | assumption | rfl | refine aG_n ?_ rfl rfl)) ?_
          refine wp_if_lt (pc := 22) (tgt := 35) dX6_refusal_22 rfl (fun q => absurd q c3) (fun _ => ?_)
          refine wp_iload_n (pc := 25) dX6_refusal_25 (by first | rfl | assumption | (repeat first | assumption | rfl | refine aG_n ?_ rfl rfl)) ?_
          refine wp_aload_n (pc := 26) dX6_refusal_26 (by first | rfl | assumption | (repeat first | assumption | rfl | refine aG_n ?_ rfl rfl)) ?_
          refine wp_getI (pc := 27) dX6_refusal_27 fl_6_19 (by first | rfl | assumption | exact sh_house (by omega) | exact sh_wish (by omega) | exact sh_wor (by omega) | exact sh_bar (by omega) | exact sh_term (by omega) | exact sh_sheet (by omega) | exact sh_items (by omega) | exact sh_sums (by omega)) rfl ?_
          refine wp_iload_n (pc := 30) dX6_refusal_30 (by first | rfl | assumption | (repeat first | assumption | rfl | refine aG_n ?_ rfl rfl)) ?_
          refine wp_isub (pc := 31) dX6_refusal_31 ?_
          refine wp_icmp_le (pc := 32) (tgt := 40) dX6_refusal_32 rfl (fun q => absurd q c4) (fun _ => ?_)
          refine wp_bipush (pc := 35) (v := -13) dX6_refusal_35 (by decide) ?_
          refine wp_goto (pc := 37) (tgt := 41) dX6_refusal_37 rfl ?_
          refine wp_ireturn (pc := 41) dX6_refusal_41 rfl (by first | rfl | decide | assumption) ?_
          exact k2 c1 c2 (Or.inr (by simp only [i_lt, i_le] at *; omega))
    · refine wp_aload_n (pc := 0) dX6_refusal_0 (by first | rfl | assumption | (repeat first | assumption | rfl | refine aG_n ?_ rfl rfl)) ?_
      refine wp_cV (pc := 1) dX6_refusal_1 lk_6_22 rfl (by decide) rfl (by first | rfl | assumption | exact sh_house (by omega) | exact sh_wish (by omega) | exact sh_wor (by omega) | exact sh_bar (by omega) | exact sh_term (by omega) | exact sh_sheet (by omega) | exact sh_items (by omega) | exact sh_sums (by omega)) rfl rfl ?_
      refine wp_aload_n (pc := 0) dX6_isMissing_0 (by first | rfl | assumption | (repeat first | assumption | rfl | refine aG_n ?_ rfl rfl)) ?_
      refine wp_getI (pc := 1) dX6_isMissing_1 fl_6_15 (by first | rfl | assumption | exact sh_house (by omega) | exact sh_wish (by omega) | exact sh_wor (by omega) | exact sh_bar (by omega) | exact sh_term (by omega) | exact sh_sheet (by omega) | exact sh_items (by omega) | exact sh_sums (by omega)) rfl ?_
      refine wp_iconst (pc := 4) (v := -1) dX6_isMissing_4 (by decide) ?_
      refine wp_icmp_ne (pc := 5) (tgt := 12) dX6_isMissing_5 rfl (fun _ => ?_) (fun q => absurd q c1)
      refine wp_iconst (pc := 12) (v := 0) dX6_isMissing_12 (by decide) ?_
      refine wp_iretK (pc := 13) dX6_isMissing_13 rfl (by first | rfl | decide | assumption) ?_
      refine wp_if_eq (pc := 4) (tgt := 10) dX6_refusal_4 rfl (fun _ => ?_) (fun q => absurd q (by decide))
      refine wp_aload_n (pc := 10) dX6_refusal_10 (by first | rfl | assumption | (repeat first | assumption | rfl | refine aG_n ?_ rfl rfl)) ?_
      refine wp_getI (pc := 11) dX6_refusal_11 fl_6_15 (by first | rfl | assumption | exact sh_house (by omega) | exact sh_wish (by omega) | exact sh_wor (by omega) | exact sh_bar (by omega) | exact sh_term (by omega) | exact sh_sheet (by omega) | exact sh_items (by omega) | exact sh_sums (by omega)) rfl ?_
      refine wp_iload_n (pc := 14) dX6_refusal_14 (by first | rfl | assumption | (repeat first | assumption | rfl | refine aG_n ?_ rfl rfl)) ?_
      refine wp_icmp_eq (pc := 15) (tgt := 21) dX6_refusal_15 rfl (fun q => absurd q c2) (fun _ => ?_)
      refine wp_bipush (pc := 18) (v := -12) dX6_refusal_18 (by decide) ?_
      refine wp_ireturn (pc := 20) dX6_refusal_20 rfl (by first | rfl | decide | assumption) ?_
      exact k1 c1 c2
theorem c_X12_against {s : Nat} {l f m : Int32} (hs : s < 4) (hl : inR l 0 2) (hr : inR (μ.1 124 s) (-1) 2) (k0 : μ.1 124 s = -1 → Q (some (.int (-11))) μ) (k1 : ¬ μ.1 124 s = -1 → ¬ μ.1 124 s = l → Q (some (.int (-12))) μ) (k2 : ¬ μ.1 124 s = -1 → μ.1 124 s = l → (f < 0 ∨ μ.1 125 s - m < f) → Q (some (.int (-13))) μ) (k3 : ¬ μ.1 124 s = -1 → μ.1 124 s = l → ¬ (f < 0 ∨ μ.1 125 s - m < f) → Q (some (.int 0)) μ) : WP X mX12_against 0 (lv_args 0 [.ref 86, .int (nI s), .int l, .int f, .int m]) [] μ Q := by
  have e : (nI s).toNatClampNeg = s := nI_clamp (by omega)
  have z0 := z_0
  have zm : (-1 : Int32).toInt = -1 := by decide
  have z6 : (0 : Int64).toInt = 0 := by decide
  by_cases c2 : μ.1 124 s = l
  · have c1 : ¬ μ.1 124 s = -1 := fun z => by
      have := hl.1; rw [← c2, z] at this; omega
    by_cases c3 : f < 0 ∨ μ.1 125 s - m < f
    · have c4 : ¬ ((0 : Int64).toInt ≤ f.toInt64.toInt ∧ f.toInt64.toInt ≤ (μ.1 125 (nI s).toNatClampNeg - m).toInt64.toInt) := by
        rw [w_int, w_int, e]; simp only [i_lt] at c3; omega
      refine wp_aload_n (pc := 0) dX12_against_0 (by first | rfl | assumption | (repeat first | assumption | rfl | refine aG_n ?_ rfl rfl)) ?_
      refine wp_getR (pc := 1) dX12_against_1 fl_12_122 (by first | rfl | assumption | exact sh_house (by omega) | exact sh_wish (by omega) | exact sh_wor (by omega) | exact sh_bar (by omega) | exact sh_term (by omega) | exact sh_sheet (by omega) | exact sh_items (by omega) | exact sh_sums (by omega)) rfl ?_
      refine wp_iload_n (pc := 4) dX12_against_4 (by first | rfl | assumption | (repeat first | assumption | rfl | refine aG_n ?_ rfl rfl)) ?_
      refine wp_iald (pc := 5) dX12_against_5 (by first | rfl | assumption | exact sh_house (by omega) | exact sh_wish (by omega) | exact sh_wor (by omega) | exact sh_bar (by omega) | exact sh_term (by omega) | exact sh_sheet (by omega) | exact sh_items (by omega) | exact sh_sums (by omega)) (vp_in_nI (by omega) (by decide)) ?_
      refine wp_iload_n (pc := 6) dX12_against_6 (by first | rfl | assumption | (repeat first | assumption | rfl | refine aG_n ?_ rfl rfl)) ?_
      refine wp_icmp_eq (pc := 7) (tgt := 27) dX12_against_7 rfl (fun _ => ?_) (fun q => absurd (by rw [e]; exact c2) q)
      refine wp_iload_n (pc := 27) dX12_against_27 (by first | rfl | assumption | (repeat first | assumption | rfl | refine aG_n ?_ rfl rfl)) ?_
      refine wp_i2l (pc := 28) dX12_against_28 ?_
      refine wp_lconst (pc := 29) (v := 0) dX12_against_29 (by decide) ?_
      refine wp_aload_n (pc := 30) dX12_against_30 (by first | rfl | assumption | (repeat first | assumption | rfl | refine aG_n ?_ rfl rfl)) ?_
      refine wp_getR (pc := 31) dX12_against_31 fl_12_125 (by first | rfl | assumption | exact sh_house (by omega) | exact sh_wish (by omega) | exact sh_wor (by omega) | exact sh_bar (by omega) | exact sh_term (by omega) | exact sh_sheet (by omega) | exact sh_items (by omega) | exact sh_sums (by omega)) rfl ?_
      refine wp_iload_n (pc := 34) dX12_against_34 (by first | rfl | assumption | (repeat first | assumption | rfl | refine aG_n ?_ rfl rfl)) ?_
      refine wp_iald (pc := 35) dX12_against_35 (by first | rfl | assumption | exact sh_house (by omega) | exact sh_wish (by omega) | exact sh_wor (by omega) | exact sh_bar (by omega) | exact sh_term (by omega) | exact sh_sheet (by omega) | exact sh_items (by omega) | exact sh_sums (by omega)) (vp_in_nI (by omega) (by decide)) ?_
      refine wp_iload (pc := 36) dX12_against_36 (by first | rfl | assumption | (repeat first | assumption | rfl | refine aG_n ?_ rfl rfl)) ?_
      refine wp_isub (pc := 38) dX12_against_38 ?_
      refine wp_i2l (pc := 39) dX12_against_39 ?_
      refine wp_cS (pc := 40) dX12_against_40 lk_12_133 rfl rfl rfl (c_X12_in (fun q => absurd q c4) (fun _ => aK_i ?_))
      refine wp_if_eq (pc := 43) (tgt := 50) dX12_against_43 rfl (fun _ => ?_) (fun q => absurd q (by decide))
      refine wp_bipush (pc := 50) (v := -13) dX12_against_50 (by decide) ?_
      refine wp_ireturn (pc := 52) dX12_against_52 rfl (by first | rfl | decide | assumption) ?_
      exact k2 c1 c2 c3
    · have c4 : ((0 : Int64).toInt ≤ f.toInt64.toInt ∧ f.toInt64.toInt ≤ (μ.1 125 (nI s).toNatClampNeg - m).toInt64.toInt) := by
        rw [w_int, w_int, e]; simp only [i_lt] at c3; omega
      refine wp_aload_n (pc := 0) dX12_against_0 (by first | rfl | assumption | (repeat first | assumption | rfl | refine aG_n ?_ rfl rfl)) ?_
      refine wp_getR (pc := 1) dX12_against_1 fl_12_122 (by first | rfl | assumption | exact sh_house (by omega) | exact sh_wish (by omega) | exact sh_wor (by omega) | exact sh_bar (by omega) | exact sh_term (by omega) | exact sh_sheet (by omega) | exact sh_items (by omega) | exact sh_sums (by omega)) rfl ?_
      refine wp_iload_n (pc := 4) dX12_against_4 (by first | rfl | assumption | (repeat first | assumption | rfl | refine aG_n ?_ rfl rfl)) ?_
      refine wp_iald (pc := 5) dX12_against_5 (by first | rfl | assumption | exact sh_house (by omega) | exact sh_wish (by omega) | exact sh_wor (by omega) | exact sh_bar (by omega) | exact sh_term (by omega) | exact sh_sheet (by omega) | exact sh_items (by omega) | exact sh_sums (by omega)) (vp_in_nI (by omega) (by decide)) ?_
      refine wp_iload_n (pc := 6) dX12_against_6 (by first | rfl | assumption | (repeat first | assumption | rfl | refine aG_n ?_ rfl rfl)) ?_
      refine wp_icmp_eq (pc := 7) (tgt := 27) dX12_against_7 rfl (fun _ => ?_) (fun q => absurd (by rw [e]; exact c2) q)
      refine wp_iload_n (pc := 27) dX12_against_27 (by first | rfl | assumption | (repeat first | assumption | rfl | refine aG_n ?_ rfl rfl)) ?_
      refine wp_i2l (pc := 28) dX12_against_28 ?_
      refine wp_lconst (pc := 29) (v := 0) dX12_against_29 (by decide) ?_
      refine wp_aload_n (pc := 30) dX12_against_30 (by first | rfl | assumption | (repeat first | assumption | rfl | refine aG_n ?_ rfl rfl)) ?_
      refine wp_getR (pc := 31) dX12_against_31 fl_12_125 (by first | rfl | assumption | exact sh_house (by omega) | exact sh_wish (by omega) | exact sh_wor (by omega) | exact sh_bar (by omega) | exact sh_term (by omega) | exact sh_sheet (by omega) | exact sh_items (by omega) | exact sh_sums (by omega)) rfl ?_
      refine wp_iload_n (pc := 34) dX12_against_34 (by first | rfl | assumption | (repeat first | assumption | rfl | refine aG_n ?_ rfl rfl)) ?_
      refine wp_iald (pc := 35) dX12_against_35 (by first | rfl | assumption | exact sh_house (by omega) | exact sh_wish (by omega) | exact sh_wor (by omega) | exact sh_bar (by omega) | exact sh_term (by omega) | exact sh_sheet (by omega) | exact sh_items (by omega) | exact sh_sums (by omega)) (vp_in_nI (by omega) (by decide)) ?_
      refine wp_iload (pc := 36) dX12_against_36 (by first | rfl | assumption | (repeat first | assumption | rfl | refine aG_n ?_ rfl rfl)) ?_
      refine wp_isub (pc := 38) dX12_against_38 ?_
      refine wp_i2l (pc := 39) dX12_against_39 ?_
      refine wp_cS (pc := 40) dX12_against_40 lk_12_133 rfl rfl rfl (c_X12_in (fun _ => aK_i ?_) (fun q => absurd c4 q))
      refine wp_if_eq (pc := 43) (tgt := 50) dX12_against_43 rfl (fun q => absurd q (by decide)) (fun _ => ?_)
      refine wp_iconst (pc := 46) (v := 0) dX12_against_46 (by decide) ?_
      refine wp_goto (pc := 47) (tgt := 52) dX12_against_47 rfl ?_
      refine wp_ireturn (pc := 52) dX12_against_52 rfl (by first | rfl | decide | assumption) ?_
      exact k3 c1 c2 c3
  · by_cases c1 : μ.1 124 s = -1
    · refine wp_aload_n (pc := 0) dX12_against_0 (by first | rfl | assumption | (repeat first | assumption | rfl | refine aG_n ?_ rfl rfl)) ?_
      refine wp_getR (pc := 1) dX12_against_1 fl_12_122 (by first | rfl | assumption | exact sh_house (by omega) | exact sh_wish (by omega) | exact sh_wor (by omega) | exact sh_bar (by omega) | exact sh_term (by omega) | exact sh_sheet (by omega) | exact sh_items (by omega) | exact sh_sums (by omega)) rfl ?_
      refine wp_iload_n (pc := 4) dX12_against_4 (by first | rfl | assumption | (repeat first | assumption | rfl | refine aG_n ?_ rfl rfl)) ?_
      refine wp_iald (pc := 5) dX12_against_5 (by first | rfl | assumption | exact sh_house (by omega) | exact sh_wish (by omega) | exact sh_wor (by omega) | exact sh_bar (by omega) | exact sh_term (by omega) | exact sh_sheet (by omega) | exact sh_items (by omega) | exact sh_sums (by omega)) (vp_in_nI (by omega) (by decide)) ?_
      refine wp_iload_n (pc := 6) dX12_against_6 (by first | rfl | assumption | (repeat first | assumption | rfl | refine aG_n ?_ rfl rfl)) ?_
      refine wp_icmp_eq (pc := 7) (tgt := 27) dX12_against_7 rfl (fun q => absurd q (by rw [e]; exact c2)) (fun _ => ?_)
      refine wp_aload_n (pc := 10) dX12_against_10 (by first | rfl | assumption | (repeat first | assumption | rfl | refine aG_n ?_ rfl rfl)) ?_
      refine wp_getR (pc := 11) dX12_against_11 fl_12_122 (by first | rfl | assumption | exact sh_house (by omega) | exact sh_wish (by omega) | exact sh_wor (by omega) | exact sh_bar (by omega) | exact sh_term (by omega) | exact sh_sheet (by omega) | exact sh_items (by omega) | exact sh_sums (by omega)) rfl ?_
      refine wp_iload_n (pc := 14) dX12_against_14 (by first | rfl | assumption | (repeat first | assumption | rfl | refine aG_n ?_ rfl rfl)) ?_
      refine wp_iald (pc := 15) dX12_against_15 (by first | rfl | assumption | exact sh_house (by omega) | exact sh_wish (by omega) | exact sh_wor (by omega) | exact sh_bar (by omega) | exact sh_term (by omega) | exact sh_sheet (by omega) | exact sh_items (by omega) | exact sh_sums (by omega)) (vp_in_nI (by omega) (by decide)) ?_
      refine wp_if_ge (pc := 16) (tgt := 24) dX12_against_16 rfl (fun q => absurd q (by rw [e, c1]; decide)) (fun _ => ?_)
      refine wp_bipush (pc := 19) (v := -11) dX12_against_19 (by decide) ?_
      refine wp_goto (pc := 21) (tgt := 26) dX12_against_21 rfl ?_
      refine wp_ireturn (pc := 26) dX12_against_26 rfl (by first | rfl | decide | assumption) ?_
      exact k0 c1
    · have c3 : (0 : Int32) ≤ μ.1 124 (nI s).toNatClampNeg := by
        rw [e, i_le]
        have h1 := hr.1
        have h2 : ¬ (μ.1 124 s).toInt = -1 := fun z => c1 ((i_eq _ _).mpr (z.trans zm.symm))
        omega
      refine wp_aload_n (pc := 0) dX12_against_0 (by first | rfl | assumption | (repeat first | assumption | rfl | refine aG_n ?_ rfl rfl)) ?_
      refine wp_getR (pc := 1) dX12_against_1 fl_12_122 (by first | rfl | assumption | exact sh_house (by omega) | exact sh_wish (by omega) | exact sh_wor (by omega) | exact sh_bar (by omega) | exact sh_term (by omega) | exact sh_sheet (by omega) | exact sh_items (by omega) | exact sh_sums (by omega)) rfl ?_
      refine wp_iload_n (pc := 4) dX12_against_4 (by first | rfl | assumption | (repeat first | assumption | rfl | refine aG_n ?_ rfl rfl)) ?_
      refine wp_iald (pc := 5) dX12_against_5 (by first | rfl | assumption | exact sh_house (by omega) | exact sh_wish (by omega) | exact sh_wor (by omega) | exact sh_bar (by omega) | exact sh_term (by omega) | exact sh_sheet (by omega) | exact sh_items (by omega) | exact sh_sums (by omega)) (vp_in_nI (by omega) (by decide)) ?_
      refine wp_iload_n (pc := 6) dX12_against_6 (by first | rfl | assumption | (repeat first | assumption | rfl | refine aG_n ?_ rfl rfl)) ?_
      refine wp_icmp_eq (pc := 7) (tgt := 27) dX12_against_7 rfl (fun q => absurd q (by rw [e]; exact c2)) (fun _ => ?_)
      refine wp_aload_n (pc := 10) dX12_against_10 (by first | rfl | assumption | (repeat first | assumption | rfl | refine aG_n ?_ rfl rfl)) ?_
      refine wp_getR (pc := 11) dX12_against_11 fl_12_122 (by first | rfl | assumption | exact sh_house (by omega) | exact sh_wish (by omega) | exact sh_wor (by omega) | exact sh_bar (by omega) | exact sh_term (by omega) | exact sh_sheet (by omega) | exact sh_items (by omega) | exact sh_sums (by omega)) rfl ?_
      refine wp_iload_n (pc := 14) dX12_against_14 (by first | rfl | assumption | (repeat first | assumption | rfl | refine aG_n ?_ rfl rfl)) ?_
      refine wp_iald (pc := 15) dX12_against_15 (by first | rfl | assumption | exact sh_house (by omega) | exact sh_wish (by omega) | exact sh_wor (by omega) | exact sh_bar (by omega) | exact sh_term (by omega) | exact sh_sheet (by omega) | exact sh_items (by omega) | exact sh_sums (by omega)) (vp_in_nI (by omega) (by decide)) ?_
      refine wp_if_ge (pc := 16) (tgt := 24) dX12_against_16 rfl (fun _ => ?_) (fun q => absurd c3 q)
      refine wp_bipush (pc := 24) (v := -12) dX12_against_24 (by decide) ?_
      refine wp_ireturn (pc := 26) dX12_against_26 rfl (by first | rfl | decide | assumption) ?_
      exact k1 c1 c2
end ITEM

theorem J_item (s l i v : Int32) : Jnt mX11_item mX12_item [.int s, .int l, .int i, .int v] := by
  intro X μ Q hI k
  by_cases c1 : inR s 0 3
  · by_cases c2 : inR l 0 2
    · obtain ⟨t, ht, rfl⟩ := inR_of (n := 3) c1
      have hh := hI.2.2.2.2.2.2.2.2.1 t (by omega)
      have e1 := hh.1
      by_cases a1 : μ.1 124 t = -1
      · refine wp_iload_n (pc := 0) dX11_item_0 (by first | rfl | assumption | (repeat first | assumption | rfl | refine aG_n ?_ rfl rfl)) ?_
        refine wp_cS (pc := 1) dX11_item_1 lk_11_361 rfl rfl rfl (c_X11_isSheet (fun _ => aK_i ?_) (fun q => absurd c1 q))
        refine wp_if_eq (pc := 4) (tgt := 14) dX11_item_4 rfl (fun q => absurd q (by decide)) (fun _ => ?_)
        refine wp_iload_n (pc := 7) dX11_item_7 (by first | rfl | assumption | (repeat first | assumption | rfl | refine aG_n ?_ rfl rfl)) ?_
        refine wp_cS (pc := 8) dX11_item_8 lk_11_364 rfl rfl rfl (c_X11_isLane (fun _ => aK_i ?_) (fun q => absurd c2 q))
        refine wp_if_ne (pc := 11) (tgt := 16) dX11_item_11 rfl (fun _ => ?_) (fun q => absurd q (by decide))
        refine wp_aload_n (pc := 16) dX11_item_16 (by first | rfl | assumption | (repeat first | assumption | rfl | refine aG_n ?_ rfl rfl)) ?_
        refine wp_getR (pc := 17) dX11_item_17 fl_11_66 (by first | rfl | assumption | exact sh_house (by omega) | exact sh_wish (by omega) | exact sh_wor (by omega) | exact sh_bar (by omega) | exact sh_term (by omega) | exact sh_sheet (by omega) | exact sh_items (by omega) | exact sh_sums (by omega)) rfl ?_
        refine wp_iload_n (pc := 20) dX11_item_20 (by first | rfl | assumption | (repeat first | assumption | rfl | refine aG_n ?_ rfl rfl)) ?_
        refine wp_aald (pc := 21) dX11_item_21 (by first | rfl | assumption | exact sh_house (by omega) | exact sh_wish (by omega) | exact sh_wor (by omega) | exact sh_bar (by omega) | exact sh_term (by omega) | exact sh_sheet (by omega) | exact sh_items (by omega) | exact sh_sums (by omega)) (vp_in_nI (by omega) (by decide)) (by decide) (el_sheet (by omega)) ?_
        refine wp_iload_n (pc := 22) dX11_item_22 (by first | rfl | assumption | (repeat first | assumption | rfl | refine aG_n ?_ rfl rfl)) ?_
        refine wp_iload_n (pc := 23) dX11_item_23 (by first | rfl | assumption | (repeat first | assumption | rfl | refine aG_n ?_ rfl rfl)) ?_
        refine wp_iconst (pc := 24) (v := 1) dX11_item_24 (by decide) ?_
        refine wp_cV (pc := 25) dX11_item_25 lk_11_377 rfl (by decide) rfl (by first | rfl | assumption | exact sh_house (by omega) | exact sh_wish (by omega) | exact sh_wor (by omega) | exact sh_bar (by omega) | exact sh_term (by omega) | exact sh_sheet (by omega) | exact sh_items (by omega) | exact sh_sums (by omega)) rfl rfl (c_X6_refusal (by omega) (fun _ => aK_i ?_) (fun q => absurd (e1.trans a1) q) (fun q => absurd (e1.trans a1) q) (fun q => absurd (e1.trans a1) q))
        refine wp_istore (pc := 28) dX11_item_28 (by decide) ?_
        refine wp_iload (pc := 30) dX11_item_30 (by first | rfl | assumption | (repeat first | assumption | rfl | refine aG_n ?_ rfl rfl)) ?_
        refine wp_if_ge (pc := 32) (tgt := 38) dX11_item_32 rfl (fun q => absurd q (by decide)) (fun _ => ?_)
        refine wp_iload (pc := 35) dX11_item_35 (by first | rfl | assumption | (repeat first | assumption | rfl | refine aG_n ?_ rfl rfl)) ?_
        refine wp_ireturn (pc := 37) dX11_item_37 rfl (by first | rfl | decide | assumption) ?_
        refine k _ _ (fun Q' k' => ?_)
        refine wp_iload_n (pc := 0) dX12_item_0 (by first | rfl | assumption | (repeat first | assumption | rfl | refine aG_n ?_ rfl rfl)) ?_
        refine wp_iload_n (pc := 1) dX12_item_1 (by first | rfl | assumption | (repeat first | assumption | rfl | refine aG_n ?_ rfl rfl)) ?_
        refine wp_cS (pc := 2) dX12_item_2 lk_12_361 rfl rfl rfl (c_X12_isSheet (fun _ => aK_i ?_) (fun q => absurd ⟨c1, c2⟩ q))
        refine wp_if_ne (pc := 5) (tgt := 10) dX12_item_5 rfl (fun _ => ?_) (fun q => absurd q (by decide))
        refine wp_aload_n (pc := 10) dX12_item_10 (by first | rfl | assumption | (repeat first | assumption | rfl | refine aG_n ?_ rfl rfl)) ?_
        refine wp_iload_n (pc := 11) dX12_item_11 (by first | rfl | assumption | (repeat first | assumption | rfl | refine aG_n ?_ rfl rfl)) ?_
        refine wp_iload_n (pc := 12) dX12_item_12 (by first | rfl | assumption | (repeat first | assumption | rfl | refine aG_n ?_ rfl rfl)) ?_
        refine wp_iload_n (pc := 13) dX12_item_13 (by first | rfl | assumption | (repeat first | assumption | rfl | refine aG_n ?_ rfl rfl)) ?_
        refine wp_iconst (pc := 14) (v := 1) dX12_item_14 (by decide) ?_
        refine wp_cV (pc := 15) dX12_item_15 lk_12_364 rfl (by decide) rfl (by first | rfl | assumption | exact sh_house (by omega) | exact sh_wish (by omega) | exact sh_wor (by omega) | exact sh_bar (by omega) | exact sh_term (by omega) | exact sh_sheet (by omega) | exact sh_items (by omega) | exact sh_sums (by omega)) rfl rfl (c_X12_against (by omega) c2 hh.2.1 (fun _ => aK_i ?_) (fun q => absurd a1 q) (fun q => absurd a1 q) (fun q => absurd a1 q))
        refine wp_istore (pc := 18) dX12_item_18 (by decide) ?_
        refine wp_iload (pc := 20) dX12_item_20 (by first | rfl | assumption | (repeat first | assumption | rfl | refine aG_n ?_ rfl rfl)) ?_
        refine wp_if_ge (pc := 22) (tgt := 28) dX12_item_22 rfl (fun q => absurd q (by decide)) (fun _ => ?_)
        refine wp_iload (pc := 25) dX12_item_25 (by first | rfl | assumption | (repeat first | assumption | rfl | refine aG_n ?_ rfl rfl)) ?_
        refine wp_ireturn (pc := 27) dX12_item_27 rfl (by first | rfl | decide | assumption) ?_
        exact k' _ hI
      · by_cases a2 : μ.1 124 t = l
        · obtain ⟨n, n1, n2, n3⟩ := hh.2.2.1 a1
          have e2 : μ.1 (78 + 2 * t) 2 = μ.1 125 t := n2.trans n3.symm
          by_cases a3 : i < 0 ∨ μ.1 125 t - 1 < i
          · refine wp_iload_n (pc := 0) dX11_item_0 (by first | rfl | assumption | (repeat first | assumption | rfl | refine aG_n ?_ rfl rfl)) ?_
            refine wp_cS (pc := 1) dX11_item_1 lk_11_361 rfl rfl rfl (c_X11_isSheet (fun _ => aK_i ?_) (fun q => absurd c1 q))
            refine wp_if_eq (pc := 4) (tgt := 14) dX11_item_4 rfl (fun q => absurd q (by decide)) (fun _ => ?_)
            refine wp_iload_n (pc := 7) dX11_item_7 (by first | rfl | assumption | (repeat first | assumption | rfl | refine aG_n ?_ rfl rfl)) ?_
            refine wp_cS (pc := 8) dX11_item_8 lk_11_364 rfl rfl rfl (c_X11_isLane (fun _ => aK_i ?_) (fun q => absurd c2 q))
            refine wp_if_ne (pc := 11) (tgt := 16) dX11_item_11 rfl (fun _ => ?_) (fun q => absurd q (by decide))
            refine wp_aload_n (pc := 16) dX11_item_16 (by first | rfl | assumption | (repeat first | assumption | rfl | refine aG_n ?_ rfl rfl)) ?_
            refine wp_getR (pc := 17) dX11_item_17 fl_11_66 (by first | rfl | assumption | exact sh_house (by omega) | exact sh_wish (by omega) | exact sh_wor (by omega) | exact sh_bar (by omega) | exact sh_term (by omega) | exact sh_sheet (by omega) | exact sh_items (by omega) | exact sh_sums (by omega)) rfl ?_
            refine wp_iload_n (pc := 20) dX11_item_20 (by first | rfl | assumption | (repeat first | assumption | rfl | refine aG_n ?_ rfl rfl)) ?_
            refine wp_aald (pc := 21) dX11_item_21 (by first | rfl | assumption | exact sh_house (by omega) | exact sh_wish (by omega) | exact sh_wor (by omega) | exact sh_bar (by omega) | exact sh_term (by omega) | exact sh_sheet (by omega) | exact sh_items (by omega) | exact sh_sums (by omega)) (vp_in_nI (by omega) (by decide)) (by decide) (el_sheet (by omega)) ?_
            refine wp_iload_n (pc := 22) dX11_item_22 (by first | rfl | assumption | (repeat first | assumption | rfl | refine aG_n ?_ rfl rfl)) ?_
            refine wp_iload_n (pc := 23) dX11_item_23 (by first | rfl | assumption | (repeat first | assumption | rfl | refine aG_n ?_ rfl rfl)) ?_
            refine wp_iconst (pc := 24) (v := 1) dX11_item_24 (by decide) ?_
            refine wp_cV (pc := 25) dX11_item_25 lk_11_377 rfl (by decide) rfl (by first | rfl | assumption | exact sh_house (by omega) | exact sh_wish (by omega) | exact sh_wor (by omega) | exact sh_bar (by omega) | exact sh_term (by omega) | exact sh_sheet (by omega) | exact sh_items (by omega) | exact sh_sums (by omega)) rfl rfl (c_X6_refusal (by omega) (fun q => absurd (e1.symm.trans q) a1) (fun _ q => absurd (e1.trans a2) q) (fun _ _ _ => aK_i ?_) (fun _ _ q => absurd (by rw [e2]; exact a3) q))
            refine wp_istore (pc := 28) dX11_item_28 (by decide) ?_
            refine wp_iload (pc := 30) dX11_item_30 (by first | rfl | assumption | (repeat first | assumption | rfl | refine aG_n ?_ rfl rfl)) ?_
            refine wp_if_ge (pc := 32) (tgt := 38) dX11_item_32 rfl (fun q => absurd q (by decide)) (fun _ => ?_)
            refine wp_iload (pc := 35) dX11_item_35 (by first | rfl | assumption | (repeat first | assumption | rfl | refine aG_n ?_ rfl rfl)) ?_
            refine wp_ireturn (pc := 37) dX11_item_37 rfl (by first | rfl | decide | assumption) ?_
            refine k _ _ (fun Q' k' => ?_)
            refine wp_iload_n (pc := 0) dX12_item_0 (by first | rfl | assumption | (repeat first | assumption | rfl | refine aG_n ?_ rfl rfl)) ?_
            refine wp_iload_n (pc := 1) dX12_item_1 (by first | rfl | assumption | (repeat first | assumption | rfl | refine aG_n ?_ rfl rfl)) ?_
            refine wp_cS (pc := 2) dX12_item_2 lk_12_361 rfl rfl rfl (c_X12_isSheet (fun _ => aK_i ?_) (fun q => absurd ⟨c1, c2⟩ q))
            refine wp_if_ne (pc := 5) (tgt := 10) dX12_item_5 rfl (fun _ => ?_) (fun q => absurd q (by decide))
            refine wp_aload_n (pc := 10) dX12_item_10 (by first | rfl | assumption | (repeat first | assumption | rfl | refine aG_n ?_ rfl rfl)) ?_
            refine wp_iload_n (pc := 11) dX12_item_11 (by first | rfl | assumption | (repeat first | assumption | rfl | refine aG_n ?_ rfl rfl)) ?_
            refine wp_iload_n (pc := 12) dX12_item_12 (by first | rfl | assumption | (repeat first | assumption | rfl | refine aG_n ?_ rfl rfl)) ?_
            refine wp_iload_n (pc := 13) dX12_item_13 (by first | rfl | assumption | (repeat first | assumption | rfl | refine aG_n ?_ rfl rfl)) ?_
            refine wp_iconst (pc := 14) (v := 1) dX12_item_14 (by decide) ?_
            refine wp_cV (pc := 15) dX12_item_15 lk_12_364 rfl (by decide) rfl (by first | rfl | assumption | exact sh_house (by omega) | exact sh_wish (by omega) | exact sh_wor (by omega) | exact sh_bar (by omega) | exact sh_term (by omega) | exact sh_sheet (by omega) | exact sh_items (by omega) | exact sh_sums (by omega)) rfl rfl (c_X12_against (by omega) c2 hh.2.1 (fun q => absurd q a1) (fun _ q => absurd a2 q) (fun _ _ _ => aK_i ?_) (fun _ _ q => absurd a3 q))
            refine wp_istore (pc := 18) dX12_item_18 (by decide) ?_
            refine wp_iload (pc := 20) dX12_item_20 (by first | rfl | assumption | (repeat first | assumption | rfl | refine aG_n ?_ rfl rfl)) ?_
            refine wp_if_ge (pc := 22) (tgt := 28) dX12_item_22 rfl (fun q => absurd q (by decide)) (fun _ => ?_)
            refine wp_iload (pc := 25) dX12_item_25 (by first | rfl | assumption | (repeat first | assumption | rfl | refine aG_n ?_ rfl rfl)) ?_
            refine wp_ireturn (pc := 27) dX12_item_27 rfl (by first | rfl | decide | assumption) ?_
            exact k' _ hI
          · obtain ⟨j, hj, rfl⟩ : ∃ j, j < n ∧ i = nI j := by
              have h0 : ¬ i < 0 := fun z => a3 (Or.inl z)
              obtain ⟨j, hj, rfl⟩ := nI_of h0
              refine ⟨j, ?_, rfl⟩
              have h1 : ¬ μ.1 125 t - 1 < nI j := fun z => a3 (Or.inr z)
              rw [n3, i_lt, nI_toInt hj, show (1 : Int32) = nI 1 from rfl, pk_sub_toInt (by omega) (by omega)] at h1
              omega
            have eS : ∀ M : MM, ((12 : Int32) * nI t + nI j).toNatClampNeg = 12 * t + j := fun _ => by rw [n12t, nI_clamp (by omega)]
            have fin : ∀ x : Int32, Inv (up2 (up2 μ.1 (79 + 2 * t) j x) 126 (12 * t + j) x, μ.2) := fun x => by
              refine ⟨own_c (by simp (disch := omega) only [up2_ne, fil_ne]) (fun i9 hi9 => (by simp (disch := omega) only [up2_ne, up2_p, fil_ne, fil_p])) (hI.1), coin_c (by simp (disch := omega) only [up2_ne, fil_ne]) (fun i9 hi9 => (by simp (disch := omega) only [up2_ne, up2_p, fil_ne, fil_p])) (hI.2.1), lev_c ⟨(by simp (disch := omega) only [up2_ne, fil_ne]), (by simp (disch := omega) only [up2_ne, fil_ne]), (by simp (disch := omega) only [up2_ne, fil_ne])⟩ (fun i9 hi9 => ⟨(by simp (disch := omega) only [up2_ne, up2_p, fil_ne, fil_p]), (by simp (disch := omega) only [up2_ne, up2_p, fil_ne, fil_p]), (by simp (disch := omega) only [up2_ne, up2_p, fil_ne, fil_p])⟩) (hI.2.2.1), wish_c ⟨(by simp (disch := omega) only [up2_ne, fil_ne]), (by simp (disch := omega) only [up2_ne, fil_ne]), (by simp (disch := omega) only [up2_ne, fil_ne]), (by simp (disch := omega) only [up2_ne, fil_ne])⟩ (fun i9 hi9 => ⟨(by simp (disch := omega) only [up2_ne, fil_ne]), (by simp (disch := omega) only [up2_ne, fil_ne]), (by simp (disch := omega) only [up2_ne, fil_ne])⟩) (hI.2.2.2.1), tape_c (by simp (disch := omega) only [up2_ne, up2_p, fil_ne, fil_p]) (by simp (disch := omega) only [up2_ne, up2_p, fil_ne, fil_p]) (by simp (disch := omega) only [up2_ne, fil_ne]) (by simp (disch := omega) only [up2_ne, fil_ne]) (hI.2.2.2.2.1), talk_c ⟨(by simp (disch := omega) only [up2_ne, fil_ne]), (by simp (disch := omega) only [up2_ne, fil_ne]), (by simp (disch := omega) only [up2_ne, fil_ne]), (by simp (disch := omega) only [up2_ne, fil_ne]), (by simp (disch := omega) only [up2_ne, fil_ne])⟩ ⟨(by simp (disch := omega) only [up2_ne, fil_ne]), (by simp (disch := omega) only [up2_ne, fil_ne]), (by simp (disch := omega) only [up2_ne, fil_ne])⟩ (fun j9 hj9 hk9 => (by simp (disch := omega) only [up2_ne, up2_p, fil_ne, fil_p])) (fun o9 => ⟨(by simp (disch := omega) only [up2_ne, fil_ne]), (by simp (disch := omega) only [up2_ne, fil_ne])⟩) rfl (hI.2.2.2.2.2.1), led_c (by simp (disch := omega) only [up2_ne, up2_p, fil_ne, fil_p]) (by simp (disch := omega) only [up2_ne, up2_p, fil_ne, fil_p]) (fun i9 hi9 => (by simp (disch := omega) only [up2_ne, fil_ne])) (fun c9 hc9 hd9 => (by simp (disch := omega) only [up2_ne, fil_ne])) ⟨(by simp (disch := omega) only [up2_ne, fil_ne]), (by simp (disch := omega) only [up2_ne, fil_ne])⟩ (hI.2.2.2.2.2.2.1), row_c (by simp (disch := omega) only [up2_ne, fil_ne]) (by simp (disch := omega) only [up2_ne, fil_ne]) (hI.2.2.2.2.2.2.2.1), ?_, grp_c (by simp (disch := omega) only [up2_ne, up2_p, fil_ne, fil_p]) (fun g9 hg9 => (by simp (disch := omega) only [up2_ne, fil_ne])) (fun i9 hi9 => ⟨(by simp (disch := omega) only [up2_ne, fil_ne]), (by simp (disch := omega) only [up2_ne, fil_ne])⟩) (hI.2.2.2.2.2.2.2.2.2)⟩
              intro z hz
              have hq := hI.2.2.2.2.2.2.2.2.1 z hz
              refine ⟨by simp (disch := omega) only [up2_ne]; exact hq.1, by simp (disch := omega) only [up2_ne]; exact hq.2.1, by simp (disch := omega) only [up2_ne]; exact hq.2.2.1, fun y hy => ?_⟩
              by_cases e : z = t ∧ y = j
              · obtain ⟨rfl, rfl⟩ := e
                simp (disch := omega) only [up2_ne, up2_at]
              · simp (disch := omega) only [up2_ne, up2_p]
                exact hq.2.2.2 y hy
            obtain ⟨u, hu, rfl⟩ := inR_of (n := 2) c2
            match u, hu with
            | 0, _ =>
              refine wp_iload_n (pc := 0) dX11_item_0 (by first | rfl | assumption | (repeat first | assumption | rfl | refine aG_n ?_ rfl rfl)) ?_
              refine wp_cS (pc := 1) dX11_item_1 lk_11_361 rfl rfl rfl (c_X11_isSheet (fun _ => aK_i ?_) (fun q => absurd c1 q))
              refine wp_if_eq (pc := 4) (tgt := 14) dX11_item_4 rfl (fun q => absurd q (by decide)) (fun _ => ?_)
              refine wp_iload_n (pc := 7) dX11_item_7 (by first | rfl | assumption | (repeat first | assumption | rfl | refine aG_n ?_ rfl rfl)) ?_
              refine wp_cS (pc := 8) dX11_item_8 lk_11_364 rfl rfl rfl (c_X11_isLane (fun _ => aK_i ?_) (fun q => absurd c2 q))
              refine wp_if_ne (pc := 11) (tgt := 16) dX11_item_11 rfl (fun _ => ?_) (fun q => absurd q (by decide))
              refine wp_aload_n (pc := 16) dX11_item_16 (by first | rfl | assumption | (repeat first | assumption | rfl | refine aG_n ?_ rfl rfl)) ?_
              refine wp_getR (pc := 17) dX11_item_17 fl_11_66 (by first | rfl | assumption | exact sh_house (by omega) | exact sh_wish (by omega) | exact sh_wor (by omega) | exact sh_bar (by omega) | exact sh_term (by omega) | exact sh_sheet (by omega) | exact sh_items (by omega) | exact sh_sums (by omega)) rfl ?_
              refine wp_iload_n (pc := 20) dX11_item_20 (by first | rfl | assumption | (repeat first | assumption | rfl | refine aG_n ?_ rfl rfl)) ?_
              refine wp_aald (pc := 21) dX11_item_21 (by first | rfl | assumption | exact sh_house (by omega) | exact sh_wish (by omega) | exact sh_wor (by omega) | exact sh_bar (by omega) | exact sh_term (by omega) | exact sh_sheet (by omega) | exact sh_items (by omega) | exact sh_sums (by omega)) (vp_in_nI (by omega) (by decide)) (by decide) (el_sheet (by omega)) ?_
              refine wp_iload_n (pc := 22) dX11_item_22 (by first | rfl | assumption | (repeat first | assumption | rfl | refine aG_n ?_ rfl rfl)) ?_
              refine wp_iload_n (pc := 23) dX11_item_23 (by first | rfl | assumption | (repeat first | assumption | rfl | refine aG_n ?_ rfl rfl)) ?_
              refine wp_iconst (pc := 24) (v := 1) dX11_item_24 (by decide) ?_
              refine wp_cV (pc := 25) dX11_item_25 lk_11_377 rfl (by decide) rfl (by first | rfl | assumption | exact sh_house (by omega) | exact sh_wish (by omega) | exact sh_wor (by omega) | exact sh_bar (by omega) | exact sh_term (by omega) | exact sh_sheet (by omega) | exact sh_items (by omega) | exact sh_sums (by omega)) rfl rfl (c_X6_refusal (by omega) (fun q => absurd (e1.symm.trans q) a1) (fun _ q => absurd (e1.trans a2) q) (fun _ _ q => absurd (by rw [← e2]; exact q) a3) (fun _ _ _ => aK_i ?_))
              refine wp_istore (pc := 28) dX11_item_28 (by decide) ?_
              refine wp_iload (pc := 30) dX11_item_30 (by first | rfl | assumption | (repeat first | assumption | rfl | refine aG_n ?_ rfl rfl)) ?_
              refine wp_if_ge (pc := 32) (tgt := 38) dX11_item_32 rfl (fun _ => ?_) (fun q => absurd (by decide) q)
              refine wp_aload_n (pc := 38) dX11_item_38 (by first | rfl | assumption | (repeat first | assumption | rfl | refine aG_n ?_ rfl rfl)) ?_
              refine wp_getR (pc := 39) dX11_item_39 fl_11_66 (by first | rfl | assumption | exact sh_house (by omega) | exact sh_wish (by omega) | exact sh_wor (by omega) | exact sh_bar (by omega) | exact sh_term (by omega) | exact sh_sheet (by omega) | exact sh_items (by omega) | exact sh_sums (by omega)) rfl ?_
              refine wp_iload_n (pc := 42) dX11_item_42 (by first | rfl | assumption | (repeat first | assumption | rfl | refine aG_n ?_ rfl rfl)) ?_
              refine wp_aald (pc := 43) dX11_item_43 (by first | rfl | assumption | exact sh_house (by omega) | exact sh_wish (by omega) | exact sh_wor (by omega) | exact sh_bar (by omega) | exact sh_term (by omega) | exact sh_sheet (by omega) | exact sh_items (by omega) | exact sh_sums (by omega)) (vp_in_nI (by omega) (by decide)) (by decide) (el_sheet (by omega)) ?_
              refine wp_iload_n (pc := 44) dX11_item_44 (by first | rfl | assumption | (repeat first | assumption | rfl | refine aG_n ?_ rfl rfl)) ?_
              refine wp_iload (pc := 45) dX11_item_45 (by first | rfl | assumption | (repeat first | assumption | rfl | refine aG_n ?_ rfl rfl)) ?_
              refine wp_cV (pc := 47) dX11_item_47 lk_11_380 rfl (by decide) rfl (by first | rfl | assumption | exact sh_house (by omega) | exact sh_wish (by omega) | exact sh_wor (by omega) | exact sh_bar (by omega) | exact sh_term (by omega) | exact sh_sheet (by omega) | exact sh_items (by omega) | exact sh_sums (by omega)) rfl rfl ?_
              refine wp_iload_n (pc := 0) dX6_put_0 (by first | rfl | assumption | (repeat first | assumption | rfl | refine aG_n ?_ rfl rfl)) ?_
              refine wp_if_lt (pc := 1) (tgt := 10) dX6_put_1 rfl (fun q => absurd q (nI_pos (by omega))) (fun _ => ?_)
              refine wp_iload_n (pc := 4) dX6_put_4 (by first | rfl | assumption | (repeat first | assumption | rfl | refine aG_n ?_ rfl rfl)) ?_
              refine wp_bipush (pc := 5) (v := 12) dX6_put_5 (by decide) ?_
              refine wp_icmp_lt (pc := 7) (tgt := 11) dX6_put_7 rfl (fun _ => ?_) (fun q => absurd (nI_lt (a := j) (b := 12) (by omega) (by omega)) q)
              refine wp_aload_n (pc := 11) dX6_put_11 (by first | rfl | assumption | (repeat first | assumption | rfl | refine aG_n ?_ rfl rfl)) ?_
              refine wp_getR (pc := 12) dX6_put_12 fl_6_11 (by first | rfl | assumption | exact sh_house (by omega) | exact sh_wish (by omega) | exact sh_wor (by omega) | exact sh_bar (by omega) | exact sh_term (by omega) | exact sh_sheet (by omega) | exact sh_items (by omega) | exact sh_sums (by omega)) rfl ?_
              refine wp_iload_n (pc := 15) dX6_put_15 (by first | rfl | assumption | (repeat first | assumption | rfl | refine aG_n ?_ rfl rfl)) ?_
              refine wp_aload_n (pc := 16) dX6_put_16 (by first | rfl | assumption | (repeat first | assumption | rfl | refine aG_n ?_ rfl rfl)) ?_
              refine wp_getI (pc := 17) dX6_put_17 fl_6_15 (by first | rfl | assumption | exact sh_house (by omega) | exact sh_wish (by omega) | exact sh_wor (by omega) | exact sh_bar (by omega) | exact sh_term (by omega) | exact sh_sheet (by omega) | exact sh_items (by omega) | exact sh_sums (by omega)) rfl ?_
              refine wp_if_ne (pc := 20) (tgt := 28) dX6_put_20 rfl (fun q => absurd (e1.trans a2) q) (fun _ => ?_)
              refine wp_iload_n (pc := 23) dX6_put_23 (by first | rfl | assumption | (repeat first | assumption | rfl | refine aG_n ?_ rfl rfl)) ?_
              refine wp_i2b (pc := 24) dX6_put_24 ?_
              refine wp_goto (pc := 25) (tgt := 42) dX6_put_25 rfl ?_
              refine wp_iast (pc := 42) dX6_put_42 (by first | rfl | assumption | exact sh_house (by omega) | exact sh_wish (by omega) | exact sh_wor (by omega) | exact sh_bar (by omega) | exact sh_term (by omega) | exact sh_sheet (by omega) | exact sh_items (by omega) | exact sh_sums (by omega)) (vp_in_nI (by omega) (by decide)) ?_
              refine wp_vretK (pc := 43) dX6_put_43 rfl ?_
              refine wp_iconst (pc := 50) (v := 1) dX11_item_50 (by decide) ?_
              refine wp_ireturn (pc := 51) dX11_item_51 rfl (by first | rfl | decide | assumption) ?_
              refine k _ _ (fun Q' k' => ?_)
              simp (disch := omega) only [nI_clamp]
              have b1 : up2 μ.1 (79 + 2 * t) j (v.toInt8.toInt32) 124 = μ.1 124 := up2_ne (by omega)
              have b2 : up2 μ.1 (79 + 2 * t) j (v.toInt8.toInt32) 125 = μ.1 125 := up2_ne (by omega)
              refine wp_iload_n (pc := 0) dX12_item_0 (by first | rfl | assumption | (repeat first | assumption | rfl | refine aG_n ?_ rfl rfl)) ?_
              refine wp_iload_n (pc := 1) dX12_item_1 (by first | rfl | assumption | (repeat first | assumption | rfl | refine aG_n ?_ rfl rfl)) ?_
              refine wp_cS (pc := 2) dX12_item_2 lk_12_361 rfl rfl rfl (c_X12_isSheet (fun _ => aK_i ?_) (fun q => absurd ⟨c1, c2⟩ q))
              refine wp_if_ne (pc := 5) (tgt := 10) dX12_item_5 rfl (fun _ => ?_) (fun q => absurd q (by decide))
              refine wp_aload_n (pc := 10) dX12_item_10 (by first | rfl | assumption | (repeat first | assumption | rfl | refine aG_n ?_ rfl rfl)) ?_
              refine wp_iload_n (pc := 11) dX12_item_11 (by first | rfl | assumption | (repeat first | assumption | rfl | refine aG_n ?_ rfl rfl)) ?_
              refine wp_iload_n (pc := 12) dX12_item_12 (by first | rfl | assumption | (repeat first | assumption | rfl | refine aG_n ?_ rfl rfl)) ?_
              refine wp_iload_n (pc := 13) dX12_item_13 (by first | rfl | assumption | (repeat first | assumption | rfl | refine aG_n ?_ rfl rfl)) ?_
              refine wp_iconst (pc := 14) (v := 1) dX12_item_14 (by decide) ?_
              refine wp_cV (pc := 15) dX12_item_15 lk_12_364 rfl (by decide) rfl (by first | rfl | assumption | exact sh_house (by omega) | exact sh_wish (by omega) | exact sh_wor (by omega) | exact sh_bar (by omega) | exact sh_term (by omega) | exact sh_sheet (by omega) | exact sh_items (by omega) | exact sh_sums (by omega)) rfl rfl (c_X12_against (by omega) c2 (by simp only [b1]; exact hh.2.1) (fun q => absurd (by simpa only [b1] using q) a1) (fun _ q => absurd (by simpa only [b1] using a2) q) (fun _ _ q => absurd (by simpa only [b2] using q) a3) (fun _ _ _ => aK_i ?_))
              refine wp_istore (pc := 18) dX12_item_18 (by decide) ?_
              refine wp_iload (pc := 20) dX12_item_20 (by first | rfl | assumption | (repeat first | assumption | rfl | refine aG_n ?_ rfl rfl)) ?_
              refine wp_if_ge (pc := 22) (tgt := 28) dX12_item_22 rfl (fun _ => ?_) (fun q => absurd (by decide) q)
              refine wp_aload_n (pc := 28) dX12_item_28 (by first | rfl | assumption | (repeat first | assumption | rfl | refine aG_n ?_ rfl rfl)) ?_
              refine wp_getR (pc := 29) dX12_item_29 fl_12_128 (by first | rfl | assumption | exact sh_house (by omega) | exact sh_wish (by omega) | exact sh_wor (by omega) | exact sh_bar (by omega) | exact sh_term (by omega) | exact sh_sheet (by omega) | exact sh_items (by omega) | exact sh_sums (by omega)) rfl ?_
              refine wp_bipush (pc := 32) (v := 12) dX12_item_32 (by decide) ?_
              refine wp_iload_n (pc := 34) dX12_item_34 (by first | rfl | assumption | (repeat first | assumption | rfl | refine aG_n ?_ rfl rfl)) ?_
              refine wp_imul (pc := 35) dX12_item_35 ?_
              refine wp_iload_n (pc := 36) dX12_item_36 (by first | rfl | assumption | (repeat first | assumption | rfl | refine aG_n ?_ rfl rfl)) ?_
              refine wp_iadd (pc := 37) dX12_item_37 ?_
              refine wp_iload_n (pc := 38) dX12_item_38 (by first | rfl | assumption | (repeat first | assumption | rfl | refine aG_n ?_ rfl rfl)) ?_
              refine wp_if_ne (pc := 39) (tgt := 53) dX12_item_39 rfl (fun q => absurd q (by decide)) (fun _ => ?_)
              refine wp_iload (pc := 42) dX12_item_42 (by first | rfl | assumption | (repeat first | assumption | rfl | refine aG_n ?_ rfl rfl)) ?_
              refine wp_bipush (pc := 44) (v := 24) dX12_item_44 (by decide) ?_
              refine wp_ishl (pc := 46) dX12_item_46 ?_
              refine wp_bipush (pc := 47) (v := 24) dX12_item_47 (by decide) ?_
              refine wp_ishr (pc := 49) dX12_item_49 ?_
              refine wp_goto (pc := 50) (tgt := 71) dX12_item_50 rfl ?_
              refine wp_iast (pc := 71) dX12_item_71 (by first | rfl | assumption | exact sh_house (by omega) | exact sh_wish (by omega) | exact sh_wor (by omega) | exact sh_bar (by omega) | exact sh_term (by omega) | exact sh_sheet (by omega) | exact sh_items (by omega) | exact sh_sums (by omega)) (by rw [n12t]; exact vp_in_nI (by omega) (by decide)) ?_
              refine wp_iconst (pc := 72) (v := 1) dX12_item_72 (by decide) ?_
              refine wp_ireturn (pc := 73) dX12_item_73 rfl (by first | rfl | decide | assumption) ?_
              refine k' _ ?_
              rw [eS μ.1]
              rw [sh24]
              exact fin _
            | 1, _ =>
              refine wp_iload_n (pc := 0) dX11_item_0 (by first | rfl | assumption | (repeat first | assumption | rfl | refine aG_n ?_ rfl rfl)) ?_
              refine wp_cS (pc := 1) dX11_item_1 lk_11_361 rfl rfl rfl (c_X11_isSheet (fun _ => aK_i ?_) (fun q => absurd c1 q))
              refine wp_if_eq (pc := 4) (tgt := 14) dX11_item_4 rfl (fun q => absurd q (by decide)) (fun _ => ?_)
              refine wp_iload_n (pc := 7) dX11_item_7 (by first | rfl | assumption | (repeat first | assumption | rfl | refine aG_n ?_ rfl rfl)) ?_
              refine wp_cS (pc := 8) dX11_item_8 lk_11_364 rfl rfl rfl (c_X11_isLane (fun _ => aK_i ?_) (fun q => absurd c2 q))
              refine wp_if_ne (pc := 11) (tgt := 16) dX11_item_11 rfl (fun _ => ?_) (fun q => absurd q (by decide))
              refine wp_aload_n (pc := 16) dX11_item_16 (by first | rfl | assumption | (repeat first | assumption | rfl | refine aG_n ?_ rfl rfl)) ?_
              refine wp_getR (pc := 17) dX11_item_17 fl_11_66 (by first | rfl | assumption | exact sh_house (by omega) | exact sh_wish (by omega) | exact sh_wor (by omega) | exact sh_bar (by omega) | exact sh_term (by omega) | exact sh_sheet (by omega) | exact sh_items (by omega) | exact sh_sums (by omega)) rfl ?_
              refine wp_iload_n (pc := 20) dX11_item_20 (by first | rfl | assumption | (repeat first | assumption | rfl | refine aG_n ?_ rfl rfl)) ?_
              refine wp_aald (pc := 21) dX11_item_21 (by first | rfl | assumption | exact sh_house (by omega) | exact sh_wish (by omega) | exact sh_wor (by omega) | exact sh_bar (by omega) | exact sh_term (by omega) | exact sh_sheet (by omega) | exact sh_items (by omega) | exact sh_sums (by omega)) (vp_in_nI (by omega) (by decide)) (by decide) (el_sheet (by omega)) ?_
              refine wp_iload_n (pc := 22) dX11_item_22 (by first | rfl | assumption | (repeat first | assumption | rfl | refine aG_n ?_ rfl rfl)) ?_
              refine wp_iload_n (pc := 23) dX11_item_23 (by first | rfl | assumption | (repeat first | assumption | rfl | refine aG_n ?_ rfl rfl)) ?_
              refine wp_iconst (pc := 24) (v := 1) dX11_item_24 (by decide) ?_
              refine wp_cV (pc := 25) dX11_item_25 lk_11_377 rfl (by decide) rfl (by first | rfl | assumption | exact sh_house (by omega) | exact sh_wish (by omega) | exact sh_wor (by omega) | exact sh_bar (by omega) | exact sh_term (by omega) | exact sh_sheet (by omega) | exact sh_items (by omega) | exact sh_sums (by omega)) rfl rfl (c_X6_refusal (by omega) (fun q => absurd (e1.symm.trans q) a1) (fun _ q => absurd (e1.trans a2) q) (fun _ _ q => absurd (by rw [← e2]; exact q) a3) (fun _ _ _ => aK_i ?_))
              refine wp_istore (pc := 28) dX11_item_28 (by decide) ?_
              refine wp_iload (pc := 30) dX11_item_30 (by first | rfl | assumption | (repeat first | assumption | rfl | refine aG_n ?_ rfl rfl)) ?_
              refine wp_if_ge (pc := 32) (tgt := 38) dX11_item_32 rfl (fun _ => ?_) (fun q => absurd (by decide) q)
              refine wp_aload_n (pc := 38) dX11_item_38 (by first | rfl | assumption | (repeat first | assumption | rfl | refine aG_n ?_ rfl rfl)) ?_
              refine wp_getR (pc := 39) dX11_item_39 fl_11_66 (by first | rfl | assumption | exact sh_house (by omega) | exact sh_wish (by omega) | exact sh_wor (by omega) | exact sh_bar (by omega) | exact sh_term (by omega) | exact sh_sheet (by omega) | exact sh_items (by omega) | exact sh_sums (by omega)) rfl ?_
              refine wp_iload_n (pc := 42) dX11_item_42 (by first | rfl | assumption | (repeat first | assumption | rfl | refine aG_n ?_ rfl rfl)) ?_
              refine wp_aald (pc := 43) dX11_item_43 (by first | rfl | assumption | exact sh_house (by omega) | exact sh_wish (by omega) | exact sh_wor (by omega) | exact sh_bar (by omega) | exact sh_term (by omega) | exact sh_sheet (by omega) | exact sh_items (by omega) | exact sh_sums (by omega)) (vp_in_nI (by omega) (by decide)) (by decide) (el_sheet (by omega)) ?_
              refine wp_iload_n (pc := 44) dX11_item_44 (by first | rfl | assumption | (repeat first | assumption | rfl | refine aG_n ?_ rfl rfl)) ?_
              refine wp_iload (pc := 45) dX11_item_45 (by first | rfl | assumption | (repeat first | assumption | rfl | refine aG_n ?_ rfl rfl)) ?_
              refine wp_cV (pc := 47) dX11_item_47 lk_11_380 rfl (by decide) rfl (by first | rfl | assumption | exact sh_house (by omega) | exact sh_wish (by omega) | exact sh_wor (by omega) | exact sh_bar (by omega) | exact sh_term (by omega) | exact sh_sheet (by omega) | exact sh_items (by omega) | exact sh_sums (by omega)) rfl rfl ?_
              refine wp_iload_n (pc := 0) dX6_put_0 (by first | rfl | assumption | (repeat first | assumption | rfl | refine aG_n ?_ rfl rfl)) ?_
              refine wp_if_lt (pc := 1) (tgt := 10) dX6_put_1 rfl (fun q => absurd q (nI_pos (by omega))) (fun _ => ?_)
              refine wp_iload_n (pc := 4) dX6_put_4 (by first | rfl | assumption | (repeat first | assumption | rfl | refine aG_n ?_ rfl rfl)) ?_
              refine wp_bipush (pc := 5) (v := 12) dX6_put_5 (by decide) ?_
              refine wp_icmp_lt (pc := 7) (tgt := 11) dX6_put_7 rfl (fun _ => ?_) (fun q => absurd (nI_lt (a := j) (b := 12) (by omega) (by omega)) q)
              refine wp_aload_n (pc := 11) dX6_put_11 (by first | rfl | assumption | (repeat first | assumption | rfl | refine aG_n ?_ rfl rfl)) ?_
              refine wp_getR (pc := 12) dX6_put_12 fl_6_11 (by first | rfl | assumption | exact sh_house (by omega) | exact sh_wish (by omega) | exact sh_wor (by omega) | exact sh_bar (by omega) | exact sh_term (by omega) | exact sh_sheet (by omega) | exact sh_items (by omega) | exact sh_sums (by omega)) rfl ?_
              refine wp_iload_n (pc := 15) dX6_put_15 (by first | rfl | assumption | (repeat first | assumption | rfl | refine aG_n ?_ rfl rfl)) ?_
              refine wp_aload_n (pc := 16) dX6_put_16 (by first | rfl | assumption | (repeat first | assumption | rfl | refine aG_n ?_ rfl rfl)) ?_
              refine wp_getI (pc := 17) dX6_put_17 fl_6_15 (by first | rfl | assumption | exact sh_house (by omega) | exact sh_wish (by omega) | exact sh_wor (by omega) | exact sh_bar (by omega) | exact sh_term (by omega) | exact sh_sheet (by omega) | exact sh_items (by omega) | exact sh_sums (by omega)) rfl ?_
              refine wp_if_ne (pc := 20) (tgt := 28) dX6_put_20 rfl (fun _ => ?_) (fun q => absurd q (by rw [e1, a2]; decide))
              refine wp_aload_n (pc := 28) dX6_put_28 (by first | rfl | assumption | (repeat first | assumption | rfl | refine aG_n ?_ rfl rfl)) ?_
              refine wp_getI (pc := 29) dX6_put_29 fl_6_15 (by first | rfl | assumption | exact sh_house (by omega) | exact sh_wish (by omega) | exact sh_wor (by omega) | exact sh_bar (by omega) | exact sh_term (by omega) | exact sh_sheet (by omega) | exact sh_items (by omega) | exact sh_sums (by omega)) rfl ?_
              refine wp_iconst (pc := 32) (v := 1) dX6_put_32 (by decide) ?_
              refine wp_icmp_ne (pc := 33) (tgt := 41) dX6_put_33 rfl (fun q => absurd (e1.trans a2) q) (fun _ => ?_)
              refine wp_iload_n (pc := 36) dX6_put_36 (by first | rfl | assumption | (repeat first | assumption | rfl | refine aG_n ?_ rfl rfl)) ?_
              refine wp_i2s (pc := 37) dX6_put_37 ?_
              refine wp_goto (pc := 38) (tgt := 42) dX6_put_38 rfl ?_
              refine wp_iast (pc := 42) dX6_put_42 (by first | rfl | assumption | exact sh_house (by omega) | exact sh_wish (by omega) | exact sh_wor (by omega) | exact sh_bar (by omega) | exact sh_term (by omega) | exact sh_sheet (by omega) | exact sh_items (by omega) | exact sh_sums (by omega)) (vp_in_nI (by omega) (by decide)) ?_
              refine wp_vretK (pc := 43) dX6_put_43 rfl ?_
              refine wp_iconst (pc := 50) (v := 1) dX11_item_50 (by decide) ?_
              refine wp_ireturn (pc := 51) dX11_item_51 rfl (by first | rfl | decide | assumption) ?_
              refine k _ _ (fun Q' k' => ?_)
              simp (disch := omega) only [nI_clamp]
              have b1 : up2 μ.1 (79 + 2 * t) j (v.toInt16.toInt32) 124 = μ.1 124 := up2_ne (by omega)
              have b2 : up2 μ.1 (79 + 2 * t) j (v.toInt16.toInt32) 125 = μ.1 125 := up2_ne (by omega)
              refine wp_iload_n (pc := 0) dX12_item_0 (by first | rfl | assumption | (repeat first | assumption | rfl | refine aG_n ?_ rfl rfl)) ?_
              refine wp_iload_n (pc := 1) dX12_item_1 (by first | rfl | assumption | (repeat first | assumption | rfl | refine aG_n ?_ rfl rfl)) ?_
              refine wp_cS (pc := 2) dX12_item_2 lk_12_361 rfl rfl rfl (c_X12_isSheet (fun _ => aK_i ?_) (fun q => absurd ⟨c1, c2⟩ q))
              refine wp_if_ne (pc := 5) (tgt := 10) dX12_item_5 rfl (fun _ => ?_) (fun q => absurd q (by decide))
              refine wp_aload_n (pc := 10) dX12_item_10 (by first | rfl | assumption | (repeat first | assumption | rfl | refine aG_n ?_ rfl rfl)) ?_
              refine wp_iload_n (pc := 11) dX12_item_11 (by first | rfl | assumption | (repeat first | assumption | rfl | refine aG_n ?_ rfl rfl)) ?_
              refine wp_iload_n (pc := 12) dX12_item_12 (by first | rfl | assumption | (repeat first | assumption | rfl | refine aG_n ?_ rfl rfl)) ?_
              refine wp_iload_n (pc := 13) dX12_item_13 (by first | rfl | assumption | (repeat first | assumption | rfl | refine aG_n ?_ rfl rfl)) ?_
              refine wp_iconst (pc := 14) (v := 1) dX12_item_14 (by decide) ?_
              refine wp_cV (pc := 15) dX12_item_15 lk_12_364 rfl (by decide) rfl (by first | rfl | assumption | exact sh_house (by omega) | exact sh_wish (by omega) | exact sh_wor (by omega) | exact sh_bar (by omega) | exact sh_term (by omega) | exact sh_sheet (by omega) | exact sh_items (by omega) | exact sh_sums (by omega)) rfl rfl (c_X12_against (by omega) c2 (by simp only [b1]; exact hh.2.1) (fun q => absurd (by simpa only [b1] using q) a1) (fun _ q => absurd (by simpa only [b1] using a2) q) (fun _ _ q => absurd (by simpa only [b2] using q) a3) (fun _ _ _ => aK_i ?_))
              refine wp_istore (pc := 18) dX12_item_18 (by decide) ?_
              refine wp_iload (pc := 20) dX12_item_20 (by first | rfl | assumption | (repeat first | assumption | rfl | refine aG_n ?_ rfl rfl)) ?_
              refine wp_if_ge (pc := 22) (tgt := 28) dX12_item_22 rfl (fun _ => ?_) (fun q => absurd (by decide) q)
              refine wp_aload_n (pc := 28) dX12_item_28 (by first | rfl | assumption | (repeat first | assumption | rfl | refine aG_n ?_ rfl rfl)) ?_
              refine wp_getR (pc := 29) dX12_item_29 fl_12_128 (by first | rfl | assumption | exact sh_house (by omega) | exact sh_wish (by omega) | exact sh_wor (by omega) | exact sh_bar (by omega) | exact sh_term (by omega) | exact sh_sheet (by omega) | exact sh_items (by omega) | exact sh_sums (by omega)) rfl ?_
              refine wp_bipush (pc := 32) (v := 12) dX12_item_32 (by decide) ?_
              refine wp_iload_n (pc := 34) dX12_item_34 (by first | rfl | assumption | (repeat first | assumption | rfl | refine aG_n ?_ rfl rfl)) ?_
              refine wp_imul (pc := 35) dX12_item_35 ?_
              refine wp_iload_n (pc := 36) dX12_item_36 (by first | rfl | assumption | (repeat first | assumption | rfl | refine aG_n ?_ rfl rfl)) ?_
              refine wp_iadd (pc := 37) dX12_item_37 ?_
              refine wp_iload_n (pc := 38) dX12_item_38 (by first | rfl | assumption | (repeat first | assumption | rfl | refine aG_n ?_ rfl rfl)) ?_
              refine wp_if_ne (pc := 39) (tgt := 53) dX12_item_39 rfl (fun _ => ?_) (fun q => absurd q (by decide))
              refine wp_iload_n (pc := 53) dX12_item_53 (by first | rfl | assumption | (repeat first | assumption | rfl | refine aG_n ?_ rfl rfl)) ?_
              refine wp_iconst (pc := 54) (v := 1) dX12_item_54 (by decide) ?_
              refine wp_icmp_ne (pc := 55) (tgt := 69) dX12_item_55 rfl (fun q => absurd q (by decide)) (fun _ => ?_)
              refine wp_iload (pc := 58) dX12_item_58 (by first | rfl | assumption | (repeat first | assumption | rfl | refine aG_n ?_ rfl rfl)) ?_
              refine wp_bipush (pc := 60) (v := 16) dX12_item_60 (by decide) ?_
              refine wp_ishl (pc := 62) dX12_item_62 ?_
              refine wp_bipush (pc := 63) (v := 16) dX12_item_63 (by decide) ?_
              refine wp_ishr (pc := 65) dX12_item_65 ?_
              refine wp_goto (pc := 66) (tgt := 71) dX12_item_66 rfl ?_
              refine wp_iast (pc := 71) dX12_item_71 (by first | rfl | assumption | exact sh_house (by omega) | exact sh_wish (by omega) | exact sh_wor (by omega) | exact sh_bar (by omega) | exact sh_term (by omega) | exact sh_sheet (by omega) | exact sh_items (by omega) | exact sh_sums (by omega)) (by rw [n12t]; exact vp_in_nI (by omega) (by decide)) ?_
              refine wp_iconst (pc := 72) (v := 1) dX12_item_72 (by decide) ?_
              refine wp_ireturn (pc := 73) dX12_item_73 rfl (by first | rfl | decide | assumption) ?_
              refine k' _ ?_
              rw [eS μ.1]
              rw [sh16]
              exact fin _
            | 2, _ =>
              refine wp_iload_n (pc := 0) dX11_item_0 (by first | rfl | assumption | (repeat first | assumption | rfl | refine aG_n ?_ rfl rfl)) ?_
              refine wp_cS (pc := 1) dX11_item_1 lk_11_361 rfl rfl rfl (c_X11_isSheet (fun _ => aK_i ?_) (fun q => absurd c1 q))
              refine wp_if_eq (pc := 4) (tgt := 14) dX11_item_4 rfl (fun q => absurd q (by decide)) (fun _ => ?_)
              refine wp_iload_n (pc := 7) dX11_item_7 (by first | rfl | assumption | (repeat first | assumption | rfl | refine aG_n ?_ rfl rfl)) ?_
              refine wp_cS (pc := 8) dX11_item_8 lk_11_364 rfl rfl rfl (c_X11_isLane (fun _ => aK_i ?_) (fun q => absurd c2 q))
              refine wp_if_ne (pc := 11) (tgt := 16) dX11_item_11 rfl (fun _ => ?_) (fun q => absurd q (by decide))
              refine wp_aload_n (pc := 16) dX11_item_16 (by first | rfl | assumption | (repeat first | assumption | rfl | refine aG_n ?_ rfl rfl)) ?_
              refine wp_getR (pc := 17) dX11_item_17 fl_11_66 (by first | rfl | assumption | exact sh_house (by omega) | exact sh_wish (by omega) | exact sh_wor (by omega) | exact sh_bar (by omega) | exact sh_term (by omega) | exact sh_sheet (by omega) | exact sh_items (by omega) | exact sh_sums (by omega)) rfl ?_
              refine wp_iload_n (pc := 20) dX11_item_20 (by first | rfl | assumption | (repeat first | assumption | rfl | refine aG_n ?_ rfl rfl)) ?_
              refine wp_aald (pc := 21) dX11_item_21 (by first | rfl | assumption | exact sh_house (by omega) | exact sh_wish (by omega) | exact sh_wor (by omega) | exact sh_bar (by omega) | exact sh_term (by omega) | exact sh_sheet (by omega) | exact sh_items (by omega) | exact sh_sums (by omega)) (vp_in_nI (by omega) (by decide)) (by decide) (el_sheet (by omega)) ?_
              refine wp_iload_n (pc := 22) dX11_item_22 (by first | rfl | assumption | (repeat first | assumption | rfl | refine aG_n ?_ rfl rfl)) ?_
              refine wp_iload_n (pc := 23) dX11_item_23 (by first | rfl | assumption | (repeat first | assumption | rfl | refine aG_n ?_ rfl rfl)) ?_
              refine wp_iconst (pc := 24) (v := 1) dX11_item_24 (by decide) ?_
              refine wp_cV (pc := 25) dX11_item_25 lk_11_377 rfl (by decide) rfl (by first | rfl | assumption | exact sh_house (by omega) | exact sh_wish (by omega) | exact sh_wor (by omega) | exact sh_bar (by omega) | exact sh_term (by omega) | exact sh_sheet (by omega) | exact sh_items (by omega) | exact sh_sums (by omega)) rfl rfl (c_X6_refusal (by omega) (fun q => absurd (e1.symm.trans q) a1) (fun _ q => absurd (e1.trans a2) q) (fun _ _ q => absurd (by rw [← e2]; exact q) a3) (fun _ _ _ => aK_i ?_))
              refine wp_istore (pc := 28) dX11_item_28 (by decide) ?_
              refine wp_iload (pc := 30) dX11_item_30 (by first | rfl | assumption | (repeat first | assumption | rfl | refine aG_n ?_ rfl rfl)) ?_
              refine wp_if_ge (pc := 32) (tgt := 38) dX11_item_32 rfl (fun _ => ?_) (fun q => absurd (by decide) q)
              refine wp_aload_n (pc := 38) dX11_item_38 (by first | rfl | assumption | (repeat first | assumption | rfl | refine aG_n ?_ rfl rfl)) ?_
              refine wp_getR (pc := 39) dX11_item_39 fl_11_66 (by first | rfl | assumption | exact sh_house (by omega) | exact sh_wish (by omega) | exact sh_wor (by omega) | exact sh_bar (by omega) | exact sh_term (by omega) | exact sh_sheet (by omega) | exact sh_items (by omega) | exact sh_sums (by omega)) rfl ?_
              refine wp_iload_n (pc := 42) dX11_item_42 (by first | rfl | assumption | (repeat first | assumption | rfl | refine aG_n ?_ rfl rfl)) ?_
              refine wp_aald (pc := 43) dX11_item_43 (by first | rfl | assumption | exact sh_house (by omega) | exact sh_wish (by omega) | exact sh_wor (by omega) | exact sh_bar (by omega) | exact sh_term (by omega) | exact sh_sheet (by omega) | exact sh_items (by omega) | exact sh_sums (by omega)) (vp_in_nI (by omega) (by decide)) (by decide) (el_sheet (by omega)) ?_
              refine wp_iload_n (pc := 44) dX11_item_44 (by first | rfl | assumption | (repeat first | assumption | rfl | refine aG_n ?_ rfl rfl)) ?_
              refine wp_iload (pc := 45) dX11_item_45 (by first | rfl | assumption | (repeat first | assumption | rfl | refine aG_n ?_ rfl rfl)) ?_
              refine wp_cV (pc := 47) dX11_item_47 lk_11_380 rfl (by decide) rfl (by first | rfl | assumption | exact sh_house (by omega) | exact sh_wish (by omega) | exact sh_wor (by omega) | exact sh_bar (by omega) | exact sh_term (by omega) | exact sh_sheet (by omega) | exact sh_items (by omega) | exact sh_sums (by omega)) rfl rfl ?_
              refine wp_iload_n (pc := 0) dX6_put_0 (by first | rfl | assumption | (repeat first | assumption | rfl | refine aG_n ?_ rfl rfl)) ?_
              refine wp_if_lt (pc := 1) (tgt := 10) dX6_put_1 rfl (fun q => absurd q (nI_pos (by omega))) (fun _ => ?_)
              refine wp_iload_n (pc := 4) dX6_put_4 (by first | rfl | assumption | (repeat first | assumption | rfl | refine aG_n ?_ rfl rfl)) ?_
              refine wp_bipush (pc := 5) (v := 12) dX6_put_5 (by decide) ?_
              refine wp_icmp_lt (pc := 7) (tgt := 11) dX6_put_7 rfl (fun _ => ?_) (fun q => absurd (nI_lt (a := j) (b := 12) (by omega) (by omega)) q)
              refine wp_aload_n (pc := 11) dX6_put_11 (by first | rfl | assumption | (repeat first | assumption | rfl | refine aG_n ?_ rfl rfl)) ?_
              refine wp_getR (pc := 12) dX6_put_12 fl_6_11 (by first | rfl | assumption | exact sh_house (by omega) | exact sh_wish (by omega) | exact sh_wor (by omega) | exact sh_bar (by omega) | exact sh_term (by omega) | exact sh_sheet (by omega) | exact sh_items (by omega) | exact sh_sums (by omega)) rfl ?_
              refine wp_iload_n (pc := 15) dX6_put_15 (by first | rfl | assumption | (repeat first | assumption | rfl | refine aG_n ?_ rfl rfl)) ?_
              refine wp_aload_n (pc := 16) dX6_put_16 (by first | rfl | assumption | (repeat first | assumption | rfl | refine aG_n ?_ rfl rfl)) ?_
              refine wp_getI (pc := 17) dX6_put_17 fl_6_15 (by first | rfl | assumption | exact sh_house (by omega) | exact sh_wish (by omega) | exact sh_wor (by omega) | exact sh_bar (by omega) | exact sh_term (by omega) | exact sh_sheet (by omega) | exact sh_items (by omega) | exact sh_sums (by omega)) rfl ?_
              refine wp_if_ne (pc := 20) (tgt := 28) dX6_put_20 rfl (fun _ => ?_) (fun q => absurd q (by rw [e1, a2]; decide))
              refine wp_aload_n (pc := 28) dX6_put_28 (by first | rfl | assumption | (repeat first | assumption | rfl | refine aG_n ?_ rfl rfl)) ?_
              refine wp_getI (pc := 29) dX6_put_29 fl_6_15 (by first | rfl | assumption | exact sh_house (by omega) | exact sh_wish (by omega) | exact sh_wor (by omega) | exact sh_bar (by omega) | exact sh_term (by omega) | exact sh_sheet (by omega) | exact sh_items (by omega) | exact sh_sums (by omega)) rfl ?_
              refine wp_iconst (pc := 32) (v := 1) dX6_put_32 (by decide) ?_
              refine wp_icmp_ne (pc := 33) (tgt := 41) dX6_put_33 rfl (fun _ => ?_) (fun q => absurd q (by rw [e1, a2]; decide))
              refine wp_iload_n (pc := 41) dX6_put_41 (by first | rfl | assumption | (repeat first | assumption | rfl | refine aG_n ?_ rfl rfl)) ?_
              refine wp_iast (pc := 42) dX6_put_42 (by first | rfl | assumption | exact sh_house (by omega) | exact sh_wish (by omega) | exact sh_wor (by omega) | exact sh_bar (by omega) | exact sh_term (by omega) | exact sh_sheet (by omega) | exact sh_items (by omega) | exact sh_sums (by omega)) (vp_in_nI (by omega) (by decide)) ?_
              refine wp_vretK (pc := 43) dX6_put_43 rfl ?_
              refine wp_iconst (pc := 50) (v := 1) dX11_item_50 (by decide) ?_
              refine wp_ireturn (pc := 51) dX11_item_51 rfl (by first | rfl | decide | assumption) ?_
              refine k _ _ (fun Q' k' => ?_)
              simp (disch := omega) only [nI_clamp]
              have b1 : up2 μ.1 (79 + 2 * t) j (v) 124 = μ.1 124 := up2_ne (by omega)
              have b2 : up2 μ.1 (79 + 2 * t) j (v) 125 = μ.1 125 := up2_ne (by omega)
              refine wp_iload_n (pc := 0) dX12_item_0 (by first | rfl | assumption | (repeat first | assumption | rfl | refine aG_n ?_ rfl rfl)) ?_
              refine wp_iload_n (pc := 1) dX12_item_1 (by first | rfl | assumption | (repeat first | assumption | rfl | refine aG_n ?_ rfl rfl)) ?_
              refine wp_cS (pc := 2) dX12_item_2 lk_12_361 rfl rfl rfl (c_X12_isSheet (fun _ => aK_i ?_) (fun q => absurd ⟨c1, c2⟩ q))
              refine wp_if_ne (pc := 5) (tgt := 10) dX12_item_5 rfl (fun _ => ?_) (fun q => absurd q (by decide))
              refine wp_aload_n (pc := 10) dX12_item_10 (by first | rfl | assumption | (repeat first | assumption | rfl | refine aG_n ?_ rfl rfl)) ?_
              refine wp_iload_n (pc := 11) dX12_item_11 (by first | rfl | assumption | (repeat first | assumption | rfl | refine aG_n ?_ rfl rfl)) ?_
              refine wp_iload_n (pc := 12) dX12_item_12 (by first | rfl | assumption | (repeat first | assumption | rfl | refine aG_n ?_ rfl rfl)) ?_
              refine wp_iload_n (pc := 13) dX12_item_13 (by first | rfl | assumption | (repeat first | assumption | rfl | refine aG_n ?_ rfl rfl)) ?_
              refine wp_iconst (pc := 14) (v := 1) dX12_item_14 (by decide) ?_
              refine wp_cV (pc := 15) dX12_item_15 lk_12_364 rfl (by decide) rfl (by first | rfl | assumption | exact sh_house (by omega) | exact sh_wish (by omega) | exact sh_wor (by omega) | exact sh_bar (by omega) | exact sh_term (by omega) | exact sh_sheet (by omega) | exact sh_items (by omega) | exact sh_sums (by omega)) rfl rfl (c_X12_against (by omega) c2 (by simp only [b1]; exact hh.2.1) (fun q => absurd (by simpa only [b1] using q) a1) (fun _ q => absurd (by simpa only [b1] using a2) q) (fun _ _ q => absurd (by simpa only [b2] using q) a3) (fun _ _ _ => aK_i ?_))
              refine wp_istore (pc := 18) dX12_item_18 (by decide) ?_
              refine wp_iload (pc := 20) dX12_item_20 (by first | rfl | assumption | (repeat first | assumption | rfl | refine aG_n ?_ rfl rfl)) ?_
              refine wp_if_ge (pc := 22) (tgt := 28) dX12_item_22 rfl (fun _ => ?_) (fun q => absurd (by decide) q)
              refine wp_aload_n (pc := 28) dX12_item_28 (by first | rfl | assumption | (repeat first | assumption | rfl | refine aG_n ?_ rfl rfl)) ?_
              refine wp_getR (pc := 29) dX12_item_29 fl_12_128 (by first | rfl | assumption | exact sh_house (by omega) | exact sh_wish (by omega) | exact sh_wor (by omega) | exact sh_bar (by omega) | exact sh_term (by omega) | exact sh_sheet (by omega) | exact sh_items (by omega) | exact sh_sums (by omega)) rfl ?_
              refine wp_bipush (pc := 32) (v := 12) dX12_item_32 (by decide) ?_
              refine wp_iload_n (pc := 34) dX12_item_34 (by first | rfl | assumption | (repeat first | assumption | rfl | refine aG_n ?_ rfl rfl)) ?_
              refine wp_imul (pc := 35) dX12_item_35 ?_
              refine wp_iload_n (pc := 36) dX12_item_36 (by first | rfl | assumption | (repeat first | assumption | rfl | refine aG_n ?_ rfl rfl)) ?_
              refine wp_iadd (pc := 37) dX12_item_37 ?_
              refine wp_iload_n (pc := 38) dX12_item_38 (by first | rfl | assumption | (repeat first | assumption | rfl | refine aG_n ?_ rfl rfl)) ?_
              refine wp_if_ne (pc := 39) (tgt := 53) dX12_item_39 rfl (fun _ => ?_) (fun q => absurd q (by decide))
              refine wp_iload_n (pc := 53) dX12_item_53 (by first | rfl | assumption | (repeat first | assumption | rfl | refine aG_n ?_ rfl rfl)) ?_
              refine wp_iconst (pc := 54) (v := 1) dX12_item_54 (by decide) ?_
              refine wp_icmp_ne (pc := 55) (tgt := 69) dX12_item_55 rfl (fun _ => ?_) (fun q => absurd q (by decide))
              refine wp_iload (pc := 69) dX12_item_69 (by first | rfl | assumption | (repeat first | assumption | rfl | refine aG_n ?_ rfl rfl)) ?_
              refine wp_iast (pc := 71) dX12_item_71 (by first | rfl | assumption | exact sh_house (by omega) | exact sh_wish (by omega) | exact sh_wor (by omega) | exact sh_bar (by omega) | exact sh_term (by omega) | exact sh_sheet (by omega) | exact sh_items (by omega) | exact sh_sums (by omega)) (by rw [n12t]; exact vp_in_nI (by omega) (by decide)) ?_
              refine wp_iconst (pc := 72) (v := 1) dX12_item_72 (by decide) ?_
              refine wp_ireturn (pc := 73) dX12_item_73 rfl (by first | rfl | decide | assumption) ?_
              refine k' _ ?_
              rw [eS μ.1]
              exact fin _
            | _ + 3, hu => omega
        · refine wp_iload_n (pc := 0) dX11_item_0 (by first | rfl | assumption | (repeat first | assumption | rfl | refine aG_n ?_ rfl rfl)) ?_
          refine wp_cS (pc := 1) dX11_item_1 lk_11_361 rfl rfl rfl (c_X11_isSheet (fun _ => aK_i ?_) (fun q => absurd c1 q))
          refine wp_if_eq (pc := 4) (tgt := 14) dX11_item_4 rfl (fun q => absurd q (by decide)) (fun _ => ?_)
          refine wp_iload_n (pc := 7) dX11_item_7 (by first | rfl | assumption | (repeat first | assumption | rfl | refine aG_n ?_ rfl rfl)) ?_
          refine wp_cS (pc := 8) dX11_item_8 lk_11_364 rfl rfl rfl (c_X11_isLane (fun _ => aK_i ?_) (fun q => absurd c2 q))
          refine wp_if_ne (pc := 11) (tgt := 16) dX11_item_11 rfl (fun _ => ?_) (fun q => absurd q (by decide))
          refine wp_aload_n (pc := 16) dX11_item_16 (by first | rfl | assumption | (repeat first | assumption | rfl | refine aG_n ?_ rfl rfl)) ?_
          refine wp_getR (pc := 17) dX11_item_17 fl_11_66 (by first | rfl | assumption | exact sh_house (by omega) | exact sh_wish (by omega) | exact sh_wor (by omega) | exact sh_bar (by omega) | exact sh_term (by omega) | exact sh_sheet (by omega) | exact sh_items (by omega) | exact sh_sums (by omega)) rfl ?_
          refine wp_iload_n (pc := 20) dX11_item_20 (by first | rfl | assumption | (repeat first | assumption | rfl | refine aG_n ?_ rfl rfl)) ?_
          refine wp_aald (pc := 21) dX11_item_21 (by first | rfl | assumption | exact sh_house (by omega) | exact sh_wish (by omega) | exact sh_wor (by omega) | exact sh_bar (by omega) | exact sh_term (by omega) | exact sh_sheet (by omega) | exact sh_items (by omega) | exact sh_sums (by omega)) (vp_in_nI (by omega) (by decide)) (by decide) (el_sheet (by omega)) ?_
          refine wp_iload_n (pc := 22) dX11_item_22 (by first | rfl | assumption | (repeat first | assumption | rfl | refine aG_n ?_ rfl rfl)) ?_
          refine wp_iload_n (pc := 23) dX11_item_23 (by first | rfl | assumption | (repeat first | assumption | rfl | refine aG_n ?_ rfl rfl)) ?_
          refine wp_iconst (pc := 24) (v := 1) dX11_item_24 (by decide) ?_
          refine wp_cV (pc := 25) dX11_item_25 lk_11_377 rfl (by decide) rfl (by first | rfl | assumption | exact sh_house (by omega) | exact sh_wish (by omega) | exact sh_wor (by omega) | exact sh_bar (by omega) | exact sh_term (by omega) | exact sh_sheet (by omega) | exact sh_items (by omega) | exact sh_sums (by omega)) rfl rfl (c_X6_refusal (by omega) (fun q => absurd (e1.symm.trans q) a1) (fun _ _ => aK_i ?_) (fun _ q => absurd (e1.symm.trans q) a2) (fun _ q => absurd (e1.symm.trans q) a2))
          refine wp_istore (pc := 28) dX11_item_28 (by decide) ?_
          refine wp_iload (pc := 30) dX11_item_30 (by first | rfl | assumption | (repeat first | assumption | rfl | refine aG_n ?_ rfl rfl)) ?_
          refine wp_if_ge (pc := 32) (tgt := 38) dX11_item_32 rfl (fun q => absurd q (by decide)) (fun _ => ?_)
          refine wp_iload (pc := 35) dX11_item_35 (by first | rfl | assumption | (repeat first | assumption | rfl | refine aG_n ?_ rfl rfl)) ?_
          refine wp_ireturn (pc := 37) dX11_item_37 rfl (by first | rfl | decide | assumption) ?_
          refine k _ _ (fun Q' k' => ?_)
          refine wp_iload_n (pc := 0) dX12_item_0 (by first | rfl | assumption | (repeat first | assumption | rfl | refine aG_n ?_ rfl rfl)) ?_
          refine wp_iload_n (pc := 1) dX12_item_1 (by first | rfl | assumption | (repeat first | assumption | rfl | refine aG_n ?_ rfl rfl)) ?_
          refine wp_cS (pc := 2) dX12_item_2 lk_12_361 rfl rfl rfl (c_X12_isSheet (fun _ => aK_i ?_) (fun q => absurd ⟨c1, c2⟩ q))
          refine wp_if_ne (pc := 5) (tgt := 10) dX12_item_5 rfl (fun _ => ?_) (fun q => absurd q (by decide))
          refine wp_aload_n (pc := 10) dX12_item_10 (by first | rfl | assumption | (repeat first | assumption | rfl | refine aG_n ?_ rfl rfl)) ?_
          refine wp_iload_n (pc := 11) dX12_item_11 (by first | rfl | assumption | (repeat first | assumption | rfl | refine aG_n ?_ rfl rfl)) ?_
          refine wp_iload_n (pc := 12) dX12_item_12 (by first | rfl | assumption | (repeat first | assumption | rfl | refine aG_n ?_ rfl rfl)) ?_
          refine wp_iload_n (pc := 13) dX12_item_13 (by first | rfl | assumption | (repeat first | assumption | rfl | refine aG_n ?_ rfl rfl)) ?_
          refine wp_iconst (pc := 14) (v := 1) dX12_item_14 (by decide) ?_
          refine wp_cV (pc := 15) dX12_item_15 lk_12_364 rfl (by decide) rfl (by first | rfl | assumption | exact sh_house (by omega) | exact sh_wish (by omega) | exact sh_wor (by omega) | exact sh_bar (by omega) | exact sh_term (by omega) | exact sh_sheet (by omega) | exact sh_items (by omega) | exact sh_sums (by omega)) rfl rfl (c_X12_against (by omega) c2 hh.2.1 (fun q => absurd q a1) (fun _ _ => aK_i ?_) (fun _ q => absurd q a2) (fun _ q => absurd q a2))
          refine wp_istore (pc := 18) dX12_item_18 (by decide) ?_
          refine wp_iload (pc := 20) dX12_item_20 (by first | rfl | assumption | (repeat first | assumption | rfl | refine aG_n ?_ rfl rfl)) ?_
          refine wp_if_ge (pc := 22) (tgt := 28) dX12_item_22 rfl (fun q => absurd q (by decide)) (fun _ => ?_)
          refine wp_iload (pc := 25) dX12_item_25 (by first | rfl | assumption | (repeat first | assumption | rfl | refine aG_n ?_ rfl rfl)) ?_
          refine wp_ireturn (pc := 27) dX12_item_27 rfl (by first | rfl | decide | assumption) ?_
          exact k' _ hI
    · refine wp_iload_n (pc := 0) dX11_item_0 (by first | rfl | assumption | (repeat first | assumption | rfl | refine aG_n ?_ rfl rfl)) ?_
      refine wp_cS (pc := 1) dX11_item_1 lk_11_361 rfl rfl rfl (c_X11_isSheet (fun _ => aK_i ?_) (fun q => absurd c1 q))
      refine wp_if_eq (pc := 4) (tgt := 14) dX11_item_4 rfl (fun q => absurd q (by decide)) (fun _ => ?_)
      refine wp_iload_n (pc := 7) dX11_item_7 (by first | rfl | assumption | (repeat first | assumption | rfl | refine aG_n ?_ rfl rfl)) ?_
      refine wp_cS (pc := 8) dX11_item_8 lk_11_364 rfl rfl rfl (c_X11_isLane (fun q => absurd q c2) (fun _ => aK_i ?_))
      refine wp_if_ne (pc := 11) (tgt := 16) dX11_item_11 rfl (fun q => absurd q (by decide)) (fun _ => ?_)
      refine wp_iconst (pc := 14) (v := -1) dX11_item_14 (by decide) ?_
      refine wp_ireturn (pc := 15) dX11_item_15 rfl (by first | rfl | decide | assumption) ?_
      refine k _ _ (fun Q' k' => ?_)
      refine wp_iload_n (pc := 0) dX12_item_0 (by first | rfl | assumption | (repeat first | assumption | rfl | refine aG_n ?_ rfl rfl)) ?_
      refine wp_iload_n (pc := 1) dX12_item_1 (by first | rfl | assumption | (repeat first | assumption | rfl | refine aG_n ?_ rfl rfl)) ?_
      refine wp_cS (pc := 2) dX12_item_2 lk_12_361 rfl rfl rfl (c_X12_isSheet (fun q => absurd q (fun z => c2 z.2)) (fun _ => aK_i ?_))
      refine wp_if_ne (pc := 5) (tgt := 10) dX12_item_5 rfl (fun q => absurd q (by decide)) (fun _ => ?_)
      refine wp_iconst (pc := 8) (v := -1) dX12_item_8 (by decide) ?_
      refine wp_ireturn (pc := 9) dX12_item_9 rfl (by first | rfl | decide | assumption) ?_
      exact k' _ hI
  · refine wp_iload_n (pc := 0) dX11_item_0 (by first | rfl | assumption | (repeat first | assumption | rfl | refine aG_n ?_ rfl rfl)) ?_
    refine wp_cS (pc := 1) dX11_item_1 lk_11_361 rfl rfl rfl (c_X11_isSheet (fun q => absurd q c1) (fun _ => aK_i ?_))
    refine wp_if_eq (pc := 4) (tgt := 14) dX11_item_4 rfl (fun _ => ?_) (fun q => absurd q (by decide))
    refine wp_iconst (pc := 14) (v := -1) dX11_item_14 (by decide) ?_
    refine wp_ireturn (pc := 15) dX11_item_15 rfl (by first | rfl | decide | assumption) ?_
    refine k _ _ (fun Q' k' => ?_)
    refine wp_iload_n (pc := 0) dX12_item_0 (by first | rfl | assumption | (repeat first | assumption | rfl | refine aG_n ?_ rfl rfl)) ?_
    refine wp_iload_n (pc := 1) dX12_item_1 (by first | rfl | assumption | (repeat first | assumption | rfl | refine aG_n ?_ rfl rfl)) ?_
    refine wp_cS (pc := 2) dX12_item_2 lk_12_361 rfl rfl rfl (c_X12_isSheet (fun q => absurd q (fun z => c1 z.1)) (fun _ => aK_i ?_))
    refine wp_if_ne (pc := 5) (tgt := 10) dX12_item_5 rfl (fun q => absurd q (by decide)) (fun _ => ?_)
    refine wp_iconst (pc := 8) (v := -1) dX12_item_8 (by decide) ?_
    refine wp_ireturn (pc := 9) dX12_item_9 rfl (by first | rfl | decide | assumption) ?_
    exact k' _ hI
