section MBEST
variable {X : aX} {μ : Mm} {Q : Option Value → Mm → Prop} {i j : Nat} {wh : Int32}
theorem l_m_best (hW : I_wish μ.1) (hi : i < 4) (hj : j < 4) (k : ∀ L : aL, aL_get L 0 = some (.ref 86) → aL_get L 1 = some (.int (nI i)) → aL_get L 2 = some (.int (nI j)) → aL_get L 3 = some (.int wh) → aL_get L 4 = some (.int (nI (th μ.1 i) ||| nI (th μ.1 j))) → aL_get L 5 = some (.int (bs (okP μ.1 (two (th μ.1 i) (th μ.1 j)) (two (56 + 4 * i) (56 + 4 * j))) (fun n => gnd μ.1 (two (th μ.1 i) (th μ.1 j)) (two (56 + 4 * i) (56 + 4 * j)) 0 n + gnd μ.1 (two (th μ.1 i) (th μ.1 j)) (two (56 + 4 * i) (56 + 4 * j)) 1 n) 64).1) → aL_get L 6 = some (.int (bs (okP μ.1 (two (th μ.1 i) (th μ.1 j)) (two (56 + 4 * i) (56 + 4 * j))) (fun n => gnd μ.1 (two (th μ.1 i) (th μ.1 j)) (two (56 + 4 * i) (56 + 4 * j)) 0 n + gnd μ.1 (two (th μ.1 i) (th μ.1 j)) (two (56 + 4 * i) (56 + 4 * j)) 1 n) 64).2) → WP X mX12_best 137 L [] μ Q) : ∀ (f n : Nat), n + f = 64 → ∀ L : aL, aL_get L 0 = some (.ref 86) → aL_get L 1 = some (.int (nI i)) → aL_get L 2 = some (.int (nI j)) → aL_get L 3 = some (.int wh) → aL_get L 4 = some (.int (nI (th μ.1 i) ||| nI (th μ.1 j))) → aL_get L 5 = some (.int (bs (okP μ.1 (two (th μ.1 i) (th μ.1 j)) (two (56 + 4 * i) (56 + 4 * j))) (fun n => gnd μ.1 (two (th μ.1 i) (th μ.1 j)) (two (56 + 4 * i) (56 + 4 * j)) 0 n + gnd μ.1 (two (th μ.1 i) (th μ.1 j)) (two (56 + 4 * i) (56 + 4 * j)) 1 n) n).1) → aL_get L 6 = some (.int (bs (okP μ.1 (two (th μ.1 i) (th μ.1 j)) (two (56 + 4 * i) (56 + 4 * j))) (fun n => gnd μ.1 (two (th μ.1 i) (th μ.1 j)) (two (56 + 4 * i) (56 + 4 * j)) 0 n + gnd μ.1 (two (th μ.1 i) (th μ.1 j)) (two (56 + 4 * i) (56 + 4 * j)) 1 n) n).2) → aL_get L 7 = some (.int (nI n)) → WP X mX12_best 57 L [] μ Q
  | 0, n, hn, L, g0, g1, g2, g3, g4, g5, g6, g7 => by
    obtain rfl : n = 64 := by omega
    refine wp_iload (pc := 57) dX12_best_57 (by first | rfl | assumption | (repeat first | assumption | rfl | refine aG_n ?_ rfl rfl)) ?_
    refine wp_bipush (pc := 59) (v := 64) dX12_best_59 (by decide) ?_
    refine wp_icmp_ge (pc := 61) (tgt := 137) dX12_best_61 rfl (fun _ => ?_) (fun q => absurd (nI_le (a := 64) (b := 64) (by omega) (by omega)) q)
    exact k _ (by first | rfl | assumption | (repeat first | assumption | rfl | refine aG_n ?_ rfl rfl)) (by first | rfl | assumption | (repeat first | assumption | rfl | refine aG_n ?_ rfl rfl)) (by first | rfl | assumption | (repeat first | assumption | rfl | refine aG_n ?_ rfl rfl)) (by first | rfl | assumption | (repeat first | assumption | rfl | refine aG_n ?_ rfl rfl)) (by first | rfl | assumption | (repeat first | assumption | rfl | refine aG_n ?_ rfl rfl)) (by first | rfl | assumption | (repeat first | assumption | rfl | refine aG_n ?_ rfl rfl)) (by first | rfl | assumption | (repeat first | assumption | rfl | refine aG_n ?_ rfl rfl))
  | f + 1, n, hn, L, g0, g1, g2, g3, g4, g5, g6, g7 => by
    have hn64 : n < 64 := by omega
    have es : (fun n => gnd μ.1 (two (th μ.1 i) (th μ.1 j)) (two (56 + 4 * i) (56 + 4 * j)) 0 n + gnd μ.1 (two (th μ.1 i) (th μ.1 j)) (two (56 + 4 * i) (56 + 4 * j)) 1 n) n = μ.1 (57 + 4 * i) (th μ.1 i ^^^ n) - μ.1 (57 + 4 * i) (th μ.1 i) + (μ.1 (57 + 4 * j) (th μ.1 j ^^^ n) - μ.1 (57 + 4 * j) (th μ.1 j)) := by
      show gnd _ _ _ _ _ + gnd _ _ _ _ _ = _
      rw [gnd_0, gnd_1]
    by_cases c1 : nI n &&& ((nI (th μ.1 i) ||| nI (th μ.1 j)) ^^^ (-1)) = 0
    · by_cases c2 : μ.1 (58 + 4 * i) (th μ.1 i ^^^ n) = 0
      · by_cases c2b : μ.1 (58 + 4 * j) (th μ.1 j ^^^ n) = 0
        · have c5 : opB μ.1 (two (th μ.1 i) (th μ.1 j)) (two (56 + 4 * i) (56 + 4 * j)) n := (opB_i _ _ _ _).mpr ⟨c2, c2b⟩
          by_cases c3 : (bs (okP μ.1 (two (th μ.1 i) (th μ.1 j)) (two (56 + 4 * i) (56 + 4 * j))) (fun n => gnd μ.1 (two (th μ.1 i) (th μ.1 j)) (two (56 + 4 * i) (56 + 4 * j)) 0 n + gnd μ.1 (two (th μ.1 i) (th μ.1 j)) (two (56 + 4 * i) (56 + 4 * j)) 1 n) n).1 < 0
          · have e := bs_y (ok := (okP μ.1 (two (th μ.1 i) (th μ.1 j)) (two (56 + 4 * i) (56 + 4 * j)))) (sm := (fun n => gnd μ.1 (two (th μ.1 i) (th μ.1 j)) (two (56 + 4 * i) (56 + 4 * j)) 0 n + gnd μ.1 (two (th μ.1 i) (th μ.1 j)) (two (56 + 4 * i) (56 + 4 * j)) 1 n)) (n := n) ⟨⟨c1, c5⟩, Or.inl c3⟩
            refine wp_iload (pc := 57) dX12_best_57 (by first | rfl | assumption | (repeat first | assumption | rfl | refine aG_n ?_ rfl rfl)) ?_
            refine wp_bipush (pc := 59) (v := 64) dX12_best_59 (by decide) ?_
            refine wp_icmp_ge (pc := 61) (tgt := 137) dX12_best_61 rfl (fun q => absurd q (nI_ge (a := n) (b := 64) (by omega) (by omega))) (fun _ => ?_)
            refine wp_iload (pc := 64) dX12_best_64 (by first | rfl | assumption | (repeat first | assumption | rfl | refine aG_n ?_ rfl rfl)) ?_
            refine wp_iload (pc := 66) dX12_best_66 (by first | rfl | assumption | (repeat first | assumption | rfl | refine aG_n ?_ rfl rfl)) ?_
            refine wp_iconst (pc := 68) (v := -1) dX12_best_68 (by decide) ?_
            refine wp_ixor (pc := 69) dX12_best_69 ?_
            refine wp_iand (pc := 70) dX12_best_70 ?_
            refine wp_if_ne (pc := 71) (tgt := 131) dX12_best_71 rfl (fun q => absurd c1 q) (fun _ => ?_)
            refine wp_aload_n (pc := 74) dX12_best_74 (by first | rfl | assumption | (repeat first | assumption | rfl | refine aG_n ?_ rfl rfl)) ?_
            refine wp_iload_n (pc := 75) dX12_best_75 (by first | rfl | assumption | (repeat first | assumption | rfl | refine aG_n ?_ rfl rfl)) ?_
            refine wp_iload (pc := 76) dX12_best_76 (by first | rfl | assumption | (repeat first | assumption | rfl | refine aG_n ?_ rfl rfl)) ?_
            refine wp_cV (pc := 78) dX12_best_78 lk_12_227 rfl (by decide) rfl (by first | rfl | assumption | exact sh_house (by omega) | exact sh_wish (by omega) | exact sh_wor (by omega) | exact sh_bar (by omega) | exact sh_term (by omega) | exact sh_sheet (by omega) | exact sh_items (by omega) | exact sh_sums (by omega)) rfl rfl (m_free hW hi hn64 rfl (fun _ => aK_i ?_) (fun q => absurd c2 q))
            refine wp_if_eq (pc := 81) (tgt := 131) dX12_best_81 rfl (fun q => absurd q (by decide)) (fun _ => ?_)
            refine wp_aload_n (pc := 84) dX12_best_84 (by first | rfl | assumption | (repeat first | assumption | rfl | refine aG_n ?_ rfl rfl)) ?_
            refine wp_iload_n (pc := 85) dX12_best_85 (by first | rfl | assumption | (repeat first | assumption | rfl | refine aG_n ?_ rfl rfl)) ?_
            refine wp_iload (pc := 86) dX12_best_86 (by first | rfl | assumption | (repeat first | assumption | rfl | refine aG_n ?_ rfl rfl)) ?_
            refine wp_cV (pc := 88) dX12_best_88 lk_12_227 rfl (by decide) rfl (by first | rfl | assumption | exact sh_house (by omega) | exact sh_wish (by omega) | exact sh_wor (by omega) | exact sh_bar (by omega) | exact sh_term (by omega) | exact sh_sheet (by omega) | exact sh_items (by omega) | exact sh_sums (by omega)) rfl rfl (m_free hW hj hn64 rfl (fun _ => aK_i ?_) (fun q => absurd c2b q))
            refine wp_if_eq (pc := 91) (tgt := 131) dX12_best_91 rfl (fun q => absurd q (by decide)) (fun _ => ?_)
            refine wp_aload_n (pc := 94) dX12_best_94 (by first | rfl | assumption | (repeat first | assumption | rfl | refine aG_n ?_ rfl rfl)) ?_
            refine wp_iload_n (pc := 95) dX12_best_95 (by first | rfl | assumption | (repeat first | assumption | rfl | refine aG_n ?_ rfl rfl)) ?_
            refine wp_iload (pc := 96) dX12_best_96 (by first | rfl | assumption | (repeat first | assumption | rfl | refine aG_n ?_ rfl rfl)) ?_
            refine wp_cV (pc := 98) dX12_best_98 lk_12_224 rfl (by decide) rfl (by first | rfl | assumption | exact sh_house (by omega) | exact sh_wish (by omega) | exact sh_wor (by omega) | exact sh_bar (by omega) | exact sh_term (by omega) | exact sh_sheet (by omega) | exact sh_items (by omega) | exact sh_sums (by omega)) rfl rfl (m_more hW hi hn64 rfl (aK_i ?_))
            refine wp_aload_n (pc := 101) dX12_best_101 (by first | rfl | assumption | (repeat first | assumption | rfl | refine aG_n ?_ rfl rfl)) ?_
            refine wp_iload_n (pc := 102) dX12_best_102 (by first | rfl | assumption | (repeat first | assumption | rfl | refine aG_n ?_ rfl rfl)) ?_
            refine wp_iload (pc := 103) dX12_best_103 (by first | rfl | assumption | (repeat first | assumption | rfl | refine aG_n ?_ rfl rfl)) ?_
            refine wp_cV (pc := 105) dX12_best_105 lk_12_224 rfl (by decide) rfl (by first | rfl | assumption | exact sh_house (by omega) | exact sh_wish (by omega) | exact sh_wor (by omega) | exact sh_bar (by omega) | exact sh_term (by omega) | exact sh_sheet (by omega) | exact sh_items (by omega) | exact sh_sums (by omega)) rfl rfl (m_more hW hj hn64 rfl (aK_i ?_))
            refine wp_iadd (pc := 108) dX12_best_108 ?_
            refine wp_istore (pc := 109) dX12_best_109 (by decide) ?_
            refine wp_iload (pc := 111) dX12_best_111 (by first | rfl | assumption | (repeat first | assumption | rfl | refine aG_n ?_ rfl rfl)) ?_
            refine wp_if_lt (pc := 113) (tgt := 123) dX12_best_113 rfl (fun _ => ?_) (fun q => absurd c3 q)
            refine wp_iload (pc := 123) dX12_best_123 (by first | rfl | assumption | (repeat first | assumption | rfl | refine aG_n ?_ rfl rfl)) ?_
            refine wp_istore (pc := 125) dX12_best_125 (by decide) ?_
            refine wp_iload (pc := 127) dX12_best_127 (by first | rfl | assumption | (repeat first | assumption | rfl | refine aG_n ?_ rfl rfl)) ?_
            refine wp_istore (pc := 129) dX12_best_129 (by decide) ?_
            refine wp_iinc (pc := 131) dX12_best_131 (by decide) (by first | rfl | assumption | (repeat first | assumption | rfl | refine aG_n ?_ rfl rfl)) rfl ?_
            refine wp_goto (pc := 134) (tgt := 57) dX12_best_134 rfl ?_
            exact l_m_best hW hi hj k f (n + 1) (by omega) _ (by first | rfl | assumption | (repeat first | assumption | rfl | refine aG_n ?_ rfl rfl)) (by first | rfl | assumption | (repeat first | assumption | rfl | refine aG_n ?_ rfl rfl)) (by first | rfl | assumption | (repeat first | assumption | rfl | refine aG_n ?_ rfl rfl)) (by first | rfl | assumption | (repeat first | assumption | rfl | refine aG_n ?_ rfl rfl)) (by first | rfl | assumption | (repeat first | assumption | rfl | refine aG_n ?_ rfl rfl)) (by rw [e]; first | rfl | assumption | (repeat first | assumption | rfl | refine aG_n ?_ rfl rfl)) (by rw [e]; show _ = some (Value.int ((fun n => gnd μ.1 (two (th μ.1 i) (th μ.1 j)) (two (56 + 4 * i) (56 + 4 * j)) 0 n + gnd μ.1 (two (th μ.1 i) (th μ.1 j)) (two (56 + 4 * i) (56 + 4 * j)) 1 n) n)); rw [es]; first | rfl | assumption | (repeat first | assumption | rfl | refine aG_n ?_ rfl rfl)) (by rw [← nI_i1]; first | rfl | assumption | (repeat first | assumption | rfl | refine aG_n ?_ rfl rfl))
          · by_cases c4 : (bs (okP μ.1 (two (th μ.1 i) (th μ.1 j)) (two (56 + 4 * i) (56 + 4 * j))) (fun n => gnd μ.1 (two (th μ.1 i) (th μ.1 j)) (two (56 + 4 * i) (56 + 4 * j)) 0 n + gnd μ.1 (two (th μ.1 i) (th μ.1 j)) (two (56 + 4 * i) (56 + 4 * j)) 1 n) n).2 < (fun n => gnd μ.1 (two (th μ.1 i) (th μ.1 j)) (two (56 + 4 * i) (56 + 4 * j)) 0 n + gnd μ.1 (two (th μ.1 i) (th μ.1 j)) (two (56 + 4 * i) (56 + 4 * j)) 1 n) n
            · have e := bs_y (ok := (okP μ.1 (two (th μ.1 i) (th μ.1 j)) (two (56 + 4 * i) (56 + 4 * j)))) (sm := (fun n => gnd μ.1 (two (th μ.1 i) (th μ.1 j)) (two (56 + 4 * i) (56 + 4 * j)) 0 n + gnd μ.1 (two (th μ.1 i) (th μ.1 j)) (two (56 + 4 * i) (56 + 4 * j)) 1 n)) (n := n) ⟨⟨c1, c5⟩, Or.inr c4⟩
              rw [es] at c4
              refine wp_iload (pc := 57) dX12_best_57 (by first | rfl | assumption | (repeat first | assumption | rfl | refine aG_n ?_ rfl rfl)) ?_
              refine wp_bipush (pc := 59) (v := 64) dX12_best_59 (by decide) ?_
              refine wp_icmp_ge (pc := 61) (tgt := 137) dX12_best_61 rfl (fun q => absurd q (nI_ge (a := n) (b := 64) (by omega) (by omega))) (fun _ => ?_)
              refine wp_iload (pc := 64) dX12_best_64 (by first | rfl | assumption | (repeat first | assumption | rfl | refine aG_n ?_ rfl rfl)) ?_
              refine wp_iload (pc := 66) dX12_best_66 (by first | rfl | assumption | (repeat first | assumption | rfl | refine aG_n ?_ rfl rfl)) ?_
              refine wp_iconst (pc := 68) (v := -1) dX12_best_68 (by decide) ?_
              refine wp_ixor (pc := 69) dX12_best_69 ?_
              refine wp_iand (pc := 70) dX12_best_70 ?_
              refine wp_if_ne (pc := 71) (tgt := 131) dX12_best_71 rfl (fun q => absurd c1 q) (fun _ => ?_)
              refine wp_aload_n (pc := 74) dX12_best_74 (by first | rfl | assumption | (repeat first | assumption | rfl | refine aG_n ?_ rfl rfl)) ?_
              refine wp_iload_n (pc := 75) dX12_best_75 (by first | rfl | assumption | (repeat first | assumption | rfl | refine aG_n ?_ rfl rfl)) ?_
              refine wp_iload (pc := 76) dX12_best_76 (by first | rfl | assumption | (repeat first | assumption | rfl | refine aG_n ?_ rfl rfl)) ?_
              refine wp_cV (pc := 78) dX12_best_78 lk_12_227 rfl (by decide) rfl (by first | rfl | assumption | exact sh_house (by omega) | exact sh_wish (by omega) | exact sh_wor (by omega) | exact sh_bar (by omega) | exact sh_term (by omega) | exact sh_sheet (by omega) | exact sh_items (by omega) | exact sh_sums (by omega)) rfl rfl (m_free hW hi hn64 rfl (fun _ => aK_i ?_) (fun q => absurd c2 q))
              refine wp_if_eq (pc := 81) (tgt := 131) dX12_best_81 rfl (fun q => absurd q (by decide)) (fun _ => ?_)
              refine wp_aload_n (pc := 84) dX12_best_84 (by first | rfl | assumption | (repeat first | assumption | rfl | refine aG_n ?_ rfl rfl)) ?_
              refine wp_iload_n (pc := 85) dX12_best_85 (by first | rfl | assumption | (repeat first | assumption | rfl | refine aG_n ?_ rfl rfl)) ?_
              refine wp_iload (pc := 86) dX12_best_86 (by first | rfl | assumption | (repeat first | assumption | rfl | refine aG_n ?_ rfl rfl)) ?_
              refine wp_cV (pc := 88) dX12_best_88 lk_12_227 rfl (by decide) rfl (by first | rfl | assumption | exact sh_house (by omega) | exact sh_wish (by omega) | exact sh_wor (by omega) | exact sh_bar (by omega) | exact sh_term (by omega) | exact sh_sheet (by omega) | exact sh_items (by omega) | exact sh_sums (by omega)) rfl rfl (m_free hW hj hn64 rfl (fun _ => aK_i ?_) (fun q => absurd c2b q))
              refine wp_if_eq (pc := 91) (tgt := 131) dX12_best_91 rfl (fun q => absurd q (by decide)) (fun _ => ?_)
              refine wp_aload_n (pc := 94) dX12_best_94 (by first | rfl | assumption | (repeat first | assumption | rfl | refine aG_n ?_ rfl rfl)) ?_
              refine wp_iload_n (pc := 95) dX12_best_95 (by first | rfl | assumption | (repeat first | assumption | rfl | refine aG_n ?_ rfl rfl)) ?_
              refine wp_iload (pc := 96) dX12_best_96 (by first | rfl | assumption | (repeat first | assumption | rfl | refine aG_n ?_ rfl rfl)) ?_
              refine wp_cV (pc := 98) dX12_best_98 lk_12_224 rfl (by decide) rfl (by first | rfl | assumption | exact sh_house (by omega) | exact sh_wish (by omega) | exact sh_wor (by omega) | exact sh_bar (by omega) | exact sh_term (by omega) | exact sh_sheet (by omega) | exact sh_items (by omega) | exact sh_sums (by omega)) rfl rfl (m_more hW hi hn64 rfl (aK_i ?_))
              refine wp_aload_n (pc := 101) dX12_best_101 (by first | rfl | assumption | (repeat first | assumption | rfl | refine aG_n ?_ rfl rfl)) ?_
              refine wp_iload_n (pc := 102) dX12_best_102 (by first | rfl | assumption | (repeat first | assumption | rfl | refine aG_n ?_ rfl rfl)) ?_
              refine wp_iload (pc := 103) dX12_best_103 (by first | rfl | assumption | (repeat first | assumption | rfl | refine aG_n ?_ rfl rfl)) ?_
              refine wp_cV (pc := 105) dX12_best_105 lk_12_224 rfl (by decide) rfl (by first | rfl | assumption | exact sh_house (by omega) | exact sh_wish (by omega) | exact sh_wor (by omega) | exact sh_bar (by omega) | exact sh_term (by omega) | exact sh_sheet (by omega) | exact sh_items (by omega) | exact sh_sums (by omega)) rfl rfl (m_more hW hj hn64 rfl (aK_i ?_))
              refine wp_iadd (pc := 108) dX12_best_108 ?_
              refine wp_istore (pc := 109) dX12_best_109 (by decide) ?_
              refine wp_iload (pc := 111) dX12_best_111 (by first | rfl | assumption | (repeat first | assumption | rfl | refine aG_n ?_ rfl rfl)) ?_
              refine wp_if_lt (pc := 113) (tgt := 123) dX12_best_113 rfl (fun q => absurd q c3) (fun _ => ?_)
              refine wp_iload (pc := 116) dX12_best_116 (by first | rfl | assumption | (repeat first | assumption | rfl | refine aG_n ?_ rfl rfl)) ?_
              refine wp_iload (pc := 118) dX12_best_118 (by first | rfl | assumption | (repeat first | assumption | rfl | refine aG_n ?_ rfl rfl)) ?_
              refine wp_icmp_le (pc := 120) (tgt := 131) dX12_best_120 rfl (fun q => absurd q (fun z => i_nle c4 z)) (fun _ => ?_)
              refine wp_iload (pc := 123) dX12_best_123 (by first | rfl | assumption | (repeat first | assumption | rfl | refine aG_n ?_ rfl rfl)) ?_
              refine wp_istore (pc := 125) dX12_best_125 (by decide) ?_
              refine wp_iload (pc := 127) dX12_best_127 (by first | rfl | assumption | (repeat first | assumption | rfl | refine aG_n ?_ rfl rfl)) ?_
              refine wp_istore (pc := 129) dX12_best_129 (by decide) ?_
              refine wp_iinc (pc := 131) dX12_best_131 (by decide) (by first | rfl | assumption | (repeat first | assumption | rfl | refine aG_n ?_ rfl rfl)) rfl ?_
              refine wp_goto (pc := 134) (tgt := 57) dX12_best_134 rfl ?_
              exact l_m_best hW hi hj k f (n + 1) (by omega) _ (by first | rfl | assumption | (repeat first | assumption | rfl | refine aG_n ?_ rfl rfl)) (by first | rfl | assumption | (repeat first | assumption | rfl | refine aG_n ?_ rfl rfl)) (by first | rfl | assumption | (repeat first | assumption | rfl | refine aG_n ?_ rfl rfl)) (by first | rfl | assumption | (repeat first | assumption | rfl | refine aG_n ?_ rfl rfl)) (by first | rfl | assumption | (repeat first | assumption | rfl | refine aG_n ?_ rfl rfl)) (by rw [e]; first | rfl | assumption | (repeat first | assumption | rfl | refine aG_n ?_ rfl rfl)) (by rw [e]; show _ = some (Value.int ((fun n => gnd μ.1 (two (th μ.1 i) (th μ.1 j)) (two (56 + 4 * i) (56 + 4 * j)) 0 n + gnd μ.1 (two (th μ.1 i) (th μ.1 j)) (two (56 + 4 * i) (56 + 4 * j)) 1 n) n)); rw [es]; first | rfl | assumption | (repeat first | assumption | rfl | refine aG_n ?_ rfl rfl)) (by rw [← nI_i1]; first | rfl | assumption | (repeat first | assumption | rfl | refine aG_n ?_ rfl rfl))
            · have e := bs_n (ok := (okP μ.1 (two (th μ.1 i) (th μ.1 j)) (two (56 + 4 * i) (56 + 4 * j)))) (sm := (fun n => gnd μ.1 (two (th μ.1 i) (th μ.1 j)) (two (56 + 4 * i) (56 + 4 * j)) 0 n + gnd μ.1 (two (th μ.1 i) (th μ.1 j)) (two (56 + 4 * i) (56 + 4 * j)) 1 n)) (n := n) (fun z => z.2.elim c3 c4)
              rw [es] at c4
              refine wp_iload (pc := 57) dX12_best_57 (by first | rfl | assumption | (repeat first | assumption | rfl | refine aG_n ?_ rfl rfl)) ?_
              refine wp_bipush (pc := 59) (v := 64) dX12_best_59 (by decide) ?_
              refine wp_icmp_ge (pc := 61) (tgt := 137) dX12_best_61 rfl (fun q => absurd q (nI_ge (a := n) (b := 64) (by omega) (by omega))) (fun _ => ?_)
              refine wp_iload (pc := 64) dX12_best_64 (by first | rfl | assumption | (repeat first | assumption | rfl | refine aG_n ?_ rfl rfl)) ?_
              refine wp_iload (pc := 66) dX12_best_66 (by first | rfl | assumption | (repeat first | assumption | rfl | refine aG_n ?_ rfl rfl)) ?_
              refine wp_iconst (pc := 68) (v := -1) dX12_best_68 (by decide) ?_
              refine wp_ixor (pc := 69) dX12_best_69 ?_
              refine wp_iand (pc := 70) dX12_best_70 ?_
              refine wp_if_ne (pc := 71) (tgt := 131) dX12_best_71 rfl (fun q => absurd c1 q) (fun _ => ?_)
              refine wp_aload_n (pc := 74) dX12_best_74 (by first | rfl | assumption | (repeat first | assumption | rfl | refine aG_n ?_ rfl rfl)) ?_
              refine wp_iload_n (pc := 75) dX12_best_75 (by first | rfl | assumption | (repeat first | assumption | rfl | refine aG_n ?_ rfl rfl)) ?_
              refine wp_iload (pc := 76) dX12_best_76 (by first | rfl | assumption | (repeat first | assumption | rfl | refine aG_n ?_ rfl rfl)) ?_
              refine wp_cV (pc := 78) dX12_best_78 lk_12_227 rfl (by decide) rfl (by first | rfl | assumption | exact sh_house (by omega) | exact sh_wish (by omega) | exact sh_wor (by omega) | exact sh_bar (by omega) | exact sh_term (by omega) | exact sh_sheet (by omega) | exact sh_items (by omega) | exact sh_sums (by omega)) rfl rfl (m_free hW hi hn64 rfl (fun _ => aK_i ?_) (fun q => absurd c2 q))
              refine wp_if_eq (pc := 81) (tgt := 131) dX12_best_81 rfl (fun q => absurd q (by decide)) (fun _ => ?_)
              refine wp_aload_n (pc := 84) dX12_best_84 (by first | rfl | assumption | (repeat first | assumption | rfl | refine aG_n ?_ rfl rfl)) ?_
              refine wp_iload_n (pc := 85) dX12_best_85 (by first | rfl | assumption | (repeat first | assumption | rfl | refine aG_n ?_ rfl rfl)) ?_
              refine wp_iload (pc := 86) dX12_best_86 (by first | rfl | assumption | (repeat first | assumption | rfl | refine aG_n ?_ rfl rfl)) ?_
              refine wp_cV (pc := 88) dX12_best_88 lk_12_227 rfl (by decide) rfl (by first | rfl | assumption | exact sh_house (by omega) | exact sh_wish (by omega) | exact sh_wor (by omega) | exact sh_bar (by omega) | exact sh_term (by omega) | exact sh_sheet (by omega) | exact sh_items (by omega) | exact sh_sums (by omega)) rfl rfl (m_free hW hj hn64 rfl (fun _ => aK_i ?_) (fun q => absurd c2b q))
              refine wp_if_eq (pc := 91) (tgt := 131) dX12_best_91 rfl (fun q => absurd q (by decide)) (fun _ => ?_)
              refine wp_aload_n (pc := 94) dX12_best_94 (by first | rfl | assumption | (repeat first | assumption | rfl | refine aG_n ?_ rfl rfl)) ?_
              refine wp_iload_n (pc := 95) dX12_best_95 (by first | rfl | assumption | (repeat first | assumption | rfl | refine aG_n ?_ rfl rfl)) ?_
              refine wp_iload (pc := 96) dX12_best_96 (by first | rfl | assumption | (repeat first | assumption | rfl | refine aG_n ?_ rfl rfl)) ?_
              refine wp_cV (pc := 98) dX12_best_98 lk_12_224 rfl (by decide) rfl (by first | rfl | assumption | exact sh_house (by omega) | exact sh_wish (by omega) | exact sh_wor (by omega) | exact sh_bar (by omega) | exact sh_term (by omega) | exact sh_sheet (by omega) | exact sh_items (by omega) | exact sh_sums (by omega)) rfl rfl (m_more hW hi hn64 rfl (aK_i ?_))
              refine wp_aload_n (pc := 101) dX12_best_101 (by first | rfl | assumption | (repeat first | assumption | rfl | refine aG_n ?_ rfl rfl)) ?_
              refine wp_iload_n (pc := 102) dX12_best_102 (by first | rfl | assumption | (repeat first | assumption | rfl | refine aG_n ?_ rfl rfl)) ?_
              refine wp_iload (pc := 103) dX12_best_103 (by first | rfl | assumption | (repeat first | assumption | rfl | refine aG_n ?_ rfl rfl)) ?_
              refine wp_cV (pc := 105) dX12_best_105 lk_12_224 rfl (by decide) rfl (by first | rfl | assumption | exact sh_house (by omega) | exact sh_wish (by omega) | exact sh_wor (by omega) | exact sh_bar (by omega) | exact sh_term (by omega) | exact sh_sheet (by omega) | exact sh_items (by omega) | exact sh_sums (by omega)) rfl rfl (m_more hW hj hn64 rfl (aK_i ?_))
              refine wp_iadd (pc := 108) dX12_best_108 ?_
              refine wp_istore (pc := 109) dX12_best_109 (by decide) ?_
              refine wp_iload (pc := 111) dX12_best_111 (by first | rfl | assumption | (repeat first | assumption | rfl | refine aG_n ?_ rfl rfl)) ?_
              refine wp_if_lt (pc := 113) (tgt := 123) dX12_best_113 rfl (fun q => absurd q c3) (fun _ => ?_)
              refine wp_iload (pc := 116) dX12_best_116 (by first | rfl | assumption | (repeat first | assumption | rfl | refine aG_n ?_ rfl rfl)) ?_
              refine wp_iload (pc := 118) dX12_best_118 (by first | rfl | assumption | (repeat first | assumption | rfl | refine aG_n ?_ rfl rfl)) ?_
              refine wp_icmp_le (pc := 120) (tgt := 131) dX12_best_120 rfl (fun _ => ?_) (fun q => absurd (i_nlt c4) q)
              refine wp_iinc (pc := 131) dX12_best_131 (by decide) (by first | rfl | assumption | (repeat first | assumption | rfl | refine aG_n ?_ rfl rfl)) rfl ?_
              refine wp_goto (pc := 134) (tgt := 57) dX12_best_134 rfl ?_
              exact l_m_best hW hi hj k f (n + 1) (by omega) _ (by first | rfl | assumption | (repeat first | assumption | rfl | refine aG_n ?_ rfl rfl)) (by first | rfl | assumption | (repeat first | assumption | rfl | refine aG_n ?_ rfl rfl)) (by first | rfl | assumption | (repeat first | assumption | rfl | refine aG_n ?_ rfl rfl)) (by first | rfl | assumption | (repeat first | assumption | rfl | refine aG_n ?_ rfl rfl)) (by first | rfl | assumption | (repeat first | assumption | rfl | refine aG_n ?_ rfl rfl)) (by rw [e]; first | rfl | assumption | (repeat first | assumption | rfl | refine aG_n ?_ rfl rfl)) (by rw [e]; first | rfl | assumption | (repeat first | assumption | rfl | refine aG_n ?_ rfl rfl)) (by rw [← nI_i1]; first | rfl | assumption | (repeat first | assumption | rfl | refine aG_n ?_ rfl rfl))
        · have e := bs_n (ok := (okP μ.1 (two (th μ.1 i) (th μ.1 j)) (two (56 + 4 * i) (56 + 4 * j)))) (sm := (fun n => gnd μ.1 (two (th μ.1 i) (th μ.1 j)) (two (56 + 4 * i) (56 + 4 * j)) 0 n + gnd μ.1 (two (th μ.1 i) (th μ.1 j)) (two (56 + 4 * i) (56 + 4 * j)) 1 n)) (n := n) (fun z => c2b ((opB_i _ _ _ _).mp z.1.2).2)
          refine wp_iload (pc := 57) dX12_best_57 (by first | rfl | assumption | (repeat first | assumption | rfl | refine aG_n ?_ rfl rfl)) ?_
          refine wp_bipush (pc := 59) (v := 64) dX12_best_59 (by decide) ?_
          refine wp_icmp_ge (pc := 61) (tgt := 137) dX12_best_61 rfl (fun q => absurd q (nI_ge (a := n) (b := 64) (by omega) (by omega))) (fun _ => ?_)
          refine wp_iload (pc := 64) dX12_best_64 (by first | rfl | assumption | (repeat first | assumption | rfl | refine aG_n ?_ rfl rfl)) ?_
          refine wp_iload (pc := 66) dX12_best_66 (by first | rfl | assumption | (repeat first | assumption | rfl | refine aG_n ?_ rfl rfl)) ?_
          refine wp_iconst (pc := 68) (v := -1) dX12_best_68 (by decide) ?_
          refine wp_ixor (pc := 69) dX12_best_69 ?_
          refine wp_iand (pc := 70) dX12_best_70 ?_
          refine wp_if_ne (pc := 71) (tgt := 131) dX12_best_71 rfl (fun q => absurd c1 q) (fun _ => ?_)
          refine wp_aload_n (pc := 74) dX12_best_74 (by first | rfl | assumption | (repeat first | assumption | rfl | refine aG_n ?_ rfl rfl)) ?_
          refine wp_iload_n (pc := 75) dX12_best_75 (by first | rfl | assumption | (repeat first | assumption | rfl | refine aG_n ?_ rfl rfl)) ?_
          refine wp_iload (pc := 76) dX12_best_76 (by first | rfl | assumption | (repeat first | assumption | rfl | refine aG_n ?_ rfl rfl)) ?_
          refine wp_cV (pc := 78) dX12_best_78 lk_12_227 rfl (by decide) rfl (by first | rfl | assumption | exact sh_house (by omega) | exact sh_wish (by omega) | exact sh_wor (by omega) | exact sh_bar (by omega) | exact sh_term (by omega) | exact sh_sheet (by omega) | exact sh_items (by omega) | exact sh_sums (by omega)) rfl rfl (m_free hW hi hn64 rfl (fun _ => aK_i ?_) (fun q => absurd c2 q))
          refine wp_if_eq (pc := 81) (tgt := 131) dX12_best_81 rfl (fun q => absurd q (by decide)) (fun _ => ?_)
          refine wp_aload_n (pc := 84) dX12_best_84 (by first | rfl | assumption | (repeat first | assumption | rfl | refine aG_n ?_ rfl rfl)) ?_
          refine wp_iload_n (pc := 85) dX12_best_85 (by first | rfl | assumption | (repeat first | assumption | rfl | refine aG_n ?_ rfl rfl)) ?_
          refine wp_iload (pc := 86) dX12_best_86 (by first | rfl | assumption | (repeat first | assumption | rfl | refine aG_n ?_ rfl rfl)) ?_
          refine wp_cV (pc := 88) dX12_best_88 lk_12_227 rfl (by decide) rfl (by first | rfl | assumption | exact sh_house (by omega) | exact sh_wish (by omega) | exact sh_wor (by omega) | exact sh_bar (by omega) | exact sh_term (by omega) | exact sh_sheet (by omega) | exact sh_items (by omega) | exact sh_sums (by omega)) rfl rfl (m_free hW hj hn64 rfl (fun q => absurd q c2b) (fun _ => aK_i ?_))
          refine wp_if_eq (pc := 91) (tgt := 131) dX12_best_91 rfl (fun _ => ?_) (fun q => absurd q (by decide))
          refine wp_iinc (pc := 131) dX12_best_131 (by decide) (by first | rfl | assumption | (repeat first | assumption | rfl | refine aG_n ?_ rfl rfl)) rfl ?_
          refine wp_goto (pc := 134) (tgt := 57) dX12_best_134 rfl ?_
          exact l_m_best hW hi hj k f (n + 1) (by omega) _ (by first | rfl | assumption | (repeat first | assumption | rfl | refine aG_n ?_ rfl rfl)) (by first | rfl | assumption | (repeat first | assumption | rfl | refine aG_n ?_ rfl rfl)) (by first | rfl | assumption | (repeat first | assumption | rfl | refine aG_n ?_ rfl rfl)) (by first | rfl | assumption | (repeat first | assumption | rfl | refine aG_n ?_ rfl rfl)) (by first | rfl | assumption | (repeat first | assumption | rfl | refine aG_n ?_ rfl rfl)) (by rw [e]; first | rfl | assumption | (repeat first | assumption | rfl | refine aG_n ?_ rfl rfl)) (by rw [e]; first | rfl | assumption | (repeat first | assumption | rfl | refine aG_n ?_ rfl rfl)) (by rw [← nI_i1]; first | rfl | assumption | (repeat first | assumption | rfl | refine aG_n ?_ rfl rfl))
      · have e := bs_n (ok := (okP μ.1 (two (th μ.1 i) (th μ.1 j)) (two (56 + 4 * i) (56 + 4 * j)))) (sm := (fun n => gnd μ.1 (two (th μ.1 i) (th μ.1 j)) (two (56 + 4 * i) (56 + 4 * j)) 0 n + gnd μ.1 (two (th μ.1 i) (th μ.1 j)) (two (56 + 4 * i) (56 + 4 * j)) 1 n)) (n := n) (fun z => c2 ((opB_i _ _ _ _).mp z.1.2).1)
        refine wp_iload (pc := 57) dX12_best_57 (by first | rfl | assumption | (repeat first | assumption | rfl | refine aG_n ?_ rfl rfl)) ?_
        refine wp_bipush (pc := 59) (v := 64) dX12_best_59 (by decide) ?_
        refine wp_icmp_ge (pc := 61) (tgt := 137) dX12_best_61 rfl (fun q => absurd q (nI_ge (a := n) (b := 64) (by omega) (by omega))) (fun _ => ?_)
        refine wp_iload (pc := 64) dX12_best_64 (by first | rfl | assumption | (repeat first | assumption | rfl | refine aG_n ?_ rfl rfl)) ?_
        refine wp_iload (pc := 66) dX12_best_66 (by first | rfl | assumption | (repeat first | assumption | rfl | refine aG_n ?_ rfl rfl)) ?_
        refine wp_iconst (pc := 68) (v := -1) dX12_best_68 (by decide) ?_
        refine wp_ixor (pc := 69) dX12_best_69 ?_
        refine wp_iand (pc := 70) dX12_best_70 ?_
        refine wp_if_ne (pc := 71) (tgt := 131) dX12_best_71 rfl (fun q => absurd c1 q) (fun _ => ?_)
        refine wp_aload_n (pc := 74) dX12_best_74 (by first | rfl | assumption | (repeat first | assumption | rfl | refine aG_n ?_ rfl rfl)) ?_
        refine wp_iload_n (pc := 75) dX12_best_75 (by first | rfl | assumption | (repeat first | assumption | rfl | refine aG_n ?_ rfl rfl)) ?_
        refine wp_iload (pc := 76) dX12_best_76 (by first | rfl | assumption | (repeat first | assumption | rfl | refine aG_n ?_ rfl rfl)) ?_
        refine wp_cV (pc := 78) dX12_best_78 lk_12_227 rfl (by decide) rfl (by first | rfl | assumption | exact sh_house (by omega) | exact sh_wish (by omega) | exact sh_wor (by omega) | exact sh_bar (by omega) | exact sh_term (by omega) | exact sh_sheet (by omega) | exact sh_items (by omega) | exact sh_sums (by omega)) rfl rfl (m_free hW hi hn64 rfl (fun q => absurd q c2) (fun _ => aK_i ?_))
        refine wp_if_eq (pc := 81) (tgt := 131) dX12_best_81 rfl (fun _ => ?_) (fun q => absurd q (by decide))
        refine wp_iinc (pc := 131) dX12_best_131 (by decide) (by first | rfl | assumption | (repeat first | assumption | rfl | refine aG_n ?_ rfl rfl)) rfl ?_
        refine wp_goto (pc := 134) (tgt := 57) dX12_best_134 rfl ?_
        exact l_m_best hW hi hj k f (n + 1) (by omega) _ (by first | rfl | assumption | (repeat first | assumption | rfl | refine aG_n ?_ rfl rfl)) (by first | rfl | assumption | (repeat first | assumption | rfl | refine aG_n ?_ rfl rfl)) (by first | rfl | assumption | (repeat first | assumption | rfl | refine aG_n ?_ rfl rfl)) (by first | rfl | assumption | (repeat first | assumption | rfl | refine aG_n ?_ rfl rfl)) (by first | rfl | assumption | (repeat first | assumption | rfl | refine aG_n ?_ rfl rfl)) (by rw [e]; first | rfl | assumption | (repeat first | assumption | rfl | refine aG_n ?_ rfl rfl)) (by rw [e]; first | rfl | assumption | (repeat first | assumption | rfl | refine aG_n ?_ rfl rfl)) (by rw [← nI_i1]; first | rfl | assumption | (repeat first | assumption | rfl | refine aG_n ?_ rfl rfl))
    · have e := bs_n (ok := (okP μ.1 (two (th μ.1 i) (th μ.1 j)) (two (56 + 4 * i) (56 + 4 * j)))) (sm := (fun n => gnd μ.1 (two (th μ.1 i) (th μ.1 j)) (two (56 + 4 * i) (56 + 4 * j)) 0 n + gnd μ.1 (two (th μ.1 i) (th μ.1 j)) (two (56 + 4 * i) (56 + 4 * j)) 1 n)) (n := n) (fun z => c1 z.1.1)
      refine wp_iload (pc := 57) dX12_best_57 (by first | rfl | assumption | (repeat first | assumption | rfl | refine aG_n ?_ rfl rfl)) ?_
      refine wp_bipush (pc := 59) (v := 64) dX12_best_59 (by decide) ?_
      refine wp_icmp_ge (pc := 61) (tgt := 137) dX12_best_61 rfl (fun q => absurd q (nI_ge (a := n) (b := 64) (by omega) (by omega))) (fun _ => ?_)
      refine wp_iload (pc := 64) dX12_best_64 (by first | rfl | assumption | (repeat first | assumption | rfl | refine aG_n ?_ rfl rfl)) ?_
      refine wp_iload (pc := 66) dX12_best_66 (by first | rfl | assumption | (repeat first | assumption | rfl | refine aG_n ?_ rfl rfl)) ?_
      refine wp_iconst (pc := 68) (v := -1) dX12_best_68 (by decide) ?_
      refine wp_ixor (pc := 69) dX12_best_69 ?_
      refine wp_iand (pc := 70) dX12_best_70 ?_
      refine wp_if_ne (pc := 71) (tgt := 131) dX12_best_71 rfl (fun _ => ?_) (fun q => absurd q c1)
      refine wp_iinc (pc := 131) dX12_best_131 (by decide) (by first | rfl | assumption | (repeat first | assumption | rfl | refine aG_n ?_ rfl rfl)) rfl ?_
      refine wp_goto (pc := 134) (tgt := 57) dX12_best_134 rfl ?_
      exact l_m_best hW hi hj k f (n + 1) (by omega) _ (by first | rfl | assumption | (repeat first | assumption | rfl | refine aG_n ?_ rfl rfl)) (by first | rfl | assumption | (repeat first | assumption | rfl | refine aG_n ?_ rfl rfl)) (by first | rfl | assumption | (repeat first | assumption | rfl | refine aG_n ?_ rfl rfl)) (by first | rfl | assumption | (repeat first | assumption | rfl | refine aG_n ?_ rfl rfl)) (by first | rfl | assumption | (repeat first | assumption | rfl | refine aG_n ?_ rfl rfl)) (by rw [e]; first | rfl | assumption | (repeat first | assumption | rfl | refine aG_n ?_ rfl rfl)) (by rw [e]; first | rfl | assumption | (repeat first | assumption | rfl | refine aG_n ?_ rfl rfl)) (by rw [← nI_i1]; first | rfl | assumption | (repeat first | assumption | rfl | refine aG_n ?_ rfl rfl))
end MBEST
theorem J_best (a b wh : Int32) : Jnt mX11_best mX12_best [.int a, .int b, .int wh] := by
  intro X μ0 Q hI k
  by_cases c1 : inR a 0 3 ∧ inR b 0 3 ∧ a ≠ b
  · by_cases c2 : inR wh 0 3
    · obtain ⟨i, hi, rfl⟩ := inR_of (n := 3) c1.1
      obtain ⟨j, hj, rfl⟩ := inR_of (n := 3) c1.2.1
      refine ?_
      refine wp_iload_n (pc := 0) dX11_best_0 (by first | rfl | assumption | (repeat first | assumption | rfl | refine aG_n ?_ rfl rfl)) ?_
      refine wp_iload_n (pc := 1) dX11_best_1 (by first | rfl | assumption | (repeat first | assumption | rfl | refine aG_n ?_ rfl rfl)) ?_
      refine wp_cS (pc := 2) dX11_best_2 lk_11_183 rfl rfl rfl (c_X11_isTwoHouses (fun _ => aK_i ?_) (fun q => absurd c1 q))
      refine wp_if_eq (pc := 5) (tgt := 17) dX11_best_5 rfl (fun q => absurd q (by decide)) (fun _ => ?_)
      refine wp_iload_n (pc := 8) dX11_best_8 (by first | rfl | assumption | (repeat first | assumption | rfl | refine aG_n ?_ rfl rfl)) ?_
      refine wp_iconst (pc := 9) (v := 0) dX11_best_9 (by decide) ?_
      refine wp_iconst (pc := 10) (v := 3) dX11_best_10 (by decide) ?_
      refine wp_cS (pc := 11) dX11_best_11 lk_11_112 rfl rfl rfl (c_X11_isWithin (fun _ => aK_i ?_) (fun q => absurd c2 q))
      refine wp_if_ne (pc := 14) (tgt := 21) dX11_best_14 rfl (fun _ => ?_) (fun q => absurd q (by decide))
      refine wp_aload_n (pc := 21) dX11_best_21 (by first | rfl | assumption | (repeat first | assumption | rfl | refine aG_n ?_ rfl rfl)) ?_
      refine wp_getR (pc := 22) dX11_best_22 fl_11_80 (by first | rfl | assumption | exact sh_house (by omega) | exact sh_wish (by omega) | exact sh_wor (by omega) | exact sh_bar (by omega) | exact sh_term (by omega) | exact sh_sheet (by omega) | exact sh_items (by omega) | exact sh_sums (by omega)) rfl ?_
      refine wp_aload_n (pc := 25) dX11_best_25 (by first | rfl | assumption | (repeat first | assumption | rfl | refine aG_n ?_ rfl rfl)) ?_
      refine wp_getR (pc := 26) dX11_best_26 fl_11_11 (by first | rfl | assumption | exact sh_house (by omega) | exact sh_wish (by omega) | exact sh_wor (by omega) | exact sh_bar (by omega) | exact sh_term (by omega) | exact sh_sheet (by omega) | exact sh_items (by omega) | exact sh_sums (by omega)) rfl ?_
      refine wp_iload_n (pc := 29) dX11_best_29 (by first | rfl | assumption | (repeat first | assumption | rfl | refine aG_n ?_ rfl rfl)) ?_
      refine wp_aald (pc := 30) dX11_best_30 (by first | rfl | assumption | exact sh_house (by omega) | exact sh_wish (by omega) | exact sh_wor (by omega) | exact sh_bar (by omega) | exact sh_term (by omega) | exact sh_sheet (by omega) | exact sh_items (by omega) | exact sh_sums (by omega)) (vp_in_nI (by omega) (by decide)) (by decide) (el_house (by omega)) ?_
      refine wp_aload_n (pc := 31) dX11_best_31 (by first | rfl | assumption | (repeat first | assumption | rfl | refine aG_n ?_ rfl rfl)) ?_
      refine wp_getR (pc := 32) dX11_best_32 fl_11_11 (by first | rfl | assumption | exact sh_house (by omega) | exact sh_wish (by omega) | exact sh_wor (by omega) | exact sh_bar (by omega) | exact sh_term (by omega) | exact sh_sheet (by omega) | exact sh_items (by omega) | exact sh_sums (by omega)) rfl ?_
      refine wp_iload_n (pc := 35) dX11_best_35 (by first | rfl | assumption | (repeat first | assumption | rfl | refine aG_n ?_ rfl rfl)) ?_
      refine wp_aald (pc := 36) dX11_best_36 (by first | rfl | assumption | exact sh_house (by omega) | exact sh_wish (by omega) | exact sh_wor (by omega) | exact sh_bar (by omega) | exact sh_term (by omega) | exact sh_sheet (by omega) | exact sh_items (by omega) | exact sh_sums (by omega)) (vp_in_nI (by omega) (by decide)) (by decide) (el_house (by omega)) ?_
      refine wp_cV (pc := 37) dX11_best_37 lk_11_172 rfl (by decide) rfl (by first | rfl | assumption | exact sh_house (by omega) | exact sh_wish (by omega) | exact sh_wor (by omega) | exact sh_bar (by omega) | exact sh_term (by omega) | exact sh_sheet (by omega) | exact sh_items (by omega) | exact sh_sums (by omega)) rfl rfl (c_take71 hI (show i < 4 by omega) (show j < 4 by omega) (fun μ hI1 e1 e2 et hPr e3 e4 => aK_v ?_))
      refine wp_aload_n (pc := 40) dX11_best_40 (by first | rfl | assumption | (repeat first | assumption | rfl | refine aG_n ?_ rfl rfl)) ?_
      refine wp_getR (pc := 41) dX11_best_41 fl_11_80 (by first | rfl | assumption | exact sh_house (by omega) | exact sh_wish (by omega) | exact sh_wor (by omega) | exact sh_bar (by omega) | exact sh_term (by omega) | exact sh_sheet (by omega) | exact sh_items (by omega) | exact sh_sums (by omega)) rfl ?_
      refine wp_cV (pc := 44) dX11_best_44 lk_11_186 rfl (by decide) rfl (by first | rfl | assumption | exact sh_house (by omega) | exact sh_wish (by omega) | exact sh_wor (by omega) | exact sh_bar (by omega) | exact sh_term (by omega) | exact sh_sheet (by omega) | exact sh_items (by omega) | exact sh_sums (by omega)) rfl rfl (c_X4_bestSet hPr (aK_i ?_))
      refine wp_istore (pc := 47) dX11_best_47 (by decide) ?_
      skip
      have hW1 := hI1.2.2.2.1
      have hL1 := hI1.2.2.1
      rcases bs_is (okP μ.1 (two (th μ.1 i) (th μ.1 j)) (two (56 + 4 * i) (56 + 4 * j))) (fun n => gnd μ.1 (two (th μ.1 i) (th μ.1 j)) (two (56 + 4 * i) (56 + 4 * j)) 0 n + gnd μ.1 (two (th μ.1 i) (th μ.1 j)) (two (56 + 4 * i) (56 + 4 * j)) 1 n) 64 with hb | ⟨u, hu, hb⟩
      · skip
        refine wp_iload (pc := 49) dX11_best_49 (by first | rfl | assumption | (repeat first | assumption | rfl | refine aG_n ?_ rfl rfl)) ?_
        refine wp_if_ge (pc := 51) (tgt := 58) dX11_best_51 rfl (fun q => absurd q (by rw [hb]; decide)) (fun _ => ?_)
        refine wp_sipush (pc := 54) (v := -10004) dX11_best_54 (by decide) ?_
        refine wp_ireturn (pc := 57) dX11_best_57 rfl (by first | rfl | decide | assumption) ?_
        refine k _ _ (fun Q' k' => ?_)
        refine wp_iload_n (pc := 0) dX12_best_0 (by first | rfl | assumption | (repeat first | assumption | rfl | refine aG_n ?_ rfl rfl)) ?_
        refine wp_cS (pc := 1) dX12_best_1 lk_12_143 rfl rfl rfl (c_X12_isHouse (fun _ => aK_i ?_) (fun q => absurd c1.1 q))
        refine wp_if_eq (pc := 4) (tgt := 31) dX12_best_4 rfl (fun q => absurd q (by decide)) (fun _ => ?_)
        refine wp_iload_n (pc := 7) dX12_best_7 (by first | rfl | assumption | (repeat first | assumption | rfl | refine aG_n ?_ rfl rfl)) ?_
        refine wp_cS (pc := 8) dX12_best_8 lk_12_143 rfl rfl rfl (c_X12_isHouse (fun _ => aK_i ?_) (fun q => absurd c1.2.1 q))
        refine wp_if_eq (pc := 11) (tgt := 31) dX12_best_11 rfl (fun q => absurd q (by decide)) (fun _ => ?_)
        refine wp_iload_n (pc := 14) dX12_best_14 (by first | rfl | assumption | (repeat first | assumption | rfl | refine aG_n ?_ rfl rfl)) ?_
        refine wp_iload_n (pc := 15) dX12_best_15 (by first | rfl | assumption | (repeat first | assumption | rfl | refine aG_n ?_ rfl rfl)) ?_
        refine wp_icmp_eq (pc := 16) (tgt := 31) dX12_best_16 rfl (fun q => absurd q c1.2.2) (fun _ => ?_)
        refine wp_iload_n (pc := 19) dX12_best_19 (by first | rfl | assumption | (repeat first | assumption | rfl | refine aG_n ?_ rfl rfl)) ?_
        refine wp_i2l (pc := 20) dX12_best_20 ?_
        refine wp_lconst (pc := 21) (v := 0) dX12_best_21 (by decide) ?_
        refine wp_ldc2 (pc := 22) dX12_best_22 cl_12_131 ?_
        refine wp_cS (pc := 25) dX12_best_25 lk_12_133 rfl rfl rfl (c_X12_in (fun _ => aK_i ?_) (fun q => absurd (by rw [w_int]; exact c2) q))
        refine wp_if_ne (pc := 28) (tgt := 35) dX12_best_28 rfl (fun _ => ?_) (fun q => absurd q (by decide))
        refine wp_aload_n (pc := 35) dX12_best_35 (by first | rfl | assumption | (repeat first | assumption | rfl | refine aG_n ?_ rfl rfl)) ?_
        refine wp_iload_n (pc := 36) dX12_best_36 (by first | rfl | assumption | (repeat first | assumption | rfl | refine aG_n ?_ rfl rfl)) ?_
        refine wp_cV (pc := 37) dX12_best_37 lk_12_208 rfl (by decide) rfl (by first | rfl | assumption | exact sh_house (by omega) | exact sh_wish (by omega) | exact sh_wor (by omega) | exact sh_bar (by omega) | exact sh_term (by omega) | exact sh_sheet (by omega) | exact sh_items (by omega) | exact sh_sums (by omega)) rfl rfl (c_X12_thingsOf (aK_i ?_))
        refine wp_aload_n (pc := 40) dX12_best_40 (by first | rfl | assumption | (repeat first | assumption | rfl | refine aG_n ?_ rfl rfl)) ?_
        refine wp_iload_n (pc := 41) dX12_best_41 (by first | rfl | assumption | (repeat first | assumption | rfl | refine aG_n ?_ rfl rfl)) ?_
        refine wp_cV (pc := 42) dX12_best_42 lk_12_208 rfl (by decide) rfl (by first | rfl | assumption | exact sh_house (by omega) | exact sh_wish (by omega) | exact sh_wor (by omega) | exact sh_bar (by omega) | exact sh_term (by omega) | exact sh_sheet (by omega) | exact sh_items (by omega) | exact sh_sums (by omega)) rfl rfl (c_X12_thingsOf (aK_i ?_))
        refine wp_ior (pc := 45) dX12_best_45 ?_
        refine wp_istore (pc := 46) dX12_best_46 (by decide) ?_
        refine wp_iconst (pc := 48) (v := -1) dX12_best_48 (by decide) ?_
        refine wp_istore (pc := 49) dX12_best_49 (by decide) ?_
        refine wp_iconst (pc := 51) (v := 0) dX12_best_51 (by decide) ?_
        refine wp_istore (pc := 52) dX12_best_52 (by decide) ?_
        refine wp_iconst (pc := 54) (v := 0) dX12_best_54 (by decide) ?_
        refine wp_istore (pc := 55) dX12_best_55 (by decide) ?_
        refine l_m_best (i := i) (j := j) (wh := _) hI1.2.2.2.1 (by omega) (by omega) (fun L h0 h1 h2 h3 h4 h5 h6 => ?_) 64 0 (by omega) _ (by first | rfl | assumption | (repeat first | assumption | rfl | refine aG_n ?_ rfl rfl)) (by first | rfl | assumption | (repeat first | assumption | rfl | refine aG_n ?_ rfl rfl)) (by first | rfl | assumption | (repeat first | assumption | rfl | refine aG_n ?_ rfl rfl)) (by first | rfl | assumption | (repeat first | assumption | rfl | refine aG_n ?_ rfl rfl)) (by first | rfl | assumption | (repeat first | assumption | rfl | refine aG_n ?_ rfl rfl)) (by first | rfl | assumption | (repeat first | assumption | rfl | refine aG_n ?_ rfl rfl)) (by first | rfl | assumption | (repeat first | assumption | rfl | refine aG_n ?_ rfl rfl)) (by first | rfl | assumption | (repeat first | assumption | rfl | refine aG_n ?_ rfl rfl))
        refine wp_iload (pc := 137) dX12_best_137 (by first | rfl | assumption | (repeat first | assumption | rfl | refine aG_n ?_ rfl rfl)) ?_
        refine wp_if_lt (pc := 139) (tgt := 160) dX12_best_139 rfl (fun _ => ?_) (fun q => absurd (by rw [hb]; decide) q)
        refine wp_sipush (pc := 160) (v := -10004) dX12_best_160 (by decide) ?_
        refine wp_ireturn (pc := 163) dX12_best_163 rfl (by first | rfl | decide | assumption) ?_
        exact k' _ hI1
      · simp only [hb]
        have hi4 : i < 4 := by omega
        have hj4 : j < 4 := by omega
        have ci : (nI i).toNatClampNeg = i := nI_clamp (by omega)
        have cj : (nI j).toNatClampNeg = j := nI_clamp (by omega)
        have lu : ¬ nI u < 0 := nI_nlt (b := 0) (by omega) (by omega)
        have su := gnd_0 μ.1 i j u
        have sv := gnd_1 μ.1 i j u
        have lq : μ.1 (55 + 4 * i) 2 = μ.1 89 i := (hL1 i hi4).1.1
        have lr : μ.1 (55 + 4 * j) 2 = μ.1 89 j := (hL1 j hj4).1.1
        by_cases c4 : gnd μ.1 (two (th μ.1 i) (th μ.1 j)) (two (56 + 4 * i) (56 + 4 * j)) 0 u + gnd μ.1 (two (th μ.1 i) (th μ.1 j)) (two (56 + 4 * i) (56 + 4 * j)) 1 u < μ.1 89 i + μ.1 89 j
        · have c4' : gnd μ.1 (two (th μ.1 i) (th μ.1 j)) (two (56 + 4 * i) (56 + 4 * j)) 0 u + gnd μ.1 (two (th μ.1 i) (th μ.1 j)) (two (56 + 4 * i) (56 + 4 * j)) 1 u < μ.1 (55 + 4 * i) 2 + μ.1 (55 + 4 * j) 2 := by rw [lq, lr]; exact c4
          refine wp_iload (pc := 49) dX11_best_49 (by first | rfl | assumption | (repeat first | assumption | rfl | refine aG_n ?_ rfl rfl)) ?_
          refine wp_if_ge (pc := 51) (tgt := 58) dX11_best_51 rfl (fun _ => ?_) (fun q => absurd (by rw [i_le, nI_toInt (by omega)]; exact Int.natCast_nonneg u) q)
          refine wp_aload_n (pc := 58) dX11_best_58 (by first | rfl | assumption | (repeat first | assumption | rfl | refine aG_n ?_ rfl rfl)) ?_
          refine wp_getR (pc := 59) dX11_best_59 fl_11_80 (by first | rfl | assumption | exact sh_house (by omega) | exact sh_wish (by omega) | exact sh_wor (by omega) | exact sh_bar (by omega) | exact sh_term (by omega) | exact sh_sheet (by omega) | exact sh_items (by omega) | exact sh_sums (by omega)) rfl ?_
          refine wp_iload (pc := 62) dX11_best_62 (by first | rfl | assumption | (repeat first | assumption | rfl | refine aG_n ?_ rfl rfl)) ?_
          refine wp_cV (pc := 64) dX11_best_64 lk_11_190 rfl (by decide) rfl (by first | rfl | assumption | exact sh_house (by omega) | exact sh_wish (by omega) | exact sh_wor (by omega) | exact sh_bar (by omega) | exact sh_term (by omega) | exact sh_sheet (by omega) | exact sh_items (by omega) | exact sh_sums (by omega)) rfl rfl (c_X4_evenPrice hPr hu (aK_i ?_))
          refine wp_istore (pc := 67) dX11_best_67 (by decide) ?_
          refine wp_aload_n (pc := 69) dX11_best_69 (by first | rfl | assumption | (repeat first | assumption | rfl | refine aG_n ?_ rfl rfl)) ?_
          refine wp_getR (pc := 70) dX11_best_70 fl_11_80 (by first | rfl | assumption | exact sh_house (by omega) | exact sh_wish (by omega) | exact sh_wor (by omega) | exact sh_bar (by omega) | exact sh_term (by omega) | exact sh_sheet (by omega) | exact sh_items (by omega) | exact sh_sums (by omega)) rfl ?_
          refine wp_iload (pc := 73) dX11_best_73 (by first | rfl | assumption | (repeat first | assumption | rfl | refine aG_n ?_ rfl rfl)) ?_
          refine wp_cV (pc := 75) dX11_best_75 lk_11_193 rfl (by decide) rfl (by first | rfl | assumption | exact sh_house (by omega) | exact sh_wish (by omega) | exact sh_wor (by omega) | exact sh_bar (by omega) | exact sh_term (by omega) | exact sh_sheet (by omega) | exact sh_items (by omega) | exact sh_sums (by omega)) rfl rfl (c_X4_sumOfGains hPr hu (aK_i ?_))
          refine wp_aload_n (pc := 78) dX11_best_78 (by first | rfl | assumption | (repeat first | assumption | rfl | refine aG_n ?_ rfl rfl)) ?_
          refine wp_getR (pc := 79) dX11_best_79 fl_11_11 (by first | rfl | assumption | exact sh_house (by omega) | exact sh_wish (by omega) | exact sh_wor (by omega) | exact sh_bar (by omega) | exact sh_term (by omega) | exact sh_sheet (by omega) | exact sh_items (by omega) | exact sh_sums (by omega)) rfl ?_
          refine wp_iload_n (pc := 82) dX11_best_82 (by first | rfl | assumption | (repeat first | assumption | rfl | refine aG_n ?_ rfl rfl)) ?_
          refine wp_aald (pc := 83) dX11_best_83 (by first | rfl | assumption | exact sh_house (by omega) | exact sh_wish (by omega) | exact sh_wor (by omega) | exact sh_bar (by omega) | exact sh_term (by omega) | exact sh_sheet (by omega) | exact sh_items (by omega) | exact sh_sums (by omega)) (vp_in_nI (by omega) (by decide)) (by decide) (el_house (by omega)) ?_
          refine wp_getI (pc := 84) dX11_best_84 fl_11_152 (by first | rfl | assumption | exact sh_house (by omega) | exact sh_wish (by omega) | exact sh_wor (by omega) | exact sh_bar (by omega) | exact sh_term (by omega) | exact sh_sheet (by omega) | exact sh_items (by omega) | exact sh_sums (by omega)) rfl ?_
          refine wp_aload_n (pc := 87) dX11_best_87 (by first | rfl | assumption | (repeat first | assumption | rfl | refine aG_n ?_ rfl rfl)) ?_
          refine wp_getR (pc := 88) dX11_best_88 fl_11_11 (by first | rfl | assumption | exact sh_house (by omega) | exact sh_wish (by omega) | exact sh_wor (by omega) | exact sh_bar (by omega) | exact sh_term (by omega) | exact sh_sheet (by omega) | exact sh_items (by omega) | exact sh_sums (by omega)) rfl ?_
          refine wp_iload_n (pc := 91) dX11_best_91 (by first | rfl | assumption | (repeat first | assumption | rfl | refine aG_n ?_ rfl rfl)) ?_
          refine wp_aald (pc := 92) dX11_best_92 (by first | rfl | assumption | exact sh_house (by omega) | exact sh_wish (by omega) | exact sh_wor (by omega) | exact sh_bar (by omega) | exact sh_term (by omega) | exact sh_sheet (by omega) | exact sh_items (by omega) | exact sh_sums (by omega)) (vp_in_nI (by omega) (by decide)) (by decide) (el_house (by omega)) ?_
          refine wp_getI (pc := 93) dX11_best_93 fl_11_152 (by first | rfl | assumption | exact sh_house (by omega) | exact sh_wish (by omega) | exact sh_wor (by omega) | exact sh_bar (by omega) | exact sh_term (by omega) | exact sh_sheet (by omega) | exact sh_items (by omega) | exact sh_sums (by omega)) rfl ?_
          refine wp_iadd (pc := 96) dX11_best_96 ?_
          refine wp_icmp_lt (pc := 97) (tgt := 122) dX11_best_97 rfl (fun _ => ?_) (fun q => absurd c4' q)
          refine wp_sipush (pc := 122) (v := -10004) dX11_best_122 (by decide) ?_
          refine wp_ireturn (pc := 125) dX11_best_125 rfl (by first | rfl | decide | assumption) ?_
          refine k _ _ (fun Q' k' => ?_)
          refine wp_iload_n (pc := 0) dX12_best_0 (by first | rfl | assumption | (repeat first | assumption | rfl | refine aG_n ?_ rfl rfl)) ?_
          refine wp_cS (pc := 1) dX12_best_1 lk_12_143 rfl rfl rfl (c_X12_isHouse (fun _ => aK_i ?_) (fun q => absurd c1.1 q))
          refine wp_if_eq (pc := 4) (tgt := 31) dX12_best_4 rfl (fun q => absurd q (by decide)) (fun _ => ?_)
          refine wp_iload_n (pc := 7) dX12_best_7 (by first | rfl | assumption | (repeat first | assumption | rfl | refine aG_n ?_ rfl rfl)) ?_
          refine wp_cS (pc := 8) dX12_best_8 lk_12_143 rfl rfl rfl (c_X12_isHouse (fun _ => aK_i ?_) (fun q => absurd c1.2.1 q))
          refine wp_if_eq (pc := 11) (tgt := 31) dX12_best_11 rfl (fun q => absurd q (by decide)) (fun _ => ?_)
          refine wp_iload_n (pc := 14) dX12_best_14 (by first | rfl | assumption | (repeat first | assumption | rfl | refine aG_n ?_ rfl rfl)) ?_
          refine wp_iload_n (pc := 15) dX12_best_15 (by first | rfl | assumption | (repeat first | assumption | rfl | refine aG_n ?_ rfl rfl)) ?_
          refine wp_icmp_eq (pc := 16) (tgt := 31) dX12_best_16 rfl (fun q => absurd q c1.2.2) (fun _ => ?_)
          refine wp_iload_n (pc := 19) dX12_best_19 (by first | rfl | assumption | (repeat first | assumption | rfl | refine aG_n ?_ rfl rfl)) ?_
          refine wp_i2l (pc := 20) dX12_best_20 ?_
          refine wp_lconst (pc := 21) (v := 0) dX12_best_21 (by decide) ?_
          refine wp_ldc2 (pc := 22) dX12_best_22 cl_12_131 ?_
          refine wp_cS (pc := 25) dX12_best_25 lk_12_133 rfl rfl rfl (c_X12_in (fun _ => aK_i ?_) (fun q => absurd (by rw [w_int]; exact c2) q))
          refine wp_if_ne (pc := 28) (tgt := 35) dX12_best_28 rfl (fun _ => ?_) (fun q => absurd q (by decide))
          refine wp_aload_n (pc := 35) dX12_best_35 (by first | rfl | assumption | (repeat first | assumption | rfl | refine aG_n ?_ rfl rfl)) ?_
          refine wp_iload_n (pc := 36) dX12_best_36 (by first | rfl | assumption | (repeat first | assumption | rfl | refine aG_n ?_ rfl rfl)) ?_
          refine wp_cV (pc := 37) dX12_best_37 lk_12_208 rfl (by decide) rfl (by first | rfl | assumption | exact sh_house (by omega) | exact sh_wish (by omega) | exact sh_wor (by omega) | exact sh_bar (by omega) | exact sh_term (by omega) | exact sh_sheet (by omega) | exact sh_items (by omega) | exact sh_sums (by omega)) rfl rfl (c_X12_thingsOf (aK_i ?_))
          refine wp_aload_n (pc := 40) dX12_best_40 (by first | rfl | assumption | (repeat first | assumption | rfl | refine aG_n ?_ rfl rfl)) ?_
          refine wp_iload_n (pc := 41) dX12_best_41 (by first | rfl | assumption | (repeat first | assumption | rfl | refine aG_n ?_ rfl rfl)) ?_
          refine wp_cV (pc := 42) dX12_best_42 lk_12_208 rfl (by decide) rfl (by first | rfl | assumption | exact sh_house (by omega) | exact sh_wish (by omega) | exact sh_wor (by omega) | exact sh_bar (by omega) | exact sh_term (by omega) | exact sh_sheet (by omega) | exact sh_items (by omega) | exact sh_sums (by omega)) rfl rfl (c_X12_thingsOf (aK_i ?_))
          refine wp_ior (pc := 45) dX12_best_45 ?_
          refine wp_istore (pc := 46) dX12_best_46 (by decide) ?_
          refine wp_iconst (pc := 48) (v := -1) dX12_best_48 (by decide) ?_
          refine wp_istore (pc := 49) dX12_best_49 (by decide) ?_
          refine wp_iconst (pc := 51) (v := 0) dX12_best_51 (by decide) ?_
          refine wp_istore (pc := 52) dX12_best_52 (by decide) ?_
          refine wp_iconst (pc := 54) (v := 0) dX12_best_54 (by decide) ?_
          refine wp_istore (pc := 55) dX12_best_55 (by decide) ?_
          refine l_m_best (i := i) (j := j) (wh := _) hI1.2.2.2.1 (by omega) (by omega) (fun L h0 h1 h2 h3 h4 h5 h6 => ?_) 64 0 (by omega) _ (by first | rfl | assumption | (repeat first | assumption | rfl | refine aG_n ?_ rfl rfl)) (by first | rfl | assumption | (repeat first | assumption | rfl | refine aG_n ?_ rfl rfl)) (by first | rfl | assumption | (repeat first | assumption | rfl | refine aG_n ?_ rfl rfl)) (by first | rfl | assumption | (repeat first | assumption | rfl | refine aG_n ?_ rfl rfl)) (by first | rfl | assumption | (repeat first | assumption | rfl | refine aG_n ?_ rfl rfl)) (by first | rfl | assumption | (repeat first | assumption | rfl | refine aG_n ?_ rfl rfl)) (by first | rfl | assumption | (repeat first | assumption | rfl | refine aG_n ?_ rfl rfl)) (by first | rfl | assumption | (repeat first | assumption | rfl | refine aG_n ?_ rfl rfl))
          rw [hb] at h5 h6
          replace h6 : aL_get L 6 = some (.int (gnd μ.1 (two (th μ.1 i) (th μ.1 j)) (two (56 + 4 * i) (56 + 4 * j)) 0 u + gnd μ.1 (two (th μ.1 i) (th μ.1 j)) (two (56 + 4 * i) (56 + 4 * j)) 1 u)) := h6
          refine wp_iload (pc := 137) dX12_best_137 (by first | rfl | assumption | (repeat first | assumption | rfl | refine aG_n ?_ rfl rfl)) ?_
          refine wp_if_lt (pc := 139) (tgt := 160) dX12_best_139 rfl (fun q => absurd q lu) (fun _ => ?_)
          refine wp_iload (pc := 142) dX12_best_142 (by first | rfl | assumption | (repeat first | assumption | rfl | refine aG_n ?_ rfl rfl)) ?_
          refine wp_aload_n (pc := 144) dX12_best_144 (by first | rfl | assumption | (repeat first | assumption | rfl | refine aG_n ?_ rfl rfl)) ?_
          refine wp_getR (pc := 145) dX12_best_145 fl_12_16 (by first | rfl | assumption | exact sh_house (by omega) | exact sh_wish (by omega) | exact sh_wor (by omega) | exact sh_bar (by omega) | exact sh_term (by omega) | exact sh_sheet (by omega) | exact sh_items (by omega) | exact sh_sums (by omega)) rfl ?_
          refine wp_iload_n (pc := 148) dX12_best_148 (by first | rfl | assumption | (repeat first | assumption | rfl | refine aG_n ?_ rfl rfl)) ?_
          refine wp_iald (pc := 149) dX12_best_149 (by first | rfl | assumption | exact sh_house (by omega) | exact sh_wish (by omega) | exact sh_wor (by omega) | exact sh_bar (by omega) | exact sh_term (by omega) | exact sh_sheet (by omega) | exact sh_items (by omega) | exact sh_sums (by omega)) (vp_in_nI (by omega) (by decide)) ?_
          refine wp_aload_n (pc := 150) dX12_best_150 (by first | rfl | assumption | (repeat first | assumption | rfl | refine aG_n ?_ rfl rfl)) ?_
          refine wp_getR (pc := 151) dX12_best_151 fl_12_16 (by first | rfl | assumption | exact sh_house (by omega) | exact sh_wish (by omega) | exact sh_wor (by omega) | exact sh_bar (by omega) | exact sh_term (by omega) | exact sh_sheet (by omega) | exact sh_items (by omega) | exact sh_sums (by omega)) rfl ?_
          refine wp_iload_n (pc := 154) dX12_best_154 (by first | rfl | assumption | (repeat first | assumption | rfl | refine aG_n ?_ rfl rfl)) ?_
          refine wp_iald (pc := 155) dX12_best_155 (by first | rfl | assumption | exact sh_house (by omega) | exact sh_wish (by omega) | exact sh_wor (by omega) | exact sh_bar (by omega) | exact sh_term (by omega) | exact sh_sheet (by omega) | exact sh_items (by omega) | exact sh_sums (by omega)) (vp_in_nI (by omega) (by decide)) ?_
          refine wp_iadd (pc := 156) dX12_best_156 ?_
          refine wp_icmp_ge (pc := 157) (tgt := 164) dX12_best_157 rfl (fun q => absurd q (by rw [ci, cj]; exact fun z => i_nle c4 z)) (fun _ => ?_)
          refine wp_sipush (pc := 160) (v := -10004) dX12_best_160 (by decide) ?_
          refine wp_ireturn (pc := 163) dX12_best_163 rfl (by first | rfl | decide | assumption) ?_
          exact k' _ hI1
        · have c4' : ¬ gnd μ.1 (two (th μ.1 i) (th μ.1 j)) (two (56 + 4 * i) (56 + 4 * j)) 0 u + gnd μ.1 (two (th μ.1 i) (th μ.1 j)) (two (56 + 4 * i) (56 + 4 * j)) 1 u < μ.1 (55 + 4 * i) 2 + μ.1 (55 + 4 * j) 2 := by rw [lq, lr]; exact c4
          have hm4 : μ.1 89 (nI i).toNatClampNeg + μ.1 89 (nI j).toNatClampNeg ≤ gnd μ.1 (two (th μ.1 i) (th μ.1 j)) (two (56 + 4 * i) (56 + 4 * j)) 0 u + gnd μ.1 (two (th μ.1 i) (th μ.1 j)) (two (56 + 4 * i) (56 + 4 * j)) 1 u := by rw [ci, cj]; exact i_nlt c4
          by_cases c5 : inR ((gnd μ.1 (two (th μ.1 i) (th μ.1 j)) (two (56 + 4 * i) (56 + 4 * j)) 0 u - gnd μ.1 (two (th μ.1 i) (th μ.1 j)) (two (56 + 4 * i) (56 + 4 * j)) 1 u) / 2) (-999) 999
          · by_cases c6 : goM μ.1 i j u ((gnd μ.1 (two (th μ.1 i) (th μ.1 j)) (two (56 + 4 * i) (56 + 4 * j)) 0 u - gnd μ.1 (two (th μ.1 i) (th μ.1 j)) (two (56 + 4 * i) (56 + 4 * j)) 1 u) / 2)
            · have c6' := (goB_i e3 e4).mpr c6
              have c7 : goM μ.1 i j u ((μ.1 (57 + 4 * i) (th μ.1 i ^^^ u) - μ.1 (57 + 4 * i) (th μ.1 i) - (μ.1 (57 + 4 * j) (th μ.1 j ^^^ u) - μ.1 (57 + 4 * j) (th μ.1 j))) / 2) := by rw [← su, ← sv]; exact c6
              obtain ⟨y, hy, rfl⟩ := inR_of (n := 3) c2
              have hy4 : y = 0 ∨ y = 1 ∨ y = 2 ∨ y = 3 := by omega
              rcases hy4 with rfl | rfl | rfl | rfl
              · skip
                refine wp_iload (pc := 49) dX11_best_49 (by first | rfl | assumption | (repeat first | assumption | rfl | refine aG_n ?_ rfl rfl)) ?_
                refine wp_if_ge (pc := 51) (tgt := 58) dX11_best_51 rfl (fun _ => ?_) (fun q => absurd (by rw [i_le, nI_toInt (by omega)]; exact Int.natCast_nonneg u) q)
                refine wp_aload_n (pc := 58) dX11_best_58 (by first | rfl | assumption | (repeat first | assumption | rfl | refine aG_n ?_ rfl rfl)) ?_
                refine wp_getR (pc := 59) dX11_best_59 fl_11_80 (by first | rfl | assumption | exact sh_house (by omega) | exact sh_wish (by omega) | exact sh_wor (by omega) | exact sh_bar (by omega) | exact sh_term (by omega) | exact sh_sheet (by omega) | exact sh_items (by omega) | exact sh_sums (by omega)) rfl ?_
                refine wp_iload (pc := 62) dX11_best_62 (by first | rfl | assumption | (repeat first | assumption | rfl | refine aG_n ?_ rfl rfl)) ?_
                refine wp_cV (pc := 64) dX11_best_64 lk_11_190 rfl (by decide) rfl (by first | rfl | assumption | exact sh_house (by omega) | exact sh_wish (by omega) | exact sh_wor (by omega) | exact sh_bar (by omega) | exact sh_term (by omega) | exact sh_sheet (by omega) | exact sh_items (by omega) | exact sh_sums (by omega)) rfl rfl (c_X4_evenPrice hPr hu (aK_i ?_))
                refine wp_istore (pc := 67) dX11_best_67 (by decide) ?_
                refine wp_aload_n (pc := 69) dX11_best_69 (by first | rfl | assumption | (repeat first | assumption | rfl | refine aG_n ?_ rfl rfl)) ?_
                refine wp_getR (pc := 70) dX11_best_70 fl_11_80 (by first | rfl | assumption | exact sh_house (by omega) | exact sh_wish (by omega) | exact sh_wor (by omega) | exact sh_bar (by omega) | exact sh_term (by omega) | exact sh_sheet (by omega) | exact sh_items (by omega) | exact sh_sums (by omega)) rfl ?_
                refine wp_iload (pc := 73) dX11_best_73 (by first | rfl | assumption | (repeat first | assumption | rfl | refine aG_n ?_ rfl rfl)) ?_
                refine wp_cV (pc := 75) dX11_best_75 lk_11_193 rfl (by decide) rfl (by first | rfl | assumption | exact sh_house (by omega) | exact sh_wish (by omega) | exact sh_wor (by omega) | exact sh_bar (by omega) | exact sh_term (by omega) | exact sh_sheet (by omega) | exact sh_items (by omega) | exact sh_sums (by omega)) rfl rfl (c_X4_sumOfGains hPr hu (aK_i ?_))
                refine wp_aload_n (pc := 78) dX11_best_78 (by first | rfl | assumption | (repeat first | assumption | rfl | refine aG_n ?_ rfl rfl)) ?_
                refine wp_getR (pc := 79) dX11_best_79 fl_11_11 (by first | rfl | assumption | exact sh_house (by omega) | exact sh_wish (by omega) | exact sh_wor (by omega) | exact sh_bar (by omega) | exact sh_term (by omega) | exact sh_sheet (by omega) | exact sh_items (by omega) | exact sh_sums (by omega)) rfl ?_
                refine wp_iload_n (pc := 82) dX11_best_82 (by first | rfl | assumption | (repeat first | assumption | rfl | refine aG_n ?_ rfl rfl)) ?_
                refine wp_aald (pc := 83) dX11_best_83 (by first | rfl | assumption | exact sh_house (by omega) | exact sh_wish (by omega) | exact sh_wor (by omega) | exact sh_bar (by omega) | exact sh_term (by omega) | exact sh_sheet (by omega) | exact sh_items (by omega) | exact sh_sums (by omega)) (vp_in_nI (by omega) (by decide)) (by decide) (el_house (by omega)) ?_
                refine wp_getI (pc := 84) dX11_best_84 fl_11_152 (by first | rfl | assumption | exact sh_house (by omega) | exact sh_wish (by omega) | exact sh_wor (by omega) | exact sh_bar (by omega) | exact sh_term (by omega) | exact sh_sheet (by omega) | exact sh_items (by omega) | exact sh_sums (by omega)) rfl ?_
                refine wp_aload_n (pc := 87) dX11_best_87 (by first | rfl | assumption | (repeat first | assumption | rfl | refine aG_n ?_ rfl rfl)) ?_
                refine wp_getR (pc := 88) dX11_best_88 fl_11_11 (by first | rfl | assumption | exact sh_house (by omega) | exact sh_wish (by omega) | exact sh_wor (by omega) | exact sh_bar (by omega) | exact sh_term (by omega) | exact sh_sheet (by omega) | exact sh_items (by omega) | exact sh_sums (by omega)) rfl ?_
                refine wp_iload_n (pc := 91) dX11_best_91 (by first | rfl | assumption | (repeat first | assumption | rfl | refine aG_n ?_ rfl rfl)) ?_
                refine wp_aald (pc := 92) dX11_best_92 (by first | rfl | assumption | exact sh_house (by omega) | exact sh_wish (by omega) | exact sh_wor (by omega) | exact sh_bar (by omega) | exact sh_term (by omega) | exact sh_sheet (by omega) | exact sh_items (by omega) | exact sh_sums (by omega)) (vp_in_nI (by omega) (by decide)) (by decide) (el_house (by omega)) ?_
                refine wp_getI (pc := 93) dX11_best_93 fl_11_152 (by first | rfl | assumption | exact sh_house (by omega) | exact sh_wish (by omega) | exact sh_wor (by omega) | exact sh_bar (by omega) | exact sh_term (by omega) | exact sh_sheet (by omega) | exact sh_items (by omega) | exact sh_sums (by omega)) rfl ?_
                refine wp_iadd (pc := 96) dX11_best_96 ?_
                refine wp_icmp_lt (pc := 97) (tgt := 122) dX11_best_97 rfl (fun q => absurd q c4') (fun _ => ?_)
                refine wp_iload (pc := 100) dX11_best_100 (by first | rfl | assumption | (repeat first | assumption | rfl | refine aG_n ?_ rfl rfl)) ?_
                refine wp_cS (pc := 102) dX11_best_102 lk_11_196 rfl rfl rfl (c_X11_isPrice (fun _ => aK_i ?_) (fun q => absurd c5 q))
                refine wp_if_eq (pc := 105) (tgt := 122) dX11_best_105 rfl (fun q => absurd q (by decide)) (fun _ => ?_)
                refine wp_aload_n (pc := 108) dX11_best_108 (by first | rfl | assumption | (repeat first | assumption | rfl | refine aG_n ?_ rfl rfl)) ?_
                refine wp_getR (pc := 109) dX11_best_109 fl_11_80 (by first | rfl | assumption | exact sh_house (by omega) | exact sh_wish (by omega) | exact sh_wor (by omega) | exact sh_bar (by omega) | exact sh_term (by omega) | exact sh_sheet (by omega) | exact sh_items (by omega) | exact sh_sums (by omega)) rfl ?_
                refine wp_iload (pc := 112) dX11_best_112 (by first | rfl | assumption | (repeat first | assumption | rfl | refine aG_n ?_ rfl rfl)) ?_
                refine wp_iload (pc := 114) dX11_best_114 (by first | rfl | assumption | (repeat first | assumption | rfl | refine aG_n ?_ rfl rfl)) ?_
                refine wp_cV (pc := 116) dX11_best_116 lk_11_179 rfl (by decide) rfl (by first | rfl | assumption | exact sh_house (by omega) | exact sh_wish (by omega) | exact sh_wor (by omega) | exact sh_bar (by omega) | exact sh_term (by omega) | exact sh_sheet (by omega) | exact sh_items (by omega) | exact sh_sums (by omega)) rfl rfl (c_X4_isGood hPr hu (fun _ => aK_i ?_) (fun q => absurd c6' q))
                refine wp_if_ne (pc := 119) (tgt := 126) dX11_best_119 rfl (fun _ => ?_) (fun q => absurd q (by decide))
                refine wp_iload_n (pc := 126) dX11_best_126 (by first | rfl | assumption | (repeat first | assumption | rfl | refine aG_n ?_ rfl rfl)) ?_
                refine wp_swI (pc := 127) (j := 0) (off := 25) (tgt := 152) dX11_best_127 (by decide) (by decide) rfl rfl ?_
                refine wp_iload (pc := 152) dX11_best_152 (by first | rfl | assumption | (repeat first | assumption | rfl | refine aG_n ?_ rfl rfl)) ?_
                refine wp_ireturn (pc := 154) dX11_best_154 rfl (by first | rfl | decide | assumption) ?_
                refine k _ _ (fun Q' k' => ?_)
                refine wp_iload_n (pc := 0) dX12_best_0 (by first | rfl | assumption | (repeat first | assumption | rfl | refine aG_n ?_ rfl rfl)) ?_
                refine wp_cS (pc := 1) dX12_best_1 lk_12_143 rfl rfl rfl (c_X12_isHouse (fun _ => aK_i ?_) (fun q => absurd c1.1 q))
                refine wp_if_eq (pc := 4) (tgt := 31) dX12_best_4 rfl (fun q => absurd q (by decide)) (fun _ => ?_)
                refine wp_iload_n (pc := 7) dX12_best_7 (by first | rfl | assumption | (repeat first | assumption | rfl | refine aG_n ?_ rfl rfl)) ?_
                refine wp_cS (pc := 8) dX12_best_8 lk_12_143 rfl rfl rfl (c_X12_isHouse (fun _ => aK_i ?_) (fun q => absurd c1.2.1 q))
                refine wp_if_eq (pc := 11) (tgt := 31) dX12_best_11 rfl (fun q => absurd q (by decide)) (fun _ => ?_)
                refine wp_iload_n (pc := 14) dX12_best_14 (by first | rfl | assumption | (repeat first | assumption | rfl | refine aG_n ?_ rfl rfl)) ?_
                refine wp_iload_n (pc := 15) dX12_best_15 (by first | rfl | assumption | (repeat first | assumption | rfl | refine aG_n ?_ rfl rfl)) ?_
                refine wp_icmp_eq (pc := 16) (tgt := 31) dX12_best_16 rfl (fun q => absurd q c1.2.2) (fun _ => ?_)
                refine wp_iload_n (pc := 19) dX12_best_19 (by first | rfl | assumption | (repeat first | assumption | rfl | refine aG_n ?_ rfl rfl)) ?_
                refine wp_i2l (pc := 20) dX12_best_20 ?_
                refine wp_lconst (pc := 21) (v := 0) dX12_best_21 (by decide) ?_
                refine wp_ldc2 (pc := 22) dX12_best_22 cl_12_131 ?_
                refine wp_cS (pc := 25) dX12_best_25 lk_12_133 rfl rfl rfl (c_X12_in (fun _ => aK_i ?_) (fun q => absurd (by rw [w_int]; exact c2) q))
                refine wp_if_ne (pc := 28) (tgt := 35) dX12_best_28 rfl (fun _ => ?_) (fun q => absurd q (by decide))
                refine wp_aload_n (pc := 35) dX12_best_35 (by first | rfl | assumption | (repeat first | assumption | rfl | refine aG_n ?_ rfl rfl)) ?_
                refine wp_iload_n (pc := 36) dX12_best_36 (by first | rfl | assumption | (repeat first | assumption | rfl | refine aG_n ?_ rfl rfl)) ?_
                refine wp_cV (pc := 37) dX12_best_37 lk_12_208 rfl (by decide) rfl (by first | rfl | assumption | exact sh_house (by omega) | exact sh_wish (by omega) | exact sh_wor (by omega) | exact sh_bar (by omega) | exact sh_term (by omega) | exact sh_sheet (by omega) | exact sh_items (by omega) | exact sh_sums (by omega)) rfl rfl (c_X12_thingsOf (aK_i ?_))
                refine wp_aload_n (pc := 40) dX12_best_40 (by first | rfl | assumption | (repeat first | assumption | rfl | refine aG_n ?_ rfl rfl)) ?_
                refine wp_iload_n (pc := 41) dX12_best_41 (by first | rfl | assumption | (repeat first | assumption | rfl | refine aG_n ?_ rfl rfl)) ?_
                refine wp_cV (pc := 42) dX12_best_42 lk_12_208 rfl (by decide) rfl (by first | rfl | assumption | exact sh_house (by omega) | exact sh_wish (by omega) | exact sh_wor (by omega) | exact sh_bar (by omega) | exact sh_term (by omega) | exact sh_sheet (by omega) | exact sh_items (by omega) | exact sh_sums (by omega)) rfl rfl (c_X12_thingsOf (aK_i ?_))
                refine wp_ior (pc := 45) dX12_best_45 ?_
                refine wp_istore (pc := 46) dX12_best_46 (by decide) ?_
                refine wp_iconst (pc := 48) (v := -1) dX12_best_48 (by decide) ?_
                refine wp_istore (pc := 49) dX12_best_49 (by decide) ?_
                refine wp_iconst (pc := 51) (v := 0) dX12_best_51 (by decide) ?_
                refine wp_istore (pc := 52) dX12_best_52 (by decide) ?_
                refine wp_iconst (pc := 54) (v := 0) dX12_best_54 (by decide) ?_
                refine wp_istore (pc := 55) dX12_best_55 (by decide) ?_
                refine l_m_best (i := i) (j := j) (wh := _) hI1.2.2.2.1 (by omega) (by omega) (fun L h0 h1 h2 h3 h4 h5 h6 => ?_) 64 0 (by omega) _ (by first | rfl | assumption | (repeat first | assumption | rfl | refine aG_n ?_ rfl rfl)) (by first | rfl | assumption | (repeat first | assumption | rfl | refine aG_n ?_ rfl rfl)) (by first | rfl | assumption | (repeat first | assumption | rfl | refine aG_n ?_ rfl rfl)) (by first | rfl | assumption | (repeat first | assumption | rfl | refine aG_n ?_ rfl rfl)) (by first | rfl | assumption | (repeat first | assumption | rfl | refine aG_n ?_ rfl rfl)) (by first | rfl | assumption | (repeat first | assumption | rfl | refine aG_n ?_ rfl rfl)) (by first | rfl | assumption | (repeat first | assumption | rfl | refine aG_n ?_ rfl rfl)) (by first | rfl | assumption | (repeat first | assumption | rfl | refine aG_n ?_ rfl rfl))
                rw [hb] at h5 h6
                replace h6 : aL_get L 6 = some (.int (gnd μ.1 (two (th μ.1 i) (th μ.1 j)) (two (56 + 4 * i) (56 + 4 * j)) 0 u + gnd μ.1 (two (th μ.1 i) (th μ.1 j)) (two (56 + 4 * i) (56 + 4 * j)) 1 u)) := h6
                refine wp_iload (pc := 137) dX12_best_137 (by first | rfl | assumption | (repeat first | assumption | rfl | refine aG_n ?_ rfl rfl)) ?_
                refine wp_if_lt (pc := 139) (tgt := 160) dX12_best_139 rfl (fun q => absurd q lu) (fun _ => ?_)
                refine wp_iload (pc := 142) dX12_best_142 (by first | rfl | assumption | (repeat first | assumption | rfl | refine aG_n ?_ rfl rfl)) ?_
                refine wp_aload_n (pc := 144) dX12_best_144 (by first | rfl | assumption | (repeat first | assumption | rfl | refine aG_n ?_ rfl rfl)) ?_
                refine wp_getR (pc := 145) dX12_best_145 fl_12_16 (by first | rfl | assumption | exact sh_house (by omega) | exact sh_wish (by omega) | exact sh_wor (by omega) | exact sh_bar (by omega) | exact sh_term (by omega) | exact sh_sheet (by omega) | exact sh_items (by omega) | exact sh_sums (by omega)) rfl ?_
                refine wp_iload_n (pc := 148) dX12_best_148 (by first | rfl | assumption | (repeat first | assumption | rfl | refine aG_n ?_ rfl rfl)) ?_
                refine wp_iald (pc := 149) dX12_best_149 (by first | rfl | assumption | exact sh_house (by omega) | exact sh_wish (by omega) | exact sh_wor (by omega) | exact sh_bar (by omega) | exact sh_term (by omega) | exact sh_sheet (by omega) | exact sh_items (by omega) | exact sh_sums (by omega)) (vp_in_nI (by omega) (by decide)) ?_
                refine wp_aload_n (pc := 150) dX12_best_150 (by first | rfl | assumption | (repeat first | assumption | rfl | refine aG_n ?_ rfl rfl)) ?_
                refine wp_getR (pc := 151) dX12_best_151 fl_12_16 (by first | rfl | assumption | exact sh_house (by omega) | exact sh_wish (by omega) | exact sh_wor (by omega) | exact sh_bar (by omega) | exact sh_term (by omega) | exact sh_sheet (by omega) | exact sh_items (by omega) | exact sh_sums (by omega)) rfl ?_
                refine wp_iload_n (pc := 154) dX12_best_154 (by first | rfl | assumption | (repeat first | assumption | rfl | refine aG_n ?_ rfl rfl)) ?_
                refine wp_iald (pc := 155) dX12_best_155 (by first | rfl | assumption | exact sh_house (by omega) | exact sh_wish (by omega) | exact sh_wor (by omega) | exact sh_bar (by omega) | exact sh_term (by omega) | exact sh_sheet (by omega) | exact sh_items (by omega) | exact sh_sums (by omega)) (vp_in_nI (by omega) (by decide)) ?_
                refine wp_iadd (pc := 156) dX12_best_156 ?_
                refine wp_icmp_ge (pc := 157) (tgt := 164) dX12_best_157 rfl (fun _ => ?_) (fun q => absurd hm4 q)
                refine wp_aload_n (pc := 164) dX12_best_164 (by first | rfl | assumption | (repeat first | assumption | rfl | refine aG_n ?_ rfl rfl)) ?_
                refine wp_iload_n (pc := 165) dX12_best_165 (by first | rfl | assumption | (repeat first | assumption | rfl | refine aG_n ?_ rfl rfl)) ?_
                refine wp_iload (pc := 166) dX12_best_166 (by first | rfl | assumption | (repeat first | assumption | rfl | refine aG_n ?_ rfl rfl)) ?_
                refine wp_cV (pc := 168) dX12_best_168 lk_12_224 rfl (by decide) rfl (by first | rfl | assumption | exact sh_house (by omega) | exact sh_wish (by omega) | exact sh_wor (by omega) | exact sh_bar (by omega) | exact sh_term (by omega) | exact sh_sheet (by omega) | exact sh_items (by omega) | exact sh_sums (by omega)) rfl rfl (m_more hW1 hi4 hu rfl (aK_i ?_))
                refine wp_aload_n (pc := 171) dX12_best_171 (by first | rfl | assumption | (repeat first | assumption | rfl | refine aG_n ?_ rfl rfl)) ?_
                refine wp_iload_n (pc := 172) dX12_best_172 (by first | rfl | assumption | (repeat first | assumption | rfl | refine aG_n ?_ rfl rfl)) ?_
                refine wp_iload (pc := 173) dX12_best_173 (by first | rfl | assumption | (repeat first | assumption | rfl | refine aG_n ?_ rfl rfl)) ?_
                refine wp_cV (pc := 175) dX12_best_175 lk_12_224 rfl (by decide) rfl (by first | rfl | assumption | exact sh_house (by omega) | exact sh_wish (by omega) | exact sh_wor (by omega) | exact sh_bar (by omega) | exact sh_term (by omega) | exact sh_sheet (by omega) | exact sh_items (by omega) | exact sh_sums (by omega)) rfl rfl (m_more hW1 hj4 hu rfl (aK_i ?_))
                refine wp_isub (pc := 178) dX12_best_178 ?_
                refine wp_iconst (pc := 179) (v := 2) dX12_best_179 (by decide) ?_
                refine wp_idiv (pc := 180) dX12_best_180 (by decide) ?_
                refine wp_istore (pc := 181) dX12_best_181 (by decide) ?_
                refine wp_iload (pc := 183) dX12_best_183 (by first | rfl | assumption | (repeat first | assumption | rfl | refine aG_n ?_ rfl rfl)) ?_
                refine wp_i2l (pc := 185) dX12_best_185 ?_
                refine wp_ldc2 (pc := 186) dX12_best_186 cl_12_218 ?_
                refine wp_ldc2 (pc := 189) dX12_best_189 cl_12_216 ?_
                refine wp_cS (pc := 192) dX12_best_192 lk_12_133 rfl rfl rfl (c_X12_in (fun _ => aK_i ?_) (fun q => absurd (by rw [w_int, ← su, ← sv]; exact c5) q))
                refine wp_if_eq (pc := 195) (tgt := 211) dX12_best_195 rfl (fun q => absurd q (by decide)) (fun _ => ?_)
                refine wp_aload_n (pc := 198) dX12_best_198 (by first | rfl | assumption | (repeat first | assumption | rfl | refine aG_n ?_ rfl rfl)) ?_
                refine wp_iload_n (pc := 199) dX12_best_199 (by first | rfl | assumption | (repeat first | assumption | rfl | refine aG_n ?_ rfl rfl)) ?_
                refine wp_iload_n (pc := 200) dX12_best_200 (by first | rfl | assumption | (repeat first | assumption | rfl | refine aG_n ?_ rfl rfl)) ?_
                refine wp_iload (pc := 201) dX12_best_201 (by first | rfl | assumption | (repeat first | assumption | rfl | refine aG_n ?_ rfl rfl)) ?_
                refine wp_iload (pc := 203) dX12_best_203 (by first | rfl | assumption | (repeat first | assumption | rfl | refine aG_n ?_ rfl rfl)) ?_
                refine wp_cV (pc := 205) dX12_best_205 lk_12_230 rfl (by decide) rfl (by first | rfl | assumption | exact sh_house (by omega) | exact sh_wish (by omega) | exact sh_wor (by omega) | exact sh_bar (by omega) | exact sh_term (by omega) | exact sh_sheet (by omega) | exact sh_items (by omega) | exact sh_sums (by omega)) rfl rfl (m_good hW1 hi4 hj4 hu rfl (fun _ => aK_i ?_) (fun q => absurd c7 q))
                refine wp_if_ne (pc := 208) (tgt := 215) dX12_best_208 rfl (fun _ => ?_) (fun q => absurd q (by decide))
                refine wp_iload_n (pc := 215) dX12_best_215 (by first | rfl | assumption | (repeat first | assumption | rfl | refine aG_n ?_ rfl rfl)) ?_
                refine wp_if_ne (pc := 216) (tgt := 224) dX12_best_216 rfl (fun q => absurd rfl q) (fun _ => ?_)
                refine wp_iload (pc := 219) dX12_best_219 (by first | rfl | assumption | (repeat first | assumption | rfl | refine aG_n ?_ rfl rfl)) ?_
                refine wp_goto (pc := 221) (tgt := 262) dX12_best_221 rfl ?_
                refine wp_ireturn (pc := 262) dX12_best_262 rfl (by first | rfl | decide | assumption) ?_
                exact k' _ hI1
              · skip
                refine wp_iload (pc := 49) dX11_best_49 (by first | rfl | assumption | (repeat first | assumption | rfl | refine aG_n ?_ rfl rfl)) ?_
                refine wp_if_ge (pc := 51) (tgt := 58) dX11_best_51 rfl (fun _ => ?_) (fun q => absurd (by rw [i_le, nI_toInt (by omega)]; exact Int.natCast_nonneg u) q)
                refine wp_aload_n (pc := 58) dX11_best_58 (by first | rfl | assumption | (repeat first | assumption | rfl | refine aG_n ?_ rfl rfl)) ?_
                refine wp_getR (pc := 59) dX11_best_59 fl_11_80 (by first | rfl | assumption | exact sh_house (by omega) | exact sh_wish (by omega) | exact sh_wor (by omega) | exact sh_bar (by omega) | exact sh_term (by omega) | exact sh_sheet (by omega) | exact sh_items (by omega) | exact sh_sums (by omega)) rfl ?_
                refine wp_iload (pc := 62) dX11_best_62 (by first | rfl | assumption | (repeat first | assumption | rfl | refine aG_n ?_ rfl rfl)) ?_
                refine wp_cV (pc := 64) dX11_best_64 lk_11_190 rfl (by decide) rfl (by first | rfl | assumption | exact sh_house (by omega) | exact sh_wish (by omega) | exact sh_wor (by omega) | exact sh_bar (by omega) | exact sh_term (by omega) | exact sh_sheet (by omega) | exact sh_items (by omega) | exact sh_sums (by omega)) rfl rfl (c_X4_evenPrice hPr hu (aK_i ?_))
                refine wp_istore (pc := 67) dX11_best_67 (by decide) ?_
                refine wp_aload_n (pc := 69) dX11_best_69 (by first | rfl | assumption | (repeat first | assumption | rfl | refine aG_n ?_ rfl rfl)) ?_
                refine wp_getR (pc := 70) dX11_best_70 fl_11_80 (by first | rfl | assumption | exact sh_house (by omega) | exact sh_wish (by omega) | exact sh_wor (by omega) | exact sh_bar (by omega) | exact sh_term (by omega) | exact sh_sheet (by omega) | exact sh_items (by omega) | exact sh_sums (by omega)) rfl ?_
                refine wp_iload (pc := 73) dX11_best_73 (by first | rfl | assumption | (repeat first | assumption | rfl | refine aG_n ?_ rfl rfl)) ?_
                refine wp_cV (pc := 75) dX11_best_75 lk_11_193 rfl (by decide) rfl (by first | rfl | assumption | exact sh_house (by omega) | exact sh_wish (by omega) | exact sh_wor (by omega) | exact sh_bar (by omega) | exact sh_term (by omega) | exact sh_sheet (by omega) | exact sh_items (by omega) | exact sh_sums (by omega)) rfl rfl (c_X4_sumOfGains hPr hu (aK_i ?_))
                refine wp_aload_n (pc := 78) dX11_best_78 (by first | rfl | assumption | (repeat first | assumption | rfl | refine aG_n ?_ rfl rfl)) ?_
                refine wp_getR (pc := 79) dX11_best_79 fl_11_11 (by first | rfl | assumption | exact sh_house (by omega) | exact sh_wish (by omega) | exact sh_wor (by omega) | exact sh_bar (by omega) | exact sh_term (by omega) | exact sh_sheet (by omega) | exact sh_items (by omega) | exact sh_sums (by omega)) rfl ?_
                refine wp_iload_n (pc := 82) dX11_best_82 (by first | rfl | assumption | (repeat first | assumption | rfl | refine aG_n ?_ rfl rfl)) ?_
                refine wp_aald (pc := 83) dX11_best_83 (by first | rfl | assumption | exact sh_house (by omega) | exact sh_wish (by omega) | exact sh_wor (by omega) | exact sh_bar (by omega) | exact sh_term (by omega) | exact sh_sheet (by omega) | exact sh_items (by omega) | exact sh_sums (by omega)) (vp_in_nI (by omega) (by decide)) (by decide) (el_house (by omega)) ?_
                refine wp_getI (pc := 84) dX11_best_84 fl_11_152 (by first | rfl | assumption | exact sh_house (by omega) | exact sh_wish (by omega) | exact sh_wor (by omega) | exact sh_bar (by omega) | exact sh_term (by omega) | exact sh_sheet (by omega) | exact sh_items (by omega) | exact sh_sums (by omega)) rfl ?_
                refine wp_aload_n (pc := 87) dX11_best_87 (by first | rfl | assumption | (repeat first | assumption | rfl | refine aG_n ?_ rfl rfl)) ?_
                refine wp_getR (pc := 88) dX11_best_88 fl_11_11 (by first | rfl | assumption | exact sh_house (by omega) | exact sh_wish (by omega) | exact sh_wor (by omega) | exact sh_bar (by omega) | exact sh_term (by omega) | exact sh_sheet (by omega) | exact sh_items (by omega) | exact sh_sums (by omega)) rfl ?_
                refine wp_iload_n (pc := 91) dX11_best_91 (by first | rfl | assumption | (repeat first | assumption | rfl | refine aG_n ?_ rfl rfl)) ?_
                refine wp_aald (pc := 92) dX11_best_92 (by first | rfl | assumption | exact sh_house (by omega) | exact sh_wish (by omega) | exact sh_wor (by omega) | exact sh_bar (by omega) | exact sh_term (by omega) | exact sh_sheet (by omega) | exact sh_items (by omega) | exact sh_sums (by omega)) (vp_in_nI (by omega) (by decide)) (by decide) (el_house (by omega)) ?_
                refine wp_getI (pc := 93) dX11_best_93 fl_11_152 (by first | rfl | assumption | exact sh_house (by omega) | exact sh_wish (by omega) | exact sh_wor (by omega) | exact sh_bar (by omega) | exact sh_term (by omega) | exact sh_sheet (by omega) | exact sh_items (by omega) | exact sh_sums (by omega)) rfl ?_
                refine wp_iadd (pc := 96) dX11_best_96 ?_
                refine wp_icmp_lt (pc := 97) (tgt := 122) dX11_best_97 rfl (fun q => absurd q c4') (fun _ => ?_)
                refine wp_iload (pc := 100) dX11_best_100 (by first | rfl | assumption | (repeat first | assumption | rfl | refine aG_n ?_ rfl rfl)) ?_
                refine wp_cS (pc := 102) dX11_best_102 lk_11_196 rfl rfl rfl (c_X11_isPrice (fun _ => aK_i ?_) (fun q => absurd c5 q))
                refine wp_if_eq (pc := 105) (tgt := 122) dX11_best_105 rfl (fun q => absurd q (by decide)) (fun _ => ?_)
                refine wp_aload_n (pc := 108) dX11_best_108 (by first | rfl | assumption | (repeat first | assumption | rfl | refine aG_n ?_ rfl rfl)) ?_
                refine wp_getR (pc := 109) dX11_best_109 fl_11_80 (by first | rfl | assumption | exact sh_house (by omega) | exact sh_wish (by omega) | exact sh_wor (by omega) | exact sh_bar (by omega) | exact sh_term (by omega) | exact sh_sheet (by omega) | exact sh_items (by omega) | exact sh_sums (by omega)) rfl ?_
                refine wp_iload (pc := 112) dX11_best_112 (by first | rfl | assumption | (repeat first | assumption | rfl | refine aG_n ?_ rfl rfl)) ?_
                refine wp_iload (pc := 114) dX11_best_114 (by first | rfl | assumption | (repeat first | assumption | rfl | refine aG_n ?_ rfl rfl)) ?_
                refine wp_cV (pc := 116) dX11_best_116 lk_11_179 rfl (by decide) rfl (by first | rfl | assumption | exact sh_house (by omega) | exact sh_wish (by omega) | exact sh_wor (by omega) | exact sh_bar (by omega) | exact sh_term (by omega) | exact sh_sheet (by omega) | exact sh_items (by omega) | exact sh_sums (by omega)) rfl rfl (c_X4_isGood hPr hu (fun _ => aK_i ?_) (fun q => absurd c6' q))
                refine wp_if_ne (pc := 119) (tgt := 126) dX11_best_119 rfl (fun _ => ?_) (fun q => absurd q (by decide))
                refine wp_iload_n (pc := 126) dX11_best_126 (by first | rfl | assumption | (repeat first | assumption | rfl | refine aG_n ?_ rfl rfl)) ?_
                refine wp_swI (pc := 127) (j := 1) (off := 28) (tgt := 155) dX11_best_127 (by decide) (by decide) rfl rfl ?_
                refine wp_iload (pc := 155) dX11_best_155 (by first | rfl | assumption | (repeat first | assumption | rfl | refine aG_n ?_ rfl rfl)) ?_
                refine wp_ireturn (pc := 157) dX11_best_157 rfl (by first | rfl | decide | assumption) ?_
                refine k _ _ (fun Q' k' => ?_)
                refine wp_iload_n (pc := 0) dX12_best_0 (by first | rfl | assumption | (repeat first | assumption | rfl | refine aG_n ?_ rfl rfl)) ?_
                refine wp_cS (pc := 1) dX12_best_1 lk_12_143 rfl rfl rfl (c_X12_isHouse (fun _ => aK_i ?_) (fun q => absurd c1.1 q))
                refine wp_if_eq (pc := 4) (tgt := 31) dX12_best_4 rfl (fun q => absurd q (by decide)) (fun _ => ?_)
                refine wp_iload_n (pc := 7) dX12_best_7 (by first | rfl | assumption | (repeat first | assumption | rfl | refine aG_n ?_ rfl rfl)) ?_
                refine wp_cS (pc := 8) dX12_best_8 lk_12_143 rfl rfl rfl (c_X12_isHouse (fun _ => aK_i ?_) (fun q => absurd c1.2.1 q))
                refine wp_if_eq (pc := 11) (tgt := 31) dX12_best_11 rfl (fun q => absurd q (by decide)) (fun _ => ?_)
                refine wp_iload_n (pc := 14) dX12_best_14 (by first | rfl | assumption | (repeat first | assumption | rfl | refine aG_n ?_ rfl rfl)) ?_
                refine wp_iload_n (pc := 15) dX12_best_15 (by first | rfl | assumption | (repeat first | assumption | rfl | refine aG_n ?_ rfl rfl)) ?_
                refine wp_icmp_eq (pc := 16) (tgt := 31) dX12_best_16 rfl (fun q => absurd q c1.2.2) (fun _ => ?_)
                refine wp_iload_n (pc := 19) dX12_best_19 (by first | rfl | assumption | (repeat first | assumption | rfl | refine aG_n ?_ rfl rfl)) ?_
                refine wp_i2l (pc := 20) dX12_best_20 ?_
                refine wp_lconst (pc := 21) (v := 0) dX12_best_21 (by decide) ?_
                refine wp_ldc2 (pc := 22) dX12_best_22 cl_12_131 ?_
                refine wp_cS (pc := 25) dX12_best_25 lk_12_133 rfl rfl rfl (c_X12_in (fun _ => aK_i ?_) (fun q => absurd (by rw [w_int]; exact c2) q))
                refine wp_if_ne (pc := 28) (tgt := 35) dX12_best_28 rfl (fun _ => ?_) (fun q => absurd q (by decide))
                refine wp_aload_n (pc := 35) dX12_best_35 (by first | rfl | assumption | (repeat first | assumption | rfl | refine aG_n ?_ rfl rfl)) ?_
                refine wp_iload_n (pc := 36) dX12_best_36 (by first | rfl | assumption | (repeat first | assumption | rfl | refine aG_n ?_ rfl rfl)) ?_
                refine wp_cV (pc := 37) dX12_best_37 lk_12_208 rfl (by decide) rfl (by first | rfl | assumption | exact sh_house (by omega) | exact sh_wish (by omega) | exact sh_wor (by omega) | exact sh_bar (by omega) | exact sh_term (by omega) | exact sh_sheet (by omega) | exact sh_items (by omega) | exact sh_sums (by omega)) rfl rfl (c_X12_thingsOf (aK_i ?_))
                refine wp_aload_n (pc := 40) dX12_best_40 (by first | rfl | assumption | (repeat first | assumption | rfl | refine aG_n ?_ rfl rfl)) ?_
                refine wp_iload_n (pc := 41) dX12_best_41 (by first | rfl | assumption | (repeat first | assumption | rfl | refine aG_n ?_ rfl rfl)) ?_
                refine wp_cV (pc := 42) dX12_best_42 lk_12_208 rfl (by decide) rfl (by first | rfl | assumption | exact sh_house (by omega) | exact sh_wish (by omega) | exact sh_wor (by omega) | exact sh_bar (by omega) | exact sh_term (by omega) | exact sh_sheet (by omega) | exact sh_items (by omega) | exact sh_sums (by omega)) rfl rfl (c_X12_thingsOf (aK_i ?_))
                refine wp_ior (pc := 45) dX12_best_45 ?_
                refine wp_istore (pc := 46) dX12_best_46 (by decide) ?_
                refine wp_iconst (pc := 48) (v := -1) dX12_best_48 (by decide) ?_
                refine wp_istore (pc := 49) dX12_best_49 (by decide) ?_
                refine wp_iconst (pc := 51) (v := 0) dX12_best_51 (by decide) ?_
                refine wp_istore (pc := 52) dX12_best_52 (by decide) ?_
                refine wp_iconst (pc := 54) (v := 0) dX12_best_54 (by decide) ?_
                refine wp_istore (pc := 55) dX12_best_55 (by decide) ?_
                refine l_m_best (i := i) (j := j) (wh := _) hI1.2.2.2.1 (by omega) (by omega) (fun L h0 h1 h2 h3 h4 h5 h6 => ?_) 64 0 (by omega) _ (by first | rfl | assumption | (repeat first | assumption | rfl | refine aG_n ?_ rfl rfl)) (by first | rfl | assumption | (repeat first | assumption | rfl | refine aG_n ?_ rfl rfl)) (by first | rfl | assumption | (repeat first | assumption | rfl | refine aG_n ?_ rfl rfl)) (by first | rfl | assumption | (repeat first | assumption | rfl | refine aG_n ?_ rfl rfl)) (by first | rfl | assumption | (repeat first | assumption | rfl | refine aG_n ?_ rfl rfl)) (by first | rfl | assumption | (repeat first | assumption | rfl | refine aG_n ?_ rfl rfl)) (by first | rfl | assumption | (repeat first | assumption | rfl | refine aG_n ?_ rfl rfl)) (by first | rfl | assumption | (repeat first | assumption | rfl | refine aG_n ?_ rfl rfl))
                rw [hb] at h5 h6
                replace h6 : aL_get L 6 = some (.int (gnd μ.1 (two (th μ.1 i) (th μ.1 j)) (two (56 + 4 * i) (56 + 4 * j)) 0 u + gnd μ.1 (two (th μ.1 i) (th μ.1 j)) (two (56 + 4 * i) (56 + 4 * j)) 1 u)) := h6
                refine wp_iload (pc := 137) dX12_best_137 (by first | rfl | assumption | (repeat first | assumption | rfl | refine aG_n ?_ rfl rfl)) ?_
                refine wp_if_lt (pc := 139) (tgt := 160) dX12_best_139 rfl (fun q => absurd q lu) (fun _ => ?_)
                refine wp_iload (pc := 142) dX12_best_142 (by first | rfl | assumption | (repeat first | assumption | rfl | refine aG_n ?_ rfl rfl)) ?_
                refine wp_aload_n (pc := 144) dX12_best_144 (by first | rfl | assumption | (repeat first | assumption | rfl | refine aG_n ?_ rfl rfl)) ?_
                refine wp_getR (pc := 145) dX12_best_145 fl_12_16 (by first | rfl | assumption | exact sh_house (by omega) | exact sh_wish (by omega) | exact sh_wor (by omega) | exact sh_bar (by omega) | exact sh_term (by omega) | exact sh_sheet (by omega) | exact sh_items (by omega) | exact sh_sums (by omega)) rfl ?_
                refine wp_iload_n (pc := 148) dX12_best_148 (by first | rfl | assumption | (repeat first | assumption | rfl | refine aG_n ?_ rfl rfl)) ?_
                refine wp_iald (pc := 149) dX12_best_149 (by first | rfl | assumption | exact sh_house (by omega) | exact sh_wish (by omega) | exact sh_wor (by omega) | exact sh_bar (by omega) | exact sh_term (by omega) | exact sh_sheet (by omega) | exact sh_items (by omega) | exact sh_sums (by omega)) (vp_in_nI (by omega) (by decide)) ?_
                refine wp_aload_n (pc := 150) dX12_best_150 (by first | rfl | assumption | (repeat first | assumption | rfl | refine aG_n ?_ rfl rfl)) ?_
                refine wp_getR (pc := 151) dX12_best_151 fl_12_16 (by first | rfl | assumption | exact sh_house (by omega) | exact sh_wish (by omega) | exact sh_wor (by omega) | exact sh_bar (by omega) | exact sh_term (by omega) | exact sh_sheet (by omega) | exact sh_items (by omega) | exact sh_sums (by omega)) rfl ?_
                refine wp_iload_n (pc := 154) dX12_best_154 (by first | rfl | assumption | (repeat first | assumption | rfl | refine aG_n ?_ rfl rfl)) ?_
                refine wp_iald (pc := 155) dX12_best_155 (by first | rfl | assumption | exact sh_house (by omega) | exact sh_wish (by omega) | exact sh_wor (by omega) | exact sh_bar (by omega) | exact sh_term (by omega) | exact sh_sheet (by omega) | exact sh_items (by omega) | exact sh_sums (by omega)) (vp_in_nI (by omega) (by decide)) ?_
                refine wp_iadd (pc := 156) dX12_best_156 ?_
                refine wp_icmp_ge (pc := 157) (tgt := 164) dX12_best_157 rfl (fun _ => ?_) (fun q => absurd hm4 q)
                refine wp_aload_n (pc := 164) dX12_best_164 (by first | rfl | assumption | (repeat first | assumption | rfl | refine aG_n ?_ rfl rfl)) ?_
                refine wp_iload_n (pc := 165) dX12_best_165 (by first | rfl | assumption | (repeat first | assumption | rfl | refine aG_n ?_ rfl rfl)) ?_
                refine wp_iload (pc := 166) dX12_best_166 (by first | rfl | assumption | (repeat first | assumption | rfl | refine aG_n ?_ rfl rfl)) ?_
                refine wp_cV (pc := 168) dX12_best_168 lk_12_224 rfl (by decide) rfl (by first | rfl | assumption | exact sh_house (by omega) | exact sh_wish (by omega) | exact sh_wor (by omega) | exact sh_bar (by omega) | exact sh_term (by omega) | exact sh_sheet (by omega) | exact sh_items (by omega) | exact sh_sums (by omega)) rfl rfl (m_more hW1 hi4 hu rfl (aK_i ?_))
                refine wp_aload_n (pc := 171) dX12_best_171 (by first | rfl | assumption | (repeat first | assumption | rfl | refine aG_n ?_ rfl rfl)) ?_
                refine wp_iload_n (pc := 172) dX12_best_172 (by first | rfl | assumption | (repeat first | assumption | rfl | refine aG_n ?_ rfl rfl)) ?_
                refine wp_iload (pc := 173) dX12_best_173 (by first | rfl | assumption | (repeat first | assumption | rfl | refine aG_n ?_ rfl rfl)) ?_
                refine wp_cV (pc := 175) dX12_best_175 lk_12_224 rfl (by decide) rfl (by first | rfl | assumption | exact sh_house (by omega) | exact sh_wish (by omega) | exact sh_wor (by omega) | exact sh_bar (by omega) | exact sh_term (by omega) | exact sh_sheet (by omega) | exact sh_items (by omega) | exact sh_sums (by omega)) rfl rfl (m_more hW1 hj4 hu rfl (aK_i ?_))
                refine wp_isub (pc := 178) dX12_best_178 ?_
                refine wp_iconst (pc := 179) (v := 2) dX12_best_179 (by decide) ?_
                refine wp_idiv (pc := 180) dX12_best_180 (by decide) ?_
                refine wp_istore (pc := 181) dX12_best_181 (by decide) ?_
                refine wp_iload (pc := 183) dX12_best_183 (by first | rfl | assumption | (repeat first | assumption | rfl | refine aG_n ?_ rfl rfl)) ?_
                refine wp_i2l (pc := 185) dX12_best_185 ?_
                refine wp_ldc2 (pc := 186) dX12_best_186 cl_12_218 ?_
                refine wp_ldc2 (pc := 189) dX12_best_189 cl_12_216 ?_
                refine wp_cS (pc := 192) dX12_best_192 lk_12_133 rfl rfl rfl (c_X12_in (fun _ => aK_i ?_) (fun q => absurd (by rw [w_int, ← su, ← sv]; exact c5) q))
                refine wp_if_eq (pc := 195) (tgt := 211) dX12_best_195 rfl (fun q => absurd q (by decide)) (fun _ => ?_)
                refine wp_aload_n (pc := 198) dX12_best_198 (by first | rfl | assumption | (repeat first | assumption | rfl | refine aG_n ?_ rfl rfl)) ?_
                refine wp_iload_n (pc := 199) dX12_best_199 (by first | rfl | assumption | (repeat first | assumption | rfl | refine aG_n ?_ rfl rfl)) ?_
                refine wp_iload_n (pc := 200) dX12_best_200 (by first | rfl | assumption | (repeat first | assumption | rfl | refine aG_n ?_ rfl rfl)) ?_
                refine wp_iload (pc := 201) dX12_best_201 (by first | rfl | assumption | (repeat first | assumption | rfl | refine aG_n ?_ rfl rfl)) ?_
                refine wp_iload (pc := 203) dX12_best_203 (by first | rfl | assumption | (repeat first | assumption | rfl | refine aG_n ?_ rfl rfl)) ?_
                refine wp_cV (pc := 205) dX12_best_205 lk_12_230 rfl (by decide) rfl (by first | rfl | assumption | exact sh_house (by omega) | exact sh_wish (by omega) | exact sh_wor (by omega) | exact sh_bar (by omega) | exact sh_term (by omega) | exact sh_sheet (by omega) | exact sh_items (by omega) | exact sh_sums (by omega)) rfl rfl (m_good hW1 hi4 hj4 hu rfl (fun _ => aK_i ?_) (fun q => absurd c7 q))
                refine wp_if_ne (pc := 208) (tgt := 215) dX12_best_208 rfl (fun _ => ?_) (fun q => absurd q (by decide))
                refine wp_iload_n (pc := 215) dX12_best_215 (by first | rfl | assumption | (repeat first | assumption | rfl | refine aG_n ?_ rfl rfl)) ?_
                refine wp_if_ne (pc := 216) (tgt := 224) dX12_best_216 rfl (fun _ => ?_) (fun q => absurd q (by decide))
                refine wp_iload_n (pc := 224) dX12_best_224 (by first | rfl | assumption | (repeat first | assumption | rfl | refine aG_n ?_ rfl rfl)) ?_
                refine wp_iconst (pc := 225) (v := 1) dX12_best_225 (by decide) ?_
                refine wp_icmp_ne (pc := 226) (tgt := 234) dX12_best_226 rfl (fun q => absurd rfl q) (fun _ => ?_)
                refine wp_iload (pc := 229) dX12_best_229 (by first | rfl | assumption | (repeat first | assumption | rfl | refine aG_n ?_ rfl rfl)) ?_
                refine wp_goto (pc := 231) (tgt := 262) dX12_best_231 rfl ?_
                refine wp_ireturn (pc := 262) dX12_best_262 rfl (by first | rfl | decide | assumption) ?_
                refine qEq ?_ (k' _ hI1); simp only [gnp, if_true, su, sv, if_neg (show ¬ (1 : Nat) = 0 by decide)]
              · skip
                refine wp_iload (pc := 49) dX11_best_49 (by first | rfl | assumption | (repeat first | assumption | rfl | refine aG_n ?_ rfl rfl)) ?_
                refine wp_if_ge (pc := 51) (tgt := 58) dX11_best_51 rfl (fun _ => ?_) (fun q => absurd (by rw [i_le, nI_toInt (by omega)]; exact Int.natCast_nonneg u) q)
                refine wp_aload_n (pc := 58) dX11_best_58 (by first | rfl | assumption | (repeat first | assumption | rfl | refine aG_n ?_ rfl rfl)) ?_
                refine wp_getR (pc := 59) dX11_best_59 fl_11_80 (by first | rfl | assumption | exact sh_house (by omega) | exact sh_wish (by omega) | exact sh_wor (by omega) | exact sh_bar (by omega) | exact sh_term (by omega) | exact sh_sheet (by omega) | exact sh_items (by omega) | exact sh_sums (by omega)) rfl ?_
                refine wp_iload (pc := 62) dX11_best_62 (by first | rfl | assumption | (repeat first | assumption | rfl | refine aG_n ?_ rfl rfl)) ?_
                refine wp_cV (pc := 64) dX11_best_64 lk_11_190 rfl (by decide) rfl (by first | rfl | assumption | exact sh_house (by omega) | exact sh_wish (by omega) | exact sh_wor (by omega) | exact sh_bar (by omega) | exact sh_term (by omega) | exact sh_sheet (by omega) | exact sh_items (by omega) | exact sh_sums (by omega)) rfl rfl (c_X4_evenPrice hPr hu (aK_i ?_))
                refine wp_istore (pc := 67) dX11_best_67 (by decide) ?_
                refine wp_aload_n (pc := 69) dX11_best_69 (by first | rfl | assumption | (repeat first | assumption | rfl | refine aG_n ?_ rfl rfl)) ?_
                refine wp_getR (pc := 70) dX11_best_70 fl_11_80 (by first | rfl | assumption | exact sh_house (by omega) | exact sh_wish (by omega) | exact sh_wor (by omega) | exact sh_bar (by omega) | exact sh_term (by omega) | exact sh_sheet (by omega) | exact sh_items (by omega) | exact sh_sums (by omega)) rfl ?_
                refine wp_iload (pc := 73) dX11_best_73 (by first | rfl | assumption | (repeat first | assumption | rfl | refine aG_n ?_ rfl rfl)) ?_
                refine wp_cV (pc := 75) dX11_best_75 lk_11_193 rfl (by decide) rfl (by first | rfl | assumption | exact sh_house (by omega) | exact sh_wish (by omega) | exact sh_wor (by omega) | exact sh_bar (by omega) | exact sh_term (by omega) | exact sh_sheet (by omega) | exact sh_items (by omega) | exact sh_sums (by omega)) rfl rfl (c_X4_sumOfGains hPr hu (aK_i ?_))
                refine wp_aload_n (pc := 78) dX11_best_78 (by first | rfl | assumption | (repeat first | assumption | rfl | refine aG_n ?_ rfl rfl)) ?_
                refine wp_getR (pc := 79) dX11_best_79 fl_11_11 (by first | rfl | assumption | exact sh_house (by omega) | exact sh_wish (by omega) | exact sh_wor (by omega) | exact sh_bar (by omega) | exact sh_term (by omega) | exact sh_sheet (by omega) | exact sh_items (by omega) | exact sh_sums (by omega)) rfl ?_
                refine wp_iload_n (pc := 82) dX11_best_82 (by first | rfl | assumption | (repeat first | assumption | rfl | refine aG_n ?_ rfl rfl)) ?_
                refine wp_aald (pc := 83) dX11_best_83 (by first | rfl | assumption | exact sh_house (by omega) | exact sh_wish (by omega) | exact sh_wor (by omega) | exact sh_bar (by omega) | exact sh_term (by omega) | exact sh_sheet (by omega) | exact sh_items (by omega) | exact sh_sums (by omega)) (vp_in_nI (by omega) (by decide)) (by decide) (el_house (by omega)) ?_
                refine wp_getI (pc := 84) dX11_best_84 fl_11_152 (by first | rfl | assumption | exact sh_house (by omega) | exact sh_wish (by omega) | exact sh_wor (by omega) | exact sh_bar (by omega) | exact sh_term (by omega) | exact sh_sheet (by omega) | exact sh_items (by omega) | exact sh_sums (by omega)) rfl ?_
                refine wp_aload_n (pc := 87) dX11_best_87 (by first | rfl | assumption | (repeat first | assumption | rfl | refine aG_n ?_ rfl rfl)) ?_
                refine wp_getR (pc := 88) dX11_best_88 fl_11_11 (by first | rfl | assumption | exact sh_house (by omega) | exact sh_wish (by omega) | exact sh_wor (by omega) | exact sh_bar (by omega) | exact sh_term (by omega) | exact sh_sheet (by omega) | exact sh_items (by omega) | exact sh_sums (by omega)) rfl ?_
                refine wp_iload_n (pc := 91) dX11_best_91 (by first | rfl | assumption | (repeat first | assumption | rfl | refine aG_n ?_ rfl rfl)) ?_
                refine wp_aald (pc := 92) dX11_best_92 (by first | rfl | assumption | exact sh_house (by omega) | exact sh_wish (by omega) | exact sh_wor (by omega) | exact sh_bar (by omega) | exact sh_term (by omega) | exact sh_sheet (by omega) | exact sh_items (by omega) | exact sh_sums (by omega)) (vp_in_nI (by omega) (by decide)) (by decide) (el_house (by omega)) ?_
                refine wp_getI (pc := 93) dX11_best_93 fl_11_152 (by first | rfl | assumption | exact sh_house (by omega) | exact sh_wish (by omega) | exact sh_wor (by omega) | exact sh_bar (by omega) | exact sh_term (by omega) | exact sh_sheet (by omega) | exact sh_items (by omega) | exact sh_sums (by omega)) rfl ?_
                refine wp_iadd (pc := 96) dX11_best_96 ?_
                refine wp_icmp_lt (pc := 97) (tgt := 122) dX11_best_97 rfl (fun q => absurd q c4') (fun _ => ?_)
                refine wp_iload (pc := 100) dX11_best_100 (by first | rfl | assumption | (repeat first | assumption | rfl | refine aG_n ?_ rfl rfl)) ?_
                refine wp_cS (pc := 102) dX11_best_102 lk_11_196 rfl rfl rfl (c_X11_isPrice (fun _ => aK_i ?_) (fun q => absurd c5 q))
                refine wp_if_eq (pc := 105) (tgt := 122) dX11_best_105 rfl (fun q => absurd q (by decide)) (fun _ => ?_)
                refine wp_aload_n (pc := 108) dX11_best_108 (by first | rfl | assumption | (repeat first | assumption | rfl | refine aG_n ?_ rfl rfl)) ?_
                refine wp_getR (pc := 109) dX11_best_109 fl_11_80 (by first | rfl | assumption | exact sh_house (by omega) | exact sh_wish (by omega) | exact sh_wor (by omega) | exact sh_bar (by omega) | exact sh_term (by omega) | exact sh_sheet (by omega) | exact sh_items (by omega) | exact sh_sums (by omega)) rfl ?_
                refine wp_iload (pc := 112) dX11_best_112 (by first | rfl | assumption | (repeat first | assumption | rfl | refine aG_n ?_ rfl rfl)) ?_
                refine wp_iload (pc := 114) dX11_best_114 (by first | rfl | assumption | (repeat first | assumption | rfl | refine aG_n ?_ rfl rfl)) ?_
                refine wp_cV (pc := 116) dX11_best_116 lk_11_179 rfl (by decide) rfl (by first | rfl | assumption | exact sh_house (by omega) | exact sh_wish (by omega) | exact sh_wor (by omega) | exact sh_bar (by omega) | exact sh_term (by omega) | exact sh_sheet (by omega) | exact sh_items (by omega) | exact sh_sums (by omega)) rfl rfl (c_X4_isGood hPr hu (fun _ => aK_i ?_) (fun q => absurd c6' q))
                refine wp_if_ne (pc := 119) (tgt := 126) dX11_best_119 rfl (fun _ => ?_) (fun q => absurd q (by decide))
                refine wp_iload_n (pc := 126) dX11_best_126 (by first | rfl | assumption | (repeat first | assumption | rfl | refine aG_n ?_ rfl rfl)) ?_
                refine wp_swI (pc := 127) (j := 2) (off := 31) (tgt := 158) dX11_best_127 (by decide) (by decide) rfl rfl ?_
                refine wp_aload_n (pc := 158) dX11_best_158 (by first | rfl | assumption | (repeat first | assumption | rfl | refine aG_n ?_ rfl rfl)) ?_
                refine wp_getR (pc := 159) dX11_best_159 fl_11_80 (by first | rfl | assumption | exact sh_house (by omega) | exact sh_wish (by omega) | exact sh_wor (by omega) | exact sh_bar (by omega) | exact sh_term (by omega) | exact sh_sheet (by omega) | exact sh_items (by omega) | exact sh_sums (by omega)) rfl ?_
                refine wp_iconst (pc := 162) (v := 0) dX11_best_162 (by decide) ?_
                refine wp_iload (pc := 163) dX11_best_163 (by first | rfl | assumption | (repeat first | assumption | rfl | refine aG_n ?_ rfl rfl)) ?_
                refine wp_iload (pc := 165) dX11_best_165 (by first | rfl | assumption | (repeat first | assumption | rfl | refine aG_n ?_ rfl rfl)) ?_
                refine wp_cV (pc := 167) dX11_best_167 lk_11_175 rfl (by decide) rfl (by first | rfl | assumption | exact sh_house (by omega) | exact sh_wish (by omega) | exact sh_wor (by omega) | exact sh_bar (by omega) | exact sh_term (by omega) | exact sh_sheet (by omega) | exact sh_items (by omega) | exact sh_sums (by omega)) rfl rfl (c_X4_gained (d := 0) hPr (by decide) hu (aK_i ?_))
                refine wp_ireturn (pc := 170) dX11_best_170 rfl (by first | rfl | decide | assumption) ?_
                refine k _ _ (fun Q' k' => ?_)
                refine wp_iload_n (pc := 0) dX12_best_0 (by first | rfl | assumption | (repeat first | assumption | rfl | refine aG_n ?_ rfl rfl)) ?_
                refine wp_cS (pc := 1) dX12_best_1 lk_12_143 rfl rfl rfl (c_X12_isHouse (fun _ => aK_i ?_) (fun q => absurd c1.1 q))
                refine wp_if_eq (pc := 4) (tgt := 31) dX12_best_4 rfl (fun q => absurd q (by decide)) (fun _ => ?_)
                refine wp_iload_n (pc := 7) dX12_best_7 (by first | rfl | assumption | (repeat first | assumption | rfl | refine aG_n ?_ rfl rfl)) ?_
                refine wp_cS (pc := 8) dX12_best_8 lk_12_143 rfl rfl rfl (c_X12_isHouse (fun _ => aK_i ?_) (fun q => absurd c1.2.1 q))
                refine wp_if_eq (pc := 11) (tgt := 31) dX12_best_11 rfl (fun q => absurd q (by decide)) (fun _ => ?_)
                refine wp_iload_n (pc := 14) dX12_best_14 (by first | rfl | assumption | (repeat first | assumption | rfl | refine aG_n ?_ rfl rfl)) ?_
                refine wp_iload_n (pc := 15) dX12_best_15 (by first | rfl | assumption | (repeat first | assumption | rfl | refine aG_n ?_ rfl rfl)) ?_
                refine wp_icmp_eq (pc := 16) (tgt := 31) dX12_best_16 rfl (fun q => absurd q c1.2.2) (fun _ => ?_)
                refine wp_iload_n (pc := 19) dX12_best_19 (by first | rfl | assumption | (repeat first | assumption | rfl | refine aG_n ?_ rfl rfl)) ?_
                refine wp_i2l (pc := 20) dX12_best_20 ?_
                refine wp_lconst (pc := 21) (v := 0) dX12_best_21 (by decide) ?_
                refine wp_ldc2 (pc := 22) dX12_best_22 cl_12_131 ?_
                refine wp_cS (pc := 25) dX12_best_25 lk_12_133 rfl rfl rfl (c_X12_in (fun _ => aK_i ?_) (fun q => absurd (by rw [w_int]; exact c2) q))
                refine wp_if_ne (pc := 28) (tgt := 35) dX12_best_28 rfl (fun _ => ?_) (fun q => absurd q (by decide))
                refine wp_aload_n (pc := 35) dX12_best_35 (by first | rfl | assumption | (repeat first | assumption | rfl | refine aG_n ?_ rfl rfl)) ?_
                refine wp_iload_n (pc := 36) dX12_best_36 (by first | rfl | assumption | (repeat first | assumption | rfl | refine aG_n ?_ rfl rfl)) ?_
                refine wp_cV (pc := 37) dX12_best_37 lk_12_208 rfl (by decide) rfl (by first | rfl | assumption | exact sh_house (by omega) | exact sh_wish (by omega) | exact sh_wor (by omega) | exact sh_bar (by omega) | exact sh_term (by omega) | exact sh_sheet (by omega) | exact sh_items (by omega) | exact sh_sums (by omega)) rfl rfl (c_X12_thingsOf (aK_i ?_))
                refine wp_aload_n (pc := 40) dX12_best_40 (by first | rfl | assumption | (repeat first | assumption | rfl | refine aG_n ?_ rfl rfl)) ?_
                refine wp_iload_n (pc := 41) dX12_best_41 (by first | rfl | assumption | (repeat first | assumption | rfl | refine aG_n ?_ rfl rfl)) ?_
                refine wp_cV (pc := 42) dX12_best_42 lk_12_208 rfl (by decide) rfl (by first | rfl | assumption | exact sh_house (by omega) | exact sh_wish (by omega) | exact sh_wor (by omega) | exact sh_bar (by omega) | exact sh_term (by omega) | exact sh_sheet (by omega) | exact sh_items (by omega) | exact sh_sums (by omega)) rfl rfl (c_X12_thingsOf (aK_i ?_))
                refine wp_ior (pc := 45) dX12_best_45 ?_
                refine wp_istore (pc := 46) dX12_best_46 (by decide) ?_
                refine wp_iconst (pc := 48) (v := -1) dX12_best_48 (by decide) ?_
                refine wp_istore (pc := 49) dX12_best_49 (by decide) ?_
                refine wp_iconst (pc := 51) (v := 0) dX12_best_51 (by decide) ?_
                refine wp_istore (pc := 52) dX12_best_52 (by decide) ?_
                refine wp_iconst (pc := 54) (v := 0) dX12_best_54 (by decide) ?_
                refine wp_istore (pc := 55) dX12_best_55 (by decide) ?_
                refine l_m_best (i := i) (j := j) (wh := _) hI1.2.2.2.1 (by omega) (by omega) (fun L h0 h1 h2 h3 h4 h5 h6 => ?_) 64 0 (by omega) _ (by first | rfl | assumption | (repeat first | assumption | rfl | refine aG_n ?_ rfl rfl)) (by first | rfl | assumption | (repeat first | assumption | rfl | refine aG_n ?_ rfl rfl)) (by first | rfl | assumption | (repeat first | assumption | rfl | refine aG_n ?_ rfl rfl)) (by first | rfl | assumption | (repeat first | assumption | rfl | refine aG_n ?_ rfl rfl)) (by first | rfl | assumption | (repeat first | assumption | rfl | refine aG_n ?_ rfl rfl)) (by first | rfl | assumption | (repeat first | assumption | rfl | refine aG_n ?_ rfl rfl)) (by first | rfl | assumption | (repeat first | assumption | rfl | refine aG_n ?_ rfl rfl)) (by first | rfl | assumption | (repeat first | assumption | rfl | refine aG_n ?_ rfl rfl))
                rw [hb] at h5 h6
                replace h6 : aL_get L 6 = some (.int (gnd μ.1 (two (th μ.1 i) (th μ.1 j)) (two (56 + 4 * i) (56 + 4 * j)) 0 u + gnd μ.1 (two (th μ.1 i) (th μ.1 j)) (two (56 + 4 * i) (56 + 4 * j)) 1 u)) := h6
                refine wp_iload (pc := 137) dX12_best_137 (by first | rfl | assumption | (repeat first | assumption | rfl | refine aG_n ?_ rfl rfl)) ?_
                refine wp_if_lt (pc := 139) (tgt := 160) dX12_best_139 rfl (fun q => absurd q lu) (fun _ => ?_)
                refine wp_iload (pc := 142) dX12_best_142 (by first | rfl | assumption | (repeat first | assumption | rfl | refine aG_n ?_ rfl rfl)) ?_
                refine wp_aload_n (pc := 144) dX12_best_144 (by first | rfl | assumption | (repeat first | assumption | rfl | refine aG_n ?_ rfl rfl)) ?_
                refine wp_getR (pc := 145) dX12_best_145 fl_12_16 (by first | rfl | assumption | exact sh_house (by omega) | exact sh_wish (by omega) | exact sh_wor (by omega) | exact sh_bar (by omega) | exact sh_term (by omega) | exact sh_sheet (by omega) | exact sh_items (by omega) | exact sh_sums (by omega)) rfl ?_
                refine wp_iload_n (pc := 148) dX12_best_148 (by first | rfl | assumption | (repeat first | assumption | rfl | refine aG_n ?_ rfl rfl)) ?_
                refine wp_iald (pc := 149) dX12_best_149 (by first | rfl | assumption | exact sh_house (by omega) | exact sh_wish (by omega) | exact sh_wor (by omega) | exact sh_bar (by omega) | exact sh_term (by omega) | exact sh_sheet (by omega) | exact sh_items (by omega) | exact sh_sums (by omega)) (vp_in_nI (by omega) (by decide)) ?_
                refine wp_aload_n (pc := 150) dX12_best_150 (by first | rfl | assumption | (repeat first | assumption | rfl | refine aG_n ?_ rfl rfl)) ?_
                refine wp_getR (pc := 151) dX12_best_151 fl_12_16 (by first | rfl | assumption | exact sh_house (by omega) | exact sh_wish (by omega) | exact sh_wor (by omega) | exact sh_bar (by omega) | exact sh_term (by omega) | exact sh_sheet (by omega) | exact sh_items (by omega) | exact sh_sums (by omega)) rfl ?_
                refine wp_iload_n (pc := 154) dX12_best_154 (by first | rfl | assumption | (repeat first | assumption | rfl | refine aG_n ?_ rfl rfl)) ?_
                refine wp_iald (pc := 155) dX12_best_155 (by first | rfl | assumption | exact sh_house (by omega) | exact sh_wish (by omega) | exact sh_wor (by omega) | exact sh_bar (by omega) | exact sh_term (by omega) | exact sh_sheet (by omega) | exact sh_items (by omega) | exact sh_sums (by omega)) (vp_in_nI (by omega) (by decide)) ?_
                refine wp_iadd (pc := 156) dX12_best_156 ?_
                refine wp_icmp_ge (pc := 157) (tgt := 164) dX12_best_157 rfl (fun _ => ?_) (fun q => absurd hm4 q)
                refine wp_aload_n (pc := 164) dX12_best_164 (by first | rfl | assumption | (repeat first | assumption | rfl | refine aG_n ?_ rfl rfl)) ?_
                refine wp_iload_n (pc := 165) dX12_best_165 (by first | rfl | assumption | (repeat first | assumption | rfl | refine aG_n ?_ rfl rfl)) ?_
                refine wp_iload (pc := 166) dX12_best_166 (by first | rfl | assumption | (repeat first | assumption | rfl | refine aG_n ?_ rfl rfl)) ?_
                refine wp_cV (pc := 168) dX12_best_168 lk_12_224 rfl (by decide) rfl (by first | rfl | assumption | exact sh_house (by omega) | exact sh_wish (by omega) | exact sh_wor (by omega) | exact sh_bar (by omega) | exact sh_term (by omega) | exact sh_sheet (by omega) | exact sh_items (by omega) | exact sh_sums (by omega)) rfl rfl (m_more hW1 hi4 hu rfl (aK_i ?_))
                refine wp_aload_n (pc := 171) dX12_best_171 (by first | rfl | assumption | (repeat first | assumption | rfl | refine aG_n ?_ rfl rfl)) ?_
                refine wp_iload_n (pc := 172) dX12_best_172 (by first | rfl | assumption | (repeat first | assumption | rfl | refine aG_n ?_ rfl rfl)) ?_
                refine wp_iload (pc := 173) dX12_best_173 (by first | rfl | assumption | (repeat first | assumption | rfl | refine aG_n ?_ rfl rfl)) ?_
                refine wp_cV (pc := 175) dX12_best_175 lk_12_224 rfl (by decide) rfl (by first | rfl | assumption | exact sh_house (by omega) | exact sh_wish (by omega) | exact sh_wor (by omega) | exact sh_bar (by omega) | exact sh_term (by omega) | exact sh_sheet (by omega) | exact sh_items (by omega) | exact sh_sums (by omega)) rfl rfl (m_more hW1 hj4 hu rfl (aK_i ?_))
                refine wp_isub (pc := 178) dX12_best_178 ?_
                refine wp_iconst (pc := 179) (v := 2) dX12_best_179 (by decide) ?_
                refine wp_idiv (pc := 180) dX12_best_180 (by decide) ?_
                refine wp_istore (pc := 181) dX12_best_181 (by decide) ?_
                refine wp_iload (pc := 183) dX12_best_183 (by first | rfl | assumption | (repeat first | assumption | rfl | refine aG_n ?_ rfl rfl)) ?_
                refine wp_i2l (pc := 185) dX12_best_185 ?_
                refine wp_ldc2 (pc := 186) dX12_best_186 cl_12_218 ?_
                refine wp_ldc2 (pc := 189) dX12_best_189 cl_12_216 ?_
                refine wp_cS (pc := 192) dX12_best_192 lk_12_133 rfl rfl rfl (c_X12_in (fun _ => aK_i ?_) (fun q => absurd (by rw [w_int, ← su, ← sv]; exact c5) q))
                refine wp_if_eq (pc := 195) (tgt := 211) dX12_best_195 rfl (fun q => absurd q (by decide)) (fun _ => ?_)
                refine wp_aload_n (pc := 198) dX12_best_198 (by first | rfl | assumption | (repeat first | assumption | rfl | refine aG_n ?_ rfl rfl)) ?_
                refine wp_iload_n (pc := 199) dX12_best_199 (by first | rfl | assumption | (repeat first | assumption | rfl | refine aG_n ?_ rfl rfl)) ?_
                refine wp_iload_n (pc := 200) dX12_best_200 (by first | rfl | assumption | (repeat first | assumption | rfl | refine aG_n ?_ rfl rfl)) ?_
                refine wp_iload (pc := 201) dX12_best_201 (by first | rfl | assumption | (repeat first | assumption | rfl | refine aG_n ?_ rfl rfl)) ?_
                refine wp_iload (pc := 203) dX12_best_203 (by first | rfl | assumption | (repeat first | assumption | rfl | refine aG_n ?_ rfl rfl)) ?_
                refine wp_cV (pc := 205) dX12_best_205 lk_12_230 rfl (by decide) rfl (by first | rfl | assumption | exact sh_house (by omega) | exact sh_wish (by omega) | exact sh_wor (by omega) | exact sh_bar (by omega) | exact sh_term (by omega) | exact sh_sheet (by omega) | exact sh_items (by omega) | exact sh_sums (by omega)) rfl rfl (m_good hW1 hi4 hj4 hu rfl (fun _ => aK_i ?_) (fun q => absurd c7 q))
                refine wp_if_ne (pc := 208) (tgt := 215) dX12_best_208 rfl (fun _ => ?_) (fun q => absurd q (by decide))
                refine wp_iload_n (pc := 215) dX12_best_215 (by first | rfl | assumption | (repeat first | assumption | rfl | refine aG_n ?_ rfl rfl)) ?_
                refine wp_if_ne (pc := 216) (tgt := 224) dX12_best_216 rfl (fun _ => ?_) (fun q => absurd q (by decide))
                refine wp_iload_n (pc := 224) dX12_best_224 (by first | rfl | assumption | (repeat first | assumption | rfl | refine aG_n ?_ rfl rfl)) ?_
                refine wp_iconst (pc := 225) (v := 1) dX12_best_225 (by decide) ?_
                refine wp_icmp_ne (pc := 226) (tgt := 234) dX12_best_226 rfl (fun _ => ?_) (fun q => absurd q (by decide))
                refine wp_iload_n (pc := 234) dX12_best_234 (by first | rfl | assumption | (repeat first | assumption | rfl | refine aG_n ?_ rfl rfl)) ?_
                refine wp_iconst (pc := 235) (v := 2) dX12_best_235 (by decide) ?_
                refine wp_icmp_ne (pc := 236) (tgt := 252) dX12_best_236 rfl (fun q => absurd rfl q) (fun _ => ?_)
                refine wp_aload_n (pc := 239) dX12_best_239 (by first | rfl | assumption | (repeat first | assumption | rfl | refine aG_n ?_ rfl rfl)) ?_
                refine wp_iload_n (pc := 240) dX12_best_240 (by first | rfl | assumption | (repeat first | assumption | rfl | refine aG_n ?_ rfl rfl)) ?_
                refine wp_iload (pc := 241) dX12_best_241 (by first | rfl | assumption | (repeat first | assumption | rfl | refine aG_n ?_ rfl rfl)) ?_
                refine wp_cV (pc := 243) dX12_best_243 lk_12_224 rfl (by decide) rfl (by first | rfl | assumption | exact sh_house (by omega) | exact sh_wish (by omega) | exact sh_wor (by omega) | exact sh_bar (by omega) | exact sh_term (by omega) | exact sh_sheet (by omega) | exact sh_items (by omega) | exact sh_sums (by omega)) rfl rfl (m_more hW1 hi4 hu rfl (aK_i ?_))
                refine wp_iload (pc := 246) dX12_best_246 (by first | rfl | assumption | (repeat first | assumption | rfl | refine aG_n ?_ rfl rfl)) ?_
                refine wp_isub (pc := 248) dX12_best_248 ?_
                refine wp_goto (pc := 249) (tgt := 262) dX12_best_249 rfl ?_
                refine wp_ireturn (pc := 262) dX12_best_262 rfl (by first | rfl | decide | assumption) ?_
                refine qEq ?_ (k' _ hI1); simp only [gnp, if_true, su, sv, if_neg (show ¬ (1 : Nat) = 0 by decide)]
              · skip
                refine wp_iload (pc := 49) dX11_best_49 (by first | rfl | assumption | (repeat first | assumption | rfl | refine aG_n ?_ rfl rfl)) ?_
                refine wp_if_ge (pc := 51) (tgt := 58) dX11_best_51 rfl (fun _ => ?_) (fun q => absurd (by rw [i_le, nI_toInt (by omega)]; exact Int.natCast_nonneg u) q)
                refine wp_aload_n (pc := 58) dX11_best_58 (by first | rfl | assumption | (repeat first | assumption | rfl | refine aG_n ?_ rfl rfl)) ?_
                refine wp_getR (pc := 59) dX11_best_59 fl_11_80 (by first | rfl | assumption | exact sh_house (by omega) | exact sh_wish (by omega) | exact sh_wor (by omega) | exact sh_bar (by omega) | exact sh_term (by omega) | exact sh_sheet (by omega) | exact sh_items (by omega) | exact sh_sums (by omega)) rfl ?_
                refine wp_iload (pc := 62) dX11_best_62 (by first | rfl | assumption | (repeat first | assumption | rfl | refine aG_n ?_ rfl rfl)) ?_
                refine wp_cV (pc := 64) dX11_best_64 lk_11_190 rfl (by decide) rfl (by first | rfl | assumption | exact sh_house (by omega) | exact sh_wish (by omega) | exact sh_wor (by omega) | exact sh_bar (by omega) | exact sh_term (by omega) | exact sh_sheet (by omega) | exact sh_items (by omega) | exact sh_sums (by omega)) rfl rfl (c_X4_evenPrice hPr hu (aK_i ?_))
                refine wp_istore (pc := 67) dX11_best_67 (by decide) ?_
                refine wp_aload_n (pc := 69) dX11_best_69 (by first | rfl | assumption | (repeat first | assumption | rfl | refine aG_n ?_ rfl rfl)) ?_
                refine wp_getR (pc := 70) dX11_best_70 fl_11_80 (by first | rfl | assumption | exact sh_house (by omega) | exact sh_wish (by omega) | exact sh_wor (by omega) | exact sh_bar (by omega) | exact sh_term (by omega) | exact sh_sheet (by omega) | exact sh_items (by omega) | exact sh_sums (by omega)) rfl ?_
                refine wp_iload (pc := 73) dX11_best_73 (by first | rfl | assumption | (repeat first | assumption | rfl | refine aG_n ?_ rfl rfl)) ?_
                refine wp_cV (pc := 75) dX11_best_75 lk_11_193 rfl (by decide) rfl (by first | rfl | assumption | exact sh_house (by omega) | exact sh_wish (by omega) | exact sh_wor (by omega) | exact sh_bar (by omega) | exact sh_term (by omega) | exact sh_sheet (by omega) | exact sh_items (by omega) | exact sh_sums (by omega)) rfl rfl (c_X4_sumOfGains hPr hu (aK_i ?_))
                refine wp_aload_n (pc := 78) dX11_best_78 (by first | rfl | assumption | (repeat first | assumption | rfl | refine aG_n ?_ rfl rfl)) ?_
                refine wp_getR (pc := 79) dX11_best_79 fl_11_11 (by first | rfl | assumption | exact sh_house (by omega) | exact sh_wish (by omega) | exact sh_wor (by omega) | exact sh_bar (by omega) | exact sh_term (by omega) | exact sh_sheet (by omega) | exact sh_items (by omega) | exact sh_sums (by omega)) rfl ?_
                refine wp_iload_n (pc := 82) dX11_best_82 (by first | rfl | assumption | (repeat first | assumption | rfl | refine aG_n ?_ rfl rfl)) ?_
                refine wp_aald (pc := 83) dX11_best_83 (by first | rfl | assumption | exact sh_house (by omega) | exact sh_wish (by omega) | exact sh_wor (by omega) | exact sh_bar (by omega) | exact sh_term (by omega) | exact sh_sheet (by omega) | exact sh_items (by omega) | exact sh_sums (by omega)) (vp_in_nI (by omega) (by decide)) (by decide) (el_house (by omega)) ?_
                refine wp_getI (pc := 84) dX11_best_84 fl_11_152 (by first | rfl | assumption | exact sh_house (by omega) | exact sh_wish (by omega) | exact sh_wor (by omega) | exact sh_bar (by omega) | exact sh_term (by omega) | exact sh_sheet (by omega) | exact sh_items (by omega) | exact sh_sums (by omega)) rfl ?_
                refine wp_aload_n (pc := 87) dX11_best_87 (by first | rfl | assumption | (repeat first | assumption | rfl | refine aG_n ?_ rfl rfl)) ?_
                refine wp_getR (pc := 88) dX11_best_88 fl_11_11 (by first | rfl | assumption | exact sh_house (by omega) | exact sh_wish (by omega) | exact sh_wor (by omega) | exact sh_bar (by omega) | exact sh_term (by omega) | exact sh_sheet (by omega) | exact sh_items (by omega) | exact sh_sums (by omega)) rfl ?_
                refine wp_iload_n (pc := 91) dX11_best_91 (by first | rfl | assumption | (repeat first | assumption | rfl | refine aG_n ?_ rfl rfl)) ?_
                refine wp_aald (pc := 92) dX11_best_92 (by first | rfl | assumption | exact sh_house (by omega) | exact sh_wish (by omega) | exact sh_wor (by omega) | exact sh_bar (by omega) | exact sh_term (by omega) | exact sh_sheet (by omega) | exact sh_items (by omega) | exact sh_sums (by omega)) (vp_in_nI (by omega) (by decide)) (by decide) (el_house (by omega)) ?_
                refine wp_getI (pc := 93) dX11_best_93 fl_11_152 (by first | rfl | assumption | exact sh_house (by omega) | exact sh_wish (by omega) | exact sh_wor (by omega) | exact sh_bar (by omega) | exact sh_term (by omega) | exact sh_sheet (by omega) | exact sh_items (by omega) | exact sh_sums (by omega)) rfl ?_
                refine wp_iadd (pc := 96) dX11_best_96 ?_
                refine wp_icmp_lt (pc := 97) (tgt := 122) dX11_best_97 rfl (fun q => absurd q c4') (fun _ => ?_)
                refine wp_iload (pc := 100) dX11_best_100 (by first | rfl | assumption | (repeat first | assumption | rfl | refine aG_n ?_ rfl rfl)) ?_
                refine wp_cS (pc := 102) dX11_best_102 lk_11_196 rfl rfl rfl (c_X11_isPrice (fun _ => aK_i ?_) (fun q => absurd c5 q))
                refine wp_if_eq (pc := 105) (tgt := 122) dX11_best_105 rfl (fun q => absurd q (by decide)) (fun _ => ?_)
                refine wp_aload_n (pc := 108) dX11_best_108 (by first | rfl | assumption | (repeat first | assumption | rfl | refine aG_n ?_ rfl rfl)) ?_
                refine wp_getR (pc := 109) dX11_best_109 fl_11_80 (by first | rfl | assumption | exact sh_house (by omega) | exact sh_wish (by omega) | exact sh_wor (by omega) | exact sh_bar (by omega) | exact sh_term (by omega) | exact sh_sheet (by omega) | exact sh_items (by omega) | exact sh_sums (by omega)) rfl ?_
                refine wp_iload (pc := 112) dX11_best_112 (by first | rfl | assumption | (repeat first | assumption | rfl | refine aG_n ?_ rfl rfl)) ?_
                refine wp_iload (pc := 114) dX11_best_114 (by first | rfl | assumption | (repeat first | assumption | rfl | refine aG_n ?_ rfl rfl)) ?_
                refine wp_cV (pc := 116) dX11_best_116 lk_11_179 rfl (by decide) rfl (by first | rfl | assumption | exact sh_house (by omega) | exact sh_wish (by omega) | exact sh_wor (by omega) | exact sh_bar (by omega) | exact sh_term (by omega) | exact sh_sheet (by omega) | exact sh_items (by omega) | exact sh_sums (by omega)) rfl rfl (c_X4_isGood hPr hu (fun _ => aK_i ?_) (fun q => absurd c6' q))
                refine wp_if_ne (pc := 119) (tgt := 126) dX11_best_119 rfl (fun _ => ?_) (fun q => absurd q (by decide))
                refine wp_iload_n (pc := 126) dX11_best_126 (by first | rfl | assumption | (repeat first | assumption | rfl | refine aG_n ?_ rfl rfl)) ?_
                refine wp_swD (pc := 127) (tgt := 171) dX11_best_127 (by decide) rfl ?_
                refine wp_aload_n (pc := 171) dX11_best_171 (by first | rfl | assumption | (repeat first | assumption | rfl | refine aG_n ?_ rfl rfl)) ?_
                refine wp_getR (pc := 172) dX11_best_172 fl_11_80 (by first | rfl | assumption | exact sh_house (by omega) | exact sh_wish (by omega) | exact sh_wor (by omega) | exact sh_bar (by omega) | exact sh_term (by omega) | exact sh_sheet (by omega) | exact sh_items (by omega) | exact sh_sums (by omega)) rfl ?_
                refine wp_iconst (pc := 175) (v := 1) dX11_best_175 (by decide) ?_
                refine wp_iload (pc := 176) dX11_best_176 (by first | rfl | assumption | (repeat first | assumption | rfl | refine aG_n ?_ rfl rfl)) ?_
                refine wp_iload (pc := 178) dX11_best_178 (by first | rfl | assumption | (repeat first | assumption | rfl | refine aG_n ?_ rfl rfl)) ?_
                refine wp_cV (pc := 180) dX11_best_180 lk_11_175 rfl (by decide) rfl (by first | rfl | assumption | exact sh_house (by omega) | exact sh_wish (by omega) | exact sh_wor (by omega) | exact sh_bar (by omega) | exact sh_term (by omega) | exact sh_sheet (by omega) | exact sh_items (by omega) | exact sh_sums (by omega)) rfl rfl (c_X4_gained (d := 1) hPr (by decide) hu (aK_i ?_))
                refine wp_ireturn (pc := 183) dX11_best_183 rfl (by first | rfl | decide | assumption) ?_
                refine k _ _ (fun Q' k' => ?_)
                refine wp_iload_n (pc := 0) dX12_best_0 (by first | rfl | assumption | (repeat first | assumption | rfl | refine aG_n ?_ rfl rfl)) ?_
                refine wp_cS (pc := 1) dX12_best_1 lk_12_143 rfl rfl rfl (c_X12_isHouse (fun _ => aK_i ?_) (fun q => absurd c1.1 q))
                refine wp_if_eq (pc := 4) (tgt := 31) dX12_best_4 rfl (fun q => absurd q (by decide)) (fun _ => ?_)
                refine wp_iload_n (pc := 7) dX12_best_7 (by first | rfl | assumption | (repeat first | assumption | rfl | refine aG_n ?_ rfl rfl)) ?_
                refine wp_cS (pc := 8) dX12_best_8 lk_12_143 rfl rfl rfl (c_X12_isHouse (fun _ => aK_i ?_) (fun q => absurd c1.2.1 q))
                refine wp_if_eq (pc := 11) (tgt := 31) dX12_best_11 rfl (fun q => absurd q (by decide)) (fun _ => ?_)
                refine wp_iload_n (pc := 14) dX12_best_14 (by first | rfl | assumption | (repeat first | assumption | rfl | refine aG_n ?_ rfl rfl)) ?_
                refine wp_iload_n (pc := 15) dX12_best_15 (by first | rfl | assumption | (repeat first | assumption | rfl | refine aG_n ?_ rfl rfl)) ?_
                refine wp_icmp_eq (pc := 16) (tgt := 31) dX12_best_16 rfl (fun q => absurd q c1.2.2) (fun _ => ?_)
                refine wp_iload_n (pc := 19) dX12_best_19 (by first | rfl | assumption | (repeat first | assumption | rfl | refine aG_n ?_ rfl rfl)) ?_
                refine wp_i2l (pc := 20) dX12_best_20 ?_
                refine wp_lconst (pc := 21) (v := 0) dX12_best_21 (by decide) ?_
                refine wp_ldc2 (pc := 22) dX12_best_22 cl_12_131 ?_
                refine wp_cS (pc := 25) dX12_best_25 lk_12_133 rfl rfl rfl (c_X12_in (fun _ => aK_i ?_) (fun q => absurd (by rw [w_int]; exact c2) q))
                refine wp_if_ne (pc := 28) (tgt := 35) dX12_best_28 rfl (fun _ => ?_) (fun q => absurd q (by decide))
                refine wp_aload_n (pc := 35) dX12_best_35 (by first | rfl | assumption | (repeat first | assumption | rfl | refine aG_n ?_ rfl rfl)) ?_
                refine wp_iload_n (pc := 36) dX12_best_36 (by first | rfl | assumption | (repeat first | assumption | rfl | refine aG_n ?_ rfl rfl)) ?_
                refine wp_cV (pc := 37) dX12_best_37 lk_12_208 rfl (by decide) rfl (by first | rfl | assumption | exact sh_house (by omega) | exact sh_wish (by omega) | exact sh_wor (by omega) | exact sh_bar (by omega) | exact sh_term (by omega) | exact sh_sheet (by omega) | exact sh_items (by omega) | exact sh_sums (by omega)) rfl rfl (c_X12_thingsOf (aK_i ?_))
                refine wp_aload_n (pc := 40) dX12_best_40 (by first | rfl | assumption | (repeat first | assumption | rfl | refine aG_n ?_ rfl rfl)) ?_
                refine wp_iload_n (pc := 41) dX12_best_41 (by first | rfl | assumption | (repeat first | assumption | rfl | refine aG_n ?_ rfl rfl)) ?_
                refine wp_cV (pc := 42) dX12_best_42 lk_12_208 rfl (by decide) rfl (by first | rfl | assumption | exact sh_house (by omega) | exact sh_wish (by omega) | exact sh_wor (by omega) | exact sh_bar (by omega) | exact sh_term (by omega) | exact sh_sheet (by omega) | exact sh_items (by omega) | exact sh_sums (by omega)) rfl rfl (c_X12_thingsOf (aK_i ?_))
                refine wp_ior (pc := 45) dX12_best_45 ?_
                refine wp_istore (pc := 46) dX12_best_46 (by decide) ?_
                refine wp_iconst (pc := 48) (v := -1) dX12_best_48 (by decide) ?_
                refine wp_istore (pc := 49) dX12_best_49 (by decide) ?_
                refine wp_iconst (pc := 51) (v := 0) dX12_best_51 (by decide) ?_
                refine wp_istore (pc := 52) dX12_best_52 (by decide) ?_
                refine wp_iconst (pc := 54) (v := 0) dX12_best_54 (by decide) ?_
                refine wp_istore (pc := 55) dX12_best_55 (by decide) ?_
                refine l_m_best (i := i) (j := j) (wh := _) hI1.2.2.2.1 (by omega) (by omega) (fun L h0 h1 h2 h3 h4 h5 h6 => ?_) 64 0 (by omega) _ (by first | rfl | assumption | (repeat first | assumption | rfl | refine aG_n ?_ rfl rfl)) (by first | rfl | assumption | (repeat first | assumption | rfl | refine aG_n ?_ rfl rfl)) (by first | rfl | assumption | (repeat first | assumption | rfl | refine aG_n ?_ rfl rfl)) (by first | rfl | assumption | (repeat first | assumption | rfl | refine aG_n ?_ rfl rfl)) (by first | rfl | assumption | (repeat first | assumption | rfl | refine aG_n ?_ rfl rfl)) (by first | rfl | assumption | (repeat first | assumption | rfl | refine aG_n ?_ rfl rfl)) (by first | rfl | assumption | (repeat first | assumption | rfl | refine aG_n ?_ rfl rfl)) (by first | rfl | assumption | (repeat first | assumption | rfl | refine aG_n ?_ rfl rfl))
                rw [hb] at h5 h6
                replace h6 : aL_get L 6 = some (.int (gnd μ.1 (two (th μ.1 i) (th μ.1 j)) (two (56 + 4 * i) (56 + 4 * j)) 0 u + gnd μ.1 (two (th μ.1 i) (th μ.1 j)) (two (56 + 4 * i) (56 + 4 * j)) 1 u)) := h6
                refine wp_iload (pc := 137) dX12_best_137 (by first | rfl | assumption | (repeat first | assumption | rfl | refine aG_n ?_ rfl rfl)) ?_
                refine wp_if_lt (pc := 139) (tgt := 160) dX12_best_139 rfl (fun q => absurd q lu) (fun _ => ?_)
                refine wp_iload (pc := 142) dX12_best_142 (by first | rfl | assumption | (repeat first | assumption | rfl | refine aG_n ?_ rfl rfl)) ?_
                refine wp_aload_n (pc := 144) dX12_best_144 (by first | rfl | assumption | (repeat first | assumption | rfl | refine aG_n ?_ rfl rfl)) ?_
                refine wp_getR (pc := 145) dX12_best_145 fl_12_16 (by first | rfl | assumption | exact sh_house (by omega) | exact sh_wish (by omega) | exact sh_wor (by omega) | exact sh_bar (by omega) | exact sh_term (by omega) | exact sh_sheet (by omega) | exact sh_items (by omega) | exact sh_sums (by omega)) rfl ?_
                refine wp_iload_n (pc := 148) dX12_best_148 (by first | rfl | assumption | (repeat first | assumption | rfl | refine aG_n ?_ rfl rfl)) ?_
                refine wp_iald (pc := 149) dX12_best_149 (by first | rfl | assumption | exact sh_house (by omega) | exact sh_wish (by omega) | exact sh_wor (by omega) | exact sh_bar (by omega) | exact sh_term (by omega) | exact sh_sheet (by omega) | exact sh_items (by omega) | exact sh_sums (by omega)) (vp_in_nI (by omega) (by decide)) ?_
                refine wp_aload_n (pc := 150) dX12_best_150 (by first | rfl | assumption | (repeat first | assumption | rfl | refine aG_n ?_ rfl rfl)) ?_
                refine wp_getR (pc := 151) dX12_best_151 fl_12_16 (by first | rfl | assumption | exact sh_house (by omega) | exact sh_wish (by omega) | exact sh_wor (by omega) | exact sh_bar (by omega) | exact sh_term (by omega) | exact sh_sheet (by omega) | exact sh_items (by omega) | exact sh_sums (by omega)) rfl ?_
                refine wp_iload_n (pc := 154) dX12_best_154 (by first | rfl | assumption | (repeat first | assumption | rfl | refine aG_n ?_ rfl rfl)) ?_
                refine wp_iald (pc := 155) dX12_best_155 (by first | rfl | assumption | exact sh_house (by omega) | exact sh_wish (by omega) | exact sh_wor (by omega) | exact sh_bar (by omega) | exact sh_term (by omega) | exact sh_sheet (by omega) | exact sh_items (by omega) | exact sh_sums (by omega)) (vp_in_nI (by omega) (by decide)) ?_
                refine wp_iadd (pc := 156) dX12_best_156 ?_
                refine wp_icmp_ge (pc := 157) (tgt := 164) dX12_best_157 rfl (fun _ => ?_) (fun q => absurd hm4 q)
                refine wp_aload_n (pc := 164) dX12_best_164 (by first | rfl | assumption | (repeat first | assumption | rfl | refine aG_n ?_ rfl rfl)) ?_
                refine wp_iload_n (pc := 165) dX12_best_165 (by first | rfl | assumption | (repeat first | assumption | rfl | refine aG_n ?_ rfl rfl)) ?_
                refine wp_iload (pc := 166) dX12_best_166 (by first | rfl | assumption | (repeat first | assumption | rfl | refine aG_n ?_ rfl rfl)) ?_
                refine wp_cV (pc := 168) dX12_best_168 lk_12_224 rfl (by decide) rfl (by first | rfl | assumption | exact sh_house (by omega) | exact sh_wish (by omega) | exact sh_wor (by omega) | exact sh_bar (by omega) | exact sh_term (by omega) | exact sh_sheet (by omega) | exact sh_items (by omega) | exact sh_sums (by omega)) rfl rfl (m_more hW1 hi4 hu rfl (aK_i ?_))
                refine wp_aload_n (pc := 171) dX12_best_171 (by first | rfl | assumption | (repeat first | assumption | rfl | refine aG_n ?_ rfl rfl)) ?_
                refine wp_iload_n (pc := 172) dX12_best_172 (by first | rfl | assumption | (repeat first | assumption | rfl | refine aG_n ?_ rfl rfl)) ?_
                refine wp_iload (pc := 173) dX12_best_173 (by first | rfl | assumption | (repeat first | assumption | rfl | refine aG_n ?_ rfl rfl)) ?_
                refine wp_cV (pc := 175) dX12_best_175 lk_12_224 rfl (by decide) rfl (by first | rfl | assumption | exact sh_house (by omega) | exact sh_wish (by omega) | exact sh_wor (by omega) | exact sh_bar (by omega) | exact sh_term (by omega) | exact sh_sheet (by omega) | exact sh_items (by omega) | exact sh_sums (by omega)) rfl rfl (m_more hW1 hj4 hu rfl (aK_i ?_))
                refine wp_isub (pc := 178) dX12_best_178 ?_
                refine wp_iconst (pc := 179) (v := 2) dX12_best_179 (by decide) ?_
                refine wp_idiv (pc := 180) dX12_best_180 (by decide) ?_
                refine wp_istore (pc := 181) dX12_best_181 (by decide) ?_
                refine wp_iload (pc := 183) dX12_best_183 (by first | rfl | assumption | (repeat first | assumption | rfl | refine aG_n ?_ rfl rfl)) ?_
                refine wp_i2l (pc := 185) dX12_best_185 ?_
                refine wp_ldc2 (pc := 186) dX12_best_186 cl_12_218 ?_
                refine wp_ldc2 (pc := 189) dX12_best_189 cl_12_216 ?_
                refine wp_cS (pc := 192) dX12_best_192 lk_12_133 rfl rfl rfl (c_X12_in (fun _ => aK_i ?_) (fun q => absurd (by rw [w_int, ← su, ← sv]; exact c5) q))
                refine wp_if_eq (pc := 195) (tgt := 211) dX12_best_195 rfl (fun q => absurd q (by decide)) (fun _ => ?_)
                refine wp_aload_n (pc := 198) dX12_best_198 (by first | rfl | assumption | (repeat first | assumption | rfl | refine aG_n ?_ rfl rfl)) ?_
                refine wp_iload_n (pc := 199) dX12_best_199 (by first | rfl | assumption | (repeat first | assumption | rfl | refine aG_n ?_ rfl rfl)) ?_
                refine wp_iload_n (pc := 200) dX12_best_200 (by first | rfl | assumption | (repeat first | assumption | rfl | refine aG_n ?_ rfl rfl)) ?_
                refine wp_iload (pc := 201) dX12_best_201 (by first | rfl | assumption | (repeat first | assumption | rfl | refine aG_n ?_ rfl rfl)) ?_
                refine wp_iload (pc := 203) dX12_best_203 (by first | rfl | assumption | (repeat first | assumption | rfl | refine aG_n ?_ rfl rfl)) ?_
                refine wp_cV (pc := 205) dX12_best_205 lk_12_230 rfl (by decide) rfl (by first | rfl | assumption | exact sh_house (by omega) | exact sh_wish (by omega) | exact sh_wor (by omega) | exact sh_bar (by omega) | exact sh_term (by omega) | exact sh_sheet (by omega) | exact sh_items (by omega) | exact sh_sums (by omega)) rfl rfl (m_good hW1 hi4 hj4 hu rfl (fun _ => aK_i ?_) (fun q => absurd c7 q))
                refine wp_if_ne (pc := 208) (tgt := 215) dX12_best_208 rfl (fun _ => ?_) (fun q => absurd q (by decide))
                refine wp_iload_n (pc := 215) dX12_best_215 (by first | rfl | assumption | (repeat first | assumption | rfl | refine aG_n ?_ rfl rfl)) ?_
                refine wp_if_ne (pc := 216) (tgt := 224) dX12_best_216 rfl (fun _ => ?_) (fun q => absurd q (by decide))
                refine wp_iload_n (pc := 224) dX12_best_224 (by first | rfl | assumption | (repeat first | assumption | rfl | refine aG_n ?_ rfl rfl)) ?_
                refine wp_iconst (pc := 225) (v := 1) dX12_best_225 (by decide) ?_
                refine wp_icmp_ne (pc := 226) (tgt := 234) dX12_best_226 rfl (fun _ => ?_) (fun q => absurd q (by decide))
                refine wp_iload_n (pc := 234) dX12_best_234 (by first | rfl | assumption | (repeat first | assumption | rfl | refine aG_n ?_ rfl rfl)) ?_
                refine wp_iconst (pc := 235) (v := 2) dX12_best_235 (by decide) ?_
                refine wp_icmp_ne (pc := 236) (tgt := 252) dX12_best_236 rfl (fun _ => ?_) (fun q => absurd q (by decide))
                refine wp_aload_n (pc := 252) dX12_best_252 (by first | rfl | assumption | (repeat first | assumption | rfl | refine aG_n ?_ rfl rfl)) ?_
                refine wp_iload_n (pc := 253) dX12_best_253 (by first | rfl | assumption | (repeat first | assumption | rfl | refine aG_n ?_ rfl rfl)) ?_
                refine wp_iload (pc := 254) dX12_best_254 (by first | rfl | assumption | (repeat first | assumption | rfl | refine aG_n ?_ rfl rfl)) ?_
                refine wp_cV (pc := 256) dX12_best_256 lk_12_224 rfl (by decide) rfl (by first | rfl | assumption | exact sh_house (by omega) | exact sh_wish (by omega) | exact sh_wor (by omega) | exact sh_bar (by omega) | exact sh_term (by omega) | exact sh_sheet (by omega) | exact sh_items (by omega) | exact sh_sums (by omega)) rfl rfl (m_more hW1 hj4 hu rfl (aK_i ?_))
                refine wp_iload (pc := 259) dX12_best_259 (by first | rfl | assumption | (repeat first | assumption | rfl | refine aG_n ?_ rfl rfl)) ?_
                refine wp_iadd (pc := 261) dX12_best_261 ?_
                refine wp_ireturn (pc := 262) dX12_best_262 rfl (by first | rfl | decide | assumption) ?_
                refine qEq ?_ (k' _ hI1); simp only [gnp, if_true, su, sv, if_neg (show ¬ (1 : Nat) = 0 by decide)]
            · have c6' := fun z => c6 ((goB_i e3 e4).mp z)
              have c7 : ¬ goM μ.1 i j u ((μ.1 (57 + 4 * i) (th μ.1 i ^^^ u) - μ.1 (57 + 4 * i) (th μ.1 i) - (μ.1 (57 + 4 * j) (th μ.1 j ^^^ u) - μ.1 (57 + 4 * j) (th μ.1 j))) / 2) := by rw [← su, ← sv]; exact c6
              refine wp_iload (pc := 49) dX11_best_49 (by first | rfl | assumption | (repeat first | assumption | rfl | refine aG_n ?_ rfl rfl)) ?_
              refine wp_if_ge (pc := 51) (tgt := 58) dX11_best_51 rfl (fun _ => ?_) (fun q => absurd (by rw [i_le, nI_toInt (by omega)]; exact Int.natCast_nonneg u) q)
              refine wp_aload_n (pc := 58) dX11_best_58 (by first | rfl | assumption | (repeat first | assumption | rfl | refine aG_n ?_ rfl rfl)) ?_
              refine wp_getR (pc := 59) dX11_best_59 fl_11_80 (by first | rfl | assumption | exact sh_house (by omega) | exact sh_wish (by omega) | exact sh_wor (by omega) | exact sh_bar (by omega) | exact sh_term (by omega) | exact sh_sheet (by omega) | exact sh_items (by omega) | exact sh_sums (by omega)) rfl ?_
              refine wp_iload (pc := 62) dX11_best_62 (by first | rfl | assumption | (repeat first | assumption | rfl | refine aG_n ?_ rfl rfl)) ?_
              refine wp_cV (pc := 64) dX11_best_64 lk_11_190 rfl (by decide) rfl (by first | rfl | assumption | exact sh_house (by omega) | exact sh_wish (by omega) | exact sh_wor (by omega) | exact sh_bar (by omega) | exact sh_term (by omega) | exact sh_sheet (by omega) | exact sh_items (by omega) | exact sh_sums (by omega)) rfl rfl (c_X4_evenPrice hPr hu (aK_i ?_))
              refine wp_istore (pc := 67) dX11_best_67 (by decide) ?_
              refine wp_aload_n (pc := 69) dX11_best_69 (by first | rfl | assumption | (repeat first | assumption | rfl | refine aG_n ?_ rfl rfl)) ?_
              refine wp_getR (pc := 70) dX11_best_70 fl_11_80 (by first | rfl | assumption | exact sh_house (by omega) | exact sh_wish (by omega) | exact sh_wor (by omega) | exact sh_bar (by omega) | exact sh_term (by omega) | exact sh_sheet (by omega) | exact sh_items (by omega) | exact sh_sums (by omega)) rfl ?_
              refine wp_iload (pc := 73) dX11_best_73 (by first | rfl | assumption | (repeat first | assumption | rfl | refine aG_n ?_ rfl rfl)) ?_
              refine wp_cV (pc := 75) dX11_best_75 lk_11_193 rfl (by decide) rfl (by first | rfl | assumption | exact sh_house (by omega) | exact sh_wish (by omega) | exact sh_wor (by omega) | exact sh_bar (by omega) | exact sh_term (by omega) | exact sh_sheet (by omega) | exact sh_items (by omega) | exact sh_sums (by omega)) rfl rfl (c_X4_sumOfGains hPr hu (aK_i ?_))
              refine wp_aload_n (pc := 78) dX11_best_78 (by first | rfl | assumption | (repeat first | assumption | rfl | refine aG_n ?_ rfl rfl)) ?_
              refine wp_getR (pc := 79) dX11_best_79 fl_11_11 (by first | rfl | assumption | exact sh_house (by omega) | exact sh_wish (by omega) | exact sh_wor (by omega) | exact sh_bar (by omega) | exact sh_term (by omega) | exact sh_sheet (by omega) | exact sh_items (by omega) | exact sh_sums (by omega)) rfl ?_
              refine wp_iload_n (pc := 82) dX11_best_82 (by first | rfl | assumption | (repeat first | assumption | rfl | refine aG_n ?_ rfl rfl)) ?_
              refine wp_aald (pc := 83) dX11_best_83 (by first | rfl | assumption | exact sh_house (by omega) | exact sh_wish (by omega) | exact sh_wor (by omega) | exact sh_bar (by omega) | exact sh_term (by omega) | exact sh_sheet (by omega) | exact sh_items (by omega) | exact sh_sums (by omega)) (vp_in_nI (by omega) (by decide)) (by decide) (el_house (by omega)) ?_
              refine wp_getI (pc := 84) dX11_best_84 fl_11_152 (by first | rfl | assumption | exact sh_house (by omega) | exact sh_wish (by omega) | exact sh_wor (by omega) | exact sh_bar (by omega) | exact sh_term (by omega) | exact sh_sheet (by omega) | exact sh_items (by omega) | exact sh_sums (by omega)) rfl ?_
              refine wp_aload_n (pc := 87) dX11_best_87 (by first | rfl | assumption | (repeat first | assumption | rfl | refine aG_n ?_ rfl rfl)) ?_
              refine wp_getR (pc := 88) dX11_best_88 fl_11_11 (by first | rfl | assumption | exact sh_house (by omega) | exact sh_wish (by omega) | exact sh_wor (by omega) | exact sh_bar (by omega) | exact sh_term (by omega) | exact sh_sheet (by omega) | exact sh_items (by omega) | exact sh_sums (by omega)) rfl ?_
              refine wp_iload_n (pc := 91) dX11_best_91 (by first | rfl | assumption | (repeat first | assumption | rfl | refine aG_n ?_ rfl rfl)) ?_
              refine wp_aald (pc := 92) dX11_best_92 (by first | rfl | assumption | exact sh_house (by omega) | exact sh_wish (by omega) | exact sh_wor (by omega) | exact sh_bar (by omega) | exact sh_term (by omega) | exact sh_sheet (by omega) | exact sh_items (by omega) | exact sh_sums (by omega)) (vp_in_nI (by omega) (by decide)) (by decide) (el_house (by omega)) ?_
              refine wp_getI (pc := 93) dX11_best_93 fl_11_152 (by first | rfl | assumption | exact sh_house (by omega) | exact sh_wish (by omega) | exact sh_wor (by omega) | exact sh_bar (by omega) | exact sh_term (by omega) | exact sh_sheet (by omega) | exact sh_items (by omega) | exact sh_sums (by omega)) rfl ?_
              refine wp_iadd (pc := 96) dX11_best_96 ?_
              refine wp_icmp_lt (pc := 97) (tgt := 122) dX11_best_97 rfl (fun q => absurd q c4') (fun _ => ?_)
              refine wp_iload (pc := 100) dX11_best_100 (by first | rfl | assumption | (repeat first | assumption | rfl | refine aG_n ?_ rfl rfl)) ?_
              refine wp_cS (pc := 102) dX11_best_102 lk_11_196 rfl rfl rfl (c_X11_isPrice (fun _ => aK_i ?_) (fun q => absurd c5 q))
              refine wp_if_eq (pc := 105) (tgt := 122) dX11_best_105 rfl (fun q => absurd q (by decide)) (fun _ => ?_)
              refine wp_aload_n (pc := 108) dX11_best_108 (by first | rfl | assumption | (repeat first | assumption | rfl | refine aG_n ?_ rfl rfl)) ?_
              refine wp_getR (pc := 109) dX11_best_109 fl_11_80 (by first | rfl | assumption | exact sh_house (by omega) | exact sh_wish (by omega) | exact sh_wor (by omega) | exact sh_bar (by omega) | exact sh_term (by omega) | exact sh_sheet (by omega) | exact sh_items (by omega) | exact sh_sums (by omega)) rfl ?_
              refine wp_iload (pc := 112) dX11_best_112 (by first | rfl | assumption | (repeat first | assumption | rfl | refine aG_n ?_ rfl rfl)) ?_
              refine wp_iload (pc := 114) dX11_best_114 (by first | rfl | assumption | (repeat first | assumption | rfl | refine aG_n ?_ rfl rfl)) ?_
              refine wp_cV (pc := 116) dX11_best_116 lk_11_179 rfl (by decide) rfl (by first | rfl | assumption | exact sh_house (by omega) | exact sh_wish (by omega) | exact sh_wor (by omega) | exact sh_bar (by omega) | exact sh_term (by omega) | exact sh_sheet (by omega) | exact sh_items (by omega) | exact sh_sums (by omega)) rfl rfl (c_X4_isGood hPr hu (fun q => absurd q c6') (fun _ => aK_i ?_))
              refine wp_if_ne (pc := 119) (tgt := 126) dX11_best_119 rfl (fun q => absurd q (by decide)) (fun _ => ?_)
              refine wp_sipush (pc := 122) (v := -10004) dX11_best_122 (by decide) ?_
              refine wp_ireturn (pc := 125) dX11_best_125 rfl (by first | rfl | decide | assumption) ?_
              refine k _ _ (fun Q' k' => ?_)
              refine wp_iload_n (pc := 0) dX12_best_0 (by first | rfl | assumption | (repeat first | assumption | rfl | refine aG_n ?_ rfl rfl)) ?_
              refine wp_cS (pc := 1) dX12_best_1 lk_12_143 rfl rfl rfl (c_X12_isHouse (fun _ => aK_i ?_) (fun q => absurd c1.1 q))
              refine wp_if_eq (pc := 4) (tgt := 31) dX12_best_4 rfl (fun q => absurd q (by decide)) (fun _ => ?_)
              refine wp_iload_n (pc := 7) dX12_best_7 (by first | rfl | assumption | (repeat first | assumption | rfl | refine aG_n ?_ rfl rfl)) ?_
              refine wp_cS (pc := 8) dX12_best_8 lk_12_143 rfl rfl rfl (c_X12_isHouse (fun _ => aK_i ?_) (fun q => absurd c1.2.1 q))
              refine wp_if_eq (pc := 11) (tgt := 31) dX12_best_11 rfl (fun q => absurd q (by decide)) (fun _ => ?_)
              refine wp_iload_n (pc := 14) dX12_best_14 (by first | rfl | assumption | (repeat first | assumption | rfl | refine aG_n ?_ rfl rfl)) ?_
              refine wp_iload_n (pc := 15) dX12_best_15 (by first | rfl | assumption | (repeat first | assumption | rfl | refine aG_n ?_ rfl rfl)) ?_
              refine wp_icmp_eq (pc := 16) (tgt := 31) dX12_best_16 rfl (fun q => absurd q c1.2.2) (fun _ => ?_)
              refine wp_iload_n (pc := 19) dX12_best_19 (by first | rfl | assumption | (repeat first | assumption | rfl | refine aG_n ?_ rfl rfl)) ?_
              refine wp_i2l (pc := 20) dX12_best_20 ?_
              refine wp_lconst (pc := 21) (v := 0) dX12_best_21 (by decide) ?_
              refine wp_ldc2 (pc := 22) dX12_best_22 cl_12_131 ?_
              refine wp_cS (pc := 25) dX12_best_25 lk_12_133 rfl rfl rfl (c_X12_in (fun _ => aK_i ?_) (fun q => absurd (by rw [w_int]; exact c2) q))
              refine wp_if_ne (pc := 28) (tgt := 35) dX12_best_28 rfl (fun _ => ?_) (fun q => absurd q (by decide))
              refine wp_aload_n (pc := 35) dX12_best_35 (by first | rfl | assumption | (repeat first | assumption | rfl | refine aG_n ?_ rfl rfl)) ?_
              refine wp_iload_n (pc := 36) dX12_best_36 (by first | rfl | assumption | (repeat first | assumption | rfl | refine aG_n ?_ rfl rfl)) ?_
              refine wp_cV (pc := 37) dX12_best_37 lk_12_208 rfl (by decide) rfl (by first | rfl | assumption | exact sh_house (by omega) | exact sh_wish (by omega) | exact sh_wor (by omega) | exact sh_bar (by omega) | exact sh_term (by omega) | exact sh_sheet (by omega) | exact sh_items (by omega) | exact sh_sums (by omega)) rfl rfl (c_X12_thingsOf (aK_i ?_))
              refine wp_aload_n (pc := 40) dX12_best_40 (by first | rfl | assumption | (repeat first | assumption | rfl | refine aG_n ?_ rfl rfl)) ?_
              refine wp_iload_n (pc := 41) dX12_best_41 (by first | rfl | assumption | (repeat first | assumption | rfl | refine aG_n ?_ rfl rfl)) ?_
              refine wp_cV (pc := 42) dX12_best_42 lk_12_208 rfl (by decide) rfl (by first | rfl | assumption | exact sh_house (by omega) | exact sh_wish (by omega) | exact sh_wor (by omega) | exact sh_bar (by omega) | exact sh_term (by omega) | exact sh_sheet (by omega) | exact sh_items (by omega) | exact sh_sums (by omega)) rfl rfl (c_X12_thingsOf (aK_i ?_))
              refine wp_ior (pc := 45) dX12_best_45 ?_
              refine wp_istore (pc := 46) dX12_best_46 (by decide) ?_
              refine wp_iconst (pc := 48) (v := -1) dX12_best_48 (by decide) ?_
              refine wp_istore (pc := 49) dX12_best_49 (by decide) ?_
              refine wp_iconst (pc := 51) (v := 0) dX12_best_51 (by decide) ?_
              refine wp_istore (pc := 52) dX12_best_52 (by decide) ?_
              refine wp_iconst (pc := 54) (v := 0) dX12_best_54 (by decide) ?_
              refine wp_istore (pc := 55) dX12_best_55 (by decide) ?_
              refine l_m_best (i := i) (j := j) (wh := _) hI1.2.2.2.1 (by omega) (by omega) (fun L h0 h1 h2 h3 h4 h5 h6 => ?_) 64 0 (by omega) _ (by first | rfl | assumption | (repeat first | assumption | rfl | refine aG_n ?_ rfl rfl)) (by first | rfl | assumption | (repeat first | assumption | rfl | refine aG_n ?_ rfl rfl)) (by first | rfl | assumption | (repeat first | assumption | rfl | refine aG_n ?_ rfl rfl)) (by first | rfl | assumption | (repeat first | assumption | rfl | refine aG_n ?_ rfl rfl)) (by first | rfl | assumption | (repeat first | assumption | rfl | refine aG_n ?_ rfl rfl)) (by first | rfl | assumption | (repeat first | assumption | rfl | refine aG_n ?_ rfl rfl)) (by first | rfl | assumption | (repeat first | assumption | rfl | refine aG_n ?_ rfl rfl)) (by first | rfl | assumption | (repeat first | assumption | rfl | refine aG_n ?_ rfl rfl))
              rw [hb] at h5 h6
              replace h6 : aL_get L 6 = some (.int (gnd μ.1 (two (th μ.1 i) (th μ.1 j)) (two (56 + 4 * i) (56 + 4 * j)) 0 u + gnd μ.1 (two (th μ.1 i) (th μ.1 j)) (two (56 + 4 * i) (56 + 4 * j)) 1 u)) := h6
              refine wp_iload (pc := 137) dX12_best_137 (by first | rfl | assumption | (repeat first | assumption | rfl | refine aG_n ?_ rfl rfl)) ?_
              refine wp_if_lt (pc := 139) (tgt := 160) dX12_best_139 rfl (fun q => absurd q lu) (fun _ => ?_)
              refine wp_iload (pc := 142) dX12_best_142 (by first | rfl | assumption | (repeat first | assumption | rfl | refine aG_n ?_ rfl rfl)) ?_
              refine wp_aload_n (pc := 144) dX12_best_144 (by first | rfl | assumption | (repeat first | assumption | rfl | refine aG_n ?_ rfl rfl)) ?_
              refine wp_getR (pc := 145) dX12_best_145 fl_12_16 (by first | rfl | assumption | exact sh_house (by omega) | exact sh_wish (by omega) | exact sh_wor (by omega) | exact sh_bar (by omega) | exact sh_term (by omega) | exact sh_sheet (by omega) | exact sh_items (by omega) | exact sh_sums (by omega)) rfl ?_
              refine wp_iload_n (pc := 148) dX12_best_148 (by first | rfl | assumption | (repeat first | assumption | rfl | refine aG_n ?_ rfl rfl)) ?_
              refine wp_iald (pc := 149) dX12_best_149 (by first | rfl | assumption | exact sh_house (by omega) | exact sh_wish (by omega) | exact sh_wor (by omega) | exact sh_bar (by omega) | exact sh_term (by omega) | exact sh_sheet (by omega) | exact sh_items (by omega) | exact sh_sums (by omega)) (vp_in_nI (by omega) (by decide)) ?_
              refine wp_aload_n (pc := 150) dX12_best_150 (by first | rfl | assumption | (repeat first | assumption | rfl | refine aG_n ?_ rfl rfl)) ?_
              refine wp_getR (pc := 151) dX12_best_151 fl_12_16 (by first | rfl | assumption | exact sh_house (by omega) | exact sh_wish (by omega) | exact sh_wor (by omega) | exact sh_bar (by omega) | exact sh_term (by omega) | exact sh_sheet (by omega) | exact sh_items (by omega) | exact sh_sums (by omega)) rfl ?_
              refine wp_iload_n (pc := 154) dX12_best_154 (by first | rfl | assumption | (repeat first | assumption | rfl | refine aG_n ?_ rfl rfl)) ?_
              refine wp_iald (pc := 155) dX12_best_155 (by first | rfl | assumption | exact sh_house (by omega) | exact sh_wish (by omega) | exact sh_wor (by omega) | exact sh_bar (by omega) | exact sh_term (by omega) | exact sh_sheet (by omega) | exact sh_items (by omega) | exact sh_sums (by omega)) (vp_in_nI (by omega) (by decide)) ?_
              refine wp_iadd (pc := 156) dX12_best_156 ?_
              refine wp_icmp_ge (pc := 157) (tgt := 164) dX12_best_157 rfl (fun _ => ?_) (fun q => absurd hm4 q)
              refine wp_aload_n (pc := 164) dX12_best_164 (by first | rfl | assumption | (repeat first | assumption | rfl | refine aG_n ?_ rfl rfl)) ?_
              refine wp_iload_n (pc := 165) dX12_best_165 (by first | rfl | assumption | (repeat first | assumption | rfl | refine aG_n ?_ rfl rfl)) ?_
              refine wp_iload (pc := 166) dX12_best_166 (by first | rfl | assumption | (repeat first | assumption | rfl | refine aG_n ?_ rfl rfl)) ?_
              refine wp_cV (pc := 168) dX12_best_168 lk_12_224 rfl (by decide) rfl (by first | rfl | assumption | exact sh_house (by omega) | exact sh_wish (by omega) | exact sh_wor (by omega) | exact sh_bar (by omega) | exact sh_term (by omega) | exact sh_sheet (by omega) | exact sh_items (by omega) | exact sh_sums (by omega)) rfl rfl (m_more hW1 hi4 hu rfl (aK_i ?_))
              refine wp_aload_n (pc := 171) dX12_best_171 (by first | rfl | assumption | (repeat first | assumption | rfl | refine aG_n ?_ rfl rfl)) ?_
              refine wp_iload_n (pc := 172) dX12_best_172 (by first | rfl | assumption | (repeat first | assumption | rfl | refine aG_n ?_ rfl rfl)) ?_
              refine wp_iload (pc := 173) dX12_best_173 (by first | rfl | assumption | (repeat first | assumption | rfl | refine aG_n ?_ rfl rfl)) ?_
              refine wp_cV (pc := 175) dX12_best_175 lk_12_224 rfl (by decide) rfl (by first | rfl | assumption | exact sh_house (by omega) | exact sh_wish (by omega) | exact sh_wor (by omega) | exact sh_bar (by omega) | exact sh_term (by omega) | exact sh_sheet (by omega) | exact sh_items (by omega) | exact sh_sums (by omega)) rfl rfl (m_more hW1 hj4 hu rfl (aK_i ?_))
              refine wp_isub (pc := 178) dX12_best_178 ?_
              refine wp_iconst (pc := 179) (v := 2) dX12_best_179 (by decide) ?_
              refine wp_idiv (pc := 180) dX12_best_180 (by decide) ?_
              refine wp_istore (pc := 181) dX12_best_181 (by decide) ?_
              refine wp_iload (pc := 183) dX12_best_183 (by first | rfl | assumption | (repeat first | assumption | rfl | refine aG_n ?_ rfl rfl)) ?_
              refine wp_i2l (pc := 185) dX12_best_185 ?_
              refine wp_ldc2 (pc := 186) dX12_best_186 cl_12_218 ?_
              refine wp_ldc2 (pc := 189) dX12_best_189 cl_12_216 ?_
              refine wp_cS (pc := 192) dX12_best_192 lk_12_133 rfl rfl rfl (c_X12_in (fun _ => aK_i ?_) (fun q => absurd (by rw [w_int, ← su, ← sv]; exact c5) q))
              refine wp_if_eq (pc := 195) (tgt := 211) dX12_best_195 rfl (fun q => absurd q (by decide)) (fun _ => ?_)
              refine wp_aload_n (pc := 198) dX12_best_198 (by first | rfl | assumption | (repeat first | assumption | rfl | refine aG_n ?_ rfl rfl)) ?_
              refine wp_iload_n (pc := 199) dX12_best_199 (by first | rfl | assumption | (repeat first | assumption | rfl | refine aG_n ?_ rfl rfl)) ?_
              refine wp_iload_n (pc := 200) dX12_best_200 (by first | rfl | assumption | (repeat first | assumption | rfl | refine aG_n ?_ rfl rfl)) ?_
              refine wp_iload (pc := 201) dX12_best_201 (by first | rfl | assumption | (repeat first | assumption | rfl | refine aG_n ?_ rfl rfl)) ?_
              refine wp_iload (pc := 203) dX12_best_203 (by first | rfl | assumption | (repeat first | assumption | rfl | refine aG_n ?_ rfl rfl)) ?_
              refine wp_cV (pc := 205) dX12_best_205 lk_12_230 rfl (by decide) rfl (by first | rfl | assumption | exact sh_house (by omega) | exact sh_wish (by omega) | exact sh_wor (by omega) | exact sh_bar (by omega) | exact sh_term (by omega) | exact sh_sheet (by omega) | exact sh_items (by omega) | exact sh_sums (by omega)) rfl rfl (m_good hW1 hi4 hj4 hu rfl (fun q => absurd q c7) (fun _ => aK_i ?_))
              refine wp_if_ne (pc := 208) (tgt := 215) dX12_best_208 rfl (fun q => absurd q (by decide)) (fun _ => ?_)
              refine wp_sipush (pc := 211) (v := -10004) dX12_best_211 (by decide) ?_
              refine wp_ireturn (pc := 214) dX12_best_214 rfl (by first | rfl | decide | assumption) ?_
              exact k' _ hI1
          · skip
            refine wp_iload (pc := 49) dX11_best_49 (by first | rfl | assumption | (repeat first | assumption | rfl | refine aG_n ?_ rfl rfl)) ?_
            refine wp_if_ge (pc := 51) (tgt := 58) dX11_best_51 rfl (fun _ => ?_) (fun q => absurd (by rw [i_le, nI_toInt (by omega)]; exact Int.natCast_nonneg u) q)
            refine wp_aload_n (pc := 58) dX11_best_58 (by first | rfl | assumption | (repeat first | assumption | rfl | refine aG_n ?_ rfl rfl)) ?_
            refine wp_getR (pc := 59) dX11_best_59 fl_11_80 (by first | rfl | assumption | exact sh_house (by omega) | exact sh_wish (by omega) | exact sh_wor (by omega) | exact sh_bar (by omega) | exact sh_term (by omega) | exact sh_sheet (by omega) | exact sh_items (by omega) | exact sh_sums (by omega)) rfl ?_
            refine wp_iload (pc := 62) dX11_best_62 (by first | rfl | assumption | (repeat first | assumption | rfl | refine aG_n ?_ rfl rfl)) ?_
            refine wp_cV (pc := 64) dX11_best_64 lk_11_190 rfl (by decide) rfl (by first | rfl | assumption | exact sh_house (by omega) | exact sh_wish (by omega) | exact sh_wor (by omega) | exact sh_bar (by omega) | exact sh_term (by omega) | exact sh_sheet (by omega) | exact sh_items (by omega) | exact sh_sums (by omega)) rfl rfl (c_X4_evenPrice hPr hu (aK_i ?_))
            refine wp_istore (pc := 67) dX11_best_67 (by decide) ?_
            refine wp_aload_n (pc := 69) dX11_best_69 (by first | rfl | assumption | (repeat first | assumption | rfl | refine aG_n ?_ rfl rfl)) ?_
            refine wp_getR (pc := 70) dX11_best_70 fl_11_80 (by first | rfl | assumption | exact sh_house (by omega) | exact sh_wish (by omega) | exact sh_wor (by omega) | exact sh_bar (by omega) | exact sh_term (by omega) | exact sh_sheet (by omega) | exact sh_items (by omega) | exact sh_sums (by omega)) rfl ?_
            refine wp_iload (pc := 73) dX11_best_73 (by first | rfl | assumption | (repeat first | assumption | rfl | refine aG_n ?_ rfl rfl)) ?_
            refine wp_cV (pc := 75) dX11_best_75 lk_11_193 rfl (by decide) rfl (by first | rfl | assumption | exact sh_house (by omega) | exact sh_wish (by omega) | exact sh_wor (by omega) | exact sh_bar (by omega) | exact sh_term (by omega) | exact sh_sheet (by omega) | exact sh_items (by omega) | exact sh_sums (by omega)) rfl rfl (c_X4_sumOfGains hPr hu (aK_i ?_))
            refine wp_aload_n (pc := 78) dX11_best_78 (by first | rfl | assumption | (repeat first | assumption | rfl | refine aG_n ?_ rfl rfl)) ?_
            refine wp_getR (pc := 79) dX11_best_79 fl_11_11 (by first | rfl | assumption | exact sh_house (by omega) | exact sh_wish (by omega) | exact sh_wor (by omega) | exact sh_bar (by omega) | exact sh_term (by omega) | exact sh_sheet (by omega) | exact sh_items (by omega) | exact sh_sums (by omega)) rfl ?_
            refine wp_iload_n (pc := 82) dX11_best_82 (by first | rfl | assumption | (repeat first | assumption | rfl | refine aG_n ?_ rfl rfl)) ?_
            refine wp_aald (pc := 83) dX11_best_83 (by first | rfl | assumption | exact sh_house (by omega) | exact sh_wish (by omega) | exact sh_wor (by omega) | exact sh_bar (by omega) | exact sh_term (by omega) | exact sh_sheet (by omega) | exact sh_items (by omega) | exact sh_sums (by omega)) (vp_in_nI (by omega) (by decide)) (by decide) (el_house (by omega)) ?_
            refine wp_getI (pc := 84) dX11_best_84 fl_11_152 (by first | rfl | assumption | exact sh_house (by omega) | exact sh_wish (by omega) | exact sh_wor (by omega) | exact sh_bar (by omega) | exact sh_term (by omega) | exact sh_sheet (by omega) | exact sh_items (by omega) | exact sh_sums (by omega)) rfl ?_
            refine wp_aload_n (pc := 87) dX11_best_87 (by first | rfl | assumption | (repeat first | assumption | rfl | refine aG_n ?_ rfl rfl)) ?_
            refine wp_getR (pc := 88) dX11_best_88 fl_11_11 (by first | rfl | assumption | exact sh_house (by omega) | exact sh_wish (by omega) | exact sh_wor (by omega) | exact sh_bar (by omega) | exact sh_term (by omega) | exact sh_sheet (by omega) | exact sh_items (by omega) | exact sh_sums (by omega)) rfl ?_
            refine wp_iload_n (pc := 91) dX11_best_91 (by first | rfl | assumption | (repeat first | assumption | rfl | refine aG_n ?_ rfl rfl)) ?_
            refine wp_aald (pc := 92) dX11_best_92 (by first | rfl | assumption | exact sh_house (by omega) | exact sh_wish (by omega) | exact sh_wor (by omega) | exact sh_bar (by omega) | exact sh_term (by omega) | exact sh_sheet (by omega) | exact sh_items (by omega) | exact sh_sums (by omega)) (vp_in_nI (by omega) (by decide)) (by decide) (el_house (by omega)) ?_
            refine wp_getI (pc := 93) dX11_best_93 fl_11_152 (by first | rfl | assumption | exact sh_house (by omega) | exact sh_wish (by omega) | exact sh_wor (by omega) | exact sh_bar (by omega) | exact sh_term (by omega) | exact sh_sheet (by omega) | exact sh_items (by omega) | exact sh_sums (by omega)) rfl ?_
            refine wp_iadd (pc := 96) dX11_best_96 ?_
            refine wp_icmp_lt (pc := 97) (tgt := 122) dX11_best_97 rfl (fun q => absurd q c4') (fun _ => ?_)
            refine wp_iload (pc := 100) dX11_best_100 (by first | rfl | assumption | (repeat first | assumption | rfl | refine aG_n ?_ rfl rfl)) ?_
            refine wp_cS (pc := 102) dX11_best_102 lk_11_196 rfl rfl rfl (c_X11_isPrice (fun q => absurd q c5) (fun _ => aK_i ?_))
            refine wp_if_eq (pc := 105) (tgt := 122) dX11_best_105 rfl (fun _ => ?_) (fun q => absurd q (by decide))
            refine wp_sipush (pc := 122) (v := -10004) dX11_best_122 (by decide) ?_
            refine wp_ireturn (pc := 125) dX11_best_125 rfl (by first | rfl | decide | assumption) ?_
            refine k _ _ (fun Q' k' => ?_)
            refine wp_iload_n (pc := 0) dX12_best_0 (by first | rfl | assumption | (repeat first | assumption | rfl | refine aG_n ?_ rfl rfl)) ?_
            refine wp_cS (pc := 1) dX12_best_1 lk_12_143 rfl rfl rfl (c_X12_isHouse (fun _ => aK_i ?_) (fun q => absurd c1.1 q))
            refine wp_if_eq (pc := 4) (tgt := 31) dX12_best_4 rfl (fun q => absurd q (by decide)) (fun _ => ?_)
            refine wp_iload_n (pc := 7) dX12_best_7 (by first | rfl | assumption | (repeat first | assumption | rfl | refine aG_n ?_ rfl rfl)) ?_
            refine wp_cS (pc := 8) dX12_best_8 lk_12_143 rfl rfl rfl (c_X12_isHouse (fun _ => aK_i ?_) (fun q => absurd c1.2.1 q))
            refine wp_if_eq (pc := 11) (tgt := 31) dX12_best_11 rfl (fun q => absurd q (by decide)) (fun _ => ?_)
            refine wp_iload_n (pc := 14) dX12_best_14 (by first | rfl | assumption | (repeat first | assumption | rfl | refine aG_n ?_ rfl rfl)) ?_
            refine wp_iload_n (pc := 15) dX12_best_15 (by first | rfl | assumption | (repeat first | assumption | rfl | refine aG_n ?_ rfl rfl)) ?_
            refine wp_icmp_eq (pc := 16) (tgt := 31) dX12_best_16 rfl (fun q => absurd q c1.2.2) (fun _ => ?_)
            refine wp_iload_n (pc := 19) dX12_best_19 (by first | rfl | assumption | (repeat first | assumption | rfl | refine aG_n ?_ rfl rfl)) ?_
            refine wp_i2l (pc := 20) dX12_best_20 ?_
            refine wp_lconst (pc := 21) (v := 0) dX12_best_21 (by decide) ?_
            refine wp_ldc2 (pc := 22) dX12_best_22 cl_12_131 ?_
            refine wp_cS (pc := 25) dX12_best_25 lk_12_133 rfl rfl rfl (c_X12_in (fun _ => aK_i ?_) (fun q => absurd (by rw [w_int]; exact c2) q))
            refine wp_if_ne (pc := 28) (tgt := 35) dX12_best_28 rfl (fun _ => ?_) (fun q => absurd q (by decide))
            refine wp_aload_n (pc := 35) dX12_best_35 (by first | rfl | assumption | (repeat first | assumption | rfl | refine aG_n ?_ rfl rfl)) ?_
            refine wp_iload_n (pc := 36) dX12_best_36 (by first | rfl | assumption | (repeat first | assumption | rfl | refine aG_n ?_ rfl rfl)) ?_
            refine wp_cV (pc := 37) dX12_best_37 lk_12_208 rfl (by decide) rfl (by first | rfl | assumption | exact sh_house (by omega) | exact sh_wish (by omega) | exact sh_wor (by omega) | exact sh_bar (by omega) | exact sh_term (by omega) | exact sh_sheet (by omega) | exact sh_items (by omega) | exact sh_sums (by omega)) rfl rfl (c_X12_thingsOf (aK_i ?_))
            refine wp_aload_n (pc := 40) dX12_best_40 (by first | rfl | assumption | (repeat first | assumption | rfl | refine aG_n ?_ rfl rfl)) ?_
            refine wp_iload_n (pc := 41) dX12_best_41 (by first | rfl | assumption | (repeat first | assumption | rfl | refine aG_n ?_ rfl rfl)) ?_
            refine wp_cV (pc := 42) dX12_best_42 lk_12_208 rfl (by decide) rfl (by first | rfl | assumption | exact sh_house (by omega) | exact sh_wish (by omega) | exact sh_wor (by omega) | exact sh_bar (by omega) | exact sh_term (by omega) | exact sh_sheet (by omega) | exact sh_items (by omega) | exact sh_sums (by omega)) rfl rfl (c_X12_thingsOf (aK_i ?_))
            refine wp_ior (pc := 45) dX12_best_45 ?_
            refine wp_istore (pc := 46) dX12_best_46 (by decide) ?_
            refine wp_iconst (pc := 48) (v := -1) dX12_best_48 (by decide) ?_
            refine wp_istore (pc := 49) dX12_best_49 (by decide) ?_
            refine wp_iconst (pc := 51) (v := 0) dX12_best_51 (by decide) ?_
            refine wp_istore (pc := 52) dX12_best_52 (by decide) ?_
            refine wp_iconst (pc := 54) (v := 0) dX12_best_54 (by decide) ?_
            refine wp_istore (pc := 55) dX12_best_55 (by decide) ?_
            refine l_m_best (i := i) (j := j) (wh := _) hI1.2.2.2.1 (by omega) (by omega) (fun L h0 h1 h2 h3 h4 h5 h6 => ?_) 64 0 (by omega) _ (by first | rfl | assumption | (repeat first | assumption | rfl | refine aG_n ?_ rfl rfl)) (by first | rfl | assumption | (repeat first | assumption | rfl | refine aG_n ?_ rfl rfl)) (by first | rfl | assumption | (repeat first | assumption | rfl | refine aG_n ?_ rfl rfl)) (by first | rfl | assumption | (repeat first | assumption | rfl | refine aG_n ?_ rfl rfl)) (by first | rfl | assumption | (repeat first | assumption | rfl | refine aG_n ?_ rfl rfl)) (by first | rfl | assumption | (repeat first | assumption | rfl | refine aG_n ?_ rfl rfl)) (by first | rfl | assumption | (repeat first | assumption | rfl | refine aG_n ?_ rfl rfl)) (by first | rfl | assumption | (repeat first | assumption | rfl | refine aG_n ?_ rfl rfl))
            rw [hb] at h5 h6
            replace h6 : aL_get L 6 = some (.int (gnd μ.1 (two (th μ.1 i) (th μ.1 j)) (two (56 + 4 * i) (56 + 4 * j)) 0 u + gnd μ.1 (two (th μ.1 i) (th μ.1 j)) (two (56 + 4 * i) (56 + 4 * j)) 1 u)) := h6
            refine wp_iload (pc := 137) dX12_best_137 (by first | rfl | assumption | (repeat first | assumption | rfl | refine aG_n ?_ rfl rfl)) ?_
            refine wp_if_lt (pc := 139) (tgt := 160) dX12_best_139 rfl (fun q => absurd q lu) (fun _ => ?_)
            refine wp_iload (pc := 142) dX12_best_142 (by first | rfl | assumption | (repeat first | assumption | rfl | refine aG_n ?_ rfl rfl)) ?_
            refine wp_aload_n (pc := 144) dX12_best_144 (by first | rfl | assumption | (repeat first | assumption | rfl | refine aG_n ?_ rfl rfl)) ?_
            refine wp_getR (pc := 145) dX12_best_145 fl_12_16 (by first | rfl | assumption | exact sh_house (by omega) | exact sh_wish (by omega) | exact sh_wor (by omega) | exact sh_bar (by omega) | exact sh_term (by omega) | exact sh_sheet (by omega) | exact sh_items (by omega) | exact sh_sums (by omega)) rfl ?_
            refine wp_iload_n (pc := 148) dX12_best_148 (by first | rfl | assumption | (repeat first | assumption | rfl | refine aG_n ?_ rfl rfl)) ?_
            refine wp_iald (pc := 149) dX12_best_149 (by first | rfl | assumption | exact sh_house (by omega) | exact sh_wish (by omega) | exact sh_wor (by omega) | exact sh_bar (by omega) | exact sh_term (by omega) | exact sh_sheet (by omega) | exact sh_items (by omega) | exact sh_sums (by omega)) (vp_in_nI (by omega) (by decide)) ?_
            refine wp_aload_n (pc := 150) dX12_best_150 (by first | rfl | assumption | (repeat first | assumption | rfl | refine aG_n ?_ rfl rfl)) ?_
            refine wp_getR (pc := 151) dX12_best_151 fl_12_16 (by first | rfl | assumption | exact sh_house (by omega) | exact sh_wish (by omega) | exact sh_wor (by omega) | exact sh_bar (by omega) | exact sh_term (by omega) | exact sh_sheet (by omega) | exact sh_items (by omega) | exact sh_sums (by omega)) rfl ?_
            refine wp_iload_n (pc := 154) dX12_best_154 (by first | rfl | assumption | (repeat first | assumption | rfl | refine aG_n ?_ rfl rfl)) ?_
            refine wp_iald (pc := 155) dX12_best_155 (by first | rfl | assumption | exact sh_house (by omega) | exact sh_wish (by omega) | exact sh_wor (by omega) | exact sh_bar (by omega) | exact sh_term (by omega) | exact sh_sheet (by omega) | exact sh_items (by omega) | exact sh_sums (by omega)) (vp_in_nI (by omega) (by decide)) ?_
            refine wp_iadd (pc := 156) dX12_best_156 ?_
            refine wp_icmp_ge (pc := 157) (tgt := 164) dX12_best_157 rfl (fun _ => ?_) (fun q => absurd hm4 q)
            refine wp_aload_n (pc := 164) dX12_best_164 (by first | rfl | assumption | (repeat first | assumption | rfl | refine aG_n ?_ rfl rfl)) ?_
            refine wp_iload_n (pc := 165) dX12_best_165 (by first | rfl | assumption | (repeat first | assumption | rfl | refine aG_n ?_ rfl rfl)) ?_
            refine wp_iload (pc := 166) dX12_best_166 (by first | rfl | assumption | (repeat first | assumption | rfl | refine aG_n ?_ rfl rfl)) ?_
            refine wp_cV (pc := 168) dX12_best_168 lk_12_224 rfl (by decide) rfl (by first | rfl | assumption | exact sh_house (by omega) | exact sh_wish (by omega) | exact sh_wor (by omega) | exact sh_bar (by omega) | exact sh_term (by omega) | exact sh_sheet (by omega) | exact sh_items (by omega) | exact sh_sums (by omega)) rfl rfl (m_more hW1 hi4 hu rfl (aK_i ?_))
            refine wp_aload_n (pc := 171) dX12_best_171 (by first | rfl | assumption | (repeat first | assumption | rfl | refine aG_n ?_ rfl rfl)) ?_
            refine wp_iload_n (pc := 172) dX12_best_172 (by first | rfl | assumption | (repeat first | assumption | rfl | refine aG_n ?_ rfl rfl)) ?_
            refine wp_iload (pc := 173) dX12_best_173 (by first | rfl | assumption | (repeat first | assumption | rfl | refine aG_n ?_ rfl rfl)) ?_
            refine wp_cV (pc := 175) dX12_best_175 lk_12_224 rfl (by decide) rfl (by first | rfl | assumption | exact sh_house (by omega) | exact sh_wish (by omega) | exact sh_wor (by omega) | exact sh_bar (by omega) | exact sh_term (by omega) | exact sh_sheet (by omega) | exact sh_items (by omega) | exact sh_sums (by omega)) rfl rfl (m_more hW1 hj4 hu rfl (aK_i ?_))
            refine wp_isub (pc := 178) dX12_best_178 ?_
            refine wp_iconst (pc := 179) (v := 2) dX12_best_179 (by decide) ?_
            refine wp_idiv (pc := 180) dX12_best_180 (by decide) ?_
            refine wp_istore (pc := 181) dX12_best_181 (by decide) ?_
            refine wp_iload (pc := 183) dX12_best_183 (by first | rfl | assumption | (repeat first | assumption | rfl | refine aG_n ?_ rfl rfl)) ?_
            refine wp_i2l (pc := 185) dX12_best_185 ?_
            refine wp_ldc2 (pc := 186) dX12_best_186 cl_12_218 ?_
            refine wp_ldc2 (pc := 189) dX12_best_189 cl_12_216 ?_
            refine wp_cS (pc := 192) dX12_best_192 lk_12_133 rfl rfl rfl (c_X12_in (fun q => absurd q (by rw [w_int, ← su, ← sv]; exact c5)) (fun _ => aK_i ?_))
            refine wp_if_eq (pc := 195) (tgt := 211) dX12_best_195 rfl (fun _ => ?_) (fun q => absurd q (by decide))
            refine wp_sipush (pc := 211) (v := -10004) dX12_best_211 (by decide) ?_
            refine wp_ireturn (pc := 214) dX12_best_214 rfl (by first | rfl | decide | assumption) ?_
            exact k' _ hI1
    · skip
      refine wp_iload_n (pc := 0) dX11_best_0 (by first | rfl | assumption | (repeat first | assumption | rfl | refine aG_n ?_ rfl rfl)) ?_
      refine wp_iload_n (pc := 1) dX11_best_1 (by first | rfl | assumption | (repeat first | assumption | rfl | refine aG_n ?_ rfl rfl)) ?_
      refine wp_cS (pc := 2) dX11_best_2 lk_11_183 rfl rfl rfl (c_X11_isTwoHouses (fun _ => aK_i ?_) (fun q => absurd c1 q))
      refine wp_if_eq (pc := 5) (tgt := 17) dX11_best_5 rfl (fun q => absurd q (by decide)) (fun _ => ?_)
      refine wp_iload_n (pc := 8) dX11_best_8 (by first | rfl | assumption | (repeat first | assumption | rfl | refine aG_n ?_ rfl rfl)) ?_
      refine wp_iconst (pc := 9) (v := 0) dX11_best_9 (by decide) ?_
      refine wp_iconst (pc := 10) (v := 3) dX11_best_10 (by decide) ?_
      refine wp_cS (pc := 11) dX11_best_11 lk_11_112 rfl rfl rfl (c_X11_isWithin (fun q => absurd q c2) (fun _ => aK_i ?_))
      refine wp_if_ne (pc := 14) (tgt := 21) dX11_best_14 rfl (fun q => absurd q (by decide)) (fun _ => ?_)
      refine wp_sipush (pc := 17) (v := -10001) dX11_best_17 (by decide) ?_
      refine wp_ireturn (pc := 20) dX11_best_20 rfl (by first | rfl | decide | assumption) ?_
      refine k _ _ (fun Q' k' => ?_)
      refine wp_iload_n (pc := 0) dX12_best_0 (by first | rfl | assumption | (repeat first | assumption | rfl | refine aG_n ?_ rfl rfl)) ?_
      refine wp_cS (pc := 1) dX12_best_1 lk_12_143 rfl rfl rfl (c_X12_isHouse (fun _ => aK_i ?_) (fun q => absurd c1.1 q))
      refine wp_if_eq (pc := 4) (tgt := 31) dX12_best_4 rfl (fun q => absurd q (by decide)) (fun _ => ?_)
      refine wp_iload_n (pc := 7) dX12_best_7 (by first | rfl | assumption | (repeat first | assumption | rfl | refine aG_n ?_ rfl rfl)) ?_
      refine wp_cS (pc := 8) dX12_best_8 lk_12_143 rfl rfl rfl (c_X12_isHouse (fun _ => aK_i ?_) (fun q => absurd c1.2.1 q))
      refine wp_if_eq (pc := 11) (tgt := 31) dX12_best_11 rfl (fun q => absurd q (by decide)) (fun _ => ?_)
      refine wp_iload_n (pc := 14) dX12_best_14 (by first | rfl | assumption | (repeat first | assumption | rfl | refine aG_n ?_ rfl rfl)) ?_
      refine wp_iload_n (pc := 15) dX12_best_15 (by first | rfl | assumption | (repeat first | assumption | rfl | refine aG_n ?_ rfl rfl)) ?_
      refine wp_icmp_eq (pc := 16) (tgt := 31) dX12_best_16 rfl (fun q => absurd q c1.2.2) (fun _ => ?_)
      refine wp_iload_n (pc := 19) dX12_best_19 (by first | rfl | assumption | (repeat first | assumption | rfl | refine aG_n ?_ rfl rfl)) ?_
      refine wp_i2l (pc := 20) dX12_best_20 ?_
      refine wp_lconst (pc := 21) (v := 0) dX12_best_21 (by decide) ?_
      refine wp_ldc2 (pc := 22) dX12_best_22 cl_12_131 ?_
      refine wp_cS (pc := 25) dX12_best_25 lk_12_133 rfl rfl rfl (c_X12_in (fun q => absurd q (by rw [w_int]; exact c2)) (fun _ => aK_i ?_))
      refine wp_if_ne (pc := 28) (tgt := 35) dX12_best_28 rfl (fun q => absurd q (by decide)) (fun _ => ?_)
      refine wp_sipush (pc := 31) (v := -10001) dX12_best_31 (by decide) ?_
      refine wp_ireturn (pc := 34) dX12_best_34 rfl (by first | rfl | decide | assumption) ?_
      exact k' _ hI
  · skip
    refine wp_iload_n (pc := 0) dX11_best_0 (by first | rfl | assumption | (repeat first | assumption | rfl | refine aG_n ?_ rfl rfl)) ?_
    refine wp_iload_n (pc := 1) dX11_best_1 (by first | rfl | assumption | (repeat first | assumption | rfl | refine aG_n ?_ rfl rfl)) ?_
    refine wp_cS (pc := 2) dX11_best_2 lk_11_183 rfl rfl rfl (c_X11_isTwoHouses (fun q => absurd q c1) (fun _ => aK_i ?_))
    refine wp_if_eq (pc := 5) (tgt := 17) dX11_best_5 rfl (fun _ => ?_) (fun q => absurd q (by decide))
    refine wp_sipush (pc := 17) (v := -10001) dX11_best_17 (by decide) ?_
    refine wp_ireturn (pc := 20) dX11_best_20 rfl (by first | rfl | decide | assumption) ?_
    refine k _ _ (fun Q' k' => ?_)
    by_cases d1 : inR a 0 3
    · by_cases d2 : inR b 0 3
      · have d3 : a = b := Classical.byContradiction (fun z => c1 ⟨d1, d2, z⟩)
        refine wp_iload_n (pc := 0) dX12_best_0 (by first | rfl | assumption | (repeat first | assumption | rfl | refine aG_n ?_ rfl rfl)) ?_
        refine wp_cS (pc := 1) dX12_best_1 lk_12_143 rfl rfl rfl (c_X12_isHouse (fun _ => aK_i ?_) (fun q => absurd d1 q))
        refine wp_if_eq (pc := 4) (tgt := 31) dX12_best_4 rfl (fun q => absurd q (by decide)) (fun _ => ?_)
        refine wp_iload_n (pc := 7) dX12_best_7 (by first | rfl | assumption | (repeat first | assumption | rfl | refine aG_n ?_ rfl rfl)) ?_
        refine wp_cS (pc := 8) dX12_best_8 lk_12_143 rfl rfl rfl (c_X12_isHouse (fun _ => aK_i ?_) (fun q => absurd d2 q))
        refine wp_if_eq (pc := 11) (tgt := 31) dX12_best_11 rfl (fun q => absurd q (by decide)) (fun _ => ?_)
        refine wp_iload_n (pc := 14) dX12_best_14 (by first | rfl | assumption | (repeat first | assumption | rfl | refine aG_n ?_ rfl rfl)) ?_
        refine wp_iload_n (pc := 15) dX12_best_15 (by first | rfl | assumption | (repeat first | assumption | rfl | refine aG_n ?_ rfl rfl)) ?_
        refine wp_icmp_eq (pc := 16) (tgt := 31) dX12_best_16 rfl (fun _ => ?_) (fun q => absurd d3 q)
        refine wp_sipush (pc := 31) (v := -10001) dX12_best_31 (by decide) ?_
        refine wp_ireturn (pc := 34) dX12_best_34 rfl (by first | rfl | decide | assumption) ?_
        exact k' _ hI
      · skip
        refine wp_iload_n (pc := 0) dX12_best_0 (by first | rfl | assumption | (repeat first | assumption | rfl | refine aG_n ?_ rfl rfl)) ?_
        refine wp_cS (pc := 1) dX12_best_1 lk_12_143 rfl rfl rfl (c_X12_isHouse (fun _ => aK_i ?_) (fun q => absurd d1 q))
        refine wp_if_eq (pc := 4) (tgt := 31) dX12_best_4 rfl (fun q => absurd q (by decide)) (fun _ => ?_)
        refine wp_iload_n (pc := 7) dX12_best_7 (by first | rfl | assumption | (repeat first | assumption | rfl | refine aG_n ?_ rfl rfl)) ?_
        refine wp_cS (pc := 8) dX12_best_8 lk_12_143 rfl rfl rfl (c_X12_isHouse (fun q => absurd q d2) (fun _ => aK_i ?_))
        refine wp_if_eq (pc := 11) (tgt := 31) dX12_best_11 rfl (fun _ => ?_) (fun q => absurd q (by decide))
        refine wp_sipush (pc := 31) (v := -10001) dX12_best_31 (by decide) ?_
        refine wp_ireturn (pc := 34) dX12_best_34 rfl (by first | rfl | decide | assumption) ?_
        exact k' _ hI
    · skip
      refine wp_iload_n (pc := 0) dX12_best_0 (by first | rfl | assumption | (repeat first | assumption | rfl | refine aG_n ?_ rfl rfl)) ?_
      refine wp_cS (pc := 1) dX12_best_1 lk_12_143 rfl rfl rfl (c_X12_isHouse (fun q => absurd q d1) (fun _ => aK_i ?_))
      refine wp_if_eq (pc := 4) (tgt := 31) dX12_best_4 rfl (fun _ => ?_) (fun q => absurd q (by decide))
      refine wp_sipush (pc := 31) (v := -10001) dX12_best_31 (by decide) ?_
      refine wp_ireturn (pc := 34) dX12_best_34 rfl (by first | rfl | decide | assumption) ?_
      exact k' _ hI
