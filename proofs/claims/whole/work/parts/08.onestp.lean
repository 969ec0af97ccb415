set_option maxHeartbeats 4000000 in
set_option maxRecDepth 100000 in
theorem aOne_stp {D : va_G} {κ : Nat → ClassId} {B b o : Nat} {X : aX} {m : aM} {i : Instr} {len pc pc' : Nat} {L L' : aL} {S S' : List Value} {h h2 : aH} (hd : decode (am_cd m) pc = .ok (i, len)) (e : aOne X m i len pc L S h = some (pc', L', S', h2)) : aStp D κ B b o X m pc L S h pc' L' S' h2 := by
  cases i with
  | iconst n =>
    simp only [aOne] at e
    split at e
    · next hln =>
      subst hln
      cases e
      exact aStp.pure (fun p l e R s mi args below meth c H locs cells slots ls Q hC _ _ _ _ _ _ _ hl K => lv_iconst hC.1 hC.2.1 hd rfl K)
    · cases e
  | bipush n =>
    simp only [aOne] at e
    split at e
    · next hln =>
      subst hln
      cases e
      exact aStp.pure (fun p l e R s mi args below meth c H locs cells slots ls Q hC _ _ _ _ _ _ _ hl K => lv_bipush hC.1 hC.2.1 hd rfl K)
    · cases e
  | sipush n =>
    simp only [aOne] at e
    split at e
    · next hln =>
      subst hln
      cases e
      exact aStp.pure (fun p l e R s mi args below meth c H locs cells slots ls Q hC _ _ _ _ _ _ _ hl K => lv_sipush hC.1 hC.2.1 hd rfl K)
    · cases e
  | lconst n =>
    simp only [aOne] at e
    split at e
    · next hln =>
      subst hln
      cases e
      exact aStp.pure (fun p l e R s mi args below meth c H locs cells slots ls Q hC _ _ _ _ _ _ _ hl K => lv_lconst hC.1 hC.2.1 hd rfl K)
    · cases e
  | ldc ix =>
    simp only [aOne] at e
    split at e
    · next hln =>
      subst hln
      replace e := Option.bind_eq_some_iff.mp e; obtain ⟨v, e1, e⟩ := e
      cases e
      exact aStp.pure (fun p l e R s mi args below meth c H locs cells slots ls Q hC _ _ _ _ _ _ _ hl K => lv_ldc hC.1 hC.2.1 hC.2.2.2.2.2.1 (hC.2.2.2.2.2.2.1 _ (aT (aCst_ok e1) rfl)) hd K)
    · cases e
  | ldc_w ix =>
    simp only [aOne] at e
    split at e
    · next hln =>
      subst hln
      replace e := Option.bind_eq_some_iff.mp e; obtain ⟨v, e1, e⟩ := e
      cases e
      exact aStp.pure (fun p l e R s mi args below meth c H locs cells slots ls Q hC _ _ _ _ _ _ _ hl K => lv_ldcw hC.1 hC.2.1 hC.2.2.2.2.2.1 (hC.2.2.2.2.2.2.1 _ (aT (aCst_ok e1) rfl)) hd K)
    · cases e
  | ldc2_w ix =>
    simp only [aOne] at e
    split at e
    · next hln =>
      subst hln
      replace e := Option.bind_eq_some_iff.mp e; obtain ⟨v, e1, e⟩ := e
      cases e
      exact aStp.pure (fun p l e R s mi args below meth c H locs cells slots ls Q hC _ _ _ _ _ _ _ hl K => lv_ldc2 hC.1 hC.2.1 hC.2.2.2.2.2.1 (hC.2.2.2.2.2.2.1 _ (aT (aCsL_ok e1) rfl)) hd K)
    · cases e
  | iload i =>
    simp only [aOne] at e
    split at e
    · next hln =>
      subst hln
      exact aLd_stp (fun _ => fun p l e R s mi args below meth c H locs cells slots ls Q hC x rest hg K => lv_iload hC.1 hC.2.1 hd hg K) (fun q => absurd q (by decide)) (fun q => absurd q (by decide)) e
    · cases e
  | iload_n i =>
    simp only [aOne] at e
    split at e
    · next hln =>
      subst hln
      exact aLd_stp (fun _ => fun p l e R s mi args below meth c H locs cells slots ls Q hC x rest hg K => lv_iload_n hC.1 hC.2.1 hd rfl hg K) (fun q => absurd q (by decide)) (fun q => absurd q (by decide)) e
    · cases e
  | lload i =>
    simp only [aOne] at e
    split at e
    · next hln =>
      subst hln
      exact aLd_stp (fun q => absurd q (by decide)) (fun _ => fun p l e R s mi args below meth c H locs cells slots ls Q hC x rest hg K => lv_lload hC.1 hC.2.1 hd hg K) (fun q => absurd q (by decide)) e
    · cases e
  | lload_n i =>
    simp only [aOne] at e
    split at e
    · next hln =>
      subst hln
      exact aLd_stp (fun q => absurd q (by decide)) (fun _ => fun p l e R s mi args below meth c H locs cells slots ls Q hC x rest hg K => lv_lload_n hC.1 hC.2.1 hd rfl hg K) (fun q => absurd q (by decide)) e
    · cases e
  | aload i =>
    simp only [aOne] at e
    split at e
    · next hln =>
      subst hln
      exact aLd_stp (fun q => absurd q (by decide)) (fun q => absurd q (by decide)) (fun _ => fun p l e R s mi args below meth c H locs cells slots ls Q hC x rest hg K => lv_aload hC.1 hC.2.1 hd hg K) e
    · cases e
  | aload_n i =>
    simp only [aOne] at e
    split at e
    · next hln =>
      subst hln
      exact aLd_stp (fun q => absurd q (by decide)) (fun q => absurd q (by decide)) (fun _ => fun p l e R s mi args below meth c H locs cells slots ls Q hC x rest hg K => lv_aload_n hC.1 hC.2.1 hd rfl hg K) e
    · cases e
  | istore i =>
    simp only [aOne] at e
    split at e
    · next hln =>
      subst hln
      exact aStI_stp (fun p l e R s mi args below meth c H locs cells slots ls Q hC x rest lv lv2 h1 h2 h3 K => lv_istore hC.1 hC.2.1 hd h1 h2 h3 K) e
    · cases e
  | istore_n i =>
    simp only [aOne] at e
    split at e
    · next hln =>
      subst hln
      exact aStI_stp (fun p l e R s mi args below meth c H locs cells slots ls Q hC x rest lv lv2 h1 h2 h3 K => lv_istore_n hC.1 hC.2.1 hd rfl h1 h2 h3 K) e
    · cases e
  | lstore i =>
    simp only [aOne] at e
    split at e
    · next hln =>
      subst hln
      exact aStJ_stp (fun p l e R s mi args below meth c H locs cells slots ls Q hC x rest lv lv2 h1 h2 h3 K => lv_lstore hC.1 hC.2.1 hd h1 h2 h3 K) e
    · cases e
  | lstore_n i =>
    simp only [aOne] at e
    split at e
    · next hln =>
      subst hln
      exact aStJ_stp (fun p l e R s mi args below meth c H locs cells slots ls Q hC x rest lv lv2 h1 h2 h3 K => lv_lstore_n hC.1 hC.2.1 hd rfl h1 h2 h3 K) e
    · cases e
  | astore i =>
    simp only [aOne] at e
    split at e
    · next hln =>
      subst hln
      exact aStR_stp (fun p l e R s mi args below meth c H locs cells slots ls Q hC x rest lv lv2 h1 h2 h3 K => lv_astore hC.1 hC.2.1 hd h1 h2 h3 K) e
    · cases e
  | astore_n i =>
    simp only [aOne] at e
    split at e
    · next hln =>
      subst hln
      exact aStR_stp (fun p l e R s mi args below meth c H locs cells slots ls Q hC x rest lv lv2 h1 h2 h3 K => lv_astore_n hC.1 hC.2.1 hd rfl h1 h2 h3 K) e
    · cases e
  | iinc i n =>
    simp only [aOne] at e
    split at e
    · next hln =>
      obtain ⟨hln, hi⟩ := hln
      subst hln
      split at e
      · next x hg =>
        cases e
        exact aStp.loc (fun p l e R s mi args below meth c H locs cells slots ls Q hC hl K => by
          obtain ⟨k, hk⟩ := List.getElem?_of_mem (List.mem_map.mpr ⟨(i, Value.int x), aL_get_mem hg, rfl⟩ : (i, Value.int x) ∈ L.map (rl B b o))
          exact lv_iinc hC.1 hC.2.1 hd hl hk rfl hi (aL_set_map (v := .int (x + Int32.ofInt n))) K)
      · cases e
    · cases e
  | dup =>
    simp only [aOne] at e
    split at e
    · next hln =>
      subst hln
      replace e := Option.bind_eq_some_iff.mp e; obtain ⟨⟨v, S1⟩, e1, e⟩ := e
      cases e
      obtain ⟨rfl, hv⟩ := pV_eq e1
      exact aStp.pure (fun p l e R s mi args below meth c H locs cells slots ls Q hC _ _ _ _ _ _ _ hl K => lv_dup hC.1 hC.2.1 hd ((rv_cat v).trans hv) K)
    · cases e
  | pop =>
    simp only [aOne] at e
    split at e
    · next hln =>
      subst hln
      replace e := Option.bind_eq_some_iff.mp e; obtain ⟨⟨v, S1⟩, e1, e⟩ := e
      cases e
      obtain ⟨rfl, hv⟩ := pV_eq e1
      exact aStp.pure (fun p l e R s mi args below meth c H locs cells slots ls Q hC _ _ _ _ _ _ _ hl K => lv_pop hC.1 hC.2.1 hd ((rv_cat v).trans hv) K)
    · cases e
  | dup2 =>
    simp only [aOne] at e
    split at e
    · next hln =>
      subst hln
      replace e := Option.bind_eq_some_iff.mp e; obtain ⟨⟨v, S1⟩, e1, e⟩ := e
      replace e := Option.bind_eq_some_iff.mp e; obtain ⟨⟨w, S2⟩, e2, e⟩ := e
      cases e
      obtain ⟨rfl, hv⟩ := pV_eq e1
      obtain ⟨rfl, hw⟩ := pV_eq e2
      exact aStp.pure (fun p l e R s mi args below meth c H locs cells slots ls Q hC _ _ _ _ _ _ _ hl K => lv_dup2_11 hC.1 hC.2.1 hd ((rv_cat v).trans hv) ((rv_cat w).trans hw) K)
    · cases e
  | iadd =>
    simp only [aOne] at e
    split at e
    · next hln =>
      subst hln
      exact a2i_stp (fun p l e R s mi args below meth c H locs cells slots ls Q hC x y v rest hv K => by cases hv; exact lv_iadd hC.1 hC.2.1 hd K) e
    · cases e
  | isub =>
    simp only [aOne] at e
    split at e
    · next hln =>
      subst hln
      exact a2i_stp (fun p l e R s mi args below meth c H locs cells slots ls Q hC x y v rest hv K => by cases hv; exact lv_isub hC.1 hC.2.1 hd K) e
    · cases e
  | imul =>
    simp only [aOne] at e
    split at e
    · next hln =>
      subst hln
      exact a2i_stp (fun p l e R s mi args below meth c H locs cells slots ls Q hC x y v rest hv K => by cases hv; exact lv_imul hC.1 hC.2.1 hd K) e
    · cases e
  | iand =>
    simp only [aOne] at e
    split at e
    · next hln =>
      subst hln
      exact a2i_stp (fun p l e R s mi args below meth c H locs cells slots ls Q hC x y v rest hv K => by cases hv; exact lv_iand hC.1 hC.2.1 hd K) e
    · cases e
  | ior =>
    simp only [aOne] at e
    split at e
    · next hln =>
      subst hln
      exact a2i_stp (fun p l e R s mi args below meth c H locs cells slots ls Q hC x y v rest hv K => by cases hv; exact lv_ior hC.1 hC.2.1 hd K) e
    · cases e
  | ixor =>
    simp only [aOne] at e
    split at e
    · next hln =>
      subst hln
      exact a2i_stp (fun p l e R s mi args below meth c H locs cells slots ls Q hC x y v rest hv K => by cases hv; exact lv_ixor hC.1 hC.2.1 hd K) e
    · cases e
  | ishl =>
    simp only [aOne] at e
    split at e
    · next hln =>
      subst hln
      exact a2i_stp (fun p l e R s mi args below meth c H locs cells slots ls Q hC x y v rest hv K => by cases hv; exact lv_ishl hC.1 hC.2.1 hd K) e
    · cases e
  | ishr =>
    simp only [aOne] at e
    split at e
    · next hln =>
      subst hln
      exact a2i_stp (fun p l e R s mi args below meth c H locs cells slots ls Q hC x y v rest hv K => by cases hv; exact lv_ishr hC.1 hC.2.1 hd K) e
    · cases e
  | iushr =>
    simp only [aOne] at e
    split at e
    · next hln =>
      subst hln
      exact a2i_stp (fun p l e R s mi args below meth c H locs cells slots ls Q hC x y v rest hv K => lv_iushr hC.1 hC.2.1 hd (Option.some.inj hv) K) e
    · cases e
  | idiv =>
    simp only [aOne] at e
    split at e
    · next hln =>
      subst hln
      refine a2i_stp (fun p l e R s mi args below meth c H locs cells slots ls Q hC x y v rest hv K => ?_) e
      split at hv
      · cases hv
      · next hy => cases hv; exact lv_idiv hC.1 hC.2.1 hd hy K
    · cases e
  | irem =>
    simp only [aOne] at e
    split at e
    · next hln =>
      subst hln
      refine a2i_stp (fun p l e R s mi args below meth c H locs cells slots ls Q hC x y v rest hv K => ?_) e
      split at hv
      · cases hv
      · next hy => cases hv; exact lv_irem hC.1 hC.2.1 hd hy K
    · cases e
  | ineg =>
    simp only [aOne] at e
    split at e
    · next hln =>
      subst hln
      refine a1i_stp ?_ e
      exact (fun p l e R s mi args below meth c H locs cells slots ls Q hC x rest K => lv_ineg hC.1 hC.2.1 hd K)
    · cases e
  | i2b =>
    simp only [aOne] at e
    split at e
    · next hln =>
      subst hln
      refine a1i_stp ?_ e
      exact (fun p l e R s mi args below meth c H locs cells slots ls Q hC x rest K => lv_i2b hC.1 hC.2.1 hd rfl K)
    · cases e
  | i2s =>
    simp only [aOne] at e
    split at e
    · next hln =>
      subst hln
      refine a1i_stp ?_ e
      exact (fun p l e R s mi args below meth c H locs cells slots ls Q hC x rest K => lv_i2s hC.1 hC.2.1 hd rfl K)
    · cases e
  | i2l =>
    simp only [aOne] at e
    split at e
    · next hln =>
      subst hln
      refine a1i_stp ?_ e
      exact (fun p l e R s mi args below meth c H locs cells slots ls Q hC x rest K => lv_i2l hC.1 hC.2.1 hd rfl K)
    · cases e
  | l2i =>
    simp only [aOne] at e
    split at e
    · next hln =>
      subst hln
      replace e := Option.bind_eq_some_iff.mp e; obtain ⟨⟨v, S1⟩, e1, e⟩ := e
      cases e
      obtain rfl := pJ_eq e1
      exact aStp.pure (fun p l e R s mi args below meth c H locs cells slots ls Q hC _ _ _ _ _ _ _ hl K => lv_l2i hC.1 hC.2.1 hd rfl K)
    · cases e
  | ladd =>
    simp only [aOne] at e
    split at e
    · next hln =>
      subst hln
      refine a2j_stp ?_ e
      exact (fun p l e R s mi args below meth c H locs cells slots ls Q hC x y rest K => lv_ladd hC.1 hC.2.1 hd K)
    · cases e
  | lmul =>
    simp only [aOne] at e
    split at e
    · next hln =>
      subst hln
      refine a2j_stp ?_ e
      exact (fun p l e R s mi args below meth c H locs cells slots ls Q hC x y rest K => lv_lmul hC.1 hC.2.1 hd K)
    · cases e
  | land =>
    simp only [aOne] at e
    split at e
    · next hln =>
      subst hln
      refine a2j_stp ?_ e
      exact (fun p l e R s mi args below meth c H locs cells slots ls Q hC x y rest K => lv_land hC.1 hC.2.1 hd K)
    · cases e
  | lor =>
    simp only [aOne] at e
    split at e
    · next hln =>
      subst hln
      refine a2j_stp ?_ e
      exact (fun p l e R s mi args below meth c H locs cells slots ls Q hC x y rest K => lv_lor hC.1 hC.2.1 hd K)
    · cases e
  | lcmp =>
    simp only [aOne] at e
    split at e
    · next hln =>
      subst hln
      refine a2j_stp ?_ e
      exact (fun p l e R s mi args below meth c H locs cells slots ls Q hC x y rest K => W.lcmp hC.1 hC.2.1 hd K)
    · cases e
  | lshl =>
    simp only [aOne] at e
    split at e
    · next hln =>
      subst hln
      refine a2s_stp ?_ e
      exact (fun p l e R s mi args below meth c H locs cells slots ls Q hC x y rest K => lv_lshl hC.1 hC.2.1 hd rfl K)
    · cases e
  | lshr =>
    simp only [aOne] at e
    split at e
    · next hln =>
      subst hln
      refine a2s_stp ?_ e
      exact (fun p l e R s mi args below meth c H locs cells slots ls Q hC x y rest K => lv_lshr hC.1 hC.2.1 hd rfl K)
    · cases e
  | lushr =>
    simp only [aOne] at e
    split at e
    · next hln =>
      subst hln
      refine a2s_stp ?_ e
      exact (fun p l e R s mi args below meth c H locs cells slots ls Q hC x y rest K => lv_lushr hC.1 hC.2.1 hd rfl K)
    · cases e
  | ifCond cd off =>
    simp only [aOne] at e
    split at e
    · next hln =>
      subst hln
      replace e := Option.bind_eq_some_iff.mp e; obtain ⟨⟨x, S1⟩, e1, e⟩ := e
      obtain rfl := pI_eq e1
      replace e := Option.bind_eq_some_iff.mp e; obtain ⟨t, e3, e⟩ := e
      cases e
      have ht := aTgt_eq e3
      refine aStp.pure (fun p l e R s mi args below meth c H locs cells slots ls Q hC _ _ _ _ _ _ _ hl K => ?_)
      cases cd with
      | eq => exact lv_if_eq hC.1 hC.2.1 hd ht (fun q => by rw [if_pos (show aC2 .eq x 0 = true from decide_eq_true q)] at K; exact K) (fun q => by rw [if_neg (show ¬ aC2 .eq x 0 = true from fun z => q (of_decide_eq_true z))] at K; exact K)
      | ne => exact lv_if_ne hC.1 hC.2.1 hd ht (fun q => by rw [if_pos (show aC2 .ne x 0 = true from decide_eq_true q)] at K; exact K) (fun q => by rw [if_neg (show ¬ aC2 .ne x 0 = true from fun z => of_decide_eq_true z q)] at K; exact K)
      | lt => exact lv_if_lt hC.1 hC.2.1 hd ht (fun q => by rw [if_pos (show aC2 .lt x 0 = true from decide_eq_true q)] at K; exact K) (fun q => by rw [if_neg (show ¬ aC2 .lt x 0 = true from fun z => q (of_decide_eq_true z))] at K; exact K)
      | ge => exact lv_if_ge hC.1 hC.2.1 hd ht (fun q => by rw [if_pos (show aC2 .ge x 0 = true from decide_eq_true q)] at K; exact K) (fun q => by rw [if_neg (show ¬ aC2 .ge x 0 = true from fun z => q (of_decide_eq_true z))] at K; exact K)
      | gt => exact lv_if_gt hC.1 hC.2.1 hd ht (fun q => by rw [if_pos (show aC2 .gt x 0 = true from decide_eq_true q)] at K; exact K) (fun q => by rw [if_neg (show ¬ aC2 .gt x 0 = true from fun z => q (of_decide_eq_true z))] at K; exact K)
      | le => exact lv_if_le hC.1 hC.2.1 hd ht (fun q => by rw [if_pos (show aC2 .le x 0 = true from decide_eq_true q)] at K; exact K) (fun q => by rw [if_neg (show ¬ aC2 .le x 0 = true from fun z => q (of_decide_eq_true z))] at K; exact K)
    · cases e
  | if_icmp cd off =>
    simp only [aOne] at e
    split at e
    · next hln =>
      subst hln
      replace e := Option.bind_eq_some_iff.mp e; obtain ⟨⟨y, S1⟩, e1, e⟩ := e
      replace e := Option.bind_eq_some_iff.mp e; obtain ⟨⟨x, S2⟩, e2, e⟩ := e
      obtain rfl := pI_eq e1
      obtain rfl := pI_eq e2
      replace e := Option.bind_eq_some_iff.mp e; obtain ⟨t, e3, e⟩ := e
      cases e
      have ht := aTgt_eq e3
      refine aStp.pure (fun p l e R s mi args below meth c H locs cells slots ls Q hC _ _ _ _ _ _ _ hl K => ?_)
      cases cd with
      | eq => exact lv_icmp_eq hC.1 hC.2.1 hd ht (fun q => by rw [if_pos (show aC2 .eq x y = true from decide_eq_true q)] at K; exact K) (fun q => by rw [if_neg (show ¬ aC2 .eq x y = true from fun z => q (of_decide_eq_true z))] at K; exact K)
      | ne => exact lv_icmp_ne hC.1 hC.2.1 hd ht (fun q => by rw [if_pos (show aC2 .ne x y = true from decide_eq_true q)] at K; exact K) (fun q => by rw [if_neg (show ¬ aC2 .ne x y = true from fun z => of_decide_eq_true z q)] at K; exact K)
      | lt => exact lv_icmp_lt hC.1 hC.2.1 hd ht (fun q => by rw [if_pos (show aC2 .lt x y = true from decide_eq_true q)] at K; exact K) (fun q => by rw [if_neg (show ¬ aC2 .lt x y = true from fun z => q (of_decide_eq_true z))] at K; exact K)
      | ge => exact lv_icmp_ge hC.1 hC.2.1 hd ht (fun q => by rw [if_pos (show aC2 .ge x y = true from decide_eq_true q)] at K; exact K) (fun q => by rw [if_neg (show ¬ aC2 .ge x y = true from fun z => q (of_decide_eq_true z))] at K; exact K)
      | gt => exact lv_icmp_gt hC.1 hC.2.1 hd ht (fun q => by rw [if_pos (show aC2 .gt x y = true from decide_eq_true q)] at K; exact K) (fun q => by rw [if_neg (show ¬ aC2 .gt x y = true from fun z => q (of_decide_eq_true z))] at K; exact K)
      | le => exact lv_icmp_le hC.1 hC.2.1 hd ht (fun q => by rw [if_pos (show aC2 .le x y = true from decide_eq_true q)] at K; exact K) (fun q => by rw [if_neg (show ¬ aC2 .le x y = true from fun z => q (of_decide_eq_true z))] at K; exact K)
    · cases e
  | goto off =>
    simp only [aOne] at e
    split at e
    · next hln =>
      subst hln
      replace e := Option.bind_eq_some_iff.mp e; obtain ⟨t, e3, e⟩ := e
      cases e
      exact aStp.pure (fun p l e R s mi args below meth c H locs cells slots ls Q hC _ _ _ _ _ _ _ hl K => lv_goto hC.1 hC.2.1 hd (aTgt_eq e3) K)
    · cases e
  | tableswitch d lo hi offs =>
    simp only [aOne] at e
    replace e := Option.bind_eq_some_iff.mp e; obtain ⟨⟨x, S1⟩, e1, e⟩ := e
    obtain rfl := pI_eq e1
    split at e
    · next hx =>
      replace e := Option.bind_eq_some_iff.mp e; obtain ⟨t, e3, e⟩ := e
      cases e
      exact aStp.pure (fun p l e R s mi args below meth c H locs cells slots ls Q hC _ _ _ _ _ _ _ hl K => lv_tableOut hC.1 hC.2.1 hd hx (aTgt_eq e3) K)
    · next hx =>
      replace e := Option.bind_eq_some_iff.mp e; obtain ⟨off, e2, e⟩ := e
      replace e := Option.bind_eq_some_iff.mp e; obtain ⟨t, e3, e⟩ := e
      cases e
      exact aStp.pure (fun p l e R s mi args below meth c H locs cells slots ls Q hC _ _ _ _ _ _ _ hl K => lv_tableIn hC.1 hC.2.1 hd (fun z => hx (Or.inl z)) (fun z => hx (Or.inr z)) e2 (aTgt_eq e3) K)
  | getfield ix =>
    simp only [aOne] at e
    split at e
    · next hln =>
      subst hln
      replace e := Option.bind_eq_some_iff.mp e; obtain ⟨⟨a, S1⟩, e1, e⟩ := e
      replace e := Option.bind_eq_some_iff.mp e; obtain ⟨⟨ci, j⟩, e2, e⟩ := e
      replace e := Option.bind_eq_some_iff.mp e; obtain ⟨⟨c2, fs⟩, e3, e⟩ := e
      obtain rfl := pR_eq e1
      split at e
      · next hc2 =>
        cases hc2
        replace e := Option.bind_eq_some_iff.mp e; obtain ⟨v, e4, e⟩ := e
        cases e
        obtain ⟨⟨CC, TT, NN⟩, r1, r2, r3, r4⟩ := aFld_ok e2
        refine aStp.pure (fun p l e R s mi args below meth c H locs cells slots ls Q hC hE _ _ _ _ hP _ hl K => ?_)
        exact va_get hC.1 hC.2.1 hC.2.2.2.2.2.2.1 (aClsT r1) hC.2.2.2.2.2.1 hE.1 hP a (wd_get (aObj_eq e3)) r1 j r2 (hC.2.2.2.2.2.2.1 _ (aT r3 rfl)) (fun x hx => by rw [r4] at hx; exact hx) (v := rv B b o v) (by rw [List.getElem?_map, e4]; rfl) hd K
      · cases e
    · cases e
  | putfield ix =>
    simp only [aOne] at e
    split at e
    · next hln =>
      subst hln
      replace e := Option.bind_eq_some_iff.mp e; obtain ⟨⟨v, S0⟩, e0, e⟩ := e
      replace e := Option.bind_eq_some_iff.mp e; obtain ⟨⟨a, S1⟩, e1, e⟩ := e
      replace e := Option.bind_eq_some_iff.mp e; obtain ⟨⟨ci, j⟩, e2, e⟩ := e
      replace e := Option.bind_eq_some_iff.mp e; obtain ⟨⟨c2, fs⟩, e3, e⟩ := e
      obtain ⟨rfl, hv⟩ := pV_eq e0
      obtain rfl := pR_eq e1
      split at e
      · next hq =>
        obtain ⟨hc2, hlen, hfit, hfin⟩ := hq
        cases hc2
        cases e
        obtain ⟨⟨CC, TT, NN⟩, r1, r2, r3, r4⟩ := aFld_ok e2
        refine aStp.cell (a := a) (e2 := .inr (ci, fs.set j v)) (fun p l e R s mi args below meth c H locs cells slots ls Q hC hE hP hS K => ?_)
        have hrE : rE κ B b o (.inr (ci, fs.set j v)) = .inr (ci, (fs.map (rv B b o)).set j (rv B b o v)) := by simp [rE, List.map_set]
        rw [hrE] at K
        have hty := (aCls r1).2.1 j r2
        by_cases hf : (TT j).2.2.2 = true
        · have hff := hfin (by unfold aFin; rw [r1]; exact hf)
          have hown2 : (TT j).1 = aR (am_k m) := by rw [r4, hff.2]; exact aR_cls r1
          exact va_putF hC.1 hC.2.1 hC.2.2.2.2.2.2.1 (aClsT r1) (aTy ci) (aCls r1).2.1 (aCls r1).2.2.1 hC.2.2.2.2.2.1 hE.1 hP (wd_D _) hS a (wd_get (aObj_eq e3)) r1 j r2 (hC.2.2.2.2.2.2.1 _ (aT r3 rfl)) (fun x hx => by rw [r4] at hx; exact hx) hf (hC.2.2.2.2.2.2.2 hff.1) hown2 hty (aFit_ok hfit).1 (aFit_ok hfit).2 (by rw [List.length_map]; exact hlen) hd K
        · exact va_put hC.1 hC.2.1 hC.2.2.2.2.2.2.1 (aClsT r1) (aTy ci) (aCls r1).2.1 (aCls r1).2.2.1 hC.2.2.2.2.2.1 hE.1 hP (wd_D _) hS a (wd_get (aObj_eq e3)) r1 j r2 (hC.2.2.2.2.2.2.1 _ (aT r3 rfl)) (fun x hx => by rw [r4] at hx; exact hx) (by simpa using hf) hty (aFit_ok hfit).1 (aFit_ok hfit).2 (by rw [List.length_map]; exact hlen) hd K
      · cases e
    · cases e
  | getstatic ix =>
    simp only [aOne] at e
    split at e
    · next hln =>
      obtain ⟨hln, hst⟩ := hln
      subst hln
      cases e
      exact aStp.pure (fun p l e R s mi args below meth c H locs cells slots ls Q hC hE _ _ _ _ hP hS hl K => va_gets hC.1 hC.2.1 hE.2.2.2.2.2.2.1 hS hC.2.2.2.2.2.1 (hC.2.2.2.2.2.2.1 _ (aT (aSta_ok hst) rfl)) (fun _ q => q) hd K)
    · cases e
  | iaload =>
    simp only [aOne] at e
    split at e
    · next hln =>
      subst hln
      split at e
      · next i a S1 =>
        replace e := Option.bind_eq_some_iff.mp e; obtain ⟨⟨n, f⟩, e1, e⟩ := e
        split at e
        · next hi =>
          cases e
          exact aStp.pure (fun p l e R s mi args below meth c H locs cells slots ls Q hC hE _ _ _ _ hP _ hl K => va_iald hC.1 hC.2.1 hE.1 hP a 0 (wd_get (aArI_eq e1)) rfl (aIn_eq hi) hd K)
        · cases e
      · next i z S1 =>
        split at e
        · next hi =>
          cases e
          cases z with
          | zero => exact aStp.pure (fun p l e R s mi args below meth c H locs cells slots ls Q hC hE _ _ _ _ hP hS hl K => aT_ld hC.1 hC.2.1 hE.2.1 hS (aIn_eq hi) hd K)
          | succ z =>
            rw [show min (z + 1) 1 = 1 by omega] at hi ⊢
            exact aStp.pure (fun p l e R s mi args below meth c H locs cells slots ls Q hC hE _ _ _ _ hP hS hl K => aT_ld hC.1 hC.2.1 hE.2.2.2.1 hS (aIn_eq hi) hd K)
        · cases e
      · cases e
    · cases e
  | baload =>
    simp only [aOne] at e
    split at e
    · next hln =>
      subst hln
      replace e := Option.bind_eq_some_iff.mp e; obtain ⟨⟨i, S1⟩, e1, e⟩ := e
      replace e := Option.bind_eq_some_iff.mp e; obtain ⟨⟨a, S2⟩, e2, e⟩ := e
      replace e := Option.bind_eq_some_iff.mp e; obtain ⟨⟨n, f⟩, e3, e⟩ := e
      obtain rfl := pI_eq e1
      obtain rfl := pR_eq e2
      split at e
      · next hi =>
        cases e
        exact aStp.pure (fun p l e R s mi args below meth c H locs cells slots ls Q hC hE _ _ _ _ hP _ hl K => va_zald hC.1 hC.2.1 hE.1 hP a 1 (wd_get (aArI_eq e3)) rfl (aIn_eq hi) hd K)
      · cases e
    · cases e
  | aaload =>
    simp only [aOne] at e
    split at e
    · next hln =>
      subst hln
      replace e := Option.bind_eq_some_iff.mp e; obtain ⟨⟨i, S1⟩, e1, e⟩ := e
      replace e := Option.bind_eq_some_iff.mp e; obtain ⟨⟨a, S2⟩, e2, e⟩ := e
      replace e := Option.bind_eq_some_iff.mp e; obtain ⟨⟨t, n, f⟩, e3, e⟩ := e
      obtain rfl := pI_eq e1
      obtain rfl := pR_eq e2
      split at e
      · next hi =>
        obtain ⟨hi, ht2, ht6⟩ := hi
        replace e := Option.bind_eq_some_iff.mp e; obtain ⟨v, e4, e⟩ := e
        cases e
        refine aStp.pure (fun p l e R s mi args below meth c H locs cells slots ls Q hC hE _ _ _ _ hP _ hl K => ?_)
        exact aald_row hC.1 hC.2.1 hE.1 hP (wd_get (aArR_eq e3)) (aArR_ref hE.1 ht2 ht6) (aIn_eq hi) (by show (f i.toNatClampNeg).map (fun k => B + k) = some (B + v); rw [show f i.toNatClampNeg = some v from e4]; rfl) hd K
      · cases e
    · cases e
  | iastore =>
    simp only [aOne] at e
    split at e
    · next hln =>
      subst hln
      replace e := Option.bind_eq_some_iff.mp e; obtain ⟨⟨x, S0⟩, e0, e⟩ := e
      replace e := Option.bind_eq_some_iff.mp e; obtain ⟨⟨i, S1⟩, e1, e⟩ := e
      replace e := Option.bind_eq_some_iff.mp e; obtain ⟨⟨a, S2⟩, e2, e⟩ := e
      replace e := Option.bind_eq_some_iff.mp e; obtain ⟨⟨n, f⟩, e3, e⟩ := e
      obtain rfl := pI_eq e0
      obtain rfl := pI_eq e1
      obtain rfl := pR_eq e2
      split at e
      · next hi =>
        cases e
        exact aStp.cell (fun p l e R s mi args below meth c H locs cells slots ls Q hC hE hP hS K => va_iast hC.1 hC.2.1 hE.1 hP (wd_D _) hS a 0 (wd_get (aArI_eq e3)) rfl (aIn_eq hi) hd K)
      · cases e
    · cases e
  | bastore =>
    simp only [aOne] at e
    split at e
    · next hln =>
      subst hln
      replace e := Option.bind_eq_some_iff.mp e; obtain ⟨⟨x, S0⟩, e0, e⟩ := e
      replace e := Option.bind_eq_some_iff.mp e; obtain ⟨⟨i, S1⟩, e1, e⟩ := e
      replace e := Option.bind_eq_some_iff.mp e; obtain ⟨⟨a, S2⟩, e2, e⟩ := e
      replace e := Option.bind_eq_some_iff.mp e; obtain ⟨⟨n, f⟩, e3, e⟩ := e
      obtain rfl := pI_eq e0
      obtain rfl := pI_eq e1
      obtain rfl := pR_eq e2
      split at e
      · next hi =>
        cases e
        exact aStp.cell (fun p l e R s mi args below meth c H locs cells slots ls Q hC hE hP hS K => va_zast hC.1 hC.2.1 hE.1 hP (wd_D _) hS a 1 (wd_get (aArI_eq e3)) rfl (aIn_eq hi) hd K)
      · cases e
    · cases e
  | aastore =>
    simp only [aOne] at e
    split at e
    · next hln =>
      subst hln
      replace e := Option.bind_eq_some_iff.mp e; obtain ⟨⟨x, S0⟩, e0, e⟩ := e
      replace e := Option.bind_eq_some_iff.mp e; obtain ⟨⟨i, S1⟩, e1, e⟩ := e
      replace e := Option.bind_eq_some_iff.mp e; obtain ⟨⟨a, S2⟩, e2, e⟩ := e
      replace e := Option.bind_eq_some_iff.mp e; obtain ⟨⟨t, n, f⟩, e3, e⟩ := e
      replace e := Option.bind_eq_some_iff.mp e; obtain ⟨⟨c2, fs⟩, e4, e⟩ := e
      obtain rfl := pR_eq e0
      obtain rfl := pI_eq e1
      obtain rfl := pR_eq e2
      split at e
      · next hi =>
        obtain ⟨hi, hel⟩ := hi
        cases e
        refine aStp.cell (fun p l e R s mi args below meth c H locs cells slots ls Q hC hE hP hS K => ?_)
        obtain ⟨r, hr1, hr2⟩ := aEl_ok (κ := κ) hel
        have hup : rE κ B b o (.inl (t, n, .inr (.inr (.inr (.inr (va_up f i.toNatClampNeg (some x))))))) = .inl (κ t, n, .inr (.inr (.inr (.inr (va_up (fun i => (f i).map (fun k => B + k)) i.toNatClampNeg (some (B + x))))))) := rE_up
        rw [hup] at K
        exact va_astq hC.1 hC.2.1 hE.1 hP (wd_D _) hS a t x c2 (wd_get (aArR_eq e3)) hr2 (wd_get (aObj_eq e4)) hr1 (aIn_eq hi) hd K
      · cases e
    · cases e
  | arraylength =>
    simp only [aOne] at e
    split at e
    · next hln =>
      subst hln
      split at e
      · next a S1 =>
        split at e
        · next t x hx =>
          split at e
          · next ht =>
            cases e
            refine aStp.pure (fun p l e R s mi args below meth c H locs cells slots ls Q hC hE _ _ _ _ hP _ hl K => ?_)
            obtain ⟨ty, hty⟩ := aTys_at hE.1 ht
            exact va_alen hC.1 hC.2.1 hE.1 hP a t (wd_get hx) hty (by rw [rA_len]) hd K
          · cases e
        · cases e
      · next z S1 =>
        cases e
        cases z with
        | zero => exact aStp.pure (fun p l e R s mi args below meth c H locs cells slots ls Q hC hE _ _ _ _ hP hS hl K => aT_len hC.1 hC.2.1 hE.2.1 hS hd K)
        | succ z =>
          rw [show min (z + 1) 1 = 1 by omega]
          exact aStp.pure (fun p l e R s mi args below meth c H locs cells slots ls Q hC hE _ _ _ _ hP hS hl K => aT_len hC.1 hC.2.1 hE.2.2.2.1 hS hd K)
      · cases e
    · cases e
  | new ix =>
    simp only [aOne] at e
    split at e
    · next hln =>
      subst hln
      replace e := Option.bind_eq_some_iff.mp e; obtain ⟨ci, e1, e⟩ := e
      cases e
      obtain ⟨⟨CC, TT, NN⟩, r1, r2⟩ := aNew_ok e1
      have hN : (aDef ci).length = NN := aDef_len r1
      refine aStp.new (fun p l e R s mi args below meth c H locs cells slots ls Q hC hE h1 h2 hP hS hA K => ?_)
      rw [hN] at h2 K
      exact va_new hC.1 hC.2.1 hC.2.2.2.2.2.2.1 (aClsT r1) (aTy ci) (aCls r1).2.1 hC.2.2.2.2.2.1 (hC.2.2.2.2.2.2.1 _ (aT r2 rfl)) (hC.2.2.2.2.2.2.1 _ (aT (aCls r1).2.2.2.1 rfl)) (hC.2.2.2.2.2.2.1 _ (aT (aCls r1).2.2.2.2 rfl)) hE.1 hP (wd_D _) hS hA r1 (fun j hj => aDef_ok r1 hj) h1 h2 hd K
    · cases e
  | newarray t =>
    simp only [aOne] at e
    split at e
    · next hln =>
      subst hln
      replace e := Option.bind_eq_some_iff.mp e; obtain ⟨⟨n, S1⟩, e1, e⟩ := e
      obtain rfl := pI_eq e1
      split at e
      · cases e
      · next hn =>
        have hn0 : ¬ n < 0 := fun z => hn (Or.inl z)
        have hn1 : n.toNatClampNeg ≤ 100000 := Nat.le_of_not_lt (fun z => hn (Or.inr z))
        split at e
        · cases e
          refine aStp.new (fun p l e R s mi args below meth c H locs cells slots ls Q hC hE h1 h2 hP hS hA K => ?_)
          refine va_newa (atype := .int) (ty := .int) hC.1 hC.2.1 (hC.2.2.2.2.2.2.1 _ (aT aArr_ok.1 rfl)) rfl hE.1 hP (wd_D _) hS hA (a0 := (n.toNatClampNeg, .inl (fun _ => 0))) (fun cA => by rw [vp_cell_i]; rfl) hn0 rfl (by simp [componentBytes]; omega) h1 h2 hd (fun q cA H1 hK1 hP1 hD1 hS1 => ?_)
          obtain rfl : cA = κ 0 := aKin (t := 0) hE.1 hK1 rfl
          exact K q H1 hP1 hD1 hS1
        · cases e
          refine aStp.new (fun p l e R s mi args below meth c H locs cells slots ls Q hC hE h1 h2 hP hS hA K => ?_)
          refine va_newa (atype := .boolean) (ty := .boolean) hC.1 hC.2.1 (hC.2.2.2.2.2.2.1 _ (aT aArr_ok.2 rfl)) rfl hE.1 hP (wd_D _) hS hA (a0 := (n.toNatClampNeg, .inl (fun _ => 0))) (fun cA => by rw [vp_cell_i]; rfl) hn0 rfl (by simp [componentBytes]; omega) h1 h2 hd (fun q cA H1 hK1 hP1 hD1 hS1 => ?_)
          obtain rfl : cA = κ 1 := aKin (t := 1) hE.1 hK1 rfl
          exact K q H1 hP1 hD1 hS1
        · cases e
    · cases e
  | anewarray ix =>
    simp only [aOne] at e
    split at e
    · next hln =>
      subst hln
      replace e := Option.bind_eq_some_iff.mp e; obtain ⟨⟨n, S1⟩, e1, e⟩ := e
      obtain rfl := pI_eq e1
      split at e
      · cases e
      · next hn =>
        have hn0 : ¬ n < 0 := fun z => hn (Or.inl z)
        have hn1 : n.toNatClampNeg ≤ 100000 := Nat.le_of_not_lt (fun z => hn (Or.inr z))
        replace e := Option.bind_eq_some_iff.mp e; obtain ⟨ci, e2, e⟩ := e
        replace e := Option.bind_eq_some_iff.mp e; obtain ⟨t, e3, e⟩ := e
        cases e
        obtain ⟨⟨CC, TT, NN⟩, r1, r2⟩ := aNew_ok e2
        refine aStp.new (fun p l e R s mi args below meth c H locs cells slots ls Q hC hE h1 h2 hP hS hA K => ?_)
        obtain ⟨ho, ht⟩ := aElK_ok hE e3 r1
        refine va_newq hC.1 hC.2.1 hC.2.2.2.2.2.1 (hC.2.2.2.2.2.2.1 _ (aT r2 rfl)) ho hE.1 hP (wd_D _) hS hA hn0 rfl (by omega) h1 h2 hd (fun q cA H1 hK1 hP1 hD1 hS1 => ?_)
        obtain rfl : cA = κ t := aKin hE.1 hK1 ht
        exact K q H1 hP1 hD1 hS1
    · cases e
  | invokestatic ix =>
    simp only [aOne] at e
    split at e
    · next hln =>
      obtain ⟨hln, hF1, hL1⟩ := hln
      subst hln
      replace e := Option.bind_eq_some_iff.mp e; obtain ⟨mx, e0, e⟩ := e
      replace e := Option.bind_eq_some_iff.mp e; obtain ⟨⟨y, S1⟩, e1, e⟩ := e
      replace e := Option.bind_eq_some_iff.mp e; obtain ⟨⟨x, S2⟩, e2, e⟩ := e
      obtain rfl := pI_eq e1
      obtain rfl := pI_eq e2
      split at e
      · next hcat =>
        cases e
        have hcat2 : ((S2.map (rv B b o)).map fun v => v.category).sum ≤ 8 := aCat hcat
        have hok := aMx_ok e0
        cases mx with
        | true => exact aStp.pure (fun p l e R s mi args below meth c H locs cells slots ls Q hC hE hF hL hc hs hP _ hl K => va_mmax hC.1 hC.2.1 (hC.2.2.2.1.trans hl.1.symm) hC.2.2.2.2.2.1 (hC.2.2.2.2.2.2.1 _ (aT (hok.1 rfl) rfl)) (hC.2.2.2.2.2.2.1 _ (aT aMmax_ok.1 rfl)) (hC.2.2.2.2.2.2.1 _ (aT aMmax_ok.2.1 rfl)) (hC.2.2.2.2.2.2.1 _ (aT aMmax_ok.2.2 rfl)) (Nat.le_trans hF1 hF) (by omega) hc hs hd K)
        | false => exact aStp.pure (fun p l e R s mi args below meth c H locs cells slots ls Q hC hE hF hL hc hs hP _ hl K => va_mmin hC.1 hC.2.1 (hC.2.2.2.1.trans hl.1.symm) hC.2.2.2.2.2.1 (hC.2.2.2.2.2.2.1 _ (aT (hok.2 rfl) rfl)) (hC.2.2.2.2.2.2.1 _ (aT aMmin_ok.1 rfl)) (hC.2.2.2.2.2.2.1 _ (aT aMmin_ok.2.1 rfl)) (hC.2.2.2.2.2.2.1 _ (aT aMmin_ok.2.2 rfl)) (Nat.le_trans hF1 hF) (by omega) hc hs hd K)
      · cases e
    · cases e
  | multianewarray ix d =>
    exact aMulti hd e
  | invokespecial ix =>
    simp only [aOne] at e
    split at e
    · next hln =>
      obtain ⟨hln, hob, hF1, hL1⟩ := hln
      subst hln
      replace e := Option.bind_eq_some_iff.mp e; obtain ⟨⟨a, S1⟩, e1, e⟩ := e
      obtain rfl := pR_eq e1
      split at e
      · next hcat =>
        cases e
        refine aStp.pure (fun p l e R s mi args below meth c H locs cells slots ls Q hC hE hF hL _ _ hP _ hl K => ?_)
        exact W.objInit hC.1 hC.2.1 hC.2.2.2.2.2.1 (hC.2.2.2.2.2.2.1 _ (aT (aObl_ok _ hob) rfl)) (hC.2.2.2.2.2.2.1 _ (aT aObi_in.1 rfl)) (hC.2.2.2.2.2.2.1 _ (aT aObi_in.2 rfl)) rfl (hl.1.trans hC.2.2.2.1.symm) rfl hd (Nat.le_trans hF1 hF) (Nat.le_trans (aRoom hcat) (Nat.le_trans hL1 hL)) K
      · cases e
    · cases e
  | _ => exact absurd e (by simp [aOne])
