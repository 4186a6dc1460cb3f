set_option maxHeartbeats 4000000 in
set_option maxRecDepth 100000 in
theorem law_loop {p : Program} {l : Launch} {e : Env} {s : State} {m : MethodId} {below : List Frame} {meth : Method} {c : Code} {D : va_G} {cI cJ : ClassId} {A : Nat → Prop} {tb b L : Nat} {sa : Nat → Nat} {xs : Nat → Int32} {h0 kw sc so tp ct sr m0 a1 a4 a5 a6 a7 a9 a10 a11 a12 oo : Nat} (C9 : lw_At p s m meth c b L xs) (hlt : l.stackTraces = false) (hL : L ≤ 2560) (hK2 : va_K D vwCl [(cI, .int), (cJ, .long)] s) (hA : ∀ q : Nat, s.heap.size ≤ q → A q) (hbA : ¬ A b) (hC0 : lwC A s tb sa) (hA2 : ∀ q : Nat, A q → s.heap.size ≤ q) : ∀ (fu k : Nat), 5 * k ≤ L → L + 1 ≤ 5 * k + fu → lwAt p l e s m below meth c D cI cJ A b h0 kw sc so tp ct sr m0 a1 a4 a5 a6 a7 a9 a10 a11 a12 oo 23 k k := by
  intro fu
  induction fu with
  | zero => intro k h1 h2; exact absurd h2 (by omega)
  | succ fu ih =>
    intro k h1 h2 K F S f C R Wo Rn bl md la g kb rd sz th hkb hrd hsz hag H locs hP hD hS ls hl
    obtain ⟨hx, hb, hr, hml, hown, hts0, hX, hbl, hlocks, hgv⟩ := id C9
    refine lv_iload hx hb dL_law_23 (lv_at hl 4 rfl) ?_
    refine lv_aload_n hx hb dL_law_25 rfl (lv_at hl 0 rfl) ?_
    refine va_slen hx hb hX hbl hbA hS dL_law_26 ?_
    refine lv_iconst (v := nI 5) hx hb dL_law_27 (by decide) ?_
    refine lv_isub hx hb dL_law_28 ?_
    refine lv_icmp_gt (tgt := 753) hx hb dL_law_29 (by decide) (fun c29 => ?_) (fun c29 => ?_)
    · refine lv_iconst (v := 1) hx hb dL_law_753 (by decide) ?_
      refine va_forget (fun q hq => hA2 _ (hS.2.2 q hq)) ?_
      refine W.widen (k := 1055) (n := 9389) (by omega) (by omega) ?_
      exact lw_ret hx hb hr hlocks dL_law_754
    · have hi : 5 * k + 5 ≤ L := by
        have h9 := Int32.not_lt.mp c29
        rw [Int32.le_iff_toInt_le, nI_toInt (by omega)] at h9
        have h8 : (Int32.ofNat L - nI 5).toInt = (L : Int) - (5 : Nat) := pk_sub_toInt (a := L) (b := 5) (by omega) (by omega)
        rw [h8] at h9
        omega
      have hK9 : lwAt p l e s m below meth c D cI cJ A b h0 kw sc so tp ct sr m0 a1 a4 a5 a6 a7 a9 a10 a11 a12 oo 747 (k + 1) k := by
        intro K F S f C R Wo Rn bl md la g kb rd sz th hkb hrd hsz hag H locs hP hD hS ls hl
        refine lv_iinc (v := nI (5 * k + 5)) (lv' := [(4, .int (nI (5 * k + 5))), (0, .ref b), (1, .ref h0), (2, .ref m0), (3, .ref oo)]) hx hb dL_law_747 hl (k := 4) rfl (wk_inc (5 * k) (by decide)) (by decide) rfl (fun ls hl => ?_)
        refine lv_goto (tgt := 23) hx hb dL_law_750 (by decide) ?_
        exact ih (k + 1) (by omega) (by omega) K F S f C R Wo Rn bl md la g kb rd sz th hkb hrd hsz hag _ _ hP hD hS ls (lv_sub hl [1, 2, 3, 4, 0] rfl)
      refine lv_aload_n hx hb dL_law_32 rfl (lv_at hl 0 rfl) ?_
      refine lv_iload hx hb dL_law_33 (lv_at hl 4 rfl) ?_
      refine wk_sld hx hb hX hbl hbA hS (k := 5 * k) (v := xs (5 * k)) rfl (by omega) hL dL_law_35 ?_
      refine lv_bipush (v := nI 15) hx hb dL_law_36 (by decide) ?_
      refine lv_iand hx hb dL_law_38 ?_
      obtain ⟨cm, hcm, ec⟩ := pk_andE (xs (5 * k)) (m := nI 15) 4 (by decide +kernel)
      refine wk_i (y := nI cm) ec ?_
      rcases (show cm = 0 ∨ cm = 1 ∨ cm = 2 ∨ cm = 3 ∨ cm = 4 ∨ cm = 5 ∨ cm = 6 ∨ cm = 7 ∨ cm = 8 ∨ cm = 9 ∨ cm = 10 ∨ (10 < cm ∧ cm < 16) by omega) with rfl | rfl | rfl | rfl | rfl | rfl | rfl | rfl | rfl | rfl | rfl | hcm
      · refine lv_tableIn (tgt := 96) hx hb dL_law_39 (by decide) (by decide) rfl (by decide) ?_
        rcases pk_ix (xs (5 * k + 1)) (n := 8) (by decide) with h | h | ⟨j, hj, ej⟩
        · exact lw_key0 C9 hlt hL hK2 hA hbA hC0 k hi K F S f C R Wo Rn bl md la g kb rd sz th (xs (5 * k + 1)) (xs (5 * k + 2)) (Or.inl h) rfl rfl hkb hrd hsz hag hK9 H locs hP hD hS ls hl
        · exact lw_key0 C9 hlt hL hK2 hA hbA hC0 k hi K F S f C R Wo Rn bl md la g kb rd sz th (xs (5 * k + 1)) (xs (5 * k + 2)) (Or.inr h) rfl rfl hkb hrd hsz hag hK9 H locs hP hD hS ls hl
        · exact lw_key1 C9 hlt hL hK2 hA hbA hC0 k hi K F S f C R Wo Rn bl md la g kb rd sz th j (xs (5 * k + 2)) hj ej rfl hkb hrd hsz hag hK9 H locs hP hD hS ls hl
      · refine lv_tableIn (tgt := 144) hx hb dL_law_39 (by decide) (by decide) rfl (by decide) ?_
        rcases pk_ix (xs (5 * k + 1)) (n := 33) (by decide) with h | h | ⟨j, hj, ej⟩
        · exact lw_size0 C9 hlt hL hK2 hA hbA hC0 k hi K F S f C R Wo Rn bl md la g kb rd sz th (xs (5 * k + 1)) (Or.inl h) rfl hkb hrd hsz hag hK9 H locs hP hD hS ls hl
        · exact lw_size0 C9 hlt hL hK2 hA hbA hC0 k hi K F S f C R Wo Rn bl md la g kb rd sz th (xs (5 * k + 1)) (Or.inr h) rfl hkb hrd hsz hag hK9 H locs hP hD hS ls hl
        · exact lw_size1 C9 hlt hL hK2 hA hbA hC0 k hi K F S f C R Wo Rn bl md la g kb rd sz th j (by omega) ej hkb hrd hsz hag hK9 H locs hP hD hS ls hl
      · refine lv_tableIn (tgt := 180) hx hb dL_law_39 (by decide) (by decide) rfl (by decide) ?_
        exact lw_ready C9 hlt hL hK2 hA hbA hC0 k hi K F S f C R Wo Rn bl md la g kb rd sz th hkb hrd hsz hag hK9 H locs hP hD hS ls hl
      · refine lv_tableIn (tgt := 191) hx hb dL_law_39 (by decide) (by decide) rfl (by decide) ?_
        rcases pk_ix (xs (5 * k + 1)) (n := 33) (by decide) with h | h | ⟨r, hr9, er⟩
        · exact lw_round0 C9 hlt hL hK2 hA hbA hC0 k hi K F S f C R Wo Rn bl md la g kb rd sz th (xs (5 * k + 1)) (xs (5 * k + 2)) (Or.inl h) rfl rfl hkb hrd hsz hag hK9 H locs hP hD hS ls hl
        · exact lw_round0 C9 hlt hL hK2 hA hbA hC0 k hi K F S f C R Wo Rn bl md la g kb rd sz th (xs (5 * k + 1)) (xs (5 * k + 2)) (Or.inr h) rfl rfl hkb hrd hsz hag hK9 H locs hP hD hS ls hl
        · rcases pk_ix (xs (5 * k + 2)) (n := 4) (by decide) with h | h | ⟨j, hj, ej⟩
          · exact lw_round0j C9 hlt hL hK2 hA hbA hC0 k hi K F S f C R Wo Rn bl md la g kb rd sz th r (xs (5 * k + 2)) (by omega) (Or.inl h) er rfl hkb hrd hsz hag hK9 H locs hP hD hS ls hl
          · exact lw_round0j C9 hlt hL hK2 hA hbA hC0 k hi K F S f C R Wo Rn bl md la g kb rd sz th r (xs (5 * k + 2)) (by omega) (Or.inr h) er rfl hkb hrd hsz hag hK9 H locs hP hD hS ls hl
          · rcases (show rd = 0 ∨ rd = 1 by omega) with rfl | rfl
            · exact lw_round2 C9 hlt hL hK2 hA hbA hC0 k hi K F S f C R Wo Rn bl md la g kb sz th r j (by omega) (by omega) er ej hkb hsz hag hK9 H locs hP hD hS ls hl
            · exact lw_round1 C9 hlt hL hK2 hA hbA hC0 k hi K F S f C R Wo Rn bl md la g kb sz th r j (by omega) (by omega) er ej hkb hsz hag hK9 H locs hP hD hS ls hl
      · refine lv_tableIn (tgt := 259) hx hb dL_law_39 (by decide) (by decide) rfl (by decide) ?_
        by_cases h3 : (xs (5 * k + 3)) = 0
        · rcases pk_ix (xs (5 * k + 1)) (n := 8) (by decide) with h | h | ⟨wh, hw, ew⟩
          · exact lw_box0z C9 hlt hL hK2 hA hbA hC0 k hi K F S f C R Wo Rn bl md la g kb rd sz th (xs (5 * k + 1)) (xs (5 * k + 2)) (xs (5 * k + 3)) (Or.inl h) h3 rfl rfl rfl hkb hrd hsz hag hK9 H locs hP hD hS ls hl
          · exact lw_box0z C9 hlt hL hK2 hA hbA hC0 k hi K F S f C R Wo Rn bl md la g kb rd sz th (xs (5 * k + 1)) (xs (5 * k + 2)) (xs (5 * k + 3)) (Or.inr h) h3 rfl rfl rfl hkb hrd hsz hag hK9 H locs hP hD hS ls hl
          · rcases pk_ix (xs (5 * k + 2)) (n := 16) (by decide) with h | h | ⟨v, hv, ev⟩
            · exact lw_box2z C9 hlt hL hK2 hA hbA hC0 k hi K F S f C R Wo Rn bl md la g kb rd sz th wh (xs (5 * k + 2)) (xs (5 * k + 3)) hw (Or.inl h) h3 ew rfl rfl hkb hrd hsz hag hK9 H locs hP hD hS ls hl
            · exact lw_box2z C9 hlt hL hK2 hA hbA hC0 k hi K F S f C R Wo Rn bl md la g kb rd sz th wh (xs (5 * k + 2)) (xs (5 * k + 3)) hw (Or.inr h) h3 ew rfl rfl hkb hrd hsz hag hK9 H locs hP hD hS ls hl
            · exact lw_boxF C9 hlt hL hK2 hA hbA hC0 k hi K F S f C R Wo Rn bl md la g kb rd sz th wh v (xs (5 * k + 3)) hw hv h3 ew ev rfl hkb hrd hsz hag hK9 H locs hP hD hS ls hl
        · rcases pk_ix (xs (5 * k + 1)) (n := 8) (by decide) with h | h | ⟨wh, hw, ew⟩
          · exact lw_box0n C9 hlt hL hK2 hA hbA hC0 k hi K F S f C R Wo Rn bl md la g kb rd sz th (xs (5 * k + 1)) (xs (5 * k + 2)) (xs (5 * k + 3)) (Or.inl h) h3 rfl rfl rfl hkb hrd hsz hag hK9 H locs hP hD hS ls hl
          · exact lw_box0n C9 hlt hL hK2 hA hbA hC0 k hi K F S f C R Wo Rn bl md la g kb rd sz th (xs (5 * k + 1)) (xs (5 * k + 2)) (xs (5 * k + 3)) (Or.inr h) h3 rfl rfl rfl hkb hrd hsz hag hK9 H locs hP hD hS ls hl
          · rcases pk_ix (xs (5 * k + 2)) (n := 16) (by decide) with h | h | ⟨v, hv, ev⟩
            · exact lw_box2n C9 hlt hL hK2 hA hbA hC0 k hi K F S f C R Wo Rn bl md la g kb rd sz th wh (xs (5 * k + 2)) (xs (5 * k + 3)) hw (Or.inl h) h3 ew rfl rfl hkb hrd hsz hag hK9 H locs hP hD hS ls hl
            · exact lw_box2n C9 hlt hL hK2 hA hbA hC0 k hi K F S f C R Wo Rn bl md la g kb rd sz th wh (xs (5 * k + 2)) (xs (5 * k + 3)) hw (Or.inr h) h3 ew rfl rfl hkb hrd hsz hag hK9 H locs hP hD hS ls hl
            · exact lw_boxB C9 hlt hL hK2 hA hbA hC0 k hi K F S f C R Wo Rn bl md la g kb rd sz th wh v (xs (5 * k + 3)) hw hv h3 ew ev rfl hkb hrd hsz hag hK9 H locs hP hD hS ls hl
      · refine lv_tableIn (tgt := 355) hx hb dL_law_39 (by decide) (by decide) rfl (by decide) ?_
        rcases pk_ix (xs (5 * k + 1)) (n := 4) (by decide) with h | h | ⟨j, hj, ej⟩
        · exact lw_start0 C9 hlt hL hK2 hA hbA hC0 k hi K F S f C R Wo Rn bl md la g kb rd sz th (xs (5 * k + 1)) (xs (5 * k + 2)) (Or.inl h) rfl rfl hkb hrd hsz hag hK9 H locs hP hD hS ls hl
        · exact lw_start0 C9 hlt hL hK2 hA hbA hC0 k hi K F S f C R Wo Rn bl md la g kb rd sz th (xs (5 * k + 1)) (xs (5 * k + 2)) (Or.inr h) rfl rfl hkb hrd hsz hag hK9 H locs hP hD hS ls hl
        · exact lw_start1 C9 hlt hL hK2 hA hbA hC0 k hi K F S f C R Wo Rn bl md la g kb rd sz th j (xs (5 * k + 2)) hj ej rfl hkb hrd hsz hag hK9 H locs hP hD hS ls hl
      · refine lv_tableIn (tgt := 403) hx hb dL_law_39 (by decide) (by decide) rfl (by decide) ?_
        by_cases hz : sz ≤ 252
        · exact lw_put1 C9 hlt hL hK2 hA hbA hC0 k hi K F S f C R Wo Rn bl md la g kb rd sz th (xs (5 * k + 1)) (xs (5 * k + 2)) (xs (5 * k + 3)) (xs (5 * k + 4)) hz rfl rfl rfl rfl hkb hrd hsz hag hK9 H locs hP hD hS ls hl
        · exact lw_put0 C9 hlt hL hK2 hA hbA hC0 k hi K F S f C R Wo Rn bl md la g kb rd sz th (xs (5 * k + 1)) (xs (5 * k + 2)) (xs (5 * k + 3)) (xs (5 * k + 4)) (by omega) rfl rfl rfl rfl hkb hrd hsz hag hK9 H locs hP hD hS ls hl
      · refine lv_tableIn (tgt := 495) hx hb dL_law_39 (by decide) (by decide) rfl (by decide) ?_
        rcases pk_ix (xs (5 * k + 1)) (n := sz + 1) (by omega) with h | h | ⟨j, hj, ej⟩
        · exact lw_cut0 C9 hlt hL hK2 hA hbA hC0 k hi K F S f C R Wo Rn bl md la g kb rd sz th (xs (5 * k + 1)) (Or.inl h) rfl hkb hrd hsz hag hK9 H locs hP hD hS ls hl
        · exact lw_cut0 C9 hlt hL hK2 hA hbA hC0 k hi K F S f C R Wo Rn bl md la g kb rd sz th (xs (5 * k + 1)) (Or.inr h) rfl hkb hrd hsz hag hK9 H locs hP hD hS ls hl
        · exact lw_cut1 C9 hlt hL hK2 hA hbA hC0 k hi K F S f C R Wo Rn bl md la g kb rd sz th j (by omega) ej hkb hrd hsz hag hK9 H locs hP hD hS ls hl
      · refine lv_tableIn (tgt := 551) hx hb dL_law_39 (by decide) (by decide) rfl (by decide) ?_
        rcases pk_ix (xs (5 * k + 1)) (n := sz) (by omega) with h | h | ⟨j, hj, ej⟩
        · exact lw_word0 C9 hlt hL hK2 hA hbA hC0 k hi K F S f C R Wo Rn bl md la g kb rd sz th (xs (5 * k + 1)) (Or.inl h) rfl hkb hrd hsz hag hK9 H locs hP hD hS ls hl
        · exact lw_word0 C9 hlt hL hK2 hA hbA hC0 k hi K F S f C R Wo Rn bl md la g kb rd sz th (xs (5 * k + 1)) (Or.inr h) rfl hkb hrd hsz hag hK9 H locs hP hD hS ls hl
        · exact lw_word1 C9 hlt hL hK2 hA hbA hC0 k hi K F S f C R Wo Rn bl md la g kb rd sz th j hj ej hkb hrd hsz hag hK9 H locs hP hD hS ls hl
      · refine lv_tableIn (tgt := 607) hx hb dL_law_39 (by decide) (by decide) rfl (by decide) ?_
        by_cases h2 : (xs (5 * k + 2)) = 0
        · rcases pk_ix (xs (5 * k + 1)) (n := 3) (by decide) with h | h | ⟨j, hj, ej⟩
          · exact lw_run0bz C9 hlt hL hK2 hA hbA hC0 k hi K F S f C R Wo Rn bl md la g kb rd sz th (xs (5 * k + 1)) (xs (5 * k + 2)) (Or.inl h) h2 rfl rfl hkb hrd hsz hag hK9 H locs hP hD hS ls hl
          · exact lw_run0bz C9 hlt hL hK2 hA hbA hC0 k hi K F S f C R Wo Rn bl md la g kb rd sz th (xs (5 * k + 1)) (xs (5 * k + 2)) (Or.inr h) h2 rfl rfl hkb hrd hsz hag hK9 H locs hP hD hS ls hl
          · rcases (show rd = 0 ∨ rd = 1 by omega) with rfl | rfl
            · exact lw_run2az C9 hlt hL hK2 hA hbA hC0 k hi K F S f C R Wo Rn bl md la g kb sz th j (xs (5 * k + 2)) (by omega) h2 ej rfl hkb hsz hag hK9 H locs hP hD hS ls hl
            · by_cases h4 : sz % 4 = 0
              · obtain ⟨nb, rfl⟩ : ∃ nb, sz = 4 * nb := ⟨sz / 4, by omega⟩
                rcases (show j = 0 ∨ j = 1 ∨ j = 2 by omega) with rfl | rfl | rfl
                · exact lw_run0z C9 hlt hL hK2 hA hbA hC0 k hi K F S f C R Wo Rn bl md la g kb th nb (xs (5 * k + 2)) (by omega) h2 ej rfl hkb hag hK9 H locs hP hD hS ls hl
                · exact lw_run1z C9 hlt hL hK2 hA hbA hC0 k hi K F S f C R Wo Rn bl md la g kb th nb (xs (5 * k + 2)) (by omega) h2 ej rfl hkb hag hK9 H locs hP hD hS ls hl
                · exact lw_run2z C9 hlt hL hK2 hA hbA hC0 k hi K F S f C R Wo Rn bl md la g kb th nb (xs (5 * k + 2)) (by omega) h2 ej rfl hkb hag hK9 H locs hP hD hS ls hl
              · exact lw_run2bz C9 hlt hL hK2 hA hbA hC0 k hi K F S f C R Wo Rn bl md la g kb sz th j (xs (5 * k + 2)) (by omega) h4 h2 ej rfl hkb hsz hag hK9 H locs hP hD hS ls hl
        · rcases pk_ix (xs (5 * k + 1)) (n := 3) (by decide) with h | h | ⟨j, hj, ej⟩
          · exact lw_run0bn C9 hlt hL hK2 hA hbA hC0 k hi K F S f C R Wo Rn bl md la g kb rd sz th (xs (5 * k + 1)) (xs (5 * k + 2)) (Or.inl h) h2 rfl rfl hkb hrd hsz hag hK9 H locs hP hD hS ls hl
          · exact lw_run0bn C9 hlt hL hK2 hA hbA hC0 k hi K F S f C R Wo Rn bl md la g kb rd sz th (xs (5 * k + 1)) (xs (5 * k + 2)) (Or.inr h) h2 rfl rfl hkb hrd hsz hag hK9 H locs hP hD hS ls hl
          · rcases (show rd = 0 ∨ rd = 1 by omega) with rfl | rfl
            · exact lw_run2an C9 hlt hL hK2 hA hbA hC0 k hi K F S f C R Wo Rn bl md la g kb sz th j (xs (5 * k + 2)) (by omega) h2 ej rfl hkb hsz hag hK9 H locs hP hD hS ls hl
            · by_cases h4 : sz % 4 = 0
              · obtain ⟨nb, rfl⟩ : ∃ nb, sz = 4 * nb := ⟨sz / 4, by omega⟩
                rcases (show j = 0 ∨ j = 1 ∨ j = 2 by omega) with rfl | rfl | rfl
                · exact lw_run0n C9 hlt hL hK2 hA hbA hC0 k hi K F S f C R Wo Rn bl md la g kb th nb (xs (5 * k + 2)) (by omega) h2 ej rfl hkb hag hK9 H locs hP hD hS ls hl
                · exact lw_run1n C9 hlt hL hK2 hA hbA hC0 k hi K F S f C R Wo Rn bl md la g kb th nb (xs (5 * k + 2)) (by omega) h2 ej rfl hkb hag hK9 H locs hP hD hS ls hl
                · exact lw_run2n C9 hlt hL hK2 hA hbA hC0 k hi K F S f C R Wo Rn bl md la g kb th nb (xs (5 * k + 2)) (by omega) h2 ej rfl hkb hag hK9 H locs hP hD hS ls hl
              · exact lw_run2bn C9 hlt hL hK2 hA hbA hC0 k hi K F S f C R Wo Rn bl md la g kb sz th j (xs (5 * k + 2)) (by omega) h4 h2 ej rfl hkb hsz hag hK9 H locs hP hD hS ls hl
      · refine lv_tableIn (tgt := 691) hx hb dL_law_39 (by decide) (by decide) rfl (by decide) ?_
        rcases pk_ix (xs (5 * k + 1)) (n := 4) (by decide) with h | h | ⟨j, hj, ej⟩
        · exact lw_seal0 C9 hlt hL hK2 hA hbA hC0 k hi K F S f C R Wo Rn bl md la g kb rd sz th (xs (5 * k + 1)) (Or.inl h) rfl hkb hrd hsz hag hK9 H locs hP hD hS ls hl
        · exact lw_seal0 C9 hlt hL hK2 hA hbA hC0 k hi K F S f C R Wo Rn bl md la g kb rd sz th (xs (5 * k + 1)) (Or.inr h) rfl hkb hrd hsz hag hK9 H locs hP hD hS ls hl
        · rcases (show rd = 0 ∨ rd = 1 by omega) with rfl | rfl
          · exact lw_seal2a C9 hlt hL hK2 hA hbA hC0 k hi K F S f C R Wo Rn bl md la g kb sz th j hj ej hkb hsz hag hK9 H locs hP hD hS ls hl
          · by_cases h4 : sz % 4 = 0
            · obtain ⟨nb, rfl⟩ : ∃ nb, sz = 4 * nb := ⟨sz / 4, by omega⟩
              exact lw_seal1 C9 hlt hL hK2 hA hbA hC0 k hi K F S f C R Wo Rn bl md la g kb th nb j (by omega) hj ej hkb hag hK9 H locs hP hD hS ls hl
            · exact lw_seal2b C9 hlt hL hK2 hA hbA hC0 k hi K F S f C R Wo Rn bl md la g kb sz th j hj h4 ej hkb hsz hag hK9 H locs hP hD hS ls hl
      · refine lv_tableOut (tgt := 747) hx hb dL_law_39 (Or.inr (by rw [nI_toInt (by omega)]; omega)) (by decide) ?_
        refine W.widen (k := 18 + (k + 1)) (n := 1119 + 6 * (k + 1)) (by omega) (by omega) ?_
        exact hK9 K F S f C R Wo Rn bl md la g kb rd sz th hkb hrd hsz hag _ _ hP hD hS ls hl
