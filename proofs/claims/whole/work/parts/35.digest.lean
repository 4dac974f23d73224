section
variable (l : Launch) (D : va_G) (ad : Nat → Nat) (cI cZ cJ : ClassId) (n : Nat) (kd : Nat → Nat) (sd : Nat → Bool) (ts fs : Nat → Int64) (tr : Nat → Nat) (on : Nat → Bool) (rp : Nat → Nat) (lt : Nat) (ru : Nat → Option Nat) (lg : Nat) (lp : Int64)
def rm_X0_discord : Room := { frames := 5, cells := 0, slots := 0, locals := 115 }
set_option maxHeartbeats 4000000 in
set_option maxRecDepth 100000 in
theorem c_X0_discord (hO : OKC n tr rp lt lg ru) : PuD l yX0_discord wsX0_discord rm_X0_discord D vwCl (wC ad cI cZ cJ n kd sd ts fs tr on rp lt ru lg lp) (tyC cI cZ cJ) [.ref (ad 0)] (dcV (awS (itS (lkN ts fs) ru (gsS rp (hsS tr on lt 6) 6) 12) 3 6) (awS (itS (lkN ts fs) ru (gsS rp (hsS tr on lt 6) 6) 12) 0 6)) := by
  refine PuD.of (cc := cX0_discord) (maxL := 3) (by decide) rfl (Nat.le_of_ble_eq_true rfl) ?_
  intro p e s m args below meth c Q ls hx hb hml hown hts hP hK kret hl
  have hown : s.vm.findClass RX0 = some m.cls := hown
  have hl : lv_has ls 3 [(0, .ref (ad 0))] := hl
  have hS : va_S (fun _ => False) s.heap s.heap [] := va_S.rf
  have hh0 : hsS tr on lt 6 < 64 := hsS_lt tr on lt 6 (Nat.le_refl 6)
  have hg0 : gsS rp (hsS tr on lt 6) 6 < 4096 := gsS_lt hO.2.2.1 _ 6 (Nat.le_refl 6)
  have hit : ∀ r, itS (lkN ts fs) ru (gsS rp (hsS tr on lt 6) 6) r < 4096 := itS_lt (lkN_lt ts fs) ru hg0
  have hc1 : fb_ct (fun i => Nat.testBit (awS (itS (lkN ts fs) ru (gsS rp (hsS tr on lt 6) 6) 12) 0 6) i) 6 ≤ 6 := fb_ct_le _ 6
  have hc2 : fb_ct (fun i => Nat.testBit (awS (itS (lkN ts fs) ru (gsS rp (hsS tr on lt 6) 6) 12) 3 6) i) 6 ≤ 6 := fb_ct_le _ 6
  refine lv_aload_n hx hb dX0_discord_0 rfl (lv_at hl 0 rfl) ?_
  refine puI_V (own := RX0) (As := []) (rest := []) (C := RX0) (ci := 0) (q0 := 0) ⟨hx, hb, hml, hown, hts⟩ (c_X0_settledNow l D ad cI cZ cJ n kd sd ts fs tr on rp lt ru lg lp hO) gX0_discord_X0_settledNow rfl ⟨rfl, rfl⟩ 0 rfl (by decide +kernel) ⟨Nat.le_of_ble_eq_true rfl, Nat.le_of_ble_eq_true rfl⟩ hP hK rfl rfl rfl hS hl.1 rfl (Nat.le_of_ble_eq_true rfl) dX0_discord_1 ⟨Nat.zero_le _, Nat.zero_le _⟩ (fun H locs hk1 hS => ?_)
  replace hP := keptP hP hk1
  refine lv_istore_n (lv' := [(1, .int (nI (itS (lkN ts fs) ru (gsS rp (hsS tr on lt 6) 6) 12))), (0, .ref (ad 0))]) hx hb dX0_discord_4 rfl hl (by decide) rfl (fun ls hl => ?_)
  refine lv_bipush (v := nI 6) hx hb dX0_discord_5 (by decide) ?_
  refine lv_iload_n hx hb dX0_discord_7 rfl (lv_at hl 0 rfl) ?_
  refine lv_iconst (v := nI 0) hx hb dX0_discord_8 (by decide) ?_
  refine puI_S (own := RX0) (As := [.int (nI (itS (lkN ts fs) ru (gsS rp (hsS tr on lt 6) 6) 12)), .int (nI 0)]) (rest := [.int (nI 6)]) ⟨hx, hb, hml, hown, hts⟩ (c_X0_atomsWith l D (itS (lkN ts fs) ru (gsS rp (hsS tr on lt 6) 6) 12) 0 (hit _) (by omega)) gX0_discord_X0_atomsWith rfl ⟨rfl, rfl⟩ 2 rfl (by decide +kernel) ⟨Nat.le_of_ble_eq_true rfl, Nat.le_of_ble_eq_true rfl⟩ nilP (hK.sub (tys' := []) [] rfl) hS hl.1 rfl (Nat.le_of_ble_eq_true rfl) dX0_discord_9 ⟨Nat.zero_le _, Nat.zero_le _⟩ (fun H locs hk1 hS => ?_)
  replace hP := keptP hP hk1
  refine puI_S (own := RX0) (As := [.int (nI (awS (itS (lkN ts fs) ru (gsS rp (hsS tr on lt 6) 6) 12) 0 6))]) (rest := [.int (nI 6)]) ⟨hx, hb, hml, hown, hts⟩ (c_J6_bitCount_0f7a4 l D (awS (itS (lkN ts fs) ru (gsS rp (hsS tr on lt 6) 6) 12) 0 6) (awS_lt6 _ _)) gX0_discord_J6_bitCount_0f7a4 rfl ⟨rfl, rfl⟩ 1 rfl (by decide +kernel) ⟨Nat.le_of_ble_eq_true rfl, Nat.le_of_ble_eq_true rfl⟩ nilP (hK.sub (tys' := []) [] rfl) hS hl.1 rfl (Nat.le_of_ble_eq_true rfl) dX0_discord_12 ⟨Nat.zero_le _, Nat.zero_le _⟩ (fun H locs hk1 hS => ?_)
  replace hP := keptP hP hk1
  refine lv_isub hx hb dX0_discord_15 ?_
  refine tc_int (y := nI (6 - fb_ct (fun i => Nat.testBit (awS (itS (lkN ts fs) ru (gsS rp (hsS tr on lt 6) 6) 12) 0 6) i) 6)) (pk_sub hc1) ?_
  refine lv_istore_n (lv' := [(2, .int (nI (6 - fb_ct (fun i => Nat.testBit (awS (itS (lkN ts fs) ru (gsS rp (hsS tr on lt 6) 6) 12) 0 6) i) 6))), (1, .int (nI (itS (lkN ts fs) ru (gsS rp (hsS tr on lt 6) 6) 12))), (0, .ref (ad 0))]) hx hb dX0_discord_16 rfl hl (by decide) rfl (fun ls hl => ?_)
  refine lv_iload_n hx hb dX0_discord_17 rfl (lv_at hl 0 rfl) ?_
  refine lv_if_ne (tgt := 23) hx hb dX0_discord_18 (by decide) (fun c_1 => ?_) (fun c_1 => ?_)
  · have e_18 : ¬ 6 - fb_ct (fun i => Nat.testBit (awS (itS (lkN ts fs) ru (gsS rp (hsS tr on lt 6) 6) 12) 0 6) i) 6 = 0 := fun q => c_1 (by rw [q]; rfl)
    refine lv_iload_n hx hb dX0_discord_23 rfl (lv_at hl 1 rfl) ?_
    refine lv_iconst (v := nI 3) hx hb dX0_discord_24 (by decide) ?_
    refine puI_S (own := RX0) (As := [.int (nI (itS (lkN ts fs) ru (gsS rp (hsS tr on lt 6) 6) 12)), .int (nI 3)]) (rest := []) ⟨hx, hb, hml, hown, hts⟩ (c_X0_atomsWith l D (itS (lkN ts fs) ru (gsS rp (hsS tr on lt 6) 6) 12) 3 (hit _) (by omega)) gX0_discord_X0_atomsWith rfl ⟨rfl, rfl⟩ 2 rfl (by decide +kernel) ⟨Nat.le_of_ble_eq_true rfl, Nat.le_of_ble_eq_true rfl⟩ nilP (hK.sub (tys' := []) [] rfl) hS hl.1 rfl (Nat.le_of_ble_eq_true rfl) dX0_discord_25 ⟨Nat.zero_le _, Nat.zero_le _⟩ (fun H locs hk1 hS => ?_)
    replace hP := keptP hP hk1
    refine puI_S (own := RX0) (As := [.int (nI (awS (itS (lkN ts fs) ru (gsS rp (hsS tr on lt 6) 6) 12) 3 6))]) (rest := []) ⟨hx, hb, hml, hown, hts⟩ (c_J6_bitCount_0f7a4 l D (awS (itS (lkN ts fs) ru (gsS rp (hsS tr on lt 6) 6) 12) 3 6) (awS_lt6 _ _)) gX0_discord_J6_bitCount_0f7a4 rfl ⟨rfl, rfl⟩ 1 rfl (by decide +kernel) ⟨Nat.le_of_ble_eq_true rfl, Nat.le_of_ble_eq_true rfl⟩ nilP (hK.sub (tys' := []) [] rfl) hS hl.1 rfl (Nat.le_of_ble_eq_true rfl) dX0_discord_28 ⟨Nat.zero_le _, Nat.zero_le _⟩ (fun H locs hk1 hS => ?_)
    replace hP := keptP hP hk1
    refine lv_i2d hx hb dX0_discord_31 ?_
    refine lv_iload_n hx hb dX0_discord_32 rfl (lv_at hl 0 rfl) ?_
    refine lv_i2d hx hb dX0_discord_33 ?_
    refine lv_ddiv hx hb dX0_discord_34 (ddn _ hc2 _ (Nat.sub_le _ _) e_18) ?_
    exact kret _ _ _ _ _ (by unfold dcV; rw [if_neg e_18]) hS dX0_discord_35
  · have e_18 : 6 - fb_ct (fun i => Nat.testBit (awS (itS (lkN ts fs) ru (gsS rp (hsS tr on lt 6) 6) 12) 0 6) i) 6 = 0 := (nz (Nat.lt_of_le_of_lt (Nat.sub_le _ _) (by decide))).mp c_1
    refine lv_dconst0 hx hb dX0_discord_21 ?_
    exact kret _ _ _ _ _ (by unfold dcV; rw [if_pos e_18]) hS dX0_discord_22

theorem hin_X0_digest : ∀ w ∈ wsX00, w ∈ wsX0_digest := by first | exact fun _ h => List.mem_cons_of_mem _ (List.mem_append_right _ h) | exact fun _ h => List.mem_cons_of_mem _ (List.mem_append_left _ (List.mem_append_right _ h)) | exact fun _ h => List.mem_cons_of_mem _ (List.mem_append_left _ (List.mem_append_left _ (List.mem_append_right _ h))) | exact fun _ h => List.mem_cons_of_mem _ (List.mem_append_left _ (List.mem_append_left _ (List.mem_append_left _ (List.mem_append_right _ h)))) | decide +kernel
def rm_X0_digest : Room := { frames := 5, cells := 0, slots := 0, locals := 115 }
set_option maxHeartbeats 4000000 in
set_option maxRecDepth 100000 in
theorem c_X0_digest (hO : OKC n tr rp lt lg ru) : PuL l yX0_digest wsX0_digest rm_X0_digest D vwCl (wC ad cI cZ cJ n kd sd ts fs tr on rp lt ru lg lp) (tyC cI cZ cJ) [.ref (ad 0)] (dgF n kd lt tr on (fun s a => dg (rp s) a) ru (fun a => dg (gsS rp (hsS tr on lt 6) 6) a) (fun a => dg (itS (lkN ts fs) ru (gsS rp (hsS tr on lt 6) 6) 12) a) (fa_first (fun r => decide (itS (lkN ts fs) ru (gsS rp (hsS tr on lt 6) 6) (r + 1) = itS (lkN ts fs) ru (gsS rp (hsS tr on lt 6) 6) r)) 12) lg) := by
  refine PuL.of (cc := cX0_digest) (maxL := 7) (by decide) rfl (Nat.le_of_ble_eq_true rfl) ?_
  intro p e s m args below meth c Q ls hx hb hml hown hts hP hK kret hl
  have hown : s.vm.findClass RX0 = some m.cls := hown
  have hl : lv_has ls 7 [(0, .ref (ad 0))] := hl
  have hS : va_S (fun _ => False) s.heap s.heap [] := va_S.rf
  have hin0 : ∀ w ∈ u_ws RX0 TX0 12, w ∈ wsX0_digest := hin_X0_digest
  have hh0 : hsS tr on lt 6 < 64 := hsS_lt tr on lt 6 (Nat.le_refl 6)
  have hg0 : gsS rp (hsS tr on lt 6) 6 < 4096 := gsS_lt hO.2.2.1 _ 6 (Nat.le_refl 6)
  have hit : ∀ r, itS (lkN ts fs) ru (gsS rp (hsS tr on lt 6) 6) r < 4096 := itS_lt (lkN_lt ts fs) ru hg0
  have hn40 := hO.1
  have hl12 := hit 12
  obtain ⟨FI, hFI⟩ : ∃ z, z = (gsS rp (hsS tr on lt 6) 6) := ⟨_, rfl⟩
  obtain ⟨LA, hLA⟩ : ∃ z, z = itS (lkN ts fs) ru (gsS rp (hsS tr on lt 6) 6) 12 := ⟨_, rfl⟩
  obtain ⟨RD, hRD⟩ : ∃ z, z = fa_first (fun r => decide (itS (lkN ts fs) ru (gsS rp (hsS tr on lt 6) 6) (r + 1) = itS (lkN ts fs) ru (gsS rp (hsS tr on lt 6) 6) r)) 12 := ⟨_, rfl⟩
  rw [← hFI] at hg0
  rw [← hLA] at hl12
  refine lv_aload_n hx hb dX0_digest_0 rfl (lv_at hl 0 rfl) ?_
  refine lv_aload_n hx hb dX0_digest_1 rfl (lv_at hl 0 rfl) ?_
  refine puI_V (own := RX0) (As := []) (rest := [.ref (ad 0)]) (C := RX0) (ci := 0) (q0 := 0) ⟨hx, hb, hml, hown, hts⟩ (c_X0_heard l D ad cI cZ cJ n kd sd ts fs tr on rp lt ru lg lp hO) gX0_digest_X0_heard rfl ⟨rfl, rfl⟩ 0 rfl (by decide +kernel) ⟨Nat.le_of_ble_eq_true rfl, Nat.le_of_ble_eq_true rfl⟩ hP hK rfl rfl rfl hS hl.1 rfl (Nat.le_of_ble_eq_true rfl) dX0_digest_2 ⟨Nat.zero_le _, Nat.zero_le _⟩ (fun H locs hk1 hS => ?_)
  replace hP := keptP hP hk1
  refine puI_V (own := RX0) (As := [.int (nI (hsS tr on lt 6))]) (rest := []) (C := RX0) (ci := 0) (q0 := 0) ⟨hx, hb, hml, hown, hts⟩ (c_X0_givenState l D ad cI cZ cJ n kd sd ts fs tr on rp lt ru lg lp hO (hsS tr on lt 6) hh0) gX0_digest_X0_givenState rfl ⟨rfl, rfl⟩ 1 rfl (by decide +kernel) ⟨Nat.le_of_ble_eq_true rfl, Nat.le_of_ble_eq_true rfl⟩ hP hK rfl rfl rfl hS hl.1 rfl (Nat.le_of_ble_eq_true rfl) dX0_digest_5 ⟨Nat.zero_le _, Nat.zero_le _⟩ (fun H locs hk1 hS => ?_)
  replace hP := keptP hP hk1
  refine tc_int (y := nI FI) (by rw [hFI]) ?_
  refine lv_istore_n (lv' := [(1, .int (nI FI)), (0, .ref (ad 0))]) hx hb dX0_digest_8 rfl hl (by decide) rfl (fun ls hl => ?_)
  refine lv_aload_n hx hb dX0_digest_9 rfl (lv_at hl 1 rfl) ?_
  refine puI_V (own := RX0) (As := []) (rest := []) (C := RX0) (ci := 0) (q0 := 0) ⟨hx, hb, hml, hown, hts⟩ (c_X0_settledNow l D ad cI cZ cJ n kd sd ts fs tr on rp lt ru lg lp hO) gX0_digest_X0_settledNow rfl ⟨rfl, rfl⟩ 0 rfl (by decide +kernel) ⟨Nat.le_of_ble_eq_true rfl, Nat.le_of_ble_eq_true rfl⟩ hP hK rfl rfl rfl hS hl.1 rfl (Nat.le_of_ble_eq_true rfl) dX0_digest_10 ⟨Nat.zero_le _, Nat.zero_le _⟩ (fun H locs hk1 hS => ?_)
  replace hP := keptP hP hk1
  refine tc_int (y := nI LA) (by rw [hLA]) ?_
  refine lv_istore_n (lv' := [(2, .int (nI LA)), (1, .int (nI FI)), (0, .ref (ad 0))]) hx hb dX0_digest_13 rfl hl (by decide) rfl (fun ls hl => ?_)
  refine lv_ldc2 (v := 131) hx hb hown (hts (.constantLong RX0 186 (131)) (by decide +kernel)) dX0_digest_14 ?_
  refine lv_aload_n hx hb dX0_digest_17 rfl (lv_at hl 2 rfl) ?_
  refine va_get (D := D) (ci := 0) (v := .int (nI n)) (C := RX0) (T := TX0) (N := 12) hx hb hts hin0 hown hK hP 0 rfl rfl 0 (by decide) (hts (.fieldLink RX0 9 "RumourReasoner" "count" "I") (by decide +kernel)) (fun _ h9 => h9) rfl dX0_digest_18 ?_
  refine puL_S (own := RX0) (As := [.long 131, .int (nI n)]) (rest := []) ⟨hx, hb, hml, hown, hts⟩ (c_X0_mix l D 131 (nI n)) gX0_digest_X0_mix rfl ⟨rfl, rfl⟩ 2 rfl (by decide +kernel) ⟨Nat.le_of_ble_eq_true rfl, Nat.le_of_ble_eq_true rfl⟩ nilP (hK.sub (tys' := []) [] rfl) hS hl.1 rfl (Nat.le_of_ble_eq_true rfl) dX0_digest_21 ⟨Nat.zero_le _, Nat.zero_le _⟩ (fun H locs hk1 hS => ?_)
  replace hP := keptP hP hk1
  refine lv_lstore_n (lv' := [(3, .long (mixI 131 (nI n))), (2, .int (nI LA)), (1, .int (nI FI)), (0, .ref (ad 0))]) hx hb dX0_digest_24 rfl hl (by decide) rfl (fun ls hl => ?_)
  refine lv_iconst (v := nI 0) hx hb dX0_digest_25 (by decide) ?_
  refine lv_istore (lv' := [(5, .int (nI 0)), (3, .long (mixI 131 (nI n))), (2, .int (nI LA)), (1, .int (nI FI)), (0, .ref (ad 0))]) hx hb dX0_digest_26 hl (by decide) rfl (fun ls hl => ?_)
  have key1 : ∀ (d3 i2 : Nat), i2 + d3 = n → ∀ (H : Heap) (locs : List Loc) (ls : Array Slot), va_P D vwCl (wC ad cI cZ cJ n kd sd ts fs tr on rp lt ru lg lp) H → va_S (fun _ => False) s.heap H locs → lv_has ls 7 [(5, .int (nI i2)), (3, .long (foldD (fun d j => mixI d (nI (kd j))) (mixI 131 (nI n)) i2)), (2, .int (nI LA)), (1, .int (nI FI)), (0, .ref (ad 0))] → W p l e rm_X0_digest s m args below meth c H locs 0 0 Q (F0 m 28 ls []) := by
    intro d3
    induction d3 with
    | zero =>
      intro i2 hi_i2 H locs ls hP hS hl
      have hi9 : i2 = n := by omega
      rw [hi9] at hl
      refine lv_iload hx hb dX0_digest_28 (lv_at hl 0 rfl) ?_
      refine lv_aload_n hx hb dX0_digest_30 rfl (lv_at hl 4 rfl) ?_
      refine va_get (D := D) (ci := 0) (v := .int (nI n)) (C := RX0) (T := TX0) (N := 12) hx hb hts hin0 hown hK hP 0 rfl rfl 0 (by decide) (hts (.fieldLink RX0 9 "RumourReasoner" "count" "I") (by decide +kernel)) (fun _ h9 => h9) rfl dX0_digest_31 ?_
      refine cT_ge (tgt := 55) hx hb dX0_digest_34 (by decide) (nI_le (by omega) (by omega)) ?_
      refine lv_lload_n hx hb dX0_digest_55 rfl (lv_at hl 1 rfl) ?_
      refine lv_aload_n hx hb dX0_digest_56 rfl (lv_at hl 4 rfl) ?_
      refine va_get (D := D) (ci := 0) (v := .int (nI lt)) (C := RX0) (T := TX0) (N := 12) hx hb hts hin0 hown hK hP 0 rfl rfl 8 (by decide) (hts (.fieldLink RX0 37 "RumourReasoner" "leastTrust" "I") (by decide +kernel)) (fun _ h9 => h9) rfl dX0_digest_57 ?_
      refine puL_S (own := RX0) (As := [.long (foldD (fun d j => mixI d (nI (kd j))) (mixI 131 (nI n)) n), .int (nI lt)]) (rest := []) ⟨hx, hb, hml, hown, hts⟩ (c_X0_mix l D (foldD (fun d j => mixI d (nI (kd j))) (mixI 131 (nI n)) n) (nI lt)) gX0_digest_X0_mix rfl ⟨rfl, rfl⟩ 2 rfl (by decide +kernel) ⟨Nat.le_of_ble_eq_true rfl, Nat.le_of_ble_eq_true rfl⟩ nilP (hK.sub (tys' := []) [] rfl) hS hl.1 rfl (Nat.le_of_ble_eq_true rfl) dX0_digest_60 ⟨Nat.zero_le _, Nat.zero_le _⟩ (fun H locs hk1 hS => ?_)
      replace hP := keptP hP hk1
      refine lv_topl (fun y_60 ey_60 => ?_)
      refine lv_lstore_n (lv' := [(3, .long y_60), (5, .int (nI n)), (2, .int (nI LA)), (1, .int (nI FI)), (0, .ref (ad 0))]) hx hb dX0_digest_63 rfl hl (by decide) rfl (fun ls hl => ?_)
      refine lv_iconst (v := nI 0) hx hb dX0_digest_64 (by decide) ?_
      refine lv_istore (lv' := [(5, .int (nI 0)), (3, .long y_60), (2, .int (nI LA)), (1, .int (nI FI)), (0, .ref (ad 0))]) hx hb dX0_digest_65 hl (by decide) rfl (fun ls hl => ?_)
      have key4 : ∀ (d6 i5 : Nat), i5 + d6 = 6 → ∀ (H : Heap) (locs : List Loc) (ls : Array Slot), va_P D vwCl (wC ad cI cZ cJ n kd sd ts fs tr on rp lt ru lg lp) H → va_S (fun _ => False) s.heap H locs → lv_has ls 7 [(5, .int (nI i5)), (3, .long (foldD (fun d s => foldD (fun d a => mixI d (nI (dg (rp s) a))) (mixI (mixI d (nI (tr s))) (bI (on s))) 6) y_60 i5)), (2, .int (nI LA)), (1, .int (nI FI)), (0, .ref (ad 0))] → W p l e rm_X0_digest s m args below meth c H locs 0 0 Q (F0 m 67 ls []) := by
        intro d6
        induction d6 with
        | zero =>
          intro i5 hi_i5 H locs ls hP hS hl
          obtain rfl : i5 = 6 := by omega
          refine lv_iload hx hb dX0_digest_67 (lv_at hl 0 rfl) ?_
          refine lv_bipush (v := nI 6) hx hb dX0_digest_69 (by decide) ?_
          refine cT_ge (tgt := 145) hx hb dX0_digest_71 (by decide) (nI_le (by omega) (by omega)) ?_
          refine lv_iconst (v := nI 0) hx hb dX0_digest_145 (by decide) ?_
          refine lv_istore (lv' := [(5, .int (nI 0)), (3, .long (foldD (fun d s => foldD (fun d a => mixI d (nI (dg (rp s) a))) (mixI (mixI d (nI (tr s))) (bI (on s))) 6) y_60 6)), (2, .int (nI LA)), (1, .int (nI FI)), (0, .ref (ad 0))]) hx hb dX0_digest_146 hl (by decide) rfl (fun ls hl => ?_)
          have key7 : ∀ (d9 i8 : Nat), i8 + d9 = 6 → ∀ (H : Heap) (locs : List Loc) (ls : Array Slot), va_P D vwCl (wC ad cI cZ cJ n kd sd ts fs tr on rp lt ru lg lp) H → va_S (fun _ => False) s.heap H locs → lv_has ls 7 [(5, .int (nI i8)), (3, .long (foldD (fun d a => mixI (mixI (mixI d (rI (ru a))) (nI (dg FI a))) (nI (dg LA a))) (foldD (fun d s => foldD (fun d a => mixI d (nI (dg (rp s) a))) (mixI (mixI d (nI (tr s))) (bI (on s))) 6) y_60 6) i8)), (2, .int (nI LA)), (1, .int (nI FI)), (0, .ref (ad 0))] → W p l e rm_X0_digest s m args below meth c H locs 0 0 Q (F0 m 148 ls []) := by
            intro d9
            induction d9 with
            | zero =>
              intro i8 hi_i8 H locs ls hP hS hl
              obtain rfl : i8 = 6 := by omega
              refine lv_iload hx hb dX0_digest_148 (lv_at hl 0 rfl) ?_
              refine lv_bipush (v := nI 6) hx hb dX0_digest_150 (by decide) ?_
              refine cT_ge (tgt := 195) hx hb dX0_digest_152 (by decide) (nI_le (by omega) (by omega)) ?_
              refine lv_lload_n hx hb dX0_digest_195 rfl (lv_at hl 1 rfl) ?_
              refine lv_aload_n hx hb dX0_digest_196 rfl (lv_at hl 4 rfl) ?_
              refine puI_V (own := RX0) (As := []) (rest := [.long (foldD (fun d a => mixI (mixI (mixI d (rI (ru a))) (nI (dg FI a))) (nI (dg LA a))) (foldD (fun d s => foldD (fun d a => mixI d (nI (dg (rp s) a))) (mixI (mixI d (nI (tr s))) (bI (on s))) 6) y_60 6) 6)]) (C := RX0) (ci := 0) (q0 := 0) ⟨hx, hb, hml, hown, hts⟩ (c_X0_rounds l D ad cI cZ cJ n kd sd ts fs tr on rp lt ru lg lp hO) gX0_digest_X0_rounds rfl ⟨rfl, rfl⟩ 0 rfl (by decide +kernel) ⟨Nat.le_of_ble_eq_true rfl, Nat.le_of_ble_eq_true rfl⟩ hP hK rfl rfl rfl hS hl.1 rfl (Nat.le_of_ble_eq_true rfl) dX0_digest_197 ⟨Nat.zero_le _, Nat.zero_le _⟩ (fun H locs hk1 hS => ?_)
              replace hP := keptP hP hk1
              refine tc_int (y := nI RD) (by rw [hRD]) ?_
              refine puL_S (own := RX0) (As := [.long (foldD (fun d a => mixI (mixI (mixI d (rI (ru a))) (nI (dg FI a))) (nI (dg LA a))) (foldD (fun d s => foldD (fun d a => mixI d (nI (dg (rp s) a))) (mixI (mixI d (nI (tr s))) (bI (on s))) 6) y_60 6) 6), .int (nI RD)]) (rest := []) ⟨hx, hb, hml, hown, hts⟩ (c_X0_mix l D (foldD (fun d a => mixI (mixI (mixI d (rI (ru a))) (nI (dg FI a))) (nI (dg LA a))) (foldD (fun d s => foldD (fun d a => mixI d (nI (dg (rp s) a))) (mixI (mixI d (nI (tr s))) (bI (on s))) 6) y_60 6) 6) (nI RD)) gX0_digest_X0_mix rfl ⟨rfl, rfl⟩ 2 rfl (by decide +kernel) ⟨Nat.le_of_ble_eq_true rfl, Nat.le_of_ble_eq_true rfl⟩ nilP (hK.sub (tys' := []) [] rfl) hS hl.1 rfl (Nat.le_of_ble_eq_true rfl) dX0_digest_200 ⟨Nat.zero_le _, Nat.zero_le _⟩ (fun H locs hk1 hS => ?_)
              replace hP := keptP hP hk1
              refine lv_lstore_n (lv' := [(3, .long (mixI (foldD (fun d a => mixI (mixI (mixI d (rI (ru a))) (nI (dg FI a))) (nI (dg LA a))) (foldD (fun d s => foldD (fun d a => mixI d (nI (dg (rp s) a))) (mixI (mixI d (nI (tr s))) (bI (on s))) 6) y_60 6) 6) (nI RD))), (5, .int (nI 6)), (2, .int (nI LA)), (1, .int (nI FI)), (0, .ref (ad 0))]) hx hb dX0_digest_203 rfl hl (by decide) rfl (fun ls hl => ?_)
              refine lv_lload_n hx hb dX0_digest_204 rfl (lv_at hl 0 rfl) ?_
              refine lv_aload_n hx hb dX0_digest_205 rfl (lv_at hl 4 rfl) ?_
              refine va_get (D := D) (ci := 0) (v := .int (nI lg)) (C := RX0) (T := TX0) (N := 12) hx hb hts hin0 hown hK hP 0 rfl rfl 10 (by decide) (hts (.fieldLink RX0 43 "RumourReasoner" "logic" "I") (by decide +kernel)) (fun _ h9 => h9) rfl dX0_digest_206 ?_
              refine puL_S (own := RX0) (As := [.long (mixI (foldD (fun d a => mixI (mixI (mixI d (rI (ru a))) (nI (dg FI a))) (nI (dg LA a))) (foldD (fun d s => foldD (fun d a => mixI d (nI (dg (rp s) a))) (mixI (mixI d (nI (tr s))) (bI (on s))) 6) y_60 6) 6) (nI RD)), .int (nI lg)]) (rest := []) ⟨hx, hb, hml, hown, hts⟩ (c_X0_mix l D (mixI (foldD (fun d a => mixI (mixI (mixI d (rI (ru a))) (nI (dg FI a))) (nI (dg LA a))) (foldD (fun d s => foldD (fun d a => mixI d (nI (dg (rp s) a))) (mixI (mixI d (nI (tr s))) (bI (on s))) 6) y_60 6) 6) (nI RD)) (nI lg)) gX0_digest_X0_mix rfl ⟨rfl, rfl⟩ 2 rfl (by decide +kernel) ⟨Nat.le_of_ble_eq_true rfl, Nat.le_of_ble_eq_true rfl⟩ nilP (hK.sub (tys' := []) [] rfl) hS hl.1 rfl (Nat.le_of_ble_eq_true rfl) dX0_digest_209 ⟨Nat.zero_le _, Nat.zero_le _⟩ (fun H locs hk1 hS => ?_)
              replace hP := keptP hP hk1
              exact kret _ _ _ _ _ (by rw [ey_60, hRD, hFI, hLA]; rfl) hS dX0_digest_212
            | succ d9 ih_i8 =>
              intro i8 hi_i8 H locs ls hP hS hl
              refine lv_iload hx hb dX0_digest_148 (lv_at hl 0 rfl) ?_
              refine lv_bipush (v := nI 6) hx hb dX0_digest_150 (by decide) ?_
              refine cF_ge (tgt := 195) hx hb dX0_digest_152 (by decide) (nI_ge (by omega) (by omega)) ?_
              refine lv_lload_n hx hb dX0_digest_155 rfl (lv_at hl 1 rfl) ?_
              refine lv_aload_n hx hb dX0_digest_156 rfl (lv_at hl 4 rfl) ?_
              refine va_get (D := D) (ci := 0) (v := .ref (ad 8)) (C := RX0) (T := TX0) (N := 12) hx hb hts hin0 hown hK hP 0 rfl rfl 9 (by decide) (hts (.fieldLink RX0 40 "RumourReasoner" "rules" "[I") (by decide +kernel)) (fun _ h9 => h9) rfl dX0_digest_157 ?_
              refine lv_iload hx hb dX0_digest_160 (lv_at hl 0 rfl) ?_
              refine ld_ni hx hb hK hP 8 0 rfl rfl (j := i8) (by omega) (by decide) dX0_digest_162 ?_
              refine puL_S (own := RX0) (As := [.long (foldD (fun d a => mixI (mixI (mixI d (rI (ru a))) (nI (dg FI a))) (nI (dg LA a))) (foldD (fun d s => foldD (fun d a => mixI d (nI (dg (rp s) a))) (mixI (mixI d (nI (tr s))) (bI (on s))) 6) y_60 6) i8), .int (rI (ru i8))]) (rest := []) ⟨hx, hb, hml, hown, hts⟩ (c_X0_mix l D (foldD (fun d a => mixI (mixI (mixI d (rI (ru a))) (nI (dg FI a))) (nI (dg LA a))) (foldD (fun d s => foldD (fun d a => mixI d (nI (dg (rp s) a))) (mixI (mixI d (nI (tr s))) (bI (on s))) 6) y_60 6) i8) (rI (ru i8))) gX0_digest_X0_mix rfl ⟨rfl, rfl⟩ 2 rfl (by decide +kernel) ⟨Nat.le_of_ble_eq_true rfl, Nat.le_of_ble_eq_true rfl⟩ nilP (hK.sub (tys' := []) [] rfl) hS hl.1 rfl (Nat.le_of_ble_eq_true rfl) dX0_digest_163 ⟨Nat.zero_le _, Nat.zero_le _⟩ (fun H locs hk1 hS => ?_)
              replace hP := keptP hP hk1
              refine lv_lstore_n (lv' := [(3, .long (mixI (foldD (fun d a => mixI (mixI (mixI d (rI (ru a))) (nI (dg FI a))) (nI (dg LA a))) (foldD (fun d s => foldD (fun d a => mixI d (nI (dg (rp s) a))) (mixI (mixI d (nI (tr s))) (bI (on s))) 6) y_60 6) i8) (rI (ru i8)))), (5, .int (nI i8)), (2, .int (nI LA)), (1, .int (nI FI)), (0, .ref (ad 0))]) hx hb dX0_digest_166 rfl hl (by decide) rfl (fun ls hl => ?_)
              refine lv_lload_n hx hb dX0_digest_167 rfl (lv_at hl 0 rfl) ?_
              refine lv_iload_n hx hb dX0_digest_168 rfl (lv_at hl 3 rfl) ?_
              refine lv_iload hx hb dX0_digest_169 (lv_at hl 1 rfl) ?_
              refine puI_S (own := RX0) (As := [.int (nI FI), .int (nI i8)]) (rest := [.long (mixI (foldD (fun d a => mixI (mixI (mixI d (rI (ru a))) (nI (dg FI a))) (nI (dg LA a))) (foldD (fun d s => foldD (fun d a => mixI d (nI (dg (rp s) a))) (mixI (mixI d (nI (tr s))) (bI (on s))) 6) y_60 6) i8) (rI (ru i8)))]) ⟨hx, hb, hml, hown, hts⟩ (c_X0_valueIn l D FI i8 hg0 (by omega)) gX0_digest_X0_valueIn rfl ⟨rfl, rfl⟩ 2 rfl (by decide +kernel) ⟨Nat.le_of_ble_eq_true rfl, Nat.le_of_ble_eq_true rfl⟩ nilP (hK.sub (tys' := []) [] rfl) hS hl.1 rfl (Nat.le_of_ble_eq_true rfl) dX0_digest_171 ⟨Nat.zero_le _, Nat.zero_le _⟩ (fun H locs hk1 hS => ?_)
              replace hP := keptP hP hk1
              refine puL_S (own := RX0) (As := [.long (mixI (foldD (fun d a => mixI (mixI (mixI d (rI (ru a))) (nI (dg FI a))) (nI (dg LA a))) (foldD (fun d s => foldD (fun d a => mixI d (nI (dg (rp s) a))) (mixI (mixI d (nI (tr s))) (bI (on s))) 6) y_60 6) i8) (rI (ru i8))), .int (nI (dg FI i8))]) (rest := []) ⟨hx, hb, hml, hown, hts⟩ (c_X0_mix l D (mixI (foldD (fun d a => mixI (mixI (mixI d (rI (ru a))) (nI (dg FI a))) (nI (dg LA a))) (foldD (fun d s => foldD (fun d a => mixI d (nI (dg (rp s) a))) (mixI (mixI d (nI (tr s))) (bI (on s))) 6) y_60 6) i8) (rI (ru i8))) (nI (dg FI i8))) gX0_digest_X0_mix rfl ⟨rfl, rfl⟩ 2 rfl (by decide +kernel) ⟨Nat.le_of_ble_eq_true rfl, Nat.le_of_ble_eq_true rfl⟩ nilP (hK.sub (tys' := []) [] rfl) hS hl.1 rfl (Nat.le_of_ble_eq_true rfl) dX0_digest_174 ⟨Nat.zero_le _, Nat.zero_le _⟩ (fun H locs hk1 hS => ?_)
              replace hP := keptP hP hk1
              refine lv_lstore_n (lv' := [(3, .long (mixI (mixI (foldD (fun d a => mixI (mixI (mixI d (rI (ru a))) (nI (dg FI a))) (nI (dg LA a))) (foldD (fun d s => foldD (fun d a => mixI d (nI (dg (rp s) a))) (mixI (mixI d (nI (tr s))) (bI (on s))) 6) y_60 6) i8) (rI (ru i8))) (nI (dg FI i8)))), (5, .int (nI i8)), (2, .int (nI LA)), (1, .int (nI FI)), (0, .ref (ad 0))]) hx hb dX0_digest_177 rfl hl (by decide) rfl (fun ls hl => ?_)
              refine lv_lload_n hx hb dX0_digest_178 rfl (lv_at hl 0 rfl) ?_
              refine lv_iload_n hx hb dX0_digest_179 rfl (lv_at hl 2 rfl) ?_
              refine lv_iload hx hb dX0_digest_180 (lv_at hl 1 rfl) ?_
              refine puI_S (own := RX0) (As := [.int (nI LA), .int (nI i8)]) (rest := [.long (mixI (mixI (foldD (fun d a => mixI (mixI (mixI d (rI (ru a))) (nI (dg FI a))) (nI (dg LA a))) (foldD (fun d s => foldD (fun d a => mixI d (nI (dg (rp s) a))) (mixI (mixI d (nI (tr s))) (bI (on s))) 6) y_60 6) i8) (rI (ru i8))) (nI (dg FI i8)))]) ⟨hx, hb, hml, hown, hts⟩ (c_X0_valueIn l D LA i8 hl12 (by omega)) gX0_digest_X0_valueIn rfl ⟨rfl, rfl⟩ 2 rfl (by decide +kernel) ⟨Nat.le_of_ble_eq_true rfl, Nat.le_of_ble_eq_true rfl⟩ nilP (hK.sub (tys' := []) [] rfl) hS hl.1 rfl (Nat.le_of_ble_eq_true rfl) dX0_digest_182 ⟨Nat.zero_le _, Nat.zero_le _⟩ (fun H locs hk1 hS => ?_)
              replace hP := keptP hP hk1
              refine puL_S (own := RX0) (As := [.long (mixI (mixI (foldD (fun d a => mixI (mixI (mixI d (rI (ru a))) (nI (dg FI a))) (nI (dg LA a))) (foldD (fun d s => foldD (fun d a => mixI d (nI (dg (rp s) a))) (mixI (mixI d (nI (tr s))) (bI (on s))) 6) y_60 6) i8) (rI (ru i8))) (nI (dg FI i8))), .int (nI (dg LA i8))]) (rest := []) ⟨hx, hb, hml, hown, hts⟩ (c_X0_mix l D (mixI (mixI (foldD (fun d a => mixI (mixI (mixI d (rI (ru a))) (nI (dg FI a))) (nI (dg LA a))) (foldD (fun d s => foldD (fun d a => mixI d (nI (dg (rp s) a))) (mixI (mixI d (nI (tr s))) (bI (on s))) 6) y_60 6) i8) (rI (ru i8))) (nI (dg FI i8))) (nI (dg LA i8))) gX0_digest_X0_mix rfl ⟨rfl, rfl⟩ 2 rfl (by decide +kernel) ⟨Nat.le_of_ble_eq_true rfl, Nat.le_of_ble_eq_true rfl⟩ nilP (hK.sub (tys' := []) [] rfl) hS hl.1 rfl (Nat.le_of_ble_eq_true rfl) dX0_digest_185 ⟨Nat.zero_le _, Nat.zero_le _⟩ (fun H locs hk1 hS => ?_)
              replace hP := keptP hP hk1
              refine lv_lstore_n (lv' := [(3, .long (mixI (mixI (mixI (foldD (fun d a => mixI (mixI (mixI d (rI (ru a))) (nI (dg FI a))) (nI (dg LA a))) (foldD (fun d s => foldD (fun d a => mixI d (nI (dg (rp s) a))) (mixI (mixI d (nI (tr s))) (bI (on s))) 6) y_60 6) i8) (rI (ru i8))) (nI (dg FI i8))) (nI (dg LA i8)))), (5, .int (nI i8)), (2, .int (nI LA)), (1, .int (nI FI)), (0, .ref (ad 0))]) hx hb dX0_digest_188 rfl hl (by decide) rfl (fun ls hl => ?_)
              refine lv_iinc (v := nI (i8 + 1)) (lv' := [(5, .int (nI (i8 + 1))), (3, .long (mixI (mixI (mixI (foldD (fun d a => mixI (mixI (mixI d (rI (ru a))) (nI (dg FI a))) (nI (dg LA a))) (foldD (fun d s => foldD (fun d a => mixI d (nI (dg (rp s) a))) (mixI (mixI d (nI (tr s))) (bI (on s))) 6) y_60 6) i8) (rI (ru i8))) (nI (dg FI i8))) (nI (dg LA i8)))), (2, .int (nI LA)), (1, .int (nI FI)), (0, .ref (ad 0))]) hx hb dX0_digest_189 hl (k := 1) rfl (iinc1 _) (by decide) rfl (fun ls hl => ?_)
              refine lv_goto (tgt := 148) hx hb dX0_digest_192 (by decide) ?_
              exact ih_i8 (i8 + 1) (by omega) H locs ls hP hS (lv_sub hl [0, 1, 2, 3, 4] rfl)
          exact key7 (6) 0 (by omega) _ _ ls hP hS (lv_sub hl [0, 1, 2, 3, 4] rfl)
        | succ d6 ih_i5 =>
          intro i5 hi_i5 H locs ls hP hS hl
          refine lv_iload hx hb dX0_digest_67 (lv_at hl 0 rfl) ?_
          refine lv_bipush (v := nI 6) hx hb dX0_digest_69 (by decide) ?_
          refine cF_ge (tgt := 145) hx hb dX0_digest_71 (by decide) (nI_ge (by omega) (by omega)) ?_
          refine lv_lload_n hx hb dX0_digest_74 rfl (lv_at hl 1 rfl) ?_
          refine lv_aload_n hx hb dX0_digest_75 rfl (lv_at hl 4 rfl) ?_
          refine va_get (D := D) (ci := 0) (v := .ref (ad 5)) (C := RX0) (T := TX0) (N := 12) hx hb hts hin0 hown hK hP 0 rfl rfl 5 (by decide) (hts (.fieldLink RX0 28 "RumourReasoner" "trusts" "[I") (by decide +kernel)) (fun _ h9 => h9) rfl dX0_digest_76 ?_
          refine lv_iload hx hb dX0_digest_79 (lv_at hl 0 rfl) ?_
          refine ld_ni hx hb hK hP 5 0 rfl rfl (j := i5) (by omega) (by decide) dX0_digest_81 ?_
          refine puL_S (own := RX0) (As := [.long (foldD (fun d s => foldD (fun d a => mixI d (nI (dg (rp s) a))) (mixI (mixI d (nI (tr s))) (bI (on s))) 6) y_60 i5), .int (nI (tr i5))]) (rest := []) ⟨hx, hb, hml, hown, hts⟩ (c_X0_mix l D (foldD (fun d s => foldD (fun d a => mixI d (nI (dg (rp s) a))) (mixI (mixI d (nI (tr s))) (bI (on s))) 6) y_60 i5) (nI (tr i5))) gX0_digest_X0_mix rfl ⟨rfl, rfl⟩ 2 rfl (by decide +kernel) ⟨Nat.le_of_ble_eq_true rfl, Nat.le_of_ble_eq_true rfl⟩ nilP (hK.sub (tys' := []) [] rfl) hS hl.1 rfl (Nat.le_of_ble_eq_true rfl) dX0_digest_82 ⟨Nat.zero_le _, Nat.zero_le _⟩ (fun H locs hk1 hS => ?_)
          replace hP := keptP hP hk1
          refine lv_lstore_n (lv' := [(3, .long (mixI (foldD (fun d s => foldD (fun d a => mixI d (nI (dg (rp s) a))) (mixI (mixI d (nI (tr s))) (bI (on s))) 6) y_60 i5) (nI (tr i5)))), (5, .int (nI i5)), (2, .int (nI LA)), (1, .int (nI FI)), (0, .ref (ad 0))]) hx hb dX0_digest_85 rfl hl (by decide) rfl (fun ls hl => ?_)
          refine lv_lload_n hx hb dX0_digest_86 rfl (lv_at hl 0 rfl) ?_
          refine lv_aload_n hx hb dX0_digest_87 rfl (lv_at hl 4 rfl) ?_
          refine va_get (D := D) (ci := 0) (v := .ref (ad 6)) (C := RX0) (T := TX0) (N := 12) hx hb hts hin0 hown hK hP 0 rfl rfl 6 (by decide) (hts (.fieldLink RX0 31 "RumourReasoner" "on" "[Z") (by decide +kernel)) (fun _ h9 => h9) rfl dX0_digest_88 ?_
          refine lv_iload hx hb dX0_digest_91 (lv_at hl 1 rfl) ?_
          refine ld_nz hx hb hK hP 6 1 rfl rfl (j := i5) (by omega) (by decide) dX0_digest_93 ?_
          refine lv_if_eq (tgt := 101) hx hb dX0_digest_94 (by decide) (fun c_10 => ?_) (fun c_10 => ?_)
          · have e_94 := bI_0 c_10
            refine lv_iconst (v := nI 0) hx hb dX0_digest_101 (by decide) ?_
            refine tc_int (y := bI (on i5)) (by rw [e_94]; rfl) ?_
            refine puL_S (own := RX0) (As := [.long (mixI (foldD (fun d s => foldD (fun d a => mixI d (nI (dg (rp s) a))) (mixI (mixI d (nI (tr s))) (bI (on s))) 6) y_60 i5) (nI (tr i5))), .int (bI (on i5))]) (rest := []) ⟨hx, hb, hml, hown, hts⟩ (c_X0_mix l D (mixI (foldD (fun d s => foldD (fun d a => mixI d (nI (dg (rp s) a))) (mixI (mixI d (nI (tr s))) (bI (on s))) 6) y_60 i5) (nI (tr i5))) (bI (on i5))) gX0_digest_X0_mix rfl ⟨rfl, rfl⟩ 2 rfl (by decide +kernel) ⟨Nat.le_of_ble_eq_true rfl, Nat.le_of_ble_eq_true rfl⟩ nilP (hK.sub (tys' := []) [] rfl) hS hl.1 rfl (Nat.le_of_ble_eq_true rfl) dX0_digest_102 ⟨Nat.zero_le _, Nat.zero_le _⟩ (fun H locs hk1 hS => ?_)
            replace hP := keptP hP hk1
            refine lv_lstore_n (lv' := [(3, .long (mixI (mixI (foldD (fun d s => foldD (fun d a => mixI d (nI (dg (rp s) a))) (mixI (mixI d (nI (tr s))) (bI (on s))) 6) y_60 i5) (nI (tr i5))) (bI (on i5)))), (5, .int (nI i5)), (2, .int (nI LA)), (1, .int (nI FI)), (0, .ref (ad 0))]) hx hb dX0_digest_105 rfl hl (by decide) rfl (fun ls hl => ?_)
            refine lv_iconst (v := nI 0) hx hb dX0_digest_106 (by decide) ?_
            refine lv_istore (lv' := [(6, .int (nI 0)), (3, .long (mixI (mixI (foldD (fun d s => foldD (fun d a => mixI d (nI (dg (rp s) a))) (mixI (mixI d (nI (tr s))) (bI (on s))) 6) y_60 i5) (nI (tr i5))) (bI (on i5)))), (5, .int (nI i5)), (2, .int (nI LA)), (1, .int (nI FI)), (0, .ref (ad 0))]) hx hb dX0_digest_107 hl (by decide) rfl (fun ls hl => ?_)
            have key11 : ∀ (d13 j12 : Nat), j12 + d13 = 6 → ∀ (H : Heap) (locs : List Loc) (ls : Array Slot), va_P D vwCl (wC ad cI cZ cJ n kd sd ts fs tr on rp lt ru lg lp) H → va_S (fun _ => False) s.heap H locs → lv_has ls 7 [(6, .int (nI j12)), (3, .long (foldD (fun d a => mixI d (nI (dg (rp i5) a))) (mixI (mixI (foldD (fun d s => foldD (fun d a => mixI d (nI (dg (rp s) a))) (mixI (mixI d (nI (tr s))) (bI (on s))) 6) y_60 i5) (nI (tr i5))) (bI (on i5))) j12)), (5, .int (nI i5)), (2, .int (nI LA)), (1, .int (nI FI)), (0, .ref (ad 0))] → W p l e rm_X0_digest s m args below meth c H locs 0 0 Q (F0 m 109 ls []) := by
              intro d13
              induction d13 with
              | zero =>
                intro j12 hi_j12 H locs ls hP hS hl
                obtain rfl : j12 = 6 := by omega
                refine lv_iload hx hb dX0_digest_109 (lv_at hl 0 rfl) ?_
                refine lv_bipush (v := nI 6) hx hb dX0_digest_111 (by decide) ?_
                refine cT_ge (tgt := 139) hx hb dX0_digest_113 (by decide) (nI_le (by omega) (by omega)) ?_
                refine lv_iinc (v := nI (i5 + 1)) (lv' := [(5, .int (nI (i5 + 1))), (6, .int (nI 6)), (3, .long (foldD (fun d a => mixI d (nI (dg (rp i5) a))) (mixI (mixI (foldD (fun d s => foldD (fun d a => mixI d (nI (dg (rp s) a))) (mixI (mixI d (nI (tr s))) (bI (on s))) 6) y_60 i5) (nI (tr i5))) (bI (on i5))) 6)), (2, .int (nI LA)), (1, .int (nI FI)), (0, .ref (ad 0))]) hx hb dX0_digest_139 hl (k := 2) rfl (iinc1 _) (by decide) rfl (fun ls hl => ?_)
                refine lv_goto (tgt := 67) hx hb dX0_digest_142 (by decide) ?_
                exact ih_i5 (i5 + 1) (by omega) H locs ls hP hS (lv_sub hl [0, 2, 3, 4, 5] rfl)
              | succ d13 ih_j12 =>
                intro j12 hi_j12 H locs ls hP hS hl
                refine lv_iload hx hb dX0_digest_109 (lv_at hl 0 rfl) ?_
                refine lv_bipush (v := nI 6) hx hb dX0_digest_111 (by decide) ?_
                refine cF_ge (tgt := 139) hx hb dX0_digest_113 (by decide) (nI_ge (by omega) (by omega)) ?_
                refine lv_lload_n hx hb dX0_digest_116 rfl (lv_at hl 1 rfl) ?_
                refine lv_aload_n hx hb dX0_digest_117 rfl (lv_at hl 5 rfl) ?_
                refine va_get (D := D) (ci := 0) (v := .ref (ad 7)) (C := RX0) (T := TX0) (N := 12) hx hb hts hin0 hown hK hP 0 rfl rfl 7 (by decide) (hts (.fieldLink RX0 34 "RumourReasoner" "reports" "[I") (by decide +kernel)) (fun _ h9 => h9) rfl dX0_digest_118 ?_
                refine lv_iload hx hb dX0_digest_121 (lv_at hl 2 rfl) ?_
                refine ld_ni hx hb hK hP 7 0 rfl rfl (j := i5) (by omega) (by decide) dX0_digest_123 ?_
                refine lv_iload hx hb dX0_digest_124 (lv_at hl 0 rfl) ?_
                refine puI_S (own := RX0) (As := [.int (nI (rp i5)), .int (nI j12)]) (rest := [.long (foldD (fun d a => mixI d (nI (dg (rp i5) a))) (mixI (mixI (foldD (fun d s => foldD (fun d a => mixI d (nI (dg (rp s) a))) (mixI (mixI d (nI (tr s))) (bI (on s))) 6) y_60 i5) (nI (tr i5))) (bI (on i5))) j12)]) ⟨hx, hb, hml, hown, hts⟩ (c_X0_valueIn l D (rp i5) j12 (hO.2.2.1 _ (by omega)) (by omega)) gX0_digest_X0_valueIn rfl ⟨rfl, rfl⟩ 2 rfl (by decide +kernel) ⟨Nat.le_of_ble_eq_true rfl, Nat.le_of_ble_eq_true rfl⟩ nilP (hK.sub (tys' := []) [] rfl) hS hl.1 rfl (Nat.le_of_ble_eq_true rfl) dX0_digest_126 ⟨Nat.zero_le _, Nat.zero_le _⟩ (fun H locs hk1 hS => ?_)
                replace hP := keptP hP hk1
                refine puL_S (own := RX0) (As := [.long (foldD (fun d a => mixI d (nI (dg (rp i5) a))) (mixI (mixI (foldD (fun d s => foldD (fun d a => mixI d (nI (dg (rp s) a))) (mixI (mixI d (nI (tr s))) (bI (on s))) 6) y_60 i5) (nI (tr i5))) (bI (on i5))) j12), .int (nI (dg (rp i5) j12))]) (rest := []) ⟨hx, hb, hml, hown, hts⟩ (c_X0_mix l D (foldD (fun d a => mixI d (nI (dg (rp i5) a))) (mixI (mixI (foldD (fun d s => foldD (fun d a => mixI d (nI (dg (rp s) a))) (mixI (mixI d (nI (tr s))) (bI (on s))) 6) y_60 i5) (nI (tr i5))) (bI (on i5))) j12) (nI (dg (rp i5) j12))) gX0_digest_X0_mix rfl ⟨rfl, rfl⟩ 2 rfl (by decide +kernel) ⟨Nat.le_of_ble_eq_true rfl, Nat.le_of_ble_eq_true rfl⟩ nilP (hK.sub (tys' := []) [] rfl) hS hl.1 rfl (Nat.le_of_ble_eq_true rfl) dX0_digest_129 ⟨Nat.zero_le _, Nat.zero_le _⟩ (fun H locs hk1 hS => ?_)
                replace hP := keptP hP hk1
                refine lv_lstore_n (lv' := [(3, .long (mixI (foldD (fun d a => mixI d (nI (dg (rp i5) a))) (mixI (mixI (foldD (fun d s => foldD (fun d a => mixI d (nI (dg (rp s) a))) (mixI (mixI d (nI (tr s))) (bI (on s))) 6) y_60 i5) (nI (tr i5))) (bI (on i5))) j12) (nI (dg (rp i5) j12)))), (6, .int (nI j12)), (5, .int (nI i5)), (2, .int (nI LA)), (1, .int (nI FI)), (0, .ref (ad 0))]) hx hb dX0_digest_132 rfl hl (by decide) rfl (fun ls hl => ?_)
                refine lv_iinc (v := nI (j12 + 1)) (lv' := [(6, .int (nI (j12 + 1))), (3, .long (mixI (foldD (fun d a => mixI d (nI (dg (rp i5) a))) (mixI (mixI (foldD (fun d s => foldD (fun d a => mixI d (nI (dg (rp s) a))) (mixI (mixI d (nI (tr s))) (bI (on s))) 6) y_60 i5) (nI (tr i5))) (bI (on i5))) j12) (nI (dg (rp i5) j12)))), (5, .int (nI i5)), (2, .int (nI LA)), (1, .int (nI FI)), (0, .ref (ad 0))]) hx hb dX0_digest_133 hl (k := 1) rfl (iinc1 _) (by decide) rfl (fun ls hl => ?_)
                refine lv_goto (tgt := 109) hx hb dX0_digest_136 (by decide) ?_
                exact ih_j12 (j12 + 1) (by omega) H locs ls hP hS (lv_sub hl [0, 1, 2, 3, 4, 5] rfl)
            exact key11 (6) 0 (by omega) _ _ ls hP hS (lv_sub hl [0, 1, 2, 3, 4, 5] rfl)
          · have e_94 := bI_1 c_10
            refine lv_iconst (v := nI 1) hx hb dX0_digest_97 (by decide) ?_
            refine tc_int (y := bI (on i5)) (by rw [e_94]; rfl) ?_
            refine lv_goto (tgt := 102) hx hb dX0_digest_98 (by decide) ?_
            refine puL_S (own := RX0) (As := [.long (mixI (foldD (fun d s => foldD (fun d a => mixI d (nI (dg (rp s) a))) (mixI (mixI d (nI (tr s))) (bI (on s))) 6) y_60 i5) (nI (tr i5))), .int (bI (on i5))]) (rest := []) ⟨hx, hb, hml, hown, hts⟩ (c_X0_mix l D (mixI (foldD (fun d s => foldD (fun d a => mixI d (nI (dg (rp s) a))) (mixI (mixI d (nI (tr s))) (bI (on s))) 6) y_60 i5) (nI (tr i5))) (bI (on i5))) gX0_digest_X0_mix rfl ⟨rfl, rfl⟩ 2 rfl (by decide +kernel) ⟨Nat.le_of_ble_eq_true rfl, Nat.le_of_ble_eq_true rfl⟩ nilP (hK.sub (tys' := []) [] rfl) hS hl.1 rfl (Nat.le_of_ble_eq_true rfl) dX0_digest_102 ⟨Nat.zero_le _, Nat.zero_le _⟩ (fun H locs hk1 hS => ?_)
            replace hP := keptP hP hk1
            refine lv_lstore_n (lv' := [(3, .long (mixI (mixI (foldD (fun d s => foldD (fun d a => mixI d (nI (dg (rp s) a))) (mixI (mixI d (nI (tr s))) (bI (on s))) 6) y_60 i5) (nI (tr i5))) (bI (on i5)))), (5, .int (nI i5)), (2, .int (nI LA)), (1, .int (nI FI)), (0, .ref (ad 0))]) hx hb dX0_digest_105 rfl hl (by decide) rfl (fun ls hl => ?_)
            refine lv_iconst (v := nI 0) hx hb dX0_digest_106 (by decide) ?_
            refine lv_istore (lv' := [(6, .int (nI 0)), (3, .long (mixI (mixI (foldD (fun d s => foldD (fun d a => mixI d (nI (dg (rp s) a))) (mixI (mixI d (nI (tr s))) (bI (on s))) 6) y_60 i5) (nI (tr i5))) (bI (on i5)))), (5, .int (nI i5)), (2, .int (nI LA)), (1, .int (nI FI)), (0, .ref (ad 0))]) hx hb dX0_digest_107 hl (by decide) rfl (fun ls hl => ?_)
            have key14 : ∀ (d16 j15 : Nat), j15 + d16 = 6 → ∀ (H : Heap) (locs : List Loc) (ls : Array Slot), va_P D vwCl (wC ad cI cZ cJ n kd sd ts fs tr on rp lt ru lg lp) H → va_S (fun _ => False) s.heap H locs → lv_has ls 7 [(6, .int (nI j15)), (3, .long (foldD (fun d a => mixI d (nI (dg (rp i5) a))) (mixI (mixI (foldD (fun d s => foldD (fun d a => mixI d (nI (dg (rp s) a))) (mixI (mixI d (nI (tr s))) (bI (on s))) 6) y_60 i5) (nI (tr i5))) (bI (on i5))) j15)), (5, .int (nI i5)), (2, .int (nI LA)), (1, .int (nI FI)), (0, .ref (ad 0))] → W p l e rm_X0_digest s m args below meth c H locs 0 0 Q (F0 m 109 ls []) := by
              intro d16
              induction d16 with
              | zero =>
                intro j15 hi_j15 H locs ls hP hS hl
                obtain rfl : j15 = 6 := by omega
                refine lv_iload hx hb dX0_digest_109 (lv_at hl 0 rfl) ?_
                refine lv_bipush (v := nI 6) hx hb dX0_digest_111 (by decide) ?_
                refine cT_ge (tgt := 139) hx hb dX0_digest_113 (by decide) (nI_le (by omega) (by omega)) ?_
                refine lv_iinc (v := nI (i5 + 1)) (lv' := [(5, .int (nI (i5 + 1))), (6, .int (nI 6)), (3, .long (foldD (fun d a => mixI d (nI (dg (rp i5) a))) (mixI (mixI (foldD (fun d s => foldD (fun d a => mixI d (nI (dg (rp s) a))) (mixI (mixI d (nI (tr s))) (bI (on s))) 6) y_60 i5) (nI (tr i5))) (bI (on i5))) 6)), (2, .int (nI LA)), (1, .int (nI FI)), (0, .ref (ad 0))]) hx hb dX0_digest_139 hl (k := 2) rfl (iinc1 _) (by decide) rfl (fun ls hl => ?_)
                refine lv_goto (tgt := 67) hx hb dX0_digest_142 (by decide) ?_
                exact ih_i5 (i5 + 1) (by omega) H locs ls hP hS (lv_sub hl [0, 2, 3, 4, 5] rfl)
              | succ d16 ih_j15 =>
                intro j15 hi_j15 H locs ls hP hS hl
                refine lv_iload hx hb dX0_digest_109 (lv_at hl 0 rfl) ?_
                refine lv_bipush (v := nI 6) hx hb dX0_digest_111 (by decide) ?_
                refine cF_ge (tgt := 139) hx hb dX0_digest_113 (by decide) (nI_ge (by omega) (by omega)) ?_
                refine lv_lload_n hx hb dX0_digest_116 rfl (lv_at hl 1 rfl) ?_
                refine lv_aload_n hx hb dX0_digest_117 rfl (lv_at hl 5 rfl) ?_
                refine va_get (D := D) (ci := 0) (v := .ref (ad 7)) (C := RX0) (T := TX0) (N := 12) hx hb hts hin0 hown hK hP 0 rfl rfl 7 (by decide) (hts (.fieldLink RX0 34 "RumourReasoner" "reports" "[I") (by decide +kernel)) (fun _ h9 => h9) rfl dX0_digest_118 ?_
                refine lv_iload hx hb dX0_digest_121 (lv_at hl 2 rfl) ?_
                refine ld_ni hx hb hK hP 7 0 rfl rfl (j := i5) (by omega) (by decide) dX0_digest_123 ?_
                refine lv_iload hx hb dX0_digest_124 (lv_at hl 0 rfl) ?_
                refine puI_S (own := RX0) (As := [.int (nI (rp i5)), .int (nI j15)]) (rest := [.long (foldD (fun d a => mixI d (nI (dg (rp i5) a))) (mixI (mixI (foldD (fun d s => foldD (fun d a => mixI d (nI (dg (rp s) a))) (mixI (mixI d (nI (tr s))) (bI (on s))) 6) y_60 i5) (nI (tr i5))) (bI (on i5))) j15)]) ⟨hx, hb, hml, hown, hts⟩ (c_X0_valueIn l D (rp i5) j15 (hO.2.2.1 _ (by omega)) (by omega)) gX0_digest_X0_valueIn rfl ⟨rfl, rfl⟩ 2 rfl (by decide +kernel) ⟨Nat.le_of_ble_eq_true rfl, Nat.le_of_ble_eq_true rfl⟩ nilP (hK.sub (tys' := []) [] rfl) hS hl.1 rfl (Nat.le_of_ble_eq_true rfl) dX0_digest_126 ⟨Nat.zero_le _, Nat.zero_le _⟩ (fun H locs hk1 hS => ?_)
                replace hP := keptP hP hk1
                refine puL_S (own := RX0) (As := [.long (foldD (fun d a => mixI d (nI (dg (rp i5) a))) (mixI (mixI (foldD (fun d s => foldD (fun d a => mixI d (nI (dg (rp s) a))) (mixI (mixI d (nI (tr s))) (bI (on s))) 6) y_60 i5) (nI (tr i5))) (bI (on i5))) j15), .int (nI (dg (rp i5) j15))]) (rest := []) ⟨hx, hb, hml, hown, hts⟩ (c_X0_mix l D (foldD (fun d a => mixI d (nI (dg (rp i5) a))) (mixI (mixI (foldD (fun d s => foldD (fun d a => mixI d (nI (dg (rp s) a))) (mixI (mixI d (nI (tr s))) (bI (on s))) 6) y_60 i5) (nI (tr i5))) (bI (on i5))) j15) (nI (dg (rp i5) j15))) gX0_digest_X0_mix rfl ⟨rfl, rfl⟩ 2 rfl (by decide +kernel) ⟨Nat.le_of_ble_eq_true rfl, Nat.le_of_ble_eq_true rfl⟩ nilP (hK.sub (tys' := []) [] rfl) hS hl.1 rfl (Nat.le_of_ble_eq_true rfl) dX0_digest_129 ⟨Nat.zero_le _, Nat.zero_le _⟩ (fun H locs hk1 hS => ?_)
                replace hP := keptP hP hk1
                refine lv_lstore_n (lv' := [(3, .long (mixI (foldD (fun d a => mixI d (nI (dg (rp i5) a))) (mixI (mixI (foldD (fun d s => foldD (fun d a => mixI d (nI (dg (rp s) a))) (mixI (mixI d (nI (tr s))) (bI (on s))) 6) y_60 i5) (nI (tr i5))) (bI (on i5))) j15) (nI (dg (rp i5) j15)))), (6, .int (nI j15)), (5, .int (nI i5)), (2, .int (nI LA)), (1, .int (nI FI)), (0, .ref (ad 0))]) hx hb dX0_digest_132 rfl hl (by decide) rfl (fun ls hl => ?_)
                refine lv_iinc (v := nI (j15 + 1)) (lv' := [(6, .int (nI (j15 + 1))), (3, .long (mixI (foldD (fun d a => mixI d (nI (dg (rp i5) a))) (mixI (mixI (foldD (fun d s => foldD (fun d a => mixI d (nI (dg (rp s) a))) (mixI (mixI d (nI (tr s))) (bI (on s))) 6) y_60 i5) (nI (tr i5))) (bI (on i5))) j15) (nI (dg (rp i5) j15)))), (5, .int (nI i5)), (2, .int (nI LA)), (1, .int (nI FI)), (0, .ref (ad 0))]) hx hb dX0_digest_133 hl (k := 1) rfl (iinc1 _) (by decide) rfl (fun ls hl => ?_)
                refine lv_goto (tgt := 109) hx hb dX0_digest_136 (by decide) ?_
                exact ih_j15 (j15 + 1) (by omega) H locs ls hP hS (lv_sub hl [0, 1, 2, 3, 4, 5] rfl)
            exact key14 (6) 0 (by omega) _ _ ls hP hS (lv_sub hl [0, 1, 2, 3, 4, 5] rfl)
      exact key4 (6) 0 (by omega) _ _ ls hP hS (lv_sub hl [0, 1, 2, 3, 4] rfl)
    | succ d3 ih_i2 =>
      intro i2 hi_i2 H locs ls hP hS hl
      refine lv_iload hx hb dX0_digest_28 (lv_at hl 0 rfl) ?_
      refine lv_aload_n hx hb dX0_digest_30 rfl (lv_at hl 4 rfl) ?_
      refine va_get (D := D) (ci := 0) (v := .int (nI n)) (C := RX0) (T := TX0) (N := 12) hx hb hts hin0 hown hK hP 0 rfl rfl 0 (by decide) (hts (.fieldLink RX0 9 "RumourReasoner" "count" "I") (by decide +kernel)) (fun _ h9 => h9) rfl dX0_digest_31 ?_
      refine cF_ge (tgt := 55) hx hb dX0_digest_34 (by decide) (nI_ge (by omega) (by omega)) ?_
      refine lv_lload_n hx hb dX0_digest_37 rfl (lv_at hl 1 rfl) ?_
      refine lv_aload_n hx hb dX0_digest_38 rfl (lv_at hl 4 rfl) ?_
      refine va_get (D := D) (ci := 0) (v := .ref (ad 1)) (C := RX0) (T := TX0) (N := 12) hx hb hts hin0 hown hK hP 0 rfl rfl 1 (by decide) (hts (.fieldLink RX0 13 "RumourReasoner" "kinds" "[I") (by decide +kernel)) (fun _ h9 => h9) rfl dX0_digest_39 ?_
      refine lv_iload hx hb dX0_digest_42 (lv_at hl 0 rfl) ?_
      refine ld_ni hx hb hK hP 1 0 rfl rfl (j := i2) (by omega) (by decide) dX0_digest_44 ?_
      refine puL_S (own := RX0) (As := [.long (foldD (fun d j => mixI d (nI (kd j))) (mixI 131 (nI n)) i2), .int (nI (kd i2))]) (rest := []) ⟨hx, hb, hml, hown, hts⟩ (c_X0_mix l D (foldD (fun d j => mixI d (nI (kd j))) (mixI 131 (nI n)) i2) (nI (kd i2))) gX0_digest_X0_mix rfl ⟨rfl, rfl⟩ 2 rfl (by decide +kernel) ⟨Nat.le_of_ble_eq_true rfl, Nat.le_of_ble_eq_true rfl⟩ nilP (hK.sub (tys' := []) [] rfl) hS hl.1 rfl (Nat.le_of_ble_eq_true rfl) dX0_digest_45 ⟨Nat.zero_le _, Nat.zero_le _⟩ (fun H locs hk1 hS => ?_)
      replace hP := keptP hP hk1
      refine lv_lstore_n (lv' := [(3, .long (mixI (foldD (fun d j => mixI d (nI (kd j))) (mixI 131 (nI n)) i2) (nI (kd i2)))), (5, .int (nI i2)), (2, .int (nI LA)), (1, .int (nI FI)), (0, .ref (ad 0))]) hx hb dX0_digest_48 rfl hl (by decide) rfl (fun ls hl => ?_)
      refine lv_iinc (v := nI (i2 + 1)) (lv' := [(5, .int (nI (i2 + 1))), (3, .long (mixI (foldD (fun d j => mixI d (nI (kd j))) (mixI 131 (nI n)) i2) (nI (kd i2)))), (2, .int (nI LA)), (1, .int (nI FI)), (0, .ref (ad 0))]) hx hb dX0_digest_49 hl (k := 1) rfl (iinc1 _) (by decide) rfl (fun ls hl => ?_)
      refine lv_goto (tgt := 28) hx hb dX0_digest_52 (by decide) ?_
      exact ih_i2 (i2 + 1) (by omega) H locs ls hP hS (lv_sub hl [0, 1, 2, 3, 4] rfl)
  exact key1 (n) 0 (by omega) _ _ ls hP hS (lv_sub hl [0, 1, 2, 3, 4] rfl)

end
