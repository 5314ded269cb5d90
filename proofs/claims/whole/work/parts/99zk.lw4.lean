/-! the law's loop -/
theorem and31 (x : Int32) : ∃ m, m < 32 ∧ x &&& 31 = nI m := by
  refine ⟨(x.toBitVec &&& 31#32).toNat, ?_, ?_⟩
  · rw [BitVec.toNat_and]; exact Nat.lt_of_le_of_lt Nat.and_le_right (by decide)
  · apply Int32.toBitVec_inj.mp
    rw [Int32.toBitVec_and]
    show _ = (Int32.ofNat _).toBitVec
    rw [Int32.toBitVec_ofNat', BitVec.ofNat_toNat, BitVec.setWidth_eq]
    rfl
theorem lw_le {L i : Nat} (h : ¬ nI L - 6 < nI i) (hL : L ≤ 3072) (hi : i ≤ 4000) : i + 6 ≤ L := by
  rw [Int32.lt_iff_toInt_lt, Int32.toInt_sub, nI_toInt (by omega), nI_toInt (by omega), show (6 : Int32).toInt = 6 from rfl, Int.bmod_eq_of_le (by omega) (by omega)] at h
  omega
set_option maxHeartbeats 4000000 in
set_option maxRecDepth 100000 in
theorem lw_loop {l : Launch} {D : va_G} {tl : List (ClassId × FieldType)} {Z : (Nat → Prop) → State → Heap → Prop} {ks : Nat → ClassId} {hd : Nat → Nat} {ta tz b L x : Nat} {xs : Nat → Int32} {E : ev_T} {bm : Nat → Nat} {oq : Nat} (H : lw_H l Z hd ta tz b L xs) (hL : L ≤ 3072) {C0 S0 : Nat} (hC : C0 + 17000 ≤ 601024) (hS : S0 + 270000 ≤ 7293034) (hE : ∀ (cells slots : Nat) (lv : List (Option Value)) (ws : va_W), cells ≤ 601024 → slots ≤ 7293034 → EV (hc_π l D ks tl Z) lw_M E cells slots 1456 lv [] ws) : ∀ (k t : Nat) (K : List Nat) (am N : Nat → Nat) (S : gS) (o : Nat → Int64) (F : Nat → Int32) (B : Nat → Nat → Int32), L < 6 * t + 6 * k → t ≤ 513 → am 0 = x → RX hd t K am N S F B → EV (hc_π l D ks tl Z) lw_M E (C0 + 32 * t) (S0 + 512 * t) 23 (lw_lv b x (bm 60) oq (6 * t)) [] (lw_Wd K am ks N S oq o bm F B) := by
  intro k
  induction k with
  | zero =>
    intro t K am N S o F B hk ht e hR
    have hzs := H.2.2.2.2.2.2.2.2.2
    refine ev_iload_4 23 d_lw_law_23 ?_
    refine ev_aload_0 25 d_lw_law_25 ?_
    refine ev_slen 26 d_lw_law_26 hzs ?_
    refine ev_bipush 6 27 d_lw_law_27 (by decide) ?_
    refine ev_isub 29 d_lw_law_29 ?_
    refine ev_icmpgt 30 1456 d_lw_law_30 (fun _ => hE _ _ _ _ (by omega) (by omega)) (fun c => ?_)
    have := lw_le c hL (by omega)
    omega
  | succ k ih =>
    intro t K am N S o F B hk ht e hR
    have hzs := H.2.2.2.2.2.2.2.2.2
    refine ev_iload_4 23 d_lw_law_23 ?_
    refine ev_aload_0 25 d_lw_law_25 ?_
    refine ev_slen 26 d_lw_law_26 hzs ?_
    refine ev_bipush 6 27 d_lw_law_27 (by decide) ?_
    refine ev_isub 29 d_lw_law_29 ?_
    refine ev_icmpgt 30 1456 d_lw_law_30 (fun _ => hE _ _ _ _ (by omega) (by omega)) (fun c => ?_)
    have hi := lw_le c hL (by omega)
    have ht2 : t ≤ 511 := by omega
    refine ev_aload_0 33 d_lw_law_33 ?_
    refine ev_iload_4 34 d_lw_law_34 ?_
    refine ev_sld 36 d_lw_law_36 hzs (vp_in_nI (by omega) (by omega)) ?_
    refine ev_bipush 31 37 d_lw_law_37 (by decide) ?_
    refine ev_iand 39 d_lw_law_39 ?_
    obtain ⟨m, hm, em⟩ := and31 (xs (nI (6 * t)).toNatClampNeg)
    refine ev_topi (nI m) em ?_
    have kk : lw_K l D tl Z ks hd E b x bm oq (6 * t) (C0 + 32 * t + 32) (S0 + 512 * t + 512) t := by
      intro K' am' N' S' o' F' B' e' hR'
      refine ev_iinc_4 1450 d_lw_law_1450 ?_ (hn := by exact Nat.le_of_ble_eq_true rfl)
      refine ev_goto 1453 23 d_lw_law_1453 ?_
      have h := ih (t + 1) K' am' N' S' o' F' B' (by omega) (by omega) e' hR'
      rw [show C0 + 32 * (t + 1) = C0 + 32 * t + 32 by omega, show S0 + 512 * (t + 1) = S0 + 512 * t + 512 by omega] at h
      refine ev_eq h (h1 := ?_)
      rw [show nI (6 * t) + Int32.ofInt 6 = nI (6 * (t + 1)) from nI_add (6 * t) 6]
    by_cases c22 : m < 23
    · subst e
      obtain rfl | rfl | rfl | rfl | rfl | rfl | rfl | rfl | rfl | rfl | rfl | rfl | rfl | rfl | rfl | rfl | rfl | rfl | rfl | rfl | rfl | rfl | rfl : m = 0 ∨ m = 1 ∨ m = 2 ∨ m = 3 ∨ m = 4 ∨ m = 5 ∨ m = 6 ∨ m = 7 ∨ m = 8 ∨ m = 9 ∨ m = 10 ∨ m = 11 ∨ m = 12 ∨ m = 13 ∨ m = 14 ∨ m = 15 ∨ m = 16 ∨ m = 17 ∨ m = 18 ∨ m = 19 ∨ m = 20 ∨ m = 21 ∨ m = 22 := by omega
      · exact ev_tabIn 40 148 d_lw_law_40 (by decide) (by decide) (off := 108) (by decide) (lc_part H hL (by omega) (by omega) (by omega) (by omega) hR kk)
      · exact ev_tabIn 40 204 d_lw_law_40 (by decide) (by decide) (off := 164) (by decide) (lc_type H hL (by omega) (by omega) (by omega) (by omega) hR kk)
      · exact ev_tabIn 40 272 d_lw_law_40 (by decide) (by decide) (off := 232) (by decide) (lc_layout H hL (by omega) (by omega) (by omega) (by omega) hR kk)
      · exact ev_tabIn 40 340 d_lw_law_40 (by decide) (by decide) (off := 300) (by decide) (lc_fits H hL (by omega) (by omega) (by omega) (by omega) hR kk)
      · exact ev_tabIn 40 408 d_lw_law_40 (by decide) (by decide) (off := 368) (by decide) (lc_instance H hL (by omega) (by omega) (by omega) (by omega) hR kk)
      · exact ev_tabIn 40 452 d_lw_law_40 (by decide) (by decide) (off := 412) (by decide) (lc_function H hL (by omega) (by omega) (by omega) (by omega) hR kk)
      · exact ev_tabIn 40 532 d_lw_law_40 (by decide) (by decide) (off := 492) (by decide) (lc_write H hL (by omega) (by omega) (by omega) (by omega) hR kk)
      · exact ev_tabIn 40 636 d_lw_law_40 (by decide) (by decide) (off := 596) (by decide) (lc_read H hL (by omega) (by omega) (by omega) (by omega) hR kk)
      · exact ev_tabIn 40 704 d_lw_law_40 (by decide) (by decide) (off := 664) (by decide) (lc_enter H hL (by omega) (by omega) (by omega) (by omega) hR kk)
      · exact ev_tabIn 40 740 d_lw_law_40 (by decide) (by decide) (off := 700) (by decide) (lc_leave H hL (by omega) (by omega) (by omega) (by omega) hR kk)
      · exact ev_tabIn 40 764 d_lw_law_40 (by decide) (by decide) (off := 724) (by decide) (lc_make H hL (by omega) (by omega) (by omega) (by omega) hR kk)
      · exact ev_tabIn 40 820 d_lw_law_40 (by decide) (by decide) (off := 780) (by decide) (lc_drop H hL (by omega) (by omega) (by omega) (by omega) hR kk)
      · exact ev_tabIn 40 883 d_lw_law_40 (by decide) (by decide) (off := 843) (by decide) (lc_handle H hL (by omega) (by omega) (by omega) (by omega) hR kk)
      · exact ev_tabIn 40 963 d_lw_law_40 (by decide) (by decide) (off := 923) (by decide) (lc_call H hL (by omega) (by omega) (by omega) (by omega) hR kk)
      · exact ev_tabIn 40 1043 d_lw_law_40 (by decide) (by decide) (off := 1003) (by decide) (lc_back H hL (by omega) (by omega) (by omega) (by omega) hR kk)
      · exact ev_tabIn 40 1111 d_lw_law_40 (by decide) (by decide) (off := 1071) (by decide) (lc_trap H hL (by omega) (by omega) (by omega) (by omega) hR kk)
      · exact ev_tabIn 40 1135 d_lw_law_40 (by decide) (by decide) (off := 1095) (by decide) (lc_passed H hL (by omega) (by omega) (by omega) (by omega) hR kk)
      · exact ev_tabIn 40 1148 d_lw_law_40 (by decide) (by decide) (off := 1108) (by decide) (lc_depth H hL (by omega) (by omega) (by omega) (by omega) hR kk)
      · exact ev_tabIn 40 1161 d_lw_law_40 (by decide) (by decide) (off := 1121) (by decide) (lc_level H hL (by omega) (by omega) (by omega) (by omega) hR kk)
      · exact ev_tabIn 40 1186 d_lw_law_40 (by decide) (by decide) (off := 1146) (by decide) (lc_state H hL (by omega) (by omega) (by omega) (by omega) hR kk)
      · exact ev_tabIn 40 1254 d_lw_law_40 (by decide) (by decide) (off := 1214) (by decide) (lc_close H hL (by omega) (by omega) (by omega) (by omega) hR kk)
      · exact ev_tabIn 40 1310 d_lw_law_40 (by decide) (by decide) (off := 1270) (by decide) (lc_resources H hL (by omega) (by omega) (by omega) (by omega) hR kk)
      · exact ev_tabIn 40 1394 d_lw_law_40 (by decide) (by decide) (off := 1354) (by decide) (lc_latest H hL (by omega) (by omega) (by omega) (by omega) hR kk)
    · refine ev_tabOut 40 1450 d_lw_law_40 (Or.inr ?_) (ev_wd (Nat.le_add_right _ _) (Nat.le_add_right _ _) (kk K am N S o F B e (hR.ex (fun _ _ => rfl) (fun _ _ => rfl))))
      rw [nI_toInt (by omega)]
      omega
