set_option maxHeartbeats 4000000 in
set_option maxRecDepth 100000 in
theorem lc_drop {l : Launch} {D : va_G} {tl : List (ClassId × FieldType)} {Z : (Nat → Prop) → State → Heap → Prop} {ks : Nat → ClassId} {hd : Nat → Nat} {ta tz b L : Nat} {xs : Nat → Int32} {E : ev_T} {cells slots n i : Nat} {K : List Nat} {am N : Nat → Nat} {S : gS} {F : Nat → Int32} {B : Nat → Nat → Int32} {bm : Nat → Nat} {oq : Nat} {o : Nat → Int64} (H : lw_H l Z hd ta tz b L xs) (hL : L ≤ 3072) (hn : n < 1000) (hi : i + 5 < L) (hc : cells + 32 ≤ 601024) (hs : slots + 512 ≤ 7293034) (hR : RX hd n K am N S F B) (kk : lw_K l D tl Z ks hd E b (am 0) bm oq i (cells + 32) (slots + 512) n) : EV (hc_π l D ks tl Z) lw_M E cells slots 820 (lw_lv b (am 0) (bm 60) oq i) [] (lw_Wd K am ks N S oq o bm F B) := by
  obtain ⟨hl, hzx, hZ, hNw, hAO, hST, hZ9, hDi, hnc, hzs⟩ := H
  have hK := hR.k0
  obtain ⟨Q, X, P, hM, hMo, hJ⟩ := jn_drop (k := 21) (bm := bm) (ks := ks) (tl := tl) (D := D) hl hzx hZ hNw hAO ta tz hST hZ9 hDi (by decide) hn hR (xs (i + 1))
  refine ev_aload_1 820 d_lw_law_820 ?_
  refine ev_aload_0 821 d_lw_law_821 ?_
  refine ev_iload_4 822 d_lw_law_822 ?_
  refine ev_iconst_1 824 d_lw_law_824 ?_
  refine ev_iadd 825 d_lw_law_825 ?_
  refine ev_topi (nI (i + 1)) (nI_add i 1) ?_
  refine ev_sld 826 d_lw_law_826 hzs (vp_in_nI (by omega) (by omega)) ?_
  refine ev_topi (xs (i + 1)) (by rw [nI_clamp (by omega)]) ?_
  refine ev_aload_3 827 d_lw_law_827 ?_
  refine ev_callSW (mc := 1) (ms := 6) 828 [.ref (am 0), .int (xs (i + 1)), .ref oq] [] d_lw_law_828 hZ ks_drop ⟨rfl, rfl, ⟨by decide, by decide⟩, Nat.le_trans (Nat.add_le_add_left (by decide) _) hc, Nat.le_trans (Nat.add_le_add_left (by decide) _) hs⟩ (mt_frame hZ (hw_drop hZ hnc (xs (i + 1)) hK hM (fun r w hq => (hJ.1 r w hq).imp (fun _ h => h.1)) (fun E w hx => (hJ.2 E w hx).imp (fun _ h => h.1))) (mo_W mo_ci bm (ks 0) (ks 1) F B)) (fun r w hw => ?_)
  obtain ⟨w2, rfl, hw⟩ := hw
  refine ev_wd (k := cells + 32) (n := slots + 512) (Nat.add_le_add_left (by decide) _) (Nat.add_le_add_left (by decide) _) ?_
  obtain ⟨kc, w1, o', rfl, rfl, hP⟩ := lw_join (fun y => if y = 0 then 0 else 1) cdu_drop hJ hw
  refine ev_eq (st' := [.int kc]) ?_
  refine ev_istore_5 831 d_lw_law_831 ?_ (hn := by exact Nat.le_of_ble_eq_true rfl)
  refine ev_swap ?_
  refine ev_aload_2 833 d_lw_law_833 ?_
  refine ev_aload_0 834 d_lw_law_834 ?_
  refine ev_iload_4 835 d_lw_law_835 ?_
  refine ev_iconst_1 837 d_lw_law_837 ?_
  refine ev_iadd 838 d_lw_law_838 ?_
  refine ev_topi (nI (i + 1)) (nI_add i 1) ?_
  refine ev_sld 839 d_lw_law_839 hzs (vp_in_nI (by omega) (by omega)) ?_
  refine ev_topi (xs (i + 1)) (by rw [nI_clamp (by omega)]) ?_
  refine ev_callV (mc := 0) (ms := 0) (ci := 9) 840 0 [.int (xs (i + 1))] [] d_lw_law_840 hZ km_drop (kM9 hc hs (by decide)) (at_l mo_at0) rfl (mt_frame hZ hMo (w1 ++ [lw_o ks oq o'])) (fun r w hw => ?_)
  obtain ⟨w3, rfl, x, F1, B1, rfl, rfl, hp⟩ := hw
  obtain ⟨g0, g1, g2⟩ := hP x F1 B1 hp
  refine ev_eq (st' := [.int x]) ?_
  refine ev_istore_6 843 d_lw_law_843 ?_ (hn := by exact Nat.le_of_ble_eq_true rfl)
  refine ev_aload_2 845 d_lw_law_845 ?_
  refine ev_callV (mc := 0) (ms := 0) (ci := 9) 846 0 [] [] d_lw_law_846 hZ km_thrown (kM9 hc hs (by decide)) (at_l mo_at0) rfl (mt_frame hZ (mt_thrown hZ) (w1 ++ [lw_o ks oq o'])) (fun r w hw => ?_)
  obtain ⟨w3, rfl, x9, F9, B9, rfl, rfl, rfl, e9, f9⟩ := hw
  subst e9
  subst f9
  refine ev_eq (st' := [.int (F9 0)]) ?_
  refine ev_iload_5 849 d_lw_law_849 ?_
  refine ev_icmpeq 851 856 d_lw_law_851 (fun _ => ?_) (fun c9 => absurd g0 c9)
  refine ev_iload_5 856 d_lw_law_856 ?_
  refine ev_ifne 858 880 d_lw_law_858 (fun _ => ?_) (fun c0 => ?_)
  · refine ev_goto 880 1450 d_lw_law_880 ?_
    exact (lw_end kk (Nat.le_refl _) (Nat.le_refl _) g2)
  · refine ev_aload_3 861 d_lw_law_861 ?_
    refine ev_iconst_0 862 d_lw_law_862 ?_
    refine ev_lald 863 ((mo_W mo_ci bm (ks 0) (ks 1) F9 B9).length + w1.length) 2 d_lw_law_863 at_e2 rfl (show vp_in (nI 0) 1 from vp_in_nI (by decide) (by decide)) ?_
    refine ev_iload_6 864 d_lw_law_864 ?_
    refine ev_ifeq 866 873 d_lw_law_866 (fun c1 => ?_) (fun c1 => ?_)
    · refine ev_lconst_0 873 d_lw_law_873 ?_
      refine ev_lcmp 874 d_lw_law_874 ?_
      refine ev_ifeq 875 880 d_lw_law_875 (fun _ => ?_) (fun c9 => absurd (by rw [show o' (0 : Int32).toNatClampNeg = 0 from (g1 c0).trans (if_pos c1)]; exact lg_self 0) c9)
      refine ev_goto 880 1450 d_lw_law_880 ?_
      exact (lw_end kk (Nat.le_refl _) (Nat.le_refl _) g2)
    · refine ev_lconst_1 869 d_lw_law_869 ?_
      refine ev_goto 870 874 d_lw_law_870 ?_
      refine ev_lcmp 874 d_lw_law_874 ?_
      refine ev_ifeq 875 880 d_lw_law_875 (fun _ => ?_) (fun c9 => absurd (by rw [show o' (0 : Int32).toNatClampNeg = 1 from (g1 c0).trans (if_neg c1)]; exact lg_self 1) c9)
      refine ev_goto 880 1450 d_lw_law_880 ?_
      exact (lw_end kk (Nat.le_refl _) (Nat.le_refl _) g2)
set_option maxHeartbeats 4000000 in
set_option maxRecDepth 100000 in
theorem lc_handle {l : Launch} {D : va_G} {tl : List (ClassId × FieldType)} {Z : (Nat → Prop) → State → Heap → Prop} {ks : Nat → ClassId} {hd : Nat → Nat} {ta tz b L : Nat} {xs : Nat → Int32} {E : ev_T} {cells slots n i : Nat} {K : List Nat} {am N : Nat → Nat} {S : gS} {F : Nat → Int32} {B : Nat → Nat → Int32} {bm : Nat → Nat} {oq : Nat} {o : Nat → Int64} (H : lw_H l Z hd ta tz b L xs) (hL : L ≤ 3072) (hn : n < 1000) (hi : i + 5 < L) (hc : cells + 32 ≤ 601024) (hs : slots + 512 ≤ 7293034) (hR : RX hd n K am N S F B) (kk : lw_K l D tl Z ks hd E b (am 0) bm oq i (cells + 32) (slots + 512) n) : EV (hc_π l D ks tl Z) lw_M E cells slots 883 (lw_lv b (am 0) (bm 60) oq i) [] (lw_Wd K am ks N S oq o bm F B) := by
  obtain ⟨hl, hzx, hZ, hNw, hAO, hST, hZ9, hDi, hnc, hzs⟩ := H
  have hK := hR.k0
  obtain ⟨Q, X, P, hM, hMo, hJ⟩ := jn_handle (k := 21) (bm := bm) (ks := ks) (tl := tl) (D := D) hl hzx hZ hNw hAO ta tz hST hZ9 hDi (by decide) hn hR (xs (i + 1)) (xs (i + 2)) (xs (i + 3))
  refine ev_aload_1 883 d_lw_law_883 ?_
  refine ev_aload_0 884 d_lw_law_884 ?_
  refine ev_iload_4 885 d_lw_law_885 ?_
  refine ev_iconst_1 887 d_lw_law_887 ?_
  refine ev_iadd 888 d_lw_law_888 ?_
  refine ev_topi (nI (i + 1)) (nI_add i 1) ?_
  refine ev_sld 889 d_lw_law_889 hzs (vp_in_nI (by omega) (by omega)) ?_
  refine ev_topi (xs (i + 1)) (by rw [nI_clamp (by omega)]) ?_
  refine ev_aload_0 890 d_lw_law_890 ?_
  refine ev_iload_4 891 d_lw_law_891 ?_
  refine ev_iconst_2 893 d_lw_law_893 ?_
  refine ev_iadd 894 d_lw_law_894 ?_
  refine ev_topi (nI (i + 2)) (nI_add i 2) ?_
  refine ev_sld 895 d_lw_law_895 hzs (vp_in_nI (by omega) (by omega)) ?_
  refine ev_topi (xs (i + 2)) (by rw [nI_clamp (by omega)]) ?_
  refine ev_aload_0 896 d_lw_law_896 ?_
  refine ev_iload_4 897 d_lw_law_897 ?_
  refine ev_iconst_3 899 d_lw_law_899 ?_
  refine ev_iadd 900 d_lw_law_900 ?_
  refine ev_topi (nI (i + 3)) (nI_add i 3) ?_
  refine ev_sld 901 d_lw_law_901 hzs (vp_in_nI (by omega) (by omega)) ?_
  refine ev_topi (xs (i + 3)) (by rw [nI_clamp (by omega)]) ?_
  refine ev_aload_3 902 d_lw_law_902 ?_
  refine ev_callSW (mc := 1) (ms := 6) 903 [.ref (am 0), .int (xs (i + 1)), .int (xs (i + 2)), .int (xs (i + 3)), .ref oq] [] d_lw_law_903 hZ ks_handle ⟨rfl, rfl, ⟨by decide, by decide⟩, Nat.le_trans (Nat.add_le_add_left (by decide) _) hc, Nat.le_trans (Nat.add_le_add_left (by decide) _) hs⟩ (mt_frame hZ (hw_handle hZ hnc (xs (i + 1)) (xs (i + 2)) (xs (i + 3)) hK hM (fun r w hq => (hJ.1 r w hq).imp (fun _ h => h.1)) (fun E w hx => (hJ.2 E w hx).imp (fun _ h => h.1))) (mo_W mo_ci bm (ks 0) (ks 1) F B)) (fun r w hw => ?_)
  obtain ⟨w2, rfl, hw⟩ := hw
  refine ev_wd (k := cells + 32) (n := slots + 512) (Nat.add_le_add_left (by decide) _) (Nat.add_le_add_left (by decide) _) ?_
  obtain ⟨kc, w1, o', rfl, rfl, hP⟩ := lw_join Int32.toInt64 cdu_handle hJ hw
  refine ev_eq (st' := [.int kc]) ?_
  refine ev_istore_5 906 d_lw_law_906 ?_ (hn := by exact Nat.le_of_ble_eq_true rfl)
  refine ev_swap ?_
  refine ev_aload_2 908 d_lw_law_908 ?_
  refine ev_aload_0 909 d_lw_law_909 ?_
  refine ev_iload_4 910 d_lw_law_910 ?_
  refine ev_iconst_1 912 d_lw_law_912 ?_
  refine ev_iadd 913 d_lw_law_913 ?_
  refine ev_topi (nI (i + 1)) (nI_add i 1) ?_
  refine ev_sld 914 d_lw_law_914 hzs (vp_in_nI (by omega) (by omega)) ?_
  refine ev_topi (xs (i + 1)) (by rw [nI_clamp (by omega)]) ?_
  refine ev_aload_0 915 d_lw_law_915 ?_
  refine ev_iload_4 916 d_lw_law_916 ?_
  refine ev_iconst_2 918 d_lw_law_918 ?_
  refine ev_iadd 919 d_lw_law_919 ?_
  refine ev_topi (nI (i + 2)) (nI_add i 2) ?_
  refine ev_sld 920 d_lw_law_920 hzs (vp_in_nI (by omega) (by omega)) ?_
  refine ev_topi (xs (i + 2)) (by rw [nI_clamp (by omega)]) ?_
  refine ev_aload_0 921 d_lw_law_921 ?_
  refine ev_iload_4 922 d_lw_law_922 ?_
  refine ev_iconst_3 924 d_lw_law_924 ?_
  refine ev_iadd 925 d_lw_law_925 ?_
  refine ev_topi (nI (i + 3)) (nI_add i 3) ?_
  refine ev_sld 926 d_lw_law_926 hzs (vp_in_nI (by omega) (by omega)) ?_
  refine ev_topi (xs (i + 3)) (by rw [nI_clamp (by omega)]) ?_
  refine ev_callV (mc := 0) (ms := 0) (ci := 9) 927 0 [.int (xs (i + 1)), .int (xs (i + 2)), .int (xs (i + 3))] [] d_lw_law_927 hZ km_handle (kM9 hc hs (by decide)) (at_l mo_at0) rfl (mt_frame hZ hMo (w1 ++ [lw_o ks oq o'])) (fun r w hw => ?_)
  obtain ⟨w3, rfl, x, F1, B1, rfl, rfl, hp⟩ := hw
  obtain ⟨g0, g1, g2⟩ := hP x F1 B1 hp
  refine ev_eq (st' := [.int x]) ?_
  refine ev_istore_6 930 d_lw_law_930 ?_ (hn := by exact Nat.le_of_ble_eq_true rfl)
  refine ev_aload_2 932 d_lw_law_932 ?_
  refine ev_callV (mc := 0) (ms := 0) (ci := 9) 933 0 [] [] d_lw_law_933 hZ km_thrown (kM9 hc hs (by decide)) (at_l mo_at0) rfl (mt_frame hZ (mt_thrown hZ) (w1 ++ [lw_o ks oq o'])) (fun r w hw => ?_)
  obtain ⟨w3, rfl, x9, F9, B9, rfl, rfl, rfl, e9, f9⟩ := hw
  subst e9
  subst f9
  refine ev_eq (st' := [.int (F9 0)]) ?_
  refine ev_iload_5 936 d_lw_law_936 ?_
  refine ev_icmpeq 938 943 d_lw_law_938 (fun _ => ?_) (fun c9 => absurd g0 c9)
  refine ev_iload_5 943 d_lw_law_943 ?_
  refine ev_ifne 945 960 d_lw_law_945 (fun _ => ?_) (fun c0 => ?_)
  · refine ev_goto 960 1450 d_lw_law_960 ?_
    exact (lw_end kk (Nat.le_refl _) (Nat.le_refl _) g2)
  · refine ev_aload_3 948 d_lw_law_948 ?_
    refine ev_iconst_0 949 d_lw_law_949 ?_
    refine ev_lald 950 ((mo_W mo_ci bm (ks 0) (ks 1) F9 B9).length + w1.length) 2 d_lw_law_950 at_e2 rfl (show vp_in (nI 0) 1 from vp_in_nI (by decide) (by decide)) ?_
    refine ev_iload_6 951 d_lw_law_951 ?_
    refine ev_i2l 953 d_lw_law_953 ?_
    refine ev_lcmp 954 d_lw_law_954 ?_
    refine ev_ifeq 955 960 d_lw_law_955 (fun _ => ?_) (fun c9 => absurd (by rw [show o' (0 : Int32).toNatClampNeg = x.toInt64 from g1 c0]; exact lg_self _) c9)
    refine ev_goto 960 1450 d_lw_law_960 ?_
    exact (lw_end kk (Nat.le_refl _) (Nat.le_refl _) g2)
set_option maxHeartbeats 4000000 in
set_option maxRecDepth 100000 in
theorem lc_call {l : Launch} {D : va_G} {tl : List (ClassId × FieldType)} {Z : (Nat → Prop) → State → Heap → Prop} {ks : Nat → ClassId} {hd : Nat → Nat} {ta tz b L : Nat} {xs : Nat → Int32} {E : ev_T} {cells slots n i : Nat} {K : List Nat} {am N : Nat → Nat} {S : gS} {F : Nat → Int32} {B : Nat → Nat → Int32} {bm : Nat → Nat} {oq : Nat} {o : Nat → Int64} (H : lw_H l Z hd ta tz b L xs) (hL : L ≤ 3072) (hn : n < 1000) (hi : i + 5 < L) (hc : cells + 32 ≤ 601024) (hs : slots + 512 ≤ 7293034) (hR : RX hd n K am N S F B) (kk : lw_K l D tl Z ks hd E b (am 0) bm oq i (cells + 32) (slots + 512) n) : EV (hc_π l D ks tl Z) lw_M E cells slots 963 (lw_lv b (am 0) (bm 60) oq i) [] (lw_Wd K am ks N S oq o bm F B) := by
  obtain ⟨hl, hzx, hZ, hNw, hAO, hST, hZ9, hDi, hnc, hzs⟩ := H
  have hK := hR.k0
  obtain ⟨Q, X, P, hM, hMo, hJ⟩ := jn_call (k := 21) (bm := bm) (ks := ks) (tl := tl) (D := D) hl hzx hZ hNw hAO ta tz hST hZ9 hDi (by decide) hn hR (xs (i + 1)) (xs (i + 2)) (xs (i + 3))
  refine ev_aload_1 963 d_lw_law_963 ?_
  refine ev_aload_0 964 d_lw_law_964 ?_
  refine ev_iload_4 965 d_lw_law_965 ?_
  refine ev_iconst_1 967 d_lw_law_967 ?_
  refine ev_iadd 968 d_lw_law_968 ?_
  refine ev_topi (nI (i + 1)) (nI_add i 1) ?_
  refine ev_sld 969 d_lw_law_969 hzs (vp_in_nI (by omega) (by omega)) ?_
  refine ev_topi (xs (i + 1)) (by rw [nI_clamp (by omega)]) ?_
  refine ev_aload_0 970 d_lw_law_970 ?_
  refine ev_iload_4 971 d_lw_law_971 ?_
  refine ev_iconst_2 973 d_lw_law_973 ?_
  refine ev_iadd 974 d_lw_law_974 ?_
  refine ev_topi (nI (i + 2)) (nI_add i 2) ?_
  refine ev_sld 975 d_lw_law_975 hzs (vp_in_nI (by omega) (by omega)) ?_
  refine ev_topi (xs (i + 2)) (by rw [nI_clamp (by omega)]) ?_
  refine ev_aload_0 976 d_lw_law_976 ?_
  refine ev_iload_4 977 d_lw_law_977 ?_
  refine ev_iconst_3 979 d_lw_law_979 ?_
  refine ev_iadd 980 d_lw_law_980 ?_
  refine ev_topi (nI (i + 3)) (nI_add i 3) ?_
  refine ev_sld 981 d_lw_law_981 hzs (vp_in_nI (by omega) (by omega)) ?_
  refine ev_topi (xs (i + 3)) (by rw [nI_clamp (by omega)]) ?_
  refine ev_aload_3 982 d_lw_law_982 ?_
  refine ev_callSW (mc := 2) (ms := 9) 983 [.ref (am 0), .int (xs (i + 1)), .int (xs (i + 2)), .int (xs (i + 3)), .ref oq] [] d_lw_law_983 hZ ks_call ⟨rfl, rfl, ⟨by decide, by decide⟩, Nat.le_trans (Nat.add_le_add_left (by decide) _) hc, Nat.le_trans (Nat.add_le_add_left (by decide) _) hs⟩ (mt_frame hZ (hw_call hZ hnc (xs (i + 1)) (xs (i + 2)) (xs (i + 3)) hK hM (fun r w hq => (hJ.1 r w hq).imp (fun _ h => h.1)) (fun E w hx => (hJ.2 E w hx).imp (fun _ h => h.1))) (mo_W mo_ci bm (ks 0) (ks 1) F B)) (fun r w hw => ?_)
  obtain ⟨w2, rfl, hw⟩ := hw
  refine ev_wd (k := cells + 32) (n := slots + 512) (Nat.add_le_add_left (by decide) _) (Nat.add_le_add_left (by decide) _) ?_
  obtain ⟨kc, w1, o', rfl, rfl, hP⟩ := lw_join Int32.toInt64 cdu_call hJ hw
  refine ev_eq (st' := [.int kc]) ?_
  refine ev_istore_5 986 d_lw_law_986 ?_ (hn := by exact Nat.le_of_ble_eq_true rfl)
  refine ev_swap ?_
  refine ev_aload_2 988 d_lw_law_988 ?_
  refine ev_aload_0 989 d_lw_law_989 ?_
  refine ev_iload_4 990 d_lw_law_990 ?_
  refine ev_iconst_1 992 d_lw_law_992 ?_
  refine ev_iadd 993 d_lw_law_993 ?_
  refine ev_topi (nI (i + 1)) (nI_add i 1) ?_
  refine ev_sld 994 d_lw_law_994 hzs (vp_in_nI (by omega) (by omega)) ?_
  refine ev_topi (xs (i + 1)) (by rw [nI_clamp (by omega)]) ?_
  refine ev_aload_0 995 d_lw_law_995 ?_
  refine ev_iload_4 996 d_lw_law_996 ?_
  refine ev_iconst_2 998 d_lw_law_998 ?_
  refine ev_iadd 999 d_lw_law_999 ?_
  refine ev_topi (nI (i + 2)) (nI_add i 2) ?_
  refine ev_sld 1000 d_lw_law_1000 hzs (vp_in_nI (by omega) (by omega)) ?_
  refine ev_topi (xs (i + 2)) (by rw [nI_clamp (by omega)]) ?_
  refine ev_aload_0 1001 d_lw_law_1001 ?_
  refine ev_iload_4 1002 d_lw_law_1002 ?_
  refine ev_iconst_3 1004 d_lw_law_1004 ?_
  refine ev_iadd 1005 d_lw_law_1005 ?_
  refine ev_topi (nI (i + 3)) (nI_add i 3) ?_
  refine ev_sld 1006 d_lw_law_1006 hzs (vp_in_nI (by omega) (by omega)) ?_
  refine ev_topi (xs (i + 3)) (by rw [nI_clamp (by omega)]) ?_
  refine ev_callV (mc := 0) (ms := 0) (ci := 9) 1007 0 [.int (xs (i + 1)), .int (xs (i + 2)), .int (xs (i + 3))] [] d_lw_law_1007 hZ km_call (kM9 hc hs (by decide)) (at_l mo_at0) rfl (mt_frame hZ hMo (w1 ++ [lw_o ks oq o'])) (fun r w hw => ?_)
  obtain ⟨w3, rfl, x, F1, B1, rfl, rfl, hp⟩ := hw
  obtain ⟨g0, g1, g2⟩ := hP x F1 B1 hp
  refine ev_eq (st' := [.int x]) ?_
  refine ev_istore_6 1010 d_lw_law_1010 ?_ (hn := by exact Nat.le_of_ble_eq_true rfl)
  refine ev_aload_2 1012 d_lw_law_1012 ?_
  refine ev_callV (mc := 0) (ms := 0) (ci := 9) 1013 0 [] [] d_lw_law_1013 hZ km_thrown (kM9 hc hs (by decide)) (at_l mo_at0) rfl (mt_frame hZ (mt_thrown hZ) (w1 ++ [lw_o ks oq o'])) (fun r w hw => ?_)
  obtain ⟨w3, rfl, x9, F9, B9, rfl, rfl, rfl, e9, f9⟩ := hw
  subst e9
  subst f9
  refine ev_eq (st' := [.int (F9 0)]) ?_
  refine ev_iload_5 1016 d_lw_law_1016 ?_
  refine ev_icmpeq 1018 1023 d_lw_law_1018 (fun _ => ?_) (fun c9 => absurd g0 c9)
  refine ev_iload_5 1023 d_lw_law_1023 ?_
  refine ev_ifne 1025 1040 d_lw_law_1025 (fun _ => ?_) (fun c0 => ?_)
  · refine ev_goto 1040 1450 d_lw_law_1040 ?_
    exact (lw_end kk (Nat.le_refl _) (Nat.le_refl _) g2)
  · refine ev_aload_3 1028 d_lw_law_1028 ?_
    refine ev_iconst_0 1029 d_lw_law_1029 ?_
    refine ev_lald 1030 ((mo_W mo_ci bm (ks 0) (ks 1) F9 B9).length + w1.length) 2 d_lw_law_1030 at_e2 rfl (show vp_in (nI 0) 1 from vp_in_nI (by decide) (by decide)) ?_
    refine ev_iload_6 1031 d_lw_law_1031 ?_
    refine ev_i2l 1033 d_lw_law_1033 ?_
    refine ev_lcmp 1034 d_lw_law_1034 ?_
    refine ev_ifeq 1035 1040 d_lw_law_1035 (fun _ => ?_) (fun c9 => absurd (by rw [show o' (0 : Int32).toNatClampNeg = x.toInt64 from g1 c0]; exact lg_self _) c9)
    refine ev_goto 1040 1450 d_lw_law_1040 ?_
    exact (lw_end kk (Nat.le_refl _) (Nat.le_refl _) g2)
set_option maxHeartbeats 4000000 in
set_option maxRecDepth 100000 in
theorem lc_back {l : Launch} {D : va_G} {tl : List (ClassId × FieldType)} {Z : (Nat → Prop) → State → Heap → Prop} {ks : Nat → ClassId} {hd : Nat → Nat} {ta tz b L : Nat} {xs : Nat → Int32} {E : ev_T} {cells slots n i : Nat} {K : List Nat} {am N : Nat → Nat} {S : gS} {F : Nat → Int32} {B : Nat → Nat → Int32} {bm : Nat → Nat} {oq : Nat} {o : Nat → Int64} (H : lw_H l Z hd ta tz b L xs) (hL : L ≤ 3072) (hn : n < 1000) (hi : i + 5 < L) (hc : cells + 32 ≤ 601024) (hs : slots + 512 ≤ 7293034) (hR : RX hd n K am N S F B) (kk : lw_K l D tl Z ks hd E b (am 0) bm oq i (cells + 32) (slots + 512) n) : EV (hc_π l D ks tl Z) lw_M E cells slots 1043 (lw_lv b (am 0) (bm 60) oq i) [] (lw_Wd K am ks N S oq o bm F B) := by
  obtain ⟨hl, hzx, hZ, hNw, hAO, hST, hZ9, hDi, hnc, hzs⟩ := H
  have hK := hR.k0
  obtain ⟨Q, X, P, hM, hMo, hJ⟩ := jn_back (k := 21) (bm := bm) (ks := ks) (tl := tl) (D := D) hl hzx hZ hNw hAO ta tz hST hZ9 hDi (by decide) hn hR (xs (i + 1)) (xs (i + 2))
  refine ev_aload_1 1043 d_lw_law_1043 ?_
  refine ev_aload_0 1044 d_lw_law_1044 ?_
  refine ev_iload_4 1045 d_lw_law_1045 ?_
  refine ev_iconst_1 1047 d_lw_law_1047 ?_
  refine ev_iadd 1048 d_lw_law_1048 ?_
  refine ev_topi (nI (i + 1)) (nI_add i 1) ?_
  refine ev_sld 1049 d_lw_law_1049 hzs (vp_in_nI (by omega) (by omega)) ?_
  refine ev_topi (xs (i + 1)) (by rw [nI_clamp (by omega)]) ?_
  refine ev_aload_0 1050 d_lw_law_1050 ?_
  refine ev_iload_4 1051 d_lw_law_1051 ?_
  refine ev_iconst_2 1053 d_lw_law_1053 ?_
  refine ev_iadd 1054 d_lw_law_1054 ?_
  refine ev_topi (nI (i + 2)) (nI_add i 2) ?_
  refine ev_sld 1055 d_lw_law_1055 hzs (vp_in_nI (by omega) (by omega)) ?_
  refine ev_topi (xs (i + 2)) (by rw [nI_clamp (by omega)]) ?_
  refine ev_aload_3 1056 d_lw_law_1056 ?_
  refine ev_callSW (mc := 2) (ms := 9) 1057 [.ref (am 0), .int (xs (i + 1)), .int (xs (i + 2)), .ref oq] [] d_lw_law_1057 hZ ks_back ⟨rfl, rfl, ⟨by decide, by decide⟩, Nat.le_trans (Nat.add_le_add_left (by decide) _) hc, Nat.le_trans (Nat.add_le_add_left (by decide) _) hs⟩ (mt_frame hZ (hw_back hZ hnc (xs (i + 1)) (xs (i + 2)) hK hM (fun r w hq => (hJ.1 r w hq).imp (fun _ h => h.1)) (fun E w hx => (hJ.2 E w hx).imp (fun _ h => h.1))) (mo_W mo_ci bm (ks 0) (ks 1) F B)) (fun r w hw => ?_)
  obtain ⟨w2, rfl, hw⟩ := hw
  refine ev_wd (k := cells + 32) (n := slots + 512) (Nat.add_le_add_left (by decide) _) (Nat.add_le_add_left (by decide) _) ?_
  obtain ⟨kc, w1, o', rfl, rfl, hP⟩ := lw_join Int32.toInt64 cdu_back hJ hw
  refine ev_eq (st' := [.int kc]) ?_
  refine ev_istore_5 1060 d_lw_law_1060 ?_ (hn := by exact Nat.le_of_ble_eq_true rfl)
  refine ev_swap ?_
  refine ev_aload_2 1062 d_lw_law_1062 ?_
  refine ev_aload_0 1063 d_lw_law_1063 ?_
  refine ev_iload_4 1064 d_lw_law_1064 ?_
  refine ev_iconst_1 1066 d_lw_law_1066 ?_
  refine ev_iadd 1067 d_lw_law_1067 ?_
  refine ev_topi (nI (i + 1)) (nI_add i 1) ?_
  refine ev_sld 1068 d_lw_law_1068 hzs (vp_in_nI (by omega) (by omega)) ?_
  refine ev_topi (xs (i + 1)) (by rw [nI_clamp (by omega)]) ?_
  refine ev_aload_0 1069 d_lw_law_1069 ?_
  refine ev_iload_4 1070 d_lw_law_1070 ?_
  refine ev_iconst_2 1072 d_lw_law_1072 ?_
  refine ev_iadd 1073 d_lw_law_1073 ?_
  refine ev_topi (nI (i + 2)) (nI_add i 2) ?_
  refine ev_sld 1074 d_lw_law_1074 hzs (vp_in_nI (by omega) (by omega)) ?_
  refine ev_topi (xs (i + 2)) (by rw [nI_clamp (by omega)]) ?_
  refine ev_callV (mc := 0) (ms := 0) (ci := 9) 1075 0 [.int (xs (i + 1)), .int (xs (i + 2))] [] d_lw_law_1075 hZ km_back (kM9 hc hs (by decide)) (at_l mo_at0) rfl (mt_frame hZ hMo (w1 ++ [lw_o ks oq o'])) (fun r w hw => ?_)
  obtain ⟨w3, rfl, x, F1, B1, rfl, rfl, hp⟩ := hw
  obtain ⟨g0, g1, g2⟩ := hP x F1 B1 hp
  refine ev_eq (st' := [.int x]) ?_
  refine ev_istore_6 1078 d_lw_law_1078 ?_ (hn := by exact Nat.le_of_ble_eq_true rfl)
  refine ev_aload_2 1080 d_lw_law_1080 ?_
  refine ev_callV (mc := 0) (ms := 0) (ci := 9) 1081 0 [] [] d_lw_law_1081 hZ km_thrown (kM9 hc hs (by decide)) (at_l mo_at0) rfl (mt_frame hZ (mt_thrown hZ) (w1 ++ [lw_o ks oq o'])) (fun r w hw => ?_)
  obtain ⟨w3, rfl, x9, F9, B9, rfl, rfl, rfl, e9, f9⟩ := hw
  subst e9
  subst f9
  refine ev_eq (st' := [.int (F9 0)]) ?_
  refine ev_iload_5 1084 d_lw_law_1084 ?_
  refine ev_icmpeq 1086 1091 d_lw_law_1086 (fun _ => ?_) (fun c9 => absurd g0 c9)
  refine ev_iload_5 1091 d_lw_law_1091 ?_
  refine ev_ifne 1093 1108 d_lw_law_1093 (fun _ => ?_) (fun c0 => ?_)
  · refine ev_goto 1108 1450 d_lw_law_1108 ?_
    exact (lw_end kk (Nat.le_refl _) (Nat.le_refl _) g2)
  · refine ev_aload_3 1096 d_lw_law_1096 ?_
    refine ev_iconst_0 1097 d_lw_law_1097 ?_
    refine ev_lald 1098 ((mo_W mo_ci bm (ks 0) (ks 1) F9 B9).length + w1.length) 2 d_lw_law_1098 at_e2 rfl (show vp_in (nI 0) 1 from vp_in_nI (by decide) (by decide)) ?_
    refine ev_iload_6 1099 d_lw_law_1099 ?_
    refine ev_i2l 1101 d_lw_law_1101 ?_
    refine ev_lcmp 1102 d_lw_law_1102 ?_
    refine ev_ifeq 1103 1108 d_lw_law_1103 (fun _ => ?_) (fun c9 => absurd (by rw [show o' (0 : Int32).toNatClampNeg = x.toInt64 from g1 c0]; exact lg_self _) c9)
    refine ev_goto 1108 1450 d_lw_law_1108 ?_
    exact (lw_end kk (Nat.le_refl _) (Nat.le_refl _) g2)
set_option maxHeartbeats 4000000 in
set_option maxRecDepth 100000 in
theorem lc_trap {l : Launch} {D : va_G} {tl : List (ClassId × FieldType)} {Z : (Nat → Prop) → State → Heap → Prop} {ks : Nat → ClassId} {hd : Nat → Nat} {ta tz b L : Nat} {xs : Nat → Int32} {E : ev_T} {cells slots n i : Nat} {K : List Nat} {am N : Nat → Nat} {S : gS} {F : Nat → Int32} {B : Nat → Nat → Int32} {bm : Nat → Nat} {oq : Nat} {o : Nat → Int64} (H : lw_H l Z hd ta tz b L xs) (hL : L ≤ 3072) (hn : n < 1000) (hi : i + 5 < L) (hc : cells + 32 ≤ 601024) (hs : slots + 512 ≤ 7293034) (hR : RX hd n K am N S F B) (kk : lw_K l D tl Z ks hd E b (am 0) bm oq i (cells + 32) (slots + 512) n) : EV (hc_π l D ks tl Z) lw_M E cells slots 1111 (lw_lv b (am 0) (bm 60) oq i) [] (lw_Wd K am ks N S oq o bm F B) := by
  obtain ⟨hl, hzx, hZ, hNw, hAO, hST, hZ9, hDi, hnc, hzs⟩ := H
  have hK := hR.k0
  obtain ⟨Q, X, P, hM, hMo, hJ⟩ := jn_trap (k := 21) (bm := bm) (ks := ks) (tl := tl) (D := D) hl hzx hZ hNw hAO ta tz hST hZ9 hDi (by decide) hn hR 
  refine ev_eq (ws' := gw K am ks N S ++ ([lw_o ks oq o] ++ mo_W mo_ci bm (ks 0) (ks 1) F B)) ?_ (h3 := List.append_assoc _ _ _)
  refine ev_aload_1 1111 d_lw_law_1111 ?_
  refine ev_callSW (mc := 1) (ms := 6) 1112 [.ref (am 0)] [] d_lw_law_1112 hZ ks_trap ⟨rfl, rfl, ⟨by decide, by decide⟩, Nat.le_trans (Nat.add_le_add_left (by decide) _) hc, Nat.le_trans (Nat.add_le_add_left (by decide) _) hs⟩ (mt_frame hZ (hw_trap hZ hnc  hK hM (fun r w hq => (hJ.1 r w hq).1) (fun E w hx => (hJ.2 E w hx).imp (fun _ h => h.1))) ([lw_o ks oq o] ++ mo_W mo_ci bm (ks 0) (ks 1) F B)) (fun r w hw => ?_)
  obtain ⟨w2, rfl, hw⟩ := hw
  refine ev_wd (k := cells + 32) (n := slots + 512) (Nat.add_le_add_left (by decide) _) (Nat.add_le_add_left (by decide) _) ?_
  obtain ⟨kc, rfl, hP⟩ := lw_joinV cdu_trap hJ hw
  refine ev_eq (st' := [.int kc]) (ws' := (w2 ++ [lw_o ks oq o]) ++ mo_W mo_ci bm (ks 0) (ks 1) F B) ?_ (h3 := (List.append_assoc _ _ _).symm)
  refine ev_istore_5 1115 d_lw_law_1115 ?_ (hn := by exact Nat.le_of_ble_eq_true rfl)
  refine ev_swap ?_
  refine ev_aload_2 1117 d_lw_law_1117 ?_
  refine ev_callV (mc := 0) (ms := 0) (ci := 9) 1118 0 [] [] d_lw_law_1118 hZ km_trap (kM9 hc hs (by decide)) (at_l mo_at0) rfl (mt_frame hZ hMo (w2 ++ [lw_o ks oq o])) (fun r w hw => ?_)
  obtain ⟨w3, rfl, F1, B1, rfl, rfl, hp⟩ := hw
  obtain ⟨g0, g2⟩ := hP F1 B1 hp
  refine ev_eq (st' := []) ?_
  refine ev_aload_2 1121 d_lw_law_1121 ?_
  refine ev_callV (mc := 0) (ms := 0) (ci := 9) 1122 0 [] [] d_lw_law_1122 hZ km_thrown (kM9 hc hs (by decide)) (at_l mo_at0) rfl (mt_frame hZ (mt_thrown hZ) (w2 ++ [lw_o ks oq o])) (fun r w hw => ?_)
  obtain ⟨w3, rfl, x9, F9, B9, rfl, rfl, rfl, e9, f9⟩ := hw
  subst e9
  subst f9
  refine ev_eq (st' := [.int (F9 0)]) ?_
  refine ev_iload_5 1125 d_lw_law_1125 ?_
  refine ev_icmpeq 1127 1132 d_lw_law_1127 (fun _ => ?_) (fun c9 => absurd g0 c9)
  refine ev_goto 1132 1450 d_lw_law_1132 ?_
  exact (lw_end kk (Nat.le_refl _) (Nat.le_refl _) g2)
set_option maxHeartbeats 4000000 in
set_option maxRecDepth 100000 in
theorem lc_passed {l : Launch} {D : va_G} {tl : List (ClassId × FieldType)} {Z : (Nat → Prop) → State → Heap → Prop} {ks : Nat → ClassId} {hd : Nat → Nat} {ta tz b L : Nat} {xs : Nat → Int32} {E : ev_T} {cells slots n i : Nat} {K : List Nat} {am N : Nat → Nat} {S : gS} {F : Nat → Int32} {B : Nat → Nat → Int32} {bm : Nat → Nat} {oq : Nat} {o : Nat → Int64} (H : lw_H l Z hd ta tz b L xs) (hL : L ≤ 3072) (hn : n < 1000) (hi : i + 5 < L) (hc : cells + 32 ≤ 601024) (hs : slots + 512 ≤ 7293034) (hR : RX hd n K am N S F B) (kk : lw_K l D tl Z ks hd E b (am 0) bm oq i (cells + 32) (slots + 512) n) : EV (hc_π l D ks tl Z) lw_M E cells slots 1135 (lw_lv b (am 0) (bm 60) oq i) [] (lw_Wd K am ks N S oq o bm F B) := by
  obtain ⟨hl, hzx, hZ, hNw, hAO, hST, hZ9, hDi, hnc, hzs⟩ := H
  have hK := hR.k0
  obtain ⟨y, hM, hMo⟩ := jp_passed (bm := bm) (ks := ks) (tl := tl) (D := D) (l := l) hZ hR
  refine ev_eq (ws' := gw K am ks N S ++ ([lw_o ks oq o] ++ mo_W mo_ci bm (ks 0) (ks 1) F B)) ?_ (h3 := List.append_assoc _ _ _)
  refine ev_aload_1 1135 d_lw_law_1135 ?_
  refine ev_callV (mc := 0) (ms := 0) (ci := 0) 1136 (K.idxOf 0) [] [] d_lw_law_1136 hZ kw_passed ⟨rfl, rfl, ⟨by decide, by decide⟩, Nat.le_trans (Nat.add_le_add_left (by decide) _) hc, Nat.le_trans (Nat.add_le_add_left (by decide) _) hs⟩ (at_l (gw_at0 hK)) rfl (mt_frame hZ hM ([lw_o ks oq o] ++ mo_W mo_ci bm (ks 0) (ks 1) F B)) (fun r w hw => ?_)
  obtain ⟨w2, rfl, rfl, rfl⟩ := hw
  refine ev_eq (st' := [.int y]) (ws' := (gw K am ks N S ++ [lw_o ks oq o]) ++ mo_W mo_ci bm (ks 0) (ks 1) F B) ?_ (h3 := (List.append_assoc _ _ _).symm)
  refine ev_swap ?_
  refine ev_aload_2 1139 d_lw_law_1139 ?_
  refine ev_callV (mc := 0) (ms := 0) (ci := 9) 1140 0 [] [.int y] d_lw_law_1140 hZ km_passed (kM9 (Nat.le_trans (Nat.le_add_right _ _) hc) (Nat.le_trans (Nat.le_add_right _ _) hs) (by decide)) (at_l mo_at0) rfl (mt_frame hZ hMo (gw K am ks N S ++ [lw_o ks oq o])) (fun r w hw => ?_)
  obtain ⟨w3, rfl, x, F1, B1, rfl, rfl, e, hR1⟩ := hw
  subst e
  refine ev_eq (st' := [.int x, .int x]) ?_
  refine ev_icmpeq 1143 1450 d_lw_law_1143 (fun _ => ?_) (fun c9 => absurd rfl c9)
  exact lw_end kk (Nat.le_add_right _ _) (Nat.le_add_right _ _) ⟨K, am, N, S, rfl, rfl, hR1⟩
set_option maxHeartbeats 4000000 in
set_option maxRecDepth 100000 in
theorem lc_depth {l : Launch} {D : va_G} {tl : List (ClassId × FieldType)} {Z : (Nat → Prop) → State → Heap → Prop} {ks : Nat → ClassId} {hd : Nat → Nat} {ta tz b L : Nat} {xs : Nat → Int32} {E : ev_T} {cells slots n i : Nat} {K : List Nat} {am N : Nat → Nat} {S : gS} {F : Nat → Int32} {B : Nat → Nat → Int32} {bm : Nat → Nat} {oq : Nat} {o : Nat → Int64} (H : lw_H l Z hd ta tz b L xs) (hL : L ≤ 3072) (hn : n < 1000) (hi : i + 5 < L) (hc : cells + 32 ≤ 601024) (hs : slots + 512 ≤ 7293034) (hR : RX hd n K am N S F B) (kk : lw_K l D tl Z ks hd E b (am 0) bm oq i (cells + 32) (slots + 512) n) : EV (hc_π l D ks tl Z) lw_M E cells slots 1148 (lw_lv b (am 0) (bm 60) oq i) [] (lw_Wd K am ks N S oq o bm F B) := by
  obtain ⟨hl, hzx, hZ, hNw, hAO, hST, hZ9, hDi, hnc, hzs⟩ := H
  have hK := hR.k0
  obtain ⟨y, hM, hMo⟩ := jp_depth (bm := bm) (ks := ks) (tl := tl) (D := D) (l := l) hZ hR
  refine ev_eq (ws' := gw K am ks N S ++ ([lw_o ks oq o] ++ mo_W mo_ci bm (ks 0) (ks 1) F B)) ?_ (h3 := List.append_assoc _ _ _)
  refine ev_aload_1 1148 d_lw_law_1148 ?_
  refine ev_callV (mc := 0) (ms := 0) (ci := 0) 1149 (K.idxOf 0) [] [] d_lw_law_1149 hZ kw_depth ⟨rfl, rfl, ⟨by decide, by decide⟩, Nat.le_trans (Nat.add_le_add_left (by decide) _) hc, Nat.le_trans (Nat.add_le_add_left (by decide) _) hs⟩ (at_l (gw_at0 hK)) rfl (mt_frame hZ hM ([lw_o ks oq o] ++ mo_W mo_ci bm (ks 0) (ks 1) F B)) (fun r w hw => ?_)
  obtain ⟨w2, rfl, rfl, rfl⟩ := hw
  refine ev_eq (st' := [.int y]) (ws' := (gw K am ks N S ++ [lw_o ks oq o]) ++ mo_W mo_ci bm (ks 0) (ks 1) F B) ?_ (h3 := (List.append_assoc _ _ _).symm)
  refine ev_swap ?_
  refine ev_aload_2 1152 d_lw_law_1152 ?_
  refine ev_callV (mc := 0) (ms := 0) (ci := 9) 1153 0 [] [.int y] d_lw_law_1153 hZ km_depth (kM9 (Nat.le_trans (Nat.le_add_right _ _) hc) (Nat.le_trans (Nat.le_add_right _ _) hs) (by decide)) (at_l mo_at0) rfl (mt_frame hZ hMo (gw K am ks N S ++ [lw_o ks oq o])) (fun r w hw => ?_)
  obtain ⟨w3, rfl, x, F1, B1, rfl, rfl, e, hR1⟩ := hw
  subst e
  refine ev_eq (st' := [.int x, .int x]) ?_
  refine ev_icmpeq 1156 1450 d_lw_law_1156 (fun _ => ?_) (fun c9 => absurd rfl c9)
  exact lw_end kk (Nat.le_add_right _ _) (Nat.le_add_right _ _) ⟨K, am, N, S, rfl, rfl, hR1⟩
set_option maxHeartbeats 4000000 in
set_option maxRecDepth 100000 in
theorem lc_level {l : Launch} {D : va_G} {tl : List (ClassId × FieldType)} {Z : (Nat → Prop) → State → Heap → Prop} {ks : Nat → ClassId} {hd : Nat → Nat} {ta tz b L : Nat} {xs : Nat → Int32} {E : ev_T} {cells slots n i : Nat} {K : List Nat} {am N : Nat → Nat} {S : gS} {F : Nat → Int32} {B : Nat → Nat → Int32} {bm : Nat → Nat} {oq : Nat} {o : Nat → Int64} (H : lw_H l Z hd ta tz b L xs) (hL : L ≤ 3072) (hn : n < 1000) (hi : i + 5 < L) (hc : cells + 32 ≤ 601024) (hs : slots + 512 ≤ 7293034) (hR : RX hd n K am N S F B) (kk : lw_K l D tl Z ks hd E b (am 0) bm oq i (cells + 32) (slots + 512) n) : EV (hc_π l D ks tl Z) lw_M E cells slots 1161 (lw_lv b (am 0) (bm 60) oq i) [] (lw_Wd K am ks N S oq o bm F B) := by
  obtain ⟨hl, hzx, hZ, hNw, hAO, hST, hZ9, hDi, hnc, hzs⟩ := H
  have hK := hR.k0
  obtain ⟨y, hM, hMo⟩ := jp_level (bm := bm) (ks := ks) (tl := tl) (D := D) (l := l) hZ hR (xs (i + 1))
  refine ev_eq (ws' := gw K am ks N S ++ ([lw_o ks oq o] ++ mo_W mo_ci bm (ks 0) (ks 1) F B)) ?_ (h3 := List.append_assoc _ _ _)
  refine ev_aload_1 1161 d_lw_law_1161 ?_
  refine ev_aload_0 1162 d_lw_law_1162 ?_
  refine ev_iload_4 1163 d_lw_law_1163 ?_
  refine ev_iconst_1 1165 d_lw_law_1165 ?_
  refine ev_iadd 1166 d_lw_law_1166 ?_
  refine ev_topi (nI (i + 1)) (nI_add i 1) ?_
  refine ev_sld 1167 d_lw_law_1167 hzs (vp_in_nI (by omega) (by omega)) ?_
  refine ev_topi (xs (i + 1)) (by rw [nI_clamp (by omega)]) ?_
  refine ev_callV (mc := 0) (ms := 0) (ci := 0) 1168 (K.idxOf 0) [.int (xs (i + 1))] [] d_lw_law_1168 hZ kw_level ⟨rfl, rfl, ⟨by decide, by decide⟩, Nat.le_trans (Nat.add_le_add_left (by decide) _) hc, Nat.le_trans (Nat.add_le_add_left (by decide) _) hs⟩ (at_l (gw_at0 hK)) rfl (mt_frame hZ hM ([lw_o ks oq o] ++ mo_W mo_ci bm (ks 0) (ks 1) F B)) (fun r w hw => ?_)
  obtain ⟨w2, rfl, rfl, rfl⟩ := hw
  refine ev_eq (st' := [.int y]) (ws' := (gw K am ks N S ++ [lw_o ks oq o]) ++ mo_W mo_ci bm (ks 0) (ks 1) F B) ?_ (h3 := (List.append_assoc _ _ _).symm)
  refine ev_swap ?_
  refine ev_aload_2 1171 d_lw_law_1171 ?_
  refine ev_aload_0 1172 d_lw_law_1172 ?_
  refine ev_iload_4 1173 d_lw_law_1173 ?_
  refine ev_iconst_1 1175 d_lw_law_1175 ?_
  refine ev_iadd 1176 d_lw_law_1176 ?_
  refine ev_topi (nI (i + 1)) (nI_add i 1) ?_
  refine ev_sld 1177 d_lw_law_1177 hzs (vp_in_nI (by omega) (by omega)) ?_
  refine ev_topi (xs (i + 1)) (by rw [nI_clamp (by omega)]) ?_
  refine ev_callV (mc := 0) (ms := 0) (ci := 9) 1178 0 [.int (xs (i + 1))] [.int y] d_lw_law_1178 hZ km_level (kM9 (Nat.le_trans (Nat.le_add_right _ _) hc) (Nat.le_trans (Nat.le_add_right _ _) hs) (by decide)) (at_l mo_at0) rfl (mt_frame hZ hMo (gw K am ks N S ++ [lw_o ks oq o])) (fun r w hw => ?_)
  obtain ⟨w3, rfl, x, F1, B1, rfl, rfl, e, hR1⟩ := hw
  subst e
  refine ev_eq (st' := [.int x, .int x]) ?_
  refine ev_icmpeq 1181 1450 d_lw_law_1181 (fun _ => ?_) (fun c9 => absurd rfl c9)
  exact lw_end kk (Nat.le_add_right _ _) (Nat.le_add_right _ _) ⟨K, am, N, S, rfl, rfl, hR1⟩
set_option maxHeartbeats 4000000 in
set_option maxRecDepth 100000 in
theorem lc_state {l : Launch} {D : va_G} {tl : List (ClassId × FieldType)} {Z : (Nat → Prop) → State → Heap → Prop} {ks : Nat → ClassId} {hd : Nat → Nat} {ta tz b L : Nat} {xs : Nat → Int32} {E : ev_T} {cells slots n i : Nat} {K : List Nat} {am N : Nat → Nat} {S : gS} {F : Nat → Int32} {B : Nat → Nat → Int32} {bm : Nat → Nat} {oq : Nat} {o : Nat → Int64} (H : lw_H l Z hd ta tz b L xs) (hL : L ≤ 3072) (hn : n < 1000) (hi : i + 5 < L) (hc : cells + 32 ≤ 601024) (hs : slots + 512 ≤ 7293034) (hR : RX hd n K am N S F B) (kk : lw_K l D tl Z ks hd E b (am 0) bm oq i (cells + 32) (slots + 512) n) : EV (hc_π l D ks tl Z) lw_M E cells slots 1186 (lw_lv b (am 0) (bm 60) oq i) [] (lw_Wd K am ks N S oq o bm F B) := by
  obtain ⟨hl, hzx, hZ, hNw, hAO, hST, hZ9, hDi, hnc, hzs⟩ := H
  have hK := hR.k0
  obtain ⟨Q, X, P, hM, hMo, hJ⟩ := jn_state (k := 21) (bm := bm) (ks := ks) (tl := tl) (D := D) hl hzx hZ hNw hAO ta tz hST hZ9 hDi (by decide) hn hR (xs (i + 1)) (xs (i + 2))
  refine ev_aload_1 1186 d_lw_law_1186 ?_
  refine ev_aload_0 1187 d_lw_law_1187 ?_
  refine ev_iload_4 1188 d_lw_law_1188 ?_
  refine ev_iconst_1 1190 d_lw_law_1190 ?_
  refine ev_iadd 1191 d_lw_law_1191 ?_
  refine ev_topi (nI (i + 1)) (nI_add i 1) ?_
  refine ev_sld 1192 d_lw_law_1192 hzs (vp_in_nI (by omega) (by omega)) ?_
  refine ev_topi (xs (i + 1)) (by rw [nI_clamp (by omega)]) ?_
  refine ev_aload_0 1193 d_lw_law_1193 ?_
  refine ev_iload_4 1194 d_lw_law_1194 ?_
  refine ev_iconst_2 1196 d_lw_law_1196 ?_
  refine ev_iadd 1197 d_lw_law_1197 ?_
  refine ev_topi (nI (i + 2)) (nI_add i 2) ?_
  refine ev_sld 1198 d_lw_law_1198 hzs (vp_in_nI (by omega) (by omega)) ?_
  refine ev_topi (xs (i + 2)) (by rw [nI_clamp (by omega)]) ?_
  refine ev_aload_3 1199 d_lw_law_1199 ?_
  refine ev_callSW (mc := 1) (ms := 6) 1200 [.ref (am 0), .int (xs (i + 1)), .int (xs (i + 2)), .ref oq] [] d_lw_law_1200 hZ ks_state ⟨rfl, rfl, ⟨by decide, by decide⟩, Nat.le_trans (Nat.add_le_add_left (by decide) _) hc, Nat.le_trans (Nat.add_le_add_left (by decide) _) hs⟩ (mt_frame hZ (hw_state hZ hnc (xs (i + 1)) (xs (i + 2)) hK hM (fun r w hq => (hJ.1 r w hq).imp (fun _ h => h.1)) (fun E w hx => (hJ.2 E w hx).imp (fun _ h => h.1))) (mo_W mo_ci bm (ks 0) (ks 1) F B)) (fun r w hw => ?_)
  obtain ⟨w2, rfl, hw⟩ := hw
  refine ev_wd (k := cells + 32) (n := slots + 512) (Nat.add_le_add_left (by decide) _) (Nat.add_le_add_left (by decide) _) ?_
  obtain ⟨kc, w1, o', rfl, rfl, hP⟩ := lw_join Int32.toInt64 cdu_state hJ hw
  refine ev_eq (st' := [.int kc]) ?_
  refine ev_istore_5 1203 d_lw_law_1203 ?_ (hn := by exact Nat.le_of_ble_eq_true rfl)
  refine ev_swap ?_
  refine ev_aload_2 1205 d_lw_law_1205 ?_
  refine ev_aload_0 1206 d_lw_law_1206 ?_
  refine ev_iload_4 1207 d_lw_law_1207 ?_
  refine ev_iconst_1 1209 d_lw_law_1209 ?_
  refine ev_iadd 1210 d_lw_law_1210 ?_
  refine ev_topi (nI (i + 1)) (nI_add i 1) ?_
  refine ev_sld 1211 d_lw_law_1211 hzs (vp_in_nI (by omega) (by omega)) ?_
  refine ev_topi (xs (i + 1)) (by rw [nI_clamp (by omega)]) ?_
  refine ev_aload_0 1212 d_lw_law_1212 ?_
  refine ev_iload_4 1213 d_lw_law_1213 ?_
  refine ev_iconst_2 1215 d_lw_law_1215 ?_
  refine ev_iadd 1216 d_lw_law_1216 ?_
  refine ev_topi (nI (i + 2)) (nI_add i 2) ?_
  refine ev_sld 1217 d_lw_law_1217 hzs (vp_in_nI (by omega) (by omega)) ?_
  refine ev_topi (xs (i + 2)) (by rw [nI_clamp (by omega)]) ?_
  refine ev_callV (mc := 0) (ms := 0) (ci := 9) 1218 0 [.int (xs (i + 1)), .int (xs (i + 2))] [] d_lw_law_1218 hZ km_state (kM9 hc hs (by decide)) (at_l mo_at0) rfl (mt_frame hZ hMo (w1 ++ [lw_o ks oq o'])) (fun r w hw => ?_)
  obtain ⟨w3, rfl, x, F1, B1, rfl, rfl, hp⟩ := hw
  obtain ⟨g0, g1, g2⟩ := hP x F1 B1 hp
  refine ev_eq (st' := [.int x]) ?_
  refine ev_istore_6 1221 d_lw_law_1221 ?_ (hn := by exact Nat.le_of_ble_eq_true rfl)
  refine ev_aload_2 1223 d_lw_law_1223 ?_
  refine ev_callV (mc := 0) (ms := 0) (ci := 9) 1224 0 [] [] d_lw_law_1224 hZ km_thrown (kM9 hc hs (by decide)) (at_l mo_at0) rfl (mt_frame hZ (mt_thrown hZ) (w1 ++ [lw_o ks oq o'])) (fun r w hw => ?_)
  obtain ⟨w3, rfl, x9, F9, B9, rfl, rfl, rfl, e9, f9⟩ := hw
  subst e9
  subst f9
  refine ev_eq (st' := [.int (F9 0)]) ?_
  refine ev_iload_5 1227 d_lw_law_1227 ?_
  refine ev_icmpeq 1229 1234 d_lw_law_1229 (fun _ => ?_) (fun c9 => absurd g0 c9)
  refine ev_iload_5 1234 d_lw_law_1234 ?_
  refine ev_ifne 1236 1251 d_lw_law_1236 (fun _ => ?_) (fun c0 => ?_)
  · refine ev_goto 1251 1450 d_lw_law_1251 ?_
    exact (lw_end kk (Nat.le_refl _) (Nat.le_refl _) g2)
  · refine ev_aload_3 1239 d_lw_law_1239 ?_
    refine ev_iconst_0 1240 d_lw_law_1240 ?_
    refine ev_lald 1241 ((mo_W mo_ci bm (ks 0) (ks 1) F9 B9).length + w1.length) 2 d_lw_law_1241 at_e2 rfl (show vp_in (nI 0) 1 from vp_in_nI (by decide) (by decide)) ?_
    refine ev_iload_6 1242 d_lw_law_1242 ?_
    refine ev_i2l 1244 d_lw_law_1244 ?_
    refine ev_lcmp 1245 d_lw_law_1245 ?_
    refine ev_ifeq 1246 1251 d_lw_law_1246 (fun _ => ?_) (fun c9 => absurd (by rw [show o' (0 : Int32).toNatClampNeg = x.toInt64 from g1 c0]; exact lg_self _) c9)
    refine ev_goto 1251 1450 d_lw_law_1251 ?_
    exact (lw_end kk (Nat.le_refl _) (Nat.le_refl _) g2)
set_option maxHeartbeats 4000000 in
set_option maxRecDepth 100000 in
theorem lc_close {l : Launch} {D : va_G} {tl : List (ClassId × FieldType)} {Z : (Nat → Prop) → State → Heap → Prop} {ks : Nat → ClassId} {hd : Nat → Nat} {ta tz b L : Nat} {xs : Nat → Int32} {E : ev_T} {cells slots n i : Nat} {K : List Nat} {am N : Nat → Nat} {S : gS} {F : Nat → Int32} {B : Nat → Nat → Int32} {bm : Nat → Nat} {oq : Nat} {o : Nat → Int64} (H : lw_H l Z hd ta tz b L xs) (hL : L ≤ 3072) (hn : n < 1000) (hi : i + 5 < L) (hc : cells + 32 ≤ 601024) (hs : slots + 512 ≤ 7293034) (hR : RX hd n K am N S F B) (kk : lw_K l D tl Z ks hd E b (am 0) bm oq i (cells + 32) (slots + 512) n) : EV (hc_π l D ks tl Z) lw_M E cells slots 1254 (lw_lv b (am 0) (bm 60) oq i) [] (lw_Wd K am ks N S oq o bm F B) := by
  obtain ⟨hl, hzx, hZ, hNw, hAO, hST, hZ9, hDi, hnc, hzs⟩ := H
  have hK := hR.k0
  obtain ⟨Q, X, P, hM, hMo, hJ⟩ := jn_close (k := 21) (bm := bm) (ks := ks) (tl := tl) (D := D) hl hzx hZ hNw hAO ta tz hST hZ9 hDi (by decide) hn hR (xs (i + 1))
  refine ev_aload_1 1254 d_lw_law_1254 ?_
  refine ev_aload_0 1255 d_lw_law_1255 ?_
  refine ev_iload_4 1256 d_lw_law_1256 ?_
  refine ev_iconst_1 1258 d_lw_law_1258 ?_
  refine ev_iadd 1259 d_lw_law_1259 ?_
  refine ev_topi (nI (i + 1)) (nI_add i 1) ?_
  refine ev_sld 1260 d_lw_law_1260 hzs (vp_in_nI (by omega) (by omega)) ?_
  refine ev_topi (xs (i + 1)) (by rw [nI_clamp (by omega)]) ?_
  refine ev_aload_3 1261 d_lw_law_1261 ?_
  refine ev_callSW (mc := 1) (ms := 6) 1262 [.ref (am 0), .int (xs (i + 1)), .ref oq] [] d_lw_law_1262 hZ ks_close ⟨rfl, rfl, ⟨by decide, by decide⟩, Nat.le_trans (Nat.add_le_add_left (by decide) _) hc, Nat.le_trans (Nat.add_le_add_left (by decide) _) hs⟩ (mt_frame hZ (hw_close hZ hnc (xs (i + 1)) hK hM (fun r w hq => (hJ.1 r w hq).imp (fun _ h => h.1)) (fun E w hx => (hJ.2 E w hx).imp (fun _ h => h.1))) (mo_W mo_ci bm (ks 0) (ks 1) F B)) (fun r w hw => ?_)
  obtain ⟨w2, rfl, hw⟩ := hw
  refine ev_wd (k := cells + 32) (n := slots + 512) (Nat.add_le_add_left (by decide) _) (Nat.add_le_add_left (by decide) _) ?_
  obtain ⟨kc, w1, o', rfl, rfl, hP⟩ := lw_join Int32.toInt64 cdu_close hJ hw
  refine ev_eq (st' := [.int kc]) ?_
  refine ev_istore_5 1265 d_lw_law_1265 ?_ (hn := by exact Nat.le_of_ble_eq_true rfl)
  refine ev_swap ?_
  refine ev_aload_2 1267 d_lw_law_1267 ?_
  refine ev_aload_0 1268 d_lw_law_1268 ?_
  refine ev_iload_4 1269 d_lw_law_1269 ?_
  refine ev_iconst_1 1271 d_lw_law_1271 ?_
  refine ev_iadd 1272 d_lw_law_1272 ?_
  refine ev_topi (nI (i + 1)) (nI_add i 1) ?_
  refine ev_sld 1273 d_lw_law_1273 hzs (vp_in_nI (by omega) (by omega)) ?_
  refine ev_topi (xs (i + 1)) (by rw [nI_clamp (by omega)]) ?_
  refine ev_callV (mc := 0) (ms := 0) (ci := 9) 1274 0 [.int (xs (i + 1))] [] d_lw_law_1274 hZ km_close (kM9 hc hs (by decide)) (at_l mo_at0) rfl (mt_frame hZ hMo (w1 ++ [lw_o ks oq o'])) (fun r w hw => ?_)
  obtain ⟨w3, rfl, x, F1, B1, rfl, rfl, hp⟩ := hw
  obtain ⟨g0, g1, g2⟩ := hP x F1 B1 hp
  refine ev_eq (st' := [.int x]) ?_
  refine ev_istore_6 1277 d_lw_law_1277 ?_ (hn := by exact Nat.le_of_ble_eq_true rfl)
  refine ev_aload_2 1279 d_lw_law_1279 ?_
  refine ev_callV (mc := 0) (ms := 0) (ci := 9) 1280 0 [] [] d_lw_law_1280 hZ km_thrown (kM9 hc hs (by decide)) (at_l mo_at0) rfl (mt_frame hZ (mt_thrown hZ) (w1 ++ [lw_o ks oq o'])) (fun r w hw => ?_)
  obtain ⟨w3, rfl, x9, F9, B9, rfl, rfl, rfl, e9, f9⟩ := hw
  subst e9
  subst f9
  refine ev_eq (st' := [.int (F9 0)]) ?_
  refine ev_iload_5 1283 d_lw_law_1283 ?_
  refine ev_icmpeq 1285 1290 d_lw_law_1285 (fun _ => ?_) (fun c9 => absurd g0 c9)
  refine ev_iload_5 1290 d_lw_law_1290 ?_
  refine ev_ifne 1292 1307 d_lw_law_1292 (fun _ => ?_) (fun c0 => ?_)
  · refine ev_goto 1307 1450 d_lw_law_1307 ?_
    exact (lw_end kk (Nat.le_refl _) (Nat.le_refl _) g2)
  · refine ev_aload_3 1295 d_lw_law_1295 ?_
    refine ev_iconst_0 1296 d_lw_law_1296 ?_
    refine ev_lald 1297 ((mo_W mo_ci bm (ks 0) (ks 1) F9 B9).length + w1.length) 2 d_lw_law_1297 at_e2 rfl (show vp_in (nI 0) 1 from vp_in_nI (by decide) (by decide)) ?_
    refine ev_iload_6 1298 d_lw_law_1298 ?_
    refine ev_i2l 1300 d_lw_law_1300 ?_
    refine ev_lcmp 1301 d_lw_law_1301 ?_
    refine ev_ifeq 1302 1307 d_lw_law_1302 (fun _ => ?_) (fun c9 => absurd (by rw [show o' (0 : Int32).toNatClampNeg = x.toInt64 from g1 c0]; exact lg_self _) c9)
    refine ev_goto 1307 1450 d_lw_law_1307 ?_
    exact (lw_end kk (Nat.le_refl _) (Nat.le_refl _) g2)
set_option maxHeartbeats 4000000 in
set_option maxRecDepth 100000 in
theorem lc_resources {l : Launch} {D : va_G} {tl : List (ClassId × FieldType)} {Z : (Nat → Prop) → State → Heap → Prop} {ks : Nat → ClassId} {hd : Nat → Nat} {ta tz b L : Nat} {xs : Nat → Int32} {E : ev_T} {cells slots n i : Nat} {K : List Nat} {am N : Nat → Nat} {S : gS} {F : Nat → Int32} {B : Nat → Nat → Int32} {bm : Nat → Nat} {oq : Nat} {o : Nat → Int64} (H : lw_H l Z hd ta tz b L xs) (hL : L ≤ 3072) (hn : n < 1000) (hi : i + 5 < L) (hc : cells + 32 ≤ 601024) (hs : slots + 512 ≤ 7293034) (hR : RX hd n K am N S F B) (kk : lw_K l D tl Z ks hd E b (am 0) bm oq i (cells + 32) (slots + 512) n) : EV (hc_π l D ks tl Z) lw_M E cells slots 1310 (lw_lv b (am 0) (bm 60) oq i) [] (lw_Wd K am ks N S oq o bm F B) := by
  obtain ⟨hl, hzx, hZ, hNw, hAO, hST, hZ9, hDi, hnc, hzs⟩ := H
  have hK := hR.k0
  by_cases cz : xs (i + 2) = 0
  · obtain ⟨Q, X, P, hM, hMo, hJ⟩ := jn_resources (k := 21) (bm := bm) (ks := ks) (tl := tl) (D := D) hl hzx hZ hNw hAO ta tz hST hZ9 hDi (by decide) hn hR (xs (i + 1)) 0 (Or.inl rfl)
    refine ev_aload_1 1310 d_lw_law_1310 ?_
    refine ev_aload_0 1311 d_lw_law_1311 ?_
    refine ev_iload_4 1312 d_lw_law_1312 ?_
    refine ev_iconst_1 1314 d_lw_law_1314 ?_
    refine ev_iadd 1315 d_lw_law_1315 ?_
    refine ev_topi (nI (i + 1)) (nI_add i 1) ?_
    refine ev_sld 1316 d_lw_law_1316 hzs (vp_in_nI (by omega) (by omega)) ?_
    refine ev_topi (xs (i + 1)) (by rw [nI_clamp (by omega)]) ?_
    refine ev_aload_0 1317 d_lw_law_1317 ?_
    refine ev_iload_4 1318 d_lw_law_1318 ?_
    refine ev_iconst_2 1320 d_lw_law_1320 ?_
    refine ev_iadd 1321 d_lw_law_1321 ?_
    refine ev_topi (nI (i + 2)) (nI_add i 2) ?_
    refine ev_sld 1322 d_lw_law_1322 hzs (vp_in_nI (by omega) (by omega)) ?_
    refine ev_topi (xs (i + 2)) (by rw [nI_clamp (by omega)]) ?_
    refine ev_ifeq 1323 1330 d_lw_law_1323 (fun _ => ?_) (fun c9 => absurd cz c9)
    refine ev_iconst_0 1330 d_lw_law_1330 ?_
    refine ev_aload_3 1331 d_lw_law_1331 ?_
    refine ev_callSW (mc := 1) (ms := 6) 1332 [.ref (am 0), .int (xs (i + 1)), .int 0, .ref oq] [] d_lw_law_1332 hZ ks_resources ⟨rfl, rfl, ⟨by decide, by decide⟩, Nat.le_trans (Nat.add_le_add_left (by decide) _) hc, Nat.le_trans (Nat.add_le_add_left (by decide) _) hs⟩ (mt_frame hZ (hw_resources hZ hnc (xs (i + 1)) 0 hK hM (fun r w hq => (hJ.1 r w hq).imp (fun _ h => h.1)) (fun E w hx => (hJ.2 E w hx).imp (fun _ h => h.1))) (mo_W mo_ci bm (ks 0) (ks 1) F B)) (fun r w hw => ?_)
    obtain ⟨w2, rfl, hw⟩ := hw
    refine ev_wd (k := cells + 32) (n := slots + 512) (Nat.add_le_add_left (by decide) _) (Nat.add_le_add_left (by decide) _) ?_
    obtain ⟨kc, w1, o', rfl, rfl, hP⟩ := lw_join Int32.toInt64 cdu_resources hJ hw
    refine ev_eq (st' := [.int kc]) ?_
    refine ev_istore_5 1335 d_lw_law_1335 ?_ (hn := by exact Nat.le_of_ble_eq_true rfl)
    refine ev_swap ?_
    refine ev_aload_2 1337 d_lw_law_1337 ?_
    refine ev_aload_0 1338 d_lw_law_1338 ?_
    refine ev_iload_4 1339 d_lw_law_1339 ?_
    refine ev_iconst_1 1341 d_lw_law_1341 ?_
    refine ev_iadd 1342 d_lw_law_1342 ?_
    refine ev_topi (nI (i + 1)) (nI_add i 1) ?_
    refine ev_sld 1343 d_lw_law_1343 hzs (vp_in_nI (by omega) (by omega)) ?_
    refine ev_topi (xs (i + 1)) (by rw [nI_clamp (by omega)]) ?_
    refine ev_aload_0 1344 d_lw_law_1344 ?_
    refine ev_iload_4 1345 d_lw_law_1345 ?_
    refine ev_iconst_2 1347 d_lw_law_1347 ?_
    refine ev_iadd 1348 d_lw_law_1348 ?_
    refine ev_topi (nI (i + 2)) (nI_add i 2) ?_
    refine ev_sld 1349 d_lw_law_1349 hzs (vp_in_nI (by omega) (by omega)) ?_
    refine ev_topi (xs (i + 2)) (by rw [nI_clamp (by omega)]) ?_
    refine ev_ifeq 1350 1357 d_lw_law_1350 (fun _ => ?_) (fun c9 => absurd cz c9)
    refine ev_iconst_0 1357 d_lw_law_1357 ?_
    refine ev_callV (mc := 0) (ms := 0) (ci := 9) 1358 0 [.int (xs (i + 1)), .int 0] [] d_lw_law_1358 hZ km_resources (kM9 hc hs (by decide)) (at_l mo_at0) rfl (mt_frame hZ hMo (w1 ++ [lw_o ks oq o'])) (fun r w hw => ?_)
    obtain ⟨w3, rfl, x, F1, B1, rfl, rfl, hp⟩ := hw
    obtain ⟨g0, g1, g2⟩ := hP x F1 B1 hp
    refine ev_eq (st' := [.int x]) ?_
    refine ev_istore_6 1361 d_lw_law_1361 ?_ (hn := by exact Nat.le_of_ble_eq_true rfl)
    refine ev_aload_2 1363 d_lw_law_1363 ?_
    refine ev_callV (mc := 0) (ms := 0) (ci := 9) 1364 0 [] [] d_lw_law_1364 hZ km_thrown (kM9 hc hs (by decide)) (at_l mo_at0) rfl (mt_frame hZ (mt_thrown hZ) (w1 ++ [lw_o ks oq o'])) (fun r w hw => ?_)
    obtain ⟨w3, rfl, x9, F9, B9, rfl, rfl, rfl, e9, f9⟩ := hw
    subst e9
    subst f9
    refine ev_eq (st' := [.int (F9 0)]) ?_
    refine ev_iload_5 1367 d_lw_law_1367 ?_
    refine ev_icmpeq 1369 1374 d_lw_law_1369 (fun _ => ?_) (fun c9 => absurd g0 c9)
    refine ev_iload_5 1374 d_lw_law_1374 ?_
    refine ev_ifne 1376 1391 d_lw_law_1376 (fun _ => ?_) (fun c0 => ?_)
    · refine ev_goto 1391 1450 d_lw_law_1391 ?_
      exact (lw_end kk (Nat.le_refl _) (Nat.le_refl _) g2)
    · refine ev_aload_3 1379 d_lw_law_1379 ?_
      refine ev_iconst_0 1380 d_lw_law_1380 ?_
      refine ev_lald 1381 ((mo_W mo_ci bm (ks 0) (ks 1) F9 B9).length + w1.length) 2 d_lw_law_1381 at_e2 rfl (show vp_in (nI 0) 1 from vp_in_nI (by decide) (by decide)) ?_
      refine ev_iload_6 1382 d_lw_law_1382 ?_
      refine ev_i2l 1384 d_lw_law_1384 ?_
      refine ev_lcmp 1385 d_lw_law_1385 ?_
      refine ev_ifeq 1386 1391 d_lw_law_1386 (fun _ => ?_) (fun c9 => absurd (by rw [show o' (0 : Int32).toNatClampNeg = x.toInt64 from g1 c0]; exact lg_self _) c9)
      refine ev_goto 1391 1450 d_lw_law_1391 ?_
      exact (lw_end kk (Nat.le_refl _) (Nat.le_refl _) g2)
  · obtain ⟨Q, X, P, hM, hMo, hJ⟩ := jn_resources (k := 21) (bm := bm) (ks := ks) (tl := tl) (D := D) hl hzx hZ hNw hAO ta tz hST hZ9 hDi (by decide) hn hR (xs (i + 1)) 1 (Or.inr rfl)
    refine ev_aload_1 1310 d_lw_law_1310 ?_
    refine ev_aload_0 1311 d_lw_law_1311 ?_
    refine ev_iload_4 1312 d_lw_law_1312 ?_
    refine ev_iconst_1 1314 d_lw_law_1314 ?_
    refine ev_iadd 1315 d_lw_law_1315 ?_
    refine ev_topi (nI (i + 1)) (nI_add i 1) ?_
    refine ev_sld 1316 d_lw_law_1316 hzs (vp_in_nI (by omega) (by omega)) ?_
    refine ev_topi (xs (i + 1)) (by rw [nI_clamp (by omega)]) ?_
    refine ev_aload_0 1317 d_lw_law_1317 ?_
    refine ev_iload_4 1318 d_lw_law_1318 ?_
    refine ev_iconst_2 1320 d_lw_law_1320 ?_
    refine ev_iadd 1321 d_lw_law_1321 ?_
    refine ev_topi (nI (i + 2)) (nI_add i 2) ?_
    refine ev_sld 1322 d_lw_law_1322 hzs (vp_in_nI (by omega) (by omega)) ?_
    refine ev_topi (xs (i + 2)) (by rw [nI_clamp (by omega)]) ?_
    refine ev_ifeq 1323 1330 d_lw_law_1323 (fun c9 => absurd c9 cz) (fun _ => ?_)
    refine ev_iconst_1 1326 d_lw_law_1326 ?_
    refine ev_goto 1327 1331 d_lw_law_1327 ?_
    refine ev_aload_3 1331 d_lw_law_1331 ?_
    refine ev_callSW (mc := 1) (ms := 6) 1332 [.ref (am 0), .int (xs (i + 1)), .int 1, .ref oq] [] d_lw_law_1332 hZ ks_resources ⟨rfl, rfl, ⟨by decide, by decide⟩, Nat.le_trans (Nat.add_le_add_left (by decide) _) hc, Nat.le_trans (Nat.add_le_add_left (by decide) _) hs⟩ (mt_frame hZ (hw_resources hZ hnc (xs (i + 1)) 1 hK hM (fun r w hq => (hJ.1 r w hq).imp (fun _ h => h.1)) (fun E w hx => (hJ.2 E w hx).imp (fun _ h => h.1))) (mo_W mo_ci bm (ks 0) (ks 1) F B)) (fun r w hw => ?_)
    obtain ⟨w2, rfl, hw⟩ := hw
    refine ev_wd (k := cells + 32) (n := slots + 512) (Nat.add_le_add_left (by decide) _) (Nat.add_le_add_left (by decide) _) ?_
    obtain ⟨kc, w1, o', rfl, rfl, hP⟩ := lw_join Int32.toInt64 cdu_resources hJ hw
    refine ev_eq (st' := [.int kc]) ?_
    refine ev_istore_5 1335 d_lw_law_1335 ?_ (hn := by exact Nat.le_of_ble_eq_true rfl)
    refine ev_swap ?_
    refine ev_aload_2 1337 d_lw_law_1337 ?_
    refine ev_aload_0 1338 d_lw_law_1338 ?_
    refine ev_iload_4 1339 d_lw_law_1339 ?_
    refine ev_iconst_1 1341 d_lw_law_1341 ?_
    refine ev_iadd 1342 d_lw_law_1342 ?_
    refine ev_topi (nI (i + 1)) (nI_add i 1) ?_
    refine ev_sld 1343 d_lw_law_1343 hzs (vp_in_nI (by omega) (by omega)) ?_
    refine ev_topi (xs (i + 1)) (by rw [nI_clamp (by omega)]) ?_
    refine ev_aload_0 1344 d_lw_law_1344 ?_
    refine ev_iload_4 1345 d_lw_law_1345 ?_
    refine ev_iconst_2 1347 d_lw_law_1347 ?_
    refine ev_iadd 1348 d_lw_law_1348 ?_
    refine ev_topi (nI (i + 2)) (nI_add i 2) ?_
    refine ev_sld 1349 d_lw_law_1349 hzs (vp_in_nI (by omega) (by omega)) ?_
    refine ev_topi (xs (i + 2)) (by rw [nI_clamp (by omega)]) ?_
    refine ev_ifeq 1350 1357 d_lw_law_1350 (fun c9 => absurd c9 cz) (fun _ => ?_)
    refine ev_iconst_1 1353 d_lw_law_1353 ?_
    refine ev_goto 1354 1358 d_lw_law_1354 ?_
    refine ev_callV (mc := 0) (ms := 0) (ci := 9) 1358 0 [.int (xs (i + 1)), .int 1] [] d_lw_law_1358 hZ km_resources (kM9 hc hs (by decide)) (at_l mo_at0) rfl (mt_frame hZ hMo (w1 ++ [lw_o ks oq o'])) (fun r w hw => ?_)
    obtain ⟨w3, rfl, x, F1, B1, rfl, rfl, hp⟩ := hw
    obtain ⟨g0, g1, g2⟩ := hP x F1 B1 hp
    refine ev_eq (st' := [.int x]) ?_
    refine ev_istore_6 1361 d_lw_law_1361 ?_ (hn := by exact Nat.le_of_ble_eq_true rfl)
    refine ev_aload_2 1363 d_lw_law_1363 ?_
    refine ev_callV (mc := 0) (ms := 0) (ci := 9) 1364 0 [] [] d_lw_law_1364 hZ km_thrown (kM9 hc hs (by decide)) (at_l mo_at0) rfl (mt_frame hZ (mt_thrown hZ) (w1 ++ [lw_o ks oq o'])) (fun r w hw => ?_)
    obtain ⟨w3, rfl, x9, F9, B9, rfl, rfl, rfl, e9, f9⟩ := hw
    subst e9
    subst f9
    refine ev_eq (st' := [.int (F9 0)]) ?_
    refine ev_iload_5 1367 d_lw_law_1367 ?_
    refine ev_icmpeq 1369 1374 d_lw_law_1369 (fun _ => ?_) (fun c9 => absurd g0 c9)
    refine ev_iload_5 1374 d_lw_law_1374 ?_
    refine ev_ifne 1376 1391 d_lw_law_1376 (fun _ => ?_) (fun c0 => ?_)
    · refine ev_goto 1391 1450 d_lw_law_1391 ?_
      exact (lw_end kk (Nat.le_refl _) (Nat.le_refl _) g2)
    · refine ev_aload_3 1379 d_lw_law_1379 ?_
      refine ev_iconst_0 1380 d_lw_law_1380 ?_
      refine ev_lald 1381 ((mo_W mo_ci bm (ks 0) (ks 1) F9 B9).length + w1.length) 2 d_lw_law_1381 at_e2 rfl (show vp_in (nI 0) 1 from vp_in_nI (by decide) (by decide)) ?_
      refine ev_iload_6 1382 d_lw_law_1382 ?_
      refine ev_i2l 1384 d_lw_law_1384 ?_
      refine ev_lcmp 1385 d_lw_law_1385 ?_
      refine ev_ifeq 1386 1391 d_lw_law_1386 (fun _ => ?_) (fun c9 => absurd (by rw [show o' (0 : Int32).toNatClampNeg = x.toInt64 from g1 c0]; exact lg_self _) c9)
      refine ev_goto 1391 1450 d_lw_law_1391 ?_
      exact (lw_end kk (Nat.le_refl _) (Nat.le_refl _) g2)
set_option maxHeartbeats 4000000 in
set_option maxRecDepth 100000 in
theorem lc_latest {l : Launch} {D : va_G} {tl : List (ClassId × FieldType)} {Z : (Nat → Prop) → State → Heap → Prop} {ks : Nat → ClassId} {hd : Nat → Nat} {ta tz b L : Nat} {xs : Nat → Int32} {E : ev_T} {cells slots n i : Nat} {K : List Nat} {am N : Nat → Nat} {S : gS} {F : Nat → Int32} {B : Nat → Nat → Int32} {bm : Nat → Nat} {oq : Nat} {o : Nat → Int64} (H : lw_H l Z hd ta tz b L xs) (hL : L ≤ 3072) (hn : n < 1000) (hi : i + 5 < L) (hc : cells + 32 ≤ 601024) (hs : slots + 512 ≤ 7293034) (hR : RX hd n K am N S F B) (kk : lw_K l D tl Z ks hd E b (am 0) bm oq i (cells + 32) (slots + 512) n) : EV (hc_π l D ks tl Z) lw_M E cells slots 1394 (lw_lv b (am 0) (bm 60) oq i) [] (lw_Wd K am ks N S oq o bm F B) := by
  obtain ⟨hl, hzx, hZ, hNw, hAO, hST, hZ9, hDi, hnc, hzs⟩ := H
  have hK := hR.k0
  obtain ⟨Q, X, P, hM, hMo, hJ⟩ := jn_latest (k := 21) (bm := bm) (ks := ks) (tl := tl) (D := D) hl hzx hZ hNw hAO ta tz hST hZ9 hDi (by decide) hn hR (xs (i + 1))
  refine ev_aload_1 1394 d_lw_law_1394 ?_
  refine ev_aload_0 1395 d_lw_law_1395 ?_
  refine ev_iload_4 1396 d_lw_law_1396 ?_
  refine ev_iconst_1 1398 d_lw_law_1398 ?_
  refine ev_iadd 1399 d_lw_law_1399 ?_
  refine ev_topi (nI (i + 1)) (nI_add i 1) ?_
  refine ev_sld 1400 d_lw_law_1400 hzs (vp_in_nI (by omega) (by omega)) ?_
  refine ev_topi (xs (i + 1)) (by rw [nI_clamp (by omega)]) ?_
  refine ev_aload_3 1401 d_lw_law_1401 ?_
  refine ev_callSW (mc := 1) (ms := 6) 1402 [.ref (am 0), .int (xs (i + 1)), .ref oq] [] d_lw_law_1402 hZ ks_latest ⟨rfl, rfl, ⟨by decide, by decide⟩, Nat.le_trans (Nat.add_le_add_left (by decide) _) hc, Nat.le_trans (Nat.add_le_add_left (by decide) _) hs⟩ (mt_frame hZ (hw_latest hZ hnc (xs (i + 1)) hK hM (fun r w hq => (hJ.1 r w hq).imp (fun _ h => h.1)) (fun E w hx => (hJ.2 E w hx).imp (fun _ h => h.1))) (mo_W mo_ci bm (ks 0) (ks 1) F B)) (fun r w hw => ?_)
  obtain ⟨w2, rfl, hw⟩ := hw
  refine ev_wd (k := cells + 32) (n := slots + 512) (Nat.add_le_add_left (by decide) _) (Nat.add_le_add_left (by decide) _) ?_
  obtain ⟨kc, w1, o', rfl, rfl, hP⟩ := lw_join Int32.toInt64 cdu_latest hJ hw
  refine ev_eq (st' := [.int kc]) ?_
  refine ev_istore_5 1405 d_lw_law_1405 ?_ (hn := by exact Nat.le_of_ble_eq_true rfl)
  refine ev_swap ?_
  refine ev_aload_2 1407 d_lw_law_1407 ?_
  refine ev_aload_0 1408 d_lw_law_1408 ?_
  refine ev_iload_4 1409 d_lw_law_1409 ?_
  refine ev_iconst_1 1411 d_lw_law_1411 ?_
  refine ev_iadd 1412 d_lw_law_1412 ?_
  refine ev_topi (nI (i + 1)) (nI_add i 1) ?_
  refine ev_sld 1413 d_lw_law_1413 hzs (vp_in_nI (by omega) (by omega)) ?_
  refine ev_topi (xs (i + 1)) (by rw [nI_clamp (by omega)]) ?_
  refine ev_callV (mc := 0) (ms := 0) (ci := 9) 1414 0 [.int (xs (i + 1))] [] d_lw_law_1414 hZ km_latest (kM9 hc hs (by decide)) (at_l mo_at0) rfl (mt_frame hZ hMo (w1 ++ [lw_o ks oq o'])) (fun r w hw => ?_)
  obtain ⟨w3, rfl, x, F1, B1, rfl, rfl, hp⟩ := hw
  obtain ⟨g0, g1, g2⟩ := hP x F1 B1 hp
  refine ev_eq (st' := [.int x]) ?_
  refine ev_istore_6 1417 d_lw_law_1417 ?_ (hn := by exact Nat.le_of_ble_eq_true rfl)
  refine ev_aload_2 1419 d_lw_law_1419 ?_
  refine ev_callV (mc := 0) (ms := 0) (ci := 9) 1420 0 [] [] d_lw_law_1420 hZ km_thrown (kM9 hc hs (by decide)) (at_l mo_at0) rfl (mt_frame hZ (mt_thrown hZ) (w1 ++ [lw_o ks oq o'])) (fun r w hw => ?_)
  obtain ⟨w3, rfl, x9, F9, B9, rfl, rfl, rfl, e9, f9⟩ := hw
  subst e9
  subst f9
  refine ev_eq (st' := [.int (F9 0)]) ?_
  refine ev_iload_5 1423 d_lw_law_1423 ?_
  refine ev_icmpeq 1425 1430 d_lw_law_1425 (fun _ => ?_) (fun c9 => absurd g0 c9)
  refine ev_iload_5 1430 d_lw_law_1430 ?_
  refine ev_ifne 1432 1447 d_lw_law_1432 (fun _ => ?_) (fun c0 => ?_)
  · refine ev_goto 1447 1450 d_lw_law_1447 ?_
    exact (lw_end kk (Nat.le_refl _) (Nat.le_refl _) g2)
  · refine ev_aload_3 1435 d_lw_law_1435 ?_
    refine ev_iconst_0 1436 d_lw_law_1436 ?_
    refine ev_lald 1437 ((mo_W mo_ci bm (ks 0) (ks 1) F9 B9).length + w1.length) 2 d_lw_law_1437 at_e2 rfl (show vp_in (nI 0) 1 from vp_in_nI (by decide) (by decide)) ?_
    refine ev_iload_6 1438 d_lw_law_1438 ?_
    refine ev_i2l 1440 d_lw_law_1440 ?_
    refine ev_lcmp 1441 d_lw_law_1441 ?_
    refine ev_ifeq 1442 1447 d_lw_law_1442 (fun _ => ?_) (fun c9 => absurd (by rw [show o' (0 : Int32).toNatClampNeg = x.toInt64 from g1 c0]; exact lg_self _) c9)
    refine ev_goto 1447 1450 d_lw_law_1447 ?_
    exact (lw_end kk (Nat.le_refl _) (Nat.le_refl _) g2)
