set_option maxRecDepth 100000 in
set_option maxHeartbeats 4000000 in
theorem law_c17 (G : vG) {sb Ln : Nat} {xs : Nat → Int32} {n ce sl : Nat} {sh : vS} {J X : vI} {L : vL} {R : vR} (t : Nat) (i : Int32) (hJ : JZ (t : Int) n sh (mx J X) L R X) (hi : i.toInt = 6 * (t : Int)) (hLn : 6 * t + 6 ≤ Ln) (hL : Ln ≤ 3072) (hce : ce ≤ 60 + 4 * t) (hsl : sl ≤ 1500 + 40 * t) (K : ∀ (n' : Nat) (sh' : vS) (J' : vI) (L' : vL) (R' : vR) (X' : vI) (ce' sl' : Nat), JZ ((t : Int) + 1) n' sh' (mx J' X') L' R' X' → ce' ≤ 60 + 4 * (t + 1) → sl' ≤ 1500 + 40 * (t + 1) → VS G sb Ln xs 1332 [(0, .ref sb), (1, .ref (ad G 0)), (2, .ref (ad G 27)), (3, .int i)] [] ce' sl' n' sh' (mx J' X') L' R') : VS G sb Ln xs 802 [(0, .ref sb), (1, .ref (ad G 0)), (2, .ref (ad G 27)), (3, .int i)] [] ce sl n sh (mx J X) L R := by
  have hw := hJ.1.1
  obtain ⟨h1, hs, h24, h27, h30, h35, hck, h25, hv, hpv, hcl, hld, h12, hlen, hE, hb0⟩ := XF hJ
  refine VS_aload_n (pc := 802) 1 dL_law_802 rfl rfl ?_
  refine VS_aload_n (pc := 803) 0 dL_law_803 rfl rfl ?_
  refine VS_iload_n (pc := 804) 3 dL_law_804 rfl rfl ?_
  refine VS_iconst (pc := 805) (v := 1) dL_law_805 rfl ?_
  refine VS_iadd (pc := 806) dL_law_806 (fun x_806_840 e_806_840 => ?_)
  have t_806_840 : x_806_840.toInt = i.toInt + 1 := addT e_806_840 rfl rfl (by omega) (by omega)
  refine VS_saldk (pc := 807) (j := 6 * t + 1) dL_law_807 (by omega) (by omega) ?_
  refine VS_aload_n (pc := 808) 0 dL_law_808 rfl rfl ?_
  refine VS_iload_n (pc := 809) 3 dL_law_809 rfl rfl ?_
  refine VS_iconst (pc := 810) (v := 2) dL_law_810 rfl ?_
  refine VS_iadd (pc := 811) dL_law_811 (fun x_811_846 e_811_846 => ?_)
  have t_811_846 : x_811_846.toInt = i.toInt + 2 := addT e_811_846 rfl rfl (by omega) (by omega)
  refine VS_saldk (pc := 812) (j := 6 * t + 2) dL_law_812 (by omega) (by omega) ?_
  refine VS_aload_n (pc := 813) 0 dL_law_813 rfl rfl ?_
  refine VS_iload_n (pc := 814) 3 dL_law_814 rfl rfl ?_
  refine VS_iconst (pc := 815) (v := 3) dL_law_815 rfl ?_
  refine VS_iadd (pc := 816) dL_law_816 (fun x_816_852 e_816_852 => ?_)
  have t_816_852 : x_816_852.toInt = i.toInt + 3 := addT e_816_852 rfl rfl (by omega) (by omega)
  refine VS_saldk (pc := 817) (j := 6 * t + 3) dL_law_817 (by omega) (by omega) ?_
  refine VS_callV (pc := 818) (As := [.int (xs (6 * t + 1)), .int (xs (6 * t + 2)), .int (xs (6 * t + 3))]) (st := []) (c_X11_clock G (t : Int) X (xs (6 * t + 1)) (xs (6 * t + 2)) (xs (6 * t + 3)) hJ (by omega)) mf_X11_clock ml_L_90 iv_X11_clock (wN hw (by decide)) (wS1 hw (by decide) rfl) (by decide) rfl dL_law_818 rfl rfl (by omega) (by omega) (by omega) (Nat.le_of_ble_eq_true rfl) (fun r1 n1 sh1 I1 L1 R1 hq1 => ?_)
  obtain ⟨hA, hfr, hw1, w1, rfl⟩ := hq1
  obtain ⟨J1, rfl⟩ : ∃ J1, I1 = mx J1 X := ⟨I1, mx_ag (fun a h1 h2 => (hfr a h1 h2).trans (congrFun (rfl : mx J X = mx J X) a |>.trans (mx_i ⟨h1, h2⟩)))⟩
  refine VS_aload_n (pc := 821) 2 dL_law_821 rfl rfl ?_
  refine VS_aload_n (pc := 822) 0 dL_law_822 rfl rfl ?_
  refine VS_iload_n (pc := 823) 3 dL_law_823 rfl rfl ?_
  refine VS_iconst (pc := 824) (v := 1) dL_law_824 rfl ?_
  refine VS_iadd (pc := 825) dL_law_825 (fun x_825_862 e_825_862 => ?_)
  have t_825_862 : x_825_862.toInt = i.toInt + 1 := addT e_825_862 rfl rfl (by omega) (by omega)
  refine VS_saldk (pc := 826) (j := 6 * t + 1) dL_law_826 (by omega) (by omega) ?_
  refine VS_aload_n (pc := 827) 0 dL_law_827 rfl rfl ?_
  refine VS_iload_n (pc := 828) 3 dL_law_828 rfl rfl ?_
  refine VS_iconst (pc := 829) (v := 2) dL_law_829 rfl ?_
  refine VS_iadd (pc := 830) dL_law_830 (fun x_830_868 e_830_868 => ?_)
  have t_830_868 : x_830_868.toInt = i.toInt + 2 := addT e_830_868 rfl rfl (by omega) (by omega)
  refine VS_saldk (pc := 831) (j := 6 * t + 2) dL_law_831 (by omega) (by omega) ?_
  refine VS_aload_n (pc := 832) 0 dL_law_832 rfl rfl ?_
  refine VS_iload_n (pc := 833) 3 dL_law_833 rfl rfl ?_
  refine VS_iconst (pc := 834) (v := 3) dL_law_834 rfl ?_
  refine VS_iadd (pc := 835) dL_law_835 (fun x_835_874 e_835_874 => ?_)
  have t_835_874 : x_835_874.toInt = i.toInt + 3 := addT e_835_874 rfl rfl (by omega) (by omega)
  refine VS_saldk (pc := 836) (j := 6 * t + 3) dL_law_836 (by omega) (by omega) ?_
  refine VS_callV (pc := 837) (As := [.int (xs (6 * t + 1)), .int (xs (6 * t + 2)), .int (xs (6 * t + 3))]) (st := [w1]) (c_X12_clock G (xs (6 * t + 1)) (xs (6 * t + 2)) (xs (6 * t + 3)) hw1 h30 h35) mf_X12_clock ml_L_94 iv_X12_clock (wN hw1 (by decide)) (wS1 hw1 (by decide) rfl) (by decide) rfl dL_law_837 rfl rfl (by omega) (by omega) (by omega) (by have := cat2 w1; show w1.category + 0 ≤ 8; omega) (fun r2 n2 sh2 I2 L2 R2 hq2 => ?_)
  obtain ⟨rfl, rfl, rfl, rfl, hq2⟩ := hq2
  obtain ⟨X2, rfl, hp⟩ := Lo_qi Lp_sClock hq2
  obtain ⟨e1, hJ3⟩ := two hA hp
  obtain ⟨v2, -, rfl⟩ := id hp
  obtain rfl := Option.some.inj e1
  refine VS_icmp_eq (pc := 840) (tgt := 1332) dL_law_840 (by decide) (fun _ => ?_) (fun c => absurd rfl c)
  exact K _ _ _ _ _ _ _ _ hJ3 (by omega) (by omega)
set_option maxRecDepth 100000 in
set_option maxHeartbeats 4000000 in
theorem law_c18 (G : vG) {sb Ln : Nat} {xs : Nat → Int32} {n ce sl : Nat} {sh : vS} {J X : vI} {L : vL} {R : vR} (t : Nat) (i : Int32) (hJ : JZ (t : Int) n sh (mx J X) L R X) (hi : i.toInt = 6 * (t : Int)) (hLn : 6 * t + 6 ≤ Ln) (hL : Ln ≤ 3072) (hce : ce ≤ 60 + 4 * t) (hsl : sl ≤ 1500 + 40 * t) (K : ∀ (n' : Nat) (sh' : vS) (J' : vI) (L' : vL) (R' : vR) (X' : vI) (ce' sl' : Nat), JZ ((t : Int) + 1) n' sh' (mx J' X') L' R' X' → ce' ≤ 60 + 4 * (t + 1) → sl' ≤ 1500 + 40 * (t + 1) → VS G sb Ln xs 1332 [(0, .ref sb), (1, .ref (ad G 0)), (2, .ref (ad G 27)), (3, .int i)] [] ce' sl' n' sh' (mx J' X') L' R') : VS G sb Ln xs 845 [(0, .ref sb), (1, .ref (ad G 0)), (2, .ref (ad G 27)), (3, .int i)] [] ce sl n sh (mx J X) L R := by
  have hw := hJ.1.1
  obtain ⟨h1, hs, h24, h27, h30, h35, hck, h25, hv, hpv, hcl, hld, h12, hlen, hE, hb0⟩ := XF hJ
  refine VS_aload_n (pc := 845) 1 dL_law_845 rfl rfl ?_
  refine VS_aload_n (pc := 846) 0 dL_law_846 rfl rfl ?_
  refine VS_iload_n (pc := 847) 3 dL_law_847 rfl rfl ?_
  refine VS_iconst (pc := 848) (v := 1) dL_law_848 rfl ?_
  refine VS_iadd (pc := 849) dL_law_849 (fun x_849_893 e_849_893 => ?_)
  have t_849_893 : x_849_893.toInt = i.toInt + 1 := addT e_849_893 rfl rfl (by omega) (by omega)
  refine VS_saldk (pc := 850) (j := 6 * t + 1) dL_law_850 (by omega) (by omega) ?_
  refine VS_aload_n (pc := 851) 0 dL_law_851 rfl rfl ?_
  refine VS_iload_n (pc := 852) 3 dL_law_852 rfl rfl ?_
  refine VS_iconst (pc := 853) (v := 2) dL_law_853 rfl ?_
  refine VS_iadd (pc := 854) dL_law_854 (fun x_854_899 e_854_899 => ?_)
  have t_854_899 : x_854_899.toInt = i.toInt + 2 := addT e_854_899 rfl rfl (by omega) (by omega)
  refine VS_saldk (pc := 855) (j := 6 * t + 2) dL_law_855 (by omega) (by omega) ?_
  refine VS_aload_n (pc := 856) 0 dL_law_856 rfl rfl ?_
  refine VS_iload_n (pc := 857) 3 dL_law_857 rfl rfl ?_
  refine VS_iconst (pc := 858) (v := 3) dL_law_858 rfl ?_
  refine VS_iadd (pc := 859) dL_law_859 (fun x_859_905 e_859_905 => ?_)
  have t_859_905 : x_859_905.toInt = i.toInt + 3 := addT e_859_905 rfl rfl (by omega) (by omega)
  refine VS_saldk (pc := 860) (j := 6 * t + 3) dL_law_860 (by omega) (by omega) ?_
  refine VS_callV (pc := 861) (As := [.int (xs (6 * t + 1)), .int (xs (6 * t + 2)), .int (xs (6 * t + 3))]) (st := []) (c_X11_allow G (t : Int) X (xs (6 * t + 1)) (xs (6 * t + 2)) (xs (6 * t + 3)) hJ ) mf_X11_allow ml_L_95 iv_X11_allow (wN hw (by decide)) (wS1 hw (by decide) rfl) (by decide) rfl dL_law_861 rfl rfl (by omega) (by omega) (by omega) (Nat.le_of_ble_eq_true rfl) (fun r1 n1 sh1 I1 L1 R1 hq1 => ?_)
  obtain ⟨hA, hfr, hw1, w1, rfl⟩ := hq1
  obtain ⟨J1, rfl⟩ : ∃ J1, I1 = mx J1 X := ⟨I1, mx_ag (fun a h1 h2 => (hfr a h1 h2).trans (congrFun (rfl : mx J X = mx J X) a |>.trans (mx_i ⟨h1, h2⟩)))⟩
  refine VS_aload_n (pc := 864) 2 dL_law_864 rfl rfl ?_
  refine VS_aload_n (pc := 865) 0 dL_law_865 rfl rfl ?_
  refine VS_iload_n (pc := 866) 3 dL_law_866 rfl rfl ?_
  refine VS_iconst (pc := 867) (v := 1) dL_law_867 rfl ?_
  refine VS_iadd (pc := 868) dL_law_868 (fun x_868_915 e_868_915 => ?_)
  have t_868_915 : x_868_915.toInt = i.toInt + 1 := addT e_868_915 rfl rfl (by omega) (by omega)
  refine VS_saldk (pc := 869) (j := 6 * t + 1) dL_law_869 (by omega) (by omega) ?_
  refine VS_aload_n (pc := 870) 0 dL_law_870 rfl rfl ?_
  refine VS_iload_n (pc := 871) 3 dL_law_871 rfl rfl ?_
  refine VS_iconst (pc := 872) (v := 2) dL_law_872 rfl ?_
  refine VS_iadd (pc := 873) dL_law_873 (fun x_873_921 e_873_921 => ?_)
  have t_873_921 : x_873_921.toInt = i.toInt + 2 := addT e_873_921 rfl rfl (by omega) (by omega)
  refine VS_saldk (pc := 874) (j := 6 * t + 2) dL_law_874 (by omega) (by omega) ?_
  refine VS_aload_n (pc := 875) 0 dL_law_875 rfl rfl ?_
  refine VS_iload_n (pc := 876) 3 dL_law_876 rfl rfl ?_
  refine VS_iconst (pc := 877) (v := 3) dL_law_877 rfl ?_
  refine VS_iadd (pc := 878) dL_law_878 (fun x_878_927 e_878_927 => ?_)
  have t_878_927 : x_878_927.toInt = i.toInt + 3 := addT e_878_927 rfl rfl (by omega) (by omega)
  refine VS_saldk (pc := 879) (j := 6 * t + 3) dL_law_879 (by omega) (by omega) ?_
  refine VS_callV (pc := 880) (As := [.int (xs (6 * t + 1)), .int (xs (6 * t + 2)), .int (xs (6 * t + 3))]) (st := [w1]) (c_X12_allow G (xs (6 * t + 1)) (xs (6 * t + 2)) (xs (6 * t + 3)) hw1 h30 h35) mf_X12_allow ml_L_98 iv_X12_allow (wN hw1 (by decide)) (wS1 hw1 (by decide) rfl) (by decide) rfl dL_law_880 rfl rfl (by omega) (by omega) (by omega) (by have := cat2 w1; show w1.category + 0 ≤ 8; omega) (fun r2 n2 sh2 I2 L2 R2 hq2 => ?_)
  obtain ⟨rfl, rfl, rfl, rfl, hq2⟩ := hq2
  obtain ⟨X2, rfl, hp⟩ := Lo_qi Lp_sAllow hq2
  obtain ⟨e1, hJ3⟩ := two hA hp
  obtain ⟨v2, -, rfl⟩ := id hp
  obtain rfl := Option.some.inj e1
  refine VS_icmp_eq (pc := 883) (tgt := 1332) dL_law_883 (by decide) (fun _ => ?_) (fun c => absurd rfl c)
  exact K _ _ _ _ _ _ _ _ hJ3 (by omega) (by omega)
set_option maxRecDepth 100000 in
set_option maxHeartbeats 4000000 in
theorem law_c19 (G : vG) {sb Ln : Nat} {xs : Nat → Int32} {n ce sl : Nat} {sh : vS} {J X : vI} {L : vL} {R : vR} (t : Nat) (i : Int32) (hJ : JZ (t : Int) n sh (mx J X) L R X) (hi : i.toInt = 6 * (t : Int)) (hLn : 6 * t + 6 ≤ Ln) (hL : Ln ≤ 3072) (hce : ce ≤ 60 + 4 * t) (hsl : sl ≤ 1500 + 40 * t) (K : ∀ (n' : Nat) (sh' : vS) (J' : vI) (L' : vL) (R' : vR) (X' : vI) (ce' sl' : Nat), JZ ((t : Int) + 1) n' sh' (mx J' X') L' R' X' → ce' ≤ 60 + 4 * (t + 1) → sl' ≤ 1500 + 40 * (t + 1) → VS G sb Ln xs 1332 [(0, .ref sb), (1, .ref (ad G 0)), (2, .ref (ad G 27)), (3, .int i)] [] ce' sl' n' sh' (mx J' X') L' R') : VS G sb Ln xs 888 [(0, .ref sb), (1, .ref (ad G 0)), (2, .ref (ad G 27)), (3, .int i)] [] ce sl n sh (mx J X) L R := by
  have hw := hJ.1.1
  obtain ⟨h1, hs, h24, h27, h30, h35, hck, h25, hv, hpv, hcl, hld, h12, hlen, hE, hb0⟩ := XF hJ
  refine VS_aload_n (pc := 888) 1 dL_law_888 rfl rfl ?_
  refine VS_aload_n (pc := 889) 0 dL_law_889 rfl rfl ?_
  refine VS_iload_n (pc := 890) 3 dL_law_890 rfl rfl ?_
  refine VS_iconst (pc := 891) (v := 1) dL_law_891 rfl ?_
  refine VS_iadd (pc := 892) dL_law_892 (fun x_892_946 e_892_946 => ?_)
  have t_892_946 : x_892_946.toInt = i.toInt + 1 := addT e_892_946 rfl rfl (by omega) (by omega)
  refine VS_saldk (pc := 893) (j := 6 * t + 1) dL_law_893 (by omega) (by omega) ?_
  refine VS_aload_n (pc := 894) 0 dL_law_894 rfl rfl ?_
  refine VS_iload_n (pc := 895) 3 dL_law_895 rfl rfl ?_
  refine VS_iconst (pc := 896) (v := 2) dL_law_896 rfl ?_
  refine VS_iadd (pc := 897) dL_law_897 (fun x_897_952 e_897_952 => ?_)
  have t_897_952 : x_897_952.toInt = i.toInt + 2 := addT e_897_952 rfl rfl (by omega) (by omega)
  refine VS_saldk (pc := 898) (j := 6 * t + 2) dL_law_898 (by omega) (by omega) ?_
  refine VS_callV (pc := 899) (As := [.int (xs (6 * t + 1)), .int (xs (6 * t + 2))]) (st := []) (c_X11_error G (t : Int) X (xs (6 * t + 1)) (xs (6 * t + 2)) hJ ) mf_X11_error ml_L_99 iv_X11_error (wN hw (by decide)) (wS1 hw (by decide) rfl) (by decide) rfl dL_law_899 rfl rfl (by omega) (by omega) (by omega) (Nat.le_of_ble_eq_true rfl) (fun r1 n1 sh1 I1 L1 R1 hq1 => ?_)
  obtain ⟨hA, hfr, hw1, w1, rfl⟩ := hq1
  obtain ⟨J1, rfl⟩ : ∃ J1, I1 = mx J1 X := ⟨I1, mx_ag (fun a h1 h2 => (hfr a h1 h2).trans (congrFun (rfl : mx J X = mx J X) a |>.trans (mx_i ⟨h1, h2⟩)))⟩
  refine VS_aload_n (pc := 902) 2 dL_law_902 rfl rfl ?_
  refine VS_aload_n (pc := 903) 0 dL_law_903 rfl rfl ?_
  refine VS_iload_n (pc := 904) 3 dL_law_904 rfl rfl ?_
  refine VS_iconst (pc := 905) (v := 1) dL_law_905 rfl ?_
  refine VS_iadd (pc := 906) dL_law_906 (fun x_906_962 e_906_962 => ?_)
  have t_906_962 : x_906_962.toInt = i.toInt + 1 := addT e_906_962 rfl rfl (by omega) (by omega)
  refine VS_saldk (pc := 907) (j := 6 * t + 1) dL_law_907 (by omega) (by omega) ?_
  refine VS_aload_n (pc := 908) 0 dL_law_908 rfl rfl ?_
  refine VS_iload_n (pc := 909) 3 dL_law_909 rfl rfl ?_
  refine VS_iconst (pc := 910) (v := 2) dL_law_910 rfl ?_
  refine VS_iadd (pc := 911) dL_law_911 (fun x_911_968 e_911_968 => ?_)
  have t_911_968 : x_911_968.toInt = i.toInt + 2 := addT e_911_968 rfl rfl (by omega) (by omega)
  refine VS_saldk (pc := 912) (j := 6 * t + 2) dL_law_912 (by omega) (by omega) ?_
  refine VS_callV (pc := 913) (As := [.int (xs (6 * t + 1)), .int (xs (6 * t + 2))]) (st := [w1]) (c_X12_error G (xs (6 * t + 1)) (xs (6 * t + 2)) hw1 h27 h30 h35 hpv hcl) mf_X12_error ml_L_102 iv_X12_error (wN hw1 (by decide)) (wS1 hw1 (by decide) rfl) (by decide) rfl dL_law_913 rfl rfl (by omega) (by omega) (by omega) (by have := cat2 w1; show w1.category + 0 ≤ 8; omega) (fun r2 n2 sh2 I2 L2 R2 hq2 => ?_)
  obtain ⟨rfl, rfl, rfl, rfl, hq2⟩ := hq2
  obtain ⟨X2, rfl, hp⟩ := Lo_zL (J := J1) (X := X) Ln_sError hq2
  obtain ⟨e1, hJ3⟩ := two hA hp
  obtain ⟨-, v2, rfl, -⟩ := id hp
  obtain rfl := Option.some.inj e1
  refine VS_lcmp (pc := 916) dL_law_916 (fun z ez => ?_)
  have hz0 : z.toInt = 0 := (lcT_eq ez).mpr rfl
  refine VS_if_eq (pc := 917) (tgt := 1332) dL_law_917 (by decide) (fun _ => ?_) (fun c => absurd hz0 c)
  exact K _ _ _ _ _ _ _ _ hJ3 (by omega) (by omega)
set_option maxRecDepth 100000 in
set_option maxHeartbeats 4000000 in
theorem law_c20 (G : vG) {sb Ln : Nat} {xs : Nat → Int32} {n ce sl : Nat} {sh : vS} {J X : vI} {L : vL} {R : vR} (t : Nat) (i : Int32) (hJ : JZ (t : Int) n sh (mx J X) L R X) (hi : i.toInt = 6 * (t : Int)) (hLn : 6 * t + 6 ≤ Ln) (hL : Ln ≤ 3072) (hce : ce ≤ 60 + 4 * t) (hsl : sl ≤ 1500 + 40 * t) (K : ∀ (n' : Nat) (sh' : vS) (J' : vI) (L' : vL) (R' : vR) (X' : vI) (ce' sl' : Nat), JZ ((t : Int) + 1) n' sh' (mx J' X') L' R' X' → ce' ≤ 60 + 4 * (t + 1) → sl' ≤ 1500 + 40 * (t + 1) → VS G sb Ln xs 1332 [(0, .ref sb), (1, .ref (ad G 0)), (2, .ref (ad G 27)), (3, .int i)] [] ce' sl' n' sh' (mx J' X') L' R') : VS G sb Ln xs 922 [(0, .ref sb), (1, .ref (ad G 0)), (2, .ref (ad G 27)), (3, .int i)] [] ce sl n sh (mx J X) L R := by
  have hw := hJ.1.1
  obtain ⟨h1, hs, h24, h27, h30, h35, hck, h25, hv, hpv, hcl, hld, h12, hlen, hE, hb0⟩ := XF hJ
  refine VS_aload_n (pc := 922) 1 dL_law_922 rfl rfl ?_
  refine VS_aload_n (pc := 923) 0 dL_law_923 rfl rfl ?_
  refine VS_iload_n (pc := 924) 3 dL_law_924 rfl rfl ?_
  refine VS_iconst (pc := 925) (v := 1) dL_law_925 rfl ?_
  refine VS_iadd (pc := 926) dL_law_926 (fun x_926_989 e_926_989 => ?_)
  have t_926_989 : x_926_989.toInt = i.toInt + 1 := addT e_926_989 rfl rfl (by omega) (by omega)
  refine VS_saldk (pc := 927) (j := 6 * t + 1) dL_law_927 (by omega) (by omega) ?_
  refine VS_aload_n (pc := 928) 0 dL_law_928 rfl rfl ?_
  refine VS_iload_n (pc := 929) 3 dL_law_929 rfl rfl ?_
  refine VS_iconst (pc := 930) (v := 2) dL_law_930 rfl ?_
  refine VS_iadd (pc := 931) dL_law_931 (fun x_931_995 e_931_995 => ?_)
  have t_931_995 : x_931_995.toInt = i.toInt + 2 := addT e_931_995 rfl rfl (by omega) (by omega)
  refine VS_saldk (pc := 932) (j := 6 * t + 2) dL_law_932 (by omega) (by omega) ?_
  refine VS_callV (pc := 933) (As := [.int (xs (6 * t + 1)), .int (xs (6 * t + 2))]) (st := []) (c_X11_points G (t : Int) X (xs (6 * t + 1)) (xs (6 * t + 2)) hJ ) mf_X11_points ml_L_103 iv_X11_points (wN hw (by decide)) (wS1 hw (by decide) rfl) (by decide) rfl dL_law_933 rfl rfl (by omega) (by omega) (by omega) (Nat.le_of_ble_eq_true rfl) (fun r1 n1 sh1 I1 L1 R1 hq1 => ?_)
  obtain ⟨hA, hfr, hw1, w1, rfl⟩ := hq1
  obtain ⟨J1, rfl⟩ : ∃ J1, I1 = mx J1 X := ⟨I1, mx_ag (fun a h1 h2 => (hfr a h1 h2).trans (congrFun (rfl : mx J X = mx J X) a |>.trans (mx_i ⟨h1, h2⟩)))⟩
  refine VS_aload_n (pc := 936) 2 dL_law_936 rfl rfl ?_
  refine VS_aload_n (pc := 937) 0 dL_law_937 rfl rfl ?_
  refine VS_iload_n (pc := 938) 3 dL_law_938 rfl rfl ?_
  refine VS_iconst (pc := 939) (v := 1) dL_law_939 rfl ?_
  refine VS_iadd (pc := 940) dL_law_940 (fun x_940_1005 e_940_1005 => ?_)
  have t_940_1005 : x_940_1005.toInt = i.toInt + 1 := addT e_940_1005 rfl rfl (by omega) (by omega)
  refine VS_saldk (pc := 941) (j := 6 * t + 1) dL_law_941 (by omega) (by omega) ?_
  refine VS_aload_n (pc := 942) 0 dL_law_942 rfl rfl ?_
  refine VS_iload_n (pc := 943) 3 dL_law_943 rfl rfl ?_
  refine VS_iconst (pc := 944) (v := 2) dL_law_944 rfl ?_
  refine VS_iadd (pc := 945) dL_law_945 (fun x_945_1011 e_945_1011 => ?_)
  have t_945_1011 : x_945_1011.toInt = i.toInt + 2 := addT e_945_1011 rfl rfl (by omega) (by omega)
  refine VS_saldk (pc := 946) (j := 6 * t + 2) dL_law_946 (by omega) (by omega) ?_
  refine VS_callV (pc := 947) (As := [.int (xs (6 * t + 1)), .int (xs (6 * t + 2))]) (st := [w1]) (c_X12_points G (xs (6 * t + 1)) (xs (6 * t + 2)) hw1 h27 h30 h35 hpv) mf_X12_points ml_L_106 iv_X12_points (wN hw1 (by decide)) (wS1 hw1 (by decide) rfl) (by decide) rfl dL_law_947 rfl rfl (by omega) (by omega) (by omega) (by have := cat2 w1; show w1.category + 0 ≤ 8; omega) (fun r2 n2 sh2 I2 L2 R2 hq2 => ?_)
  obtain ⟨rfl, rfl, rfl, rfl, hq2⟩ := hq2
  obtain ⟨X2, rfl, hp⟩ := Lo_iN (J := J1) (X := X) Ln_sPoints hq2
  obtain ⟨e1, hJ3⟩ := two hA hp
  obtain ⟨-, v2, rfl, -⟩ := id hp
  obtain rfl := Option.some.inj e1
  refine VS_icmp_eq (pc := 950) (tgt := 1332) dL_law_950 (by decide) (fun _ => ?_) (fun c => absurd rfl c)
  exact K _ _ _ _ _ _ _ _ hJ3 (by omega) (by omega)
set_option maxRecDepth 100000 in
set_option maxHeartbeats 4000000 in
theorem law_c21 (G : vG) {sb Ln : Nat} {xs : Nat → Int32} {n ce sl : Nat} {sh : vS} {J X : vI} {L : vL} {R : vR} (t : Nat) (i : Int32) (hJ : JZ (t : Int) n sh (mx J X) L R X) (hi : i.toInt = 6 * (t : Int)) (hLn : 6 * t + 6 ≤ Ln) (hL : Ln ≤ 3072) (hce : ce ≤ 60 + 4 * t) (hsl : sl ≤ 1500 + 40 * t) (K : ∀ (n' : Nat) (sh' : vS) (J' : vI) (L' : vL) (R' : vR) (X' : vI) (ce' sl' : Nat), JZ ((t : Int) + 1) n' sh' (mx J' X') L' R' X' → ce' ≤ 60 + 4 * (t + 1) → sl' ≤ 1500 + 40 * (t + 1) → VS G sb Ln xs 1332 [(0, .ref sb), (1, .ref (ad G 0)), (2, .ref (ad G 27)), (3, .int i)] [] ce' sl' n' sh' (mx J' X') L' R') : VS G sb Ln xs 955 [(0, .ref sb), (1, .ref (ad G 0)), (2, .ref (ad G 27)), (3, .int i)] [] ce sl n sh (mx J X) L R := by
  have hw := hJ.1.1
  obtain ⟨h1, hs, h24, h27, h30, h35, hck, h25, hv, hpv, hcl, hld, h12, hlen, hE, hb0⟩ := XF hJ
  refine VS_aload_n (pc := 955) 1 dL_law_955 rfl rfl ?_
  refine VS_aload_n (pc := 956) 0 dL_law_956 rfl rfl ?_
  refine VS_iload_n (pc := 957) 3 dL_law_957 rfl rfl ?_
  refine VS_iconst (pc := 958) (v := 1) dL_law_958 rfl ?_
  refine VS_iadd (pc := 959) dL_law_959 (fun x_959_1030 e_959_1030 => ?_)
  have t_959_1030 : x_959_1030.toInt = i.toInt + 1 := addT e_959_1030 rfl rfl (by omega) (by omega)
  refine VS_saldk (pc := 960) (j := 6 * t + 1) dL_law_960 (by omega) (by omega) ?_
  refine VS_aload_n (pc := 961) 0 dL_law_961 rfl rfl ?_
  refine VS_iload_n (pc := 962) 3 dL_law_962 rfl rfl ?_
  refine VS_iconst (pc := 963) (v := 2) dL_law_963 rfl ?_
  refine VS_iadd (pc := 964) dL_law_964 (fun x_964_1036 e_964_1036 => ?_)
  have t_964_1036 : x_964_1036.toInt = i.toInt + 2 := addT e_964_1036 rfl rfl (by omega) (by omega)
  refine VS_saldk (pc := 965) (j := 6 * t + 2) dL_law_965 (by omega) (by omega) ?_
  refine VS_callV (pc := 966) (As := [.int (xs (6 * t + 1)), .int (xs (6 * t + 2))]) (st := []) (c_X11_result G (t : Int) X (xs (6 * t + 1)) (xs (6 * t + 2)) hJ ) mf_X11_result ml_L_107 iv_X11_result (wN hw (by decide)) (wS1 hw (by decide) rfl) (by decide) rfl dL_law_966 rfl rfl (by omega) (by omega) (by omega) (Nat.le_of_ble_eq_true rfl) (fun r1 n1 sh1 I1 L1 R1 hq1 => ?_)
  obtain ⟨hA, hfr, hw1, w1, rfl⟩ := hq1
  obtain ⟨J1, rfl⟩ : ∃ J1, I1 = mx J1 X := ⟨I1, mx_ag (fun a h1 h2 => (hfr a h1 h2).trans (congrFun (rfl : mx J X = mx J X) a |>.trans (mx_i ⟨h1, h2⟩)))⟩
  refine VS_aload_n (pc := 969) 2 dL_law_969 rfl rfl ?_
  refine VS_aload_n (pc := 970) 0 dL_law_970 rfl rfl ?_
  refine VS_iload_n (pc := 971) 3 dL_law_971 rfl rfl ?_
  refine VS_iconst (pc := 972) (v := 1) dL_law_972 rfl ?_
  refine VS_iadd (pc := 973) dL_law_973 (fun x_973_1046 e_973_1046 => ?_)
  have t_973_1046 : x_973_1046.toInt = i.toInt + 1 := addT e_973_1046 rfl rfl (by omega) (by omega)
  refine VS_saldk (pc := 974) (j := 6 * t + 1) dL_law_974 (by omega) (by omega) ?_
  refine VS_aload_n (pc := 975) 0 dL_law_975 rfl rfl ?_
  refine VS_iload_n (pc := 976) 3 dL_law_976 rfl rfl ?_
  refine VS_iconst (pc := 977) (v := 2) dL_law_977 rfl ?_
  refine VS_iadd (pc := 978) dL_law_978 (fun x_978_1052 e_978_1052 => ?_)
  have t_978_1052 : x_978_1052.toInt = i.toInt + 2 := addT e_978_1052 rfl rfl (by omega) (by omega)
  refine VS_saldk (pc := 979) (j := 6 * t + 2) dL_law_979 (by omega) (by omega) ?_
  refine VS_callV (pc := 980) (As := [.int (xs (6 * t + 1)), .int (xs (6 * t + 2))]) (st := [w1]) (c_X12_result G (xs (6 * t + 1)) (xs (6 * t + 2)) hw1 h27 h30 h35 hpv) mf_X12_result ml_L_110 iv_X12_result (wN hw1 (by decide)) (wS1 hw1 (by decide) rfl) (by decide) rfl dL_law_980 rfl rfl (by omega) (by omega) (by omega) (by have := cat2 w1; show w1.category + 0 ≤ 8; omega) (fun r2 n2 sh2 I2 L2 R2 hq2 => ?_)
  obtain ⟨rfl, rfl, rfl, rfl, hq2⟩ := hq2
  obtain ⟨X2, rfl, hp⟩ := Lo_iN (J := J1) (X := X) Ln_sResult hq2
  obtain ⟨e1, hJ3⟩ := two hA hp
  obtain ⟨-, v2, rfl, -⟩ := id hp
  obtain rfl := Option.some.inj e1
  refine VS_icmp_eq (pc := 983) (tgt := 1332) dL_law_983 (by decide) (fun _ => ?_) (fun c => absurd rfl c)
  exact K _ _ _ _ _ _ _ _ hJ3 (by omega) (by omega)
set_option maxRecDepth 100000 in
set_option maxHeartbeats 4000000 in
theorem law_c22 (G : vG) {sb Ln : Nat} {xs : Nat → Int32} {n ce sl : Nat} {sh : vS} {J X : vI} {L : vL} {R : vR} (t : Nat) (i : Int32) (hJ : JZ (t : Int) n sh (mx J X) L R X) (hi : i.toInt = 6 * (t : Int)) (hLn : 6 * t + 6 ≤ Ln) (hL : Ln ≤ 3072) (hce : ce ≤ 60 + 4 * t) (hsl : sl ≤ 1500 + 40 * t) (K : ∀ (n' : Nat) (sh' : vS) (J' : vI) (L' : vL) (R' : vR) (X' : vI) (ce' sl' : Nat), JZ ((t : Int) + 1) n' sh' (mx J' X') L' R' X' → ce' ≤ 60 + 4 * (t + 1) → sl' ≤ 1500 + 40 * (t + 1) → VS G sb Ln xs 1332 [(0, .ref sb), (1, .ref (ad G 0)), (2, .ref (ad G 27)), (3, .int i)] [] ce' sl' n' sh' (mx J' X') L' R') : VS G sb Ln xs 988 [(0, .ref sb), (1, .ref (ad G 0)), (2, .ref (ad G 27)), (3, .int i)] [] ce sl n sh (mx J X) L R := by
  have hw := hJ.1.1
  obtain ⟨h1, hs, h24, h27, h30, h35, hck, h25, hv, hpv, hcl, hld, h12, hlen, hE, hb0⟩ := XF hJ
  refine VS_aload_n (pc := 988) 1 dL_law_988 rfl rfl ?_
  refine VS_aload_n (pc := 989) 0 dL_law_989 rfl rfl ?_
  refine VS_iload_n (pc := 990) 3 dL_law_990 rfl rfl ?_
  refine VS_iconst (pc := 991) (v := 1) dL_law_991 rfl ?_
  refine VS_iadd (pc := 992) dL_law_992 (fun x_992_1071 e_992_1071 => ?_)
  have t_992_1071 : x_992_1071.toInt = i.toInt + 1 := addT e_992_1071 rfl rfl (by omega) (by omega)
  refine VS_saldk (pc := 993) (j := 6 * t + 1) dL_law_993 (by omega) (by omega) ?_
  refine VS_aload_n (pc := 994) 0 dL_law_994 rfl rfl ?_
  refine VS_iload_n (pc := 995) 3 dL_law_995 rfl rfl ?_
  refine VS_iconst (pc := 996) (v := 2) dL_law_996 rfl ?_
  refine VS_iadd (pc := 997) dL_law_997 (fun x_997_1077 e_997_1077 => ?_)
  have t_997_1077 : x_997_1077.toInt = i.toInt + 2 := addT e_997_1077 rfl rfl (by omega) (by omega)
  refine VS_saldk (pc := 998) (j := 6 * t + 2) dL_law_998 (by omega) (by omega) ?_
  refine VS_aload_n (pc := 999) 0 dL_law_999 rfl rfl ?_
  refine VS_iload_n (pc := 1000) 3 dL_law_1000 rfl rfl ?_
  refine VS_iconst (pc := 1001) (v := 3) dL_law_1001 rfl ?_
  refine VS_iadd (pc := 1002) dL_law_1002 (fun x_1002_1083 e_1002_1083 => ?_)
  have t_1002_1083 : x_1002_1083.toInt = i.toInt + 3 := addT e_1002_1083 rfl rfl (by omega) (by omega)
  refine VS_saldk (pc := 1003) (j := 6 * t + 3) dL_law_1003 (by omega) (by omega) ?_
  refine VS_callV (pc := 1004) (As := [.int (xs (6 * t + 1)), .int (xs (6 * t + 2)), .int (xs (6 * t + 3))]) (st := []) (c_X11_sheet G (t : Int) X (xs (6 * t + 1)) (xs (6 * t + 2)) (xs (6 * t + 3)) hJ ) mf_X11_sheet ml_L_111 iv_X11_sheet (wN hw (by decide)) (wS1 hw (by decide) rfl) (by decide) rfl dL_law_1004 rfl rfl (by omega) (by omega) (by omega) (Nat.le_of_ble_eq_true rfl) (fun r1 n1 sh1 I1 L1 R1 hq1 => ?_)
  obtain ⟨hA, hfr, hw1, w1, rfl⟩ := hq1
  obtain ⟨J1, rfl⟩ : ∃ J1, I1 = mx J1 X := ⟨I1, mx_ag (fun a h1 h2 => (hfr a h1 h2).trans (congrFun (rfl : mx J X = mx J X) a |>.trans (mx_i ⟨h1, h2⟩)))⟩
  refine VS_aload_n (pc := 1007) 2 dL_law_1007 rfl rfl ?_
  refine VS_aload_n (pc := 1008) 0 dL_law_1008 rfl rfl ?_
  refine VS_iload_n (pc := 1009) 3 dL_law_1009 rfl rfl ?_
  refine VS_iconst (pc := 1010) (v := 1) dL_law_1010 rfl ?_
  refine VS_iadd (pc := 1011) dL_law_1011 (fun x_1011_1093 e_1011_1093 => ?_)
  have t_1011_1093 : x_1011_1093.toInt = i.toInt + 1 := addT e_1011_1093 rfl rfl (by omega) (by omega)
  refine VS_saldk (pc := 1012) (j := 6 * t + 1) dL_law_1012 (by omega) (by omega) ?_
  refine VS_aload_n (pc := 1013) 0 dL_law_1013 rfl rfl ?_
  refine VS_iload_n (pc := 1014) 3 dL_law_1014 rfl rfl ?_
  refine VS_iconst (pc := 1015) (v := 2) dL_law_1015 rfl ?_
  refine VS_iadd (pc := 1016) dL_law_1016 (fun x_1016_1099 e_1016_1099 => ?_)
  have t_1016_1099 : x_1016_1099.toInt = i.toInt + 2 := addT e_1016_1099 rfl rfl (by omega) (by omega)
  refine VS_saldk (pc := 1017) (j := 6 * t + 2) dL_law_1017 (by omega) (by omega) ?_
  refine VS_aload_n (pc := 1018) 0 dL_law_1018 rfl rfl ?_
  refine VS_iload_n (pc := 1019) 3 dL_law_1019 rfl rfl ?_
  refine VS_iconst (pc := 1020) (v := 3) dL_law_1020 rfl ?_
  refine VS_iadd (pc := 1021) dL_law_1021 (fun x_1021_1105 e_1021_1105 => ?_)
  have t_1021_1105 : x_1021_1105.toInt = i.toInt + 3 := addT e_1021_1105 rfl rfl (by omega) (by omega)
  refine VS_saldk (pc := 1022) (j := 6 * t + 3) dL_law_1022 (by omega) (by omega) ?_
  refine VS_callV (pc := 1023) (As := [.int (xs (6 * t + 1)), .int (xs (6 * t + 2)), .int (xs (6 * t + 3))]) (st := [w1]) (c_X12_sheet G (xs (6 * t + 1)) (xs (6 * t + 2)) (xs (6 * t + 3)) hw1 ) mf_X12_sheet ml_L_114 iv_X12_sheet (wN hw1 (by decide)) (wS1 hw1 (by decide) rfl) (by decide) rfl dL_law_1023 rfl rfl (by omega) (by omega) (by omega) (by have := cat2 w1; show w1.category + 0 ≤ 8; omega) (fun r2 n2 sh2 I2 L2 R2 hq2 => ?_)
  obtain ⟨rfl, rfl, rfl, rfl, hq2⟩ := hq2
  obtain ⟨X2, rfl, hp⟩ := Lo_qi Lp_sSheet hq2
  obtain ⟨e1, hJ3⟩ := two hA hp
  obtain ⟨v2, -, rfl⟩ := id hp
  obtain rfl := Option.some.inj e1
  refine VS_icmp_eq (pc := 1026) (tgt := 1332) dL_law_1026 (by decide) (fun _ => ?_) (fun c => absurd rfl c)
  exact K _ _ _ _ _ _ _ _ hJ3 (by omega) (by omega)
set_option maxRecDepth 100000 in
set_option maxHeartbeats 4000000 in
theorem law_c23 (G : vG) {sb Ln : Nat} {xs : Nat → Int32} {n ce sl : Nat} {sh : vS} {J X : vI} {L : vL} {R : vR} (t : Nat) (i : Int32) (hJ : JZ (t : Int) n sh (mx J X) L R X) (hi : i.toInt = 6 * (t : Int)) (hLn : 6 * t + 6 ≤ Ln) (hL : Ln ≤ 3072) (hce : ce ≤ 60 + 4 * t) (hsl : sl ≤ 1500 + 40 * t) (K : ∀ (n' : Nat) (sh' : vS) (J' : vI) (L' : vL) (R' : vR) (X' : vI) (ce' sl' : Nat), JZ ((t : Int) + 1) n' sh' (mx J' X') L' R' X' → ce' ≤ 60 + 4 * (t + 1) → sl' ≤ 1500 + 40 * (t + 1) → VS G sb Ln xs 1332 [(0, .ref sb), (1, .ref (ad G 0)), (2, .ref (ad G 27)), (3, .int i)] [] ce' sl' n' sh' (mx J' X') L' R') : VS G sb Ln xs 1031 [(0, .ref sb), (1, .ref (ad G 0)), (2, .ref (ad G 27)), (3, .int i)] [] ce sl n sh (mx J X) L R := by
  have hw := hJ.1.1
  obtain ⟨h1, hs, h24, h27, h30, h35, hck, h25, hv, hpv, hcl, hld, h12, hlen, hE, hb0⟩ := XF hJ
  refine VS_aload_n (pc := 1031) 1 dL_law_1031 rfl rfl ?_
  refine VS_aload_n (pc := 1032) 0 dL_law_1032 rfl rfl ?_
  refine VS_iload_n (pc := 1033) 3 dL_law_1033 rfl rfl ?_
  refine VS_iconst (pc := 1034) (v := 1) dL_law_1034 rfl ?_
  refine VS_iadd (pc := 1035) dL_law_1035 (fun x_1035_1124 e_1035_1124 => ?_)
  have t_1035_1124 : x_1035_1124.toInt = i.toInt + 1 := addT e_1035_1124 rfl rfl (by omega) (by omega)
  refine VS_saldk (pc := 1036) (j := 6 * t + 1) dL_law_1036 (by omega) (by omega) ?_
  refine VS_callV (pc := 1037) (As := [.int (xs (6 * t + 1))]) (st := []) (c_X11_lose G (t : Int) X (xs (6 * t + 1)) hJ ) mf_X11_lose ml_L_115 iv_X11_lose (wN hw (by decide)) (wS1 hw (by decide) rfl) (by decide) rfl dL_law_1037 rfl rfl (by omega) (by omega) (by omega) (Nat.le_of_ble_eq_true rfl) (fun r1 n1 sh1 I1 L1 R1 hq1 => ?_)
  obtain ⟨hA, hfr, hw1, w1, rfl⟩ := hq1
  obtain ⟨J1, rfl⟩ : ∃ J1, I1 = mx J1 X := ⟨I1, mx_ag (fun a h1 h2 => (hfr a h1 h2).trans (congrFun (rfl : mx J X = mx J X) a |>.trans (mx_i ⟨h1, h2⟩)))⟩
  refine VS_aload_n (pc := 1040) 2 dL_law_1040 rfl rfl ?_
  refine VS_aload_n (pc := 1041) 0 dL_law_1041 rfl rfl ?_
  refine VS_iload_n (pc := 1042) 3 dL_law_1042 rfl rfl ?_
  refine VS_iconst (pc := 1043) (v := 1) dL_law_1043 rfl ?_
  refine VS_iadd (pc := 1044) dL_law_1044 (fun x_1044_1134 e_1044_1134 => ?_)
  have t_1044_1134 : x_1044_1134.toInt = i.toInt + 1 := addT e_1044_1134 rfl rfl (by omega) (by omega)
  refine VS_saldk (pc := 1045) (j := 6 * t + 1) dL_law_1045 (by omega) (by omega) ?_
  refine VS_callV (pc := 1046) (As := [.int (xs (6 * t + 1))]) (st := [w1]) (c_X12_lose G (xs (6 * t + 1)) hw1 ) mf_X12_lose ml_L_118 iv_X12_lose (wN hw1 (by decide)) (wS1 hw1 (by decide) rfl) (by decide) rfl dL_law_1046 rfl rfl (by omega) (by omega) (by omega) (by have := cat2 w1; show w1.category + 0 ≤ 8; omega) (fun r2 n2 sh2 I2 L2 R2 hq2 => ?_)
  obtain ⟨rfl, rfl, rfl, rfl, hq2⟩ := hq2
  obtain ⟨X2, rfl, hp⟩ := Lo_qi Lp_sLose hq2
  obtain ⟨e1, hJ3⟩ := two hA hp
  obtain ⟨v2, -, rfl⟩ := id hp
  obtain rfl := Option.some.inj e1
  refine VS_icmp_eq (pc := 1049) (tgt := 1332) dL_law_1049 (by decide) (fun _ => ?_) (fun c => absurd rfl c)
  exact K _ _ _ _ _ _ _ _ hJ3 (by omega) (by omega)
set_option maxRecDepth 100000 in
set_option maxHeartbeats 4000000 in
theorem law_c24 (G : vG) {sb Ln : Nat} {xs : Nat → Int32} {n ce sl : Nat} {sh : vS} {J X : vI} {L : vL} {R : vR} (t : Nat) (i : Int32) (hJ : JZ (t : Int) n sh (mx J X) L R X) (hi : i.toInt = 6 * (t : Int)) (hLn : 6 * t + 6 ≤ Ln) (hL : Ln ≤ 3072) (hce : ce ≤ 60 + 4 * t) (hsl : sl ≤ 1500 + 40 * t) (K : ∀ (n' : Nat) (sh' : vS) (J' : vI) (L' : vL) (R' : vR) (X' : vI) (ce' sl' : Nat), JZ ((t : Int) + 1) n' sh' (mx J' X') L' R' X' → ce' ≤ 60 + 4 * (t + 1) → sl' ≤ 1500 + 40 * (t + 1) → VS G sb Ln xs 1332 [(0, .ref sb), (1, .ref (ad G 0)), (2, .ref (ad G 27)), (3, .int i)] [] ce' sl' n' sh' (mx J' X') L' R') : VS G sb Ln xs 1054 [(0, .ref sb), (1, .ref (ad G 0)), (2, .ref (ad G 27)), (3, .int i)] [] ce sl n sh (mx J X) L R := by
  have hw := hJ.1.1
  obtain ⟨h1, hs, h24, h27, h30, h35, hck, h25, hv, hpv, hcl, hld, h12, hlen, hE, hb0⟩ := XF hJ
  refine VS_aload_n (pc := 1054) 1 dL_law_1054 rfl rfl ?_
  refine VS_aload_n (pc := 1055) 0 dL_law_1055 rfl rfl ?_
  refine VS_iload_n (pc := 1056) 3 dL_law_1056 rfl rfl ?_
  refine VS_iconst (pc := 1057) (v := 1) dL_law_1057 rfl ?_
  refine VS_iadd (pc := 1058) dL_law_1058 (fun x_1058_1153 e_1058_1153 => ?_)
  have t_1058_1153 : x_1058_1153.toInt = i.toInt + 1 := addT e_1058_1153 rfl rfl (by omega) (by omega)
  refine VS_saldk (pc := 1059) (j := 6 * t + 1) dL_law_1059 (by omega) (by omega) ?_
  refine VS_aload_n (pc := 1060) 0 dL_law_1060 rfl rfl ?_
  refine VS_iload_n (pc := 1061) 3 dL_law_1061 rfl rfl ?_
  refine VS_iconst (pc := 1062) (v := 2) dL_law_1062 rfl ?_
  refine VS_iadd (pc := 1063) dL_law_1063 (fun x_1063_1159 e_1063_1159 => ?_)
  have t_1063_1159 : x_1063_1159.toInt = i.toInt + 2 := addT e_1063_1159 rfl rfl (by omega) (by omega)
  refine VS_saldk (pc := 1064) (j := 6 * t + 2) dL_law_1064 (by omega) (by omega) ?_
  refine VS_aload_n (pc := 1065) 0 dL_law_1065 rfl rfl ?_
  refine VS_iload_n (pc := 1066) 3 dL_law_1066 rfl rfl ?_
  refine VS_iconst (pc := 1067) (v := 3) dL_law_1067 rfl ?_
  refine VS_iadd (pc := 1068) dL_law_1068 (fun x_1068_1165 e_1068_1165 => ?_)
  have t_1068_1165 : x_1068_1165.toInt = i.toInt + 3 := addT e_1068_1165 rfl rfl (by omega) (by omega)
  refine VS_saldk (pc := 1069) (j := 6 * t + 3) dL_law_1069 (by omega) (by omega) ?_
  refine VS_callV (pc := 1070) (As := [.int (xs (6 * t + 1)), .int (xs (6 * t + 2)), .int (xs (6 * t + 3))]) (st := []) (c_X11_put G (t : Int) X (xs (6 * t + 1)) (xs (6 * t + 2)) (xs (6 * t + 3)) hJ ) mf_X11_put ml_L_119 iv_X11_put (wN hw (by decide)) (wS1 hw (by decide) rfl) (by decide) rfl dL_law_1070 rfl rfl (by omega) (by omega) (by omega) (Nat.le_of_ble_eq_true rfl) (fun r1 n1 sh1 I1 L1 R1 hq1 => ?_)
  obtain ⟨hA, hfr, hw1, w1, rfl⟩ := hq1
  obtain ⟨J1, rfl⟩ : ∃ J1, I1 = mx J1 X := ⟨I1, mx_ag (fun a h1 h2 => (hfr a h1 h2).trans (congrFun (rfl : mx J X = mx J X) a |>.trans (mx_i ⟨h1, h2⟩)))⟩
  refine VS_aload_n (pc := 1073) 2 dL_law_1073 rfl rfl ?_
  refine VS_aload_n (pc := 1074) 0 dL_law_1074 rfl rfl ?_
  refine VS_iload_n (pc := 1075) 3 dL_law_1075 rfl rfl ?_
  refine VS_iconst (pc := 1076) (v := 1) dL_law_1076 rfl ?_
  refine VS_iadd (pc := 1077) dL_law_1077 (fun x_1077_1175 e_1077_1175 => ?_)
  have t_1077_1175 : x_1077_1175.toInt = i.toInt + 1 := addT e_1077_1175 rfl rfl (by omega) (by omega)
  refine VS_saldk (pc := 1078) (j := 6 * t + 1) dL_law_1078 (by omega) (by omega) ?_
  refine VS_aload_n (pc := 1079) 0 dL_law_1079 rfl rfl ?_
  refine VS_iload_n (pc := 1080) 3 dL_law_1080 rfl rfl ?_
  refine VS_iconst (pc := 1081) (v := 2) dL_law_1081 rfl ?_
  refine VS_iadd (pc := 1082) dL_law_1082 (fun x_1082_1181 e_1082_1181 => ?_)
  have t_1082_1181 : x_1082_1181.toInt = i.toInt + 2 := addT e_1082_1181 rfl rfl (by omega) (by omega)
  refine VS_saldk (pc := 1083) (j := 6 * t + 2) dL_law_1083 (by omega) (by omega) ?_
  refine VS_aload_n (pc := 1084) 0 dL_law_1084 rfl rfl ?_
  refine VS_iload_n (pc := 1085) 3 dL_law_1085 rfl rfl ?_
  refine VS_iconst (pc := 1086) (v := 3) dL_law_1086 rfl ?_
  refine VS_iadd (pc := 1087) dL_law_1087 (fun x_1087_1187 e_1087_1187 => ?_)
  have t_1087_1187 : x_1087_1187.toInt = i.toInt + 3 := addT e_1087_1187 rfl rfl (by omega) (by omega)
  refine VS_saldk (pc := 1088) (j := 6 * t + 3) dL_law_1088 (by omega) (by omega) ?_
  refine VS_callV (pc := 1089) (As := [.int (xs (6 * t + 1)), .int (xs (6 * t + 2)), .int (xs (6 * t + 3))]) (st := [w1]) (c_X12_put G (xs (6 * t + 1)) (xs (6 * t + 2)) (xs (6 * t + 3)) hw1 hs) mf_X12_put ml_L_122 iv_X12_put (wN hw1 (by decide)) (wS1 hw1 (by decide) rfl) (by decide) rfl dL_law_1089 rfl rfl (by omega) (by omega) (by omega) (by have := cat2 w1; show w1.category + 0 ≤ 8; omega) (fun r2 n2 sh2 I2 L2 R2 hq2 => ?_)
  obtain ⟨rfl, rfl, rfl, rfl, hq2⟩ := hq2
  obtain ⟨X2, rfl, hp⟩ := Lo_qi Lp_sPut hq2
  obtain ⟨e1, hJ3⟩ := two hA hp
  obtain ⟨v2, -, rfl⟩ := id hp
  obtain rfl := Option.some.inj e1
  refine VS_icmp_eq (pc := 1092) (tgt := 1332) dL_law_1092 (by decide) (fun _ => ?_) (fun c => absurd rfl c)
  exact K _ _ _ _ _ _ _ _ hJ3 (by omega) (by omega)
set_option maxRecDepth 100000 in
set_option maxHeartbeats 4000000 in
theorem law_c25 (G : vG) {sb Ln : Nat} {xs : Nat → Int32} {n ce sl : Nat} {sh : vS} {J X : vI} {L : vL} {R : vR} (t : Nat) (i : Int32) (hJ : JZ (t : Int) n sh (mx J X) L R X) (hi : i.toInt = 6 * (t : Int)) (hLn : 6 * t + 6 ≤ Ln) (hL : Ln ≤ 3072) (hce : ce ≤ 60 + 4 * t) (hsl : sl ≤ 1500 + 40 * t) (K : ∀ (n' : Nat) (sh' : vS) (J' : vI) (L' : vL) (R' : vR) (X' : vI) (ce' sl' : Nat), JZ ((t : Int) + 1) n' sh' (mx J' X') L' R' X' → ce' ≤ 60 + 4 * (t + 1) → sl' ≤ 1500 + 40 * (t + 1) → VS G sb Ln xs 1332 [(0, .ref sb), (1, .ref (ad G 0)), (2, .ref (ad G 27)), (3, .int i)] [] ce' sl' n' sh' (mx J' X') L' R') : VS G sb Ln xs 1097 [(0, .ref sb), (1, .ref (ad G 0)), (2, .ref (ad G 27)), (3, .int i)] [] ce sl n sh (mx J X) L R := by
  have hw := hJ.1.1
  obtain ⟨h1, hs, h24, h27, h30, h35, hck, h25, hv, hpv, hcl, hld, h12, hlen, hE, hb0⟩ := XF hJ
  refine VS_aload_n (pc := 1097) 1 dL_law_1097 rfl rfl ?_
  refine VS_aload_n (pc := 1098) 0 dL_law_1098 rfl rfl ?_
  refine VS_iload_n (pc := 1099) 3 dL_law_1099 rfl rfl ?_
  refine VS_iconst (pc := 1100) (v := 1) dL_law_1100 rfl ?_
  refine VS_iadd (pc := 1101) dL_law_1101 (fun x_1101_1206 e_1101_1206 => ?_)
  have t_1101_1206 : x_1101_1206.toInt = i.toInt + 1 := addT e_1101_1206 rfl rfl (by omega) (by omega)
  refine VS_saldk (pc := 1102) (j := 6 * t + 1) dL_law_1102 (by omega) (by omega) ?_
  refine VS_aload_n (pc := 1103) 0 dL_law_1103 rfl rfl ?_
  refine VS_iload_n (pc := 1104) 3 dL_law_1104 rfl rfl ?_
  refine VS_iconst (pc := 1105) (v := 2) dL_law_1105 rfl ?_
  refine VS_iadd (pc := 1106) dL_law_1106 (fun x_1106_1212 e_1106_1212 => ?_)
  have t_1106_1212 : x_1106_1212.toInt = i.toInt + 2 := addT e_1106_1212 rfl rfl (by omega) (by omega)
  refine VS_saldk (pc := 1107) (j := 6 * t + 2) dL_law_1107 (by omega) (by omega) ?_
  refine VS_aload_n (pc := 1108) 0 dL_law_1108 rfl rfl ?_
  refine VS_iload_n (pc := 1109) 3 dL_law_1109 rfl rfl ?_
  refine VS_iconst (pc := 1110) (v := 3) dL_law_1110 rfl ?_
  refine VS_iadd (pc := 1111) dL_law_1111 (fun x_1111_1218 e_1111_1218 => ?_)
  have t_1111_1218 : x_1111_1218.toInt = i.toInt + 3 := addT e_1111_1218 rfl rfl (by omega) (by omega)
  refine VS_saldk (pc := 1112) (j := 6 * t + 3) dL_law_1112 (by omega) (by omega) ?_
  refine VS_callV (pc := 1113) (As := [.int (xs (6 * t + 1)), .int (xs (6 * t + 2)), .int (xs (6 * t + 3))]) (st := []) (c_X11_cell G (t : Int) X (xs (6 * t + 1)) (xs (6 * t + 2)) (xs (6 * t + 3)) hJ ) mf_X11_cell ml_L_123 iv_X11_cell (wN hw (by decide)) (wS1 hw (by decide) rfl) (by decide) rfl dL_law_1113 rfl rfl (by omega) (by omega) (by omega) (Nat.le_of_ble_eq_true rfl) (fun r1 n1 sh1 I1 L1 R1 hq1 => ?_)
  obtain ⟨hA, hfr, hw1, w1, rfl⟩ := hq1
  obtain ⟨J1, rfl⟩ : ∃ J1, I1 = mx J1 X := ⟨I1, mx_ag (fun a h1 h2 => (hfr a h1 h2).trans (congrFun (rfl : mx J X = mx J X) a |>.trans (mx_i ⟨h1, h2⟩)))⟩
  refine VS_aload_n (pc := 1116) 2 dL_law_1116 rfl rfl ?_
  refine VS_aload_n (pc := 1117) 0 dL_law_1117 rfl rfl ?_
  refine VS_iload_n (pc := 1118) 3 dL_law_1118 rfl rfl ?_
  refine VS_iconst (pc := 1119) (v := 1) dL_law_1119 rfl ?_
  refine VS_iadd (pc := 1120) dL_law_1120 (fun x_1120_1228 e_1120_1228 => ?_)
  have t_1120_1228 : x_1120_1228.toInt = i.toInt + 1 := addT e_1120_1228 rfl rfl (by omega) (by omega)
  refine VS_saldk (pc := 1121) (j := 6 * t + 1) dL_law_1121 (by omega) (by omega) ?_
  refine VS_aload_n (pc := 1122) 0 dL_law_1122 rfl rfl ?_
  refine VS_iload_n (pc := 1123) 3 dL_law_1123 rfl rfl ?_
  refine VS_iconst (pc := 1124) (v := 2) dL_law_1124 rfl ?_
  refine VS_iadd (pc := 1125) dL_law_1125 (fun x_1125_1234 e_1125_1234 => ?_)
  have t_1125_1234 : x_1125_1234.toInt = i.toInt + 2 := addT e_1125_1234 rfl rfl (by omega) (by omega)
  refine VS_saldk (pc := 1126) (j := 6 * t + 2) dL_law_1126 (by omega) (by omega) ?_
  refine VS_aload_n (pc := 1127) 0 dL_law_1127 rfl rfl ?_
  refine VS_iload_n (pc := 1128) 3 dL_law_1128 rfl rfl ?_
  refine VS_iconst (pc := 1129) (v := 3) dL_law_1129 rfl ?_
  refine VS_iadd (pc := 1130) dL_law_1130 (fun x_1130_1240 e_1130_1240 => ?_)
  have t_1130_1240 : x_1130_1240.toInt = i.toInt + 3 := addT e_1130_1240 rfl rfl (by omega) (by omega)
  refine VS_saldk (pc := 1131) (j := 6 * t + 3) dL_law_1131 (by omega) (by omega) ?_
  refine VS_callV (pc := 1132) (As := [.int (xs (6 * t + 1)), .int (xs (6 * t + 2)), .int (xs (6 * t + 3))]) (st := [w1]) (c_X12_cell G (xs (6 * t + 1)) (xs (6 * t + 2)) (xs (6 * t + 3)) hw1 hs) mf_X12_cell ml_L_127 iv_X12_cell (wN hw1 (by decide)) (wS1 hw1 (by decide) rfl) (by decide) rfl dL_law_1132 rfl rfl (by omega) (by omega) (by omega) (by have := cat2 w1; show w1.category + 0 ≤ 8; omega) (fun r2 n2 sh2 I2 L2 R2 hq2 => ?_)
  obtain ⟨rfl, rfl, rfl, rfl, hq2⟩ := hq2
  obtain ⟨X2, rfl, hp⟩ := Lo_ql Lp_sCell hq2
  obtain ⟨e1, hJ3⟩ := two hA hp
  obtain ⟨v2, -, rfl⟩ := id hp
  obtain rfl := Option.some.inj e1
  refine VS_lcmp (pc := 1135) dL_law_1135 (fun z ez => ?_)
  have hz0 : z.toInt = 0 := (lcT_eq ez).mpr rfl
  refine VS_if_eq (pc := 1136) (tgt := 1332) dL_law_1136 (by decide) (fun _ => ?_) (fun c => absurd hz0 c)
  exact K _ _ _ _ _ _ _ _ hJ3 (by omega) (by omega)
set_option maxRecDepth 100000 in
set_option maxHeartbeats 4000000 in
theorem law_c26 (G : vG) {sb Ln : Nat} {xs : Nat → Int32} {n ce sl : Nat} {sh : vS} {J X : vI} {L : vL} {R : vR} (t : Nat) (i : Int32) (hJ : JZ (t : Int) n sh (mx J X) L R X) (hi : i.toInt = 6 * (t : Int)) (hLn : 6 * t + 6 ≤ Ln) (hL : Ln ≤ 3072) (hce : ce ≤ 60 + 4 * t) (hsl : sl ≤ 1500 + 40 * t) (K : ∀ (n' : Nat) (sh' : vS) (J' : vI) (L' : vL) (R' : vR) (X' : vI) (ce' sl' : Nat), JZ ((t : Int) + 1) n' sh' (mx J' X') L' R' X' → ce' ≤ 60 + 4 * (t + 1) → sl' ≤ 1500 + 40 * (t + 1) → VS G sb Ln xs 1332 [(0, .ref sb), (1, .ref (ad G 0)), (2, .ref (ad G 27)), (3, .int i)] [] ce' sl' n' sh' (mx J' X') L' R') : VS G sb Ln xs 1141 [(0, .ref sb), (1, .ref (ad G 0)), (2, .ref (ad G 27)), (3, .int i)] [] ce sl n sh (mx J X) L R := by
  have hw := hJ.1.1
  obtain ⟨h1, hs, h24, h27, h30, h35, hck, h25, hv, hpv, hcl, hld, h12, hlen, hE, hb0⟩ := XF hJ
  refine VS_aload_n (pc := 1141) 1 dL_law_1141 rfl rfl ?_
  refine VS_aload_n (pc := 1142) 0 dL_law_1142 rfl rfl ?_
  refine VS_iload_n (pc := 1143) 3 dL_law_1143 rfl rfl ?_
  refine VS_iconst (pc := 1144) (v := 1) dL_law_1144 rfl ?_
  refine VS_iadd (pc := 1145) dL_law_1145 (fun x_1145_1261 e_1145_1261 => ?_)
  have t_1145_1261 : x_1145_1261.toInt = i.toInt + 1 := addT e_1145_1261 rfl rfl (by omega) (by omega)
  refine VS_saldk (pc := 1146) (j := 6 * t + 1) dL_law_1146 (by omega) (by omega) ?_
  refine VS_aload_n (pc := 1147) 0 dL_law_1147 rfl rfl ?_
  refine VS_iload_n (pc := 1148) 3 dL_law_1148 rfl rfl ?_
  refine VS_iconst (pc := 1149) (v := 2) dL_law_1149 rfl ?_
  refine VS_iadd (pc := 1150) dL_law_1150 (fun x_1150_1267 e_1150_1267 => ?_)
  have t_1150_1267 : x_1150_1267.toInt = i.toInt + 2 := addT e_1150_1267 rfl rfl (by omega) (by omega)
  refine VS_saldk (pc := 1151) (j := 6 * t + 2) dL_law_1151 (by omega) (by omega) ?_
  refine VS_aload_n (pc := 1152) 0 dL_law_1152 rfl rfl ?_
  refine VS_iload_n (pc := 1153) 3 dL_law_1153 rfl rfl ?_
  refine VS_iconst (pc := 1154) (v := 3) dL_law_1154 rfl ?_
  refine VS_iadd (pc := 1155) dL_law_1155 (fun x_1155_1273 e_1155_1273 => ?_)
  have t_1155_1273 : x_1155_1273.toInt = i.toInt + 3 := addT e_1155_1273 rfl rfl (by omega) (by omega)
  refine VS_saldk (pc := 1156) (j := 6 * t + 3) dL_law_1156 (by omega) (by omega) ?_
  refine VS_aload_n (pc := 1157) 0 dL_law_1157 rfl rfl ?_
  refine VS_iload_n (pc := 1158) 3 dL_law_1158 rfl rfl ?_
  refine VS_iconst (pc := 1159) (v := 4) dL_law_1159 rfl ?_
  refine VS_iadd (pc := 1160) dL_law_1160 (fun x_1160_1279 e_1160_1279 => ?_)
  have t_1160_1279 : x_1160_1279.toInt = i.toInt + 4 := addT e_1160_1279 rfl rfl (by omega) (by omega)
  refine VS_saldk (pc := 1161) (j := 6 * t + 4) dL_law_1161 (by omega) (by omega) ?_
  refine VS_aload_n (pc := 1162) 0 dL_law_1162 rfl rfl ?_
  refine VS_iload_n (pc := 1163) 3 dL_law_1163 rfl rfl ?_
  refine VS_iconst (pc := 1164) (v := 5) dL_law_1164 rfl ?_
  refine VS_iadd (pc := 1165) dL_law_1165 (fun x_1165_1285 e_1165_1285 => ?_)
  have t_1165_1285 : x_1165_1285.toInt = i.toInt + 5 := addT e_1165_1285 rfl rfl (by omega) (by omega)
  refine VS_saldk (pc := 1166) (j := 6 * t + 5) dL_law_1166 (by omega) (by omega) ?_
  refine VS_callV (pc := 1167) (As := [.int (xs (6 * t + 1)), .int (xs (6 * t + 2)), .int (xs (6 * t + 3)), .int (xs (6 * t + 4)), .int (xs (6 * t + 5))]) (st := []) (c_X11_copy G (t : Int) X (xs (6 * t + 1)) (xs (6 * t + 2)) (xs (6 * t + 3)) (xs (6 * t + 4)) (xs (6 * t + 5)) hJ ) mf_X11_copy ml_L_128 iv_X11_copy (wN hw (by decide)) (wS1 hw (by decide) rfl) (by decide) rfl dL_law_1167 rfl rfl (by omega) (by omega) (by omega) (Nat.le_of_ble_eq_true rfl) (fun r1 n1 sh1 I1 L1 R1 hq1 => ?_)
  obtain ⟨hA, hfr, hw1, w1, rfl⟩ := hq1
  obtain ⟨J1, rfl⟩ : ∃ J1, I1 = mx J1 X := ⟨I1, mx_ag (fun a h1 h2 => (hfr a h1 h2).trans (congrFun (rfl : mx J X = mx J X) a |>.trans (mx_i ⟨h1, h2⟩)))⟩
  refine VS_aload_n (pc := 1170) 2 dL_law_1170 rfl rfl ?_
  refine VS_aload_n (pc := 1171) 0 dL_law_1171 rfl rfl ?_
  refine VS_iload_n (pc := 1172) 3 dL_law_1172 rfl rfl ?_
  refine VS_iconst (pc := 1173) (v := 1) dL_law_1173 rfl ?_
  refine VS_iadd (pc := 1174) dL_law_1174 (fun x_1174_1295 e_1174_1295 => ?_)
  have t_1174_1295 : x_1174_1295.toInt = i.toInt + 1 := addT e_1174_1295 rfl rfl (by omega) (by omega)
  refine VS_saldk (pc := 1175) (j := 6 * t + 1) dL_law_1175 (by omega) (by omega) ?_
  refine VS_aload_n (pc := 1176) 0 dL_law_1176 rfl rfl ?_
  refine VS_iload_n (pc := 1177) 3 dL_law_1177 rfl rfl ?_
  refine VS_iconst (pc := 1178) (v := 2) dL_law_1178 rfl ?_
  refine VS_iadd (pc := 1179) dL_law_1179 (fun x_1179_1301 e_1179_1301 => ?_)
  have t_1179_1301 : x_1179_1301.toInt = i.toInt + 2 := addT e_1179_1301 rfl rfl (by omega) (by omega)
  refine VS_saldk (pc := 1180) (j := 6 * t + 2) dL_law_1180 (by omega) (by omega) ?_
  refine VS_aload_n (pc := 1181) 0 dL_law_1181 rfl rfl ?_
  refine VS_iload_n (pc := 1182) 3 dL_law_1182 rfl rfl ?_
  refine VS_iconst (pc := 1183) (v := 3) dL_law_1183 rfl ?_
  refine VS_iadd (pc := 1184) dL_law_1184 (fun x_1184_1307 e_1184_1307 => ?_)
  have t_1184_1307 : x_1184_1307.toInt = i.toInt + 3 := addT e_1184_1307 rfl rfl (by omega) (by omega)
  refine VS_saldk (pc := 1185) (j := 6 * t + 3) dL_law_1185 (by omega) (by omega) ?_
  refine VS_aload_n (pc := 1186) 0 dL_law_1186 rfl rfl ?_
  refine VS_iload_n (pc := 1187) 3 dL_law_1187 rfl rfl ?_
  refine VS_iconst (pc := 1188) (v := 4) dL_law_1188 rfl ?_
  refine VS_iadd (pc := 1189) dL_law_1189 (fun x_1189_1313 e_1189_1313 => ?_)
  have t_1189_1313 : x_1189_1313.toInt = i.toInt + 4 := addT e_1189_1313 rfl rfl (by omega) (by omega)
  refine VS_saldk (pc := 1190) (j := 6 * t + 4) dL_law_1190 (by omega) (by omega) ?_
  refine VS_aload_n (pc := 1191) 0 dL_law_1191 rfl rfl ?_
  refine VS_iload_n (pc := 1192) 3 dL_law_1192 rfl rfl ?_
  refine VS_iconst (pc := 1193) (v := 5) dL_law_1193 rfl ?_
  refine VS_iadd (pc := 1194) dL_law_1194 (fun x_1194_1319 e_1194_1319 => ?_)
  have t_1194_1319 : x_1194_1319.toInt = i.toInt + 5 := addT e_1194_1319 rfl rfl (by omega) (by omega)
  refine VS_saldk (pc := 1195) (j := 6 * t + 5) dL_law_1195 (by omega) (by omega) ?_
  refine VS_callV (pc := 1196) (As := [.int (xs (6 * t + 1)), .int (xs (6 * t + 2)), .int (xs (6 * t + 3)), .int (xs (6 * t + 4)), .int (xs (6 * t + 5))]) (st := [w1]) (c_X12_copy G (xs (6 * t + 1)) (xs (6 * t + 2)) (xs (6 * t + 3)) (xs (6 * t + 4)) (xs (6 * t + 5)) hw1 hs) mf_X12_copy ml_L_131 iv_X12_copy (wN hw1 (by decide)) (wS1 hw1 (by decide) rfl) (by decide) rfl dL_law_1196 rfl rfl (by omega) (by omega) (by omega) (by have := cat2 w1; show w1.category + 0 ≤ 8; omega) (fun r2 n2 sh2 I2 L2 R2 hq2 => ?_)
  obtain ⟨rfl, rfl, rfl, rfl, hq2⟩ := hq2
  obtain ⟨X2, rfl, hp⟩ := Lo_qi Lp_sCopy hq2
  obtain ⟨e1, hJ3⟩ := two hA hp
  obtain ⟨v2, -, rfl⟩ := id hp
  obtain rfl := Option.some.inj e1
  refine VS_icmp_eq (pc := 1199) (tgt := 1332) dL_law_1199 (by decide) (fun _ => ?_) (fun c => absurd rfl c)
  exact K _ _ _ _ _ _ _ _ hJ3 (by omega) (by omega)
set_option maxRecDepth 100000 in
set_option maxHeartbeats 4000000 in
theorem law_c27 (G : vG) {sb Ln : Nat} {xs : Nat → Int32} {n ce sl : Nat} {sh : vS} {J X : vI} {L : vL} {R : vR} (t : Nat) (i : Int32) (hJ : JZ (t : Int) n sh (mx J X) L R X) (hi : i.toInt = 6 * (t : Int)) (hLn : 6 * t + 6 ≤ Ln) (hL : Ln ≤ 3072) (hce : ce ≤ 60 + 4 * t) (hsl : sl ≤ 1500 + 40 * t) (K : ∀ (n' : Nat) (sh' : vS) (J' : vI) (L' : vL) (R' : vR) (X' : vI) (ce' sl' : Nat), JZ ((t : Int) + 1) n' sh' (mx J' X') L' R' X' → ce' ≤ 60 + 4 * (t + 1) → sl' ≤ 1500 + 40 * (t + 1) → VS G sb Ln xs 1332 [(0, .ref sb), (1, .ref (ad G 0)), (2, .ref (ad G 27)), (3, .int i)] [] ce' sl' n' sh' (mx J' X') L' R') : VS G sb Ln xs 1204 [(0, .ref sb), (1, .ref (ad G 0)), (2, .ref (ad G 27)), (3, .int i)] [] ce sl n sh (mx J X) L R := by
  have hw := hJ.1.1
  obtain ⟨h1, hs, h24, h27, h30, h35, hck, h25, hv, hpv, hcl, hld, h12, hlen, hE, hb0⟩ := XF hJ
  refine VS_aload_n (pc := 1204) 1 dL_law_1204 rfl rfl ?_
  refine VS_aload_n (pc := 1205) 0 dL_law_1205 rfl rfl ?_
  refine VS_iload_n (pc := 1206) 3 dL_law_1206 rfl rfl ?_
  refine VS_iconst (pc := 1207) (v := 1) dL_law_1207 rfl ?_
  refine VS_iadd (pc := 1208) dL_law_1208 (fun x_1208_1338 e_1208_1338 => ?_)
  have t_1208_1338 : x_1208_1338.toInt = i.toInt + 1 := addT e_1208_1338 rfl rfl (by omega) (by omega)
  refine VS_saldk (pc := 1209) (j := 6 * t + 1) dL_law_1209 (by omega) (by omega) ?_
  refine VS_callV (pc := 1210) (As := [.int (xs (6 * t + 1))]) (st := []) (c_X11_tell G (t : Int) X (xs (6 * t + 1)) hJ ) mf_X11_tell ml_L_132 iv_X11_tell (wN hw (by decide)) (wS1 hw (by decide) rfl) (by decide) rfl dL_law_1210 rfl rfl (by omega) (by omega) (by omega) (Nat.le_of_ble_eq_true rfl) (fun r1 n1 sh1 I1 L1 R1 hq1 => ?_)
  obtain ⟨hA, hfr, hw1, w1, rfl⟩ := hq1
  obtain ⟨J1, rfl⟩ : ∃ J1, I1 = mx J1 X := ⟨I1, mx_ag (fun a h1 h2 => (hfr a h1 h2).trans (congrFun (rfl : mx J X = mx J X) a |>.trans (mx_i ⟨h1, h2⟩)))⟩
  refine VS_aload_n (pc := 1213) 2 dL_law_1213 rfl rfl ?_
  refine VS_aload_n (pc := 1214) 0 dL_law_1214 rfl rfl ?_
  refine VS_iload_n (pc := 1215) 3 dL_law_1215 rfl rfl ?_
  refine VS_iconst (pc := 1216) (v := 1) dL_law_1216 rfl ?_
  refine VS_iadd (pc := 1217) dL_law_1217 (fun x_1217_1348 e_1217_1348 => ?_)
  have t_1217_1348 : x_1217_1348.toInt = i.toInt + 1 := addT e_1217_1348 rfl rfl (by omega) (by omega)
  refine VS_saldk (pc := 1218) (j := 6 * t + 1) dL_law_1218 (by omega) (by omega) ?_
  refine VS_callV (pc := 1219) (As := [.int (xs (6 * t + 1))]) (st := [w1]) (c_X12_tell G (xs (6 * t + 1)) hw1 h1) mf_X12_tell ml_L_135 iv_X12_tell (wN hw1 (by decide)) (wS1 hw1 (by decide) rfl) (by decide) rfl dL_law_1219 rfl rfl (by omega) (by omega) (by omega) (by have := cat2 w1; show w1.category + 0 ≤ 8; omega) (fun r2 n2 sh2 I2 L2 R2 hq2 => ?_)
  obtain ⟨rfl, rfl, rfl, rfl, hq2⟩ := hq2
  obtain ⟨X2, rfl, hp⟩ := Lo_qi Lp_sTell hq2
  obtain ⟨e1, hJ3⟩ := two hA hp
  obtain ⟨v2, -, rfl⟩ := id hp
  obtain rfl := Option.some.inj e1
  refine VS_icmp_eq (pc := 1222) (tgt := 1332) dL_law_1222 (by decide) (fun _ => ?_) (fun c => absurd rfl c)
  exact K _ _ _ _ _ _ _ _ hJ3 (by omega) (by omega)
set_option maxRecDepth 100000 in
set_option maxHeartbeats 4000000 in
theorem law_c28 (G : vG) {sb Ln : Nat} {xs : Nat → Int32} {n ce sl : Nat} {sh : vS} {J X : vI} {L : vL} {R : vR} (t : Nat) (i : Int32) (hJ : JZ (t : Int) n sh (mx J X) L R X) (hi : i.toInt = 6 * (t : Int)) (hLn : 6 * t + 6 ≤ Ln) (hL : Ln ≤ 3072) (hce : ce ≤ 60 + 4 * t) (hsl : sl ≤ 1500 + 40 * t) (K : ∀ (n' : Nat) (sh' : vS) (J' : vI) (L' : vL) (R' : vR) (X' : vI) (ce' sl' : Nat), JZ ((t : Int) + 1) n' sh' (mx J' X') L' R' X' → ce' ≤ 60 + 4 * (t + 1) → sl' ≤ 1500 + 40 * (t + 1) → VS G sb Ln xs 1332 [(0, .ref sb), (1, .ref (ad G 0)), (2, .ref (ad G 27)), (3, .int i)] [] ce' sl' n' sh' (mx J' X') L' R') : VS G sb Ln xs 1227 [(0, .ref sb), (1, .ref (ad G 0)), (2, .ref (ad G 27)), (3, .int i)] [] ce sl n sh (mx J X) L R := by
  have hw := hJ.1.1
  obtain ⟨h1, hs, h24, h27, h30, h35, hck, h25, hv, hpv, hcl, hld, h12, hlen, hE, hb0⟩ := XF hJ
  refine VS_aload_n (pc := 1227) 1 dL_law_1227 rfl rfl ?_
  refine VS_aload_n (pc := 1228) 0 dL_law_1228 rfl rfl ?_
  refine VS_iload_n (pc := 1229) 3 dL_law_1229 rfl rfl ?_
  refine VS_iconst (pc := 1230) (v := 1) dL_law_1230 rfl ?_
  refine VS_iadd (pc := 1231) dL_law_1231 (fun x_1231_1367 e_1231_1367 => ?_)
  have t_1231_1367 : x_1231_1367.toInt = i.toInt + 1 := addT e_1231_1367 rfl rfl (by omega) (by omega)
  refine VS_saldk (pc := 1232) (j := 6 * t + 1) dL_law_1232 (by omega) (by omega) ?_
  refine VS_callV (pc := 1233) (As := [.int (xs (6 * t + 1))]) (st := []) (c_X11_greet G (t : Int) X (xs (6 * t + 1)) hJ ) mf_X11_greet ml_L_136 iv_X11_greet (wN hw (by decide)) (wS1 hw (by decide) rfl) (by decide) rfl dL_law_1233 rfl rfl (by omega) (by omega) (by omega) (Nat.le_of_ble_eq_true rfl) (fun r1 n1 sh1 I1 L1 R1 hq1 => ?_)
  obtain ⟨hA, hfr, hw1, w1, rfl⟩ := hq1
  obtain ⟨J1, rfl⟩ : ∃ J1, I1 = mx J1 X := ⟨I1, mx_ag (fun a h1 h2 => (hfr a h1 h2).trans (congrFun (rfl : mx J X = mx J X) a |>.trans (mx_i ⟨h1, h2⟩)))⟩
  refine VS_aload_n (pc := 1236) 2 dL_law_1236 rfl rfl ?_
  refine VS_aload_n (pc := 1237) 0 dL_law_1237 rfl rfl ?_
  refine VS_iload_n (pc := 1238) 3 dL_law_1238 rfl rfl ?_
  refine VS_iconst (pc := 1239) (v := 1) dL_law_1239 rfl ?_
  refine VS_iadd (pc := 1240) dL_law_1240 (fun x_1240_1377 e_1240_1377 => ?_)
  have t_1240_1377 : x_1240_1377.toInt = i.toInt + 1 := addT e_1240_1377 rfl rfl (by omega) (by omega)
  refine VS_saldk (pc := 1241) (j := 6 * t + 1) dL_law_1241 (by omega) (by omega) ?_
  refine VS_callV (pc := 1242) (As := [.int (xs (6 * t + 1))]) (st := [w1]) (c_X12_greet G (xs (6 * t + 1)) hw1 h35) mf_X12_greet ml_L_139 iv_X12_greet (wN hw1 (by decide)) (wS1 hw1 (by decide) rfl) (by decide) rfl dL_law_1242 rfl rfl (by omega) (by omega) (by omega) (by have := cat2 w1; show w1.category + 0 ≤ 8; omega) (fun r2 n2 sh2 I2 L2 R2 hq2 => ?_)
  obtain ⟨rfl, rfl, rfl, rfl, hq2⟩ := hq2
  obtain ⟨X2, rfl, hp⟩ := Lo_qi Lp_sGreet hq2
  obtain ⟨e1, hJ3⟩ := two hA hp
  obtain ⟨v2, -, rfl⟩ := id hp
  obtain rfl := Option.some.inj e1
  refine VS_icmp_eq (pc := 1245) (tgt := 1332) dL_law_1245 (by decide) (fun _ => ?_) (fun c => absurd rfl c)
  exact K _ _ _ _ _ _ _ _ hJ3 (by omega) (by omega)
set_option maxRecDepth 100000 in
set_option maxHeartbeats 4000000 in
theorem law_c29 (G : vG) {sb Ln : Nat} {xs : Nat → Int32} {n ce sl : Nat} {sh : vS} {J X : vI} {L : vL} {R : vR} (t : Nat) (i : Int32) (hJ : JZ (t : Int) n sh (mx J X) L R X) (hi : i.toInt = 6 * (t : Int)) (hLn : 6 * t + 6 ≤ Ln) (hL : Ln ≤ 3072) (hce : ce ≤ 60 + 4 * t) (hsl : sl ≤ 1500 + 40 * t) (K : ∀ (n' : Nat) (sh' : vS) (J' : vI) (L' : vL) (R' : vR) (X' : vI) (ce' sl' : Nat), JZ ((t : Int) + 1) n' sh' (mx J' X') L' R' X' → ce' ≤ 60 + 4 * (t + 1) → sl' ≤ 1500 + 40 * (t + 1) → VS G sb Ln xs 1332 [(0, .ref sb), (1, .ref (ad G 0)), (2, .ref (ad G 27)), (3, .int i)] [] ce' sl' n' sh' (mx J' X') L' R') : VS G sb Ln xs 1250 [(0, .ref sb), (1, .ref (ad G 0)), (2, .ref (ad G 27)), (3, .int i)] [] ce sl n sh (mx J X) L R := by
  have hw := hJ.1.1
  obtain ⟨h1, hs, h24, h27, h30, h35, hck, h25, hv, hpv, hcl, hld, h12, hlen, hE, hb0⟩ := XF hJ
  refine VS_aload_n (pc := 1250) 1 dL_law_1250 rfl rfl ?_
  refine VS_aload_n (pc := 1251) 0 dL_law_1251 rfl rfl ?_
  refine VS_iload_n (pc := 1252) 3 dL_law_1252 rfl rfl ?_
  refine VS_iconst (pc := 1253) (v := 1) dL_law_1253 rfl ?_
  refine VS_iadd (pc := 1254) dL_law_1254 (fun x_1254_1396 e_1254_1396 => ?_)
  have t_1254_1396 : x_1254_1396.toInt = i.toInt + 1 := addT e_1254_1396 rfl rfl (by omega) (by omega)
  refine VS_saldk (pc := 1255) (j := 6 * t + 1) dL_law_1255 (by omega) (by omega) ?_
  refine VS_aload_n (pc := 1256) 0 dL_law_1256 rfl rfl ?_
  refine VS_iload_n (pc := 1257) 3 dL_law_1257 rfl rfl ?_
  refine VS_iconst (pc := 1258) (v := 2) dL_law_1258 rfl ?_
  refine VS_iadd (pc := 1259) dL_law_1259 (fun x_1259_1402 e_1259_1402 => ?_)
  have t_1259_1402 : x_1259_1402.toInt = i.toInt + 2 := addT e_1259_1402 rfl rfl (by omega) (by omega)
  refine VS_saldk (pc := 1260) (j := 6 * t + 2) dL_law_1260 (by omega) (by omega) ?_
  refine VS_callV (pc := 1261) (As := [.int (xs (6 * t + 1)), .int (xs (6 * t + 2))]) (st := []) (c_X11_as G (t : Int) X (xs (6 * t + 1)) (xs (6 * t + 2)) hJ ) mf_X11_as ml_L_140 iv_X11_as (wN hw (by decide)) (wS1 hw (by decide) rfl) (by decide) rfl dL_law_1261 rfl rfl (by omega) (by omega) (by omega) (Nat.le_of_ble_eq_true rfl) (fun r1 n1 sh1 I1 L1 R1 hq1 => ?_)
  obtain ⟨hA, hfr, hw1, w1, rfl⟩ := hq1
  obtain ⟨J1, rfl⟩ : ∃ J1, I1 = mx J1 X := ⟨I1, mx_ag (fun a h1 h2 => (hfr a h1 h2).trans (congrFun (rfl : mx J X = mx J X) a |>.trans (mx_i ⟨h1, h2⟩)))⟩
  refine VS_aload_n (pc := 1264) 2 dL_law_1264 rfl rfl ?_
  refine VS_aload_n (pc := 1265) 0 dL_law_1265 rfl rfl ?_
  refine VS_iload_n (pc := 1266) 3 dL_law_1266 rfl rfl ?_
  refine VS_iconst (pc := 1267) (v := 1) dL_law_1267 rfl ?_
  refine VS_iadd (pc := 1268) dL_law_1268 (fun x_1268_1412 e_1268_1412 => ?_)
  have t_1268_1412 : x_1268_1412.toInt = i.toInt + 1 := addT e_1268_1412 rfl rfl (by omega) (by omega)
  refine VS_saldk (pc := 1269) (j := 6 * t + 1) dL_law_1269 (by omega) (by omega) ?_
  refine VS_aload_n (pc := 1270) 0 dL_law_1270 rfl rfl ?_
  refine VS_iload_n (pc := 1271) 3 dL_law_1271 rfl rfl ?_
  refine VS_iconst (pc := 1272) (v := 2) dL_law_1272 rfl ?_
  refine VS_iadd (pc := 1273) dL_law_1273 (fun x_1273_1418 e_1273_1418 => ?_)
  have t_1273_1418 : x_1273_1418.toInt = i.toInt + 2 := addT e_1273_1418 rfl rfl (by omega) (by omega)
  refine VS_saldk (pc := 1274) (j := 6 * t + 2) dL_law_1274 (by omega) (by omega) ?_
  refine VS_callV (pc := 1275) (As := [.int (xs (6 * t + 1)), .int (xs (6 * t + 2))]) (st := [w1]) (c_X12_as G (xs (6 * t + 1)) (xs (6 * t + 2)) hw1 h35) mf_X12_as ml_L_143 iv_X12_as (wN hw1 (by decide)) (wS1 hw1 (by decide) rfl) (by decide) rfl dL_law_1275 rfl rfl (by omega) (by omega) (by omega) (by have := cat2 w1; show w1.category + 0 ≤ 8; omega) (fun r2 n2 sh2 I2 L2 R2 hq2 => ?_)
  obtain ⟨rfl, rfl, rfl, rfl, hq2⟩ := hq2
  obtain ⟨X2, rfl, hp⟩ := Lo_qi Lp_sAs hq2
  obtain ⟨e1, hJ3⟩ := two hA hp
  obtain ⟨v2, -, rfl⟩ := id hp
  obtain rfl := Option.some.inj e1
  refine VS_icmp_eq (pc := 1278) (tgt := 1332) dL_law_1278 (by decide) (fun _ => ?_) (fun c => absurd rfl c)
  exact K _ _ _ _ _ _ _ _ hJ3 (by omega) (by omega)
set_option maxRecDepth 100000 in
set_option maxHeartbeats 4000000 in
theorem law_c30 (G : vG) {sb Ln : Nat} {xs : Nat → Int32} {n ce sl : Nat} {sh : vS} {J X : vI} {L : vL} {R : vR} (t : Nat) (i : Int32) (hJ : JZ (t : Int) n sh (mx J X) L R X) (hi : i.toInt = 6 * (t : Int)) (hLn : 6 * t + 6 ≤ Ln) (hL : Ln ≤ 3072) (hce : ce ≤ 60 + 4 * t) (hsl : sl ≤ 1500 + 40 * t) (K : ∀ (n' : Nat) (sh' : vS) (J' : vI) (L' : vL) (R' : vR) (X' : vI) (ce' sl' : Nat), JZ ((t : Int) + 1) n' sh' (mx J' X') L' R' X' → ce' ≤ 60 + 4 * (t + 1) → sl' ≤ 1500 + 40 * (t + 1) → VS G sb Ln xs 1332 [(0, .ref sb), (1, .ref (ad G 0)), (2, .ref (ad G 27)), (3, .int i)] [] ce' sl' n' sh' (mx J' X') L' R') : VS G sb Ln xs 1283 [(0, .ref sb), (1, .ref (ad G 0)), (2, .ref (ad G 27)), (3, .int i)] [] ce sl n sh (mx J X) L R := by
  have hw := hJ.1.1
  obtain ⟨h1, hs, h24, h27, h30, h35, hck, h25, hv, hpv, hcl, hld, h12, hlen, hE, hb0⟩ := XF hJ
  refine VS_aload_n (pc := 1283) 1 dL_law_1283 rfl rfl ?_
  refine VS_callV (pc := 1284) (As := []) (st := []) (c_X11_trace G (t : Int) X  hJ ) mf_X11_trace ml_L_144 iv_X11_trace (wN hw (by decide)) (wS1 hw (by decide) rfl) (by decide) rfl dL_law_1284 rfl rfl (by omega) (by omega) (by omega) (Nat.le_of_ble_eq_true rfl) (fun r1 n1 sh1 I1 L1 R1 hq1 => ?_)
  obtain ⟨hA, hfr, hw1, w1, rfl⟩ := hq1
  obtain ⟨J1, rfl⟩ : ∃ J1, I1 = mx J1 X := ⟨I1, mx_ag (fun a h1 h2 => (hfr a h1 h2).trans (congrFun (rfl : mx J X = mx J X) a |>.trans (mx_i ⟨h1, h2⟩)))⟩
  refine VS_aload_n (pc := 1287) 2 dL_law_1287 rfl rfl ?_
  refine VS_callV (pc := 1288) (As := []) (st := [w1]) (c_X12_trace G  hw1 ) mf_X12_trace ml_L_147 iv_X12_trace (wN hw1 (by decide)) (wS1 hw1 (by decide) rfl) (by decide) rfl dL_law_1288 rfl rfl (by omega) (by omega) (by omega) (by have := cat2 w1; show w1.category + 0 ≤ 8; omega) (fun r2 n2 sh2 I2 L2 R2 hq2 => ?_)
  obtain ⟨rfl, rfl, rfl, rfl, hq2⟩ := hq2
  obtain ⟨X2, rfl, hp⟩ := Lo_eN (J := J1) (X := X) rfl hq2
  obtain ⟨e1, hJ3⟩ := two hA hp
  obtain ⟨-, rfl⟩ := id hp
  obtain rfl := Option.some.inj e1
  refine VS_icmp_eq (pc := 1291) (tgt := 1332) dL_law_1291 (by decide) (fun _ => ?_) (fun c => absurd rfl c)
  exact K _ _ _ _ _ _ _ _ hJ3 (by omega) (by omega)
set_option maxRecDepth 100000 in
set_option maxHeartbeats 4000000 in
theorem law_c31 (G : vG) {sb Ln : Nat} {xs : Nat → Int32} {n ce sl : Nat} {sh : vS} {J X : vI} {L : vL} {R : vR} (t : Nat) (i : Int32) (hJ : JZ (t : Int) n sh (mx J X) L R X) (hi : i.toInt = 6 * (t : Int)) (hLn : 6 * t + 6 ≤ Ln) (hL : Ln ≤ 3072) (hce : ce ≤ 60 + 4 * t) (hsl : sl ≤ 1500 + 40 * t) (K : ∀ (n' : Nat) (sh' : vS) (J' : vI) (L' : vL) (R' : vR) (X' : vI) (ce' sl' : Nat), JZ ((t : Int) + 1) n' sh' (mx J' X') L' R' X' → ce' ≤ 60 + 4 * (t + 1) → sl' ≤ 1500 + 40 * (t + 1) → VS G sb Ln xs 1332 [(0, .ref sb), (1, .ref (ad G 0)), (2, .ref (ad G 27)), (3, .int i)] [] ce' sl' n' sh' (mx J' X') L' R') : VS G sb Ln xs 1296 [(0, .ref sb), (1, .ref (ad G 0)), (2, .ref (ad G 27)), (3, .int i)] [] ce sl n sh (mx J X) L R := by
  have hw := hJ.1.1
  obtain ⟨h1, hs, h24, h27, h30, h35, hck, h25, hv, hpv, hcl, hld, h12, hlen, hE, hb0⟩ := XF hJ
  refine VS_aload_n (pc := 1296) 1 dL_law_1296 rfl rfl ?_
  refine VS_callV (pc := 1297) (As := []) (st := []) (c_X11_fault G (t : Int) X  hJ ) mf_X11_fault ml_L_148 iv_X11_fault (wN hw (by decide)) (wS1 hw (by decide) rfl) (by decide) rfl dL_law_1297 rfl rfl (by omega) (by omega) (by omega) (Nat.le_of_ble_eq_true rfl) (fun r1 n1 sh1 I1 L1 R1 hq1 => ?_)
  obtain ⟨hA, hfr, hw1, w1, rfl⟩ := hq1
  obtain ⟨J1, rfl⟩ : ∃ J1, I1 = mx J1 X := ⟨I1, mx_ag (fun a h1 h2 => (hfr a h1 h2).trans (congrFun (rfl : mx J X = mx J X) a |>.trans (mx_i ⟨h1, h2⟩)))⟩
  refine VS_aload_n (pc := 1300) 2 dL_law_1300 rfl rfl ?_
  refine VS_callV (pc := 1301) (As := []) (st := [w1]) (c_X12_fault G  hw1 ) mf_X12_fault ml_L_151 iv_X12_fault (wN hw1 (by decide)) (wS1 hw1 (by decide) rfl) (by decide) rfl dL_law_1301 rfl rfl (by omega) (by omega) (by omega) (by have := cat2 w1; show w1.category + 0 ≤ 8; omega) (fun r2 n2 sh2 I2 L2 R2 hq2 => ?_)
  obtain ⟨rfl, rfl, rfl, rfl, hq2⟩ := hq2
  obtain ⟨X2, rfl, hp⟩ := Lo_eN (J := J1) (X := X) rfl hq2
  obtain ⟨e1, hJ3⟩ := two hA hp
  obtain ⟨-, rfl⟩ := id hp
  obtain rfl := Option.some.inj e1
  refine VS_icmp_eq (pc := 1304) (tgt := 1332) dL_law_1304 (by decide) (fun _ => ?_) (fun c => absurd rfl c)
  exact K _ _ _ _ _ _ _ _ hJ3 (by omega) (by omega)
set_option maxRecDepth 100000 in
set_option maxHeartbeats 4000000 in
theorem law_c32 (G : vG) {sb Ln : Nat} {xs : Nat → Int32} {n ce sl : Nat} {sh : vS} {J X : vI} {L : vL} {R : vR} (t : Nat) (i : Int32) (hJ : JZ (t : Int) n sh (mx J X) L R X) (hi : i.toInt = 6 * (t : Int)) (hLn : 6 * t + 6 ≤ Ln) (hL : Ln ≤ 3072) (hce : ce ≤ 60 + 4 * t) (hsl : sl ≤ 1500 + 40 * t) (K : ∀ (n' : Nat) (sh' : vS) (J' : vI) (L' : vL) (R' : vR) (X' : vI) (ce' sl' : Nat), JZ ((t : Int) + 1) n' sh' (mx J' X') L' R' X' → ce' ≤ 60 + 4 * (t + 1) → sl' ≤ 1500 + 40 * (t + 1) → VS G sb Ln xs 1332 [(0, .ref sb), (1, .ref (ad G 0)), (2, .ref (ad G 27)), (3, .int i)] [] ce' sl' n' sh' (mx J' X') L' R') : VS G sb Ln xs 1309 [(0, .ref sb), (1, .ref (ad G 0)), (2, .ref (ad G 27)), (3, .int i)] [] ce sl n sh (mx J X) L R := by
  have hw := hJ.1.1
  obtain ⟨h1, hs, h24, h27, h30, h35, hck, h25, hv, hpv, hcl, hld, h12, hlen, hE, hb0⟩ := XF hJ
  refine VS_aload_n (pc := 1309) 1 dL_law_1309 rfl rfl ?_
  refine VS_aload_n (pc := 1310) 0 dL_law_1310 rfl rfl ?_
  refine VS_iload_n (pc := 1311) 3 dL_law_1311 rfl rfl ?_
  refine VS_iconst (pc := 1312) (v := 1) dL_law_1312 rfl ?_
  refine VS_iadd (pc := 1313) dL_law_1313 (fun x_1313_1471 e_1313_1471 => ?_)
  have t_1313_1471 : x_1313_1471.toInt = i.toInt + 1 := addT e_1313_1471 rfl rfl (by omega) (by omega)
  refine VS_saldk (pc := 1314) (j := 6 * t + 1) dL_law_1314 (by omega) (by omega) ?_
  refine VS_callV (pc := 1315) (As := [.int (xs (6 * t + 1))]) (st := []) (c_X11_told G (t : Int) X (xs (6 * t + 1)) hJ ) mf_X11_told ml_L_152 iv_X11_told (wN hw (by decide)) (wS1 hw (by decide) rfl) (by decide) rfl dL_law_1315 rfl rfl (by omega) (by omega) (by omega) (Nat.le_of_ble_eq_true rfl) (fun r1 n1 sh1 I1 L1 R1 hq1 => ?_)
  obtain ⟨hA, hfr, hw1, w1, rfl⟩ := hq1
  obtain ⟨J1, rfl⟩ : ∃ J1, I1 = mx J1 X := ⟨I1, mx_ag (fun a h1 h2 => (hfr a h1 h2).trans (congrFun (rfl : mx J X = mx J X) a |>.trans (mx_i ⟨h1, h2⟩)))⟩
  refine VS_aload_n (pc := 1318) 2 dL_law_1318 rfl rfl ?_
  refine VS_aload_n (pc := 1319) 0 dL_law_1319 rfl rfl ?_
  refine VS_iload_n (pc := 1320) 3 dL_law_1320 rfl rfl ?_
  refine VS_iconst (pc := 1321) (v := 1) dL_law_1321 rfl ?_
  refine VS_iadd (pc := 1322) dL_law_1322 (fun x_1322_1481 e_1322_1481 => ?_)
  have t_1322_1481 : x_1322_1481.toInt = i.toInt + 1 := addT e_1322_1481 rfl rfl (by omega) (by omega)
  refine VS_saldk (pc := 1323) (j := 6 * t + 1) dL_law_1323 (by omega) (by omega) ?_
  refine VS_callV (pc := 1324) (As := [.int (xs (6 * t + 1))]) (st := [w1]) (c_X12_told G (xs (6 * t + 1)) hw1 ) mf_X12_told ml_L_155 iv_X12_told (wN hw1 (by decide)) (wS1 hw1 (by decide) rfl) (by decide) rfl dL_law_1324 rfl rfl (by omega) (by omega) (by omega) (by have := cat2 w1; show w1.category + 0 ≤ 8; omega) (fun r2 n2 sh2 I2 L2 R2 hq2 => ?_)
  obtain ⟨rfl, rfl, rfl, rfl, hq2⟩ := hq2
  obtain ⟨X2, rfl, hp⟩ := Lo_eN (J := J1) (X := X) Ln_sTold hq2
  obtain ⟨e1, hJ3⟩ := two hA hp
  obtain ⟨-, rfl⟩ := id hp
  obtain rfl := Option.some.inj e1
  refine VS_icmp_eq (pc := 1327) (tgt := 1332) dL_law_1327 (by decide) (fun _ => ?_) (fun c => absurd rfl c)
  exact K _ _ _ _ _ _ _ _ hJ3 (by omega) (by omega)
