theorem d_L_law_812 : decode b_L_law 812 = .ok (.aload_n 1, 1) := by decide +kernel
theorem d_L_law_813 : decode b_L_law 813 = .ok (.aload_n 0, 1) := by decide +kernel
theorem d_L_law_814 : decode b_L_law 814 = .ok (.iload 4, 2) := by decide +kernel
theorem d_L_law_816 : decode b_L_law 816 = .ok (.iconst 1, 1) := by decide +kernel
theorem d_L_law_817 : decode b_L_law 817 = .ok (.iadd, 1) := by decide +kernel
theorem d_L_law_818 : decode b_L_law 818 = .ok (.iaload, 1) := by decide +kernel
theorem d_L_law_819 : decode b_L_law 819 = .ok (.aload_n 0, 1) := by decide +kernel
theorem d_L_law_820 : decode b_L_law 820 = .ok (.iload 4, 2) := by decide +kernel
theorem d_L_law_822 : decode b_L_law 822 = .ok (.iconst 2, 1) := by decide +kernel
theorem d_L_law_823 : decode b_L_law 823 = .ok (.iadd, 1) := by decide +kernel
theorem d_L_law_824 : decode b_L_law 824 = .ok (.iaload, 1) := by decide +kernel
theorem d_L_law_825 : decode b_L_law 825 = .ok (.aload_n 0, 1) := by decide +kernel
theorem d_L_law_826 : decode b_L_law 826 = .ok (.iload 4, 2) := by decide +kernel
theorem d_L_law_828 : decode b_L_law 828 = .ok (.iconst 3, 1) := by decide +kernel
theorem d_L_law_829 : decode b_L_law 829 = .ok (.iadd, 1) := by decide +kernel
theorem d_L_law_830 : decode b_L_law 830 = .ok (.iaload, 1) := by decide +kernel
theorem d_L_law_831 : decode b_L_law 831 = .ok (.i2l, 1) := by decide +kernel
theorem d_L_law_832 : decode b_L_law 832 = .ok (.bipush 32, 2) := by decide +kernel
theorem d_L_law_834 : decode b_L_law 834 = .ok (.lshl, 1) := by decide +kernel
theorem d_L_law_835 : decode b_L_law 835 = .ok (.aload_n 0, 1) := by decide +kernel
theorem d_L_law_836 : decode b_L_law 836 = .ok (.iload 4, 2) := by decide +kernel
theorem d_L_law_838 : decode b_L_law 838 = .ok (.iconst 4, 1) := by decide +kernel
theorem d_L_law_839 : decode b_L_law 839 = .ok (.iadd, 1) := by decide +kernel
theorem d_L_law_840 : decode b_L_law 840 = .ok (.iaload, 1) := by decide +kernel
theorem d_L_law_841 : decode b_L_law 841 = .ok (.i2l, 1) := by decide +kernel
theorem d_L_law_842 : decode b_L_law 842 = .ok (.ldc2_w 36, 3) := by decide +kernel
theorem d_L_law_845 : decode b_L_law 845 = .ok (.land, 1) := by decide +kernel
theorem d_L_law_846 : decode b_L_law 846 = .ok (.lor, 1) := by decide +kernel
theorem d_L_law_847 : decode b_L_law 847 = .ok (.aload_n 0, 1) := by decide +kernel
theorem d_L_law_848 : decode b_L_law 848 = .ok (.iload 4, 2) := by decide +kernel
theorem d_L_law_850 : decode b_L_law 850 = .ok (.iconst 5, 1) := by decide +kernel
theorem d_L_law_851 : decode b_L_law 851 = .ok (.iadd, 1) := by decide +kernel
theorem d_L_law_852 : decode b_L_law 852 = .ok (.iaload, 1) := by decide +kernel
theorem d_L_law_853 : decode b_L_law 853 = .ok (.i2l, 1) := by decide +kernel
theorem d_L_law_854 : decode b_L_law 854 = .ok (.bipush 32, 2) := by decide +kernel
theorem d_L_law_856 : decode b_L_law 856 = .ok (.lshl, 1) := by decide +kernel
theorem d_L_law_857 : decode b_L_law 857 = .ok (.aload_n 0, 1) := by decide +kernel
theorem d_L_law_858 : decode b_L_law 858 = .ok (.iload 4, 2) := by decide +kernel
theorem d_L_law_860 : decode b_L_law 860 = .ok (.bipush 6, 2) := by decide +kernel
theorem d_L_law_862 : decode b_L_law 862 = .ok (.iadd, 1) := by decide +kernel
theorem d_L_law_863 : decode b_L_law 863 = .ok (.iaload, 1) := by decide +kernel
theorem d_L_law_864 : decode b_L_law 864 = .ok (.i2l, 1) := by decide +kernel
theorem d_L_law_865 : decode b_L_law 865 = .ok (.ldc2_w 36, 3) := by decide +kernel
theorem d_L_law_868 : decode b_L_law 868 = .ok (.land, 1) := by decide +kernel
theorem d_L_law_869 : decode b_L_law 869 = .ok (.lor, 1) := by decide +kernel
theorem d_L_law_870 : decode b_L_law 870 = .ok (.aload_n 0, 1) := by decide +kernel
theorem d_L_law_871 : decode b_L_law 871 = .ok (.iload 4, 2) := by decide +kernel
theorem d_L_law_873 : decode b_L_law 873 = .ok (.bipush 7, 2) := by decide +kernel
theorem d_L_law_875 : decode b_L_law 875 = .ok (.iadd, 1) := by decide +kernel
theorem d_L_law_876 : decode b_L_law 876 = .ok (.iaload, 1) := by decide +kernel
theorem d_L_law_877 : decode b_L_law 877 = .ok (.i2l, 1) := by decide +kernel
theorem d_L_law_878 : decode b_L_law 878 = .ok (.bipush 32, 2) := by decide +kernel
theorem d_L_law_880 : decode b_L_law 880 = .ok (.lshl, 1) := by decide +kernel
theorem d_L_law_881 : decode b_L_law 881 = .ok (.aload_n 0, 1) := by decide +kernel
theorem d_L_law_882 : decode b_L_law 882 = .ok (.iload 4, 2) := by decide +kernel
theorem d_L_law_884 : decode b_L_law 884 = .ok (.bipush 8, 2) := by decide +kernel
theorem d_L_law_886 : decode b_L_law 886 = .ok (.iadd, 1) := by decide +kernel
theorem d_L_law_887 : decode b_L_law 887 = .ok (.iaload, 1) := by decide +kernel
theorem d_L_law_888 : decode b_L_law 888 = .ok (.i2l, 1) := by decide +kernel
theorem d_L_law_889 : decode b_L_law 889 = .ok (.ldc2_w 36, 3) := by decide +kernel
theorem d_L_law_892 : decode b_L_law 892 = .ok (.land, 1) := by decide +kernel
theorem d_L_law_893 : decode b_L_law 893 = .ok (.lor, 1) := by decide +kernel
theorem d_L_law_894 : decode b_L_law 894 = .ok (.invokevirtual 102, 3) := by decide +kernel
theorem d_L_law_897 : decode b_L_law 897 = .ok (.aload_n 2, 1) := by decide +kernel
theorem d_L_law_898 : decode b_L_law 898 = .ok (.aload_n 0, 1) := by decide +kernel
theorem d_L_law_899 : decode b_L_law 899 = .ok (.iload 4, 2) := by decide +kernel
theorem d_L_law_901 : decode b_L_law 901 = .ok (.iconst 1, 1) := by decide +kernel
theorem d_L_law_902 : decode b_L_law 902 = .ok (.iadd, 1) := by decide +kernel
theorem d_L_law_903 : decode b_L_law 903 = .ok (.iaload, 1) := by decide +kernel
theorem d_L_law_904 : decode b_L_law 904 = .ok (.aload_n 0, 1) := by decide +kernel
theorem d_L_law_905 : decode b_L_law 905 = .ok (.iload 4, 2) := by decide +kernel
theorem d_L_law_907 : decode b_L_law 907 = .ok (.iconst 2, 1) := by decide +kernel
theorem d_L_law_908 : decode b_L_law 908 = .ok (.iadd, 1) := by decide +kernel
theorem d_L_law_909 : decode b_L_law 909 = .ok (.iaload, 1) := by decide +kernel
theorem d_L_law_910 : decode b_L_law 910 = .ok (.aload_n 0, 1) := by decide +kernel
theorem d_L_law_911 : decode b_L_law 911 = .ok (.iload 4, 2) := by decide +kernel
theorem d_L_law_913 : decode b_L_law 913 = .ok (.iconst 3, 1) := by decide +kernel
theorem d_L_law_914 : decode b_L_law 914 = .ok (.iadd, 1) := by decide +kernel
theorem d_L_law_915 : decode b_L_law 915 = .ok (.iaload, 1) := by decide +kernel
theorem d_L_law_916 : decode b_L_law 916 = .ok (.i2l, 1) := by decide +kernel
theorem d_L_law_917 : decode b_L_law 917 = .ok (.bipush 32, 2) := by decide +kernel
theorem d_L_law_919 : decode b_L_law 919 = .ok (.lshl, 1) := by decide +kernel
theorem d_L_law_920 : decode b_L_law 920 = .ok (.aload_n 0, 1) := by decide +kernel
theorem d_L_law_921 : decode b_L_law 921 = .ok (.iload 4, 2) := by decide +kernel
theorem d_L_law_923 : decode b_L_law 923 = .ok (.iconst 4, 1) := by decide +kernel
theorem d_L_law_924 : decode b_L_law 924 = .ok (.iadd, 1) := by decide +kernel
theorem d_L_law_925 : decode b_L_law 925 = .ok (.iaload, 1) := by decide +kernel
theorem d_L_law_926 : decode b_L_law 926 = .ok (.i2l, 1) := by decide +kernel
theorem d_L_law_927 : decode b_L_law 927 = .ok (.ldc2_w 36, 3) := by decide +kernel
theorem d_L_law_930 : decode b_L_law 930 = .ok (.land, 1) := by decide +kernel
theorem d_L_law_931 : decode b_L_law 931 = .ok (.lor, 1) := by decide +kernel
theorem d_L_law_932 : decode b_L_law 932 = .ok (.aload_n 0, 1) := by decide +kernel
theorem d_L_law_933 : decode b_L_law 933 = .ok (.iload 4, 2) := by decide +kernel
theorem d_L_law_935 : decode b_L_law 935 = .ok (.iconst 5, 1) := by decide +kernel
theorem d_L_law_936 : decode b_L_law 936 = .ok (.iadd, 1) := by decide +kernel
theorem d_L_law_937 : decode b_L_law 937 = .ok (.iaload, 1) := by decide +kernel
theorem d_L_law_938 : decode b_L_law 938 = .ok (.i2l, 1) := by decide +kernel
theorem d_L_law_939 : decode b_L_law 939 = .ok (.bipush 32, 2) := by decide +kernel
theorem d_L_law_941 : decode b_L_law 941 = .ok (.lshl, 1) := by decide +kernel
theorem d_L_law_942 : decode b_L_law 942 = .ok (.aload_n 0, 1) := by decide +kernel
theorem d_L_law_943 : decode b_L_law 943 = .ok (.iload 4, 2) := by decide +kernel
theorem d_L_law_945 : decode b_L_law 945 = .ok (.bipush 6, 2) := by decide +kernel
theorem d_L_law_947 : decode b_L_law 947 = .ok (.iadd, 1) := by decide +kernel
theorem d_L_law_948 : decode b_L_law 948 = .ok (.iaload, 1) := by decide +kernel
theorem d_L_law_949 : decode b_L_law 949 = .ok (.i2l, 1) := by decide +kernel
theorem d_L_law_950 : decode b_L_law 950 = .ok (.ldc2_w 36, 3) := by decide +kernel
theorem d_L_law_953 : decode b_L_law 953 = .ok (.land, 1) := by decide +kernel
theorem d_L_law_954 : decode b_L_law 954 = .ok (.lor, 1) := by decide +kernel
theorem d_L_law_955 : decode b_L_law 955 = .ok (.aload_n 0, 1) := by decide +kernel
theorem d_L_law_956 : decode b_L_law 956 = .ok (.iload 4, 2) := by decide +kernel
theorem d_L_law_958 : decode b_L_law 958 = .ok (.bipush 7, 2) := by decide +kernel
theorem d_L_law_960 : decode b_L_law 960 = .ok (.iadd, 1) := by decide +kernel
theorem d_L_law_961 : decode b_L_law 961 = .ok (.iaload, 1) := by decide +kernel
theorem d_L_law_962 : decode b_L_law 962 = .ok (.i2l, 1) := by decide +kernel
theorem d_L_law_963 : decode b_L_law 963 = .ok (.bipush 32, 2) := by decide +kernel
theorem d_L_law_965 : decode b_L_law 965 = .ok (.lshl, 1) := by decide +kernel
theorem d_L_law_966 : decode b_L_law 966 = .ok (.aload_n 0, 1) := by decide +kernel
theorem d_L_law_967 : decode b_L_law 967 = .ok (.iload 4, 2) := by decide +kernel
theorem d_L_law_969 : decode b_L_law 969 = .ok (.bipush 8, 2) := by decide +kernel
theorem d_L_law_971 : decode b_L_law 971 = .ok (.iadd, 1) := by decide +kernel
theorem d_L_law_972 : decode b_L_law 972 = .ok (.iaload, 1) := by decide +kernel
theorem d_L_law_973 : decode b_L_law 973 = .ok (.i2l, 1) := by decide +kernel
theorem d_L_law_974 : decode b_L_law 974 = .ok (.ldc2_w 36, 3) := by decide +kernel
theorem d_L_law_977 : decode b_L_law 977 = .ok (.land, 1) := by decide +kernel
theorem d_L_law_978 : decode b_L_law 978 = .ok (.lor, 1) := by decide +kernel
theorem d_L_law_979 : decode b_L_law 979 = .ok (.invokevirtual 106, 3) := by decide +kernel
theorem d_L_law_982 : decode b_L_law 982 = .ok (.if_icmp .eq 276, 3) := by decide +kernel
set_option maxRecDepth 100000 in
set_option maxHeartbeats 4000000 in
theorem law_pin {p : Program} {l : Launch} {e : Env} {s : State} {m : MethodId} {below : List Frame} {meth : Method} {c : Code} {G : Gt} {b L : Nat} {xs : Nat → Int32} {zp zph zpt zs zsf zsu zse zsl zsr zt ztm ztr ztl ztf ztd ztdq zc zcl zclq zcr zcrq zpb zpm zm zmp zm1 zm2 zmx zmh zmt zmu zme zma zmb zmk zmc zmd zmi zmo zmf zmg zmn zo : Nat} {hv : Nat → Int64} {ht : Nat → Int32} {hm : Int32} {ml mr : Int64} {fi us ex : Nat → Int32} {lf rg : Nat → Int64} {md : Nat → Int32} {re fl fr : Nat → Int64} {tk cu cv kl kr : Int64} {bf mg : Nat → Int64} {th : Int32} {yu ye : Nat → Int32} {ya yb : Nat → Int64} {yc yd yi : Nat → Int64} {yo : Nat → Int32} {yn : Nat → Int64} {yp yq : Int64} {yw : Int32} {yx : Int64} {lo : Nat → Int64} (X : Cx G (LA s) p s m #[Value.ref b] c b_L_law 8 "PinModuleLaw") (hX : va_X b L xs s s.heap) (hbl : b < s.heap.size) (hE : Eh (LA s) s) (hfl : l.flags = pinnedFlags ++ [noTraceFlag]) (hL : L ≤ 4608) {i : Nat} (hi : 9 * i + 9 ≤ L) (ih : LawAt p l e s m below meth c G b zp zph zpt zs zsf zsu zse zsl zsr zt ztm ztr ztl ztf ztd ztdq zc zcl zclq zcr zcrq zpb zpm zm zmp zm1 zm2 zmx zmh zmt zmu zme zma zmb zmk zmc zmd zmi zmo zmf zmg zmn zo (i + 1)) (hR : R2 hm fi us ex lf rg md re fl fr yu ye ya yb yc yd yi yo) : Vw G (LA s) p l e room_1 s m #[Value.ref b] below meth c (lw_Z below #[Value.ref b] s) 8 (43 + i) (1035 + 6 * i) [ob zp 0 [.ref zph, .ref zpt, .int hm, .long ml, .long mr, .ref zs, .ref zt, .ref zc, .ref zpb, .ref zpm], aJ G zph 6 hv, aZ G zpt 6 ht, ob zs 1 [.ref zsf, .ref zsu, .ref zse, .ref zsl, .ref zsr], aZ G zsf 16 fi, aI G zsu 16 us, aZ G zse 16 ex, aJ G zsl 16 lf, aJ G zsr 16 rg, ob zt 2 [.ref ztm, .ref ztr, .ref ztl, .ref ztf, .ref ztd, .long cu, .long cv], aZ G ztm 8 md, aJ G ztr 8 re, aJ G ztl 8 fl, aJ G ztf 8 fr, ob ztd 4 [.ref ztdq, .long tk], aJ G ztdq 16 (rkF tk), ob zc 3 [.ref zcl, .ref zcr], ob zcl 4 [.ref zclq, .long kl], aJ G zclq 16 (rkF kl), ob zcr 4 [.ref zcrq, .long kr], aJ G zcrq 16 (rkF kr), aJ G zpb 5 bf, aJ G zpm 8 mg, ob zm 5 [.ref zmp, .ref zm1, .ref zm2, .ref zmx, .int th, .ref zmh, .ref zmt, .int hm, .long ml, .long mr, .ref zmu, .ref zme, .ref zma, .ref zmb, .ref zmk, .ref zmc, .ref zmd, .ref zmi, .ref zmo, .ref zmf, .ref zmg, .ref zmn, .long yp, .long yq, .int yw, .long yx], aI G zmp 32 tb_perm, aI G zm1 56 tb_c1, aI G zm2 48 tb_c2, aI G zmx 512 tb_box, aJ G zmh 6 hv, aZ G zmt 6 ht, aI G zmu 16 yu, aZ G zme 16 ye, aJ G zma 16 ya, aJ G zmb 16 yb, aZ G zmk 8 md, aJ G zmc 8 yc, aJ G zmd 8 yd, aJ G zmi 8 yi, aI G zmo 8 yo, aJ G zmf 5 bf, aJ G zmg 8 mg, aJ G zmn 16 yn, aJ G zo 1 lo] [(4, .int (nI (9 * i))), (0, .ref b), (1, .ref zp), (2, .ref zm), (3, .ref zo)] 812 [] := by
  refine pv_aload_n X 2 d_L_law_812 rfl ?_
  refine pv_aload_n X 1 d_L_law_813 rfl ?_
  refine pv_iload X 0 d_L_law_814 rfl ?_
  refine pv_iconst X 1 d_L_law_816 (by decide) ?_
  refine pv_iadd X d_L_law_817 ?_
  refine pv_topi (nI (9 * i + 1)) (nI_add (9 * i) 1) ?_
  refine pv_sld X hX hbl (Nat.not_le.mpr hbl) (vp_in_nI (by omega) (by omega)) d_L_law_818 ?_
  refine pv_topi (xs (9 * i + 1)) (congrArg xs (nI_clamp (by omega))) ?_
  refine pv_aload_n X 1 d_L_law_819 rfl ?_
  refine pv_iload X 0 d_L_law_820 rfl ?_
  refine pv_iconst X 2 d_L_law_822 (by decide) ?_
  refine pv_iadd X d_L_law_823 ?_
  refine pv_topi (nI (9 * i + 2)) (nI_add (9 * i) 2) ?_
  refine pv_sld X hX hbl (Nat.not_le.mpr hbl) (vp_in_nI (by omega) (by omega)) d_L_law_824 ?_
  refine pv_topi (xs (9 * i + 2)) (congrArg xs (nI_clamp (by omega))) ?_
  refine pv_aload_n X 1 d_L_law_825 rfl ?_
  refine pv_iload X 0 d_L_law_826 rfl ?_
  refine pv_iconst X 3 d_L_law_828 (by decide) ?_
  refine pv_iadd X d_L_law_829 ?_
  refine pv_topi (nI (9 * i + 3)) (nI_add (9 * i) 3) ?_
  refine pv_sld X hX hbl (Nat.not_le.mpr hbl) (vp_in_nI (by omega) (by omega)) d_L_law_830 ?_
  refine pv_topi (xs (9 * i + 3)) (congrArg xs (nI_clamp (by omega))) ?_
  refine pv_i2l X d_L_law_831 ?_
  refine pv_bipush X 32 d_L_law_832 (by decide) ?_
  refine pv_lshl X d_L_law_834 ?_
  refine pv_aload_n X 1 d_L_law_835 rfl ?_
  refine pv_iload X 0 d_L_law_836 rfl ?_
  refine pv_iconst X 4 d_L_law_838 (by decide) ?_
  refine pv_iadd X d_L_law_839 ?_
  refine pv_topi (nI (9 * i + 4)) (nI_add (9 * i) 4) ?_
  refine pv_sld X hX hbl (Nat.not_le.mpr hbl) (vp_in_nI (by omega) (by omega)) d_L_law_840 ?_
  refine pv_topi (xs (9 * i + 4)) (congrArg xs (nI_clamp (by omega))) ?_
  refine pv_i2l X d_L_law_841 ?_
  refine pv_ldc2_w X m_861 d_L_law_842 ?_
  refine pv_land X d_L_law_845 ?_
  refine pv_lor X d_L_law_846 ?_
  refine pv_topl (lw2 xs (9 * i + 3)) rfl ?_
  refine pv_aload_n X 1 d_L_law_847 rfl ?_
  refine pv_iload X 0 d_L_law_848 rfl ?_
  refine pv_iconst X 5 d_L_law_850 (by decide) ?_
  refine pv_iadd X d_L_law_851 ?_
  refine pv_topi (nI (9 * i + 5)) (nI_add (9 * i) 5) ?_
  refine pv_sld X hX hbl (Nat.not_le.mpr hbl) (vp_in_nI (by omega) (by omega)) d_L_law_852 ?_
  refine pv_topi (xs (9 * i + 5)) (congrArg xs (nI_clamp (by omega))) ?_
  refine pv_i2l X d_L_law_853 ?_
  refine pv_bipush X 32 d_L_law_854 (by decide) ?_
  refine pv_lshl X d_L_law_856 ?_
  refine pv_aload_n X 1 d_L_law_857 rfl ?_
  refine pv_iload X 0 d_L_law_858 rfl ?_
  refine pv_bipush X 6 d_L_law_860 (by decide) ?_
  refine pv_iadd X d_L_law_862 ?_
  refine pv_topi (nI (9 * i + 6)) (nI_add (9 * i) 6) ?_
  refine pv_sld X hX hbl (Nat.not_le.mpr hbl) (vp_in_nI (by omega) (by omega)) d_L_law_863 ?_
  refine pv_topi (xs (9 * i + 6)) (congrArg xs (nI_clamp (by omega))) ?_
  refine pv_i2l X d_L_law_864 ?_
  refine pv_ldc2_w X m_861 d_L_law_865 ?_
  refine pv_land X d_L_law_868 ?_
  refine pv_lor X d_L_law_869 ?_
  refine pv_topl (lw2 xs (9 * i + 5)) rfl ?_
  refine pv_aload_n X 1 d_L_law_870 rfl ?_
  refine pv_iload X 0 d_L_law_871 rfl ?_
  refine pv_bipush X 7 d_L_law_873 (by decide) ?_
  refine pv_iadd X d_L_law_875 ?_
  refine pv_topi (nI (9 * i + 7)) (nI_add (9 * i) 7) ?_
  refine pv_sld X hX hbl (Nat.not_le.mpr hbl) (vp_in_nI (by omega) (by omega)) d_L_law_876 ?_
  refine pv_topi (xs (9 * i + 7)) (congrArg xs (nI_clamp (by omega))) ?_
  refine pv_i2l X d_L_law_877 ?_
  refine pv_bipush X 32 d_L_law_878 (by decide) ?_
  refine pv_lshl X d_L_law_880 ?_
  refine pv_aload_n X 1 d_L_law_881 rfl ?_
  refine pv_iload X 0 d_L_law_882 rfl ?_
  refine pv_bipush X 8 d_L_law_884 (by decide) ?_
  refine pv_iadd X d_L_law_886 ?_
  refine pv_topi (nI (9 * i + 8)) (nI_add (9 * i) 8) ?_
  refine pv_sld X hX hbl (Nat.not_le.mpr hbl) (vp_in_nI (by omega) (by omega)) d_L_law_887 ?_
  refine pv_topi (xs (9 * i + 8)) (congrArg xs (nI_clamp (by omega))) ?_
  refine pv_i2l X d_L_law_888 ?_
  refine pv_ldc2_w X m_861 d_L_law_889 ?_
  refine pv_land X d_L_law_892 ?_
  refine pv_lor X d_L_law_893 ?_
  refine pv_topl (lw2 xs (9 * i + 7)) rfl ?_
  have hs := sim_pin (ml := ml) (mr := mr) (tk := tk) (cu := cu) (cv := cv) (kl := kl) (kr := kr) (hv := hv) (ht := ht) (bf := bf) (mg := mg) (lo := lo) (th := th) (yn := yn) (yp := yp) (yq := yq) (yw := yw) (yx := yx) (xs (9 * i + 1)) (xs (9 * i + 2)) (lw2 xs (9 * i + 3)) (lw2 xs (9 * i + 5)) (lw2 xs (9 * i + 7)) hR 
  refine pv_calliE X (Cut.mk (w0 := [ob zp 0 [.ref zph, .ref zpt, .int hm, .long ml, .long mr, .ref zs, .ref zt, .ref zc, .ref zpb, .ref zpm], aJ G zph 6 hv, aZ G zpt 6 ht, ob zs 1 [.ref zsf, .ref zsu, .ref zse, .ref zsl, .ref zsr], aZ G zsf 16 fi, aI G zsu 16 us, aZ G zse 16 ex, aJ G zsl 16 lf, aJ G zsr 16 rg, ob zt 2 [.ref ztm, .ref ztr, .ref ztl, .ref ztf, .ref ztd, .long cu, .long cv], aZ G ztm 8 md, aJ G ztr 8 re, aJ G ztl 8 fl, aJ G ztf 8 fr, ob ztd 4 [.ref ztdq, .long tk], aJ G ztdq 16 (rkF tk), ob zc 3 [.ref zcl, .ref zcr], ob zcl 4 [.ref zclq, .long kl], aJ G zclq 16 (rkF kl), ob zcr 4 [.ref zcrq, .long kr], aJ G zcrq 16 (rkF kr), aJ G zpb 5 bf, aJ G zpm 8 mg]) (wr := [ob zm 5 [.ref zmp, .ref zm1, .ref zm2, .ref zmx, .int th, .ref zmh, .ref zmt, .int hm, .long ml, .long mr, .ref zmu, .ref zme, .ref zma, .ref zmb, .ref zmk, .ref zmc, .ref zmd, .ref zmi, .ref zmo, .ref zmf, .ref zmg, .ref zmn, .long yp, .long yq, .int yw, .long yx], aI G zmp 32 tb_perm, aI G zm1 56 tb_c1, aI G zm2 48 tb_c2, aI G zmx 512 tb_box, aJ G zmh 6 hv, aZ G zmt 6 ht, aI G zmu 16 yu, aZ G zme 16 ye, aJ G zma 16 ya, aJ G zmb 16 yb, aZ G zmk 8 md, aJ G zmc 8 yc, aJ G zmd 8 yd, aJ G zmi 8 yi, aI G zmo 8 yo, aJ G zmf 5 bf, aJ G zmg 8 mg, aJ G zmn 16 yn, aJ G zo 1 lo]) [0, 1, 2, 3, 4, 5, 6, 7, 8, 9, 10, 11, 12, 13, 14, 15, 16, 17, 18, 19, 20, 21, 22] [23, 24, 25, 26, 27, 28, 29, 30, 31, 32, 33, 34, 35, 36, 37, 38, 39, 40, 41, 42] rfl rfl rfl rfl rfl) (rn_V X (c_P_pin l G zp zph zpt zs zsf zsu zse zsl zsr zt ztm ztr ztl ztf ztd ztdq zc zcl zclq zcr zcrq zpb zpm hv ht hm ml mr fi us ex lf rg md re fl fr tk cu cv kl kr bf mg (xs (9 * i + 1)) (xs (9 * i + 2)) (lw2 xs (9 * i + 3)) (lw2 xs (9 * i + 5)) (lw2 xs (9 * i + 7)) hR.2.1 hR.2.2.2.2.1) hE.1 mf_P_pin m_361 m_362 m_363 rfl 0 rfl rfl rfl (by decide) ⟨show 43 + i + 0 ≤ 1073 by omega, show 1035 + 6 * i + 0 ≤ 9263 by omega⟩ rfl (Nat.le_of_ble_eq_true rfl) d_L_law_894) (fun x1 => ?_)
  refine pv_ord (ws2 := [ob zp 0 [.ref zph, .ref zpt, .int hm, .long ml, .long mr, .ref zs, .ref zt, .ref zc, .ref zpb, .ref zpm], aJ G zph 6 hv, aZ G zpt 6 ht, ob zs 1 [.ref zsf, .ref zsu, .ref zse, .ref zsl, .ref zsr], aZ G zsf 16 fi, aI G zsu 16 us, aZ G zse 16 ex, aJ G zsl 16 lf, aJ G zsr 16 rg, ob zt 2 [.ref ztm, .ref ztr, .ref ztl, .ref ztf, .ref ztd, .long x1.2.1, .long x1.2.2.1], aZ G ztm 8 md, aJ G ztr 8 re, aJ G ztl 8 fl, aJ G ztf 8 fr, ob ztd 4 [.ref ztdq, .long x1.1], aJ G ztdq 16 (rkF x1.1), ob zc 3 [.ref zcl, .ref zcr], ob zcl 4 [.ref zclq, .long x1.2.2.2.1], aJ G zclq 16 (rkF x1.2.2.2.1), ob zcr 4 [.ref zcrq, .long x1.2.2.2.2], aJ G zcrq 16 (rkF x1.2.2.2.2), aJ G zpb 5 (g_P_pin_zpb hm fi us lf rg md re fl fr tk bf (xs (9 * i + 1)) (xs (9 * i + 2)) (lw2 xs (9 * i + 3)) (lw2 xs (9 * i + 5)) (lw2 xs (9 * i + 7))), aJ G zpm 8 mg, ob zm 5 [.ref zmp, .ref zm1, .ref zm2, .ref zmx, .int th, .ref zmh, .ref zmt, .int hm, .long ml, .long mr, .ref zmu, .ref zme, .ref zma, .ref zmb, .ref zmk, .ref zmc, .ref zmd, .ref zmi, .ref zmo, .ref zmf, .ref zmg, .ref zmn, .long yp, .long yq, .int yw, .long yx], aI G zmp 32 tb_perm, aI G zm1 56 tb_c1, aI G zm2 48 tb_c2, aI G zmx 512 tb_box, aJ G zmh 6 hv, aZ G zmt 6 ht, aI G zmu 16 yu, aZ G zme 16 ye, aJ G zma 16 ya, aJ G zmb 16 yb, aZ G zmk 8 md, aJ G zmc 8 yc, aJ G zmd 8 yd, aJ G zmi 8 yi, aI G zmo 8 yo, aJ G zmf 5 bf, aJ G zmg 8 mg, aJ G zmn 16 yn, aJ G zo 1 lo]) [20, 21, 22, 23, 24, 25, 26, 27, 28, 29, 30, 31, 32, 33, 34, 35, 36, 37, 38, 39, 40, 41, 42, 0, 1, 2, 3, 4, 5, 6, 7, 8, 9, 10, 11, 12, 13, 14, 15, 16, 17, 18, 19] rfl rfl ?_
  refine pv_widen (k2 := 43 + i) (n2 := 1035 + 6 * i) (Nat.le_refl _) (Nat.le_refl _) ?_
  refine pv_aload_n X 3 d_L_law_897 rfl ?_
  refine pv_aload_n X 1 d_L_law_898 rfl ?_
  refine pv_iload X 0 d_L_law_899 rfl ?_
  refine pv_iconst X 1 d_L_law_901 (by decide) ?_
  refine pv_iadd X d_L_law_902 ?_
  refine pv_topi (nI (9 * i + 1)) (nI_add (9 * i) 1) ?_
  refine pv_sld X hX hbl (Nat.not_le.mpr hbl) (vp_in_nI (by omega) (by omega)) d_L_law_903 ?_
  refine pv_topi (xs (9 * i + 1)) (congrArg xs (nI_clamp (by omega))) ?_
  refine pv_aload_n X 1 d_L_law_904 rfl ?_
  refine pv_iload X 0 d_L_law_905 rfl ?_
  refine pv_iconst X 2 d_L_law_907 (by decide) ?_
  refine pv_iadd X d_L_law_908 ?_
  refine pv_topi (nI (9 * i + 2)) (nI_add (9 * i) 2) ?_
  refine pv_sld X hX hbl (Nat.not_le.mpr hbl) (vp_in_nI (by omega) (by omega)) d_L_law_909 ?_
  refine pv_topi (xs (9 * i + 2)) (congrArg xs (nI_clamp (by omega))) ?_
  refine pv_aload_n X 1 d_L_law_910 rfl ?_
  refine pv_iload X 0 d_L_law_911 rfl ?_
  refine pv_iconst X 3 d_L_law_913 (by decide) ?_
  refine pv_iadd X d_L_law_914 ?_
  refine pv_topi (nI (9 * i + 3)) (nI_add (9 * i) 3) ?_
  refine pv_sld X hX hbl (Nat.not_le.mpr hbl) (vp_in_nI (by omega) (by omega)) d_L_law_915 ?_
  refine pv_topi (xs (9 * i + 3)) (congrArg xs (nI_clamp (by omega))) ?_
  refine pv_i2l X d_L_law_916 ?_
  refine pv_bipush X 32 d_L_law_917 (by decide) ?_
  refine pv_lshl X d_L_law_919 ?_
  refine pv_aload_n X 1 d_L_law_920 rfl ?_
  refine pv_iload X 0 d_L_law_921 rfl ?_
  refine pv_iconst X 4 d_L_law_923 (by decide) ?_
  refine pv_iadd X d_L_law_924 ?_
  refine pv_topi (nI (9 * i + 4)) (nI_add (9 * i) 4) ?_
  refine pv_sld X hX hbl (Nat.not_le.mpr hbl) (vp_in_nI (by omega) (by omega)) d_L_law_925 ?_
  refine pv_topi (xs (9 * i + 4)) (congrArg xs (nI_clamp (by omega))) ?_
  refine pv_i2l X d_L_law_926 ?_
  refine pv_ldc2_w X m_861 d_L_law_927 ?_
  refine pv_land X d_L_law_930 ?_
  refine pv_lor X d_L_law_931 ?_
  refine pv_topl (lw2 xs (9 * i + 3)) rfl ?_
  refine pv_aload_n X 1 d_L_law_932 rfl ?_
  refine pv_iload X 0 d_L_law_933 rfl ?_
  refine pv_iconst X 5 d_L_law_935 (by decide) ?_
  refine pv_iadd X d_L_law_936 ?_
  refine pv_topi (nI (9 * i + 5)) (nI_add (9 * i) 5) ?_
  refine pv_sld X hX hbl (Nat.not_le.mpr hbl) (vp_in_nI (by omega) (by omega)) d_L_law_937 ?_
  refine pv_topi (xs (9 * i + 5)) (congrArg xs (nI_clamp (by omega))) ?_
  refine pv_i2l X d_L_law_938 ?_
  refine pv_bipush X 32 d_L_law_939 (by decide) ?_
  refine pv_lshl X d_L_law_941 ?_
  refine pv_aload_n X 1 d_L_law_942 rfl ?_
  refine pv_iload X 0 d_L_law_943 rfl ?_
  refine pv_bipush X 6 d_L_law_945 (by decide) ?_
  refine pv_iadd X d_L_law_947 ?_
  refine pv_topi (nI (9 * i + 6)) (nI_add (9 * i) 6) ?_
  refine pv_sld X hX hbl (Nat.not_le.mpr hbl) (vp_in_nI (by omega) (by omega)) d_L_law_948 ?_
  refine pv_topi (xs (9 * i + 6)) (congrArg xs (nI_clamp (by omega))) ?_
  refine pv_i2l X d_L_law_949 ?_
  refine pv_ldc2_w X m_861 d_L_law_950 ?_
  refine pv_land X d_L_law_953 ?_
  refine pv_lor X d_L_law_954 ?_
  refine pv_topl (lw2 xs (9 * i + 5)) rfl ?_
  refine pv_aload_n X 1 d_L_law_955 rfl ?_
  refine pv_iload X 0 d_L_law_956 rfl ?_
  refine pv_bipush X 7 d_L_law_958 (by decide) ?_
  refine pv_iadd X d_L_law_960 ?_
  refine pv_topi (nI (9 * i + 7)) (nI_add (9 * i) 7) ?_
  refine pv_sld X hX hbl (Nat.not_le.mpr hbl) (vp_in_nI (by omega) (by omega)) d_L_law_961 ?_
  refine pv_topi (xs (9 * i + 7)) (congrArg xs (nI_clamp (by omega))) ?_
  refine pv_i2l X d_L_law_962 ?_
  refine pv_bipush X 32 d_L_law_963 (by decide) ?_
  refine pv_lshl X d_L_law_965 ?_
  refine pv_aload_n X 1 d_L_law_966 rfl ?_
  refine pv_iload X 0 d_L_law_967 rfl ?_
  refine pv_bipush X 8 d_L_law_969 (by decide) ?_
  refine pv_iadd X d_L_law_971 ?_
  refine pv_topi (nI (9 * i + 8)) (nI_add (9 * i) 8) ?_
  refine pv_sld X hX hbl (Nat.not_le.mpr hbl) (vp_in_nI (by omega) (by omega)) d_L_law_972 ?_
  refine pv_topi (xs (9 * i + 8)) (congrArg xs (nI_clamp (by omega))) ?_
  refine pv_i2l X d_L_law_973 ?_
  refine pv_ldc2_w X m_861 d_L_law_974 ?_
  refine pv_land X d_L_law_977 ?_
  refine pv_lor X d_L_law_978 ?_
  refine pv_topl (lw2 xs (9 * i + 7)) rfl ?_
  refine pv_calliE X (Cut.mk (w0 := [ob zm 5 [.ref zmp, .ref zm1, .ref zm2, .ref zmx, .int th, .ref zmh, .ref zmt, .int hm, .long ml, .long mr, .ref zmu, .ref zme, .ref zma, .ref zmb, .ref zmk, .ref zmc, .ref zmd, .ref zmi, .ref zmo, .ref zmf, .ref zmg, .ref zmn, .long yp, .long yq, .int yw, .long yx], aI G zmp 32 tb_perm, aI G zm1 56 tb_c1, aI G zm2 48 tb_c2, aI G zmx 512 tb_box, aJ G zmh 6 hv, aZ G zmt 6 ht, aI G zmu 16 yu, aZ G zme 16 ye, aJ G zma 16 ya, aJ G zmb 16 yb, aZ G zmk 8 md, aJ G zmc 8 yc, aJ G zmd 8 yd, aJ G zmi 8 yi, aI G zmo 8 yo, aJ G zmf 5 bf, aJ G zmg 8 mg, aJ G zmn 16 yn]) (wr := [ob zp 0 [.ref zph, .ref zpt, .int hm, .long ml, .long mr, .ref zs, .ref zt, .ref zc, .ref zpb, .ref zpm], aJ G zph 6 hv, aZ G zpt 6 ht, ob zs 1 [.ref zsf, .ref zsu, .ref zse, .ref zsl, .ref zsr], aZ G zsf 16 fi, aI G zsu 16 us, aZ G zse 16 ex, aJ G zsl 16 lf, aJ G zsr 16 rg, ob zt 2 [.ref ztm, .ref ztr, .ref ztl, .ref ztf, .ref ztd, .long x1.2.1, .long x1.2.2.1], aZ G ztm 8 md, aJ G ztr 8 re, aJ G ztl 8 fl, aJ G ztf 8 fr, ob ztd 4 [.ref ztdq, .long x1.1], aJ G ztdq 16 (rkF x1.1), ob zc 3 [.ref zcl, .ref zcr], ob zcl 4 [.ref zclq, .long x1.2.2.2.1], aJ G zclq 16 (rkF x1.2.2.2.1), ob zcr 4 [.ref zcrq, .long x1.2.2.2.2], aJ G zcrq 16 (rkF x1.2.2.2.2), aJ G zpb 5 (g_P_pin_zpb hm fi us lf rg md re fl fr tk bf (xs (9 * i + 1)) (xs (9 * i + 2)) (lw2 xs (9 * i + 3)) (lw2 xs (9 * i + 5)) (lw2 xs (9 * i + 7))), aJ G zpm 8 mg, aJ G zo 1 lo]) [23, 24, 25, 26, 27, 28, 29, 30, 31, 32, 33, 34, 35, 36, 37, 38, 39, 40, 41] [0, 1, 2, 3, 4, 5, 6, 7, 8, 9, 10, 11, 12, 13, 14, 15, 16, 17, 18, 19, 20, 21, 22, 42] rfl rfl rfl rfl rfl) (rn_V X (c_M_pin l G zm zmp zm1 zm2 zmx zmh zmt zmu zme zma zmb zmk zmc zmd zmi zmo zmf zmg zmn th hm ml mr hv ht yu ye ya yb md yc yd yi yo bf mg yn yp yq yw yx (xs (9 * i + 1)) (xs (9 * i + 2)) (lw2 xs (9 * i + 3)) (lw2 xs (9 * i + 5)) (lw2 xs (9 * i + 7)) hR.2.2.2.2.1) trivial mf_M_pin m_811 m_812 m_813 rfl 0 rfl rfl rfl (by decide) ⟨show 43 + i + 0 ≤ 1073 by omega, show 1035 + 6 * i + 0 ≤ 9263 by omega⟩ rfl (Nat.le_of_ble_eq_true rfl) d_L_law_979) (fun x2 => ?_)
  refine pv_ord (ws2 := [ob zp 0 [.ref zph, .ref zpt, .int hm, .long ml, .long mr, .ref zs, .ref zt, .ref zc, .ref zpb, .ref zpm], aJ G zph 6 hv, aZ G zpt 6 ht, ob zs 1 [.ref zsf, .ref zsu, .ref zse, .ref zsl, .ref zsr], aZ G zsf 16 fi, aI G zsu 16 us, aZ G zse 16 ex, aJ G zsl 16 lf, aJ G zsr 16 rg, ob zt 2 [.ref ztm, .ref ztr, .ref ztl, .ref ztf, .ref ztd, .long x1.2.1, .long x1.2.2.1], aZ G ztm 8 md, aJ G ztr 8 re, aJ G ztl 8 fl, aJ G ztf 8 fr, ob ztd 4 [.ref ztdq, .long x1.1], aJ G ztdq 16 (rkF x1.1), ob zc 3 [.ref zcl, .ref zcr], ob zcl 4 [.ref zclq, .long x1.2.2.2.1], aJ G zclq 16 (rkF x1.2.2.2.1), ob zcr 4 [.ref zcrq, .long x1.2.2.2.2], aJ G zcrq 16 (rkF x1.2.2.2.2), aJ G zpb 5 (g_P_pin_zpb hm fi us lf rg md re fl fr tk bf (xs (9 * i + 1)) (xs (9 * i + 2)) (lw2 xs (9 * i + 3)) (lw2 xs (9 * i + 5)) (lw2 xs (9 * i + 7))), aJ G zpm 8 mg, ob zm 5 [.ref zmp, .ref zm1, .ref zm2, .ref zmx, .int g_M_pin_zm_4, .ref zmh, .ref zmt, .int hm, .long ml, .long mr, .ref zmu, .ref zme, .ref zma, .ref zmb, .ref zmk, .ref zmc, .ref zmd, .ref zmi, .ref zmo, .ref zmf, .ref zmg, .ref zmn, .long x2.2.1, .long x2.2.2, .int yw, .long yx], aI G zmp 32 tb_perm, aI G zm1 56 tb_c1, aI G zm2 48 tb_c2, aI G zmx 512 tb_box, aJ G zmh 6 hv, aZ G zmt 6 ht, aI G zmu 16 yu, aZ G zme 16 ye, aJ G zma 16 ya, aJ G zmb 16 yb, aZ G zmk 8 md, aJ G zmc 8 yc, aJ G zmd 8 yd, aJ G zmi 8 yi, aI G zmo 8 yo, aJ G zmf 5 (g_M_pin_zmf hm yu ya yb md yc yd yi yo bf yn (xs (9 * i + 1)) (xs (9 * i + 2)) (lw2 xs (9 * i + 3)) (lw2 xs (9 * i + 5)) (lw2 xs (9 * i + 7))), aJ G zmg 8 mg, aJ G zmn 16 x2.1, aJ G zo 1 lo]) [0, 1, 2, 3, 4, 5, 6, 7, 8, 9, 10, 11, 12, 13, 14, 15, 16, 17, 18, 19, 20, 21, 22, 24, 25, 26, 27, 28, 29, 30, 31, 32, 33, 34, 35, 36, 37, 38, 39, 40, 41, 42, 23] rfl rfl ?_
  refine pv_widen (k2 := 43 + i) (n2 := 1035 + 6 * i) (Nat.le_refl _) (Nat.le_refl _) ?_
  refine pv_icmp_eq X 1258 d_L_law_982 rfl (fun _ => ?_) (fun h => absurd hs.1 h)
  refine pv_lpick (ll2 := [(4, .int (nI (9 * i))), (0, .ref b), (1, .ref zp), (2, .ref zm), (3, .ref zo)]) [0, 1, 2, 3, 4] rfl ?_
  refine pv_eqw (ws2 := [ob zp 0 [.ref zph, .ref zpt, .int hm, .long ml, .long mr, .ref zs, .ref zt, .ref zc, .ref zpb, .ref zpm], aJ G zph 6 hv, aZ G zpt 6 ht, ob zs 1 [.ref zsf, .ref zsu, .ref zse, .ref zsl, .ref zsr], aZ G zsf 16 fi, aI G zsu 16 us, aZ G zse 16 ex, aJ G zsl 16 lf, aJ G zsr 16 rg, ob zt 2 [.ref ztm, .ref ztr, .ref ztl, .ref ztf, .ref ztd, .long x1.2.1, .long x1.2.2.1], aZ G ztm 8 md, aJ G ztr 8 re, aJ G ztl 8 fl, aJ G ztf 8 fr, ob ztd 4 [.ref ztdq, .long x1.1], aJ G ztdq 16 (rkF x1.1), ob zc 3 [.ref zcl, .ref zcr], ob zcl 4 [.ref zclq, .long x1.2.2.2.1], aJ G zclq 16 (rkF x1.2.2.2.1), ob zcr 4 [.ref zcrq, .long x1.2.2.2.2], aJ G zcrq 16 (rkF x1.2.2.2.2), aJ G zpb 5 (g_P_pin_zpb hm fi us lf rg md re fl fr tk bf (xs (9 * i + 1)) (xs (9 * i + 2)) (lw2 xs (9 * i + 3)) (lw2 xs (9 * i + 5)) (lw2 xs (9 * i + 7))), aJ G zpm 8 mg, ob zm 5 [.ref zmp, .ref zm1, .ref zm2, .ref zmx, .int g_M_pin_zm_4, .ref zmh, .ref zmt, .int hm, .long ml, .long mr, .ref zmu, .ref zme, .ref zma, .ref zmb, .ref zmk, .ref zmc, .ref zmd, .ref zmi, .ref zmo, .ref zmf, .ref zmg, .ref zmn, .long x2.2.1, .long x2.2.2, .int yw, .long yx], aI G zmp 32 tb_perm, aI G zm1 56 tb_c1, aI G zm2 48 tb_c2, aI G zmx 512 tb_box, aJ G zmh 6 hv, aZ G zmt 6 ht, aI G zmu 16 yu, aZ G zme 16 ye, aJ G zma 16 ya, aJ G zmb 16 yb, aZ G zmk 8 md, aJ G zmc 8 yc, aJ G zmd 8 yd, aJ G zmi 8 yi, aI G zmo 8 yo, aJ G zmf 5 (g_P_pin_zpb hm fi us lf rg md re fl fr tk bf (xs (9 * i + 1)) (xs (9 * i + 2)) (lw2 xs (9 * i + 3)) (lw2 xs (9 * i + 5)) (lw2 xs (9 * i + 7))), aJ G zmg 8 mg, aJ G zmn 16 x2.1, aJ G zo 1 lo]) (by rw [hs.2]) ?_
  exact law_back X hX hbl hE hfl hL hi ih hR (by omega) (by omega)
