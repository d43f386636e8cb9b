/-! the law's cases -/
section LWC
variable {G : GG} {p : Program} {l : Launch} {e : Env} {s : State} {m : MethodId} {below : List Frame} {meth : Method} {c : Code} {b L : Nat} {xs : Nat → Int32} {Q : State → Prop} {w wc : WM} {k : Nat} {q : Nat → Nat} {M : MS} {ad : AD} {gi : GI} {f : Nat → Int64} {oa ox om : Nat}
theorem law_c12 (hX : LX G p s m meth c b L xs) (hk : 6 * k + 6 ≤ L) (h : LQ G q oa ox om k M ad gi f wc w) (kk : LKK G p l e s m below meth c b Q q oa ox om k) : AWL G p l e s m below meth c b Q w (50 + 8 * k) (3300 + 100 * k) 797 (llv b ox om oa k) [] := by
  obtain ⟨hI, hR, rfl, hq, rfl, hD⟩ := h
  have hL := hX.2.2.2
  obtain ⟨r, hr8, hE⟩ := hI.2.1.2.2.2.1
  refine aw_aload_n hX.1 dL_law_797 rfl rfl ?_
  refine law_arg hX hk 1 (by decide) rfl rfl rfl dL_law_798 dL_law_799 dL_law_801 dL_law_802 dL_law_803 ?_
  refine law_arg hX hk 2 (by decide) rfl rfl rfl dL_law_804 dL_law_805 dL_law_807 dL_law_808 dL_law_809 ?_
  refine law_cx hX hD hR (kX10_put G l M ad gi wc hR (iv_IV hI) _ _) okm_X10_put ml_L_75 im_X10_put se_X10_X10_put rfl rfl (Nat.le_of_ble_eq_true rfl) (Nat.le_of_ble_eq_true rfl) (Nat.le_of_ble_eq_true rfl) (Nat.le_of_ble_eq_true rfl) (Nat.le_of_ble_eq_true rfl) (by omega) (by omega) dL_law_810 (fun wc1 w1 ad1 gi1 hR1 ho1 hD1 => ?_)
  refine aw_aload_n hX.1 dL_law_813 rfl rfl ?_
  refine law_arg hX hk 1 (by decide) rfl rfl rfl dL_law_814 dL_law_815 dL_law_817 dL_law_818 dL_law_819 ?_
  refine law_arg hX hk 2 (by decide) rfl rfl rfl dL_law_820 dL_law_821 dL_law_823 dL_law_824 dL_law_825 ?_
  refine law_cm hX hD1 (kX11_put G l q M hq (iv_PI hI) r hr8 hE _ _) okm_X11_put ml_L_78 im_X11_put se_X11_X11_put rfl rfl (Nat.le_of_ble_eq_true rfl) (Nat.le_of_ble_eq_true rfl) (Nat.le_of_ble_eq_true rfl) rfl rfl (by omega) (by omega) dL_law_826 (fun w2 hD2 => ?_)
  refine aw_icmp_eq hX.1 (tgt := 1507) dL_law_829 rfl (fun _ => ?_) (fun z => absurd rfl z)
  exact kk _ _ _ _ _ _ ⟨iv_put (n := k) (b := 16 * k) (by omega) _ _ hI, hR1, ho1, hq, rfl, hD2⟩
theorem law_c13 (hX : LX G p s m meth c b L xs) (hk : 6 * k + 6 ≤ L) (h : LQ G q oa ox om k M ad gi f wc w) (kk : LKK G p l e s m below meth c b Q q oa ox om k) : AWL G p l e s m below meth c b Q w (50 + 8 * k) (3300 + 100 * k) 834 (llv b ox om oa k) [] := by
  obtain ⟨hI, hR, rfl, hq, rfl, hD⟩ := h
  have hL := hX.2.2.2
  refine aw_aload_n hX.1 dL_law_834 rfl rfl ?_
  refine law_arg hX hk 1 (by decide) rfl rfl rfl dL_law_835 dL_law_836 dL_law_838 dL_law_839 dL_law_840 ?_
  refine law_cx hX hD hR (kX10_get G l M ad gi wc hR hI.2.2.2.1.2.2.2.2.2.2 hI.2.2.1.2.2.2.1 hI.2.2.1.2.2.2.2.1 hI.2.2.1.1 hI.2.2.2.2.1.2.1 hI.2.2.1.2.2.2.2.2.2.2.1 hI.2.2.1.2.2.1 hI.1.2.1 hI.2.2.1.2.2.2.2.2.2.2.2 hI.2.2.1.2.2.2.2.2.1 _) okm_X10_get ml_L_79 im_X10_get se_X10_X10_get rfl rfl (Nat.le_of_ble_eq_true rfl) (Nat.le_of_ble_eq_true rfl) (Nat.le_of_ble_eq_true rfl) (Nat.le_of_ble_eq_true rfl) (Nat.le_of_ble_eq_true rfl) (by omega) (by omega) dL_law_841 (fun wc1 w1 ad1 gi1 hR1 ho1 hD1 => ?_)
  refine aw_aload_n hX.1 dL_law_844 rfl rfl ?_
  refine law_arg hX hk 1 (by decide) rfl rfl rfl dL_law_845 dL_law_846 dL_law_848 dL_law_849 dL_law_850 ?_
  refine law_cm hX hD1 (kX11_get G l q M hq hI.1.2.1 hI.2.2.1.2.2.1 hI.2.2.1.2.2.2.2.2.2.2.1 hI.2.2.1.2.2.2.1 hI.2.2.1.1 hI.2.2.2.2.1.2.1 hI.2.2.1.2.2.2.2.1 _) okm_X11_get ml_L_83 im_X11_get se_X11_X11_get rfl rfl (Nat.le_of_ble_eq_true rfl) (Nat.le_of_ble_eq_true rfl) (Nat.le_of_ble_eq_true rfl) rfl rfl (by omega) (by omega) dL_law_851 (fun w2 hD2 => ?_)
  refine aw_icmp_eq hX.1 (tgt := 1507) dL_law_854 rfl (fun _ => ?_) (fun z => absurd rfl z)
  exact kk _ _ _ _ _ _ ⟨iv_get _ hI, hR1, ho1, hq, rfl, hD2⟩
theorem law_c14 (hX : LX G p s m meth c b L xs) (hk : 6 * k + 6 ≤ L) (h : LQ G q oa ox om k M ad gi f wc w) (kk : LKK G p l e s m below meth c b Q q oa ox om k) : AWL G p l e s m below meth c b Q w (50 + 8 * k) (3300 + 100 * k) 859 (llv b ox om oa k) [] := by
  obtain ⟨hI, hR, rfl, hq, rfl, hD⟩ := h
  have hL := hX.2.2.2
  refine aw_aload_n hX.1 dL_law_859 rfl rfl ?_
  refine law_arg hX hk 1 (by decide) rfl rfl rfl dL_law_860 dL_law_861 dL_law_863 dL_law_864 dL_law_865 ?_
  refine law_arg hX hk 2 (by decide) rfl rfl rfl dL_law_866 dL_law_867 dL_law_869 dL_law_870 dL_law_871 ?_
  refine law_arg hX hk 3 (by decide) rfl rfl rfl dL_law_872 dL_law_873 dL_law_875 dL_law_876 dL_law_877 ?_
  refine law_cx hX hD hR (kX10_seek G l M ad gi wc hR hI.2.2.2.1.2.2.2.2.2.2 hI.2.2.1.2.2.2.1 hI.2.2.1.2.2.2.2.1 hI.2.2.1.1 hI.2.2.2.2.1.2.1 _ _ _) okm_X10_seek ml_L_84 im_X10_seek se_X10_X10_seek rfl rfl (Nat.le_of_ble_eq_true rfl) (Nat.le_of_ble_eq_true rfl) (Nat.le_of_ble_eq_true rfl) (Nat.le_of_ble_eq_true rfl) (Nat.le_of_ble_eq_true rfl) (by omega) (by omega) dL_law_878 (fun wc1 w1 ad1 gi1 hR1 ho1 hD1 => ?_)
  refine aw_aload_n hX.1 dL_law_881 rfl rfl ?_
  refine law_arg hX hk 1 (by decide) rfl rfl rfl dL_law_882 dL_law_883 dL_law_885 dL_law_886 dL_law_887 ?_
  refine law_arg hX hk 2 (by decide) rfl rfl rfl dL_law_888 dL_law_889 dL_law_891 dL_law_892 dL_law_893 ?_
  refine law_arg hX hk 3 (by decide) rfl rfl rfl dL_law_894 dL_law_895 dL_law_897 dL_law_898 dL_law_899 ?_
  refine law_cm hX hD1 (kX11_seek G l q M hq hI.2.2.1.1 _ _ _) okm_X11_seek ml_L_87 im_X11_seek se_X11_X11_seek rfl rfl (Nat.le_of_ble_eq_true rfl) (Nat.le_of_ble_eq_true rfl) (Nat.le_of_ble_eq_true rfl) rfl rfl (by omega) (by omega) dL_law_900 (fun w2 hD2 => ?_)
  refine aw_icmp_eq hX.1 (tgt := 1507) dL_law_903 rfl (fun _ => ?_) (fun z => absurd rfl z)
  exact kk _ _ _ _ _ _ ⟨iv_seek _ _ _ hI, hR1, ho1, hq, rfl, hD2⟩
theorem law_c15 (hX : LX G p s m meth c b L xs) (hk : 6 * k + 6 ≤ L) (h : LQ G q oa ox om k M ad gi f wc w) (kk : LKK G p l e s m below meth c b Q q oa ox om k) : AWL G p l e s m below meth c b Q w (50 + 8 * k) (3300 + 100 * k) 908 (llv b ox om oa k) [] := by
  obtain ⟨hI, hR, rfl, hq, rfl, hD⟩ := h
  have hL := hX.2.2.2
  refine aw_aload_n hX.1 dL_law_908 rfl rfl ?_
  refine law_arg hX hk 1 (by decide) rfl rfl rfl dL_law_909 dL_law_910 dL_law_912 dL_law_913 dL_law_914 ?_
  refine law_cx hX hD hR (kX10_close G l M ad gi wc hR _) okm_X10_close ml_L_88 im_X10_close se_X10_X10_close rfl rfl (Nat.le_of_ble_eq_true rfl) (Nat.le_of_ble_eq_true rfl) (Nat.le_of_ble_eq_true rfl) (Nat.le_of_ble_eq_true rfl) (Nat.le_of_ble_eq_true rfl) (by omega) (by omega) dL_law_915 (fun wc1 w1 ad1 gi1 hR1 ho1 hD1 => ?_)
  refine aw_aload_n hX.1 dL_law_918 rfl rfl ?_
  refine law_arg hX hk 1 (by decide) rfl rfl rfl dL_law_919 dL_law_920 dL_law_922 dL_law_923 dL_law_924 ?_
  refine law_cm hX hD1 (kX11_close G l q M hq _) okm_X11_close ml_L_91 im_X11_close se_X11_X11_close rfl rfl (Nat.le_of_ble_eq_true rfl) (Nat.le_of_ble_eq_true rfl) (Nat.le_of_ble_eq_true rfl) rfl rfl (by omega) (by omega) dL_law_925 (fun w2 hD2 => ?_)
  refine aw_icmp_eq hX.1 (tgt := 1507) dL_law_928 rfl (fun _ => ?_) (fun z => absurd rfl z)
  exact kk _ _ _ _ _ _ ⟨iv_close _ hI, hR1, ho1, hq, rfl, hD2⟩
theorem law_c16 (hX : LX G p s m meth c b L xs) (hk : 6 * k + 6 ≤ L) (h : LQ G q oa ox om k M ad gi f wc w) (kk : LKK G p l e s m below meth c b Q q oa ox om k) : AWL G p l e s m below meth c b Q w (50 + 8 * k) (3300 + 100 * k) 933 (llv b ox om oa k) [] := by
  obtain ⟨hI, hR, rfl, hq, rfl, hD⟩ := h
  have hL := hX.2.2.2
  refine aw_aload_n hX.1 dL_law_933 rfl rfl ?_
  refine law_arg hX hk 1 (by decide) rfl rfl rfl dL_law_934 dL_law_935 dL_law_937 dL_law_938 dL_law_939 ?_
  refine law_arg hX hk 2 (by decide) rfl rfl rfl dL_law_940 dL_law_941 dL_law_943 dL_law_944 dL_law_945 ?_
  refine law_cx hX hD hR (kX10_about G l M ad gi wc hR hI.2.2.2.1.2.2.2.2.2.2 hI.2.2.1.2.2.2.1 hI.2.2.1.2.2.2.2.1 hI.2.1.2.2.1 _ _) okm_X10_about ml_L_92 im_X10_about se_X10_X10_about rfl rfl (Nat.le_of_ble_eq_true rfl) (Nat.le_of_ble_eq_true rfl) (Nat.le_of_ble_eq_true rfl) (Nat.le_of_ble_eq_true rfl) (Nat.le_of_ble_eq_true rfl) (by omega) (by omega) dL_law_946 (fun wc1 w1 ad1 gi1 hR1 ho1 hD1 => ?_)
  refine aw_aload_n hX.1 dL_law_949 rfl rfl ?_
  refine law_arg hX hk 1 (by decide) rfl rfl rfl dL_law_950 dL_law_951 dL_law_953 dL_law_954 dL_law_955 ?_
  refine law_arg hX hk 2 (by decide) rfl rfl rfl dL_law_956 dL_law_957 dL_law_959 dL_law_960 dL_law_961 ?_
  refine law_cm hX hD1 (kX11_about G l q M hq hI.2.2.1.1 _ _) okm_X11_about ml_L_95 im_X11_about se_X11_X11_about rfl rfl (Nat.le_of_ble_eq_true rfl) (Nat.le_of_ble_eq_true rfl) (Nat.le_of_ble_eq_true rfl) rfl rfl (by omega) (by omega) dL_law_962 (fun w2 hD2 => ?_)
  refine aw_icmp_eq hX.1 (tgt := 1507) dL_law_965 rfl (fun _ => ?_) (fun z => absurd rfl z)
  exact kk _ _ _ _ _ _ ⟨iv_about _ _ hI, hR1, ho1, hq, rfl, hD2⟩
theorem law_c17 (hX : LX G p s m meth c b L xs) (hk : 6 * k + 6 ≤ L) (h : LQ G q oa ox om k M ad gi f wc w) (kk : LKK G p l e s m below meth c b Q q oa ox om k) : AWL G p l e s m below meth c b Q w (50 + 8 * k) (3300 + 100 * k) 970 (llv b ox om oa k) [] := by
  obtain ⟨hI, hR, rfl, hq, rfl, hD⟩ := h
  have hL := hX.2.2.2
  refine aw_aload_n hX.1 dL_law_970 rfl rfl ?_
  refine law_arg hX hk 1 (by decide) rfl rfl rfl dL_law_971 dL_law_972 dL_law_974 dL_law_975 dL_law_976 ?_
  refine law_arg hX hk 2 (by decide) rfl rfl rfl dL_law_977 dL_law_978 dL_law_980 dL_law_981 dL_law_982 ?_
  refine law_cx hX hD hR (kX10_shown G l M ad gi wc hR hI.2.2.1.2.1 _ _) okm_X10_shown ml_L_96 im_X10_shown se_X10_X10_shown rfl rfl (Nat.le_of_ble_eq_true rfl) (Nat.le_of_ble_eq_true rfl) (Nat.le_of_ble_eq_true rfl) (Nat.le_of_ble_eq_true rfl) (Nat.le_of_ble_eq_true rfl) (by omega) (by omega) dL_law_983 (fun wc1 w1 ad1 gi1 hR1 ho1 hD1 => ?_)
  refine aw_aload_n hX.1 dL_law_986 rfl rfl ?_
  refine law_arg hX hk 1 (by decide) rfl rfl rfl dL_law_987 dL_law_988 dL_law_990 dL_law_991 dL_law_992 ?_
  refine law_arg hX hk 2 (by decide) rfl rfl rfl dL_law_993 dL_law_994 dL_law_996 dL_law_997 dL_law_998 ?_
  refine law_cm hX hD1 (kX11_shown G l q M hq hI.2.2.1.2.1 _ _) okm_X11_shown ml_L_99 im_X11_shown se_X11_X11_shown rfl rfl (Nat.le_of_ble_eq_true rfl) (Nat.le_of_ble_eq_true rfl) (Nat.le_of_ble_eq_true rfl) rfl rfl (by omega) (by omega) dL_law_999 (fun w2 hD2 => ?_)
  refine aw_icmp_eq hX.1 (tgt := 1507) dL_law_1002 rfl (fun _ => ?_) (fun z => absurd rfl z)
  exact kk _ _ _ _ _ _ ⟨iv_shown _ _ hI, hR1, ho1, hq, rfl, hD2⟩
theorem law_c18 (hX : LX G p s m meth c b L xs) (hk : 6 * k + 6 ≤ L) (h : LQ G q oa ox om k M ad gi f wc w) (kk : LKK G p l e s m below meth c b Q q oa ox om k) : AWL G p l e s m below meth c b Q w (50 + 8 * k) (3300 + 100 * k) 1007 (llv b ox om oa k) [] := by
  obtain ⟨hI, hR, rfl, hq, rfl, hD⟩ := h
  have hL := hX.2.2.2
  obtain ⟨r, hr8, hE⟩ := hI.2.1.2.2.2.1
  refine aw_aload_n hX.1 dL_law_1007 rfl rfl ?_
  refine law_arg hX hk 1 (by decide) rfl rfl rfl dL_law_1008 dL_law_1009 dL_law_1011 dL_law_1012 dL_law_1013 ?_
  refine law_arg hX hk 2 (by decide) rfl rfl rfl dL_law_1014 dL_law_1015 dL_law_1017 dL_law_1018 dL_law_1019 ?_
  refine law_cx hX hD hR (kX10_echo G l M ad gi wc hR r hr8 hE _ _) okm_X10_echo ml_L_100 im_X10_echo se_X10_X10_echo rfl rfl (Nat.le_of_ble_eq_true rfl) (Nat.le_of_ble_eq_true rfl) (Nat.le_of_ble_eq_true rfl) (Nat.le_of_ble_eq_true rfl) (Nat.le_of_ble_eq_true rfl) (by omega) (by omega) dL_law_1020 (fun wc1 w1 ad1 gi1 hR1 ho1 hD1 => ?_)
  refine aw_aload_n hX.1 dL_law_1023 rfl rfl ?_
  refine law_arg hX hk 1 (by decide) rfl rfl rfl dL_law_1024 dL_law_1025 dL_law_1027 dL_law_1028 dL_law_1029 ?_
  refine law_arg hX hk 2 (by decide) rfl rfl rfl dL_law_1030 dL_law_1031 dL_law_1033 dL_law_1034 dL_law_1035 ?_
  refine law_cm hX hD1 (kX11_echo G l q M hq r hr8 hE _ _) okm_X11_echo ml_L_103 im_X11_echo se_X11_X11_echo rfl rfl (Nat.le_of_ble_eq_true rfl) (Nat.le_of_ble_eq_true rfl) (Nat.le_of_ble_eq_true rfl) rfl rfl (by omega) (by omega) dL_law_1036 (fun w2 hD2 => ?_)
  refine aw_icmp_eq hX.1 (tgt := 1507) dL_law_1039 rfl (fun _ => ?_) (fun z => absurd rfl z)
  exact kk _ _ _ _ _ _ ⟨iv_echo _ _ hI, hR1, ho1, hq, rfl, hD2⟩
theorem law_c19 (hX : LX G p s m meth c b L xs) (hk : 6 * k + 6 ≤ L) (h : LQ G q oa ox om k M ad gi f wc w) (kk : LKK G p l e s m below meth c b Q q oa ox om k) : AWL G p l e s m below meth c b Q w (50 + 8 * k) (3300 + 100 * k) 1044 (llv b ox om oa k) [] := by
  obtain ⟨hI, hR, rfl, hq, rfl, hD⟩ := h
  have hL := hX.2.2.2
  refine aw_aload_n hX.1 dL_law_1044 rfl rfl ?_
  refine law_arg hX hk 1 (by decide) rfl rfl rfl dL_law_1045 dL_law_1046 dL_law_1048 dL_law_1049 dL_law_1050 ?_
  refine law_cx hX hD hR (kX10_current G l M ad gi wc hR hI.2.1.2.1 _) okm_X10_current ml_L_104 im_X10_current se_X10_X10_current rfl rfl (Nat.le_of_ble_eq_true rfl) (Nat.le_of_ble_eq_true rfl) (Nat.le_of_ble_eq_true rfl) (Nat.le_of_ble_eq_true rfl) (Nat.le_of_ble_eq_true rfl) (by omega) (by omega) dL_law_1051 (fun wc1 w1 ad1 gi1 hR1 ho1 hD1 => ?_)
  refine aw_aload_n hX.1 dL_law_1054 rfl rfl ?_
  refine law_arg hX hk 1 (by decide) rfl rfl rfl dL_law_1055 dL_law_1056 dL_law_1058 dL_law_1059 dL_law_1060 ?_
  refine law_cm hX hD1 (kX11_current G l q M hq _) okm_X11_current ml_L_107 im_X11_current se_X11_X11_current rfl rfl (Nat.le_of_ble_eq_true rfl) (Nat.le_of_ble_eq_true rfl) (Nat.le_of_ble_eq_true rfl) rfl rfl (by omega) (by omega) dL_law_1061 (fun w2 hD2 => ?_)
  refine aw_icmp_eq hX.1 (tgt := 1507) dL_law_1064 rfl (fun _ => ?_) (fun z => absurd rfl z)
  exact kk _ _ _ _ _ _ ⟨iv_current _ hI, hR1, ho1, hq, rfl, hD2⟩
theorem law_c20 (hX : LX G p s m meth c b L xs) (hk : 6 * k + 6 ≤ L) (h : LQ G q oa ox om k M ad gi f wc w) (kk : LKK G p l e s m below meth c b Q q oa ox om k) : AWL G p l e s m below meth c b Q w (50 + 8 * k) (3300 + 100 * k) 1069 (llv b ox om oa k) [] := by
  obtain ⟨hI, hR, rfl, hq, rfl, hD⟩ := h
  have hL := hX.2.2.2
  obtain ⟨r, hr8, hE⟩ := hI.2.1.2.2.2.1
  refine aw_aload_n hX.1 dL_law_1069 rfl rfl ?_
  refine law_arg hX hk 1 (by decide) rfl rfl rfl dL_law_1070 dL_law_1071 dL_law_1073 dL_law_1074 dL_law_1075 ?_
  refine law_cx hX hD hR (kX10_say G l M ad gi wc hR (iv_IV hI) hI.2.1.2.1 _) okm_X10_say ml_L_108 im_X10_say se_X10_X10_say rfl rfl (Nat.le_of_ble_eq_true rfl) (Nat.le_of_ble_eq_true rfl) (Nat.le_of_ble_eq_true rfl) (Nat.le_of_ble_eq_true rfl) (Nat.le_of_ble_eq_true rfl) (by omega) (by omega) dL_law_1076 (fun wc1 w1 ad1 gi1 hR1 ho1 hD1 => ?_)
  refine aw_aload_n hX.1 dL_law_1079 rfl rfl ?_
  refine law_arg hX hk 1 (by decide) rfl rfl rfl dL_law_1080 dL_law_1081 dL_law_1083 dL_law_1084 dL_law_1085 ?_
  refine law_cm hX hD1 (kX11_say G l q M hq (iv_PI hI) r hr8 hE (now_ge hI.2.1.2.1) _) okm_X11_say ml_L_111 im_X11_say se_X11_X11_say rfl rfl (Nat.le_of_ble_eq_true rfl) (Nat.le_of_ble_eq_true rfl) (Nat.le_of_ble_eq_true rfl) rfl rfl (by omega) (by omega) dL_law_1086 (fun w2 hD2 => ?_)
  refine aw_icmp_eq hX.1 (tgt := 1507) dL_law_1089 rfl (fun _ => ?_) (fun z => absurd rfl z)
  exact kk _ _ _ _ _ _ ⟨iv_say (n := k) (b := 16 * k) (by omega) _ hI, hR1, ho1, hq, rfl, hD2⟩
theorem law_c21 (hX : LX G p s m meth c b L xs) (hk : 6 * k + 6 ≤ L) (h : LQ G q oa ox om k M ad gi f wc w) (kk : LKK G p l e s m below meth c b Q q oa ox om k) : AWL G p l e s m below meth c b Q w (50 + 8 * k) (3300 + 100 * k) 1094 (llv b ox om oa k) [] := by
  obtain ⟨hI, hR, rfl, hq, rfl, hD⟩ := h
  have hL := hX.2.2.2
  refine aw_aload_n hX.1 dL_law_1094 rfl rfl ?_
  refine law_arg hX hk 1 (by decide) rfl rfl rfl dL_law_1095 dL_law_1096 dL_law_1098 dL_law_1099 dL_law_1100 ?_
  refine law_cx hX hD hR (kX10_name G l M ad gi wc hR hI.2.2.2.2.2.2.1.1 hI.2.2.2.2.2.2.1.2.2 _) okm_X10_name ml_L_112 im_X10_name se_X10_X10_name rfl rfl (Nat.le_of_ble_eq_true rfl) (Nat.le_of_ble_eq_true rfl) (Nat.le_of_ble_eq_true rfl) (Nat.le_of_ble_eq_true rfl) (Nat.le_of_ble_eq_true rfl) (by omega) (by omega) dL_law_1101 (fun wc1 w1 ad1 gi1 hR1 ho1 hD1 => ?_)
  refine aw_aload_n hX.1 dL_law_1104 rfl rfl ?_
  refine law_arg hX hk 1 (by decide) rfl rfl rfl dL_law_1105 dL_law_1106 dL_law_1108 dL_law_1109 dL_law_1110 ?_
  refine law_cm hX hD1 (kX11_name G l q M hq hI.2.2.2.2.2.2.1.2.2 _) okm_X11_name ml_L_115 im_X11_name se_X11_X11_name rfl rfl (Nat.le_of_ble_eq_true rfl) (Nat.le_of_ble_eq_true rfl) (Nat.le_of_ble_eq_true rfl) rfl rfl (by omega) (by omega) dL_law_1111 (fun w2 hD2 => ?_)
  refine aw_icmp_eq hX.1 (tgt := 1507) dL_law_1114 rfl (fun _ => ?_) (fun z => absurd rfl z)
  exact kk _ _ _ _ _ _ ⟨iv_name _ hI, hR1, ho1, hq, rfl, hD2⟩
theorem law_c22 (hX : LX G p s m meth c b L xs) (hk : 6 * k + 6 ≤ L) (h : LQ G q oa ox om k M ad gi f wc w) (kk : LKK G p l e s m below meth c b Q q oa ox om k) : AWL G p l e s m below meth c b Q w (50 + 8 * k) (3300 + 100 * k) 1119 (llv b ox om oa k) [] := by
  obtain ⟨hI, hR, rfl, hq, rfl, hD⟩ := h
  have hL := hX.2.2.2
  refine aw_aload_n hX.1 dL_law_1119 rfl rfl ?_
  refine law_arg hX hk 1 (by decide) rfl rfl rfl dL_law_1120 dL_law_1121 dL_law_1123 dL_law_1124 dL_law_1125 ?_
  refine law_cx hX hD hR (kX10_file G l M ad gi wc hR hI.2.2.2.1.1 hI.2.2.2.2.2.2.1.2.2 hI.2.2.2.1.2.2.1 hI.2.2.2.1.2.2.2.2.2.2 hI.2.2.2.2.1.1 hI.2.2.2.1.2.2.2.2.1 hI.2.2.2.1.2.2.2.2.2.1 hI.2.2.2.2.2.2.1.2.1 _) okm_X10_file ml_L_116 im_X10_file se_X10_X10_file rfl rfl (Nat.le_of_ble_eq_true rfl) (Nat.le_of_ble_eq_true rfl) (Nat.le_of_ble_eq_true rfl) (Nat.le_of_ble_eq_true rfl) (Nat.le_of_ble_eq_true rfl) (by omega) (by omega) dL_law_1126 (fun wc1 w1 ad1 gi1 hR1 ho1 hD1 => ?_)
  refine aw_aload_n hX.1 dL_law_1129 rfl rfl ?_
  refine law_arg hX hk 1 (by decide) rfl rfl rfl dL_law_1130 dL_law_1131 dL_law_1133 dL_law_1134 dL_law_1135 ?_
  refine law_cm hX hD1 (kX11_file G l q M hq hI.2.2.2.1.1 hI.2.2.2.2.2.2.1.2.2 _) okm_X11_file ml_L_119 im_X11_file se_X11_X11_file rfl rfl (Nat.le_of_ble_eq_true rfl) (Nat.le_of_ble_eq_true rfl) (Nat.le_of_ble_eq_true rfl) rfl rfl (by omega) (by omega) dL_law_1136 (fun w2 hD2 => ?_)
  refine aw_icmp_eq hX.1 (tgt := 1507) dL_law_1139 rfl (fun _ => ?_) (fun z => absurd rfl z)
  exact kk _ _ _ _ _ _ ⟨iv_file _ hI, hR1, ho1, hq, rfl, hD2⟩
end LWC
