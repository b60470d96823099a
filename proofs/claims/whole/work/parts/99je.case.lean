/-! 99je: the law, its calls 16 to 19 (laid by wip/whole/p99j.py) -/
theorem dL_860 : decode code 860 = .ok (.aload_n 1, 1) := by decide +kernel
theorem dL_861 : decode code 861 = .ok (.aload_n 0, 1) := by decide +kernel
theorem dL_862 : decode code 862 = .ok (.iload_n 3, 1) := by decide +kernel
theorem dL_863 : decode code 863 = .ok (.iconst 1, 1) := by decide +kernel
theorem dL_864 : decode code 864 = .ok (.iadd, 1) := by decide +kernel
theorem dL_865 : decode code 865 = .ok (.iaload, 1) := by decide +kernel
theorem dL_866 : decode code 866 = .ok (.aload_n 0, 1) := by decide +kernel
theorem dL_867 : decode code 867 = .ok (.iload_n 3, 1) := by decide +kernel
theorem dL_868 : decode code 868 = .ok (.iconst 2, 1) := by decide +kernel
theorem dL_869 : decode code 869 = .ok (.iadd, 1) := by decide +kernel
theorem dL_870 : decode code 870 = .ok (.iaload, 1) := by decide +kernel
theorem dL_871 : decode code 871 = .ok (.aload_n 0, 1) := by decide +kernel
theorem dL_872 : decode code 872 = .ok (.iload_n 3, 1) := by decide +kernel
theorem dL_873 : decode code 873 = .ok (.iconst 3, 1) := by decide +kernel
theorem dL_874 : decode code 874 = .ok (.iadd, 1) := by decide +kernel
theorem dL_875 : decode code 875 = .ok (.iaload, 1) := by decide +kernel
theorem dL_876 : decode code 876 = .ok (.invokevirtual 86, 3) := by decide +kernel
theorem dL_879 : decode code 879 = .ok (.aload_n 2, 1) := by decide +kernel
theorem dL_880 : decode code 880 = .ok (.aload_n 0, 1) := by decide +kernel
theorem dL_881 : decode code 881 = .ok (.iload_n 3, 1) := by decide +kernel
theorem dL_882 : decode code 882 = .ok (.iconst 1, 1) := by decide +kernel
theorem dL_883 : decode code 883 = .ok (.iadd, 1) := by decide +kernel
theorem dL_884 : decode code 884 = .ok (.iaload, 1) := by decide +kernel
theorem dL_885 : decode code 885 = .ok (.aload_n 0, 1) := by decide +kernel
theorem dL_886 : decode code 886 = .ok (.iload_n 3, 1) := by decide +kernel
theorem dL_887 : decode code 887 = .ok (.iconst 2, 1) := by decide +kernel
theorem dL_888 : decode code 888 = .ok (.iadd, 1) := by decide +kernel
theorem dL_889 : decode code 889 = .ok (.iaload, 1) := by decide +kernel
theorem dL_890 : decode code 890 = .ok (.aload_n 0, 1) := by decide +kernel
theorem dL_891 : decode code 891 = .ok (.iload_n 3, 1) := by decide +kernel
theorem dL_892 : decode code 892 = .ok (.iconst 3, 1) := by decide +kernel
theorem dL_893 : decode code 893 = .ok (.iadd, 1) := by decide +kernel
theorem dL_894 : decode code 894 = .ok (.iaload, 1) := by decide +kernel
theorem dL_895 : decode code 895 = .ok (.invokevirtual 90, 3) := by decide +kernel
theorem dL_898 : decode code 898 = .ok (.lcmp, 1) := by decide +kernel
theorem dL_899 : decode code 899 = .ok (.ifCond .eq 586, 3) := by decide +kernel
theorem lz_c16 {b L : Nat} {xs : Nat → Int32} {i : Int32} {h : ai_H} (hi : ∀ v : Nat, v < 8 → vp_in (i + nI v) L) (J : JI h) (hr1 : h.1 + 11 ≤ room_1.cells) (hr2 : h.2.1 + 3917 ≤ room_1.slots) (kx : ∀ h2, JI h2 → h2.1 ≤ h.1 + 11 → h2.2.1 ≤ h.2.1 + 3917 → lz_R b L xs 1485 [.retAddr 31, .ref 0, .ref 307, .int i] [] h2) : lz_R b L xs 860 [.retAddr 31, .ref 0, .ref 307, .int i] [] h := by
  obtain ⟨r, h1, h2, ⟨v, rfl⟩, m1, m2, ⟨fs1, e1⟩, J2, s1, s2⟩ := js_left (xs (i + nI 1).toNatClampNeg) (xs (i + nI 2).toNatClampNeg) (xs (i + nI 3).toNatClampNeg) h J
  have a1 := m1.1
  have a2 := m2.1
  obtain ⟨q0, fs0, e0⟩ := JI_cells J
  refine lz_ald (q := 0) dL_860 rfl ?_
  refine lz_arg (v := nI 1) dL_861 dL_862 dL_863 dL_864 dL_865 (by decide) (hi 1 (by decide)) ?_
  refine lz_arg (v := nI 2) dL_866 dL_867 dL_868 dL_869 dL_870 (by decide) (hi 2 (by decide)) ?_
  refine lz_arg (v := nI 3) dL_871 dL_872 dL_873 dL_874 dL_875 (by decide) (hi 3 (by decide)) ?_
  refine lz_call (as := [.int (xs (i + nI 1).toNatClampNeg), .int (xs (i + nI 2).toNatClampNeg), .int (xs (i + nI 3).toNatClampNeg)]) (st := []) (ci := 11) (q := 0) dL_876 mk_X11_left mlL_86 in_X11_left se_X11_left rfl (by omega) e0 rfl rfl (Nat.le_of_ble_eq_true rfl) m1 (by omega) (by omega) ?_
  show lz_R b L xs 879 [.retAddr 31, .ref 0, .ref 307, .int i] [.long v] h1
  refine lz_ald (q := 307) dL_879 rfl ?_
  refine lz_arg (v := nI 1) dL_880 dL_881 dL_882 dL_883 dL_884 (by decide) (hi 1 (by decide)) ?_
  refine lz_arg (v := nI 2) dL_885 dL_886 dL_887 dL_888 dL_889 (by decide) (hi 2 (by decide)) ?_
  refine lz_arg (v := nI 3) dL_890 dL_891 dL_892 dL_893 dL_894 (by decide) (hi 3 (by decide)) ?_
  refine lz_call (as := [.int (xs (i + nI 1).toNatClampNeg), .int (xs (i + nI 2).toNatClampNeg), .int (xs (i + nI 3).toNatClampNeg)]) (st := [.long v]) (ci := 12) (q := 307) dL_895 mk_X12_left mlL_90 in_X12_left se_X12_left rfl (by omega) e1 rfl rfl (Nat.le_of_ble_eq_true rfl) m2 (by omega) (by omega) ?_
  show lz_R b L xs 898 [.retAddr 31, .ref 0, .ref 307, .int i] [.long v, .long v] h2
  refine lz_eqL (tgt := 1485) dL_898 dL_899 (by decide) ?_
  exact kx h2 J2 s1 s2
theorem dL_904 : decode code 904 = .ok (.aload_n 1, 1) := by decide +kernel
theorem dL_905 : decode code 905 = .ok (.aload_n 0, 1) := by decide +kernel
theorem dL_906 : decode code 906 = .ok (.iload_n 3, 1) := by decide +kernel
theorem dL_907 : decode code 907 = .ok (.iconst 1, 1) := by decide +kernel
theorem dL_908 : decode code 908 = .ok (.iadd, 1) := by decide +kernel
theorem dL_909 : decode code 909 = .ok (.iaload, 1) := by decide +kernel
theorem dL_910 : decode code 910 = .ok (.aload_n 0, 1) := by decide +kernel
theorem dL_911 : decode code 911 = .ok (.iload_n 3, 1) := by decide +kernel
theorem dL_912 : decode code 912 = .ok (.iconst 2, 1) := by decide +kernel
theorem dL_913 : decode code 913 = .ok (.iadd, 1) := by decide +kernel
theorem dL_914 : decode code 914 = .ok (.iaload, 1) := by decide +kernel
theorem dL_915 : decode code 915 = .ok (.aload_n 0, 1) := by decide +kernel
theorem dL_916 : decode code 916 = .ok (.iload_n 3, 1) := by decide +kernel
theorem dL_917 : decode code 917 = .ok (.iconst 3, 1) := by decide +kernel
theorem dL_918 : decode code 918 = .ok (.iadd, 1) := by decide +kernel
theorem dL_919 : decode code 919 = .ok (.iaload, 1) := by decide +kernel
theorem dL_920 : decode code 920 = .ok (.aload_n 0, 1) := by decide +kernel
theorem dL_921 : decode code 921 = .ok (.iload_n 3, 1) := by decide +kernel
theorem dL_922 : decode code 922 = .ok (.iconst 4, 1) := by decide +kernel
theorem dL_923 : decode code 923 = .ok (.iadd, 1) := by decide +kernel
theorem dL_924 : decode code 924 = .ok (.iaload, 1) := by decide +kernel
theorem dL_925 : decode code 925 = .ok (.invokevirtual 91, 3) := by decide +kernel
theorem dL_928 : decode code 928 = .ok (.aload_n 2, 1) := by decide +kernel
theorem dL_929 : decode code 929 = .ok (.aload_n 0, 1) := by decide +kernel
theorem dL_930 : decode code 930 = .ok (.iload_n 3, 1) := by decide +kernel
theorem dL_931 : decode code 931 = .ok (.iconst 1, 1) := by decide +kernel
theorem dL_932 : decode code 932 = .ok (.iadd, 1) := by decide +kernel
theorem dL_933 : decode code 933 = .ok (.iaload, 1) := by decide +kernel
theorem dL_934 : decode code 934 = .ok (.aload_n 0, 1) := by decide +kernel
theorem dL_935 : decode code 935 = .ok (.iload_n 3, 1) := by decide +kernel
theorem dL_936 : decode code 936 = .ok (.iconst 2, 1) := by decide +kernel
theorem dL_937 : decode code 937 = .ok (.iadd, 1) := by decide +kernel
theorem dL_938 : decode code 938 = .ok (.iaload, 1) := by decide +kernel
theorem dL_939 : decode code 939 = .ok (.aload_n 0, 1) := by decide +kernel
theorem dL_940 : decode code 940 = .ok (.iload_n 3, 1) := by decide +kernel
theorem dL_941 : decode code 941 = .ok (.iconst 3, 1) := by decide +kernel
theorem dL_942 : decode code 942 = .ok (.iadd, 1) := by decide +kernel
theorem dL_943 : decode code 943 = .ok (.iaload, 1) := by decide +kernel
theorem dL_944 : decode code 944 = .ok (.aload_n 0, 1) := by decide +kernel
theorem dL_945 : decode code 945 = .ok (.iload_n 3, 1) := by decide +kernel
theorem dL_946 : decode code 946 = .ok (.iconst 4, 1) := by decide +kernel
theorem dL_947 : decode code 947 = .ok (.iadd, 1) := by decide +kernel
theorem dL_948 : decode code 948 = .ok (.iaload, 1) := by decide +kernel
theorem dL_949 : decode code 949 = .ok (.invokevirtual 94, 3) := by decide +kernel
theorem dL_952 : decode code 952 = .ok (.if_icmp .eq 533, 3) := by decide +kernel
theorem lz_c17 {b L : Nat} {xs : Nat → Int32} {i : Int32} {h : ai_H} (hi : ∀ v : Nat, v < 8 → vp_in (i + nI v) L) (J : JI h) (hr1 : h.1 + 11 ≤ room_1.cells) (hr2 : h.2.1 + 3917 ≤ room_1.slots) (kx : ∀ h2, JI h2 → h2.1 ≤ h.1 + 11 → h2.2.1 ≤ h.2.1 + 3917 → lz_R b L xs 1485 [.retAddr 31, .ref 0, .ref 307, .int i] [] h2) : lz_R b L xs 904 [.retAddr 31, .ref 0, .ref 307, .int i] [] h := by
  obtain ⟨r, h1, h2, ⟨v, rfl⟩, m1, m2, ⟨fs1, e1⟩, J2, s1, s2⟩ := js_best (xs (i + nI 1).toNatClampNeg) (xs (i + nI 2).toNatClampNeg) (xs (i + nI 3).toNatClampNeg) (xs (i + nI 4).toNatClampNeg) h J
  have a1 := m1.1
  have a2 := m2.1
  obtain ⟨q0, fs0, e0⟩ := JI_cells J
  refine lz_ald (q := 0) dL_904 rfl ?_
  refine lz_arg (v := nI 1) dL_905 dL_906 dL_907 dL_908 dL_909 (by decide) (hi 1 (by decide)) ?_
  refine lz_arg (v := nI 2) dL_910 dL_911 dL_912 dL_913 dL_914 (by decide) (hi 2 (by decide)) ?_
  refine lz_arg (v := nI 3) dL_915 dL_916 dL_917 dL_918 dL_919 (by decide) (hi 3 (by decide)) ?_
  refine lz_arg (v := nI 4) dL_920 dL_921 dL_922 dL_923 dL_924 (by decide) (hi 4 (by decide)) ?_
  refine lz_call (as := [.int (xs (i + nI 1).toNatClampNeg), .int (xs (i + nI 2).toNatClampNeg), .int (xs (i + nI 3).toNatClampNeg), .int (xs (i + nI 4).toNatClampNeg)]) (st := []) (ci := 11) (q := 0) dL_925 mk_X11_best mlL_91 in_X11_best se_X11_best rfl (by omega) e0 rfl rfl (Nat.le_of_ble_eq_true rfl) m1 (by omega) (by omega) ?_
  show lz_R b L xs 928 [.retAddr 31, .ref 0, .ref 307, .int i] [.int v] h1
  refine lz_ald (q := 307) dL_928 rfl ?_
  refine lz_arg (v := nI 1) dL_929 dL_930 dL_931 dL_932 dL_933 (by decide) (hi 1 (by decide)) ?_
  refine lz_arg (v := nI 2) dL_934 dL_935 dL_936 dL_937 dL_938 (by decide) (hi 2 (by decide)) ?_
  refine lz_arg (v := nI 3) dL_939 dL_940 dL_941 dL_942 dL_943 (by decide) (hi 3 (by decide)) ?_
  refine lz_arg (v := nI 4) dL_944 dL_945 dL_946 dL_947 dL_948 (by decide) (hi 4 (by decide)) ?_
  refine lz_call (as := [.int (xs (i + nI 1).toNatClampNeg), .int (xs (i + nI 2).toNatClampNeg), .int (xs (i + nI 3).toNatClampNeg), .int (xs (i + nI 4).toNatClampNeg)]) (st := [.int v]) (ci := 12) (q := 307) dL_949 mk_X12_best mlL_94 in_X12_best se_X12_best rfl (by omega) e1 rfl rfl (Nat.le_of_ble_eq_true rfl) m2 (by omega) (by omega) ?_
  show lz_R b L xs 952 [.retAddr 31, .ref 0, .ref 307, .int i] [.int v, .int v] h2
  refine lz_eqI (tgt := 1485) dL_952 (by decide) ?_
  exact kx h2 J2 s1 s2
theorem dL_957 : decode code 957 = .ok (.aload_n 1, 1) := by decide +kernel
theorem dL_958 : decode code 958 = .ok (.aload_n 0, 1) := by decide +kernel
theorem dL_959 : decode code 959 = .ok (.iload_n 3, 1) := by decide +kernel
theorem dL_960 : decode code 960 = .ok (.iconst 1, 1) := by decide +kernel
theorem dL_961 : decode code 961 = .ok (.iadd, 1) := by decide +kernel
theorem dL_962 : decode code 962 = .ok (.iaload, 1) := by decide +kernel
theorem dL_963 : decode code 963 = .ok (.aload_n 0, 1) := by decide +kernel
theorem dL_964 : decode code 964 = .ok (.iload_n 3, 1) := by decide +kernel
theorem dL_965 : decode code 965 = .ok (.iconst 2, 1) := by decide +kernel
theorem dL_966 : decode code 966 = .ok (.iadd, 1) := by decide +kernel
theorem dL_967 : decode code 967 = .ok (.iaload, 1) := by decide +kernel
theorem dL_968 : decode code 968 = .ok (.invokevirtual 95, 3) := by decide +kernel
theorem dL_971 : decode code 971 = .ok (.aload_n 2, 1) := by decide +kernel
theorem dL_972 : decode code 972 = .ok (.aload_n 0, 1) := by decide +kernel
theorem dL_973 : decode code 973 = .ok (.iload_n 3, 1) := by decide +kernel
theorem dL_974 : decode code 974 = .ok (.iconst 1, 1) := by decide +kernel
theorem dL_975 : decode code 975 = .ok (.iadd, 1) := by decide +kernel
theorem dL_976 : decode code 976 = .ok (.iaload, 1) := by decide +kernel
theorem dL_977 : decode code 977 = .ok (.aload_n 0, 1) := by decide +kernel
theorem dL_978 : decode code 978 = .ok (.iload_n 3, 1) := by decide +kernel
theorem dL_979 : decode code 979 = .ok (.iconst 2, 1) := by decide +kernel
theorem dL_980 : decode code 980 = .ok (.iadd, 1) := by decide +kernel
theorem dL_981 : decode code 981 = .ok (.iaload, 1) := by decide +kernel
theorem dL_982 : decode code 982 = .ok (.invokevirtual 99, 3) := by decide +kernel
theorem dL_985 : decode code 985 = .ok (.lcmp, 1) := by decide +kernel
theorem dL_986 : decode code 986 = .ok (.ifCond .eq 499, 3) := by decide +kernel
theorem lz_c18 {b L : Nat} {xs : Nat → Int32} {i : Int32} {h : ai_H} (hi : ∀ v : Nat, v < 8 → vp_in (i + nI v) L) (J : JI h) (hr1 : h.1 + 11 ≤ room_1.cells) (hr2 : h.2.1 + 3917 ≤ room_1.slots) (kx : ∀ h2, JI h2 → h2.1 ≤ h.1 + 11 → h2.2.1 ≤ h.2.1 + 3917 → lz_R b L xs 1485 [.retAddr 31, .ref 0, .ref 307, .int i] [] h2) : lz_R b L xs 957 [.retAddr 31, .ref 0, .ref 307, .int i] [] h := by
  obtain ⟨r, h1, h2, ⟨v, rfl⟩, m1, m2, ⟨fs1, e1⟩, J2, s1, s2⟩ := js_scatter (xs (i + nI 1).toNatClampNeg) (xs (i + nI 2).toNatClampNeg) h J
  have a1 := m1.1
  have a2 := m2.1
  obtain ⟨q0, fs0, e0⟩ := JI_cells J
  refine lz_ald (q := 0) dL_957 rfl ?_
  refine lz_arg (v := nI 1) dL_958 dL_959 dL_960 dL_961 dL_962 (by decide) (hi 1 (by decide)) ?_
  refine lz_arg (v := nI 2) dL_963 dL_964 dL_965 dL_966 dL_967 (by decide) (hi 2 (by decide)) ?_
  refine lz_call (as := [.int (xs (i + nI 1).toNatClampNeg), .int (xs (i + nI 2).toNatClampNeg)]) (st := []) (ci := 11) (q := 0) dL_968 mk_X11_scatter mlL_95 in_X11_scatter se_X11_scatter rfl (by omega) e0 rfl rfl (Nat.le_of_ble_eq_true rfl) m1 (by omega) (by omega) ?_
  show lz_R b L xs 971 [.retAddr 31, .ref 0, .ref 307, .int i] [.long v] h1
  refine lz_ald (q := 307) dL_971 rfl ?_
  refine lz_arg (v := nI 1) dL_972 dL_973 dL_974 dL_975 dL_976 (by decide) (hi 1 (by decide)) ?_
  refine lz_arg (v := nI 2) dL_977 dL_978 dL_979 dL_980 dL_981 (by decide) (hi 2 (by decide)) ?_
  refine lz_call (as := [.int (xs (i + nI 1).toNatClampNeg), .int (xs (i + nI 2).toNatClampNeg)]) (st := [.long v]) (ci := 12) (q := 307) dL_982 mk_X12_scatter mlL_99 in_X12_scatter se_X12_scatter rfl (by omega) e1 rfl rfl (Nat.le_of_ble_eq_true rfl) m2 (by omega) (by omega) ?_
  show lz_R b L xs 985 [.retAddr 31, .ref 0, .ref 307, .int i] [.long v, .long v] h2
  refine lz_eqL (tgt := 1485) dL_985 dL_986 (by decide) ?_
  exact kx h2 J2 s1 s2
theorem dL_991 : decode code 991 = .ok (.aload_n 1, 1) := by decide +kernel
theorem dL_992 : decode code 992 = .ok (.aload_n 0, 1) := by decide +kernel
theorem dL_993 : decode code 993 = .ok (.iload_n 3, 1) := by decide +kernel
theorem dL_994 : decode code 994 = .ok (.iconst 1, 1) := by decide +kernel
theorem dL_995 : decode code 995 = .ok (.iadd, 1) := by decide +kernel
theorem dL_996 : decode code 996 = .ok (.iaload, 1) := by decide +kernel
theorem dL_997 : decode code 997 = .ok (.invokevirtual 100, 3) := by decide +kernel
theorem dL_1000 : decode code 1000 = .ok (.aload_n 2, 1) := by decide +kernel
theorem dL_1001 : decode code 1001 = .ok (.aload_n 0, 1) := by decide +kernel
theorem dL_1002 : decode code 1002 = .ok (.iload_n 3, 1) := by decide +kernel
theorem dL_1003 : decode code 1003 = .ok (.iconst 1, 1) := by decide +kernel
theorem dL_1004 : decode code 1004 = .ok (.iadd, 1) := by decide +kernel
theorem dL_1005 : decode code 1005 = .ok (.iaload, 1) := by decide +kernel
theorem dL_1006 : decode code 1006 = .ok (.invokevirtual 103, 3) := by decide +kernel
theorem dL_1009 : decode code 1009 = .ok (.if_icmp .eq 476, 3) := by decide +kernel
theorem lz_c19 {b L : Nat} {xs : Nat → Int32} {i : Int32} {h : ai_H} (hi : ∀ v : Nat, v < 8 → vp_in (i + nI v) L) (J : JI h) (hr1 : h.1 + 11 ≤ room_1.cells) (hr2 : h.2.1 + 3917 ≤ room_1.slots) (kx : ∀ h2, JI h2 → h2.1 ≤ h.1 + 11 → h2.2.1 ≤ h.2.1 + 3917 → lz_R b L xs 1485 [.retAddr 31, .ref 0, .ref 307, .int i] [] h2) : lz_R b L xs 991 [.retAddr 31, .ref 0, .ref 307, .int i] [] h := by
  obtain ⟨r, h1, h2, ⟨v, rfl⟩, m1, m2, ⟨fs1, e1⟩, J2, s1, s2⟩ := js_finest (xs (i + nI 1).toNatClampNeg) h J
  have a1 := m1.1
  have a2 := m2.1
  obtain ⟨q0, fs0, e0⟩ := JI_cells J
  refine lz_ald (q := 0) dL_991 rfl ?_
  refine lz_arg (v := nI 1) dL_992 dL_993 dL_994 dL_995 dL_996 (by decide) (hi 1 (by decide)) ?_
  refine lz_call (as := [.int (xs (i + nI 1).toNatClampNeg)]) (st := []) (ci := 11) (q := 0) dL_997 mk_X11_finest mlL_100 in_X11_finest se_X11_finest rfl (by omega) e0 rfl rfl (Nat.le_of_ble_eq_true rfl) m1 (by omega) (by omega) ?_
  show lz_R b L xs 1000 [.retAddr 31, .ref 0, .ref 307, .int i] [.int v] h1
  refine lz_ald (q := 307) dL_1000 rfl ?_
  refine lz_arg (v := nI 1) dL_1001 dL_1002 dL_1003 dL_1004 dL_1005 (by decide) (hi 1 (by decide)) ?_
  refine lz_call (as := [.int (xs (i + nI 1).toNatClampNeg)]) (st := [.int v]) (ci := 12) (q := 307) dL_1006 mk_X12_finest mlL_103 in_X12_finest se_X12_finest rfl (by omega) e1 rfl rfl (Nat.le_of_ble_eq_true rfl) m2 (by omega) (by omega) ?_
  show lz_R b L xs 1009 [.retAddr 31, .ref 0, .ref 307, .int i] [.int v, .int v] h2
  refine lz_eqI (tgt := 1485) dL_1009 (by decide) ?_
  exact kx h2 J2 s1 s2
