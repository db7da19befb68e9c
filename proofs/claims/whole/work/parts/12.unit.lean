set_option maxHeartbeats 4000000 in
set_option maxRecDepth 100000 in
theorem s_X4_becomeUnit (B : zBB) (h : zHp) (a : Nat) (P : z4) (ha : h a = some (zFo P)) (k : Int32) : zSpec mX4_becomeUnit B (1, 0, 0) [.ref a, .int k] h (zPf none (zU h a (zFo (zUn k)))) := by
  refine zSpec.of (by decide) (Nat.le_of_ble_eq_true rfl) (fun X hZ => ?_)
  show zG X mX4_becomeUnit B (1, 0, 0) (0, 0) 0 [(0, .ref a), (1, .int k)] [] h
  refine zi_iload_n 1 dX4_becomeUnit_0 rfl rfl ?_
  refine zi_bipush (v := 16) 3 dX4_becomeUnit_1 (by decide) rfl ?_
  refine zi_icmp_ge 6 41 dX4_becomeUnit_3 (by decide) rfl (fun c_3 => ?_) (fun c_3 => ?_)
  ·
    refine zi_iload_n 42 dX4_becomeUnit_41 rfl rfl ?_
    refine zi_bipush (v := 16) 44 dX4_becomeUnit_42 (by decide) rfl ?_
    refine zi_isub 45 dX4_becomeUnit_44 rfl ?_
    refine zi_iconst (v := 1) 46 dX4_becomeUnit_45 (by decide) rfl ?_
    refine zi_ishr 47 dX4_becomeUnit_46 rfl ?_
    refine zi_istore_n (lv' := [(2, _), (0, _), (1, _)]) 48 dX4_becomeUnit_47 rfl rfl rfl ?_
    refine zi_iload_n 49 dX4_becomeUnit_48 rfl rfl ?_
    refine zi_iconst (v := 1) 50 dX4_becomeUnit_49 (by decide) rfl ?_
    refine zi_iand 51 dX4_becomeUnit_50 rfl ?_
    refine zi_if_ne 54 60 dX4_becomeUnit_51 (by decide) rfl (fun c_51 => ?_) (fun c_51 => ?_)
    ·
      refine zi_ldc2 63 dX4_becomeUnit_60 tw_678 rfl ?_
      refine zi_lstore_n (lv' := [(3, _), (2, _), (0, _), (1, _)]) 64 dX4_becomeUnit_63 rfl rfl rfl ?_
      refine zi_aload_n 65 dX4_becomeUnit_64 rfl rfl ?_
      refine zi_iload_n 66 dX4_becomeUnit_65 rfl rfl ?_
      refine zi_if_ne 69 73 dX4_becomeUnit_66 (by decide) rfl (fun c_66 => ?_) (fun c_66 => ?_)
      ·
        refine zi_lconst (v := 0) 74 dX4_becomeUnit_73 (by decide) rfl ?_
        refine zi_iload_n 75 dX4_becomeUnit_74 rfl rfl ?_
        refine zi_iconst (v := 1) 76 dX4_becomeUnit_75 (by decide) rfl ?_
        refine zi_icmp_ne 79 83 dX4_becomeUnit_76 (by decide) rfl (fun c_76 => ?_) (fun c_76 => ?_)
        ·
          refine zi_lconst (v := 0) 84 dX4_becomeUnit_83 (by decide) rfl ?_
          refine zi_iload_n 85 dX4_becomeUnit_84 rfl rfl ?_
          refine zi_iconst (v := 2) 86 dX4_becomeUnit_85 (by decide) rfl ?_
          refine zi_icmp_ne 89 93 dX4_becomeUnit_86 (by decide) rfl (fun c_86 => ?_) (fun c_86 => ?_)
          ·
            refine zi_lconst (v := 0) 94 dX4_becomeUnit_93 (by decide) rfl ?_
            refine zi_iload_n 95 dX4_becomeUnit_94 rfl rfl ?_
            refine zi_iconst (v := 3) 96 dX4_becomeUnit_95 (by decide) rfl ?_
            refine zi_icmp_ne 99 103 dX4_becomeUnit_96 (by decide) rfl (fun c_96 => ?_) (fun c_96 => ?_)
            ·
              refine zi_lconst (v := 0) 104 dX4_becomeUnit_103 (by decide) rfl ?_
              refine zc_virtual (n' := (0, 0)) (md' := mX4_become) 107 dX4_becomeUnit_104 tw_447 zv_X4_become zcl_X4 (s_X4_become B h a P ha _ _ _ _) ha rfl rfl rfl rfl rfl rfl rfl rfl (zk_n ?_)
              exact zr_void hZ dX4_becomeUnit_107 rfl ⟨rfl, by first | (simp [zUn, *]; done) | (exfalso; simp_all; done)⟩
            ·
              refine zi_lload_n 100 dX4_becomeUnit_99 rfl rfl ?_
              refine zi_goto 104 dX4_becomeUnit_100 (by decide) ?_
              refine zc_virtual (n' := (0, 0)) (md' := mX4_become) 107 dX4_becomeUnit_104 tw_447 zv_X4_become zcl_X4 (s_X4_become B h a P ha _ _ _ _) ha rfl rfl rfl rfl rfl rfl rfl rfl (zk_n ?_)
              exact zr_void hZ dX4_becomeUnit_107 rfl ⟨rfl, by first | (simp [zUn, *]; done) | (exfalso; simp_all; done)⟩
          ·
            refine zi_lload_n 90 dX4_becomeUnit_89 rfl rfl ?_
            refine zi_goto 94 dX4_becomeUnit_90 (by decide) ?_
            refine zi_iload_n 95 dX4_becomeUnit_94 rfl rfl ?_
            refine zi_iconst (v := 3) 96 dX4_becomeUnit_95 (by decide) rfl ?_
            refine zi_icmp_ne 99 103 dX4_becomeUnit_96 (by decide) rfl (fun c_96 => ?_) (fun c_96 => ?_)
            ·
              refine zi_lconst (v := 0) 104 dX4_becomeUnit_103 (by decide) rfl ?_
              refine zc_virtual (n' := (0, 0)) (md' := mX4_become) 107 dX4_becomeUnit_104 tw_447 zv_X4_become zcl_X4 (s_X4_become B h a P ha _ _ _ _) ha rfl rfl rfl rfl rfl rfl rfl rfl (zk_n ?_)
              exact zr_void hZ dX4_becomeUnit_107 rfl ⟨rfl, by first | (simp [zUn, *]; done) | (exfalso; simp_all; done)⟩
            ·
              refine zi_lload_n 100 dX4_becomeUnit_99 rfl rfl ?_
              refine zi_goto 104 dX4_becomeUnit_100 (by decide) ?_
              refine zc_virtual (n' := (0, 0)) (md' := mX4_become) 107 dX4_becomeUnit_104 tw_447 zv_X4_become zcl_X4 (s_X4_become B h a P ha _ _ _ _) ha rfl rfl rfl rfl rfl rfl rfl rfl (zk_n ?_)
              exact zr_void hZ dX4_becomeUnit_107 rfl ⟨rfl, by first | (simp [zUn, *]; done) | (exfalso; simp_all; done)⟩
        ·
          refine zi_lload_n 80 dX4_becomeUnit_79 rfl rfl ?_
          refine zi_goto 84 dX4_becomeUnit_80 (by decide) ?_
          refine zi_iload_n 85 dX4_becomeUnit_84 rfl rfl ?_
          refine zi_iconst (v := 2) 86 dX4_becomeUnit_85 (by decide) rfl ?_
          refine zi_icmp_ne 89 93 dX4_becomeUnit_86 (by decide) rfl (fun c_86 => ?_) (fun c_86 => ?_)
          ·
            refine zi_lconst (v := 0) 94 dX4_becomeUnit_93 (by decide) rfl ?_
            refine zi_iload_n 95 dX4_becomeUnit_94 rfl rfl ?_
            refine zi_iconst (v := 3) 96 dX4_becomeUnit_95 (by decide) rfl ?_
            refine zi_icmp_ne 99 103 dX4_becomeUnit_96 (by decide) rfl (fun c_96 => ?_) (fun c_96 => ?_)
            ·
              refine zi_lconst (v := 0) 104 dX4_becomeUnit_103 (by decide) rfl ?_
              refine zc_virtual (n' := (0, 0)) (md' := mX4_become) 107 dX4_becomeUnit_104 tw_447 zv_X4_become zcl_X4 (s_X4_become B h a P ha _ _ _ _) ha rfl rfl rfl rfl rfl rfl rfl rfl (zk_n ?_)
              exact zr_void hZ dX4_becomeUnit_107 rfl ⟨rfl, by first | (simp [zUn, *]; done) | (exfalso; simp_all; done)⟩
            ·
              refine zi_lload_n 100 dX4_becomeUnit_99 rfl rfl ?_
              refine zi_goto 104 dX4_becomeUnit_100 (by decide) ?_
              refine zc_virtual (n' := (0, 0)) (md' := mX4_become) 107 dX4_becomeUnit_104 tw_447 zv_X4_become zcl_X4 (s_X4_become B h a P ha _ _ _ _) ha rfl rfl rfl rfl rfl rfl rfl rfl (zk_n ?_)
              exact zr_void hZ dX4_becomeUnit_107 rfl ⟨rfl, by first | (simp [zUn, *]; done) | (exfalso; simp_all; done)⟩
          ·
            refine zi_lload_n 90 dX4_becomeUnit_89 rfl rfl ?_
            refine zi_goto 94 dX4_becomeUnit_90 (by decide) ?_
            refine zi_iload_n 95 dX4_becomeUnit_94 rfl rfl ?_
            refine zi_iconst (v := 3) 96 dX4_becomeUnit_95 (by decide) rfl ?_
            refine zi_icmp_ne 99 103 dX4_becomeUnit_96 (by decide) rfl (fun c_96 => ?_) (fun c_96 => ?_)
            ·
              refine zi_lconst (v := 0) 104 dX4_becomeUnit_103 (by decide) rfl ?_
              refine zc_virtual (n' := (0, 0)) (md' := mX4_become) 107 dX4_becomeUnit_104 tw_447 zv_X4_become zcl_X4 (s_X4_become B h a P ha _ _ _ _) ha rfl rfl rfl rfl rfl rfl rfl rfl (zk_n ?_)
              exact zr_void hZ dX4_becomeUnit_107 rfl ⟨rfl, by first | (simp [zUn, *]; done) | (exfalso; simp_all; done)⟩
            ·
              refine zi_lload_n 100 dX4_becomeUnit_99 rfl rfl ?_
              refine zi_goto 104 dX4_becomeUnit_100 (by decide) ?_
              refine zc_virtual (n' := (0, 0)) (md' := mX4_become) 107 dX4_becomeUnit_104 tw_447 zv_X4_become zcl_X4 (s_X4_become B h a P ha _ _ _ _) ha rfl rfl rfl rfl rfl rfl rfl rfl (zk_n ?_)
              exact zr_void hZ dX4_becomeUnit_107 rfl ⟨rfl, by first | (simp [zUn, *]; done) | (exfalso; simp_all; done)⟩
      ·
        refine zi_lload_n 70 dX4_becomeUnit_69 rfl rfl ?_
        refine zi_goto 74 dX4_becomeUnit_70 (by decide) ?_
        refine zi_iload_n 75 dX4_becomeUnit_74 rfl rfl ?_
        refine zi_iconst (v := 1) 76 dX4_becomeUnit_75 (by decide) rfl ?_
        refine zi_icmp_ne 79 83 dX4_becomeUnit_76 (by decide) rfl (fun c_76 => ?_) (fun c_76 => ?_)
        ·
          refine zi_lconst (v := 0) 84 dX4_becomeUnit_83 (by decide) rfl ?_
          refine zi_iload_n 85 dX4_becomeUnit_84 rfl rfl ?_
          refine zi_iconst (v := 2) 86 dX4_becomeUnit_85 (by decide) rfl ?_
          refine zi_icmp_ne 89 93 dX4_becomeUnit_86 (by decide) rfl (fun c_86 => ?_) (fun c_86 => ?_)
          ·
            refine zi_lconst (v := 0) 94 dX4_becomeUnit_93 (by decide) rfl ?_
            refine zi_iload_n 95 dX4_becomeUnit_94 rfl rfl ?_
            refine zi_iconst (v := 3) 96 dX4_becomeUnit_95 (by decide) rfl ?_
            refine zi_icmp_ne 99 103 dX4_becomeUnit_96 (by decide) rfl (fun c_96 => ?_) (fun c_96 => ?_)
            ·
              refine zi_lconst (v := 0) 104 dX4_becomeUnit_103 (by decide) rfl ?_
              refine zc_virtual (n' := (0, 0)) (md' := mX4_become) 107 dX4_becomeUnit_104 tw_447 zv_X4_become zcl_X4 (s_X4_become B h a P ha _ _ _ _) ha rfl rfl rfl rfl rfl rfl rfl rfl (zk_n ?_)
              exact zr_void hZ dX4_becomeUnit_107 rfl ⟨rfl, by first | (simp [zUn, *]; done) | (exfalso; simp_all; done)⟩
            ·
              refine zi_lload_n 100 dX4_becomeUnit_99 rfl rfl ?_
              refine zi_goto 104 dX4_becomeUnit_100 (by decide) ?_
              refine zc_virtual (n' := (0, 0)) (md' := mX4_become) 107 dX4_becomeUnit_104 tw_447 zv_X4_become zcl_X4 (s_X4_become B h a P ha _ _ _ _) ha rfl rfl rfl rfl rfl rfl rfl rfl (zk_n ?_)
              exact zr_void hZ dX4_becomeUnit_107 rfl ⟨rfl, by first | (simp [zUn, *]; done) | (exfalso; simp_all; done)⟩
          ·
            refine zi_lload_n 90 dX4_becomeUnit_89 rfl rfl ?_
            refine zi_goto 94 dX4_becomeUnit_90 (by decide) ?_
            refine zi_iload_n 95 dX4_becomeUnit_94 rfl rfl ?_
            refine zi_iconst (v := 3) 96 dX4_becomeUnit_95 (by decide) rfl ?_
            refine zi_icmp_ne 99 103 dX4_becomeUnit_96 (by decide) rfl (fun c_96 => ?_) (fun c_96 => ?_)
            ·
              refine zi_lconst (v := 0) 104 dX4_becomeUnit_103 (by decide) rfl ?_
              refine zc_virtual (n' := (0, 0)) (md' := mX4_become) 107 dX4_becomeUnit_104 tw_447 zv_X4_become zcl_X4 (s_X4_become B h a P ha _ _ _ _) ha rfl rfl rfl rfl rfl rfl rfl rfl (zk_n ?_)
              exact zr_void hZ dX4_becomeUnit_107 rfl ⟨rfl, by first | (simp [zUn, *]; done) | (exfalso; simp_all; done)⟩
            ·
              refine zi_lload_n 100 dX4_becomeUnit_99 rfl rfl ?_
              refine zi_goto 104 dX4_becomeUnit_100 (by decide) ?_
              refine zc_virtual (n' := (0, 0)) (md' := mX4_become) 107 dX4_becomeUnit_104 tw_447 zv_X4_become zcl_X4 (s_X4_become B h a P ha _ _ _ _) ha rfl rfl rfl rfl rfl rfl rfl rfl (zk_n ?_)
              exact zr_void hZ dX4_becomeUnit_107 rfl ⟨rfl, by first | (simp [zUn, *]; done) | (exfalso; simp_all; done)⟩
        ·
          refine zi_lload_n 80 dX4_becomeUnit_79 rfl rfl ?_
          refine zi_goto 84 dX4_becomeUnit_80 (by decide) ?_
          refine zi_iload_n 85 dX4_becomeUnit_84 rfl rfl ?_
          refine zi_iconst (v := 2) 86 dX4_becomeUnit_85 (by decide) rfl ?_
          refine zi_icmp_ne 89 93 dX4_becomeUnit_86 (by decide) rfl (fun c_86 => ?_) (fun c_86 => ?_)
          ·
            refine zi_lconst (v := 0) 94 dX4_becomeUnit_93 (by decide) rfl ?_
            refine zi_iload_n 95 dX4_becomeUnit_94 rfl rfl ?_
            refine zi_iconst (v := 3) 96 dX4_becomeUnit_95 (by decide) rfl ?_
            refine zi_icmp_ne 99 103 dX4_becomeUnit_96 (by decide) rfl (fun c_96 => ?_) (fun c_96 => ?_)
            ·
              refine zi_lconst (v := 0) 104 dX4_becomeUnit_103 (by decide) rfl ?_
              refine zc_virtual (n' := (0, 0)) (md' := mX4_become) 107 dX4_becomeUnit_104 tw_447 zv_X4_become zcl_X4 (s_X4_become B h a P ha _ _ _ _) ha rfl rfl rfl rfl rfl rfl rfl rfl (zk_n ?_)
              exact zr_void hZ dX4_becomeUnit_107 rfl ⟨rfl, by first | (simp [zUn, *]; done) | (exfalso; simp_all; done)⟩
            ·
              refine zi_lload_n 100 dX4_becomeUnit_99 rfl rfl ?_
              refine zi_goto 104 dX4_becomeUnit_100 (by decide) ?_
              refine zc_virtual (n' := (0, 0)) (md' := mX4_become) 107 dX4_becomeUnit_104 tw_447 zv_X4_become zcl_X4 (s_X4_become B h a P ha _ _ _ _) ha rfl rfl rfl rfl rfl rfl rfl rfl (zk_n ?_)
              exact zr_void hZ dX4_becomeUnit_107 rfl ⟨rfl, by first | (simp [zUn, *]; done) | (exfalso; simp_all; done)⟩
          ·
            refine zi_lload_n 90 dX4_becomeUnit_89 rfl rfl ?_
            refine zi_goto 94 dX4_becomeUnit_90 (by decide) ?_
            refine zi_iload_n 95 dX4_becomeUnit_94 rfl rfl ?_
            refine zi_iconst (v := 3) 96 dX4_becomeUnit_95 (by decide) rfl ?_
            refine zi_icmp_ne 99 103 dX4_becomeUnit_96 (by decide) rfl (fun c_96 => ?_) (fun c_96 => ?_)
            ·
              refine zi_lconst (v := 0) 104 dX4_becomeUnit_103 (by decide) rfl ?_
              refine zc_virtual (n' := (0, 0)) (md' := mX4_become) 107 dX4_becomeUnit_104 tw_447 zv_X4_become zcl_X4 (s_X4_become B h a P ha _ _ _ _) ha rfl rfl rfl rfl rfl rfl rfl rfl (zk_n ?_)
              exact zr_void hZ dX4_becomeUnit_107 rfl ⟨rfl, by first | (simp [zUn, *]; done) | (exfalso; simp_all; done)⟩
            ·
              refine zi_lload_n 100 dX4_becomeUnit_99 rfl rfl ?_
              refine zi_goto 104 dX4_becomeUnit_100 (by decide) ?_
              refine zc_virtual (n' := (0, 0)) (md' := mX4_become) 107 dX4_becomeUnit_104 tw_447 zv_X4_become zcl_X4 (s_X4_become B h a P ha _ _ _ _) ha rfl rfl rfl rfl rfl rfl rfl rfl (zk_n ?_)
              exact zr_void hZ dX4_becomeUnit_107 rfl ⟨rfl, by first | (simp [zUn, *]; done) | (exfalso; simp_all; done)⟩
    ·
      refine zi_ldc2 57 dX4_becomeUnit_54 tw_476 rfl ?_
      refine zi_goto 63 dX4_becomeUnit_57 (by decide) ?_
      refine zi_lstore_n (lv' := [(3, _), (2, _), (0, _), (1, _)]) 64 dX4_becomeUnit_63 rfl rfl rfl ?_
      refine zi_aload_n 65 dX4_becomeUnit_64 rfl rfl ?_
      refine zi_iload_n 66 dX4_becomeUnit_65 rfl rfl ?_
      refine zi_if_ne 69 73 dX4_becomeUnit_66 (by decide) rfl (fun c_66 => ?_) (fun c_66 => ?_)
      ·
        refine zi_lconst (v := 0) 74 dX4_becomeUnit_73 (by decide) rfl ?_
        refine zi_iload_n 75 dX4_becomeUnit_74 rfl rfl ?_
        refine zi_iconst (v := 1) 76 dX4_becomeUnit_75 (by decide) rfl ?_
        refine zi_icmp_ne 79 83 dX4_becomeUnit_76 (by decide) rfl (fun c_76 => ?_) (fun c_76 => ?_)
        ·
          refine zi_lconst (v := 0) 84 dX4_becomeUnit_83 (by decide) rfl ?_
          refine zi_iload_n 85 dX4_becomeUnit_84 rfl rfl ?_
          refine zi_iconst (v := 2) 86 dX4_becomeUnit_85 (by decide) rfl ?_
          refine zi_icmp_ne 89 93 dX4_becomeUnit_86 (by decide) rfl (fun c_86 => ?_) (fun c_86 => ?_)
          ·
            refine zi_lconst (v := 0) 94 dX4_becomeUnit_93 (by decide) rfl ?_
            refine zi_iload_n 95 dX4_becomeUnit_94 rfl rfl ?_
            refine zi_iconst (v := 3) 96 dX4_becomeUnit_95 (by decide) rfl ?_
            refine zi_icmp_ne 99 103 dX4_becomeUnit_96 (by decide) rfl (fun c_96 => ?_) (fun c_96 => ?_)
            ·
              refine zi_lconst (v := 0) 104 dX4_becomeUnit_103 (by decide) rfl ?_
              refine zc_virtual (n' := (0, 0)) (md' := mX4_become) 107 dX4_becomeUnit_104 tw_447 zv_X4_become zcl_X4 (s_X4_become B h a P ha _ _ _ _) ha rfl rfl rfl rfl rfl rfl rfl rfl (zk_n ?_)
              exact zr_void hZ dX4_becomeUnit_107 rfl ⟨rfl, by first | (simp [zUn, *]; done) | (exfalso; simp_all; done)⟩
            ·
              refine zi_lload_n 100 dX4_becomeUnit_99 rfl rfl ?_
              refine zi_goto 104 dX4_becomeUnit_100 (by decide) ?_
              refine zc_virtual (n' := (0, 0)) (md' := mX4_become) 107 dX4_becomeUnit_104 tw_447 zv_X4_become zcl_X4 (s_X4_become B h a P ha _ _ _ _) ha rfl rfl rfl rfl rfl rfl rfl rfl (zk_n ?_)
              exact zr_void hZ dX4_becomeUnit_107 rfl ⟨rfl, by first | (simp [zUn, *]; done) | (exfalso; simp_all; done)⟩
          ·
            refine zi_lload_n 90 dX4_becomeUnit_89 rfl rfl ?_
            refine zi_goto 94 dX4_becomeUnit_90 (by decide) ?_
            refine zi_iload_n 95 dX4_becomeUnit_94 rfl rfl ?_
            refine zi_iconst (v := 3) 96 dX4_becomeUnit_95 (by decide) rfl ?_
            refine zi_icmp_ne 99 103 dX4_becomeUnit_96 (by decide) rfl (fun c_96 => ?_) (fun c_96 => ?_)
            ·
              refine zi_lconst (v := 0) 104 dX4_becomeUnit_103 (by decide) rfl ?_
              refine zc_virtual (n' := (0, 0)) (md' := mX4_become) 107 dX4_becomeUnit_104 tw_447 zv_X4_become zcl_X4 (s_X4_become B h a P ha _ _ _ _) ha rfl rfl rfl rfl rfl rfl rfl rfl (zk_n ?_)
              exact zr_void hZ dX4_becomeUnit_107 rfl ⟨rfl, by first | (simp [zUn, *]; done) | (exfalso; simp_all; done)⟩
            ·
              refine zi_lload_n 100 dX4_becomeUnit_99 rfl rfl ?_
              refine zi_goto 104 dX4_becomeUnit_100 (by decide) ?_
              refine zc_virtual (n' := (0, 0)) (md' := mX4_become) 107 dX4_becomeUnit_104 tw_447 zv_X4_become zcl_X4 (s_X4_become B h a P ha _ _ _ _) ha rfl rfl rfl rfl rfl rfl rfl rfl (zk_n ?_)
              exact zr_void hZ dX4_becomeUnit_107 rfl ⟨rfl, by first | (simp [zUn, *]; done) | (exfalso; simp_all; done)⟩
        ·
          refine zi_lload_n 80 dX4_becomeUnit_79 rfl rfl ?_
          refine zi_goto 84 dX4_becomeUnit_80 (by decide) ?_
          refine zi_iload_n 85 dX4_becomeUnit_84 rfl rfl ?_
          refine zi_iconst (v := 2) 86 dX4_becomeUnit_85 (by decide) rfl ?_
          refine zi_icmp_ne 89 93 dX4_becomeUnit_86 (by decide) rfl (fun c_86 => ?_) (fun c_86 => ?_)
          ·
            refine zi_lconst (v := 0) 94 dX4_becomeUnit_93 (by decide) rfl ?_
            refine zi_iload_n 95 dX4_becomeUnit_94 rfl rfl ?_
            refine zi_iconst (v := 3) 96 dX4_becomeUnit_95 (by decide) rfl ?_
            refine zi_icmp_ne 99 103 dX4_becomeUnit_96 (by decide) rfl (fun c_96 => ?_) (fun c_96 => ?_)
            ·
              refine zi_lconst (v := 0) 104 dX4_becomeUnit_103 (by decide) rfl ?_
              refine zc_virtual (n' := (0, 0)) (md' := mX4_become) 107 dX4_becomeUnit_104 tw_447 zv_X4_become zcl_X4 (s_X4_become B h a P ha _ _ _ _) ha rfl rfl rfl rfl rfl rfl rfl rfl (zk_n ?_)
              exact zr_void hZ dX4_becomeUnit_107 rfl ⟨rfl, by first | (simp [zUn, *]; done) | (exfalso; simp_all; done)⟩
            ·
              refine zi_lload_n 100 dX4_becomeUnit_99 rfl rfl ?_
              refine zi_goto 104 dX4_becomeUnit_100 (by decide) ?_
              refine zc_virtual (n' := (0, 0)) (md' := mX4_become) 107 dX4_becomeUnit_104 tw_447 zv_X4_become zcl_X4 (s_X4_become B h a P ha _ _ _ _) ha rfl rfl rfl rfl rfl rfl rfl rfl (zk_n ?_)
              exact zr_void hZ dX4_becomeUnit_107 rfl ⟨rfl, by first | (simp [zUn, *]; done) | (exfalso; simp_all; done)⟩
          ·
            refine zi_lload_n 90 dX4_becomeUnit_89 rfl rfl ?_
            refine zi_goto 94 dX4_becomeUnit_90 (by decide) ?_
            refine zi_iload_n 95 dX4_becomeUnit_94 rfl rfl ?_
            refine zi_iconst (v := 3) 96 dX4_becomeUnit_95 (by decide) rfl ?_
            refine zi_icmp_ne 99 103 dX4_becomeUnit_96 (by decide) rfl (fun c_96 => ?_) (fun c_96 => ?_)
            ·
              refine zi_lconst (v := 0) 104 dX4_becomeUnit_103 (by decide) rfl ?_
              refine zc_virtual (n' := (0, 0)) (md' := mX4_become) 107 dX4_becomeUnit_104 tw_447 zv_X4_become zcl_X4 (s_X4_become B h a P ha _ _ _ _) ha rfl rfl rfl rfl rfl rfl rfl rfl (zk_n ?_)
              exact zr_void hZ dX4_becomeUnit_107 rfl ⟨rfl, by first | (simp [zUn, *]; done) | (exfalso; simp_all; done)⟩
            ·
              refine zi_lload_n 100 dX4_becomeUnit_99 rfl rfl ?_
              refine zi_goto 104 dX4_becomeUnit_100 (by decide) ?_
              refine zc_virtual (n' := (0, 0)) (md' := mX4_become) 107 dX4_becomeUnit_104 tw_447 zv_X4_become zcl_X4 (s_X4_become B h a P ha _ _ _ _) ha rfl rfl rfl rfl rfl rfl rfl rfl (zk_n ?_)
              exact zr_void hZ dX4_becomeUnit_107 rfl ⟨rfl, by first | (simp [zUn, *]; done) | (exfalso; simp_all; done)⟩
      ·
        refine zi_lload_n 70 dX4_becomeUnit_69 rfl rfl ?_
        refine zi_goto 74 dX4_becomeUnit_70 (by decide) ?_
        refine zi_iload_n 75 dX4_becomeUnit_74 rfl rfl ?_
        refine zi_iconst (v := 1) 76 dX4_becomeUnit_75 (by decide) rfl ?_
        refine zi_icmp_ne 79 83 dX4_becomeUnit_76 (by decide) rfl (fun c_76 => ?_) (fun c_76 => ?_)
        ·
          refine zi_lconst (v := 0) 84 dX4_becomeUnit_83 (by decide) rfl ?_
          refine zi_iload_n 85 dX4_becomeUnit_84 rfl rfl ?_
          refine zi_iconst (v := 2) 86 dX4_becomeUnit_85 (by decide) rfl ?_
          refine zi_icmp_ne 89 93 dX4_becomeUnit_86 (by decide) rfl (fun c_86 => ?_) (fun c_86 => ?_)
          ·
            refine zi_lconst (v := 0) 94 dX4_becomeUnit_93 (by decide) rfl ?_
            refine zi_iload_n 95 dX4_becomeUnit_94 rfl rfl ?_
            refine zi_iconst (v := 3) 96 dX4_becomeUnit_95 (by decide) rfl ?_
            refine zi_icmp_ne 99 103 dX4_becomeUnit_96 (by decide) rfl (fun c_96 => ?_) (fun c_96 => ?_)
            ·
              refine zi_lconst (v := 0) 104 dX4_becomeUnit_103 (by decide) rfl ?_
              refine zc_virtual (n' := (0, 0)) (md' := mX4_become) 107 dX4_becomeUnit_104 tw_447 zv_X4_become zcl_X4 (s_X4_become B h a P ha _ _ _ _) ha rfl rfl rfl rfl rfl rfl rfl rfl (zk_n ?_)
              exact zr_void hZ dX4_becomeUnit_107 rfl ⟨rfl, by first | (simp [zUn, *]; done) | (exfalso; simp_all; done)⟩
            ·
              refine zi_lload_n 100 dX4_becomeUnit_99 rfl rfl ?_
              refine zi_goto 104 dX4_becomeUnit_100 (by decide) ?_
              refine zc_virtual (n' := (0, 0)) (md' := mX4_become) 107 dX4_becomeUnit_104 tw_447 zv_X4_become zcl_X4 (s_X4_become B h a P ha _ _ _ _) ha rfl rfl rfl rfl rfl rfl rfl rfl (zk_n ?_)
              exact zr_void hZ dX4_becomeUnit_107 rfl ⟨rfl, by first | (simp [zUn, *]; done) | (exfalso; simp_all; done)⟩
          ·
            refine zi_lload_n 90 dX4_becomeUnit_89 rfl rfl ?_
            refine zi_goto 94 dX4_becomeUnit_90 (by decide) ?_
            refine zi_iload_n 95 dX4_becomeUnit_94 rfl rfl ?_
            refine zi_iconst (v := 3) 96 dX4_becomeUnit_95 (by decide) rfl ?_
            refine zi_icmp_ne 99 103 dX4_becomeUnit_96 (by decide) rfl (fun c_96 => ?_) (fun c_96 => ?_)
            ·
              refine zi_lconst (v := 0) 104 dX4_becomeUnit_103 (by decide) rfl ?_
              refine zc_virtual (n' := (0, 0)) (md' := mX4_become) 107 dX4_becomeUnit_104 tw_447 zv_X4_become zcl_X4 (s_X4_become B h a P ha _ _ _ _) ha rfl rfl rfl rfl rfl rfl rfl rfl (zk_n ?_)
              exact zr_void hZ dX4_becomeUnit_107 rfl ⟨rfl, by first | (simp [zUn, *]; done) | (exfalso; simp_all; done)⟩
            ·
              refine zi_lload_n 100 dX4_becomeUnit_99 rfl rfl ?_
              refine zi_goto 104 dX4_becomeUnit_100 (by decide) ?_
              refine zc_virtual (n' := (0, 0)) (md' := mX4_become) 107 dX4_becomeUnit_104 tw_447 zv_X4_become zcl_X4 (s_X4_become B h a P ha _ _ _ _) ha rfl rfl rfl rfl rfl rfl rfl rfl (zk_n ?_)
              exact zr_void hZ dX4_becomeUnit_107 rfl ⟨rfl, by first | (simp [zUn, *]; done) | (exfalso; simp_all; done)⟩
        ·
          refine zi_lload_n 80 dX4_becomeUnit_79 rfl rfl ?_
          refine zi_goto 84 dX4_becomeUnit_80 (by decide) ?_
          refine zi_iload_n 85 dX4_becomeUnit_84 rfl rfl ?_
          refine zi_iconst (v := 2) 86 dX4_becomeUnit_85 (by decide) rfl ?_
          refine zi_icmp_ne 89 93 dX4_becomeUnit_86 (by decide) rfl (fun c_86 => ?_) (fun c_86 => ?_)
          ·
            refine zi_lconst (v := 0) 94 dX4_becomeUnit_93 (by decide) rfl ?_
            refine zi_iload_n 95 dX4_becomeUnit_94 rfl rfl ?_
            refine zi_iconst (v := 3) 96 dX4_becomeUnit_95 (by decide) rfl ?_
            refine zi_icmp_ne 99 103 dX4_becomeUnit_96 (by decide) rfl (fun c_96 => ?_) (fun c_96 => ?_)
            ·
              refine zi_lconst (v := 0) 104 dX4_becomeUnit_103 (by decide) rfl ?_
              refine zc_virtual (n' := (0, 0)) (md' := mX4_become) 107 dX4_becomeUnit_104 tw_447 zv_X4_become zcl_X4 (s_X4_become B h a P ha _ _ _ _) ha rfl rfl rfl rfl rfl rfl rfl rfl (zk_n ?_)
              exact zr_void hZ dX4_becomeUnit_107 rfl ⟨rfl, by first | (simp [zUn, *]; done) | (exfalso; simp_all; done)⟩
            ·
              refine zi_lload_n 100 dX4_becomeUnit_99 rfl rfl ?_
              refine zi_goto 104 dX4_becomeUnit_100 (by decide) ?_
              refine zc_virtual (n' := (0, 0)) (md' := mX4_become) 107 dX4_becomeUnit_104 tw_447 zv_X4_become zcl_X4 (s_X4_become B h a P ha _ _ _ _) ha rfl rfl rfl rfl rfl rfl rfl rfl (zk_n ?_)
              exact zr_void hZ dX4_becomeUnit_107 rfl ⟨rfl, by first | (simp [zUn, *]; done) | (exfalso; simp_all; done)⟩
          ·
            refine zi_lload_n 90 dX4_becomeUnit_89 rfl rfl ?_
            refine zi_goto 94 dX4_becomeUnit_90 (by decide) ?_
            refine zi_iload_n 95 dX4_becomeUnit_94 rfl rfl ?_
            refine zi_iconst (v := 3) 96 dX4_becomeUnit_95 (by decide) rfl ?_
            refine zi_icmp_ne 99 103 dX4_becomeUnit_96 (by decide) rfl (fun c_96 => ?_) (fun c_96 => ?_)
            ·
              refine zi_lconst (v := 0) 104 dX4_becomeUnit_103 (by decide) rfl ?_
              refine zc_virtual (n' := (0, 0)) (md' := mX4_become) 107 dX4_becomeUnit_104 tw_447 zv_X4_become zcl_X4 (s_X4_become B h a P ha _ _ _ _) ha rfl rfl rfl rfl rfl rfl rfl rfl (zk_n ?_)
              exact zr_void hZ dX4_becomeUnit_107 rfl ⟨rfl, by first | (simp [zUn, *]; done) | (exfalso; simp_all; done)⟩
            ·
              refine zi_lload_n 100 dX4_becomeUnit_99 rfl rfl ?_
              refine zi_goto 104 dX4_becomeUnit_100 (by decide) ?_
              refine zc_virtual (n' := (0, 0)) (md' := mX4_become) 107 dX4_becomeUnit_104 tw_447 zv_X4_become zcl_X4 (s_X4_become B h a P ha _ _ _ _) ha rfl rfl rfl rfl rfl rfl rfl rfl (zk_n ?_)
              exact zr_void hZ dX4_becomeUnit_107 rfl ⟨rfl, by first | (simp [zUn, *]; done) | (exfalso; simp_all; done)⟩
  ·
    refine zi_aload_n 7 dX4_becomeUnit_6 rfl rfl ?_
    refine zi_iconst (v := 1) 8 dX4_becomeUnit_7 (by decide) rfl ?_
    refine zi_iload_n 9 dX4_becomeUnit_8 rfl rfl ?_
    refine zi_iconst (v := 2) 10 dX4_becomeUnit_9 (by decide) rfl ?_
    refine zi_iand 11 dX4_becomeUnit_10 rfl ?_
    refine zi_isub 12 dX4_becomeUnit_11 rfl ?_
    refine zi_i2l 13 dX4_becomeUnit_12 rfl ?_
    refine zi_iconst (v := 1) 14 dX4_becomeUnit_13 (by decide) rfl ?_
    refine zi_iload_n 15 dX4_becomeUnit_14 rfl rfl ?_
    refine zi_iconst (v := 1) 16 dX4_becomeUnit_15 (by decide) rfl ?_
    refine zi_ishr 17 dX4_becomeUnit_16 rfl ?_
    refine zi_iconst (v := 2) 18 dX4_becomeUnit_17 (by decide) rfl ?_
    refine zi_iand 19 dX4_becomeUnit_18 rfl ?_
    refine zi_isub 20 dX4_becomeUnit_19 rfl ?_
    refine zi_i2l 21 dX4_becomeUnit_20 rfl ?_
    refine zi_iconst (v := 1) 22 dX4_becomeUnit_21 (by decide) rfl ?_
    refine zi_iload_n 23 dX4_becomeUnit_22 rfl rfl ?_
    refine zi_iconst (v := 2) 24 dX4_becomeUnit_23 (by decide) rfl ?_
    refine zi_ishr 25 dX4_becomeUnit_24 rfl ?_
    refine zi_iconst (v := 2) 26 dX4_becomeUnit_25 (by decide) rfl ?_
    refine zi_iand 27 dX4_becomeUnit_26 rfl ?_
    refine zi_isub 28 dX4_becomeUnit_27 rfl ?_
    refine zi_i2l 29 dX4_becomeUnit_28 rfl ?_
    refine zi_iconst (v := 1) 30 dX4_becomeUnit_29 (by decide) rfl ?_
    refine zi_iload_n 31 dX4_becomeUnit_30 rfl rfl ?_
    refine zi_iconst (v := 1) 32 dX4_becomeUnit_31 (by decide) rfl ?_
    refine zi_ishl 33 dX4_becomeUnit_32 rfl ?_
    refine zi_iconst (v := 2) 34 dX4_becomeUnit_33 (by decide) rfl ?_
    refine zi_iand 35 dX4_becomeUnit_34 rfl ?_
    refine zi_isub 36 dX4_becomeUnit_35 rfl ?_
    refine zi_i2l 37 dX4_becomeUnit_36 rfl ?_
    refine zc_virtual (n' := (0, 0)) (md' := mX4_become) 40 dX4_becomeUnit_37 tw_447 zv_X4_become zcl_X4 (s_X4_become B h a P ha _ _ _ _) ha rfl rfl rfl rfl rfl rfl rfl rfl (zk_n ?_)
    exact zr_void hZ dX4_becomeUnit_40 rfl ⟨rfl, by first | (simp [zUn, *]; done) | (exfalso; simp_all; done)⟩
