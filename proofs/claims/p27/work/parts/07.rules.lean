/-! branches -/
theorem ms_if_eq {x : Bool} {d : ms_D} {P : ms_P} {pc : Nat} {lv : List (Nat × Value)} {st : List Value} {n : Nat} {G : ms_H} {kr zr : Nat} {y : Int32} {off : Int} {tgt : Nat} (hdg : decode d.2.1 pc = .ok (.ifCond .eq off, 3)) (ht : (pc : Int) + off = (tgt : Int)) (kt : y = 0 → ms_W x d P tgt lv st n G kr zr) (kf : ¬ y = 0 → ms_W x d P (pc + 3) lv st n G kr zr) : ms_W x d P pc lv (.int y :: st) n G kr zr := by
  intro mc ms p l e s m args below meth c D cA base H locs cells slots ls F c1 c2 c3 c4 c5 c6
  exact lv_if_eq F.exec F.code hdg ht (fun h9 => (kt h9 mc ms p l e s m args below meth c D cA base H locs cells slots ls F c1 c2 c3 c4 c5 c6)) (fun h9 => (kf h9 mc ms p l e s m args below meth c D cA base H locs cells slots ls F c1 c2 c3 c4 c5 c6))
theorem ms_if_ne {x : Bool} {d : ms_D} {P : ms_P} {pc : Nat} {lv : List (Nat × Value)} {st : List Value} {n : Nat} {G : ms_H} {kr zr : Nat} {y : Int32} {off : Int} {tgt : Nat} (hdg : decode d.2.1 pc = .ok (.ifCond .ne off, 3)) (ht : (pc : Int) + off = (tgt : Int)) (kt : ¬ y = 0 → ms_W x d P tgt lv st n G kr zr) (kf : y = 0 → ms_W x d P (pc + 3) lv st n G kr zr) : ms_W x d P pc lv (.int y :: st) n G kr zr := by
  intro mc ms p l e s m args below meth c D cA base H locs cells slots ls F c1 c2 c3 c4 c5 c6
  exact lv_if_ne F.exec F.code hdg ht (fun h9 => (kt h9 mc ms p l e s m args below meth c D cA base H locs cells slots ls F c1 c2 c3 c4 c5 c6)) (fun h9 => (kf h9 mc ms p l e s m args below meth c D cA base H locs cells slots ls F c1 c2 c3 c4 c5 c6))
theorem ms_if_lt {x : Bool} {d : ms_D} {P : ms_P} {pc : Nat} {lv : List (Nat × Value)} {st : List Value} {n : Nat} {G : ms_H} {kr zr : Nat} {y : Int32} {off : Int} {tgt : Nat} (hdg : decode d.2.1 pc = .ok (.ifCond .lt off, 3)) (ht : (pc : Int) + off = (tgt : Int)) (kt : y < 0 → ms_W x d P tgt lv st n G kr zr) (kf : ¬ y < 0 → ms_W x d P (pc + 3) lv st n G kr zr) : ms_W x d P pc lv (.int y :: st) n G kr zr := by
  intro mc ms p l e s m args below meth c D cA base H locs cells slots ls F c1 c2 c3 c4 c5 c6
  exact lv_if_lt F.exec F.code hdg ht (fun h9 => (kt h9 mc ms p l e s m args below meth c D cA base H locs cells slots ls F c1 c2 c3 c4 c5 c6)) (fun h9 => (kf h9 mc ms p l e s m args below meth c D cA base H locs cells slots ls F c1 c2 c3 c4 c5 c6))
theorem ms_if_ge {x : Bool} {d : ms_D} {P : ms_P} {pc : Nat} {lv : List (Nat × Value)} {st : List Value} {n : Nat} {G : ms_H} {kr zr : Nat} {y : Int32} {off : Int} {tgt : Nat} (hdg : decode d.2.1 pc = .ok (.ifCond .ge off, 3)) (ht : (pc : Int) + off = (tgt : Int)) (kt : 0 ≤ y → ms_W x d P tgt lv st n G kr zr) (kf : ¬ 0 ≤ y → ms_W x d P (pc + 3) lv st n G kr zr) : ms_W x d P pc lv (.int y :: st) n G kr zr := by
  intro mc ms p l e s m args below meth c D cA base H locs cells slots ls F c1 c2 c3 c4 c5 c6
  exact lv_if_ge F.exec F.code hdg ht (fun h9 => (kt h9 mc ms p l e s m args below meth c D cA base H locs cells slots ls F c1 c2 c3 c4 c5 c6)) (fun h9 => (kf h9 mc ms p l e s m args below meth c D cA base H locs cells slots ls F c1 c2 c3 c4 c5 c6))
theorem ms_if_gt {x : Bool} {d : ms_D} {P : ms_P} {pc : Nat} {lv : List (Nat × Value)} {st : List Value} {n : Nat} {G : ms_H} {kr zr : Nat} {y : Int32} {off : Int} {tgt : Nat} (hdg : decode d.2.1 pc = .ok (.ifCond .gt off, 3)) (ht : (pc : Int) + off = (tgt : Int)) (kt : 0 < y → ms_W x d P tgt lv st n G kr zr) (kf : ¬ 0 < y → ms_W x d P (pc + 3) lv st n G kr zr) : ms_W x d P pc lv (.int y :: st) n G kr zr := by
  intro mc ms p l e s m args below meth c D cA base H locs cells slots ls F c1 c2 c3 c4 c5 c6
  exact lv_if_gt F.exec F.code hdg ht (fun h9 => (kt h9 mc ms p l e s m args below meth c D cA base H locs cells slots ls F c1 c2 c3 c4 c5 c6)) (fun h9 => (kf h9 mc ms p l e s m args below meth c D cA base H locs cells slots ls F c1 c2 c3 c4 c5 c6))
theorem ms_if_le {x : Bool} {d : ms_D} {P : ms_P} {pc : Nat} {lv : List (Nat × Value)} {st : List Value} {n : Nat} {G : ms_H} {kr zr : Nat} {y : Int32} {off : Int} {tgt : Nat} (hdg : decode d.2.1 pc = .ok (.ifCond .le off, 3)) (ht : (pc : Int) + off = (tgt : Int)) (kt : y ≤ 0 → ms_W x d P tgt lv st n G kr zr) (kf : ¬ y ≤ 0 → ms_W x d P (pc + 3) lv st n G kr zr) : ms_W x d P pc lv (.int y :: st) n G kr zr := by
  intro mc ms p l e s m args below meth c D cA base H locs cells slots ls F c1 c2 c3 c4 c5 c6
  exact lv_if_le F.exec F.code hdg ht (fun h9 => (kt h9 mc ms p l e s m args below meth c D cA base H locs cells slots ls F c1 c2 c3 c4 c5 c6)) (fun h9 => (kf h9 mc ms p l e s m args below meth c D cA base H locs cells slots ls F c1 c2 c3 c4 c5 c6))
theorem ms_icmp_eq {x : Bool} {d : ms_D} {P : ms_P} {pc : Nat} {lv : List (Nat × Value)} {st : List Value} {n : Nat} {G : ms_H} {kr zr : Nat} {y z : Int32} {off : Int} {tgt : Nat} (hdg : decode d.2.1 pc = .ok (.if_icmp .eq off, 3)) (ht : (pc : Int) + off = (tgt : Int)) (kt : z = y → ms_W x d P tgt lv st n G kr zr) (kf : ¬ z = y → ms_W x d P (pc + 3) lv st n G kr zr) : ms_W x d P pc lv (.int y :: .int z :: st) n G kr zr := by
  intro mc ms p l e s m args below meth c D cA base H locs cells slots ls F c1 c2 c3 c4 c5 c6
  exact lv_icmp_eq F.exec F.code hdg ht (fun h9 => (kt h9 mc ms p l e s m args below meth c D cA base H locs cells slots ls F c1 c2 c3 c4 c5 c6)) (fun h9 => (kf h9 mc ms p l e s m args below meth c D cA base H locs cells slots ls F c1 c2 c3 c4 c5 c6))
theorem ms_icmp_ne {x : Bool} {d : ms_D} {P : ms_P} {pc : Nat} {lv : List (Nat × Value)} {st : List Value} {n : Nat} {G : ms_H} {kr zr : Nat} {y z : Int32} {off : Int} {tgt : Nat} (hdg : decode d.2.1 pc = .ok (.if_icmp .ne off, 3)) (ht : (pc : Int) + off = (tgt : Int)) (kt : ¬ z = y → ms_W x d P tgt lv st n G kr zr) (kf : z = y → ms_W x d P (pc + 3) lv st n G kr zr) : ms_W x d P pc lv (.int y :: .int z :: st) n G kr zr := by
  intro mc ms p l e s m args below meth c D cA base H locs cells slots ls F c1 c2 c3 c4 c5 c6
  exact lv_icmp_ne F.exec F.code hdg ht (fun h9 => (kt h9 mc ms p l e s m args below meth c D cA base H locs cells slots ls F c1 c2 c3 c4 c5 c6)) (fun h9 => (kf h9 mc ms p l e s m args below meth c D cA base H locs cells slots ls F c1 c2 c3 c4 c5 c6))
theorem ms_icmp_lt {x : Bool} {d : ms_D} {P : ms_P} {pc : Nat} {lv : List (Nat × Value)} {st : List Value} {n : Nat} {G : ms_H} {kr zr : Nat} {y z : Int32} {off : Int} {tgt : Nat} (hdg : decode d.2.1 pc = .ok (.if_icmp .lt off, 3)) (ht : (pc : Int) + off = (tgt : Int)) (kt : z < y → ms_W x d P tgt lv st n G kr zr) (kf : ¬ z < y → ms_W x d P (pc + 3) lv st n G kr zr) : ms_W x d P pc lv (.int y :: .int z :: st) n G kr zr := by
  intro mc ms p l e s m args below meth c D cA base H locs cells slots ls F c1 c2 c3 c4 c5 c6
  exact lv_icmp_lt F.exec F.code hdg ht (fun h9 => (kt h9 mc ms p l e s m args below meth c D cA base H locs cells slots ls F c1 c2 c3 c4 c5 c6)) (fun h9 => (kf h9 mc ms p l e s m args below meth c D cA base H locs cells slots ls F c1 c2 c3 c4 c5 c6))
theorem ms_icmp_ge {x : Bool} {d : ms_D} {P : ms_P} {pc : Nat} {lv : List (Nat × Value)} {st : List Value} {n : Nat} {G : ms_H} {kr zr : Nat} {y z : Int32} {off : Int} {tgt : Nat} (hdg : decode d.2.1 pc = .ok (.if_icmp .ge off, 3)) (ht : (pc : Int) + off = (tgt : Int)) (kt : y ≤ z → ms_W x d P tgt lv st n G kr zr) (kf : ¬ y ≤ z → ms_W x d P (pc + 3) lv st n G kr zr) : ms_W x d P pc lv (.int y :: .int z :: st) n G kr zr := by
  intro mc ms p l e s m args below meth c D cA base H locs cells slots ls F c1 c2 c3 c4 c5 c6
  exact lv_icmp_ge F.exec F.code hdg ht (fun h9 => (kt h9 mc ms p l e s m args below meth c D cA base H locs cells slots ls F c1 c2 c3 c4 c5 c6)) (fun h9 => (kf h9 mc ms p l e s m args below meth c D cA base H locs cells slots ls F c1 c2 c3 c4 c5 c6))
theorem ms_icmp_gt {x : Bool} {d : ms_D} {P : ms_P} {pc : Nat} {lv : List (Nat × Value)} {st : List Value} {n : Nat} {G : ms_H} {kr zr : Nat} {y z : Int32} {off : Int} {tgt : Nat} (hdg : decode d.2.1 pc = .ok (.if_icmp .gt off, 3)) (ht : (pc : Int) + off = (tgt : Int)) (kt : y < z → ms_W x d P tgt lv st n G kr zr) (kf : ¬ y < z → ms_W x d P (pc + 3) lv st n G kr zr) : ms_W x d P pc lv (.int y :: .int z :: st) n G kr zr := by
  intro mc ms p l e s m args below meth c D cA base H locs cells slots ls F c1 c2 c3 c4 c5 c6
  exact lv_icmp_gt F.exec F.code hdg ht (fun h9 => (kt h9 mc ms p l e s m args below meth c D cA base H locs cells slots ls F c1 c2 c3 c4 c5 c6)) (fun h9 => (kf h9 mc ms p l e s m args below meth c D cA base H locs cells slots ls F c1 c2 c3 c4 c5 c6))
theorem ms_icmp_le {x : Bool} {d : ms_D} {P : ms_P} {pc : Nat} {lv : List (Nat × Value)} {st : List Value} {n : Nat} {G : ms_H} {kr zr : Nat} {y z : Int32} {off : Int} {tgt : Nat} (hdg : decode d.2.1 pc = .ok (.if_icmp .le off, 3)) (ht : (pc : Int) + off = (tgt : Int)) (kt : z ≤ y → ms_W x d P tgt lv st n G kr zr) (kf : ¬ z ≤ y → ms_W x d P (pc + 3) lv st n G kr zr) : ms_W x d P pc lv (.int y :: .int z :: st) n G kr zr := by
  intro mc ms p l e s m args below meth c D cA base H locs cells slots ls F c1 c2 c3 c4 c5 c6
  exact lv_icmp_le F.exec F.code hdg ht (fun h9 => (kt h9 mc ms p l e s m args below meth c D cA base H locs cells slots ls F c1 c2 c3 c4 c5 c6)) (fun h9 => (kf h9 mc ms p l e s m args below meth c D cA base H locs cells slots ls F c1 c2 c3 c4 c5 c6))
theorem ms_goto {x : Bool} {d : ms_D} {P : ms_P} {pc : Nat} {lv : List (Nat × Value)} {st : List Value} {n : Nat} {G : ms_H} {kr zr : Nat} {off : Int} {tgt : Nat} (hdg : decode d.2.1 pc = .ok (.goto off, 3)) (ht : (pc : Int) + off = (tgt : Int)) (k : ms_W x d P tgt lv st n G kr zr) : ms_W x d P pc lv st n G kr zr := by
  intro mc ms p l e s m args below meth c D cA base H locs cells slots ls F c1 c2 c3 c4 c5 c6
  exact lv_goto F.exec F.code hdg ht (k mc ms p l e s m args below meth c D cA base H locs cells slots ls F c1 c2 c3 c4 c5 c6)
theorem ms_ifnull {x : Bool} {d : ms_D} {P : ms_P} {pc : Nat} {lv : List (Nat × Value)} {st : List Value} {n : Nat} {G : ms_H} {kr zr : Nat} {y : Nat} {off : Int} (hdg : decode d.2.1 pc = .ok (.ifnull off, 3)) (k : ms_W x d P (pc + 3) lv st n G kr zr) : ms_W x d P pc lv (.ref y :: st) n G kr zr := by
  intro mc ms p l e s m args below meth c D cA base H locs cells slots ls F c1 c2 c3 c4 c5 c6
  exact lv_ifnull F.exec F.code hdg (k mc ms p l e s m args below meth c D cA base H locs cells slots ls F c1 c2 c3 c4 c5 c6)
theorem ms_ifnullN {x : Bool} {d : ms_D} {P : ms_P} {pc : Nat} {lv : List (Nat × Value)} {st : List Value} {n : Nat} {G : ms_H} {kr zr : Nat} {off : Int} {tgt : Nat} (hdg : decode d.2.1 pc = .ok (.ifnull off, 3)) (ht : (pc : Int) + off = (tgt : Int)) (k : ms_W x d P tgt lv st n G kr zr) : ms_W x d P pc lv (.null :: st) n G kr zr := by
  intro mc ms p l e s m args below meth c D cA base H locs cells slots ls F c1 c2 c3 c4 c5 c6
  exact lv_ifnullN F.exec F.code hdg ht (k mc ms p l e s m args below meth c D cA base H locs cells slots ls F c1 c2 c3 c4 c5 c6)
theorem ms_ifnonnull {x : Bool} {d : ms_D} {P : ms_P} {pc : Nat} {lv : List (Nat × Value)} {st : List Value} {n : Nat} {G : ms_H} {kr zr : Nat} {y : Nat} {off : Int} {tgt : Nat} (hdg : decode d.2.1 pc = .ok (.ifnonnull off, 3)) (ht : (pc : Int) + off = (tgt : Int)) (k : ms_W x d P tgt lv st n G kr zr) : ms_W x d P pc lv (.ref y :: st) n G kr zr := by
  intro mc ms p l e s m args below meth c D cA base H locs cells slots ls F c1 c2 c3 c4 c5 c6
  exact lv_ifnonnull F.exec F.code hdg ht (k mc ms p l e s m args below meth c D cA base H locs cells slots ls F c1 c2 c3 c4 c5 c6)
theorem ms_ifnonnullN {x : Bool} {d : ms_D} {P : ms_P} {pc : Nat} {lv : List (Nat × Value)} {st : List Value} {n : Nat} {G : ms_H} {kr zr : Nat} {off : Int} (hdg : decode d.2.1 pc = .ok (.ifnonnull off, 3)) (k : ms_W x d P (pc + 3) lv st n G kr zr) : ms_W x d P pc lv (.null :: st) n G kr zr := by
  intro mc ms p l e s m args below meth c D cA base H locs cells slots ls F c1 c2 c3 c4 c5 c6
  exact lv_ifnonnullN F.exec F.code hdg (k mc ms p l e s m args below meth c D cA base H locs cells slots ls F c1 c2 c3 c4 c5 c6)
theorem ms_idiv {x : Bool} {d : ms_D} {P : ms_P} {pc : Nat} {lv : List (Nat × Value)} {st : List Value} {n : Nat} {G : ms_H} {kr zr : Nat} {y z : Int32} (hdg : decode d.2.1 pc = .ok (.idiv, 1)) (hne : ¬ y = 0) (k : ms_W x d P (pc + 1) lv (.int (z / y) :: st) n G kr zr) : ms_W x d P pc lv (.int y :: .int z :: st) n G kr zr := by
  intro mc ms p l e s m args below meth c D cA base H locs cells slots ls F c1 c2 c3 c4 c5 c6
  exact lv_idiv F.exec F.code hdg hne (k mc ms p l e s m args below meth c D cA base H locs cells slots ls F c1 c2 c3 c4 c5 c6)
theorem ms_irem {x : Bool} {d : ms_D} {P : ms_P} {pc : Nat} {lv : List (Nat × Value)} {st : List Value} {n : Nat} {G : ms_H} {kr zr : Nat} {y z : Int32} (hdg : decode d.2.1 pc = .ok (.irem, 1)) (hne : ¬ y = 0) (k : ms_W x d P (pc + 1) lv (.int (z - z / y * y) :: st) n G kr zr) : ms_W x d P pc lv (.int y :: .int z :: st) n G kr zr := by
  intro mc ms p l e s m args below meth c D cA base H locs cells slots ls F c1 c2 c3 c4 c5 c6
  exact lv_irem F.exec F.code hdg hne (k mc ms p l e s m args below meth c D cA base H locs cells slots ls F c1 c2 c3 c4 c5 c6)
theorem ms_lcmp {x : Bool} {d : ms_D} {P : ms_P} {pc : Nat} {lv : List (Nat × Value)} {st : List Value} {n : Nat} {G : ms_H} {kr zr : Nat} {y z : Int64} (hdg : decode d.2.1 pc = .ok (.lcmp, 1)) (k : ms_W x d P (pc + 1) lv (.int (lg_cmp z y) :: st) n G kr zr) : ms_W x d P pc lv (.long y :: .long z :: st) n G kr zr := by
  intro mc ms p l e s m args below meth c D cA base H locs cells slots ls F c1 c2 c3 c4 c5 c6
  exact W.lcmp F.exec F.code hdg (k mc ms p l e s m args below meth c D cA base H locs cells slots ls F c1 c2 c3 c4 c5 c6)
theorem ms_i2d {x : Bool} {d : ms_D} {P : ms_P} {pc : Nat} {lv : List (Nat × Value)} {st : List Value} {n : Nat} {G : ms_H} {kr zr : Nat} {y : Int32} (hdg : decode d.2.1 pc = .ok (.i2d, 1)) (k : ms_W x d P (pc + 1) lv (.double (FP.i2d y) :: st) n G kr zr) : ms_W x d P pc lv (.int y :: st) n G kr zr := by
  intro mc ms p l e s m args below meth c D cA base H locs cells slots ls F c1 c2 c3 c4 c5 c6
  exact lv_i2d F.exec F.code hdg (k mc ms p l e s m args below meth c D cA base H locs cells slots ls F c1 c2 c3 c4 c5 c6)
theorem ms_ddiv {x : Bool} {d : ms_D} {P : ms_P} {pc : Nat} {lv : List (Nat × Value)} {st : List Value} {n : Nat} {G : ms_H} {kr zr : Nat} {y z : UInt64} (hdg : decode d.2.1 pc = .ok (.ddiv, 1)) (hne : vf_n64 (FP.ddiv z y)) (k : ms_W x d P (pc + 1) lv (.double (FP.ddiv z y) :: st) n G kr zr) : ms_W x d P pc lv (.double y :: .double z :: st) n G kr zr := by
  intro mc ms p l e s m args below meth c D cA base H locs cells slots ls F c1 c2 c3 c4 c5 c6
  exact lv_ddiv F.exec F.code hdg hne (k mc ms p l e s m args below meth c D cA base H locs cells slots ls F c1 c2 c3 c4 c5 c6)
theorem ms_dconst0 {x : Bool} {d : ms_D} {P : ms_P} {pc : Nat} {lv : List (Nat × Value)} {st : List Value} {n : Nat} {G : ms_H} {kr zr : Nat} (hdg : decode d.2.1 pc = .ok (.dconst 0, 1)) (k : ms_W x d P (pc + 1) lv (.double 0 :: st) n G kr zr) : ms_W x d P pc lv st n G kr zr := by
  intro mc ms p l e s m args below meth c D cA base H locs cells slots ls F c1 c2 c3 c4 c5 c6
  exact lv_dconst0 F.exec F.code hdg (k mc ms p l e s m args below meth c D cA base H locs cells slots ls F c1 c2 c3 c4 c5 c6)
theorem ms_ldc2 {x : Bool} {d : ms_D} {P : ms_P} {pc : Nat} {lv : List (Nat × Value)} {st : List Value} {n : Nat} {G : ms_H} {kr zr : Nat} {j : Nat} {v : Int64} (hdg : decode d.2.1 pc = .ok (.ldc2_w j, 3)) (hc : Cond.constantLong d.1.cls j v ∈ ms_big) (k : ms_W x d P (pc + 3) lv (.long v :: st) n G kr zr) : ms_W x d P pc lv st n G kr zr := by
  intro mc ms p l e s m args below meth c D cA base H locs cells slots ls F c1 c2 c3 c4 c5 c6
  exact lv_ldc2 F.exec F.code F.own (F.big _ hc) hdg (k mc ms p l e s m args below meth c D cA base H locs cells slots ls F c1 c2 c3 c4 c5 c6)
theorem ms_tabOut {x : Bool} {d : ms_D} {P : ms_P} {pc : Nat} {lv : List (Nat × Value)} {st : List Value} {n : Nat} {G : ms_H} {kr zr : Nat} {dflt lo hi : Int} {offs : Array Int} {len : Nat} {y : Int32} {tgt : Nat} (hdg : decode d.2.1 pc = .ok (.tableswitch dflt lo hi offs, len)) (h : y.toInt < lo ∨ hi < y.toInt) (ht : (pc : Int) + dflt = (tgt : Int)) (k : ms_W x d P tgt lv st n G kr zr) : ms_W x d P pc lv (.int y :: st) n G kr zr := by
  intro mc ms p l e s m args below meth c D cA base H locs cells slots ls F c1 c2 c3 c4 c5 c6
  exact lv_tableOut F.exec F.code hdg h ht (k mc ms p l e s m args below meth c D cA base H locs cells slots ls F c1 c2 c3 c4 c5 c6)
theorem ms_tabIn {x : Bool} {d : ms_D} {P : ms_P} {pc : Nat} {lv : List (Nat × Value)} {st : List Value} {n : Nat} {G : ms_H} {kr zr : Nat} {dflt lo hi : Int} {offs : Array Int} {len : Nat} {y : Int32} {off : Int} {tgt : Nat} (hdg : decode d.2.1 pc = .ok (.tableswitch dflt lo hi offs, len)) (h1 : ¬ y.toInt < lo) (h2 : ¬ hi < y.toInt) (ho : offs[(y.toInt - lo).toNat]? = some off) (ht : (pc : Int) + off = (tgt : Int)) (k : ms_W x d P tgt lv st n G kr zr) : ms_W x d P pc lv (.int y :: st) n G kr zr := by
  intro mc ms p l e s m args below meth c D cA base H locs cells slots ls F c1 c2 c3 c4 c5 c6
  exact lv_tableIn F.exec F.code hdg h1 h2 ho ht (k mc ms p l e s m args below meth c D cA base H locs cells slots ls F c1 c2 c3 c4 c5 c6)
theorem ms_lookup {x : Bool} {d : ms_D} {P : ms_P} {pc : Nat} {lv : List (Nat × Value)} {st : List Value} {n : Nat} {G : ms_H} {kr zr : Nat} {dflt : Int} {ps : Array (Int × Int)} {len : Nat} {y : Int32} {off : Int} {tgt : Nat} (hdg : decode d.2.1 pc = .ok (.lookupswitch dflt ps, len)) (hp : (ps.toList.zip (ps.toList.drop 1)).all (fun (a, next) => a.1 < next.1) = true) (ho : Op.lookupswitch.offset ps.toList dflt y.toInt = off) (ht : (pc : Int) + off = (tgt : Int)) (k : ms_W x d P tgt lv st n G kr zr) : ms_W x d P pc lv (.int y :: st) n G kr zr := by
  intro mc ms p l e s m args below meth c D cA base H locs cells slots ls F c1 c2 c3 c4 c5 c6
  exact lv_lookup F.exec F.code hdg hp ho ht (k mc ms p l e s m args below meth c D cA base H locs cells slots ls F c1 c2 c3 c4 c5 c6)
/-! fields -/
theorem ms_getf {x : Bool} {d : ms_D} {P : ms_P} {pc : Nat} {lv : List (Nat × Value)} {st : List Value} {n : Nat} {G : ms_H} {kr zr : Nat} {a ci i j : Nat} {fs : List Value} {v : Value} (hdg : decode d.2.1 pc = .ok (.getfield i, 3)) (ok : ms_okF d.1.cls i ci j) (ha : G a = some (.inr (ci, fs))) (hv : fs[j]? = some v) (k : ms_W x d P (pc + 3) lv (v :: st) n G kr zr) : ms_W x d P pc lv (.ref a :: st) n G kr zr := by
  obtain ⟨C, T, N, o1, o2, o3, o4, o5⟩ := ok
  intro mc ms p l e s m args below meth c D cA base H locs cells slots ls F c1 c2 c3 c4 c5 c6
  exact va_get (C := C) (T := T) (N := N) (ref := C) F.exec F.code F.big o3 F.own F.K (c4.P1 ha) 0 rfl o1 j o2 (F.big _ o4) (fun y hy => by rw [← o5]; exact hy) hv hdg (k mc ms p l e s m args below meth c D cA base H locs cells slots ls F c1 c2 c3 c4 c5 c6)
theorem ms_getN {x : Bool} {d : ms_D} {P : ms_P} {pc : Nat} {lv : List (Nat × Value)} {st : List Value} {n : Nat} {G : ms_H} {kr zr : Nat} {a i j ci : Nat} {fs : List Value} {v : Value} {host : String} (hdg : decode d.2.1 pc = .ok (.getfield i, 3)) (ok : ∃ (C : String) (T : u_T) (N : Nat), vwCl[ci]? = some (C, T, N) ∧ j < N ∧ (∀ w ∈ u_ws C T N, w ∈ ms_big) ∧ (d.1.cls, i, C, (T j).2.1, (T j).2.2.1, host) ∈ ms_nF ∧ (T j).1 = C) (ha : G a = some (.inr (ci, fs))) (hv : fs[j]? = some v) (k : ms_W x d P (pc + 3) lv (v :: st) n G kr zr) : ms_W x d P pc lv (.ref a :: st) n G kr zr := by
  obtain ⟨C, T, N, o1, o2, o3, o4, o5⟩ := ok
  intro mc ms p l e s m args below meth c D cA base H locs cells slots ls F c1 c2 c3 c4 c5 c6
  exact va_getN (C := C) (T := T) (N := N) (ref := C) (host := host) F.exec F.code F.big o3 F.own F.K (c4.P1 ha) 0 rfl o1 j o2 ((F.SE.2.2.1.2 _ o4).use rfl) (fun y hy => by rw [← o5]; exact hy) hv hdg (k mc ms p l e s m args below meth c D cA base H locs cells slots ls F c1 c2 c3 c4 c5 c6)
theorem ms_putf {x : Bool} {d : ms_D} {P : ms_P} {pc : Nat} {lv : List (Nat × Value)} {st : List Value} {n : Nat} {G : ms_H} {kr zr : Nat} {a ci i j : Nat} {fs : List Value} {v : Value} {ty : FieldType} (hdg : decode d.2.1 pc = .ok (.putfield i, 3)) (ok : ms_okP d.1.cls i ci j ty false) (ha : G a = some (.inr (ci, fs))) (hl : j < fs.length) (hn : narrow ty v = v) (hfit : fits ty v = true) (k : ms_W x d P (pc + 3) lv st n (ms_up G a (.inr (ci, fs.set j v))) kr zr) : ms_W x d P pc lv (v :: .ref a :: st) n G kr zr := by
  obtain ⟨C, T, N, t0, o1, o2, o3, o4, o5, o6, o7, o8, o9, -⟩ := ok
  intro mc ms p l e s m args below meth c D cA base H locs cells slots ls F c1 c2 c3 c4 c5 c6
  have hap := va_apart (own := d.1.cls) F.big o3 t0 o6 o7 F.K o1
  obtain ⟨r, h1, cell, q1, q2, q3, q4⟩ := (c4 a _ ha).1
  have hr : r = (C, T, N) := Option.some.inj (h1.symm.trans o1)
  subst hr
  obtain ⟨hS, hfc, kC, hkC, hkind⟩ := F.K.1 ci _ o1
  obtain ⟨cf, kf, fi, f, hi, hsl⟩ := hS j o2
  have hlay := F.big _ (o3 _ (u_in_lay o2))
  unfold u_lay at hlay
  rw [if_neg (by rw [o8]; decide)] at hlay
  have hst := (u_facts hfc hkC (u_lays F.big o3 o2) hi).1
  have h6 := u_store hfc hkC hkind hlay hi (by rw [o6 j o2, o9]) hn hfit
  refine W.putK F.exec F.code (f := f) ⟨F.own, F.big _ o4, ⟨_, _, _, (by rw [o5] at hi; exact hi)⟩, hst⟩ (by rw [q2]; exact h6) q1 q3 (by rw [hsl]; exact k2_hasslot (q4 j o2)) rfl rfl hdg fun H1 e1 e2 e3 => ?_
  rw [hsl] at e1 ⊢
  exact k mc ms p l e s m args below meth c D cA base H1 _ cells slots ls F c1 c2 (e2.trans c3) (c4.set ha ⟨_, o1, t_OB.to (V := updV (vp_V fs) j v) ⟨_, e1, q2, q3, t_set q4 hap o2 v⟩ (fun z _ => vp_updV_set hl v z)⟩ e3) (c5.put e2 e3 (c4 a _ ha).2) c6
theorem ms_putF {x : Bool} {d : ms_D} {P : ms_P} {pc : Nat} {lv : List (Nat × Value)} {st : List Value} {n : Nat} {G : ms_H} {kr zr : Nat} {a ci i j : Nat} {fs : List Value} {v : Value} {ty : FieldType} (hdg : decode d.2.1 pc = .ok (.putfield i, 3)) (ok : ms_okP d.1.cls i ci j ty true) (hini : d.1.name = "<init>") (ha : G a = some (.inr (ci, fs))) (hl : j < fs.length) (hn : narrow ty v = v) (hfit : fits ty v = true) (k : ms_W x d P (pc + 3) lv st n (ms_up G a (.inr (ci, fs.set j v))) kr zr) : ms_W x d P pc lv (v :: .ref a :: st) n G kr zr := by
  obtain ⟨C, T, N, t0, o1, o2, o3, o4, o5, o6, o7, o8, o9, o10⟩ := ok
  intro mc ms p l e s m args below meth c D cA base H locs cells slots ls F c1 c2 c3 c4 c5 c6
  have hap := va_apart (own := d.1.cls) F.big o3 t0 o6 o7 F.K o1
  obtain ⟨r, h1, cell, q1, q2, q3, q4⟩ := (c4 a _ ha).1
  have hr : r = (C, T, N) := Option.some.inj (h1.symm.trans o1)
  subst hr
  obtain ⟨hS, hfc, kC, hkC, hkind⟩ := F.K.1 ci _ o1
  obtain ⟨cf, kf, fi, f, hi, hsl⟩ := hS j o2
  have hlay := F.big _ (o3 _ (u_in_lay o2))
  unfold u_lay at hlay
  rw [if_pos o8] at hlay
  have hst := (u_facts hfc hkC (u_lays F.big o3 o2) hi).1
  have hcf : m.cls = cf := by
    obtain ⟨_, _, c', _, _, _, -, -, hf', -, -, -, hown2, -⟩ := Cond.laysFinal_spec hlay
    have e1 : c' = cf := by have := hi.symm.trans hf'; simp at this; exact this.1.symm
    rw [o5, o10 rfl] at hown2
    rw [← e1]; exact Option.some.inj (F.own.symm.trans hown2)
  have h6 := u_fits hfc hkC hkind (Or.inr hlay) hi (by rw [o6 j o2, o9]) hn hfit
  refine W.putFinK F.exec F.code F.own (F.big _ o4) (by rw [o5] at hi; exact hi) hst hcf (F.2.2.2.2.2.2.1.trans hini) (by rw [q2]; exact h6) q1 q3 (by rw [hsl]; exact k2_hasslot (q4 j o2)) rfl rfl hdg fun H1 e1 e2 e3 => ?_
  rw [hsl] at e1 ⊢
  exact k mc ms p l e s m args below meth c D cA base H1 _ cells slots ls F c1 c2 (e2.trans c3) (c4.set ha ⟨_, o1, t_OB.to (V := updV (vp_V fs) j v) ⟨_, e1, q2, q3, t_set q4 hap o2 v⟩ (fun z _ => vp_updV_set hl v z)⟩ e3) (c5.put e2 e3 (c4 a _ ha).2) c6
/-! new -/
theorem ms_new {x : Bool} {d : ms_D} {P : ms_P} {pc : Nat} {lv : List (Nat × Value)} {st : List Value} {n : Nat} {G : ms_H} {kr zr : Nat} {i ci : Nat} {fs : List Value} (hdg : decode d.2.1 pc = .ok (.new i, 3)) (ok : ms_okN d.1.cls i ci fs) (k : ms_W x d P (pc + 3) lv (.ref n :: st) (n + 1) (ms_up G n (.inr (ci, fs))) kr zr) : ms_W x d P pc lv st n G (1 + kr) (fs.length + zr) := by
  obtain ⟨C, T, N, t0, o1, o2, o3, o4, o5, o6, o7⟩ := ok
  intro mc ms p l e s m args below meth c D cA base H locs cells slots ls F c1 c2 c3 c4 c5 c6
  have hlen : fs.length = N := by rw [o7]; simp
  have hKn := F.K.1 ci _ o1
  refine W.newcK F.exec F.code F.own (F.big _ o4) (F.big _ o5) (F.big _ o6) rfl hdg (show cells + 1 ≤ mc by omega) (show slots + N ≤ ms by omega) hKn.2.1 c3 fun H1 kC hkC e1 z1 b1 => ?_
  refine k mc ms p l e s m args below meth c D cA base H1 locs (cells + 1) (slots + N) ls F (by omega) (by omega) z1 (c4.new c3 (by have := F.low; have := c5.1; omega) ⟨_, o1, (u_born t0 F.big o2 hKn hkC e1 o3).to (fun z hz => ?_)⟩ b1) ⟨by have := c5.1; omega, fun q h1 h2 => (b1 q (by have := c5.1; omega)).trans (c5.2.1 q h1 h2), c5.2.2⟩ c6
  rw [o7]
  simp [vp_V, hz]
theorem ms_newI {x : Bool} {d : ms_D} {P : ms_P} {pc : Nat} {lv : List (Nat × Value)} {st : List Value} {n : Nat} {G : ms_H} {kr zr : Nat} {v : Int32} {N : Nat} (hdg : decode d.2.1 pc = .ok (.newarray .int, 2)) (hw : Cond.arrayClass .int ∈ ms_big) (h0 : ¬ v < 0) (hN : v.toNatClampNeg = N) (hb : N * 4 ≤ 536870912) (k : ms_W x d P (pc + 2) lv (.ref n :: st) (n + 1) (ms_up G n (.inl (0, N, .inl (fun _ => 0)))) kr zr) : ms_W x d P pc lv (.int v :: st) n G (1 + kr) (N + zr) := by
  intro mc ms p l e s m args below meth c D cA base H locs cells slots ls F c1 c2 c3 c4 c5 c6
  refine va_newaK (atype := .int) F.exec F.code (F.big _ hw) rfl hdg rfl h0 hN hb (show cells + 1 ≤ mc by omega) (show slots + N ≤ ms by omega) c3 fun H1 cB e1 z1 b1 hAr hNm => ?_
  have hcB : cB = cA 0 := Option.some.inj (hNm.symm.trans (F.K.2 0 _ rfl).2)
  subst hcB
  exact k mc ms p l e s m args below meth c D cA base H1 locs (cells + 1) (slots + N) ls F (by omega) (by omega) z1 (c4.new c3 (by have := F.low; have := c5.1; omega) e1 b1) ⟨by have := c5.1; omega, fun q h1 h2 => (b1 q (by have := c5.1; omega)).trans (c5.2.1 q h1 h2), c5.2.2⟩ c6
theorem ms_newZ {x : Bool} {d : ms_D} {P : ms_P} {pc : Nat} {lv : List (Nat × Value)} {st : List Value} {n : Nat} {G : ms_H} {kr zr : Nat} {v : Int32} {N : Nat} (hdg : decode d.2.1 pc = .ok (.newarray .boolean, 2)) (hw : Cond.arrayClass .boolean ∈ ms_big) (h0 : ¬ v < 0) (hN : v.toNatClampNeg = N) (hb : N * 1 ≤ 536870912) (k : ms_W x d P (pc + 2) lv (.ref n :: st) (n + 1) (ms_up G n (.inl (1, N, .inl (fun _ => 0)))) kr zr) : ms_W x d P pc lv (.int v :: st) n G (1 + kr) (N + zr) := by
  intro mc ms p l e s m args below meth c D cA base H locs cells slots ls F c1 c2 c3 c4 c5 c6
  refine va_newaK (atype := .boolean) F.exec F.code (F.big _ hw) rfl hdg rfl h0 hN hb (show cells + 1 ≤ mc by omega) (show slots + N ≤ ms by omega) c3 fun H1 cB e1 z1 b1 hAr hNm => ?_
  have hcB : cB = cA 1 := Option.some.inj (hNm.symm.trans (F.K.2 1 _ rfl).2)
  subst hcB
  exact k mc ms p l e s m args below meth c D cA base H1 locs (cells + 1) (slots + N) ls F (by omega) (by omega) z1 (c4.new c3 (by have := F.low; have := c5.1; omega) e1 b1) ⟨by have := c5.1; omega, fun q h1 h2 => (b1 q (by have := c5.1; omega)).trans (c5.2.1 q h1 h2), c5.2.2⟩ c6
theorem ms_zastore {x : Bool} {d : ms_D} {P : ms_P} {pc : Nat} {lv : List (Nat × Value)} {st : List Value} {n : Nat} {G : ms_H} {kr zr : Nat} {a N : Nat} {i v : Int32} {f : Nat → Int32} (hdg : decode d.2.1 pc = .ok (.bastore, 1)) (ha : G a = some (.inl (1, N, .inl f))) (hin : vp_in i N) (k : ms_W x d P (pc + 1) lv st n (ms_up G a (.inl (1, N, .inl (upd f i.toNatClampNeg (vp_nar .boolean v))))) kr zr) : ms_W x d P pc lv (.int v :: .int i :: .ref a :: st) n G kr zr := by
  intro mc ms p l e s m args below meth c D cA base H locs cells slots ls F c1 c2 c3 c4 c5 c6
  have hb := (c4 a _ ha).2
  refine W.zast F.exec F.code (c4.P1 ha 0 _ rfl) ((F.K.2 1 _ rfl).1 N (fun j => .int (f j))) (fun q => by cases q) (by show ¬ (i < 0 ∨ (arrV _ _ _).slots.size ≤ _); rw [arrV_size]; exact hin) rfl rfl hdg fun H1 h9 z oq => ?_
  refine k mc ms p l e s m args below meth c D cA base H1 _ cells slots ls F c1 c2 (z.trans c3) (c4.set ha ?_ oq) (c5.put z oq hb) c6
  show H1[a]? = some (vp_cell _ _)
  rw [h9]
  rw [vp_cell_i, vp_cell_i, arrV_store]
  congr 2
  funext q
  by_cases hq : q = i.toNatClampNeg
  · subst hq
    simp [updV, upd, vp_nar]
    try rfl
  · simp [updV, upd, hq]
theorem ms_aastore {x : Bool} {d : ms_D} {P : ms_P} {pc : Nat} {lv : List (Nat × Value)} {st : List Value} {n : Nat} {G : ms_H} {kr zr : Nat} {a N b : Nat} {i : Int32} {fs : List Value} {f : Nat → Option Nat} (hdg : decode d.2.1 pc = .ok (.aastore, 1)) (ha : G a = some (.inl (3, N, .inr (.inr (.inr (.inr f)))))) (hb : G b = some (.inr (4, fs))) (hin : vp_in i N) (k : ms_W x d P (pc + 1) lv st n (ms_up G a (.inl (3, N, .inr (.inr (.inr (.inr (va_up f i.toNatClampNeg (some b)))))))) kr zr) : ms_W x d P pc lv (.ref b :: .int i :: .ref a :: st) n G kr zr := by
  intro mc ms p l e s m args below meth c D cA base H locs cells slots ls F c1 c2 c3 c4 c5 c6
  have hba := (c4 a _ ha).2
  have hlt : i.toNatClampNeg < N := Nat.not_le.mp fun q => hin (Or.inr q)
  have h0 : ¬ i < 0 := fun q => hin (Or.inl q)
  obtain ⟨r', hr', cellV, g1, g2, g3, -⟩ := (c4 b _ hb).1
  have hr9 : r' = (RX4, TX4, 11) := Option.some.inj (hr'.symm.trans rfl)
  have hcls := (F.K.1 4 _ rfl).2
  obtain ⟨kA, comp, k1, k2, k3, -⟩ := (F.K.2 3 _ rfl).2
  have hcomp : comp = D.1 4 := Option.some.inj (k3.symm.trans hcls.1)
  subst hcomp
  obtain ⟨kC, hkC, -⟩ := hcls.2
  refine W.aast F.exec F.code (c4.P1 ha 0 _ rfl) (fun q h => by cases h) (fun h => by cases h) k1 k2 rfl hkC ⟨h0, by show _ < (arrV _ _ _).slots.size; rw [arrV_size]; exact hlt⟩ g1 (fun q h => by rw [g3] at h; cases h) (by rw [g2]; exact hkC) (by rw [g2]; exact va_assign hcls) rfl rfl hdg fun H1 h9 z oq => ?_
  refine k mc ms p l e s m args below meth c D cA base H1 _ cells slots ls F c1 c2 (z.trans c3) (c4.set ha ?_ oq) (c5.put z oq hba) c6
  show H1[a]? = some (vp_cell _ _)
  rw [h9]
  rw [vp_cell_q, vp_cell_q, arrV_store]
  congr 2
  funext q
  by_cases hq : q = i.toNatClampNeg
  · subst hq
    simp [updV, va_up, va_rf]
  · simp [updV, va_up, hq]
