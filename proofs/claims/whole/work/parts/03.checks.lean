def tc_w (i : Nat) (w : Jvm.Cond) : Bool := decide (lw_tbl[i]? = some w) && goodWord w
def tc_n (k : Nat) : String := (tb_cn[k / 4096]?).getD ""
def tc_sf (k : Nat) : String × String := if k = 0 then ("value", "[B") else ("coder", "B")
def tc_tc (d : String) : Nat := match parseFieldDescriptor d with
  | some .int => 0
  | some .boolean => 1
  | some .byte => 3
  | some (.object _) => 2
  | some (.array _) => 2
  | _ => 4
def tc_F (e : tb_FE) : Bool := e.2.2.2.1.all (fun ci => match tb_cl[ci]? with
  | some r => decide (e.2.2.1 < r.2.2) && tc_w e.2.1 (.fieldLink (tc_n e.1) (e.1 % 4096) (r.2.1 e.2.2.1).1 (r.2.1 e.2.2.1).2.1 (r.2.1 e.2.2.1).2.2.1) && decide ((r.2.1 e.2.2.1).2.2.2 = e.2.2.2.2.2) && decide (tc_tc (r.2.1 e.2.2.1).2.2.1 = e.2.2.2.2.1) && (!(e.2.2.2.2.2) || decide ((r.2.1 e.2.2.1).1 = tc_n e.1) || true)
  | none => decide (ci = 13) && decide (e.2.2.1 < 2) && e.2.2.2.2.2 && tc_w e.2.1 (.fieldLink (tc_n e.1) (e.1 % 4096) "java/lang/String" (tc_sf e.2.2.1).1 (tc_sf e.2.2.1).2))
theorem tc_F_ok : tb_F.all tc_F = true := by decide +kernel
def tc_nw (i : Nat) (w : Jvm.Cond) : Bool := decide (lw_tbl[i]? = some w)
def tc_S (e : Nat × Nat × Nat × Bool) : Bool := match tb_sv[e.2.2.1]? with
  | some q => if e.2.2.2 then tc_nw e.2.1 (.fieldLinkNest (tc_n e.1) (e.1 % 4096) q.1 q.2.1 q.2.2.1 "NineSail") else tc_w e.2.1 (.fieldLink (tc_n e.1) (e.1 % 4096) q.1 q.2.1 q.2.2.1)
  | none => false
theorem tc_S_ok : tb_S.all tc_S = true := by decide +kernel
def tc_C (e : Nat × Nat × Value) : Bool := match e.2.2 with
  | .int v => tc_w e.2.1 (.constant (tc_n e.1) (e.1 % 4096) v)
  | .long v => tc_w e.2.1 (.constantLong (tc_n e.1) (e.1 % 4096) v)
  | .float v => tc_w e.2.1 (.constantFloat (tc_n e.1) (e.1 % 4096) v)
  | _ => false
theorem tc_C_ok : tb_C.all tc_C = true := by decide +kernel
def tc_X (e : Nat × Nat × Nat × String × Nat) : Bool := decide (e.1 % 4096 = e.2.2.1) && decide (tc_n e.1 = "NineSail$Tape") && tc_nw e.2.1 (.stringRef "NineSail$Tape" e.2.2.1 e.2.2.2.1) && decide (4 ≤ e.2.2.2.2) && decide (e.2.2.2.2 < 17)
theorem tc_X_ok : tb_X.all tc_X = true := by decide +kernel
def tc_N (e : Nat × Nat × Nat × Nat × Nat) : Bool := match tb_cl[e.2.2.1]? with
  | some r => tc_w e.2.1 (.classLink (tc_n e.1) (e.1 % 4096) r.1) && tc_w e.2.2.2.1 (.instantiable r.1 r.2.2) && tc_w e.2.2.2.2 (.initialized r.1)
  | none => false
theorem tc_N_ok : tb_N.all tc_N = true := by decide +kernel
def tc_al : List String := ["NineSail$Kind", "NineSail$Sheet", "NineSail$Boat", "NineSail$Text"]
def tc_A (e : Nat × Nat × String × Nat) : Bool := tc_w e.2.1 (.classLink (tc_n e.1) (e.1 % 4096) e.2.2.1) && tc_nw e.2.2.2 (.arrayOver (.object e.2.2.1)) && tc_al.contains e.2.2.1
theorem tc_A_ok : tb_A.all tc_A = true := by decide +kernel
theorem tc_B_ok : tb_B.all (fun e => tc_w e.2 (.arrayClass e.1)) = true := by decide +kernel
def tc_mi (M : Nat) : tb_MI := (tb_mt M).getD (⟨"", "", ""⟩, .empty, 0, none, 0)
theorem tc_meth : (tb_ml.drop 1).all (fun q => decide (q.2.2.1 ≤ 20) && decide (tb_cn[q.2.2.2.2]? = some q.1.cls) && plainName q.1.cls && decide (q.1.cls ≠ "java/lang/invoke/MethodHandle") && decide (q.1.cls ≠ "java/lang/invoke/VarHandle")) = true := by decide +kernel
def tc_code (M : Nat) : Bool := decide (0 < M)
def tc_par (d : String) (n : Nat) : Bool := decide ((parseMethodDescriptor d).map (fun d => d.parameters.length) = some n)
def tc_I (e : Nat × Nat × Nat × Nat × Bool × Nat × Nat × Nat) : Bool := match tb_mt e.2.2.1 with
  | some q => (if e.2.2.2.2.1 then tc_nw e.2.1 (.methodLinkNest (tc_n e.1) (e.1 % 4096) q.1 "NineSail") else tc_w e.2.1 (.methodLink (tc_n e.1) (e.1 % 4096) q.1)) && tc_w e.2.2.2.2.2.1 (.static q.1) && tc_w e.2.2.2.2.2.2.1 (.initialized q.1.cls) && tc_code e.2.2.1 && tc_par q.1.desc e.2.2.2.1
  | none => false
theorem tc_I_ok : tb_I.all tc_I = true := by decide +kernel
def tc_K (e : Nat × Nat × Nat × Nat × Bool × Nat × Nat × Nat) : Bool := match tb_mt e.2.2.1 with
  | some q => (if e.2.2.2.2.1 then tc_nw e.2.1 (.methodLinkNest (tc_n e.1) (e.1 % 4096) q.1 "NineSail") else tc_w e.2.1 (.methodLink (tc_n e.1) (e.1 % 4096) q.1)) && tc_w e.2.2.2.2.2.1 (.instanceMethod q.1) && tc_w e.2.2.2.2.2.2.1 (.initialized q.1.cls) && tc_code e.2.2.1 && tc_par q.1.desc e.2.2.2.1 && decide (q.1.name = "<init>") && decide (q.2.2.2.1 = none)
  | none => false
theorem tc_K_ok : tb_K.all tc_K = true := by decide +kernel
def tc_U (e : Nat × Nat × Nat × Nat × Nat × Nat × Nat × Nat × Nat) : Bool := match tb_mt e.2.2.1 with
  | some q => tc_w e.2.1 (.methodLink (tc_n e.1) (e.1 % 4096) q.1) && tc_w e.2.2.2.2.1 (.sameMethod q.1.cls q.1.cls q.1.name q.1.desc) && tc_w e.2.2.2.2.2.1 (.superclass (tc_n e.1) q.1.cls) && tc_w e.2.2.2.2.2.2.1 (.instanceMethod q.1) && tc_w e.2.2.2.2.2.2.2.1 (.initialized q.1.cls) && tc_code e.2.2.1 && tc_par q.1.desc e.2.2.2.1 && decide (q.1.name ≠ "<init>")
  | none => false
theorem tc_U_ok : tb_U.all tc_U = true := by decide +kernel
def tc_V (e : tb_VE) : Bool := match e with
  | (k, ci, wl, M, n, ov, ws, wi, wn, wc, sw, xi, xc, X) => match tb_mt M, tb_cn[ci]? with
    | some q, some C => tc_w wn (.initialized q.1.cls) && tc_w wi (.instanceMethod q.1) && tc_code M && (if ov then (match tb_mt X with
      | some x => tc_w wl (.methodLink (tc_n k) (k % 4096) x.1) && tc_w ws (.selects C x.1 q.1) && tc_w sw (.sameMethod x.1.cls x.1.cls x.1.name x.1.desc) && tc_w xi (.instanceMethod x.1) && tc_code X && tc_par x.1.desc n
      | none => false) else tc_w wl (.methodLink (tc_n k) (k % 4096) q.1) && tc_w ws (.selects C q.1 q.1) && decide (q.1.cls = C) && tc_par q.1.desc n)
    | _, _ => false
theorem tc_v0_ok : tb_v0.all tc_V = true := by decide +kernel
theorem tc_v1_ok : tb_v1.all tc_V = true := by decide +kernel
theorem tc_v2_ok : tb_v2.all tc_V = true := by decide +kernel
theorem tc_v3_ok : tb_v3.all tc_V = true := by decide +kernel
theorem tc_v4_ok : tb_v4.all tc_V = true := by decide +kernel
theorem tc_V_ok : tb_V.all tc_V = true := by
  simp only [tb_V, List.all_append, tc_v0_ok, tc_v1_ok, tc_v2_ok, tc_v3_ok, tc_v4_ok, Bool.and_self]
theorem tc_O_ok : tb_O.all (fun e => tc_w e.2 (.methodLink (tc_n e.1) (e.1 % 4096) Lib.objectInit)) = true := by decide +kernel
theorem tc_oi_ok : (tc_w tb_oi.1 (.instanceMethod Lib.objectInit) && tc_w tb_oi.2 (.code Lib.objectInit ⟨#[0xb1]⟩ 1 none)) = true := by decide +kernel
theorem tc_P_ok : tb_P.all (fun e => tc_w e.2 (.methodLink (tc_n e.1) (e.1 % 4096) arraycopyName)) = true := by decide +kernel
theorem tc_ac_ok : (tc_w tb_ac.1 (.native arraycopyName) && tc_w tb_ac.2.1 (.static arraycopyName) && tc_w tb_ac.2.2 (.initialized "java/lang/System")) = true := by decide +kernel
def tc_Q (e : Nat × Nat × Nat × Nat × Nat × Nat) : Bool := match tb_mt tb_isIn with
  | some q => decide (e.2.2.1 = tb_isIn) && tc_w e.2.1 (.methodLink (tc_n e.1) (e.1 % 4096) q.1) && tc_w e.2.2.2.1 (.static q.1) && tc_w e.2.2.2.2.1 (.initialized q.1.cls) && tc_code tb_isIn && tc_par q.1.desc 3
  | none => false
theorem tc_Q_ok : tb_Q.all tc_Q = true := by decide +kernel
def tc_mn (op : Nat) : MethodName := if op = 0 then Lib.Math.max.name else if op = 1 then Lib.Math.min.name else Lib.Math.abs.name
theorem tc_Z_ok : tb_Z.all (fun e => tc_w e.2.1 (.methodLink (tc_n e.1) (e.1 % 4096) (tc_mn e.2.2)) && decide (e.2.2 < 3)) = true := by decide +kernel
theorem tc_mm0 : (tc_w 48 (.initialized "NineSailLaw") && tc_w tb_mi (.initialized "java/lang/Math") && (match tb_mm with
  | [a, b, c] => tc_w a.1 (.static Lib.Math.max.name) && tc_w a.2 (.code Lib.Math.max.name Lib.Math.max.code 2 (some .int)) && tc_w b.1 (.static Lib.Math.min.name) && tc_w b.2 (.code Lib.Math.min.name Lib.Math.min.code 2 (some .int)) && tc_w c.1 (.static Lib.Math.abs.name) && tc_w c.2 (.code Lib.Math.abs.name Lib.Math.abs.code 1 (some .int))
  | _ => false)) = true := by decide +kernel
theorem tc_lay : tb_cl.all (fun r => (List.range r.2.2).all (fun k => decide (u_lay r.1 r.2.1 k ∈ lw_tbl) && goodWord (u_lay r.1 r.2.1 k))) = true := by decide +kernel
theorem tc_inst : tb_cl.all (fun r => decide (Jvm.Cond.instantiable r.1 r.2.2 ∈ lw_tbl) && goodWord (.instantiable r.1 r.2.2)) = true := by decide +kernel
theorem tc_nm : tb_cl.all (fun r => (List.range r.2.2).all (fun a => (List.range r.2.2).all (fun b => a == b || decide ((r.2.1 a).2.1 ≠ (r.2.1 b).2.1)))) = true := by decide +kernel
theorem tc_ty : (tb_cl.zip tb_tyl).all (fun q => (List.range q.1.2.2).all (fun k => decide (parseFieldDescriptor (q.1.2.1 k).2.2.1 = some (q.2 k)))) = true := by decide +kernel
def tc_caf (e : Nat × Nat) : Bool := match tb_cl[e.1]? with
  | some r => tc_nw e.2 (.castable r.1 "NineSail$Kind")
  | none => false
theorem tc_ca : tb_ca.all tc_caf = true := by decide +kernel
def tc_cbf (ci : Nat) (C : String) : Bool := match tb_cl[ci]? with
  | some r => decide (r.1 = C)
  | none => false
theorem tc_cab : (List.range 13).all (fun ci => tc_al.all (fun C => !(mx_cast ci C) || tc_cbf ci C || (decide (C = "NineSail$Kind") && tb_ca.any (fun e => e.1 == ci)))) = true := by decide +kernel
