-- BASE: the layout behind both constructors, and rows for simp
def kdL : List Nat := [11, 13, 9, 5, 14, 14, 14, 5, 14, 14, 14, 14, 14, 14, 14, 14, 14, 5, 14, 14, 14, 2, 14, 14, 15, 2, 14, 14, 15, 9, 5, 14, 14, 14, 5, 14, 14, 14, 14, 14, 14, 14, 14, 14, 5, 14, 14, 14, 2, 14, 14, 15, 2, 14, 14, 15, 7, 10, 14, 14, 4, 14, 14, 14, 14, 14, 14, 14, 14, 14, 14, 14, 14, 15, 4, 14, 14, 14, 14, 14, 14, 14, 14, 14, 14, 14, 14, 15, 4, 14, 14, 14, 14, 14, 14, 14, 14, 14, 14, 14, 14, 15, 8, 16, 13, 0, 14, 1, 14, 14, 14, 17, 3, 14, 14, 14, 14, 6, 14, 14, 14, 14, 13, 12, 14, 14, 14, 14, 14, 14, 14, 14, 14, 14, 14, 14, 14, 14, 14, 14, 14, 17, 14, 14, 14, 14, 14, 14, 14, 15, 15, 14, 14, 14, 14, 14, 14, 14, 14, 14, 14, 14, 14, 14, 14, 14, 14, 14, 17, 14, 14]
def lnL : List Nat := [17, 700, 18, 2, 3, 3, 3, 2, 6, 6, 6, 6, 6, 6, 6, 6, 6, 2, 4, 24, 24, 5, 64, 64, 64, 5, 64, 64, 64, 18, 2, 3, 3, 3, 2, 6, 6, 6, 6, 6, 6, 6, 6, 6, 2, 4, 24, 24, 5, 64, 64, 64, 5, 64, 64, 64, 12, 8, 21, 72, 19, 3, 6, 6, 6, 6, 6, 6, 6, 6, 6, 36, 6, 7, 19, 3, 6, 6, 6, 6, 6, 6, 6, 6, 6, 36, 6, 7, 19, 3, 6, 6, 6, 6, 6, 6, 6, 6, 6, 36, 6, 7, 2, 24000, 4000, 2, 100, 6, 40, 40, 40, 40, 11, 6, 6, 6, 6, 8, 6, 6, 6, 6, 2000, 87, 700, 107, 6, 6, 6, 12, 12, 12, 12, 12, 12, 12, 12, 12, 8, 48, 48, 4, 4, 4, 128, 128, 128, 96, 96, 7, 64, 12, 12, 12, 12, 12, 12, 6, 6, 6, 24000, 4000, 100, 6, 7, 6, 6, 120, 40, 2000, 36]
def kd0 (a : Nat) : Nat := kdL.getD a 99
def ln0 (a : Nat) : Nat := lnL.getD a 0
def fi0 (a : Nat) : Nat → Option Nat := match a with
  | 0 => fun k => match k with | 0 => some 1 | 2 => some 56 | 5 => some 60 | 6 => some 74 | 8 => some 88 | 9 => some 102 | 10 => some 105 | 11 => some 107 | 12 => some 112 | 13 => some 117 | 14 => some 120 | 15 => some 121 | 16 => some 122 | _ => none
  | 2 => fun k => match k with | 0 => some 3 | 1 => some 5 | 2 => some 6 | 3 => some 7 | 4 => some 9 | 5 => some 10 | 6 => some 11 | 7 => some 12 | 8 => some 13 | 9 => some 14 | 10 => some 15 | 11 => some 16 | 13 => some 17 | 14 => some 19 | 15 => some 20 | 16 => some 21 | 17 => some 25 | _ => none
  | 3 => fun k => match k with | 0 => some 4 | _ => none
  | 7 => fun k => match k with | 0 => some 8 | _ => none
  | 17 => fun k => match k with | 0 => some 18 | _ => none
  | 21 => fun k => match k with | 2 => some 22 | 3 => some 23 | 4 => some 24 | _ => none
  | 25 => fun k => match k with | 2 => some 26 | 3 => some 27 | 4 => some 28 | _ => none
  | 29 => fun k => match k with | 0 => some 30 | 1 => some 32 | 2 => some 33 | 3 => some 34 | 4 => some 36 | 5 => some 37 | 6 => some 38 | 7 => some 39 | 8 => some 40 | 9 => some 41 | 10 => some 42 | 11 => some 43 | 13 => some 44 | 14 => some 46 | 15 => some 47 | 16 => some 48 | 17 => some 52 | _ => none
  | 30 => fun k => match k with | 0 => some 31 | _ => none
  | 34 => fun k => match k with | 0 => some 35 | _ => none
  | 44 => fun k => match k with | 0 => some 45 | _ => none
  | 48 => fun k => match k with | 2 => some 49 | 3 => some 50 | 4 => some 51 | _ => none
  | 52 => fun k => match k with | 2 => some 53 | 3 => some 54 | 4 => some 55 | _ => none
  | 56 => fun k => match k with | 0 => some 57 | 10 => some 59 | _ => none
  | 57 => fun k => match k with | 0 => some 1 | 1 => some 58 | _ => none
  | 60 => fun k => match k with | 5 => some 61 | 6 => some 62 | 7 => some 63 | 8 => some 64 | 9 => some 65 | 10 => some 66 | 11 => some 67 | 12 => some 68 | 13 => some 69 | 14 => some 70 | 15 => some 71 | 16 => some 72 | 17 => some 73 | _ => none
  | 74 => fun k => match k with | 5 => some 75 | 6 => some 76 | 7 => some 77 | 8 => some 78 | 9 => some 79 | 10 => some 80 | 11 => some 81 | 12 => some 82 | 13 => some 83 | 14 => some 84 | 15 => some 85 | 16 => some 86 | 17 => some 87 | _ => none
  | 88 => fun k => match k with | 5 => some 89 | 6 => some 90 | 7 => some 91 | 8 => some 92 | 9 => some 93 | 10 => some 94 | 11 => some 95 | 12 => some 96 | 13 => some 97 | 14 => some 98 | 15 => some 99 | 16 => some 100 | 17 => some 101 | _ => none
  | 102 => fun k => match k with | 0 => some 103 | 1 => some 104 | _ => none
  | 105 => fun k => match k with | 0 => some 106 | _ => none
  | 107 => fun k => match k with | 0 => some 108 | 1 => some 109 | 2 => some 110 | 3 => some 111 | _ => none
  | 112 => fun k => match k with | 0 => some 88 | 2 => some 113 | 3 => some 114 | 4 => some 115 | 5 => some 116 | _ => none
  | 117 => fun k => match k with | 0 => some 88 | 1 => some 118 | 2 => some 119 | _ => none
  | 123 => fun k => match k with | 0 => some 124 | 3 => some 125 | 23 => some 126 | 24 => some 127 | 25 => some 128 | 26 => some 129 | 27 => some 130 | 28 => some 131 | 29 => some 132 | 30 => some 133 | 31 => some 134 | 32 => some 135 | 33 => some 136 | 34 => some 137 | 35 => some 138 | 36 => some 139 | 37 => some 140 | 38 => some 141 | 39 => some 142 | 40 => some 143 | 41 => some 144 | 42 => some 145 | 43 => some 146 | 44 => some 147 | 45 => some 148 | 52 => some 149 | 53 => some 150 | 55 => some 151 | 56 => some 152 | 57 => some 153 | 58 => some 154 | 59 => some 155 | 60 => some 156 | 66 => some 157 | 67 => some 158 | 68 => some 159 | 71 => some 160 | 72 => some 161 | 74 => some 162 | 75 => some 163 | 76 => some 164 | 77 => some 165 | 78 => some 166 | 81 => some 167 | 82 => some 168 | 83 => some 169 | 86 => some 170 | _ => none
  | _ => fun _ => none
def G0 : Hs := (false, 171, 64802, kd0, ln0, fi0)
abbrev Mem : Type := Nat → Nat → Int32
abbrev MemL : Type := Nat → Nat → Int64
abbrev MemR : Type := Nat → Nat → Option Nat
def hp (I : Mem) (J : MemL) (R : MemR) : Hp := (G0, I, J, R)
theorem hK_p {I : Mem} {J : MemL} {R : MemR} : hK (hp I J R) = kd0 := rfl
theorem hN_p {I : Mem} {J : MemL} {R : MemR} : hN (hp I J R) = ln0 := rfl
theorem hF_p {I : Mem} {J : MemL} {R : MemR} : hF (hp I J R) = fi0 := rfl
theorem hI_p {I : Mem} {J : MemL} {R : MemR} : hI (hp I J R) = I := rfl
theorem hJ_p {I : Mem} {J : MemL} {R : MemR} : hJ (hp I J R) = J := rfl
theorem hR_p {I : Mem} {J : MemL} {R : MemR} : hR (hp I J R) = R := rfl
theorem stI_p {I : Mem} {J : MemL} {R : MemR} {a k : Nat} {v : Int32} : stI (hp I J R) a k v = hp (va_up I a (upd (I a) k v)) J R := rfl
theorem stA_p {I : Mem} {J : MemL} {R : MemR} {a : Nat} {f : Nat → Int32} : stA (hp I J R) a f = hp (va_up I a f) J R := rfl
theorem stJ_p {I : Mem} {J : MemL} {R : MemR} {a k : Nat} {v : Int64} : stJ (hp I J R) a k v = hp I (va_up J a (vp_updL (J a) k v)) R := rfl
theorem stR_p {I : Mem} {J : MemL} {R : MemR} {a k : Nat} {v : Option Nat} : stR (hp I J R) a k v = hp I J (va_up R a (va_up (R a) k v)) := rfl
theorem gd_t {α : Type} {x : Option α} : gd true x = x := rfl
theorem va_rf_s {a : Nat} : va_rf (some a) = .ref a := rfl
theorem va_rf_n : va_rf none = .null := rfl
theorem clr_i {x : Int32} : clr (some (.int x)) = some (.int x) := rfl
theorem clr_l {x : Int64} : clr (some (.long x)) = none := rfl
theorem clr_r {x : Nat} : clr (some (.ref x)) = some (.ref x) := rfl
theorem clr_n : clr (some .null) = some .null := rfl
theorem clr_o : clr none = none := rfl
theorem w8_0 : w8 [] = true := rfl
theorem w8_1i {x : Int32} : w8 [.int x] = true := rfl
theorem w8_1r {x : Nat} : w8 [.ref x] = true := rfl
theorem w8_2ii {x y : Int32} : w8 [.int x, .int y] = true := rfl
theorem w8_2ri {x : Nat} {y : Int32} : w8 [.ref x, .int y] = true := rfl
theorem w8_2ir {x : Int32} {y : Nat} : w8 [.int x, .ref y] = true := rfl
theorem w8_2rr {x y : Nat} : w8 [.ref x, .ref y] = true := rfl
theorem w8_3 {u v w : Value} : w8 [u, v, w] = true := by
  have h1 : ∀ v : Value, v.category ≤ 2 := fun v => by cases v <;> decide
  have := h1 u
  have := h1 v
  have := h1 w
  unfold w8
  simp only [List.map_cons, List.map_nil, List.sum_cons, List.sum_nil]
  exact decide_eq_true (by omega)
theorem inb_n {i n : Nat} (h : i < n) (hn : n < 2 ^ 31) : inb (nI i) n = true := by
  have h1 : ¬ nI i < 0 := nI_pos (by omega)
  have h2 : (nI i).toNatClampNeg = i := nI_clamp (by omega)
  simp [inb, h1, h2, h]
theorem eX0_init {d : Nat} {a : Nat} {h : Hp} : C (d + 1) MX0_init [.ref a] h = E (C d) MX0_init 0 [some (.ref a)] [] h := C_in (by decide) (by decide) rfl
theorem eX0_forget {d : Nat} {a : Nat} {h : Hp} : C (d + 1) MX0_forget [.ref a] h = E (C d) MX0_forget 0 [some (.ref a)] [] h := C_in (by decide) (by decide) rfl
theorem eX0_note {d : Nat} {a : Nat} {v0 : Nat} {v1 : Int32} {h : Hp} : C (d + 1) MX0_note [.ref a, .ref v0, .int v1] h = E (C d) MX0_note 0 [some (.ref a), some (.ref v0), some (.int v1), none] [] h := C_in (by decide) (by decide) rfl
theorem eX0_takeBack {d : Nat} {a : Nat} {v0 : Nat} {h : Hp} : C (d + 1) MX0_takeBack [.ref a, .ref v0] h = E (C d) MX0_takeBack 0 [some (.ref a), some (.ref v0), none, none] [] h := C_in (by decide) (by decide) rfl
theorem eX1_init {d : Nat} {a : Nat} {h : Hp} : C (d + 1) MX1_init [.ref a] h = E (C d) MX1_init 0 [some (.ref a)] [] h := C_in (by decide) (by decide) rfl
theorem eX1_forget {d : Nat} {a : Nat} {h : Hp} : C (d + 1) MX1_forget [.ref a] h = E (C d) MX1_forget 0 [some (.ref a)] [] h := C_in (by decide) (by decide) rfl
theorem eX1_add {d : Nat} {a : Nat} {v0 : Int32} {v1 : Int32} {v2 : Int32} {h : Hp} : C (d + 1) MX1_add [.ref a, .int v0, .int v1, .int v2] h = E (C d) MX1_add 0 [some (.ref a), some (.int v0), some (.int v1), some (.int v2)] [] h := C_in (by decide) (by decide) rfl
theorem eX1_asked {d : Nat} {a : Nat} {h : Hp} : C (d + 1) MX1_asked [.ref a] h = E (C d) MX1_asked 0 [some (.ref a)] [] h := C_in (by decide) (by decide) rfl
theorem eX1_settle {d : Nat} {a : Nat} {h : Hp} : C (d + 1) MX1_settle [.ref a] h = E (C d) MX1_settle 0 [some (.ref a), none, none] [] h := C_in (by decide) (by decide) rfl
theorem eX1_lastStep {d : Nat} {a : Nat} {h : Hp} : C (d + 1) MX1_lastStep [.ref a] h = E (C d) MX1_lastStep 0 [some (.ref a), none, none] [] h := C_in (by decide) (by decide) rfl
theorem eX1_agrees {d : Nat} {a : Nat} {v0 : Nat} {h : Hp} : C (d + 1) MX1_agrees [.ref a, .ref v0] h = E (C d) MX1_agrees 0 [some (.ref a), some (.ref v0), none, none, none] [] h := C_in (by decide) (by decide) rfl
theorem eX2_init {d : Nat} {a : Nat} {h : Hp} : C (d + 1) MX2_init [.ref a] h = E (C d) MX2_init 0 [some (.ref a)] [] h := C_in (by decide) (by decide) rfl
theorem eX2_clear {d : Nat} {a : Nat} {h : Hp} : C (d + 1) MX2_clear [.ref a] h = E (C d) MX2_clear 0 [some (.ref a)] [] h := C_in (by decide) (by decide) rfl
theorem eX2_add {d : Nat} {a : Nat} {v0 : Int32} {v1 : Int32} {h : Hp} : C (d + 1) MX2_add [.ref a, .int v0, .int v1] h = E (C d) MX2_add 0 [some (.ref a), some (.int v0), some (.int v1)] [] h := C_in (by decide) (by decide) rfl
theorem eX2_worth {d : Nat} {a : Nat} {v0 : Nat} {v1 : Int32} {v2 : Int32} {h : Hp} : C (d + 1) MX2_worth [.ref a, .ref v0, .int v1, .int v2] h = E (C d) MX2_worth 0 [some (.ref a), some (.ref v0), some (.int v1), some (.int v2), none, none, none, none, none] [] h := C_in (by decide) (by decide) rfl
theorem eX2_joined {d : Nat} {v0 : Int32} {v1 : Int64} {v2 : Int64} {h : Hp} : C (d + 1) MX2_joined [.int v0, .long v1, .long v2] h = E (C d) MX2_joined 0 [some (.int v0), some (.long v1), none, some (.long v2), none, none, none] [] h := C_in (by decide) (by decide) rfl
theorem eX3_init {d : Nat} {a : Nat} {v0 : Nat} {h : Hp} : C (d + 1) MX3_init [.ref a, .ref v0] h = E (C d) MX3_init 0 [some (.ref a), some (.ref v0)] [] h := C_in (by decide) (by decide) rfl
theorem eX3_forget {d : Nat} {a : Nat} {h : Hp} : C (d + 1) MX3_forget [.ref a] h = E (C d) MX3_forget 0 [some (.ref a)] [] h := C_in (by decide) (by decide) rfl
theorem eX3_find {d : Nat} {a : Nat} {v0 : Nat} {v1 : Int32} {v2 : Int32} {v3 : Int32} {h : Hp} : C (d + 1) MX3_find [.ref a, .ref v0, .int v1, .int v2, .int v3] h = E (C d) MX3_find 0 [some (.ref a), some (.ref v0), some (.int v1), some (.int v2), some (.int v3), none] [] h := C_in (by decide) (by decide) rfl
theorem eX3_hear {d : Nat} {a : Nat} {h : Hp} : C (d + 1) MX3_hear [.ref a] h = E (C d) MX3_hear 0 [some (.ref a), none] [] h := C_in (by decide) (by decide) rfl
theorem eX3_putBack {d : Nat} {a : Nat} {h : Hp} : C (d + 1) MX3_putBack [.ref a] h = E (C d) MX3_putBack 0 [some (.ref a), none] [] h := C_in (by decide) (by decide) rfl
theorem eX3_spots {d : Nat} {a : Nat} {h : Hp} : C (d + 1) MX3_spots [.ref a] h = E (C d) MX3_spots 0 [some (.ref a)] [] h := C_in (by decide) (by decide) rfl
theorem eX3_moveOne {d : Nat} {a : Nat} {h : Hp} : C (d + 1) MX3_moveOne [.ref a] h = E (C d) MX3_moveOne 0 [some (.ref a), none, none] [] h := C_in (by decide) (by decide) rfl
theorem eX3_moveTwo {d : Nat} {a : Nat} {h : Hp} : C (d + 1) MX3_moveTwo [.ref a] h = E (C d) MX3_moveTwo 0 [some (.ref a), none, none, none, none] [] h := C_in (by decide) (by decide) rfl
theorem eX3_put {d : Nat} {a : Nat} {v0 : Int32} {v1 : Int32} {v2 : Int32} {h : Hp} : C (d + 1) MX3_put [.ref a, .int v0, .int v1, .int v2] h = E (C d) MX3_put 0 [some (.ref a), some (.int v0), some (.int v1), some (.int v2), none, none, none, none] [] h := C_in (by decide) (by decide) rfl
theorem eX3_allApart {d : Nat} {a : Nat} {h : Hp} : C (d + 1) MX3_allApart [.ref a] h = E (C d) MX3_allApart 0 [some (.ref a), none, none] [] h := C_in (by decide) (by decide) rfl
theorem eX3_keepsTime {d : Nat} {a : Nat} {h : Hp} : C (d + 1) MX3_keepsTime [.ref a] h = E (C d) MX3_keepsTime 0 [some (.ref a), none] [] h := C_in (by decide) (by decide) rfl
theorem eX4_init {d : Nat} {a : Nat} {v0 : Nat} {h : Hp} : C (d + 1) MX4_init [.ref a, .ref v0] h = E (C d) MX4_init 0 [some (.ref a), some (.ref v0), none] [] h := C_in (by decide) (by decide) rfl
theorem eX4_begin {d : Nat} {a : Nat} {v0 : Nat} {v1 : Nat} {v2 : Nat} {h : Hp} : C (d + 1) MX4_begin [.ref a, .ref v0, .ref v1, .ref v2] h = E (C d) MX4_begin 0 [some (.ref a), some (.ref v0), some (.ref v1), some (.ref v2), none] [] h := C_in (by decide) (by decide) rfl
theorem eX4_take {d : Nat} {a : Nat} {v0 : Nat} {h : Hp} : C (d + 1) MX4_take [.ref a, .ref v0] h = E (C d) MX4_take 0 [some (.ref a), some (.ref v0)] [] h := C_in (by decide) (by decide) rfl
theorem eX4_copy {d : Nat} {v0 : Nat} {v1 : Nat} {h : Hp} : C (d + 1) MX4_copy [.ref v0, .ref v1] h = E (C d) MX4_copy 0 [some (.ref v0), some (.ref v1)] [] h := C_in (by decide) (by decide) rfl
theorem eX4_measure {d : Nat} {a : Nat} {h : Hp} : C (d + 1) MX4_measure [.ref a] h = E (C d) MX4_measure 0 [some (.ref a), none, none] [] h := C_in (by decide) (by decide) rfl
theorem eX4_reachOf {d : Nat} {a : Nat} {v0 : Int32} {v1 : Int32} {h : Hp} : C (d + 1) MX4_reachOf [.ref a, .int v0, .int v1] h = E (C d) MX4_reachOf 0 [some (.ref a), some (.int v0), some (.int v1), none, none] [] h := C_in (by decide) (by decide) rfl
theorem eX4_leaveAlone {d : Nat} {a : Nat} {v0 : Int32} {h : Hp} : C (d + 1) MX4_leaveAlone [.ref a, .int v0] h = E (C d) MX4_leaveAlone 0 [some (.ref a), some (.int v0), none] [] h := C_in (by decide) (by decide) rfl
theorem eX4_go {d : Nat} {a : Nat} {v0 : Int32} {h : Hp} : C (d + 1) MX4_go [.ref a, .int v0] h = E (C d) MX4_go 0 [some (.ref a), some (.int v0), none] [] h := C_in (by decide) (by decide) rfl
theorem eX4_advance {d : Nat} {a : Nat} {h : Hp} : C (d + 1) MX4_advance [.ref a] h = E (C d) MX4_advance 0 [some (.ref a), none] [] h := C_in (by decide) (by decide) rfl
theorem eX4_pullOf {d : Nat} {a : Nat} {v0 : Int32} {h : Hp} : C (d + 1) MX4_pullOf [.ref a, .int v0] h = E (C d) MX4_pullOf 0 [some (.ref a), some (.int v0)] [] h := C_in (by decide) (by decide) rfl
theorem eX4_weighPulls {d : Nat} {a : Nat} {h : Hp} : C (d + 1) MX4_weighPulls [.ref a] h = E (C d) MX4_weighPulls 0 [some (.ref a), none, none, none] [] h := C_in (by decide) (by decide) rfl
theorem eX4_leanOf {d : Nat} {v0 : Int32} {h : Hp} : C (d + 1) MX4_leanOf [.int v0] h = E (C d) MX4_leanOf 0 [some (.int v0), none] [] h := C_in (by decide) (by decide) rfl
theorem eX4_move {d : Nat} {a : Nat} {v0 : Int32} {h : Hp} : C (d + 1) MX4_move [.ref a, .int v0] h = E (C d) MX4_move 0 [some (.ref a), some (.int v0), none, none, none] [] h := C_in (by decide) (by decide) rfl
theorem eX4_runners {d : Nat} {a : Nat} {h : Hp} : C (d + 1) MX4_runners [.ref a] h = E (C d) MX4_runners 0 [some (.ref a), none, none] [] h := C_in (by decide) (by decide) rfl
theorem eX4_groupOf {d : Nat} {a : Nat} {v0 : Int32} {v1 : Int32} {h : Hp} : C (d + 1) MX4_groupOf [.ref a, .int v0, .int v1] h = E (C d) MX4_groupOf 0 [some (.ref a), some (.int v0), some (.int v1), none, none, none, none, none] [] h := C_in (by decide) (by decide) rfl
theorem eX4_isTogether {d : Nat} {a : Nat} {v0 : Int32} {h : Hp} : C (d + 1) MX4_isTogether [.ref a, .int v0] h = E (C d) MX4_isTogether 0 [some (.ref a), some (.int v0), none, none] [] h := C_in (by decide) (by decide) rfl
theorem eX4_allCounts {d : Nat} {a : Nat} {h : Hp} : C (d + 1) MX4_allCounts [.ref a] h = E (C d) MX4_allCounts 0 [some (.ref a), none, none] [] h := C_in (by decide) (by decide) rfl
theorem eX5_init {d : Nat} {a : Nat} {v0 : Int32} {h : Hp} : C (d + 1) MX5_init [.ref a, .int v0] h = E (C d) MX5_init 0 [some (.ref a), some (.int v0)] [] h := C_in (by decide) (by decide) rfl
theorem eX5_add {d : Nat} {a : Nat} {v0 : Int32} {h : Hp} : C (d + 1) MX5_add [.ref a, .int v0] h = E (C d) MX5_add 0 [some (.ref a), some (.int v0)] [] h := C_in (by decide) (by decide) rfl
theorem eX5_find {d : Nat} {a : Nat} {v0 : Int32} {h : Hp} : C (d + 1) MX5_find [.ref a, .int v0] h = E (C d) MX5_find 0 [some (.ref a), some (.int v0), none] [] h := C_in (by decide) (by decide) rfl
theorem eX6_init {d : Nat} {a : Nat} {v0 : Nat} {h : Hp} : C (d + 1) MX6_init [.ref a, .ref v0] h = E (C d) MX6_init 0 [some (.ref a), some (.ref v0)] [] h := C_in (by decide) (by decide) rfl
theorem eX6_forget {d : Nat} {a : Nat} {h : Hp} : C (d + 1) MX6_forget [.ref a] h = E (C d) MX6_forget 0 [some (.ref a)] [] h := C_in (by decide) (by decide) rfl
theorem eX6_find {d : Nat} {a : Nat} {v0 : Nat} {v1 : Int32} {v2 : Int32} {v3 : Int32} {h : Hp} : C (d + 1) MX6_find [.ref a, .ref v0, .int v1, .int v2, .int v3] h = E (C d) MX6_find 0 [some (.ref a), some (.ref v0), some (.int v1), some (.int v2), some (.int v3), none, none, none] [] h := C_in (by decide) (by decide) rfl
theorem eX6_tryLine {d : Nat} {a : Nat} {v0 : Nat} {h : Hp} : C (d + 1) MX6_tryLine [.ref a, .ref v0] h = E (C d) MX6_tryLine 0 [some (.ref a), some (.ref v0), none, none, none] [] h := C_in (by decide) (by decide) rfl
theorem eX6_nextLine {d : Nat} {a : Nat} {v0 : Int32} {h : Hp} : C (d + 1) MX6_nextLine [.ref a, .int v0] h = E (C d) MX6_nextLine 0 [some (.ref a), some (.int v0), none, none, none, none] [] h := C_in (by decide) (by decide) rfl
theorem eX6_swap {d : Nat} {a : Nat} {v0 : Int32} {v1 : Int32} {h : Hp} : C (d + 1) MX6_swap [.ref a, .int v0, .int v1] h = E (C d) MX6_swap 0 [some (.ref a), some (.int v0), some (.int v1), none] [] h := C_in (by decide) (by decide) rfl
theorem eX7_init {d : Nat} {a : Nat} {v0 : Nat} {v1 : Nat} {h : Hp} : C (d + 1) MX7_init [.ref a, .ref v0, .ref v1] h = E (C d) MX7_init 0 [some (.ref a), some (.ref v0), some (.ref v1)] [] h := C_in (by decide) (by decide) rfl
theorem eX7_reads {d : Nat} {a : Nat} {v0 : Nat} {v1 : Int32} {h : Hp} : C (d + 1) MX7_reads [.ref a, .ref v0, .int v1] h = E (C d) MX7_reads 0 [some (.ref a), some (.ref v0), some (.int v1), none, none] [] h := C_in (by decide) (by decide) rfl
theorem eX7_refuse {d : Nat} {a : Nat} {v0 : Int32} {h : Hp} : C (d + 1) MX7_refuse [.ref a, .int v0] h = E (C d) MX7_refuse 0 [some (.ref a), some (.int v0)] [] h := C_in (by decide) (by decide) rfl
theorem eX7_beamLine {d : Nat} {a : Nat} {h : Hp} : C (d + 1) MX7_beamLine [.ref a] h = E (C d) MX7_beamLine 0 [some (.ref a), none] [] h := C_in (by decide) (by decide) rfl
theorem eX7_clockLine {d : Nat} {a : Nat} {h : Hp} : C (d + 1) MX7_clockLine [.ref a] h = E (C d) MX7_clockLine 0 [some (.ref a), none, none] [] h := C_in (by decide) (by decide) rfl
theorem eX7_extras {d : Nat} {a : Nat} {v0 : Int32} {h : Hp} : C (d + 1) MX7_extras [.ref a, .int v0] h = E (C d) MX7_extras 0 [some (.ref a), some (.int v0), none, none, none, none] [] h := C_in (by decide) (by decide) rfl
theorem eX7_extraRow {d : Nat} {a : Nat} {v0 : Int32} {h : Hp} : C (d + 1) MX7_extraRow [.ref a, .int v0] h = E (C d) MX7_extraRow 0 [some (.ref a), some (.int v0)] [] h := C_in (by decide) (by decide) rfl
theorem eX7_wallLine {d : Nat} {a : Nat} {h : Hp} : C (d + 1) MX7_wallLine [.ref a] h = E (C d) MX7_wallLine 0 [some (.ref a)] [] h := C_in (by decide) (by decide) rfl
theorem eX7_lawLine {d : Nat} {a : Nat} {h : Hp} : C (d + 1) MX7_lawLine [.ref a] h = E (C d) MX7_lawLine 0 [some (.ref a), none] [] h := C_in (by decide) (by decide) rfl
theorem eX7_mayLine {d : Nat} {a : Nat} {h : Hp} : C (d + 1) MX7_mayLine [.ref a] h = E (C d) MX7_mayLine 0 [some (.ref a), none, none] [] h := C_in (by decide) (by decide) rfl
theorem eX7_hanging {d : Nat} {a : Nat} {v0 : Int32} {h : Hp} : C (d + 1) MX7_hanging [.ref a, .int v0] h = E (C d) MX7_hanging 0 [some (.ref a), some (.int v0), none, none, none] [] h := C_in (by decide) (by decide) rfl
theorem eX7_newName {d : Nat} {a : Nat} {v0 : Nat} {h : Hp} : C (d + 1) MX7_newName [.ref a, .ref v0] h = E (C d) MX7_newName 0 [some (.ref a), some (.ref v0)] [] h := C_in (by decide) (by decide) rfl
theorem eX7_toldName {d : Nat} {a : Nat} {v0 : Nat} {h : Hp} : C (d + 1) MX7_toldName [.ref a, .ref v0] h = E (C d) MX7_toldName 0 [some (.ref a), some (.ref v0)] [] h := C_in (by decide) (by decide) rfl
theorem eX7_number {d : Nat} {a : Nat} {v0 : Int32} {v1 : Int32} {h : Hp} : C (d + 1) MX7_number [.ref a, .int v0, .int v1] h = E (C d) MX7_number 0 [some (.ref a), some (.int v0), some (.int v1)] [] h := C_in (by decide) (by decide) rfl
theorem eX7_freePlace {d : Nat} {a : Nat} {v0 : Nat} {v1 : Nat} {v2 : Int32} {v3 : Int32} {h : Hp} : C (d + 1) MX7_freePlace [.ref a, .ref v0, .ref v1, .int v2, .int v3] h = E (C d) MX7_freePlace 0 [some (.ref a), some (.ref v0), some (.ref v1), some (.int v2), some (.int v3)] [] h := C_in (by decide) (by decide) rfl
theorem eX7_expression {d : Nat} {a : Nat} {v0 : Nat} {h : Hp} : C (d + 1) MX7_expression [.ref a, .ref v0] h = E (C d) MX7_expression 0 [some (.ref a), some (.ref v0), none, none] [] h := C_in (by decide) (by decide) rfl
theorem eX7_isValue {d : Nat} {a : Nat} {h : Hp} : C (d + 1) MX7_isValue [.ref a] h = E (C d) MX7_isValue 0 [some (.ref a)] [] h := C_in (by decide) (by decide) rfl
theorem eX7_value {d : Nat} {a : Nat} {v0 : Nat} {h : Hp} : C (d + 1) MX7_value [.ref a, .ref v0] h = E (C d) MX7_value 0 [some (.ref a), some (.ref v0)] [] h := C_in (by decide) (by decide) rfl
theorem eX7_opening {d : Nat} {a : Nat} {h : Hp} : C (d + 1) MX7_opening [.ref a] h = E (C d) MX7_opening 0 [some (.ref a)] [] h := C_in (by decide) (by decide) rfl
theorem eX7_joining {d : Nat} {a : Nat} {v0 : Nat} {h : Hp} : C (d + 1) MX7_joining [.ref a, .ref v0] h = E (C d) MX7_joining 0 [some (.ref a), some (.ref v0), none, none] [] h := C_in (by decide) (by decide) rfl
theorem eX7_closing {d : Nat} {a : Nat} {v0 : Nat} {h : Hp} : C (d + 1) MX7_closing [.ref a, .ref v0] h = E (C d) MX7_closing 0 [some (.ref a), some (.ref v0)] [] h := C_in (by decide) (by decide) rfl
theorem eX7_oneKnotMore {d : Nat} {a : Nat} {h : Hp} : C (d + 1) MX7_oneKnotMore [.ref a] h = E (C d) MX7_oneKnotMore 0 [some (.ref a)] [] h := C_in (by decide) (by decide) rfl
theorem eX7_await {d : Nat} {a : Nat} {v0 : Int32} {h : Hp} : C (d + 1) MX7_await [.ref a, .int v0] h = E (C d) MX7_await 0 [some (.ref a), some (.int v0)] [] h := C_in (by decide) (by decide) rfl
theorem eX7_release {d : Nat} {a : Nat} {v0 : Nat} {v1 : Int32} {h : Hp} : C (d + 1) MX7_release [.ref a, .ref v0, .int v1] h = E (C d) MX7_release 0 [some (.ref a), some (.ref v0), some (.int v1)] [] h := C_in (by decide) (by decide) rfl
theorem eX7_rank {d : Nat} {v0 : Int32} {h : Hp} : C (d + 1) MX7_rank [.int v0] h = E (C d) MX7_rank 0 [some (.int v0)] [] h := C_in (by decide) (by decide) rfl
theorem eX8_init {d : Nat} {a : Nat} {h : Hp} : C (d + 1) MX8_init [.ref a] h = E (C d) MX8_init 0 [some (.ref a)] [] h := C_in (by decide) (by decide) rfl
theorem eX8_tell {d : Nat} {a : Nat} {v0 : Nat} {h : Hp} : C (d + 1) MX8_tell [.ref a, .ref v0] h = E (C d) MX8_tell 0 [some (.ref a), some (.ref v0), none, none] [] h := C_in (by decide) (by decide) rfl
theorem eX8_phaseAt {d : Nat} {a : Nat} {v0 : Int32} {v1 : Int32} {h : Hp} : C (d + 1) MX8_phaseAt [.ref a, .int v0, .int v1] h = E (C d) MX8_phaseAt 0 [some (.ref a), some (.int v0), some (.int v1), none] [] h := C_in (by decide) (by decide) rfl
theorem eX8_strokeStep {d : Nat} {a : Nat} {v0 : Int32} {v1 : Int32} {v2 : Int32} {h : Hp} : C (d + 1) MX8_strokeStep [.ref a, .int v0, .int v1, .int v2] h = E (C d) MX8_strokeStep 0 [some (.ref a), some (.int v0), some (.int v1), some (.int v2), none, none] [] h := C_in (by decide) (by decide) rfl
theorem eX8_fallsUpTo {d : Nat} {a : Nat} {v0 : Int32} {h : Hp} : C (d + 1) MX8_fallsUpTo [.ref a, .int v0] h = E (C d) MX8_fallsUpTo 0 [some (.ref a), some (.int v0), none, none] [] h := C_in (by decide) (by decide) rfl
theorem eX8_fallStep {d : Nat} {a : Nat} {v0 : Int32} {v1 : Int32} {h : Hp} : C (d + 1) MX8_fallStep [.ref a, .int v0, .int v1] h = E (C d) MX8_fallStep 0 [some (.ref a), some (.int v0), some (.int v1), none, none] [] h := C_in (by decide) (by decide) rfl
theorem eX8_isFall {d : Nat} {a : Nat} {v0 : Int32} {h : Hp} : C (d + 1) MX8_isFall [.ref a, .int v0] h = E (C d) MX8_isFall 0 [some (.ref a), some (.int v0)] [] h := C_in (by decide) (by decide) rfl
theorem eX9_init {d : Nat} {a : Nat} {h : Hp} : C (d + 1) MX9_init [.ref a] h = E (C d) MX9_init 0 [some (.ref a)] [] h := C_in (by decide) (by decide) rfl
theorem eX9_clear {d : Nat} {a : Nat} {h : Hp} : C (d + 1) MX9_clear [.ref a] h = E (C d) MX9_clear 0 [some (.ref a), none] [] h := C_in (by decide) (by decide) rfl
theorem eX9_forgetHangings {d : Nat} {a : Nat} {h : Hp} : C (d + 1) MX9_forgetHangings [.ref a] h = E (C d) MX9_forgetHangings 0 [some (.ref a), none] [] h := C_in (by decide) (by decide) rfl
theorem eX9_hangings {d : Nat} {a : Nat} {v0 : Int32} {v1 : Nat} {v2 : Nat} {h : Hp} : C (d + 1) MX9_hangings [.ref a, .int v0, .ref v1, .ref v2] h = E (C d) MX9_hangings 0 [some (.ref a), some (.int v0), some (.ref v1), some (.ref v2), none, none, none] [] h := C_in (by decide) (by decide) rfl
theorem eX10_begin {d : Nat} {a : Nat} {v0 : Int32} {h : Hp} : C (d + 1) MX10_begin [.ref a, .int v0] h = E (C d) MX10_begin 0 [some (.ref a), some (.int v0)] [] h := C_in (by decide) (by decide) rfl
theorem eX10_next {d : Nat} {a : Nat} {h : Hp} : C (d + 1) MX10_next [.ref a] h = E (C d) MX10_next 0 [some (.ref a)] [] h := C_in (by decide) (by decide) rfl
theorem eX10_readNumber {d : Nat} {a : Nat} {h : Hp} : C (d + 1) MX10_readNumber [.ref a] h = E (C d) MX10_readNumber 0 [some (.ref a)] [] h := C_in (by decide) (by decide) rfl
theorem eX10_readWord {d : Nat} {a : Nat} {h : Hp} : C (d + 1) MX10_readWord [.ref a] h = E (C d) MX10_readWord 0 [some (.ref a), none, none] [] h := C_in (by decide) (by decide) rfl
theorem eX10_readSign {d : Nat} {a : Nat} {h : Hp} : C (d + 1) MX10_readSign [.ref a] h = E (C d) MX10_readSign 0 [some (.ref a), none] [] h := C_in (by decide) (by decide) rfl
theorem eX10_follows {d : Nat} {a : Nat} {v0 : Int32} {h : Hp} : C (d + 1) MX10_follows [.ref a, .int v0] h = E (C d) MX10_follows 0 [some (.ref a), some (.int v0)] [] h := C_in (by decide) (by decide) rfl
theorem eX11_init {d : Nat} {a : Nat} {h : Hp} : C (d + 1) MX11_init [.ref a] h = E (C d) MX11_init 0 [some (.ref a)] [] h := C_in (by decide) (by decide) rfl
theorem eX11_feed {d : Nat} {a : Nat} {v0 : Int32} {v1 : Int32} {v2 : Int32} {v3 : Int32} {v4 : Int32} {h : Hp} : C (d + 1) MX11_feed [.ref a, .int v0, .int v1, .int v2, .int v3, .int v4] h = E (C d) MX11_feed 0 [some (.ref a), some (.int v0), some (.int v1), some (.int v2), some (.int v3), some (.int v4)] [] h := C_in (by decide) (by decide) rfl
theorem eX11_text {d : Nat} {a : Nat} {v0 : Int32} {h : Hp} : C (d + 1) MX11_text [.ref a, .int v0] h = E (C d) MX11_text 0 [some (.ref a), some (.int v0), none] [] h := C_in (by decide) (by decide) rfl
theorem eX11_fault {d : Nat} {a : Nat} {v0 : Int32} {h : Hp} : C (d + 1) MX11_fault [.ref a, .int v0] h = E (C d) MX11_fault 0 [some (.ref a), some (.int v0)] [] h := C_in (by decide) (by decide) rfl
theorem eX11_named {d : Nat} {a : Nat} {v0 : Int32} {v1 : Int32} {h : Hp} : C (d + 1) MX11_named [.ref a, .int v0, .int v1] h = E (C d) MX11_named 0 [some (.ref a), some (.int v0), some (.int v1)] [] h := C_in (by decide) (by decide) rfl
theorem eX11_reach {d : Nat} {a : Nat} {v0 : Int32} {v1 : Int32} {h : Hp} : C (d + 1) MX11_reach [.ref a, .int v0, .int v1] h = E (C d) MX11_reach 0 [some (.ref a), some (.int v0), some (.int v1)] [] h := C_in (by decide) (by decide) rfl
theorem eX11_pull {d : Nat} {a : Nat} {v0 : Int32} {h : Hp} : C (d + 1) MX11_pull [.ref a, .int v0] h = E (C d) MX11_pull 0 [some (.ref a), some (.int v0)] [] h := C_in (by decide) (by decide) rfl
theorem eX11_steps {d : Nat} {a : Nat} {v0 : Int32} {h : Hp} : C (d + 1) MX11_steps [.ref a, .int v0] h = E (C d) MX11_steps 0 [some (.ref a), some (.int v0), none] [] h := C_in (by decide) (by decide) rfl
theorem eX11_was {d : Nat} {a : Nat} {v0 : Int32} {v1 : Int32} {h : Hp} : C (d + 1) MX11_was [.ref a, .int v0, .int v1] h = E (C d) MX11_was 0 [some (.ref a), some (.int v0), some (.int v1)] [] h := C_in (by decide) (by decide) rfl
theorem eX11_stroke {d : Nat} {a : Nat} {v0 : Int32} {v1 : Int32} {h : Hp} : C (d + 1) MX11_stroke [.ref a, .int v0, .int v1] h = E (C d) MX11_stroke 0 [some (.ref a), some (.int v0), some (.int v1)] [] h := C_in (by decide) (by decide) rfl
theorem eX11_apart {d : Nat} {a : Nat} {v0 : Int32} {v1 : Int32} {h : Hp} : C (d + 1) MX11_apart [.ref a, .int v0, .int v1] h = E (C d) MX11_apart 0 [some (.ref a), some (.int v0), some (.int v1)] [] h := C_in (by decide) (by decide) rfl
theorem eX11_since {d : Nat} {a : Nat} {v0 : Int32} {v1 : Int32} {v2 : Int32} {v3 : Int32} {h : Hp} : C (d + 1) MX11_since [.ref a, .int v0, .int v1, .int v2, .int v3] h = E (C d) MX11_since 0 [some (.ref a), some (.int v0), some (.int v1), some (.int v2), some (.int v3), none, none, none] [] h := C_in (by decide) (by decide) rfl
theorem eX11_groups {d : Nat} {a : Nat} {v0 : Int32} {h : Hp} : C (d + 1) MX11_groups [.ref a, .int v0] h = E (C d) MX11_groups 0 [some (.ref a), some (.int v0), none, none, none] [] h := C_in (by decide) (by decide) rfl
theorem eX11_group {d : Nat} {a : Nat} {v0 : Int32} {v1 : Int32} {h : Hp} : C (d + 1) MX11_group [.ref a, .int v0, .int v1] h = E (C d) MX11_group 0 [some (.ref a), some (.int v0), some (.int v1)] [] h := C_in (by decide) (by decide) rfl
theorem eX11_falls {d : Nat} {a : Nat} {h : Hp} : C (d + 1) MX11_falls [.ref a] h = E (C d) MX11_falls 0 [some (.ref a)] [] h := C_in (by decide) (by decide) rfl
theorem eX11_fall {d : Nat} {a : Nat} {v0 : Int32} {h : Hp} : C (d + 1) MX11_fall [.ref a, .int v0] h = E (C d) MX11_fall 0 [some (.ref a), some (.int v0)] [] h := C_in (by decide) (by decide) rfl
theorem eX11_hang {d : Nat} {a : Nat} {v0 : Int32} {v1 : Int32} {v2 : Int32} {h : Hp} : C (d + 1) MX11_hang [.ref a, .int v0, .int v1, .int v2] h = E (C d) MX11_hang 0 [some (.ref a), some (.int v0), some (.int v1), some (.int v2)] [] h := C_in (by decide) (by decide) rfl
theorem eX11_stop {d : Nat} {a : Nat} {v0 : Int32} {h : Hp} : C (d + 1) MX11_stop [.ref a, .int v0] h = E (C d) MX11_stop 0 [some (.ref a), some (.int v0)] [] h := C_in (by decide) (by decide) rfl
theorem eX11_undo {d : Nat} {a : Nat} {h : Hp} : C (d + 1) MX11_undo [.ref a] h = E (C d) MX11_undo 0 [some (.ref a)] [] h := C_in (by decide) (by decide) rfl
theorem eX11_run {d : Nat} {a : Nat} {v0 : Int32} {v1 : Int32} {v2 : Int32} {h : Hp} : C (d + 1) MX11_run [.ref a, .int v0, .int v1, .int v2] h = E (C d) MX11_run 0 [some (.ref a), some (.int v0), some (.int v1), some (.int v2)] [] h := C_in (by decide) (by decide) rfl
theorem eX11_own {d : Nat} {a : Nat} {v0 : Int32} {v1 : Int32} {h : Hp} : C (d + 1) MX11_own [.ref a, .int v0, .int v1] h = E (C d) MX11_own 0 [some (.ref a), some (.int v0), some (.int v1)] [] h := C_in (by decide) (by decide) rfl
theorem eX11_least {d : Nat} {a : Nat} {v0 : Int32} {v1 : Int32} {v2 : Int32} {v3 : Int32} {h : Hp} : C (d + 1) MX11_least [.ref a, .int v0, .int v1, .int v2, .int v3] h = E (C d) MX11_least 0 [some (.ref a), some (.int v0), some (.int v1), some (.int v2), some (.int v3)] [] h := C_in (by decide) (by decide) rfl
theorem eX11_mend {d : Nat} {a : Nat} {v0 : Int32} {v1 : Int32} {v2 : Int32} {h : Hp} : C (d + 1) MX11_mend [.ref a, .int v0, .int v1, .int v2] h = E (C d) MX11_mend 0 [some (.ref a), some (.int v0), some (.int v1), some (.int v2), none, none, none, none, none, none] [] h := C_in (by decide) (by decide) rfl
theorem eX11_order {d : Nat} {a : Nat} {v0 : Int32} {v1 : Int32} {v2 : Int32} {v3 : Int32} {h : Hp} : C (d + 1) MX11_order [.ref a, .int v0, .int v1, .int v2, .int v3] h = E (C d) MX11_order 0 [some (.ref a), some (.int v0), some (.int v1), some (.int v2), some (.int v3), none] [] h := C_in (by decide) (by decide) rfl
theorem eX11_due {d : Nat} {a : Nat} {v0 : Int32} {v1 : Int32} {h : Hp} : C (d + 1) MX11_due [.ref a, .int v0, .int v1] h = E (C d) MX11_due 0 [some (.ref a), some (.int v0), some (.int v1)] [] h := C_in (by decide) (by decide) rfl
theorem eX11_gain {d : Nat} {a : Nat} {v0 : Int32} {v1 : Int32} {v2 : Int32} {h : Hp} : C (d + 1) MX11_gain [.ref a, .int v0, .int v1, .int v2] h = E (C d) MX11_gain 0 [some (.ref a), some (.int v0), some (.int v1), some (.int v2), none, none] [] h := C_in (by decide) (by decide) rfl
theorem eX11_heard {d : Nat} {a : Nat} {v0 : Int32} {v1 : Int32} {v2 : Int32} {h : Hp} : C (d + 1) MX11_heard [.ref a, .int v0, .int v1, .int v2] h = E (C d) MX11_heard 0 [some (.ref a), some (.int v0), some (.int v1), some (.int v2), none] [] h := C_in (by decide) (by decide) rfl
theorem eX11_strike {d : Nat} {a : Nat} {v0 : Int32} {h : Hp} : C (d + 1) MX11_strike [.ref a, .int v0] h = E (C d) MX11_strike 0 [some (.ref a), some (.int v0)] [] h := C_in (by decide) (by decide) rfl
theorem eX11_known {d : Nat} {a : Nat} {v0 : Int32} {h : Hp} : C (d + 1) MX11_known [.ref a, .int v0] h = E (C d) MX11_known 0 [some (.ref a), some (.int v0)] [] h := C_in (by decide) (by decide) rfl
theorem eX11_fits {d : Nat} {a : Nat} {h : Hp} : C (d + 1) MX11_fits [.ref a] h = E (C d) MX11_fits 0 [some (.ref a), none, none, none, none] [] h := C_in (by decide) (by decide) rfl
theorem eX11_tried {d : Nat} {a : Nat} {v0 : Int32} {v1 : Int32} {v2 : Int32} {v3 : Int32} {h : Hp} : C (d + 1) MX11_tried [.ref a, .int v0, .int v1, .int v2, .int v3] h = E (C d) MX11_tried 0 [some (.ref a), some (.int v0), some (.int v1), some (.int v2), some (.int v3)] [] h := C_in (by decide) (by decide) rfl
theorem eX11_chance {d : Nat} {a : Nat} {v0 : Int32} {v1 : Int32} {v2 : Int32} {h : Hp} : C (d + 1) MX11_chance [.ref a, .int v0, .int v1, .int v2] h = E (C d) MX11_chance 0 [some (.ref a), some (.int v0), some (.int v1), some (.int v2), none, none, none, none, none] [] h := C_in (by decide) (by decide) rfl
theorem eX11_keep {d : Nat} {a : Nat} {h : Hp} : C (d + 1) MX11_keep [.ref a] h = E (C d) MX11_keep 0 [some (.ref a)] [] h := C_in (by decide) (by decide) rfl
theorem eX11_back {d : Nat} {a : Nat} {h : Hp} : C (d + 1) MX11_back [.ref a] h = E (C d) MX11_back 0 [some (.ref a)] [] h := C_in (by decide) (by decide) rfl
theorem eX11_count {d : Nat} {a : Nat} {v0 : Int32} {h : Hp} : C (d + 1) MX11_count [.ref a, .int v0] h = E (C d) MX11_count 0 [some (.ref a), some (.int v0)] [] h := C_in (by decide) (by decide) rfl
theorem eX11_tapeNumber {d : Nat} {a : Nat} {v0 : Int32} {h : Hp} : C (d + 1) MX11_tapeNumber [.ref a, .int v0] h = E (C d) MX11_tapeNumber 0 [some (.ref a), some (.int v0), none] [] h := C_in (by decide) (by decide) rfl
theorem eX11_isClock {d : Nat} {a : Nat} {v0 : Int32} {h : Hp} : C (d + 1) MX11_isClock [.ref a, .int v0] h = E (C d) MX11_isClock 0 [some (.ref a), some (.int v0)] [] h := C_in (by decide) (by decide) rfl
theorem eX11_areTwoClocks {d : Nat} {a : Nat} {v0 : Int32} {v1 : Int32} {h : Hp} : C (d + 1) MX11_areTwoClocks [.ref a, .int v0, .int v1] h = E (C d) MX11_areTwoClocks 0 [some (.ref a), some (.int v0), some (.int v1)] [] h := C_in (by decide) (by decide) rfl
theorem eX11_isApart {d : Nat} {v0 : Int32} {h : Hp} : C (d + 1) MX11_isApart [.int v0] h = E (C d) MX11_isApart 0 [some (.int v0)] [] h := C_in (by decide) (by decide) rfl
theorem eX11_isRun {d : Nat} {v0 : Int32} {h : Hp} : C (d + 1) MX11_isRun [.int v0] h = E (C d) MX11_isRun 0 [some (.int v0)] [] h := C_in (by decide) (by decide) rfl
theorem eX11_forgetFound {d : Nat} {a : Nat} {h : Hp} : C (d + 1) MX11_forgetFound [.ref a] h = E (C d) MX11_forgetFound 0 [some (.ref a)] [] h := C_in (by decide) (by decide) rfl
theorem eX11_beginTrial {d : Nat} {a : Nat} {h : Hp} : C (d + 1) MX11_beginTrial [.ref a] h = E (C d) MX11_beginTrial 0 [some (.ref a)] [] h := C_in (by decide) (by decide) rfl
theorem eX11_countAtSpeed {d : Nat} {a : Nat} {v0 : Int32} {v1 : Int32} {v2 : Int32} {h : Hp} : C (d + 1) MX11_countAtSpeed [.ref a, .int v0, .int v1, .int v2] h = E (C d) MX11_countAtSpeed 0 [some (.ref a), some (.int v0), some (.int v1), some (.int v2)] [] h := C_in (by decide) (by decide) rfl
theorem eX11_dueStep {d : Nat} {a : Nat} {v0 : Int32} {v1 : Int32} {h : Hp} : C (d + 1) MX11_dueStep [.ref a, .int v0, .int v1] h = E (C d) MX11_dueStep 0 [some (.ref a), some (.int v0), some (.int v1), none] [] h := C_in (by decide) (by decide) rfl
theorem eX11_canBeTried {d : Nat} {a : Nat} {v0 : Int32} {v1 : Int32} {h : Hp} : C (d + 1) MX11_canBeTried [.ref a, .int v0, .int v1] h = E (C d) MX11_canBeTried 0 [some (.ref a), some (.int v0), some (.int v1)] [] h := C_in (by decide) (by decide) rfl
theorem eX11_changeTrial {d : Nat} {a : Nat} {v0 : Int32} {v1 : Int32} {h : Hp} : C (d + 1) MX11_changeTrial [.ref a, .int v0, .int v1] h = E (C d) MX11_changeTrial 0 [some (.ref a), some (.int v0), some (.int v1), none] [] h := C_in (by decide) (by decide) rfl
theorem eX11_between {d : Nat} {v0 : Int32} {v1 : Int32} {v2 : Int32} {h : Hp} : C (d + 1) MX11_between [.int v0, .int v1, .int v2] h = E (C d) MX11_between 0 [some (.int v0), some (.int v1), some (.int v2)] [] h := C_in (by decide) (by decide) rfl
theorem eX11_distance {d : Nat} {v0 : Int32} {v1 : Int32} {h : Hp} : C (d + 1) MX11_distance [.int v0, .int v1] h = E (C d) MX11_distance 0 [some (.int v0), some (.int v1)] [] h := C_in (by decide) (by decide) rfl
theorem eX11_apartOf {d : Nat} {v0 : Int32} {v1 : Int32} {h : Hp} : C (d + 1) MX11_apartOf [.int v0, .int v1] h = E (C d) MX11_apartOf 0 [some (.int v0), some (.int v1), none] [] h := C_in (by decide) (by decide) rfl
theorem eX11_isTaken {d : Nat} {v0 : Nat} {v1 : Nat} {v2 : Int32} {v3 : Int32} {v4 : Int32} {h : Hp} : C (d + 1) MX11_isTaken [.ref v0, .ref v1, .int v2, .int v3, .int v4] h = E (C d) MX11_isTaken 0 [some (.ref v0), some (.ref v1), some (.int v2), some (.int v3), some (.int v4), none] [] h := C_in (by decide) (by decide) rfl
theorem eX12_init {d : Nat} {a : Nat} {h : Hp} : C (d + 1) MX12_init [.ref a] h = E (C d) MX12_init 0 [some (.ref a)] [] h := C_in (by decide) (by decide) rfl
theorem eX12_thrown {d : Nat} {a : Nat} {h : Hp} : C (d + 1) MX12_thrown [.ref a] h = E (C d) MX12_thrown 0 [some (.ref a)] [] h := C_in (by decide) (by decide) rfl
theorem eX12_feed {d : Nat} {a : Nat} {v0 : Int32} {v1 : Int32} {v2 : Int32} {v3 : Int32} {v4 : Int32} {h : Hp} : C (d + 1) MX12_feed [.ref a, .int v0, .int v1, .int v2, .int v3, .int v4] h = E (C d) MX12_feed 0 [some (.ref a), some (.int v0), some (.int v1), some (.int v2), some (.int v3), some (.int v4), none, none] [] h := C_in (by decide) (by decide) rfl
theorem eX12_isIn {d : Nat} {v0 : Int32} {v1 : Int32} {v2 : Int32} {h : Hp} : C (d + 1) MX12_isIn [.int v0, .int v1, .int v2] h = E (C d) MX12_isIn 0 [some (.int v0), some (.int v1), some (.int v2)] [] h := C_in (by decide) (by decide) rfl
theorem eX12_isOf {d : Nat} {v0 : Int32} {v1 : Int32} {h : Hp} : C (d + 1) MX12_isOf [.int v0, .int v1] h = E (C d) MX12_isOf 0 [some (.int v0), some (.int v1)] [] h := C_in (by decide) (by decide) rfl
theorem eX12_wrong {d : Nat} {a : Nat} {v0 : Int32} {h : Hp} : C (d + 1) MX12_wrong [.ref a, .int v0] h = E (C d) MX12_wrong 0 [some (.ref a), some (.int v0)] [] h := C_in (by decide) (by decide) rfl
theorem eX12_wordAt {d : Nat} {a : Nat} {v0 : Int32} {v1 : Int32} {h : Hp} : C (d + 1) MX12_wordAt [.ref a, .int v0, .int v1] h = E (C d) MX12_wordAt 0 [some (.ref a), some (.int v0), some (.int v1), none, none, none, none, none] [] h := C_in (by decide) (by decide) rfl
theorem eX12_isSmall {d : Nat} {a : Nat} {v0 : Int32} {h : Hp} : C (d + 1) MX12_isSmall [.ref a, .int v0] h = E (C d) MX12_isSmall 0 [some (.ref a), some (.int v0)] [] h := C_in (by decide) (by decide) rfl
theorem eX12_isDigit {d : Nat} {a : Nat} {v0 : Int32} {h : Hp} : C (d + 1) MX12_isDigit [.ref a, .int v0] h = E (C d) MX12_isDigit 0 [some (.ref a), some (.int v0)] [] h := C_in (by decide) (by decide) rfl
theorem eX12_token {d : Nat} {a : Nat} {h : Hp} : C (d + 1) MX12_token [.ref a] h = E (C d) MX12_token 0 [some (.ref a)] [] h := C_in (by decide) (by decide) rfl
theorem eX12_signToken {d : Nat} {a : Nat} {h : Hp} : C (d + 1) MX12_signToken [.ref a] h = E (C d) MX12_signToken 0 [some (.ref a), none, none, none] [] h := C_in (by decide) (by decide) rfl
theorem eX12_packed {d : Nat} {a : Nat} {v0 : Int32} {v1 : Int32} {h : Hp} : C (d + 1) MX12_packed [.ref a, .int v0, .int v1] h = E (C d) MX12_packed 0 [some (.ref a), some (.int v0), some (.int v1), none, none] [] h := C_in (by decide) (by decide) rfl
theorem eX12_isKey {d : Nat} {a : Nat} {v0 : Int32} {h : Hp} : C (d + 1) MX12_isKey [.ref a, .int v0] h = E (C d) MX12_isKey 0 [some (.ref a), some (.int v0)] [] h := C_in (by decide) (by decide) rfl
theorem eX12_isSign {d : Nat} {a : Nat} {v0 : Int32} {h : Hp} : C (d + 1) MX12_isSign [.ref a, .int v0] h = E (C d) MX12_isSign 0 [some (.ref a), some (.int v0)] [] h := C_in (by decide) (by decide) rfl
theorem eX12_number {d : Nat} {a : Nat} {v0 : Int32} {v1 : Int32} {h : Hp} : C (d + 1) MX12_number [.ref a, .int v0, .int v1] h = E (C d) MX12_number 0 [some (.ref a), some (.int v0), some (.int v1)] [] h := C_in (by decide) (by decide) rfl
theorem eX12_plain {d : Nat} {a : Nat} {h : Hp} : C (d + 1) MX12_plain [.ref a] h = E (C d) MX12_plain 0 [some (.ref a)] [] h := C_in (by decide) (by decide) rfl
theorem eX12_copies {d : Nat} {v0 : Nat} {v1 : Int32} {h : Hp} : C (d + 1) MX12_copies [.ref v0, .int v1] h = E (C d) MX12_copies 0 [some (.ref v0), some (.int v1), none] [] h := C_in (by decide) (by decide) rfl
theorem eX12_keepText {d : Nat} {a : Nat} {h : Hp} : C (d + 1) MX12_keepText [.ref a] h = E (C d) MX12_keepText 0 [some (.ref a), none] [] h := C_in (by decide) (by decide) rfl
theorem eX12_find {d : Nat} {v0 : Nat} {v1 : Int32} {v2 : Int32} {v3 : Int32} {h : Hp} : C (d + 1) MX12_find [.ref v0, .int v1, .int v2, .int v3] h = E (C d) MX12_find 0 [some (.ref v0), some (.int v1), some (.int v2), some (.int v3), none] [] h := C_in (by decide) (by decide) rfl
theorem eX12_newName {d : Nat} {a : Nat} {v0 : Nat} {v1 : Int32} {v2 : Int32} {h : Hp} : C (d + 1) MX12_newName [.ref a, .ref v0, .int v1, .int v2] h = E (C d) MX12_newName 0 [some (.ref a), some (.ref v0), some (.int v1), some (.int v2)] [] h := C_in (by decide) (by decide) rfl
theorem eX12_oldName {d : Nat} {a : Nat} {v0 : Nat} {v1 : Int32} {v2 : Int32} {h : Hp} : C (d + 1) MX12_oldName [.ref a, .ref v0, .int v1, .int v2] h = E (C d) MX12_oldName 0 [some (.ref a), some (.ref v0), some (.int v1), some (.int v2), none] [] h := C_in (by decide) (by decide) rfl
theorem eX12_beamLine {d : Nat} {a : Nat} {h : Hp} : C (d + 1) MX12_beamLine [.ref a] h = E (C d) MX12_beamLine 0 [some (.ref a)] [] h := C_in (by decide) (by decide) rfl
theorem eX12_clockLine {d : Nat} {a : Nat} {h : Hp} : C (d + 1) MX12_clockLine [.ref a] h = E (C d) MX12_clockLine 0 [some (.ref a), none, none, none, none] [] h := C_in (by decide) (by decide) rfl
theorem eX12_lawLine {d : Nat} {a : Nat} {h : Hp} : C (d + 1) MX12_lawLine [.ref a] h = E (C d) MX12_lawLine 0 [some (.ref a), none] [] h := C_in (by decide) (by decide) rfl
theorem eX12_mayLine {d : Nat} {a : Nat} {h : Hp} : C (d + 1) MX12_mayLine [.ref a] h = E (C d) MX12_mayLine 0 [some (.ref a), none, none, none, none, none] [] h := C_in (by decide) (by decide) rfl
theorem eX12_lineRead {d : Nat} {a : Nat} {h : Hp} : C (d + 1) MX12_lineRead [.ref a] h = E (C d) MX12_lineRead 0 [some (.ref a), none] [] h := C_in (by decide) (by decide) rfl
theorem eX12_text {d : Nat} {a : Nat} {v0 : Int32} {h : Hp} : C (d + 1) MX12_text [.ref a, .int v0] h = E (C d) MX12_text 0 [some (.ref a), some (.int v0), none] [] h := C_in (by decide) (by decide) rfl
theorem eX12_fault {d : Nat} {a : Nat} {v0 : Int32} {h : Hp} : C (d + 1) MX12_fault [.ref a, .int v0] h = E (C d) MX12_fault 0 [some (.ref a), some (.int v0)] [] h := C_in (by decide) (by decide) rfl
theorem eX12_named {d : Nat} {a : Nat} {v0 : Int32} {v1 : Int32} {h : Hp} : C (d + 1) MX12_named [.ref a, .int v0, .int v1] h = E (C d) MX12_named 0 [some (.ref a), some (.int v0), some (.int v1)] [] h := C_in (by decide) (by decide) rfl
theorem eX12_rank {d : Nat} {v0 : Int32} {h : Hp} : C (d + 1) MX12_rank [.int v0] h = E (C d) MX12_rank 0 [some (.int v0)] [] h := C_in (by decide) (by decide) rfl
theorem eX12_grown {d : Nat} {a : Nat} {v0 : Int32} {v1 : Int32} {v2 : Int32} {h : Hp} : C (d + 1) MX12_grown [.ref a, .int v0, .int v1, .int v2] h = E (C d) MX12_grown 0 [some (.ref a), some (.int v0), some (.int v1), some (.int v2)] [] h := C_in (by decide) (by decide) rfl
theorem eX12_dropHeld {d : Nat} {a : Nat} {h : Hp} : C (d + 1) MX12_dropHeld [.ref a] h = E (C d) MX12_dropHeld 0 [some (.ref a)] [] h := C_in (by decide) (by decide) rfl
theorem eX12_bind {d : Nat} {a : Nat} {v0 : Int32} {h : Hp} : C (d + 1) MX12_bind [.ref a, .int v0] h = E (C d) MX12_bind 0 [some (.ref a), some (.int v0), none, none, none] [] h := C_in (by decide) (by decide) rfl
theorem eX12_isCounted {d : Nat} {a : Nat} {h : Hp} : C (d + 1) MX12_isCounted [.ref a] h = E (C d) MX12_isCounted 0 [some (.ref a)] [] h := C_in (by decide) (by decide) rfl
theorem eX12_waitsFor {d : Nat} {a : Nat} {v0 : Int32} {h : Hp} : C (d + 1) MX12_waitsFor [.ref a, .int v0] h = E (C d) MX12_waitsFor 0 [some (.ref a), some (.int v0)] [] h := C_in (by decide) (by decide) rfl
theorem eX12_nameMet {d : Nat} {a : Nat} {h : Hp} : C (d + 1) MX12_nameMet [.ref a] h = E (C d) MX12_nameMet 0 [some (.ref a)] [] h := C_in (by decide) (by decide) rfl
theorem eX12_leafRead {d : Nat} {a : Nat} {h : Hp} : C (d + 1) MX12_leafRead [.ref a] h = E (C d) MX12_leafRead 0 [some (.ref a), none] [] h := C_in (by decide) (by decide) rfl
theorem eX12_signs {d : Nat} {a : Nat} {h : Hp} : C (d + 1) MX12_signs [.ref a] h = E (C d) MX12_signs 0 [some (.ref a), none] [] h := C_in (by decide) (by decide) rfl
theorem eX12_sumRead {d : Nat} {a : Nat} {h : Hp} : C (d + 1) MX12_sumRead [.ref a] h = E (C d) MX12_sumRead 0 [some (.ref a)] [] h := C_in (by decide) (by decide) rfl
theorem eX12_bounded {d : Nat} {a : Nat} {v0 : Int64} {h : Hp} : C (d + 1) MX12_bounded [.ref a, .long v0] h = E (C d) MX12_bounded 0 [some (.ref a), some (.long v0), none] [] h := C_in (by decide) (by decide) rfl
theorem eX12_compares {d : Nat} {v0 : Int32} {v1 : Int64} {v2 : Int64} {h : Hp} : C (d + 1) MX12_compares [.int v0, .long v1, .long v2] h = E (C d) MX12_compares 0 [some (.int v0), some (.long v1), none, some (.long v2), none] [] h := C_in (by decide) (by decide) rfl
theorem eX12_times {d : Nat} {a : Nat} {v0 : Int64} {v1 : Int64} {h : Hp} : C (d + 1) MX12_times [.ref a, .long v0, .long v1] h = E (C d) MX12_times 0 [some (.ref a), some (.long v0), none, some (.long v1), none, none] [] h := C_in (by decide) (by decide) rfl
theorem eX12_valueOf {d : Nat} {a : Nat} {v0 : Int32} {h : Hp} : C (d + 1) MX12_valueOf [.ref a, .int v0] h = E (C d) MX12_valueOf 0 [some (.ref a), some (.int v0), none, none, none, none] [] h := C_in (by decide) (by decide) rfl
theorem eX12_plainRun {d : Nat} {a : Nat} {h : Hp} : C (d + 1) MX12_plainRun [.ref a] h = E (C d) MX12_plainRun 0 [some (.ref a), none] [] h := C_in (by decide) (by decide) rfl
theorem eX12_begins {d : Nat} {a : Nat} {v0 : Int32} {h : Hp} : C (d + 1) MX12_begins [.ref a, .int v0] h = E (C d) MX12_begins 0 [some (.ref a), some (.int v0), none] [] h := C_in (by decide) (by decide) rfl
theorem eX12_beginsRun {d : Nat} {a : Nat} {h : Hp} : C (d + 1) MX12_beginsRun [.ref a] h = E (C d) MX12_beginsRun 0 [some (.ref a), none] [] h := C_in (by decide) (by decide) rfl
theorem eX12_sizeOf {d : Nat} {v0 : Int32} {h : Hp} : C (d + 1) MX12_sizeOf [.int v0] h = E (C d) MX12_sizeOf 0 [some (.int v0)] [] h := C_in (by decide) (by decide) rfl
theorem eX12_reachOf {d : Nat} {a : Nat} {v0 : Int32} {v1 : Int32} {h : Hp} : C (d + 1) MX12_reachOf [.ref a, .int v0, .int v1] h = E (C d) MX12_reachOf 0 [some (.ref a), some (.int v0), some (.int v1), none, none] [] h := C_in (by decide) (by decide) rfl
theorem eX12_lean {d : Nat} {v0 : Int32} {v1 : Int32} {h : Hp} : C (d + 1) MX12_lean [.int v0, .int v1] h = E (C d) MX12_lean 0 [some (.int v0), some (.int v1), none] [] h := C_in (by decide) (by decide) rfl
theorem eX12_weightOf {d : Nat} {a : Nat} {v0 : Int32} {h : Hp} : C (d + 1) MX12_weightOf [.ref a, .int v0] h = E (C d) MX12_weightOf 0 [some (.ref a), some (.int v0)] [] h := C_in (by decide) (by decide) rfl
theorem eX12_pullOf {d : Nat} {a : Nat} {v0 : Int32} {v1 : Int32} {h : Hp} : C (d + 1) MX12_pullOf [.ref a, .int v0, .int v1] h = E (C d) MX12_pullOf 0 [some (.ref a), some (.int v0), some (.int v1), none, none] [] h := C_in (by decide) (by decide) rfl
theorem eX12_lawOf {d : Nat} {a : Nat} {v0 : Int32} {v1 : Int32} {v2 : Int32} {v3 : Int32} {v4 : Int32} {v5 : Int32} {h : Hp} : C (d + 1) MX12_lawOf [.ref a, .int v0, .int v1, .int v2, .int v3, .int v4, .int v5] h = E (C d) MX12_lawOf 0 [some (.ref a), some (.int v0), some (.int v1), some (.int v2), some (.int v3), some (.int v4), some (.int v5), none, none] [] h := C_in (by decide) (by decide) rfl
theorem eX12_goes {d : Nat} {a : Nat} {v0 : Int32} {v1 : Int32} {v2 : Int32} {h : Hp} : C (d + 1) MX12_goes [.ref a, .int v0, .int v1, .int v2] h = E (C d) MX12_goes 0 [some (.ref a), some (.int v0), some (.int v1), some (.int v2), none, none, none] [] h := C_in (by decide) (by decide) rfl
theorem eX12_step {d : Nat} {a : Nat} {v0 : Int32} {v1 : Int32} {h : Hp} : C (d + 1) MX12_step [.ref a, .int v0, .int v1] h = E (C d) MX12_step 0 [some (.ref a), some (.int v0), some (.int v1), none] [] h := C_in (by decide) (by decide) rfl
theorem eX12_runs {d : Nat} {a : Nat} {v0 : Int32} {h : Hp} : C (d + 1) MX12_runs [.ref a, .int v0] h = E (C d) MX12_runs 0 [some (.ref a), some (.int v0), none] [] h := C_in (by decide) (by decide) rfl
theorem eX12_fails {d : Nat} {a : Nat} {v0 : Int32} {h : Hp} : C (d + 1) MX12_fails [.ref a, .int v0] h = E (C d) MX12_fails 0 [some (.ref a), some (.int v0)] [] h := C_in (by decide) (by decide) rfl
theorem eX12_isClock {d : Nat} {a : Nat} {v0 : Int32} {h : Hp} : C (d + 1) MX12_isClock [.ref a, .int v0] h = E (C d) MX12_isClock 0 [some (.ref a), some (.int v0)] [] h := C_in (by decide) (by decide) rfl
theorem eX12_areTwo {d : Nat} {a : Nat} {v0 : Int32} {v1 : Int32} {h : Hp} : C (d + 1) MX12_areTwo [.ref a, .int v0, .int v1] h = E (C d) MX12_areTwo 0 [some (.ref a), some (.int v0), some (.int v1)] [] h := C_in (by decide) (by decide) rfl
theorem eX12_look {d : Nat} {a : Nat} {v0 : Int32} {v1 : Int32} {h : Hp} : C (d + 1) MX12_look [.ref a, .int v0, .int v1] h = E (C d) MX12_look 0 [some (.ref a), some (.int v0), some (.int v1)] [] h := C_in (by decide) (by decide) rfl
theorem eX12_reach {d : Nat} {a : Nat} {v0 : Int32} {v1 : Int32} {h : Hp} : C (d + 1) MX12_reach [.ref a, .int v0, .int v1] h = E (C d) MX12_reach 0 [some (.ref a), some (.int v0), some (.int v1)] [] h := C_in (by decide) (by decide) rfl
theorem eX12_pull {d : Nat} {a : Nat} {v0 : Int32} {h : Hp} : C (d + 1) MX12_pull [.ref a, .int v0] h = E (C d) MX12_pull 0 [some (.ref a), some (.int v0)] [] h := C_in (by decide) (by decide) rfl
theorem eX12_steps {d : Nat} {a : Nat} {v0 : Int32} {h : Hp} : C (d + 1) MX12_steps [.ref a, .int v0] h = E (C d) MX12_steps 0 [some (.ref a), some (.int v0), none, none] [] h := C_in (by decide) (by decide) rfl
theorem eX12_was {d : Nat} {a : Nat} {v0 : Int32} {v1 : Int32} {h : Hp} : C (d + 1) MX12_was [.ref a, .int v0, .int v1] h = E (C d) MX12_was 0 [some (.ref a), some (.int v0), some (.int v1)] [] h := C_in (by decide) (by decide) rfl
theorem eX12_stroke {d : Nat} {a : Nat} {v0 : Int32} {v1 : Int32} {h : Hp} : C (d + 1) MX12_stroke [.ref a, .int v0, .int v1] h = E (C d) MX12_stroke 0 [some (.ref a), some (.int v0), some (.int v1), none, none] [] h := C_in (by decide) (by decide) rfl
theorem eX12_apartOf {d : Nat} {v0 : Int32} {v1 : Int32} {h : Hp} : C (d + 1) MX12_apartOf [.int v0, .int v1] h = E (C d) MX12_apartOf 0 [some (.int v0), some (.int v1), none] [] h := C_in (by decide) (by decide) rfl
theorem eX12_apart {d : Nat} {a : Nat} {v0 : Int32} {v1 : Int32} {h : Hp} : C (d + 1) MX12_apart [.ref a, .int v0, .int v1] h = E (C d) MX12_apart 0 [some (.ref a), some (.int v0), some (.int v1)] [] h := C_in (by decide) (by decide) rfl
theorem eX12_isNear {d : Nat} {v0 : Int32} {h : Hp} : C (d + 1) MX12_isNear [.int v0] h = E (C d) MX12_isNear 0 [some (.int v0)] [] h := C_in (by decide) (by decide) rfl
theorem eX12_since {d : Nat} {a : Nat} {v0 : Int32} {v1 : Int32} {v2 : Int32} {v3 : Int32} {h : Hp} : C (d + 1) MX12_since [.ref a, .int v0, .int v1, .int v2, .int v3] h = E (C d) MX12_since 0 [some (.ref a), some (.int v0), some (.int v1), some (.int v2), some (.int v3), none, none, none] [] h := C_in (by decide) (by decide) rfl
theorem eX12_groupOf {d : Nat} {a : Nat} {v0 : Int32} {v1 : Int32} {h : Hp} : C (d + 1) MX12_groupOf [.ref a, .int v0, .int v1] h = E (C d) MX12_groupOf 0 [some (.ref a), some (.int v0), some (.int v1), none, none, none, none, none] [] h := C_in (by decide) (by decide) rfl
theorem eX12_groups {d : Nat} {a : Nat} {v0 : Int32} {h : Hp} : C (d + 1) MX12_groups [.ref a, .int v0] h = E (C d) MX12_groups 0 [some (.ref a), some (.int v0), none, none, none] [] h := C_in (by decide) (by decide) rfl
theorem eX12_group {d : Nat} {a : Nat} {v0 : Int32} {v1 : Int32} {h : Hp} : C (d + 1) MX12_group [.ref a, .int v0, .int v1] h = E (C d) MX12_group 0 [some (.ref a), some (.int v0), some (.int v1)] [] h := C_in (by decide) (by decide) rfl
theorem eX12_isFall {d : Nat} {v0 : Int32} {h : Hp} : C (d + 1) MX12_isFall [.int v0] h = E (C d) MX12_isFall 0 [some (.int v0)] [] h := C_in (by decide) (by decide) rfl
theorem eX12_falls {d : Nat} {a : Nat} {h : Hp} : C (d + 1) MX12_falls [.ref a] h = E (C d) MX12_falls 0 [some (.ref a), none, none] [] h := C_in (by decide) (by decide) rfl
theorem eX12_fall {d : Nat} {a : Nat} {v0 : Int32} {h : Hp} : C (d + 1) MX12_fall [.ref a, .int v0] h = E (C d) MX12_fall 0 [some (.ref a), some (.int v0), none, none] [] h := C_in (by decide) (by decide) rfl
theorem eX12_remember {d : Nat} {a : Nat} {v0 : Int32} {h : Hp} : C (d + 1) MX12_remember [.ref a, .int v0] h = E (C d) MX12_remember 0 [some (.ref a), some (.int v0), none] [] h := C_in (by decide) (by decide) rfl
theorem eX12_hungAt {d : Nat} {a : Nat} {v0 : Int32} {v1 : Int32} {v2 : Int32} {h : Hp} : C (d + 1) MX12_hungAt [.ref a, .int v0, .int v1, .int v2] h = E (C d) MX12_hungAt 0 [some (.ref a), some (.int v0), some (.int v1), some (.int v2), none] [] h := C_in (by decide) (by decide) rfl
theorem eX12_hang {d : Nat} {a : Nat} {v0 : Int32} {v1 : Int32} {v2 : Int32} {h : Hp} : C (d + 1) MX12_hang [.ref a, .int v0, .int v1, .int v2] h = E (C d) MX12_hang 0 [some (.ref a), some (.int v0), some (.int v1), some (.int v2)] [] h := C_in (by decide) (by decide) rfl
theorem eX12_stop {d : Nat} {a : Nat} {v0 : Int32} {h : Hp} : C (d + 1) MX12_stop [.ref a, .int v0] h = E (C d) MX12_stop 0 [some (.ref a), some (.int v0)] [] h := C_in (by decide) (by decide) rfl
theorem eX12_undo {d : Nat} {a : Nat} {h : Hp} : C (d + 1) MX12_undo [.ref a] h = E (C d) MX12_undo 0 [some (.ref a), none] [] h := C_in (by decide) (by decide) rfl
theorem eX12_isRun {d : Nat} {v0 : Int32} {h : Hp} : C (d + 1) MX12_isRun [.int v0] h = E (C d) MX12_isRun 0 [some (.int v0)] [] h := C_in (by decide) (by decide) rfl
theorem eX12_layRun {d : Nat} {a : Nat} {v0 : Int32} {h : Hp} : C (d + 1) MX12_layRun [.ref a, .int v0] h = E (C d) MX12_layRun 0 [some (.ref a), some (.int v0)] [] h := C_in (by decide) (by decide) rfl
theorem eX12_run {d : Nat} {a : Nat} {v0 : Int32} {v1 : Int32} {v2 : Int32} {h : Hp} : C (d + 1) MX12_run [.ref a, .int v0, .int v1, .int v2] h = E (C d) MX12_run 0 [some (.ref a), some (.int v0), some (.int v1), some (.int v2)] [] h := C_in (by decide) (by decide) rfl
theorem eX12_ownOf {d : Nat} {a : Nat} {v0 : Int32} {v1 : Int32} {h : Hp} : C (d + 1) MX12_ownOf [.ref a, .int v0, .int v1] h = E (C d) MX12_ownOf 0 [some (.ref a), some (.int v0), some (.int v1)] [] h := C_in (by decide) (by decide) rfl
theorem eX12_own {d : Nat} {a : Nat} {v0 : Int32} {v1 : Int32} {h : Hp} : C (d + 1) MX12_own [.ref a, .int v0, .int v1] h = E (C d) MX12_own 0 [some (.ref a), some (.int v0), some (.int v1)] [] h := C_in (by decide) (by decide) rfl
theorem eX12_keeps {d : Nat} {a : Nat} {v0 : Int32} {v1 : Int32} {v2 : Int32} {h : Hp} : C (d + 1) MX12_keeps [.ref a, .int v0, .int v1, .int v2] h = E (C d) MX12_keeps 0 [some (.ref a), some (.int v0), some (.int v1), some (.int v2), none] [] h := C_in (by decide) (by decide) rfl
theorem eX12_isMoved {d : Nat} {a : Nat} {v0 : Int32} {v1 : Int32} {h : Hp} : C (d + 1) MX12_isMoved [.ref a, .int v0, .int v1] h = E (C d) MX12_isMoved 0 [some (.ref a), some (.int v0), some (.int v1)] [] h := C_in (by decide) (by decide) rfl
theorem eX12_lays {d : Nat} {a : Nat} {v0 : Int32} {v1 : Int32} {h : Hp} : C (d + 1) MX12_lays [.ref a, .int v0, .int v1] h = E (C d) MX12_lays 0 [some (.ref a), some (.int v0), some (.int v1)] [] h := C_in (by decide) (by decide) rfl
theorem eX12_finds {d : Nat} {a : Nat} {v0 : Int32} {v1 : Int32} {v2 : Int32} {h : Hp} : C (d + 1) MX12_finds [.ref a, .int v0, .int v1, .int v2] h = E (C d) MX12_finds 0 [some (.ref a), some (.int v0), some (.int v1), some (.int v2)] [] h := C_in (by decide) (by decide) rfl
theorem eX12_areFree {d : Nat} {a : Nat} {h : Hp} : C (d + 1) MX12_areFree [.ref a] h = E (C d) MX12_areFree 0 [some (.ref a), none] [] h := C_in (by decide) (by decide) rfl
theorem eX12_oneKeeps {d : Nat} {a : Nat} {v0 : Int32} {v1 : Int32} {v2 : Int32} {h : Hp} : C (d + 1) MX12_oneKeeps [.ref a, .int v0, .int v1, .int v2] h = E (C d) MX12_oneKeeps 0 [some (.ref a), some (.int v0), some (.int v1), some (.int v2), none, none] [] h := C_in (by decide) (by decide) rfl
theorem eX12_twoKeep {d : Nat} {a : Nat} {v0 : Int32} {v1 : Int32} {v2 : Int32} {h : Hp} : C (d + 1) MX12_twoKeep [.ref a, .int v0, .int v1, .int v2] h = E (C d) MX12_twoKeep 0 [some (.ref a), some (.int v0), some (.int v1), some (.int v2), none, none, none] [] h := C_in (by decide) (by decide) rfl
theorem eX12_otherKeeps {d : Nat} {a : Nat} {v0 : Int32} {v1 : Int32} {v2 : Int32} {v3 : Int32} {v4 : Int32} {v5 : Int32} {h : Hp} : C (d + 1) MX12_otherKeeps [.ref a, .int v0, .int v1, .int v2, .int v3, .int v4, .int v5] h = E (C d) MX12_otherKeeps 0 [some (.ref a), some (.int v0), some (.int v1), some (.int v2), some (.int v3), some (.int v4), some (.int v5), none] [] h := C_in (by decide) (by decide) rfl
theorem eX12_least {d : Nat} {a : Nat} {v0 : Int32} {v1 : Int32} {v2 : Int32} {v3 : Int32} {h : Hp} : C (d + 1) MX12_least [.ref a, .int v0, .int v1, .int v2, .int v3] h = E (C d) MX12_least 0 [some (.ref a), some (.int v0), some (.int v1), some (.int v2), some (.int v3), none] [] h := C_in (by decide) (by decide) rfl
theorem eX12_mend {d : Nat} {a : Nat} {v0 : Int32} {v1 : Int32} {v2 : Int32} {h : Hp} : C (d + 1) MX12_mend [.ref a, .int v0, .int v1, .int v2] h = E (C d) MX12_mend 0 [some (.ref a), some (.int v0), some (.int v1), some (.int v2), none, none, none, none, none] [] h := C_in (by decide) (by decide) rfl
theorem eX12_firstOrder {d : Nat} {a : Nat} {h : Hp} : C (d + 1) MX12_firstOrder [.ref a] h = E (C d) MX12_firstOrder 0 [some (.ref a), none] [] h := C_in (by decide) (by decide) rfl
theorem eX12_turn {d : Nat} {a : Nat} {v0 : Int32} {v1 : Int32} {h : Hp} : C (d + 1) MX12_turn [.ref a, .int v0, .int v1] h = E (C d) MX12_turn 0 [some (.ref a), some (.int v0), some (.int v1), none] [] h := C_in (by decide) (by decide) rfl
theorem eX12_nextOrder {d : Nat} {a : Nat} {h : Hp} : C (d + 1) MX12_nextOrder [.ref a] h = E (C d) MX12_nextOrder 0 [some (.ref a), none, none, none, none] [] h := C_in (by decide) (by decide) rfl
theorem eX12_areIn {d : Nat} {a : Nat} {v0 : Int32} {h : Hp} : C (d + 1) MX12_areIn [.ref a, .int v0] h = E (C d) MX12_areIn 0 [some (.ref a), some (.int v0), none, none] [] h := C_in (by decide) (by decide) rfl
theorem eX12_fromStep {d : Nat} {a : Nat} {v0 : Int32} {v1 : Int32} {h : Hp} : C (d + 1) MX12_fromStep [.ref a, .int v0, .int v1] h = E (C d) MX12_fromStep 0 [some (.ref a), some (.int v0), some (.int v1), none, none] [] h := C_in (by decide) (by decide) rfl
theorem eX12_order {d : Nat} {a : Nat} {v0 : Int32} {v1 : Int32} {v2 : Int32} {v3 : Int32} {h : Hp} : C (d + 1) MX12_order [.ref a, .int v0, .int v1, .int v2, .int v3] h = E (C d) MX12_order 0 [some (.ref a), some (.int v0), some (.int v1), some (.int v2), some (.int v3), none, none, none, none] [] h := C_in (by decide) (by decide) rfl
theorem eX12_dueOf {d : Nat} {a : Nat} {v0 : Int32} {v1 : Int32} {h : Hp} : C (d + 1) MX12_dueOf [.ref a, .int v0, .int v1] h = E (C d) MX12_dueOf 0 [some (.ref a), some (.int v0), some (.int v1), none] [] h := C_in (by decide) (by decide) rfl
theorem eX12_due {d : Nat} {a : Nat} {v0 : Int32} {v1 : Int32} {h : Hp} : C (d + 1) MX12_due [.ref a, .int v0, .int v1] h = E (C d) MX12_due 0 [some (.ref a), some (.int v0), some (.int v1)] [] h := C_in (by decide) (by decide) rfl
theorem eX12_gain {d : Nat} {a : Nat} {v0 : Int32} {v1 : Int32} {v2 : Int32} {h : Hp} : C (d + 1) MX12_gain [.ref a, .int v0, .int v1, .int v2] h = E (C d) MX12_gain 0 [some (.ref a), some (.int v0), some (.int v1), some (.int v2), none, none] [] h := C_in (by decide) (by decide) rfl
theorem eX12_noted {d : Nat} {a : Nat} {v0 : Int32} {v1 : Int32} {v2 : Int32} {h : Hp} : C (d + 1) MX12_noted [.ref a, .int v0, .int v1, .int v2] h = E (C d) MX12_noted 0 [some (.ref a), some (.int v0), some (.int v1), some (.int v2)] [] h := C_in (by decide) (by decide) rfl
theorem eX12_heard {d : Nat} {a : Nat} {v0 : Int32} {v1 : Int32} {v2 : Int32} {h : Hp} : C (d + 1) MX12_heard [.ref a, .int v0, .int v1, .int v2] h = E (C d) MX12_heard 0 [some (.ref a), some (.int v0), some (.int v1), some (.int v2)] [] h := C_in (by decide) (by decide) rfl
theorem eX12_strike {d : Nat} {a : Nat} {v0 : Int32} {h : Hp} : C (d + 1) MX12_strike [.ref a, .int v0] h = E (C d) MX12_strike 0 [some (.ref a), some (.int v0)] [] h := C_in (by decide) (by decide) rfl
theorem eX12_known {d : Nat} {a : Nat} {v0 : Int32} {h : Hp} : C (d + 1) MX12_known [.ref a, .int v0] h = E (C d) MX12_known 0 [some (.ref a), some (.int v0)] [] h := C_in (by decide) (by decide) rfl
theorem eX12_knownBy {d : Nat} {a : Nat} {h : Hp} : C (d + 1) MX12_knownBy [.ref a] h = E (C d) MX12_knownBy 0 [some (.ref a)] [] h := C_in (by decide) (by decide) rfl
theorem eX12_layCounts {d : Nat} {a : Nat} {h : Hp} : C (d + 1) MX12_layCounts [.ref a] h = E (C d) MX12_layCounts 0 [some (.ref a), none, none] [] h := C_in (by decide) (by decide) rfl
theorem eX12_isFit {d : Nat} {a : Nat} {v0 : Int32} {v1 : Int32} {h : Hp} : C (d + 1) MX12_isFit [.ref a, .int v0, .int v1] h = E (C d) MX12_isFit 0 [some (.ref a), some (.int v0), some (.int v1), none, none, none] [] h := C_in (by decide) (by decide) rfl
theorem eX12_fits {d : Nat} {a : Nat} {h : Hp} : C (d + 1) MX12_fits [.ref a] h = E (C d) MX12_fits 0 [some (.ref a), none, none, none] [] h := C_in (by decide) (by decide) rfl
theorem eX12_triesIt {d : Nat} {a : Nat} {v0 : Int32} {v1 : Int32} {h : Hp} : C (d + 1) MX12_triesIt [.ref a, .int v0, .int v1] h = E (C d) MX12_triesIt 0 [some (.ref a), some (.int v0), some (.int v1)] [] h := C_in (by decide) (by decide) rfl
theorem eX12_tried {d : Nat} {a : Nat} {v0 : Int32} {v1 : Int32} {v2 : Int32} {v3 : Int32} {h : Hp} : C (d + 1) MX12_tried [.ref a, .int v0, .int v1, .int v2, .int v3] h = E (C d) MX12_tried 0 [some (.ref a), some (.int v0), some (.int v1), some (.int v2), some (.int v3)] [] h := C_in (by decide) (by decide) rfl
theorem eX12_chance {d : Nat} {a : Nat} {v0 : Int32} {v1 : Int32} {v2 : Int32} {h : Hp} : C (d + 1) MX12_chance [.ref a, .int v0, .int v1, .int v2] h = E (C d) MX12_chance 0 [some (.ref a), some (.int v0), some (.int v1), some (.int v2), none, none, none, none, none] [] h := C_in (by decide) (by decide) rfl
theorem eX12_keep {d : Nat} {a : Nat} {h : Hp} : C (d + 1) MX12_keep [.ref a] h = E (C d) MX12_keep 0 [some (.ref a), none] [] h := C_in (by decide) (by decide) rfl
theorem eX12_back {d : Nat} {a : Nat} {h : Hp} : C (d + 1) MX12_back [.ref a] h = E (C d) MX12_back 0 [some (.ref a), none] [] h := C_in (by decide) (by decide) rfl
theorem eX12_manyRun {d : Nat} {a : Nat} {h : Hp} : C (d + 1) MX12_manyRun [.ref a] h = E (C d) MX12_manyRun 0 [some (.ref a), none, none] [] h := C_in (by decide) (by decide) rfl
theorem eX12_allCounts {d : Nat} {a : Nat} {h : Hp} : C (d + 1) MX12_allCounts [.ref a] h = E (C d) MX12_allCounts 0 [some (.ref a), none, none] [] h := C_in (by decide) (by decide) rfl
theorem eX12_count {d : Nat} {a : Nat} {v0 : Int32} {h : Hp} : C (d + 1) MX12_count [.ref a, .int v0] h = E (C d) MX12_count 0 [some (.ref a), some (.int v0)] [] h := C_in (by decide) (by decide) rfl
theorem eJ6_bitCount_0f7a4 {d : Nat} {v0 : Int32} {h : Hp} : C (d + 1) MJ6_bitCount_0f7a4 [.int v0] h = E (C d) MJ6_bitCount_0f7a4 0 [some (.int v0)] [] h := C_in (by decide) (by decide) rfl
