/-! the pure values of the objects, and their cells -/
abbrev CR : Type := Int32 × Int32 × Int64 × Int64 × Int64 × Int64 × Int64 × Int32 × Int32 × Int32 × Int32 × Int64 × Int64 × Int64
def C_me (c : CR) : Int32 := c.1
def C_ra (c : CR) : Int32 := c.2.1
def C_co (c : CR) : Int64 := c.2.2.1
def C_al (c : CR) : Int64 := c.2.2.2.1
def C_re (c : CR) : Int64 := c.2.2.2.2.1
def C_lo (c : CR) : Int64 := c.2.2.2.2.2.1
def C_rs (c : CR) : Int64 := c.2.2.2.2.2.2.1
def C_li (c : CR) : Int32 := c.2.2.2.2.2.2.2.1
def C_he (c : CR) : Int32 := c.2.2.2.2.2.2.2.2.1
def C_go (c : CR) : Int32 := c.2.2.2.2.2.2.2.2.2.1
def C_br (c : CR) : Int32 := c.2.2.2.2.2.2.2.2.2.2.1
def C_cu (c : CR) : Int64 := c.2.2.2.2.2.2.2.2.2.2.2.1
def C_lc (c : CR) : Int64 := c.2.2.2.2.2.2.2.2.2.2.2.2.1
def C_ac (c : CR) : Int64 := c.2.2.2.2.2.2.2.2.2.2.2.2.2
def C_s_me (c : CR) (v : Int32) : CR := (v, c.2)
def C_s_ra (c : CR) (v : Int32) : CR := (c.1, v, c.2.2)
def C_s_co (c : CR) (v : Int64) : CR := (c.1, c.2.1, v, c.2.2.2)
def C_s_al (c : CR) (v : Int64) : CR := (c.1, c.2.1, c.2.2.1, v, c.2.2.2.2)
def C_s_re (c : CR) (v : Int64) : CR := (c.1, c.2.1, c.2.2.1, c.2.2.2.1, v, c.2.2.2.2.2)
def C_s_lo (c : CR) (v : Int64) : CR := (c.1, c.2.1, c.2.2.1, c.2.2.2.1, c.2.2.2.2.1, v, c.2.2.2.2.2.2)
def C_s_rs (c : CR) (v : Int64) : CR := (c.1, c.2.1, c.2.2.1, c.2.2.2.1, c.2.2.2.2.1, c.2.2.2.2.2.1, v, c.2.2.2.2.2.2.2)
def C_s_li (c : CR) (v : Int32) : CR := (c.1, c.2.1, c.2.2.1, c.2.2.2.1, c.2.2.2.2.1, c.2.2.2.2.2.1, c.2.2.2.2.2.2.1, v, c.2.2.2.2.2.2.2.2)
def C_s_he (c : CR) (v : Int32) : CR := (c.1, c.2.1, c.2.2.1, c.2.2.2.1, c.2.2.2.2.1, c.2.2.2.2.2.1, c.2.2.2.2.2.2.1, c.2.2.2.2.2.2.2.1, v, c.2.2.2.2.2.2.2.2.2)
def C_s_go (c : CR) (v : Int32) : CR := (c.1, c.2.1, c.2.2.1, c.2.2.2.1, c.2.2.2.2.1, c.2.2.2.2.2.1, c.2.2.2.2.2.2.1, c.2.2.2.2.2.2.2.1, c.2.2.2.2.2.2.2.2.1, v, c.2.2.2.2.2.2.2.2.2.2)
def C_s_br (c : CR) (v : Int32) : CR := (c.1, c.2.1, c.2.2.1, c.2.2.2.1, c.2.2.2.2.1, c.2.2.2.2.2.1, c.2.2.2.2.2.2.1, c.2.2.2.2.2.2.2.1, c.2.2.2.2.2.2.2.2.1, c.2.2.2.2.2.2.2.2.2.1, v, c.2.2.2.2.2.2.2.2.2.2.2)
def C_s_cu (c : CR) (v : Int64) : CR := (c.1, c.2.1, c.2.2.1, c.2.2.2.1, c.2.2.2.2.1, c.2.2.2.2.2.1, c.2.2.2.2.2.2.1, c.2.2.2.2.2.2.2.1, c.2.2.2.2.2.2.2.2.1, c.2.2.2.2.2.2.2.2.2.1, c.2.2.2.2.2.2.2.2.2.2.1, v, c.2.2.2.2.2.2.2.2.2.2.2.2)
def C_s_lc (c : CR) (v : Int64) : CR := (c.1, c.2.1, c.2.2.1, c.2.2.2.1, c.2.2.2.2.1, c.2.2.2.2.2.1, c.2.2.2.2.2.2.1, c.2.2.2.2.2.2.2.1, c.2.2.2.2.2.2.2.2.1, c.2.2.2.2.2.2.2.2.2.1, c.2.2.2.2.2.2.2.2.2.2.1, c.2.2.2.2.2.2.2.2.2.2.2.1, v, c.2.2.2.2.2.2.2.2.2.2.2.2.2)
def C_s_ac (c : CR) (v : Int64) : CR := (c.1, c.2.1, c.2.2.1, c.2.2.2.1, c.2.2.2.2.1, c.2.2.2.2.2.1, c.2.2.2.2.2.2.1, c.2.2.2.2.2.2.2.1, c.2.2.2.2.2.2.2.2.1, c.2.2.2.2.2.2.2.2.2.1, c.2.2.2.2.2.2.2.2.2.2.1, c.2.2.2.2.2.2.2.2.2.2.2.1, c.2.2.2.2.2.2.2.2.2.2.2.2.1, v)
abbrev cC (b : Nat) (c : CR) : va_E := .inr (0, [.ref b, .int (C_me c), .int (C_ra c), .long (C_co c), .long (C_al c), .long (C_re c), .long (C_lo c), .long (C_rs c), .int (C_li c), .int (C_he c), .int (C_go c), .int (C_br c), .long (C_cu c), .long (C_lc c), .long (C_ac c)])
abbrev SR : Type := Int64 × Int64 × Int64 × Int64 × Int64 × Int64
def S_ba (c : SR) : Int64 := c.1
def S_le (c : SR) : Int64 := c.2.1
def S_ul (c : SR) : Int64 := c.2.2.1
def S_mo (c : SR) : Int64 := c.2.2.2.1
def S_un (c : SR) : Int64 := c.2.2.2.2.1
def S_ch (c : SR) : Int64 := c.2.2.2.2.2
def S_s_ba (c : SR) (v : Int64) : SR := (v, c.2)
def S_s_le (c : SR) (v : Int64) : SR := (c.1, v, c.2.2)
def S_s_ul (c : SR) (v : Int64) : SR := (c.1, c.2.1, v, c.2.2.2)
def S_s_mo (c : SR) (v : Int64) : SR := (c.1, c.2.1, c.2.2.1, v, c.2.2.2.2)
def S_s_un (c : SR) (v : Int64) : SR := (c.1, c.2.1, c.2.2.1, c.2.2.2.1, v, c.2.2.2.2.2)
def S_s_ch (c : SR) (v : Int64) : SR := (c.1, c.2.1, c.2.2.1, c.2.2.2.1, c.2.2.2.2.1, v)
abbrev cS (c : SR) : va_E := .inr (3, [.long (S_ba c), .long (S_le c), .long (S_ul c), .long (S_mo c), .long (S_un c), .long (S_ch c)])
abbrev ER : Type := Int32 × Int32 × Int32 × Int64 × Int32
def E_pn (c : ER) : Int32 := c.1
def E_mo (c : ER) : Int32 := c.2.1
def E_ki (c : ER) : Int32 := c.2.2.1
def E_am (c : ER) : Int64 := c.2.2.2.1
def E_nu (c : ER) : Int32 := c.2.2.2.2
def E_s_pn (c : ER) (v : Int32) : ER := (v, c.2)
def E_s_mo (c : ER) (v : Int32) : ER := (c.1, v, c.2.2)
def E_s_ki (c : ER) (v : Int32) : ER := (c.1, c.2.1, v, c.2.2.2)
def E_s_am (c : ER) (v : Int64) : ER := (c.1, c.2.1, c.2.2.1, v, c.2.2.2.2)
def E_s_nu (c : ER) (v : Int32) : ER := (c.1, c.2.1, c.2.2.1, c.2.2.2.1, v)
abbrev cE (c : ER) : va_E := .inr (1, [.int (E_pn c), .int (E_mo c), .int (E_ki c), .long (E_am c), .int (E_nu c)])
abbrev PR : Type := Int64 × Int64 × Int32 × Int32 × Int32 × Int32 × Int32 × Int64
def P_co (c : PR) : Int64 := c.1
def P_rs (c : PR) : Int64 := c.2.1
def P_fi (c : PR) : Int32 := c.2.2.1
def P_li (c : PR) : Int32 := c.2.2.2.1
def P_me (c : PR) : Int32 := c.2.2.2.2.1
def P_ra (c : PR) : Int32 := c.2.2.2.2.2.1
def P_ec (c : PR) : Int32 := c.2.2.2.2.2.2.1
def P_pa (c : PR) : Int64 := c.2.2.2.2.2.2.2
def P_s_co (c : PR) (v : Int64) : PR := (v, c.2)
def P_s_rs (c : PR) (v : Int64) : PR := (c.1, v, c.2.2)
def P_s_fi (c : PR) (v : Int32) : PR := (c.1, c.2.1, v, c.2.2.2)
def P_s_li (c : PR) (v : Int32) : PR := (c.1, c.2.1, c.2.2.1, v, c.2.2.2.2)
def P_s_me (c : PR) (v : Int32) : PR := (c.1, c.2.1, c.2.2.1, c.2.2.2.1, v, c.2.2.2.2.2)
def P_s_ra (c : PR) (v : Int32) : PR := (c.1, c.2.1, c.2.2.1, c.2.2.2.1, c.2.2.2.2.1, v, c.2.2.2.2.2.2)
def P_s_ec (c : PR) (v : Int32) : PR := (c.1, c.2.1, c.2.2.1, c.2.2.2.1, c.2.2.2.2.1, c.2.2.2.2.2.1, v, c.2.2.2.2.2.2.2)
def P_s_pa (c : PR) (v : Int64) : PR := (c.1, c.2.1, c.2.2.1, c.2.2.2.1, c.2.2.2.2.1, c.2.2.2.2.2.1, c.2.2.2.2.2.2.1, v)
abbrev cP (u w q : Nat) (c : PR) : va_E := .inr (2, [.long (P_co c), .long (P_rs c), .int (P_fi c), .int (P_li c), .int (P_me c), .int (P_ra c), .ref u, .ref w, .ref q, .int (P_ec c), .long (P_pa c)])
abbrev AR : Type := Int32 × Int32 × Int32
def A_pc (c : AR) : Int32 := c.1
def A_ec (c : AR) : Int32 := c.2.1
def A_mc (c : AR) : Int32 := c.2.2
def A_s_pc (c : AR) (v : Int32) : AR := (v, c.2)
def A_s_ec (c : AR) (v : Int32) : AR := (c.1, v, c.2.2)
def A_s_mc (c : AR) (v : Int32) : AR := (c.1, c.2.1, v)
abbrev cA (rf : Nat → Nat) (c : AR) : va_E := .inr (4, [.ref (rf 0), .ref (rf 1), .ref (rf 2), .ref (rf 3), .int (A_pc c), .int (A_ec c), .int (A_mc c)])
abbrev MR : Type := Int32 × Int32 × Int32 × Int32 × Int64 × Int64 × Int64 × Int64 × Int64 × Int32 × Int32 × Int32 × Int32 × Int64 × Int32 × Int32 × Int32 × Int32 × Int64 × Int64 × Int64 × Int32
def M_cd (c : MR) : Int32 := c.1
def M_pt (c : MR) : Int32 := c.2.1
def M_mn (c : MR) : Int32 := c.2.2.1
def M_ev (c : MR) : Int32 := c.2.2.2.1
def M_co (c : MR) : Int64 := c.2.2.2.2.1
def M_al (c : MR) : Int64 := c.2.2.2.2.2.1
def M_re (c : MR) : Int64 := c.2.2.2.2.2.2.1
def M_lo (c : MR) : Int64 := c.2.2.2.2.2.2.2.1
def M_rs (c : MR) : Int64 := c.2.2.2.2.2.2.2.2.1
def M_li (c : MR) : Int32 := c.2.2.2.2.2.2.2.2.2.1
def M_he (c : MR) : Int32 := c.2.2.2.2.2.2.2.2.2.2.1
def M_go (c : MR) : Int32 := c.2.2.2.2.2.2.2.2.2.2.2.1
def M_sp (c : MR) : Int32 := c.2.2.2.2.2.2.2.2.2.2.2.2.1
def M_ba (c : MR) : Int64 := c.2.2.2.2.2.2.2.2.2.2.2.2.2.1
def M_le (c : MR) : Int32 := c.2.2.2.2.2.2.2.2.2.2.2.2.2.2.1
def M_lf (c : MR) : Int32 := c.2.2.2.2.2.2.2.2.2.2.2.2.2.2.2.1
def M_mo (c : MR) : Int32 := c.2.2.2.2.2.2.2.2.2.2.2.2.2.2.2.2.1
def M_un (c : MR) : Int32 := c.2.2.2.2.2.2.2.2.2.2.2.2.2.2.2.2.2.1
def M_ch (c : MR) : Int64 := c.2.2.2.2.2.2.2.2.2.2.2.2.2.2.2.2.2.2.1
def M_lc (c : MR) : Int64 := c.2.2.2.2.2.2.2.2.2.2.2.2.2.2.2.2.2.2.2.1
def M_ac (c : MR) : Int64 := c.2.2.2.2.2.2.2.2.2.2.2.2.2.2.2.2.2.2.2.2.1
def M_bd (c : MR) : Int32 := c.2.2.2.2.2.2.2.2.2.2.2.2.2.2.2.2.2.2.2.2.2
def M_s_cd (c : MR) (v : Int32) : MR := (v, c.2)
def M_s_pt (c : MR) (v : Int32) : MR := (c.1, v, c.2.2)
def M_s_mn (c : MR) (v : Int32) : MR := (c.1, c.2.1, v, c.2.2.2)
def M_s_ev (c : MR) (v : Int32) : MR := (c.1, c.2.1, c.2.2.1, v, c.2.2.2.2)
def M_s_co (c : MR) (v : Int64) : MR := (c.1, c.2.1, c.2.2.1, c.2.2.2.1, v, c.2.2.2.2.2)
def M_s_al (c : MR) (v : Int64) : MR := (c.1, c.2.1, c.2.2.1, c.2.2.2.1, c.2.2.2.2.1, v, c.2.2.2.2.2.2)
def M_s_re (c : MR) (v : Int64) : MR := (c.1, c.2.1, c.2.2.1, c.2.2.2.1, c.2.2.2.2.1, c.2.2.2.2.2.1, v, c.2.2.2.2.2.2.2)
def M_s_lo (c : MR) (v : Int64) : MR := (c.1, c.2.1, c.2.2.1, c.2.2.2.1, c.2.2.2.2.1, c.2.2.2.2.2.1, c.2.2.2.2.2.2.1, v, c.2.2.2.2.2.2.2.2)
def M_s_rs (c : MR) (v : Int64) : MR := (c.1, c.2.1, c.2.2.1, c.2.2.2.1, c.2.2.2.2.1, c.2.2.2.2.2.1, c.2.2.2.2.2.2.1, c.2.2.2.2.2.2.2.1, v, c.2.2.2.2.2.2.2.2.2)
def M_s_li (c : MR) (v : Int32) : MR := (c.1, c.2.1, c.2.2.1, c.2.2.2.1, c.2.2.2.2.1, c.2.2.2.2.2.1, c.2.2.2.2.2.2.1, c.2.2.2.2.2.2.2.1, c.2.2.2.2.2.2.2.2.1, v, c.2.2.2.2.2.2.2.2.2.2)
def M_s_he (c : MR) (v : Int32) : MR := (c.1, c.2.1, c.2.2.1, c.2.2.2.1, c.2.2.2.2.1, c.2.2.2.2.2.1, c.2.2.2.2.2.2.1, c.2.2.2.2.2.2.2.1, c.2.2.2.2.2.2.2.2.1, c.2.2.2.2.2.2.2.2.2.1, v, c.2.2.2.2.2.2.2.2.2.2.2)
def M_s_go (c : MR) (v : Int32) : MR := (c.1, c.2.1, c.2.2.1, c.2.2.2.1, c.2.2.2.2.1, c.2.2.2.2.2.1, c.2.2.2.2.2.2.1, c.2.2.2.2.2.2.2.1, c.2.2.2.2.2.2.2.2.1, c.2.2.2.2.2.2.2.2.2.1, c.2.2.2.2.2.2.2.2.2.2.1, v, c.2.2.2.2.2.2.2.2.2.2.2.2)
def M_s_sp (c : MR) (v : Int32) : MR := (c.1, c.2.1, c.2.2.1, c.2.2.2.1, c.2.2.2.2.1, c.2.2.2.2.2.1, c.2.2.2.2.2.2.1, c.2.2.2.2.2.2.2.1, c.2.2.2.2.2.2.2.2.1, c.2.2.2.2.2.2.2.2.2.1, c.2.2.2.2.2.2.2.2.2.2.1, c.2.2.2.2.2.2.2.2.2.2.2.1, v, c.2.2.2.2.2.2.2.2.2.2.2.2.2)
def M_s_ba (c : MR) (v : Int64) : MR := (c.1, c.2.1, c.2.2.1, c.2.2.2.1, c.2.2.2.2.1, c.2.2.2.2.2.1, c.2.2.2.2.2.2.1, c.2.2.2.2.2.2.2.1, c.2.2.2.2.2.2.2.2.1, c.2.2.2.2.2.2.2.2.2.1, c.2.2.2.2.2.2.2.2.2.2.1, c.2.2.2.2.2.2.2.2.2.2.2.1, c.2.2.2.2.2.2.2.2.2.2.2.2.1, v, c.2.2.2.2.2.2.2.2.2.2.2.2.2.2)
def M_s_le (c : MR) (v : Int32) : MR := (c.1, c.2.1, c.2.2.1, c.2.2.2.1, c.2.2.2.2.1, c.2.2.2.2.2.1, c.2.2.2.2.2.2.1, c.2.2.2.2.2.2.2.1, c.2.2.2.2.2.2.2.2.1, c.2.2.2.2.2.2.2.2.2.1, c.2.2.2.2.2.2.2.2.2.2.1, c.2.2.2.2.2.2.2.2.2.2.2.1, c.2.2.2.2.2.2.2.2.2.2.2.2.1, c.2.2.2.2.2.2.2.2.2.2.2.2.2.1, v, c.2.2.2.2.2.2.2.2.2.2.2.2.2.2.2)
def M_s_lf (c : MR) (v : Int32) : MR := (c.1, c.2.1, c.2.2.1, c.2.2.2.1, c.2.2.2.2.1, c.2.2.2.2.2.1, c.2.2.2.2.2.2.1, c.2.2.2.2.2.2.2.1, c.2.2.2.2.2.2.2.2.1, c.2.2.2.2.2.2.2.2.2.1, c.2.2.2.2.2.2.2.2.2.2.1, c.2.2.2.2.2.2.2.2.2.2.2.1, c.2.2.2.2.2.2.2.2.2.2.2.2.1, c.2.2.2.2.2.2.2.2.2.2.2.2.2.1, c.2.2.2.2.2.2.2.2.2.2.2.2.2.2.1, v, c.2.2.2.2.2.2.2.2.2.2.2.2.2.2.2.2)
def M_s_mo (c : MR) (v : Int32) : MR := (c.1, c.2.1, c.2.2.1, c.2.2.2.1, c.2.2.2.2.1, c.2.2.2.2.2.1, c.2.2.2.2.2.2.1, c.2.2.2.2.2.2.2.1, c.2.2.2.2.2.2.2.2.1, c.2.2.2.2.2.2.2.2.2.1, c.2.2.2.2.2.2.2.2.2.2.1, c.2.2.2.2.2.2.2.2.2.2.2.1, c.2.2.2.2.2.2.2.2.2.2.2.2.1, c.2.2.2.2.2.2.2.2.2.2.2.2.2.1, c.2.2.2.2.2.2.2.2.2.2.2.2.2.2.1, c.2.2.2.2.2.2.2.2.2.2.2.2.2.2.2.1, v, c.2.2.2.2.2.2.2.2.2.2.2.2.2.2.2.2.2)
def M_s_un (c : MR) (v : Int32) : MR := (c.1, c.2.1, c.2.2.1, c.2.2.2.1, c.2.2.2.2.1, c.2.2.2.2.2.1, c.2.2.2.2.2.2.1, c.2.2.2.2.2.2.2.1, c.2.2.2.2.2.2.2.2.1, c.2.2.2.2.2.2.2.2.2.1, c.2.2.2.2.2.2.2.2.2.2.1, c.2.2.2.2.2.2.2.2.2.2.2.1, c.2.2.2.2.2.2.2.2.2.2.2.2.1, c.2.2.2.2.2.2.2.2.2.2.2.2.2.1, c.2.2.2.2.2.2.2.2.2.2.2.2.2.2.1, c.2.2.2.2.2.2.2.2.2.2.2.2.2.2.2.1, c.2.2.2.2.2.2.2.2.2.2.2.2.2.2.2.2.1, v, c.2.2.2.2.2.2.2.2.2.2.2.2.2.2.2.2.2.2)
def M_s_ch (c : MR) (v : Int64) : MR := (c.1, c.2.1, c.2.2.1, c.2.2.2.1, c.2.2.2.2.1, c.2.2.2.2.2.1, c.2.2.2.2.2.2.1, c.2.2.2.2.2.2.2.1, c.2.2.2.2.2.2.2.2.1, c.2.2.2.2.2.2.2.2.2.1, c.2.2.2.2.2.2.2.2.2.2.1, c.2.2.2.2.2.2.2.2.2.2.2.1, c.2.2.2.2.2.2.2.2.2.2.2.2.1, c.2.2.2.2.2.2.2.2.2.2.2.2.2.1, c.2.2.2.2.2.2.2.2.2.2.2.2.2.2.1, c.2.2.2.2.2.2.2.2.2.2.2.2.2.2.2.1, c.2.2.2.2.2.2.2.2.2.2.2.2.2.2.2.2.1, c.2.2.2.2.2.2.2.2.2.2.2.2.2.2.2.2.2.1, v, c.2.2.2.2.2.2.2.2.2.2.2.2.2.2.2.2.2.2.2)
def M_s_lc (c : MR) (v : Int64) : MR := (c.1, c.2.1, c.2.2.1, c.2.2.2.1, c.2.2.2.2.1, c.2.2.2.2.2.1, c.2.2.2.2.2.2.1, c.2.2.2.2.2.2.2.1, c.2.2.2.2.2.2.2.2.1, c.2.2.2.2.2.2.2.2.2.1, c.2.2.2.2.2.2.2.2.2.2.1, c.2.2.2.2.2.2.2.2.2.2.2.1, c.2.2.2.2.2.2.2.2.2.2.2.2.1, c.2.2.2.2.2.2.2.2.2.2.2.2.2.1, c.2.2.2.2.2.2.2.2.2.2.2.2.2.2.1, c.2.2.2.2.2.2.2.2.2.2.2.2.2.2.2.1, c.2.2.2.2.2.2.2.2.2.2.2.2.2.2.2.2.1, c.2.2.2.2.2.2.2.2.2.2.2.2.2.2.2.2.2.1, c.2.2.2.2.2.2.2.2.2.2.2.2.2.2.2.2.2.2.1, v, c.2.2.2.2.2.2.2.2.2.2.2.2.2.2.2.2.2.2.2.2)
def M_s_ac (c : MR) (v : Int64) : MR := (c.1, c.2.1, c.2.2.1, c.2.2.2.1, c.2.2.2.2.1, c.2.2.2.2.2.1, c.2.2.2.2.2.2.1, c.2.2.2.2.2.2.2.1, c.2.2.2.2.2.2.2.2.1, c.2.2.2.2.2.2.2.2.2.1, c.2.2.2.2.2.2.2.2.2.2.1, c.2.2.2.2.2.2.2.2.2.2.2.1, c.2.2.2.2.2.2.2.2.2.2.2.2.1, c.2.2.2.2.2.2.2.2.2.2.2.2.2.1, c.2.2.2.2.2.2.2.2.2.2.2.2.2.2.1, c.2.2.2.2.2.2.2.2.2.2.2.2.2.2.2.1, c.2.2.2.2.2.2.2.2.2.2.2.2.2.2.2.2.1, c.2.2.2.2.2.2.2.2.2.2.2.2.2.2.2.2.2.1, c.2.2.2.2.2.2.2.2.2.2.2.2.2.2.2.2.2.2.1, c.2.2.2.2.2.2.2.2.2.2.2.2.2.2.2.2.2.2.2.1, v, c.2.2.2.2.2.2.2.2.2.2.2.2.2.2.2.2.2.2.2.2.2)
def M_s_bd (c : MR) (v : Int32) : MR := (c.1, c.2.1, c.2.2.1, c.2.2.2.1, c.2.2.2.2.1, c.2.2.2.2.2.1, c.2.2.2.2.2.2.1, c.2.2.2.2.2.2.2.1, c.2.2.2.2.2.2.2.2.1, c.2.2.2.2.2.2.2.2.2.1, c.2.2.2.2.2.2.2.2.2.2.1, c.2.2.2.2.2.2.2.2.2.2.2.1, c.2.2.2.2.2.2.2.2.2.2.2.2.1, c.2.2.2.2.2.2.2.2.2.2.2.2.2.1, c.2.2.2.2.2.2.2.2.2.2.2.2.2.2.1, c.2.2.2.2.2.2.2.2.2.2.2.2.2.2.2.1, c.2.2.2.2.2.2.2.2.2.2.2.2.2.2.2.2.1, c.2.2.2.2.2.2.2.2.2.2.2.2.2.2.2.2.2.1, c.2.2.2.2.2.2.2.2.2.2.2.2.2.2.2.2.2.2.1, c.2.2.2.2.2.2.2.2.2.2.2.2.2.2.2.2.2.2.2.1, c.2.2.2.2.2.2.2.2.2.2.2.2.2.2.2.2.2.2.2.2.1, v)
abbrev cM (rf : Nat → Nat) (c : MR) : va_E := .inr (5, [.int (M_cd c), .int (M_pt c), .ref (rf 0), .ref (rf 1), .ref (rf 2), .ref (rf 3), .ref (rf 4), .ref (rf 5), .ref (rf 6), .ref (rf 7), .int (M_mn c), .int (M_ev c), .ref (rf 8), .ref (rf 9), .ref (rf 10), .ref (rf 11), .ref (rf 12), .long (M_co c), .long (M_al c), .long (M_re c), .long (M_lo c), .long (M_rs c), .int (M_li c), .int (M_he c), .int (M_go c), .int (M_sp c), .long (M_ba c), .int (M_le c), .int (M_lf c), .int (M_mo c), .int (M_un c), .long (M_ch c), .long (M_lc c), .long (M_ac c), .ref (rf 13), .ref (rf 14), .int (M_bd c)])
abbrev TR : Type := (Nat → Int64) × (Nat → Int64) × (Nat → Int32) × (Nat → Int32) × (Nat → Int32) × (Nat → Int32) × (Nat → Int32) × (Nat → Int64) × (Nat → Int32) × (Nat → Int32) × (Nat → Int32) × (Nat → Int64) × (Nat → Int32) × (Nat → Int64) × (Nat → Int64)
def T_cs (c : TR) : Nat → Int64 := c.1
def T_rs (c : TR) : Nat → Int64 := c.2.1
def T_fi (c : TR) : Nat → Int32 := c.2.2.1
def T_li (c : TR) : Nat → Int32 := c.2.2.2.1
def T_me (c : TR) : Nat → Int32 := c.2.2.2.2.1
def T_ra (c : TR) : Nat → Int32 := c.2.2.2.2.2.1
def T_us (c : TR) : Nat → Int32 := c.2.2.2.2.2.2.1
def T_po (c : TR) : Nat → Int64 := c.2.2.2.2.2.2.2.1
def T_of (c : TR) : Nat → Int32 := c.2.2.2.2.2.2.2.2.1
def T_wh (c : TR) : Nat → Int32 := c.2.2.2.2.2.2.2.2.2.1
def T_ki (c : TR) : Nat → Int32 := c.2.2.2.2.2.2.2.2.2.2.1
def T_am (c : TR) : Nat → Int64 := c.2.2.2.2.2.2.2.2.2.2.2.1
def T_nu (c : TR) : Nat → Int32 := c.2.2.2.2.2.2.2.2.2.2.2.2.1
def T_bf (c : TR) : Nat → Int64 := c.2.2.2.2.2.2.2.2.2.2.2.2.2.1
def T_bh (c : TR) : Nat → Int64 := c.2.2.2.2.2.2.2.2.2.2.2.2.2.2
def T_s_cs (c : TR) (v : Nat → Int64) : TR := (v, c.2)
def T_s_rs (c : TR) (v : Nat → Int64) : TR := (c.1, v, c.2.2)
def T_s_fi (c : TR) (v : Nat → Int32) : TR := (c.1, c.2.1, v, c.2.2.2)
def T_s_li (c : TR) (v : Nat → Int32) : TR := (c.1, c.2.1, c.2.2.1, v, c.2.2.2.2)
def T_s_me (c : TR) (v : Nat → Int32) : TR := (c.1, c.2.1, c.2.2.1, c.2.2.2.1, v, c.2.2.2.2.2)
def T_s_ra (c : TR) (v : Nat → Int32) : TR := (c.1, c.2.1, c.2.2.1, c.2.2.2.1, c.2.2.2.2.1, v, c.2.2.2.2.2.2)
def T_s_us (c : TR) (v : Nat → Int32) : TR := (c.1, c.2.1, c.2.2.1, c.2.2.2.1, c.2.2.2.2.1, c.2.2.2.2.2.1, v, c.2.2.2.2.2.2.2)
def T_s_po (c : TR) (v : Nat → Int64) : TR := (c.1, c.2.1, c.2.2.1, c.2.2.2.1, c.2.2.2.2.1, c.2.2.2.2.2.1, c.2.2.2.2.2.2.1, v, c.2.2.2.2.2.2.2.2)
def T_s_of (c : TR) (v : Nat → Int32) : TR := (c.1, c.2.1, c.2.2.1, c.2.2.2.1, c.2.2.2.2.1, c.2.2.2.2.2.1, c.2.2.2.2.2.2.1, c.2.2.2.2.2.2.2.1, v, c.2.2.2.2.2.2.2.2.2)
def T_s_wh (c : TR) (v : Nat → Int32) : TR := (c.1, c.2.1, c.2.2.1, c.2.2.2.1, c.2.2.2.2.1, c.2.2.2.2.2.1, c.2.2.2.2.2.2.1, c.2.2.2.2.2.2.2.1, c.2.2.2.2.2.2.2.2.1, v, c.2.2.2.2.2.2.2.2.2.2)
def T_s_ki (c : TR) (v : Nat → Int32) : TR := (c.1, c.2.1, c.2.2.1, c.2.2.2.1, c.2.2.2.2.1, c.2.2.2.2.2.1, c.2.2.2.2.2.2.1, c.2.2.2.2.2.2.2.1, c.2.2.2.2.2.2.2.2.1, c.2.2.2.2.2.2.2.2.2.1, v, c.2.2.2.2.2.2.2.2.2.2.2)
def T_s_am (c : TR) (v : Nat → Int64) : TR := (c.1, c.2.1, c.2.2.1, c.2.2.2.1, c.2.2.2.2.1, c.2.2.2.2.2.1, c.2.2.2.2.2.2.1, c.2.2.2.2.2.2.2.1, c.2.2.2.2.2.2.2.2.1, c.2.2.2.2.2.2.2.2.2.1, c.2.2.2.2.2.2.2.2.2.2.1, v, c.2.2.2.2.2.2.2.2.2.2.2.2)
def T_s_nu (c : TR) (v : Nat → Int32) : TR := (c.1, c.2.1, c.2.2.1, c.2.2.2.1, c.2.2.2.2.1, c.2.2.2.2.2.1, c.2.2.2.2.2.2.1, c.2.2.2.2.2.2.2.1, c.2.2.2.2.2.2.2.2.1, c.2.2.2.2.2.2.2.2.2.1, c.2.2.2.2.2.2.2.2.2.2.1, c.2.2.2.2.2.2.2.2.2.2.2.1, v, c.2.2.2.2.2.2.2.2.2.2.2.2.2)
def T_s_bf (c : TR) (v : Nat → Int64) : TR := (c.1, c.2.1, c.2.2.1, c.2.2.2.1, c.2.2.2.2.1, c.2.2.2.2.2.1, c.2.2.2.2.2.2.1, c.2.2.2.2.2.2.2.1, c.2.2.2.2.2.2.2.2.1, c.2.2.2.2.2.2.2.2.2.1, c.2.2.2.2.2.2.2.2.2.2.1, c.2.2.2.2.2.2.2.2.2.2.2.1, c.2.2.2.2.2.2.2.2.2.2.2.2.1, v, c.2.2.2.2.2.2.2.2.2.2.2.2.2.2)
def T_s_bh (c : TR) (v : Nat → Int64) : TR := (c.1, c.2.1, c.2.2.1, c.2.2.2.1, c.2.2.2.2.1, c.2.2.2.2.2.1, c.2.2.2.2.2.2.1, c.2.2.2.2.2.2.2.1, c.2.2.2.2.2.2.2.2.1, c.2.2.2.2.2.2.2.2.2.1, c.2.2.2.2.2.2.2.2.2.2.1, c.2.2.2.2.2.2.2.2.2.2.2.1, c.2.2.2.2.2.2.2.2.2.2.2.2.1, c.2.2.2.2.2.2.2.2.2.2.2.2.2.1, v)
/-- the reference and its rows -/
def mX (G : pw_G) (m : Nat) (rf : Nat → Nat) (c : MR) (T : TR) : va_W := [(m, cM rf c), (rf 0, .inl (G.2.2.1, 6, .inr (.inl (T_cs T)))), (rf 1, .inl (G.2.2.1, 6, .inr (.inl (T_rs T)))), (rf 2, .inl (G.2.1, 6, .inl (T_fi T))), (rf 3, .inl (G.2.1, 6, .inl (T_li T))), (rf 4, .inl (G.2.1, 6, .inl (T_me T))), (rf 5, .inl (G.2.1, 6, .inl (T_ra T))), (rf 6, .inl (G.2.1, 216, .inl (T_us T))), (rf 7, .inl (G.2.2.1, 216, .inr (.inl (T_po T)))), (rf 8, .inl (G.2.1, 40, .inl (T_of T))), (rf 9, .inl (G.2.1, 40, .inl (T_wh T))), (rf 10, .inl (G.2.1, 40, .inl (T_ki T))), (rf 11, .inl (G.2.2.1, 40, .inr (.inl (T_am T)))), (rf 12, .inl (G.2.1, 40, .inl (T_nu T))), (rf 13, .inl (G.2.2.1, 36, .inr (.inl (T_bf T)))), (rf 14, .inl (G.2.2.1, 36, .inr (.inl (T_bh T))))]
/-- the component: itself, its two rows, its two courses with their stretches -/
def aX (G : pw_G) (x : Nat) (rf : Nat → Nat) (ar : AR) (pr er : Nat → Option Nat) (cf : CR) (tf : SR) (cb : CR) (tb : SR) : va_W := [(x, cA rf ar), (rf 0, .inl (G.2.2.2.2, 6, .inr (.inr (.inr (.inr pr))))), (rf 1, .inl (G.2.2.2.1, 40, .inr (.inr (.inr (.inr er))))), (rf 2, cC (rf 4) cf), (rf 4, cS tf), (rf 3, cC (rf 5) cb), (rf 5, cS tb)]
/-- a part in the pool, with its rows; the events that its row names -/
def pA (G : pw_G) (L : List Nat) (F : Nat → va_E) (p u w q : Nat) (pt : PR) (us : Nat → Int32) (es : Nat → Option Nat) (ps : Nat → Int64) (evf : Nat → ER) : Prop := (p ∈ L ∧ F p = cP u w q pt) ∧ (u ∈ L ∧ F u = .inl (G.2.1, 36, .inl us)) ∧ (w ∈ L ∧ F w = .inl (G.2.2.2.1, 36, .inr (.inr (.inr (.inr es))))) ∧ (q ∈ L ∧ F q = .inl (G.2.2.1, 36, .inr (.inl ps))) ∧ ∀ i, i < 36 → ∀ a, es i = some a → a ∈ L ∧ F a = cE (evf a)
def jmin (x y : Int64) : Int64 := if y < x then y else x
def jmax (x y : Int64) : Int64 := if y < x then x else y
theorem zb_n {x : Int32} (h : x = 0 ∨ x = 1) : narrow .boolean (.int x) = .int x := by rcases h with rfl | rfl <;> rfl
theorem zb_f {x : Int32} (h : x = 0 ∨ x = 1) : fits .boolean (.int x) = true := by rcases h with rfl | rfl <;> rfl
theorem sw_ne {x : Int32} (k : Nat) (hk : k < 2 ^ 31) (h : ¬ x = nI k) : ¬ x.toInt = k := fun e => h (Int32.toInt_inj.mp (by rw [e, nI_toInt hk]))
theorem sw_3 {x : Int32} (h0 : ¬ x = 0) (h1 : ¬ x = 1) (h2 : ¬ x = 2) (h3 : ¬ x = 3) : x.toInt < 0 ∨ 3 < x.toInt := by
  have a0 := sw_ne 0 (by decide) h0; have a1 := sw_ne 1 (by decide) h1; have a2 := sw_ne 2 (by decide) h2; have a3 := sw_ne 3 (by decide) h3
  omega
theorem sw_5 {x : Int32} (h0 : ¬ x = 0) (h1 : ¬ x = 1) (h2 : ¬ x = 2) (h3 : ¬ x = 3) (h4 : ¬ x = 4) (h5 : ¬ x = 5) : x.toInt < 0 ∨ 5 < x.toInt := by
  have a0 := sw_ne 0 (by decide) h0; have a1 := sw_ne 1 (by decide) h1; have a2 := sw_ne 2 (by decide) h2; have a3 := sw_ne 3 (by decide) h3; have a4 := sw_ne 4 (by decide) h4; have a5 := sw_ne 5 (by decide) h5
  omega
theorem sw_6 {x : Int32} (h0 : ¬ x = 0) (h1 : ¬ x = 1) (h2 : ¬ x = 2) (h3 : ¬ x = 3) (h4 : ¬ x = 4) (h5 : ¬ x = 5) (h6 : ¬ x = 6) : x.toInt < 0 ∨ 6 < x.toInt := by
  have a0 := sw_ne 0 (by decide) h0; have a1 := sw_ne 1 (by decide) h1; have a2 := sw_ne 2 (by decide) h2; have a3 := sw_ne 3 (by decide) h3; have a4 := sw_ne 4 (by decide) h4; have a5 := sw_ne 5 (by decide) h5; have a6 := sw_ne 6 (by decide) h6
  omega
theorem sw_7 {x : Int32} (h0 : ¬ x = 0) (h1 : ¬ x = 1) (h2 : ¬ x = 2) (h3 : ¬ x = 3) (h4 : ¬ x = 4) (h5 : ¬ x = 5) (h6 : ¬ x = 6) (h7 : ¬ x = 7) : x.toInt < 0 ∨ 7 < x.toInt := by
  have a0 := sw_ne 0 (by decide) h0; have a1 := sw_ne 1 (by decide) h1; have a2 := sw_ne 2 (by decide) h2; have a3 := sw_ne 3 (by decide) h3; have a4 := sw_ne 4 (by decide) h4; have a5 := sw_ne 5 (by decide) h5; have a6 := sw_ne 6 (by decide) h6; have a7 := sw_ne 7 (by decide) h7
  omega
theorem sw_look0_2 {x : Int32} (h0 : ¬ x = 0) (h2 : ¬ x = 2) : Op.lookupswitch.offset [(0, 27), (2, 44)] 80 x.toInt = 80 := by
  have a0 := sw_ne 0 (by decide) h0; have a2 := sw_ne 2 (by decide) h2
  simp [Op.lookupswitch.offset]
  omega
theorem ld_pos {y : Int64} (h : ¬ y ≤ 0) : ¬ ((2) * y) = 0 := by
  intro e
  have h1 : 0 < y.toInt := by
    rw [Int64.le_iff_toInt_le] at h
    have h0 : (0 : Int64).toInt = 0 := rfl
    omega
  have h2 : (2 * y).toInt = 0 := by rw [e]; rfl
  rw [Int64.toInt_mul] at h2
  have h3 := y.toInt_lt
  have h4 : (2 : Int64).toInt = 2 := rfl
  rw [h4] at h2
  rw [Int.bmod_def] at h2
  omega
