/** Promises 4 and 5: LEAVES, COMPONENTS and SECRETS at their limits. The mark ^ stands before the TOKEN that is due. */
public final class LimitsTest {
    private static final String FIFTEEN = "type a=int*bool*int;type b=a*a*a*a*a;";

    public static void main(String[] args) {
        leavesOfTypes();
        leavesOfExprs();
        leavesOfOffers();
        components();
        secrets();
        manyFunctors();
        Bench.end();
    }

    private static void leavesOfTypes() {
        Bench b = new Bench();
        b.good(FIFTEEN + "type c=b*b;", 3).look(1, "c", 30);
        b.good(FIFTEEN + "type c=b->b;", 3).look(1, "c", 30);
        b.wrong(FIFTEEN + "type c=^b*b*int;");
        b.wrong(FIFTEEN + "type c=^b*b->int;");
        b.wrong(FIFTEEN + "type c=^int->b*b;");
        b.wrong(FIFTEEN + "type c=int->^b*b*a;");
        b.wrong(FIFTEEN + "type c=int*(^b*b*a);");
        b.wrong(FIFTEEN + "type c=^(b*b)*a;");
        b.wrong(FIFTEEN + "sig S={type t;val x:^t*b*b;};");
        b.wrong(FIFTEEN + "val f=\\x:^b*b*b.1;");
        // a TYPE that follows is a part, and comes first
        b.wrong(FIFTEEN + "type c=b*b*b->^d;");
        b.wrong("type t=^" + "int*".repeat(50) + "int;");
    }

    private static void leavesOfExprs() {
        Bench b = new Bench();
        String x = "val x=((1,2),(3,4));val y=((x,x),(x,(1,2)));";
        b.good(x + "val z=(y,(y,(1,2)));", 3).look(0, "z", 30);
        b.wrong(x + "val z=^(y,(y,(x,1)));");
        b.wrong(x + "val z=1+fst^(y,(y,x));");
        b.wrong(x + "val z=(1,^(y,(y,x)));");
        b.good(FIFTEEN + "val f=\\x:b.x;", 3).look(0, "f", 30);
        b.wrong(FIFTEEN + "val f=^\\x:b.(x,1);");
        b.wrong(FIFTEEN + "val f=\\x:int.^\\x:b.(x,1);");
        b.wrong(FIFTEEN + "val f=^\\x:b.\\y:int.x;");
    }

    private static void leavesOfOffers() {
        Bench b = new Bench();
        String f = "sig S={type t;};mod F=fun(X:S){mod A={type t=X.t*X.t*X.t*X.t;};};mod A={type t=int*int*int;};";
        b.good(f + "mod B=F(A);", 4).look(1, "B.A.t", 12);
        b.wrong(f + "mod B=F(A);mod C=^F(B.A);");
        b.wrong("sig S={type t;};mod F=fun(X:S)fun(Y:{val x:X.t*X.t*X.t*X.t;}){};mod A={type t=int*int*int*int*int*int*int*int;};"
                + "mod B=^F(A);");
        b.wrong("sig S={type t;};mod H={mod F=fun(X:S){val x=\\x:X.t*X.t.1;};mod A={type t=int*int*int*int*int*int*int*int;};"
                + "mod B={type t=A.t*A.t;};};mod B={mod C=^H.F(H.B);};");
    }

    private static void components() {
        Bench b = new Bench();
        // 2, 6, 14, 30, 62
        String two = "mod A={val x=1;type t=int;};";
        String twice = "mod A={mod A=A;mod B=A;};";
        b.good(two + twice + twice + twice, 4).look(2, "A", 2);
        b.wrong(two + twice + twice + twice + "mod A=^{mod A=A;mod B=A;};");
        b.good(two + twice + twice + "mod B={mod A=A;mod B=A;mod C=A;mod D=A;};", 4).look(2, "B", 4);
        b.wrong(two + twice + twice + "mod B=^{mod A=A;mod B=A;mod C=A;mod D=A;val x=1;};");
        // those that others hide do not count
        b.good(two + twice + twice + "mod B={mod A=A;mod B=A;mod C=A;mod D=A;mod D=A;};", 4);
        // 3, 9, 27
        String sign = "sig S={type t;val x:t;val y:t;};sig S={mod A:S;mod B:S;};sig S={mod A:S;mod B:S;mod C:S;};";
        b.good(sign + "mod F=fun(X:S)X;", 4);
        b.wrong(sign + "sig T=^{mod A:S;mod B:S;mod C:S;};");
        b.good(sign + "sig T={mod A:S;mod B:S;};", 4);
        b.good(sign + "sig T=fun(X:S)S;", 4);
        b.wrong(sign + "sig T=^fun(X:S)fun(X:S)S;");
        b.wrong(sign + "mod F=^fun(X:S)fun(X:S)X;");
        b.wrong(sign + "mod F={mod G=^fun(X:S)fun(X:S)X;};");
    }

    private static void secrets() {
        Bench b = new Bench();
        // 5, 30 and then 30 each
        String five = "sig S={type a;type b;type c;type d;type e;};sig S={mod A:S;mod B:S;mod C:S;mod D:S;mod E:S;};";
        b.good(five + "sig T=S;sig T=S;sig T=S;sig T=S;sig T=S;sig T=S;", 8).count(2, 180);
        b.wrong(five + "sig T=S;sig T=S;sig T=S;sig T=S;sig T=S;sig T=S;sig T=^S;");
        String all = five.replace("type d;type e;", "type d;").replace("mod D:S;mod E:S;", "mod D:S;");
        // 4, 20 and then 16 each: 196 with eleven more
        b.good(all + "sig T=S;".repeat(11), 13).count(2, 196);
        b.good(all + "sig T=S;".repeat(11) + "sig T={type a;type b;type c;type d;};", 14).count(2, 200);
        b.wrong(all + "sig T=S;".repeat(11) + "sig T={type a;type b;type c;type d;type ^e;};");
        b.wrong(all + "sig T=S;".repeat(11) + "mod F=fun(X:^S)X;");
        applications();
    }

    private static void applications() {
        Bench b = new Bench();
        // 4, 8 (12), 8 for X (20), 8 MADE (28), and 8 with each F(A)
        String made = "sig S={type a;type b;type c;type d;};sig T={mod A:S;mod B:S;};mod F=fun(X:T)X:>T;"
                + "mod G=fun(A:T){mod A=F(A);mod A=F(A);mod A=F(A);mod A=F(A);mod A=F(A);mod A=F(A);mod A=F(A);mod A=F(A);";
        b.good(made + "};", 4).count(2, 100);
        // 4, 16, 28, 64, 76, and 12 with each F(A)
        String more = "sig S={type a;type b;type c;type d;};sig S={mod A:S;mod B:S;mod C:S;};mod F=fun(X:S)X:>S:>S:>S;"
                + "mod G=fun(A:S){" + "mod A=F(A);".repeat(10);
        b.good(more + "};", 4).count(2, 196);
        b.wrong(more + "mod A=F^(A);};");
    }

    private static void manyFunctors() {
        Bench b = new Bench();
        // no COMPONENTS at all, but twice as many FUNCTORS each time
        b.good("sig S={};" + "sig S=fun(X:S)S;".repeat(12) + "mod F=fun(X:S)X:>S;", 14).count(2, 0).look(2, "F", -1);
        b.wrong("sig S={};" + "sig T=fun(X:S)S;sig S=fun(X:T)T;".repeat(5) + "mod F=fun(X:S)X^:>T;");
    }
}
