/** The bound of 30 LEAVES: 29 and 30 are as wanted, 31 are WRONG at the first TOKEN. */
public final class LeavesEdgesTest {
    // 5, 10 and 25 LEAVES
    private static final String TYPES = "type a=int*bool*int*int->bool;type b=a*a;type c=a->b->b;";
    private static final String VALUES = "val a=(1,(true,(1,(2,3))));val b=(a,a);val c=(a,(b,b));";

    public static void main(String[] args) {
        ofATypeAsWritten();
        typesInOtherPlaces();
        innermostFirst();
        ofAFunction();
        ofAPair();
        whatIsNoPairOrFunction();
        ofAnOfferByAnArgument();
        secretsAreLeaves();
        largerThanThatInMatching();
        Bench.end();
    }

    private static void ofATypeAsWritten() {
        Bench b = new Bench();
        for (String sign : new String[] {"*", "->"}) {
            b.good(TYPES + "type t=c" + sign + "int*int*int*bool;", 4).look(1, "t", 29);
            b.good(TYPES + "type t=c" + sign + "a;", 4).look(1, "t", 30);
            b.wrong(TYPES + "type t=^c" + sign + "a*int;");
            b.wrong(TYPES + "type t=^c" + sign + "a->int;");
        }
        b.good("type t=" + "int*".repeat(28) + "int;", 1).look(1, "t", 29);
        b.good("type t=" + "int*".repeat(29) + "int;", 1).look(1, "t", 30);
        b.wrong("type t=^" + "int*".repeat(30) + "int;");
        b.wrong("type t=^" + "int*".repeat(50) + "int;");
        b.wrong(TYPES + "type t=^(c*a)*int;");
        b.wrong(TYPES + "type t= ^c*c*c*c*c*c*c*c*c*c;");
    }

    private static void typesInOtherPlaces() {
        Bench b = new Bench();
        b.good(TYPES + "sig S={val x:c*a;type t=c*a;};", 4);
        b.wrong(TYPES + "sig S={val x:^c*a*int;};");
        b.wrong(TYPES + "sig S={type t=^c*a*int;};");
        b.wrong(TYPES + "sig S={mod A:{val x:^c*b;};};");
        b.wrong(TYPES + "mod A={type t=^c*b;};");
        b.wrong(TYPES + "val f=\\x:^c*b.1;");
        b.good(TYPES + "mod A={type u=c;};type t=A.u*a;", 5).look(1, "t", 30);
        b.wrong(TYPES + "mod A={type u=c;};type t=^A.u*b;");
    }

    private static void innermostFirst() {
        Bench b = new Bench();
        b.wrong(TYPES + "type t=int->^c*b;");
        b.wrong(TYPES + "type t=int*(^c*b);");
        b.wrong(TYPES + "type t=int*(int->(^c*b));");
        b.wrong(TYPES + "type t=(^c*b)->c*c;");
        // what is not known in a part comes before the whole
        b.wrong(TYPES + "type t=c*c*^d;");
        b.wrong(TYPES + "type t=c*c->^d;");
        b.wrong(TYPES + "val f=\\x:c.(x,(x,^y));");
    }

    private static void ofAFunction() {
        Bench b = new Bench();
        b.good(TYPES + "val f=\\x:c.(1,(2,(3,4)));", 4).look(0, "f", 29);
        b.good(TYPES + "val f=\\x:c.(1,(2,(3,(4,5))));", 4).look(0, "f", 30);
        b.wrong(TYPES + "val f=^\\x:c.(1,(2,(3,(4,(5,6)))));");
        b.good(TYPES + "val f=\\x:c*int.\\y:int.(1,(2,3));", 4).look(0, "f", 30);
        b.wrong(TYPES + "val f=^\\x:c*int.\\y:int.(1,(2,(3,4)));");
        b.wrong(TYPES + "val f=\\y:int.^\\x:c.(1,(2,(3,(4,(5,6)))));");
        b.wrong(TYPES + "val f=1+(^\\x:c.\\y:b.1)2;");
        b.wrong(TYPES + "val f=if true then ^\\x:c.\\y:b.1 else 1;");
    }

    private static void ofAPair() {
        Bench b = new Bench();
        b.good(VALUES + "val x=(c,(1,(2,(3,4))));", 4).look(0, "x", 29);
        b.good(VALUES + "val x=(c,a);", 4).look(0, "x", 30);
        b.wrong(VALUES + "val x=^(c,(a,1));");
        b.wrong(VALUES + "val x=fst^(c,b);");
        b.wrong(VALUES + "val x=1+fst snd ^(c,b);");
        b.wrong(VALUES + "val x=(1,^(c,b));");
        b.wrong(VALUES + "val f=\\x:int.1;val x=f ^(c,b);");
        b.wrong(VALUES + "val x=((^(c,b)));");
        b.wrong(VALUES + "mod A={val x=if true then 1 else snd ^(b,c);};");
        // both in one: the pair is looked at before the function that it is in
        b.wrong(VALUES + "val f=\\x:int.^(c,b);");
    }

    private static void whatIsNoPairOrFunction() {
        Bench b = new Bench();
        // as many as there may be go through NAMES, if, calls, fst and snd
        b.good(VALUES + "val x=(c,a);val y=if true then x else x;val z=(y);", 6).look(0, "y", 30).look(0, "z", 30);
        b.good(VALUES + "val f=\\x:int.(c,(1,(2,(3,4))));val y=f 1;val z=snd(1,f 2);", 6).look(0, "f", 30).look(0, "y", 29).look(0, "z", 29);
        b.wrong(VALUES + "val f=\\x:int.(c,(1,(2,(3,4))));val z=snd^(1,f);");
        b.good(VALUES + "mod A={val x=(c,a);};val y=A.x;", 5).look(0, "y", 30);
    }

    private static void ofAnOfferByAnArgument() {
        Bench b = new Bench();
        String f = "sig S={type t;};mod F=fun(X:S){type u=X.t*X.t*X.t*X.t*X.t;};";
        b.good(f + "mod A={type t=int*int*int*int*int*int;};mod B=F(A);", 4).look(1, "B.u", 30);
        b.wrong(f + "mod A={type t=int*int*int*int*int*int*int;};mod B=^F(A);");
        String g = "sig S={type t;};mod F=fun(X:S){val f=\\x:X.t*X.t*X.t*X.t.1;};";
        b.good(g + "mod A={type t=int*int*int*int*int*int*int;};mod B=F(A);", 4).look(0, "B.f", 29);
        b.wrong(g + "mod A={type t=int*int*int*int*int*int*int*int;};mod B=^F(A);");
        // deep in it: in a MODULE, in the argument and in the result of a FUNCTOR
        b.wrong("sig S={type t;};mod F=fun(X:S){mod A={mod B={type u=X.t*X.t*X.t*X.t;};};};mod A={type t=int*int*int*int*int*int*int*int;};"
                + "mod B=  ^F(A);");
        b.wrong("sig S={type t;};mod F=fun(X:S)fun(Y:{val x:X.t*X.t*X.t*X.t;}){};mod A={type t=int*int*int*int*int*int*int*int;};mod B=^F(A);");
        b.wrong("sig S={type t;};mod F=fun(X:S)fun(Y:S){type u=X.t*X.t*X.t*Y.t;};mod A={type t=int*int*int*int*int*int*int*int*int*int;};"
                + "mod B=^F(A);");
        b.good("sig S={type t;};mod F=fun(X:S)fun(Y:S){type u=X.t*X.t*X.t;};mod A={type t=int*int*int*int*int*int*int*int*int*int;};"
                + "mod B=F(A);", 4).look(2, "B", -1);
        // at the first TOKEN of a PLAIN, which can be that of a longer PATH
        b.wrong("mod H={mod F=fun(X:{type t;}){type u=X.t*X.t*X.t;};};mod A={type t=int*int*int*int*int*int*int*int*int*int*int;};"
                + "mod B={val x=1;mod C=^H.F(A):>{};};");
    }

    private static void secretsAreLeaves() {
        Bench b = new Bench();
        String ten = "t*t*t*t*t*t*t*t*t*t";
        b.good("sig S={type t;val x:" + ten + "->" + ten + "->" + ten + ";};", 1);
        b.wrong("sig S={type t;val x:^t*" + ten + "->" + ten + "->" + ten + ";};");
        // a SECRET is one, whatever it was made of
        b.good("mod A={type t=" + "int*".repeat(29) + "int;}:>{type t;};type u=A.t*int;", 2).look(1, "u", 2).told("(#0*int)");
    }

    private static void largerThanThatInMatching() {
        Bench b = new Bench();
        // no OFFER as written has so many: they are not the same, or are, but nothing is WRONG by itself
        b.good("sig S={type t;type u=t*t*t*t*t*t;val x:u;};mod A={type t=int*int*int*int*int*int;type u=int;val x=1;};", 2);
        b.matches("A", 'S', false);
        b.wrong("sig S={type t;val x:t*t*t*t*t*t;};mod A={type t=int*int*int*int*int*int;val x=1;}^:>S;");
    }
}
