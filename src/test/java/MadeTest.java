/** Which SECRETS a FUNCTOR binds: MADE are those that came up in its MODULE and are free in its OFFER, by numbers. */
public final class MadeTest {
    // a MODULE T with a SECRET t and a VALUE of it
    private static final String HIDE = "mod T={type t=int;val x=1;}:>{type t;val x:t;};";

    public static void main(String[] args) {
        inPairsAndArrows();
        inModules();
        inFunctors();
        notThoseThatAreGone();
        notThoseOfOtherFunctors();
        notThoseFromOutside();
        justBehindAFunctor();
        byNumbers();
        parametersInTheirPlace();
        signsThatSpeakOfOthers();
        justBehindParameters();
        Bench.end();
    }

    /** F with such a row, and T no more in it, is applied twice: SECRETS of the first and of the second. */
    private static Bench twice(String row, int secrets) {
        return new Bench().good("mod E={};mod F=fun(Y:{}){" + HIDE + row + "mod T={};};mod A=F(E);mod B=F(E);", 4).count(2, secrets);
    }

    private static void inPairsAndArrows() {
        twice("val p=T.x;", 3).value("A.p", 1, "#1").value("B.p", 1, "#2");
        twice("val p=(1,T.x);", 3).value("A.p", 2, "(int*#1)").value("B.p", 2, "(int*#2)");
        twice("val p=(T.x,true);", 3).value("A.p", 2, "(#1*bool)").value("B.p", 2, "(#2*bool)");
        twice("type p=T.t->int;", 3).type("A.p", 2, "(#1->int)").type("B.p", 2, "(#2->int)");
        twice("type p=int->bool->T.t;", 3).type("A.p", 3, "(int->(bool->#1))").type("B.p", 3, "(int->(bool->#2))");
        twice("type p=int*(bool->(int->T.t))*int;", 3).type("B.p", 5, "((int*(bool->(int->#2)))*int)");
    }

    private static void inModules() {
        twice("mod M={val p=T.x;};", 3).value("A.M.p", 1, "#1").value("B.M.p", 1, "#2");
        twice("mod M={mod N={type p=T.t*int;};};", 3).type("A.M.N.p", 2, "(#1*int)").type("B.M.N.p", 2, "(#2*int)");
    }

    private static void inFunctors() {
        // in the result, and in the argument
        Bench b = new Bench().good("mod E={};mod F=fun(Y:{}){" + HIDE + "mod G=fun(X:{}){val p=T.x;};mod T={};};mod A=F(E);mod B=F(E);"
                + "mod G=A.G;mod H=B.G;mod C=G(E);mod D=H(E);mod I=G(E);", 9).count(2, 3);
        b.value("C.p", 1, "#1").value("D.p", 1, "#2").value("I.p", 1, "#1");
        String argument = "mod E={};mod F=fun(Y:{}){" + HIDE + "mod G=fun(X:{val x:T.t;})X;val x=T.x;mod T={};};mod A=F(E);mod B=F(E);mod G=A.G;";
        new Bench().good(argument + "mod C=G(A);", 6).count(2, 3).value("C.x", 1, "#1");
        new Bench().wrong(argument + "mod C=G^(B);");
        new Bench().good("mod E={};mod F=fun(Y:{}){" + HIDE + "mod G=fun(X:{val x:T.t;}){};mod T={};};mod A=F(E);", 3).count(2, 2);
    }

    private static void notThoseThatAreGone() {
        twice("val p=1;", 1).value("A.p", 1, "int");
        twice("mod M=T:>{};", 1).look(2, "A.M", 0);
        // what F binds is in a TYPE that was looked at shortly before, but is not free in what H offers
        new Bench().good("mod E={};mod H=fun(Z:{}){mod F=fun(Y:{}){" + HIDE + "val p=(1,T.x);mod T={};};mod A=F(E);val y=1;mod A={};mod F={};};mod B=H(E);", 3)
                .count(2, 2);
        // those that were free in another OFFER before are not free in this one for that
        new Bench().good("mod E={};mod F=fun(Y:{}){" + HIDE + "mod G=fun(X:{}){type u=T.t;};mod M=G(E);mod T={};mod G={};mod M={};};mod A=F(E);", 3)
                .count(2, 1);
    }

    private static void notThoseOfOtherFunctors() {
        // what G binds is made by G(E), not by F(E)
        Bench b = new Bench().good("mod E={};mod F=fun(Y:{}){mod G=fun(X:{}){type t=int;}:>{type t;};};mod A=F(E);mod B=F(E);mod G=A.G;mod H=B.G;"
                + "mod C=G(E);mod D=H(E);mod I=G(E);", 9).count(2, 4);
        b.type("C.t", 1, "#1").type("D.t", 1, "#2").type("I.t", 1, "#3");
        b.good("mod E={};mod F=fun(Y:{})fun(X:{type t;}){type u=X.t;};mod G=F(E);mod A={type t=int;};mod B=G(A);", 5).count(2, 1).type("B.u", 1, "int");
    }

    private static void notThoseFromOutside() {
        Bench b = new Bench().good(HIDE + "mod E={};mod F=fun(Y:{}){val p=T.x;};mod A=F(E);mod B=F(E);", 5).count(2, 1);
        b.value("A.p", 1, "#0").value("B.p", 1, "#0");
        // those that come up later are none of its own, either
        b.good("mod E={};mod F=fun(Y:{}){};" + HIDE + "mod A=F(E);", 4).count(2, 1).value("T.x", 1, "#0");
    }

    private static void justBehindAFunctor() {
        // T.t has the number behind those that G binds, and stands before G in the OFFER
        Bench b = new Bench().good("mod E={};mod F=fun(Y:{}){mod G=fun(X:{type t;})X;" + HIDE + "mod M={mod T=T;mod G=G;};mod G=G;mod T={};};"
                + "mod A=F(E);mod B=F(E);", 4).count(2, 4);
        b.value("A.M.T.x", 1, "#2").value("B.M.T.x", 1, "#3");
    }

    private static void byNumbers() {
        // the order in which they came up, not that in which they stand
        Bench b = new Bench().good("sig S={type t;};mod F=fun(X:S){mod A=X:>S;mod B=X:>S;mod C={type u=B.t;type v=A.t;};mod A={};mod B={};};"
                + "mod I={type t=int;};mod M=F(I);", 4).count(2, 6);
        b.type("M.C.v", 1, "#4").type("M.C.u", 1, "#5");
        // likewise those HIDDEN in a SIGN, which stand in the order in which they came up
        b.good("sig S={type a;mod M:{type b;type c;};type d;};mod I={type a=int;mod M={type b=a;type c=a;};type d=a;};mod J=I:>S;", 3).count(2, 8);
        b.type("J.a", 1, "#4").type("J.M.b", 1, "#5").type("J.M.c", 1, "#6").type("J.d", 1, "#7");
    }

    private static void parametersInTheirPlace() {
        Bench b = new Bench().good("mod F=fun(X:{type t;type u;}){type p=X.u*X.t;mod M={val f=\\x:X.t.x;};};mod A={type u=bool;type t=int*int;};mod B=F(A);", 3);
        b.type("B.p", 3, "(bool*(int*int))").value("B.M.f", 4, "((int*int)->(int*int))").count(2, 2);
        // what stands for a PARAMETER can be a SECRET, also one of those MADE before
        b.good("sig S={type t;};mod F=fun(X:S){type t=X.t*X.t;}:>S;mod A={type t=int;};mod A=F(A);mod A=F(A);type u=A.t;", 6).type("u", 1, "#4").count(2, 5);
        b.good("sig S={type t;};mod F=fun(X:S){mod N=X:>S;type p=X.t*N.t;type t=N.t;};mod A={type t=int;};mod A=F(A);mod A=F(A);", 5);
        b.type("A.p", 2, "(#3*#4)").type("A.t", 1, "#4");
    }

    private static void signsThatSpeakOfOthers() {
        // only the HIDDEN ones are new with each use
        Bench b = new Bench().good(HIDE + "sig S={type u;val y:T.t;val z:u;};mod B={type u=int;val y=T.x;val z=1;}:>S;mod C=B:>S;", 4).count(2, 4);
        b.value("B.y", 1, "#0").value("C.y", 1, "#0").value("B.z", 1, "#2").value("C.z", 1, "#3");
        b.matches("B", 'S', true).matches("C", 'S', true).matches("T", 'S', false);
        b.good(HIDE + "mod F=fun(X:{type u;val y:T.t;}){val z=X.y;};mod A={type u=int;val y=T.x;};mod B=F(A);", 4).value("B.z", 1, "#0");
    }

    private static void justBehindParameters() {
        // A.t has the number behind that of Y.u, and comes to stand in the argument beside it: it is no PARAMETER for that
        String g = "mod H=fun(X:{type t;})fun(Y:{type u;type v=X.t;}){type w=Y.u*Y.v;};mod A={type t=int;}:>{type t;};mod G=H(A);";
        new Bench().wrong(g + "mod B={type u=int;type v=bool;};mod C=G^(B);");
        new Bench().good(g + "mod B={type u=int;type v=A.t;};mod C=G(B);", 5).count(2, 3).type("C.w", 2, "(int*#2)");
        Bench b = new Bench().good("mod E={type t=int;}:>{type t;};" + g + "sig S=fun(Y:{type u;type v=E.t;}){};sig T=fun(Y:{type u;type v=A.t;}){};", 6);
        b.matches("G", 'S', false).matches("G", 'T', true);
    }
}
