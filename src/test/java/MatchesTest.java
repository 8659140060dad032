/** Promise 8, matches. */
public final class MatchesTest {
    public static void main(String[] args) {
        structures();
        hidden();
        functors();
        sameOrigin();
        thrown();
        Bench.end();
    }

    private static void structures() {
        Bench b = new Bench().good("sig S={val x:int;};sig T={type t=int;mod B:S;};sig E={};mod A={type t=int;val x=1;mod B={val y=2;val x=3;};};"
                + "mod C={type t=bool;mod B=A;};mod D={val x=true;};mod F=fun(X:{})X;", 7);
        b.matches("A", 'S', true).matches("A", 'T', true).matches("A", 'E', true).matches("A.B", 'S', true);
        b.matches("C", 'S', false).matches("C", 'T', false).matches("C", 'E', true);
        b.matches("D", 'S', false).matches("D", 'E', true).matches("F", 'E', false).matches("F", 'S', false);
        // by sort as well as by NAME
        b.good("sig S={type x;};sig T={val x:int;};mod A={val x=1;};mod B={type x=int;};", 4);
        b.matches("A", 'S', false).matches("A", 'T', true).matches("B", 'S', true).matches("B", 'T', false);
    }

    private static void hidden() {
        Bench b = new Bench().good("sig S={type t;type u=t*t;val x:t;};mod A={type t=int;type u=int*int;val x=1;};"
                + "mod B={type t=int;type u=int*bool;val x=1;};mod C={type t=int;type u=t*t;val x=(1,1);};mod D=A:>S;", 5);
        b.matches("A", 'S', true).matches("B", 'S', false).matches("C", 'S', false).matches("D", 'S', true).count(2, 2);
        // what a SECRET stands for is looked for in MODULES, too, and the first place counts
        b.good("sig S={mod A:{type t;};type u=A.t;val x:u;};mod M={mod A={type t=int;};type u=int;val x=1;};"
                + "mod N={mod A={type t=bool;};type u=int;val x=1;};mod O={mod A=fun(X:{})X;type u=int;val x=1;};", 4);
        b.matches("M", 'S', true).matches("N", 'S', false).matches("O", 'S', false);
        b.good("sig S={type a;type b;val f:a->b;};mod A={type b=int;type a=bool;val f=\\x:bool.1;};mod B={type a=int;type b=int;val f=\\x:a.x;};"
                + "mod C={type a=int;type b=bool;val f=\\x:int.1;};", 4);
        b.matches("A", 'S', true).matches("B", 'S', true).matches("C", 'S', false);
        // more LEAVES than a TYPE may have are just not the same
        b.good("type t=int*int*int*int;sig S={type t;val x:t*t*t*t*t*t*t*t*t;};mod A={type t=t;val x=1;};", 3).matches("A", 'S', false);
    }

    private static void functors() {
        Bench b = new Bench().good("sig S={type t;};sig T=fun(X:S)S;sig U=fun(X:S){type t=X.t;};sig V=fun(X:{})S;sig W=fun(X:{type t=int;})S;"
                + "mod F=fun(X:S)X;mod G=fun(X:{}){type t=int;};mod H=fun(X:S)X:>S;mod I=fun(X:{type t=int;})X;", 9);
        b.matches("F", 'S', false).matches("F", 'T', true).matches("F", 'U', true).matches("F", 'V', false).matches("F", 'W', true);
        b.matches("G", 'T', true).matches("G", 'U', false).matches("G", 'V', true).matches("G", 'W', true);
        b.matches("H", 'T', true).matches("H", 'U', false).matches("H", 'V', false).matches("H", 'W', true);
        b.matches("I", 'T', false).matches("I", 'U', false).matches("I", 'V', false).matches("I", 'W', true);
        b.count(2, 9);
        // two levels, and a FUNCTOR that takes one
        b.good("sig S={type t;};sig T=fun(X:S)fun(Y:S){type t=X.t;};sig U=fun(X:S)fun(Y:S){type t=Y.t;};"
                + "mod F=fun(X:S)fun(Y:S)X;mod G=fun(X:S)fun(Y:S)Y;", 5);
        b.matches("F", 'T', true).matches("F", 'U', false).matches("G", 'T', false).matches("G", 'U', true);
        b.good("sig S={type t;};sig T=fun(F:fun(X:S)S)S;sig U=fun(F:fun(X:S){type t=X.t;})S;mod A={type t=int;};"
                + "mod G=fun(F:fun(X:S)S)F(A);mod H=fun(F:fun(X:S){type t=X.t;})F(A);", 6);
        b.matches("G", 'T', true).matches("G", 'U', true).matches("H", 'T', false).matches("H", 'U', true);
    }

    private static void sameOrigin() {
        Bench b = new Bench();
        // both sides bind the same SECRETS
        b.good("sig S={type t;};sig T=fun(X:S)S;mod F=fun(X:S)X;mod G=F:>T;mod H=G:>T;", 5);
        b.matches("G", 'T', true).matches("H", 'T', true).matches("F", 'T', true);
        // a FUNCTOR against one that its own argument has come from: X.N and N bind the same, but are not the same
        String w = "sig W={type s;mod N:fun(Y:{}){type u=s;};};";
        b.good(w + "sig V={type s;mod N:fun(Z:W){type u=Z.s;};};mod A={type s=int;mod N=fun(X:V){type u=X.s;};};", 3);
        b.matches("A", 'V', false);
        b.good(w + "sig V={type s;mod N:fun(Z:W){type u=s;};};mod A={type s=int;mod N=fun(X:V){type u=int;};};", 3);
        b.matches("A", 'V', true);
    }

    private static void thrown() {
        Bench b = new Bench().good("sig S={};mod A={mod B={};};mod S={};val x=1;", 4);
        b.matches("A", 'S', true).matches("A.B", 'S', true).matches("S", 'S', true);
        b.matches("A", 'A', "NoSuchElementException").matches("B", 'S', "NoSuchElementException");
        b.matches("A.A", 'S', "NoSuchElementException").matches("C", 'C', "NoSuchElementException");
        b.matches("A", '@', "IllegalArgumentException").matches("A", '[', "IllegalArgumentException");
        b.matches("A", 'a', "IllegalArgumentException").matches("x", 'S', "IllegalArgumentException");
        b.matches("", 'S', "IllegalArgumentException").matches("A.", 'S', "IllegalArgumentException");
        // the latest of each, and nothing is looked at by it
        b.good("sig S={};sig S={val x:int;};mod A={val x=1;};mod A={};", 4).matches("A", 'S', false);
        b.good("sig S={};val x=1;mod A={};", 3).value("x", 1, "int").matches("A", 'S', true).told("int");
    }
}
