/** Promises 4, 5 and 11: the PROGRAM that elaborate makes, its SECRETS, and the one that stays. */
public final class ElaborateTest {
    public static void main(String[] args) {
        counts();
        stays();
        secrets();
        structures();
        meanings();
        Bench.end();
    }

    private static void counts() {
        new Bench().good("", 0).count(1, 0).good("val x=1;val x=2;type t=int;sig S={};", 4).count(1, 4)
                .good("mod A={val x=1;val y=2;};", 1).count(1, 1).count(2, 0);
    }

    private static void stays() {
        Bench b = new Bench();
        b.noProgram("val x=1^");
        b.count(1, 0).look(0, "x", "IllegalStateException");
        b.wrong("val x=^y;");
        b.count(1, 0).look(0, "x", "IllegalStateException").run(5, "IllegalStateException", 0);

        b.good("sig S={type t;};mod A={type t=int;}:>S;val x=4+1;val y=true;", 4).run(500, 1, 3);
        b.type("A.t", 1, "#1");
        b.noProgram("sig S={type t;type u;};val x=^;");
        b.told("#1").count(1, 4).count(2, 2).count(3, 3).result("x", 5).type("A.t", 1, "#1");
        b.wrong("sig S={type t;type u;};sig T=S;val x=^z;");
        b.told("#1").count(1, 4).count(2, 2).count(3, 3).result("y", 1).matches("A", 'S', true);
        b.run(500, 1, 3).result("x", 5);

        // the new PROGRAM has not RUN yet, and SECRETS begin with 0 again
        b.good("sig S={type t;};mod A={type t=int;}:>S;val x=4;", 3).told("").count(2, 2).count(3, 0);
        b.result("x", "IllegalStateException").type("A.t", 1, "#1").look(0, "y", "NoSuchElementException");
        b.give("garbage").count(1, 3).type("A.t", 1, "#1");
    }

    private static void secrets() {
        Bench b = new Bench();
        b.good("sig S={type t;mod A:{type u;type v=t;};type w;};mod F=fun(X:S)X;", 2).count(2, 6);
        // what a FUNCTOR in a SIGN binds is not renewed with it
        b.good("sig S={type t;mod F:fun(X:{type t;}){type u;};type v;};mod G=fun(Y:S){type v=Y.v;};", 2).count(2, 6);
        b.good("sig T=fun(X:{type t;}){type u;};sig U=T;sig V=U;", 3).count(2, 2);
        // MADE are those that are free in the OFFER alone, by numbers
        b.good("sig S={type t;val x:t;};mod F=fun(Y:{}){mod A={type t=int;val x=1;}:>S;mod B={type t=int;val x=1;}:>S;val y=B.x;"
                + "mod A={};mod B={};};mod E={};mod C=F(E);mod D=F(E);", 5).count(2, 5);
        b.value("C.y", 1, "#3").value("D.y", 1, "#4");
        b.good("sig S={type t;};mod F=fun(X:S){mod A=X:>S;mod B=X:>S;type w=A.t*B.t;};mod I={type t=int;};mod C=F(I);", 4);
        b.type("C.w", 2, "(#4*#5)").type("C.A.t", 1, "#4").type("C.B.t", 1, "#5").count(2, 6);
        b.good("mod A={type t=int;}:>{type t;};mod B={type t=int;mod C={type u=t;}:>{type u;};};", 2);
        b.type("A.t", 1, "#0").type("B.C.u", 1, "#1").type("B.t", 1, "int");
    }

    private static void structures() {
        Bench b = new Bench();
        b.good("mod A={val x=1;type x=int;mod X={};sig X={};val x=true;val y=2;};", 1).look(2, "A", 4);
        b.value("A.x", 1, "bool").type("A.x", 1, "int").look(2, "A.X", 0);
        // a functor's result may tell of its argument
        b.good("mod F=fun(X:{type t;val x:t;}){val p=(X.x,X.x);mod Y=X;};mod A={type t=bool;val x=true;val y=1;};mod B=F(A);", 3);
        b.value("B.p", 2, "(bool*bool)").look(2, "B.Y", 2).look(0, "B.Y.y", "NoSuchElementException");
    }

    private static void meanings() {
        Bench b = new Bench();
        // FUNCTORS within FUNCTORS: each F(A) puts in what it knows
        b.good("mod F=fun(X:{type t;})fun(Y:{type u;}){type p=X.t*Y.u;};mod A={type t=int;};mod B={type u=bool;};"
                + "mod G=F(A);mod C=G(B);type v=C.p;", 6);
        b.type("v", 2, "(int*bool)");
        // a FUNCTOR as argument, called inside
        b.good("sig S={type t;};mod H=fun(F:fun(X:S)S){mod A={type t=int;};mod B=F(A);mod C=F(A);};"
                + "mod G=fun(X:S){type t=X.t*X.t;};mod K=H(G);", 4);
        b.look(2, "K", 3).type("K.A.t", 1, "int").type("K.B.t", 1, "#6").type("K.C.t", 1, "#7");
        b.good("sig S={type t;};mod H=fun(F:fun(X:S){type t=X.t;}){mod A={type t=int;};mod B=F(A);};"
                + "mod G=fun(X:S)X;mod K=H(G);", 4);
        b.type("K.B.t", 1, "int");
        // a SIGN is what it meant where it was bound
        b.good("type t=int;sig S={val x:t;};type t=bool;mod A={val x=1;}:>S;", 4).value("A.x", 1, "int");
        b.good("sig S={type t;};sig T={mod A:S;mod B:S;val f:A.t->B.t;};"
                + "mod M={mod A={type t=int;};mod B={type t=bool;};val f=\\x:int.x<1;}:>T;", 3);
        b.value("M.f", 2, "(#3->#4)").count(2, 5);
    }
}
